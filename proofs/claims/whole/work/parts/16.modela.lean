abbrev wMd (md : Nat → Nat) (cI : ClassId) (th : Int32) (mK : Nat) (mc : Nat → Int32) (mD : Nat) (mr : Nat → Int32) (mw : Int32) (my : Int32) (mC : Nat) (mk : Nat → Int32) (ms : Nat → Int32) (mu : Nat → Int32) (mt : Nat → Int32) (mp : Nat → Int32) (mb : Nat → Int32) (me : Nat → Int32) : va_W := [(md 0, .inr (3, [.int th, .int (nI mK), .ref (md 1), .int (nI mD), .ref (md 2), .int mw, .int my, .int (nI mC), .ref (md 3), .ref (md 4), .ref (md 5), .ref (md 6), .ref (md 7), .ref (md 8), .ref (md 9)])), (md 1, .inl (cI, 8, .inl mc)), (md 2, .inl (cI, 8, .inl mr)), (md 3, .inl (cI, 24, .inl mk)), (md 4, .inl (cI, 24, .inl ms)), (md 5, .inl (cI, 24, .inl mu)), (md 6, .inl (cI, 24, .inl mt)), (md 7, .inl (cI, 216, .inl mp)), (md 8, .inl (cI, 216, .inl mb)), (md 9, .inl (cI, 216, .inl me))]
abbrev wMdX (md : Nat → Nat) (cI : ClassId) (th : Int32) (mK : Nat) (mc : Nat → Int32) (mD : Nat) (mr : Nat → Int32) (mw : Int32) (my : Int32) (mC : Nat) (mk : Nat → Int32) (ms : Nat → Int32) (mu : Nat → Int32) (mt : Nat → Int32) (mp : Nat → Int32) (mb : Nat → Int32) (me : Nat → Int32) (qx : Nat) (xn : Nat) (xf : Nat → Int32) : va_W := [(md 0, .inr (3, [.int th, .int (nI mK), .ref (md 1), .int (nI mD), .ref (md 2), .int mw, .int my, .int (nI mC), .ref (md 3), .ref (md 4), .ref (md 5), .ref (md 6), .ref (md 7), .ref (md 8), .ref (md 9)])), (md 1, .inl (cI, 8, .inl mc)), (md 2, .inl (cI, 8, .inl mr)), (md 3, .inl (cI, 24, .inl mk)), (md 4, .inl (cI, 24, .inl ms)), (md 5, .inl (cI, 24, .inl mu)), (md 6, .inl (cI, 24, .inl mt)), (md 7, .inl (cI, 216, .inl mp)), (md 8, .inl (cI, 216, .inl mb)), (md 9, .inl (cI, 216, .inl me)), (qx, .inl (cI, xn, .inl xf))]
set_option maxHeartbeats 4000000 in
set_option maxRecDepth 100000 in
theorem c_X3_thrown (l : Launch) (D : va_G) (md : Nat → Nat) (cI : ClassId) (th : Int32) (mK : Nat) (mc : Nat → Int32) (mD : Nat) (mr : Nat → Int32) (mw : Int32) (my : Int32) (mC : Nat) (mk : Nat → Int32) (ms : Nat → Int32) (mu : Nat → Int32) (mt : Nat → Int32) (mp : Nat → Int32) (mb : Nat → Int32) (me : Nat → Int32)  : Met l yX3_thrown wsX3_thrown ({ frames := 0, cells := 0, slots := 0, locals := 0 } : Room) (rdP [.ref (md 0)] D (wMd md cI th mK mc mD mr mw my mC mk ms mu mt mp mb me) [(cI, .int)]) (vp_Si (fun rZ => rZ = th)) 0 0 (fun _ => False) := by
  refine Met.ofW (cc := cX3_thrown) (maxL := 1) (ret := (some .int)) (by decide) rfl ?_
  intro p e s m args below meth c s₁ B hml hv
  obtain ⟨rfl, hP, hK⟩ := hv
  have hx := B.exec
  have hb := B.bytes
  have hr := B.returns
  have hts := atoms_spec (ws := wsX3_thrown) B.pre
  have hown : s.vm.findClass RX3 = some m.cls := findClass_of_methodNamed B.named
  have hlocks := B.notSynchronized
  have hS : va_S (fun _ => False) s.heap s.heap [] := va_S.rf
  have hinX3 : ∀ w ∈ u_ws RX3 TX3 15, w ∈ wsX3_thrown := by decide +kernel
  have hf37 := hts (.fieldLink RX3 37 "KeyCabinetModel" "thrown" "I") (by decide +kernel)
  have hl := lv_entry ([.ref (md 0)]) (n := 1) (Nat.le_of_ble_eq_true rfl)
  rw [lg_entry_eq]
  generalize (lg_sl ([.ref (md 0)]) ++ List.replicate (1 - (lg_sl ([.ref (md 0)])).length) Slot.unset).toArray = ls at hl ⊢
  have hl : lv_has ls 1 [(0, .ref (md 0))] := hl
  refine lv_aload_n hx hb dX3_thrown_0 rfl (lv_at hl 0 rfl) ?_
  refine va_get (D := D) (ci := 3) (v := .int th) (C := RX3) (T := TX3) (N := 15) hx hb hts hinX3 hown hK.1 hP 0 rfl rfl 0 (by decide) hf37 (fun _ h9 => h9) rfl dX3_thrown_1 ?_
  exact W.iret (v := th) hx hb hr (fun tZ htZ hWZ => ⟨_, rfl, rfl, htZ⟩) hS.2.2 dX3_thrown_4
set_option maxHeartbeats 4000000 in
set_option maxRecDepth 100000 in
theorem c_X3_isKey (l : Launch) (D : va_G) (md : Nat → Nat) (cI : ClassId) (th : Int32) (mK : Nat) (mc : Nat → Int32) (mD : Nat) (mr : Nat → Int32) (mw : Int32) (my : Int32) (mC : Nat) (mk : Nat → Int32) (ms : Nat → Int32) (mu : Nat → Int32) (mt : Nat → Int32) (mp : Nat → Int32) (mb : Nat → Int32) (me : Nat → Int32) (x : Int32)  : Met l yX3_isKey wsX3_isKey ({ frames := 0, cells := 0, slots := 0, locals := 0 } : Room) (rdP [.ref (md 0), .int x] D (wMd md cI th mK mc mD mr mw my mC mk ms mu mt mp mb me) [(cI, .int)]) (vp_Si (fun rZ => rZ = bI (jIn mK x))) 0 0 (fun _ => False) := by
  refine Met.ofW (cc := cX3_isKey) (maxL := 2) (ret := (some .boolean)) (by decide) rfl ?_
  intro p e s m args below meth c s₁ B hml hv
  obtain ⟨rfl, hP, hK⟩ := hv
  have hx := B.exec
  have hb := B.bytes
  have hr := B.returns
  have hts := atoms_spec (ws := wsX3_isKey) B.pre
  have hown : s.vm.findClass RX3 = some m.cls := findClass_of_methodNamed B.named
  have hlocks := B.notSynchronized
  have hS : va_S (fun _ => False) s.heap s.heap [] := va_S.rf
  have hinX3 : ∀ w ∈ u_ws RX3 TX3 15, w ∈ wsX3_isKey := by decide +kernel
  have hf41 := hts (.fieldLink RX3 41 "KeyCabinetModel" "keys" "I") (by decide +kernel)
  have hl := lv_entry ([.ref (md 0), .int x]) (n := 2) (Nat.le_of_ble_eq_true rfl)
  rw [lg_entry_eq]
  generalize (lg_sl ([.ref (md 0), .int x]) ++ List.replicate (2 - (lg_sl ([.ref (md 0), .int x])).length) Slot.unset).toArray = ls at hl ⊢
  have hl : lv_has ls 2 [(0, .ref (md 0)), (1, .int x)] := hl
  refine lv_iload_n hx hb dX3_isKey_0 rfl (lv_at hl 1 rfl) ?_
  refine lv_if_lt (tgt := 16) hx hb dX3_isKey_1 (by decide) (fun c_1 => ?_) (fun c_1 => ?_)
  · refine lv_iconst (v := 0) hx hb dX3_isKey_16 (by decide) ?_
    exact W.zret (v := 0) hx hb hr rfl (fun tZ htZ hWZ => ⟨_, rfl, (bI_n (fun h => h.1 c_1)).symm, htZ⟩) hS.2.2 dX3_isKey_17
  · refine lv_iload_n hx hb dX3_isKey_4 rfl (lv_at hl 1 rfl) ?_
    refine lv_aload_n hx hb dX3_isKey_5 rfl (lv_at hl 0 rfl) ?_
    refine va_get (D := D) (ci := 3) (v := .int (nI mK)) (C := RX3) (T := TX3) (N := 15) hx hb hts hinX3 hown hK.1 hP 0 rfl rfl 1 (by decide) hf41 (fun _ h9 => h9) rfl dX3_isKey_6 ?_
    refine lv_icmp_ge (tgt := 16) hx hb dX3_isKey_9 (by decide) (fun c_9 => ?_) (fun c_9 => ?_)
    · refine lv_iconst (v := 0) hx hb dX3_isKey_16 (by decide) ?_
      exact W.zret (v := 0) hx hb hr rfl (fun tZ htZ hWZ => ⟨_, rfl, (bI_n (fun h => h.2 c_9)).symm, htZ⟩) hS.2.2 dX3_isKey_17
    · refine lv_iconst (v := 1) hx hb dX3_isKey_12 (by decide) ?_
      refine lv_goto (tgt := 17) hx hb dX3_isKey_13 (by decide) ?_
      exact W.zret (v := 1) hx hb hr rfl (fun tZ htZ hWZ => ⟨_, rfl, (bI_d ⟨c_1, c_9⟩).symm, htZ⟩) hS.2.2 dX3_isKey_17
set_option maxHeartbeats 4000000 in
set_option maxRecDepth 100000 in
theorem c_X3_isDoor (l : Launch) (D : va_G) (md : Nat → Nat) (cI : ClassId) (th : Int32) (mK : Nat) (mc : Nat → Int32) (mD : Nat) (mr : Nat → Int32) (mw : Int32) (my : Int32) (mC : Nat) (mk : Nat → Int32) (ms : Nat → Int32) (mu : Nat → Int32) (mt : Nat → Int32) (mp : Nat → Int32) (mb : Nat → Int32) (me : Nat → Int32) (x : Int32)  : Met l yX3_isDoor wsX3_isDoor ({ frames := 0, cells := 0, slots := 0, locals := 0 } : Room) (rdP [.ref (md 0), .int x] D (wMd md cI th mK mc mD mr mw my mC mk ms mu mt mp mb me) [(cI, .int)]) (vp_Si (fun rZ => rZ = bI (jIn mD x))) 0 0 (fun _ => False) := by
  refine Met.ofW (cc := cX3_isDoor) (maxL := 2) (ret := (some .boolean)) (by decide) rfl ?_
  intro p e s m args below meth c s₁ B hml hv
  obtain ⟨rfl, hP, hK⟩ := hv
  have hx := B.exec
  have hb := B.bytes
  have hr := B.returns
  have hts := atoms_spec (ws := wsX3_isDoor) B.pre
  have hown : s.vm.findClass RX3 = some m.cls := findClass_of_methodNamed B.named
  have hlocks := B.notSynchronized
  have hS : va_S (fun _ => False) s.heap s.heap [] := va_S.rf
  have hinX3 : ∀ w ∈ u_ws RX3 TX3 15, w ∈ wsX3_isDoor := by decide +kernel
  have hf44 := hts (.fieldLink RX3 44 "KeyCabinetModel" "doors" "I") (by decide +kernel)
  have hl := lv_entry ([.ref (md 0), .int x]) (n := 2) (Nat.le_of_ble_eq_true rfl)
  rw [lg_entry_eq]
  generalize (lg_sl ([.ref (md 0), .int x]) ++ List.replicate (2 - (lg_sl ([.ref (md 0), .int x])).length) Slot.unset).toArray = ls at hl ⊢
  have hl : lv_has ls 2 [(0, .ref (md 0)), (1, .int x)] := hl
  refine lv_iload_n hx hb dX3_isDoor_0 rfl (lv_at hl 1 rfl) ?_
  refine lv_if_lt (tgt := 16) hx hb dX3_isDoor_1 (by decide) (fun c_1 => ?_) (fun c_1 => ?_)
  · refine lv_iconst (v := 0) hx hb dX3_isDoor_16 (by decide) ?_
    exact W.zret (v := 0) hx hb hr rfl (fun tZ htZ hWZ => ⟨_, rfl, (bI_n (fun h => h.1 c_1)).symm, htZ⟩) hS.2.2 dX3_isDoor_17
  · refine lv_iload_n hx hb dX3_isDoor_4 rfl (lv_at hl 1 rfl) ?_
    refine lv_aload_n hx hb dX3_isDoor_5 rfl (lv_at hl 0 rfl) ?_
    refine va_get (D := D) (ci := 3) (v := .int (nI mD)) (C := RX3) (T := TX3) (N := 15) hx hb hts hinX3 hown hK.1 hP 0 rfl rfl 3 (by decide) hf44 (fun _ h9 => h9) rfl dX3_isDoor_6 ?_
    refine lv_icmp_ge (tgt := 16) hx hb dX3_isDoor_9 (by decide) (fun c_9 => ?_) (fun c_9 => ?_)
    · refine lv_iconst (v := 0) hx hb dX3_isDoor_16 (by decide) ?_
      exact W.zret (v := 0) hx hb hr rfl (fun tZ htZ hWZ => ⟨_, rfl, (bI_n (fun h => h.2 c_9)).symm, htZ⟩) hS.2.2 dX3_isDoor_17
    · refine lv_iconst (v := 1) hx hb dX3_isDoor_12 (by decide) ?_
      refine lv_goto (tgt := 17) hx hb dX3_isDoor_13 (by decide) ?_
      exact W.zret (v := 1) hx hb hr rfl (fun tZ htZ hWZ => ⟨_, rfl, (bI_d ⟨c_1, c_9⟩).symm, htZ⟩) hS.2.2 dX3_isDoor_17
set_option maxHeartbeats 4000000 in
set_option maxRecDepth 100000 in
theorem c_X3_isCopy (l : Launch) (D : va_G) (md : Nat → Nat) (cI : ClassId) (th : Int32) (mK : Nat) (mc : Nat → Int32) (mD : Nat) (mr : Nat → Int32) (mw : Int32) (my : Int32) (mC : Nat) (mk : Nat → Int32) (ms : Nat → Int32) (mu : Nat → Int32) (mt : Nat → Int32) (mp : Nat → Int32) (mb : Nat → Int32) (me : Nat → Int32) (x : Int32)  : Met l yX3_isCopy wsX3_isCopy ({ frames := 0, cells := 0, slots := 0, locals := 0 } : Room) (rdP [.ref (md 0), .int x] D (wMd md cI th mK mc mD mr mw my mC mk ms mu mt mp mb me) [(cI, .int)]) (vp_Si (fun rZ => rZ = bI (jIn mC x))) 0 0 (fun _ => False) := by
  refine Met.ofW (cc := cX3_isCopy) (maxL := 2) (ret := (some .boolean)) (by decide) rfl ?_
  intro p e s m args below meth c s₁ B hml hv
  obtain ⟨rfl, hP, hK⟩ := hv
  have hx := B.exec
  have hb := B.bytes
  have hr := B.returns
  have hts := atoms_spec (ws := wsX3_isCopy) B.pre
  have hown : s.vm.findClass RX3 = some m.cls := findClass_of_methodNamed B.named
  have hlocks := B.notSynchronized
  have hS : va_S (fun _ => False) s.heap s.heap [] := va_S.rf
  have hinX3 : ∀ w ∈ u_ws RX3 TX3 15, w ∈ wsX3_isCopy := by decide +kernel
  have hf47 := hts (.fieldLink RX3 47 "KeyCabinetModel" "copies" "I") (by decide +kernel)
  have hl := lv_entry ([.ref (md 0), .int x]) (n := 2) (Nat.le_of_ble_eq_true rfl)
  rw [lg_entry_eq]
  generalize (lg_sl ([.ref (md 0), .int x]) ++ List.replicate (2 - (lg_sl ([.ref (md 0), .int x])).length) Slot.unset).toArray = ls at hl ⊢
  have hl : lv_has ls 2 [(0, .ref (md 0)), (1, .int x)] := hl
  refine lv_iload_n hx hb dX3_isCopy_0 rfl (lv_at hl 1 rfl) ?_
  refine lv_if_lt (tgt := 16) hx hb dX3_isCopy_1 (by decide) (fun c_1 => ?_) (fun c_1 => ?_)
  · refine lv_iconst (v := 0) hx hb dX3_isCopy_16 (by decide) ?_
    exact W.zret (v := 0) hx hb hr rfl (fun tZ htZ hWZ => ⟨_, rfl, (bI_n (fun h => h.1 c_1)).symm, htZ⟩) hS.2.2 dX3_isCopy_17
  · refine lv_iload_n hx hb dX3_isCopy_4 rfl (lv_at hl 1 rfl) ?_
    refine lv_aload_n hx hb dX3_isCopy_5 rfl (lv_at hl 0 rfl) ?_
    refine va_get (D := D) (ci := 3) (v := .int (nI mC)) (C := RX3) (T := TX3) (N := 15) hx hb hts hinX3 hown hK.1 hP 0 rfl rfl 7 (by decide) hf47 (fun _ h9 => h9) rfl dX3_isCopy_6 ?_
    refine lv_icmp_ge (tgt := 16) hx hb dX3_isCopy_9 (by decide) (fun c_9 => ?_) (fun c_9 => ?_)
    · refine lv_iconst (v := 0) hx hb dX3_isCopy_16 (by decide) ?_
      exact W.zret (v := 0) hx hb hr rfl (fun tZ htZ hWZ => ⟨_, rfl, (bI_n (fun h => h.2 c_9)).symm, htZ⟩) hS.2.2 dX3_isCopy_17
    · refine lv_iconst (v := 1) hx hb dX3_isCopy_12 (by decide) ?_
      refine lv_goto (tgt := 17) hx hb dX3_isCopy_13 (by decide) ?_
      exact W.zret (v := 1) hx hb hr rfl (fun tZ htZ hWZ => ⟨_, rfl, (bI_d ⟨c_1, c_9⟩).symm, htZ⟩) hS.2.2 dX3_isCopy_17
set_option maxHeartbeats 4000000 in
set_option maxRecDepth 100000 in
theorem c_X3_isPerson (l : Launch) (x : Int32)  : Met l yX3_isPerson wsX3_isPerson ({ frames := 0, cells := 0, slots := 0, locals := 0 } : Room) (stP [.int x]) (vp_Si (fun rZ => rZ = bI (jIn 8 x))) 0 0 (fun _ => False) := by
  refine Met.ofW (cc := cX3_isPerson) (maxL := 1) (ret := (some .boolean)) (by decide) rfl ?_
  intro p e s m args below meth c s₁ B hml hv
  obtain ⟨rfl, -⟩ := hv
  have hx := B.exec
  have hb := B.bytes
  have hr := B.returns
  have hts := atoms_spec (ws := wsX3_isPerson) B.pre
  have hown : s.vm.findClass RX3 = some m.cls := findClass_of_methodNamed B.named
  have hlocks := B.notSynchronized
  have hS : va_S (fun _ => False) s.heap s.heap [] := va_S.rf
  have hl := lv_entry ([.int x]) (n := 1) (Nat.le_of_ble_eq_true rfl)
  rw [lg_entry_eq]
  generalize (lg_sl ([.int x]) ++ List.replicate (1 - (lg_sl ([.int x])).length) Slot.unset).toArray = ls at hl ⊢
  have hl : lv_has ls 1 [(0, .int x)] := hl
  refine lv_iload_n hx hb dX3_isPerson_0 rfl (lv_at hl 0 rfl) ?_
  refine lv_if_lt (tgt := 14) hx hb dX3_isPerson_1 (by decide) (fun c_1 => ?_) (fun c_1 => ?_)
  · refine lv_iconst (v := 0) hx hb dX3_isPerson_14 (by decide) ?_
    exact W.zret (v := 0) hx hb hr rfl (fun tZ htZ hWZ => ⟨_, rfl, (bI_n (fun h => h.1 c_1)).symm, htZ⟩) hS.2.2 dX3_isPerson_15
  · refine lv_iload_n hx hb dX3_isPerson_4 rfl (lv_at hl 0 rfl) ?_
    refine lv_bipush (v := 8) hx hb dX3_isPerson_5 (by decide) ?_
    refine lv_icmp_ge (tgt := 14) hx hb dX3_isPerson_7 (by decide) (fun c_7 => ?_) (fun c_7 => ?_)
    · refine lv_iconst (v := 0) hx hb dX3_isPerson_14 (by decide) ?_
      exact W.zret (v := 0) hx hb hr rfl (fun tZ htZ hWZ => ⟨_, rfl, (bI_n (fun h => h.2 c_7)).symm, htZ⟩) hS.2.2 dX3_isPerson_15
    · refine lv_iconst (v := 1) hx hb dX3_isPerson_10 (by decide) ?_
      refine lv_goto (tgt := 15) hx hb dX3_isPerson_11 (by decide) ?_
      exact W.zret (v := 1) hx hb hr rfl (fun tZ htZ hWZ => ⟨_, rfl, (bI_d ⟨c_1, c_7⟩).symm, htZ⟩) hS.2.2 dX3_isPerson_15
set_option maxHeartbeats 4000000 in
set_option maxRecDepth 100000 in
theorem c_X3_areKeys (l : Launch) (D : va_G) (md : Nat → Nat) (cI : ClassId) (th : Int32) (mK : Nat) (mc : Nat → Int32) (mD : Nat) (mr : Nat → Int32) (mw : Int32) (my : Int32) (mC : Nat) (mk : Nat → Int32) (ms : Nat → Int32) (mu : Nat → Int32) (mt : Nat → Int32) (mp : Nat → Int32) (mb : Nat → Int32) (me : Nat → Int32) (x : Int32)  : Met l yX3_areKeys wsX3_areKeys ({ frames := 0, cells := 0, slots := 0, locals := 0 } : Room) (rdP [.ref (md 0), .int x] D (wMd md cI th mK mc mD mr mw my mC mk ms mu mt mp mb me) [(cI, .int)]) (vp_Si (fun rZ => rZ = bI (jSet mK x))) 0 0 (fun _ => False) := by
  refine Met.ofW (cc := cX3_areKeys) (maxL := 2) (ret := (some .boolean)) (by decide) rfl ?_
  intro p e s m args below meth c s₁ B hml hv
  obtain ⟨rfl, hP, hK⟩ := hv
  have hx := B.exec
  have hb := B.bytes
  have hr := B.returns
  have hts := atoms_spec (ws := wsX3_areKeys) B.pre
  have hown : s.vm.findClass RX3 = some m.cls := findClass_of_methodNamed B.named
  have hlocks := B.notSynchronized
  have hS : va_S (fun _ => False) s.heap s.heap [] := va_S.rf
  have hinX3 : ∀ w ∈ u_ws RX3 TX3 15, w ∈ wsX3_areKeys := by decide +kernel
  have hf41 := hts (.fieldLink RX3 41 "KeyCabinetModel" "keys" "I") (by decide +kernel)
  have hl := lv_entry ([.ref (md 0), .int x]) (n := 2) (Nat.le_of_ble_eq_true rfl)
  rw [lg_entry_eq]
  generalize (lg_sl ([.ref (md 0), .int x]) ++ List.replicate (2 - (lg_sl ([.ref (md 0), .int x])).length) Slot.unset).toArray = ls at hl ⊢
  have hl : lv_has ls 2 [(0, .ref (md 0)), (1, .int x)] := hl
  refine lv_iload_n hx hb dX3_areKeys_0 rfl (lv_at hl 1 rfl) ?_
  refine lv_if_lt (tgt := 18) hx hb dX3_areKeys_1 (by decide) (fun c_1 => ?_) (fun c_1 => ?_)
  · refine lv_iconst (v := 0) hx hb dX3_areKeys_18 (by decide) ?_
    exact W.zret (v := 0) hx hb hr rfl (fun tZ htZ hWZ => ⟨_, rfl, (bI_n (fun h => h.1 c_1)).symm, htZ⟩) hS.2.2 dX3_areKeys_19
  · refine lv_iload_n hx hb dX3_areKeys_4 rfl (lv_at hl 1 rfl) ?_
    refine lv_iconst (v := 1) hx hb dX3_areKeys_5 (by decide) ?_
    refine lv_aload_n hx hb dX3_areKeys_6 rfl (lv_at hl 0 rfl) ?_
    refine va_get (D := D) (ci := 3) (v := .int (nI mK)) (C := RX3) (T := TX3) (N := 15) hx hb hts hinX3 hown hK.1 hP 0 rfl rfl 1 (by decide) hf41 (fun _ h9 => h9) rfl dX3_areKeys_7 ?_
    refine lv_ishl hx hb dX3_areKeys_10 ?_
    refine lv_icmp_ge (tgt := 18) hx hb dX3_areKeys_11 (by decide) (fun c_11 => ?_) (fun c_11 => ?_)
    · refine lv_iconst (v := 0) hx hb dX3_areKeys_18 (by decide) ?_
      exact W.zret (v := 0) hx hb hr rfl (fun tZ htZ hWZ => ⟨_, rfl, (bI_n (fun h => h.2 c_11)).symm, htZ⟩) hS.2.2 dX3_areKeys_19
    · refine lv_iconst (v := 1) hx hb dX3_areKeys_14 (by decide) ?_
      refine lv_goto (tgt := 19) hx hb dX3_areKeys_15 (by decide) ?_
      exact W.zret (v := 1) hx hb hr rfl (fun tZ htZ hWZ => ⟨_, rfl, (bI_d ⟨c_1, c_11⟩).symm, htZ⟩) hS.2.2 dX3_areKeys_19
set_option maxHeartbeats 4000000 in
set_option maxRecDepth 100000 in
theorem c_X3_has (l : Launch) (sx : Int32) (x : Int32)  : Met l yX3_has wsX3_has ({ frames := 0, cells := 0, slots := 0, locals := 0 } : Room) (stP [.int sx, .int x]) (vp_Si (fun rZ => rZ = bI (jHasB sx x))) 0 0 (fun _ => False) := by
  refine Met.ofW (cc := cX3_has) (maxL := 2) (ret := (some .boolean)) (by decide) rfl ?_
  intro p e s m args below meth c s₁ B hml hv
  obtain ⟨rfl, -⟩ := hv
  have hx := B.exec
  have hb := B.bytes
  have hr := B.returns
  have hts := atoms_spec (ws := wsX3_has) B.pre
  have hown : s.vm.findClass RX3 = some m.cls := findClass_of_methodNamed B.named
  have hlocks := B.notSynchronized
  have hS : va_S (fun _ => False) s.heap s.heap [] := va_S.rf
  have hl := lv_entry ([.int sx, .int x]) (n := 2) (Nat.le_of_ble_eq_true rfl)
  rw [lg_entry_eq]
  generalize (lg_sl ([.int sx, .int x]) ++ List.replicate (2 - (lg_sl ([.int sx, .int x])).length) Slot.unset).toArray = ls at hl ⊢
  have hl : lv_has ls 2 [(0, .int sx), (1, .int x)] := hl
  refine lv_iload_n hx hb dX3_has_0 rfl (lv_at hl 0 rfl) ?_
  refine lv_iload_n hx hb dX3_has_1 rfl (lv_at hl 1 rfl) ?_
  refine lv_ishr hx hb dX3_has_2 ?_
  refine lv_iconst (v := 1) hx hb dX3_has_3 (by decide) ?_
  refine lv_iand hx hb dX3_has_4 ?_
  refine lv_iconst (v := 1) hx hb dX3_has_5 (by decide) ?_
  refine lv_icmp_ne (tgt := 13) hx hb dX3_has_6 (by decide) (fun c_6 => ?_) (fun c_6 => ?_)
  · refine lv_iconst (v := 0) hx hb dX3_has_13 (by decide) ?_
    exact W.zret (v := 0) hx hb hr rfl (fun tZ htZ hWZ => ⟨_, rfl, (bI_n c_6).symm, htZ⟩) hS.2.2 dX3_has_14
  · refine lv_iconst (v := 1) hx hb dX3_has_9 (by decide) ?_
    refine lv_goto (tgt := 14) hx hb dX3_has_10 (by decide) ?_
    exact W.zret (v := 1) hx hb hr rfl (fun tZ htZ hWZ => ⟨_, rfl, (bI_d c_6).symm, htZ⟩) hS.2.2 dX3_has_14
set_option maxHeartbeats 4000000 in
set_option maxRecDepth 100000 in
theorem c_X3_digit (l : Launch) (co : Int32) (po : Int32)  : Met l yX3_digit wsX3_digit ({ frames := 0, cells := 0, slots := 0, locals := 0 } : Room) (stP [.int co, .int po]) (vp_Si (fun rZ => rZ = mDigit co po)) 0 0 (fun _ => False) := by
  refine Met.ofW (cc := cX3_digit) (maxL := 2) (ret := (some .int)) (by decide) rfl ?_
  intro p e s m args below meth c s₁ B hml hv
  obtain ⟨rfl, -⟩ := hv
  have hx := B.exec
  have hb := B.bytes
  have hr := B.returns
  have hts := atoms_spec (ws := wsX3_digit) B.pre
  have hown : s.vm.findClass RX3 = some m.cls := findClass_of_methodNamed B.named
  have hlocks := B.notSynchronized
  have hS : va_S (fun _ => False) s.heap s.heap [] := va_S.rf
  have hl := lv_entry ([.int co, .int po]) (n := 2) (Nat.le_of_ble_eq_true rfl)
  rw [lg_entry_eq]
  generalize (lg_sl ([.int co, .int po]) ++ List.replicate (2 - (lg_sl ([.int co, .int po])).length) Slot.unset).toArray = ls at hl ⊢
  have hl : lv_has ls 2 [(0, .int co), (1, .int po)] := hl
  refine lv_iload_n hx hb dX3_digit_0 rfl (lv_at hl 0 rfl) ?_
  refine lv_iconst (v := 2) hx hb dX3_digit_1 (by decide) ?_
  refine lv_iconst (v := 4) hx hb dX3_digit_2 (by decide) ?_
  refine lv_iload_n hx hb dX3_digit_3 rfl (lv_at hl 1 rfl) ?_
  refine lv_isub hx hb dX3_digit_4 ?_
  refine lv_imul hx hb dX3_digit_5 ?_
  refine lv_ishr hx hb dX3_digit_6 ?_
  refine lv_iconst (v := 3) hx hb dX3_digit_7 (by decide) ?_
  refine lv_iand hx hb dX3_digit_8 ?_
  exact W.iret (v := (co >>> ((2 * (4 - po)) &&& 31)) &&& 3) hx hb hr (fun tZ htZ hWZ => ⟨_, rfl, rfl, htZ⟩) hS.2.2 dX3_digit_9
set_option maxHeartbeats 4000000 in
set_option maxRecDepth 100000 in
theorem c_X3_pinsOf (l : Launch) (D : va_G) (md : Nat → Nat) (cI : ClassId) (th : Int32) (mK : Nat) (mc : Nat → Int32) (mD : Nat) (mr : Nat → Int32) (mw : Int32) (my : Int32) (mC : Nat) (mk : Nat → Int32) (ms : Nat → Int32) (mu : Nat → Int32) (mt : Nat → Int32) (mp : Nat → Int32) (mb : Nat → Int32) (me : Nat → Int32) (d : Nat) (po : Int32) (hK8 : mK ≤ 8) (hd : d < 8) : Met l yX3_pinsOf wsX3_pinsOf ({ frames := 1, cells := 0, slots := 0, locals := 21 } : Room) (rdP [.ref (md 0), .int (nI d), .int po] D (wMd md cI th mK mc mD mr mw my mC mk ms mu mt mp mb me) [(cI, .int)]) (vp_Si (fun rZ => rZ = mPins mr mc d po mK)) 0 0 (fun _ => False) := by
  refine Met.ofW (cc := cX3_pinsOf) (maxL := 5) (ret := (some .int)) (by decide) rfl ?_
  intro p e s m args below meth c s₁ B hml hv
  obtain ⟨rfl, hP, hK⟩ := hv
  have hx := B.exec
  have hb := B.bytes
  have hr := B.returns
  have hts := atoms_spec (ws := wsX3_pinsOf) B.pre
  have hown : s.vm.findClass RX3 = some m.cls := findClass_of_methodNamed B.named
  have hlocks := B.notSynchronized
  have hS : va_S (fun _ => False) s.heap s.heap [] := va_S.rf
  have hinX3 : ∀ w ∈ u_ws RX3 TX3 15, w ∈ wsX3_pinsOf := by decide +kernel
  have hf41 := hts (.fieldLink RX3 41 "KeyCabinetModel" "keys" "I") (by decide +kernel)
  have hf13 := hts (.fieldLink RX3 13 "KeyCabinetModel" "rights" "[I") (by decide +kernel)
  have hf9 := hts (.fieldLink RX3 9 "KeyCabinetModel" "codes" "[I") (by decide +kernel)
  have hl := lv_entry ([.ref (md 0), .int (nI d), .int po]) (n := 5) (Nat.le_of_ble_eq_true rfl)
  rw [lg_entry_eq]
  generalize (lg_sl ([.ref (md 0), .int (nI d), .int po]) ++ List.replicate (5 - (lg_sl ([.ref (md 0), .int (nI d), .int po])).length) Slot.unset).toArray = ls at hl ⊢
  have hl : lv_has ls 5 [(0, .ref (md 0)), (1, .int (nI d)), (2, .int po)] := hl
  refine lv_iconst (v := 0) hx hb dX3_pinsOf_0 (by decide) ?_
  refine lv_istore_n (lv' := [(3, .int 0), (0, .ref (md 0)), (1, .int (nI d)), (2, .int po)]) hx hb dX3_pinsOf_1 rfl hl (by decide) rfl (fun ls hl => ?_)
  refine lv_iconst (v := 0) hx hb dX3_pinsOf_2 (by decide) ?_
  refine lv_istore (lv' := [(4, .int 0), (3, .int 0), (0, .ref (md 0)), (1, .int (nI d)), (2, .int po)]) hx hb dX3_pinsOf_3 hl (by decide) rfl (fun ls hl => ?_)
  refine kc_forW (pc := 5) (N := mK) (P := fun j ls => lv_has ls 5 [(4, .int (nI j)), (3, .int (mPins mr mc d po j)), (0, .ref (md 0)), (1, .int (nI d)), (2, .int po)]) (fun j ls hj_5 hp ih_5 => ?_) ls ?_
  · have hl := hp
    refine lv_iload hx hb dX3_pinsOf_5 (lv_at hl 0 rfl) ?_
    refine lv_aload_n hx hb dX3_pinsOf_7 rfl (lv_at hl 2 rfl) ?_
    refine va_get (D := D) (ci := 3) (v := .int (nI mK)) (C := RX3) (T := TX3) (N := 15) hx hb hts hinX3 hown hK.1 hP 0 rfl rfl 1 (by decide) hf41 (fun _ h9 => h9) rfl dX3_pinsOf_8 ?_
    refine kc_tst (j := j) (N := mK) (tgt := 50) hx hb dX3_pinsOf_11 (by decide) hj_5 (by omega) (fun hN => ?_) (fun hlt_5 => ?_)
    · subst hN
      refine lv_iload_n hx hb dX3_pinsOf_50 rfl (lv_at hl 1 rfl) ?_
      exact W.iret (v := mPins mr mc d po mK) hx hb hr (fun tZ htZ hWZ => ⟨_, rfl, rfl, htZ⟩) hS.2.2 dX3_pinsOf_51
    · refine lv_aload_n hx hb dX3_pinsOf_14 rfl (lv_at hl 2 rfl) ?_
      refine va_get (D := D) (ci := 3) (v := .ref (md 2)) (C := RX3) (T := TX3) (N := 15) hx hb hts hinX3 hown hK.1 hP 0 rfl rfl 4 (by decide) hf13 (fun _ h9 => h9) rfl dX3_pinsOf_15 ?_
      refine lv_iload_n hx hb dX3_pinsOf_18 rfl (lv_at hl 3 rfl) ?_
      refine kc_ald (i := d) (n := 8) hx hb hK hP 2 0 rfl rfl (by omega) (by decide) dX3_pinsOf_19 ?_
      refine lv_iload hx hb dX3_pinsOf_20 (lv_at hl 0 rfl) ?_
      refine kc_rSi (As := [.int (mr d), .int (nI j)]) (rest := []) ⟨hx, hb, hml, hown, hts⟩ (c_X3_has l (mr d) (nI j) ) (va_cwS 2 hts gX3_pinsOf_X3_has rfl rfl rfl (by decide +kernel) ⟨Nat.le_of_ble_eq_true rfl, Nat.le_of_ble_eq_true rfl⟩) rfl hl.1 rfl (Nat.le_of_ble_eq_true rfl) dX3_pinsOf_22 ⟨Nat.le_of_ble_eq_true rfl, Nat.le_of_ble_eq_true rfl⟩ ?_
      refine kc_ifeqB (tgt := 44) hx hb dX3_pinsOf_25 (by decide) (fun c_25 => ?_) (fun c_25 => ?_)
      · refine lv_iinc (v := nI (j + 1)) (lv' := [(4, .int (nI (j + 1))), (3, .int (mPins mr mc d po j)), (0, .ref (md 0)), (1, .int (nI d)), (2, .int po)]) hx hb dX3_pinsOf_44 hl (k := 0) rfl (kc_inc j) (by decide) rfl (fun ls hl => ?_)
        refine lv_goto (tgt := 5) hx hb dX3_pinsOf_47 (by decide) ?_
        refine ih_5 _ hlt_5 ?_
        have eq_3 : mPins mr mc d po (j + 1) = mPins mr mc d po j := by simp only [mPins, fo_s, if_neg c_25]
        show lv_has _ 5 [(4, .int (nI (j + 1))), (3, .int (mPins mr mc d po (j + 1))), (0, .ref (md 0)), (1, .int (nI d)), (2, .int po)]
        rw [eq_3]
        exact lv_sub hl [0, 1, 2, 3, 4] rfl
      · refine lv_iload_n hx hb dX3_pinsOf_28 rfl (lv_at hl 1 rfl) ?_
        refine lv_iconst (v := 1) hx hb dX3_pinsOf_29 (by decide) ?_
        refine lv_aload_n hx hb dX3_pinsOf_30 rfl (lv_at hl 2 rfl) ?_
        refine va_get (D := D) (ci := 3) (v := .ref (md 1)) (C := RX3) (T := TX3) (N := 15) hx hb hts hinX3 hown hK.1 hP 0 rfl rfl 2 (by decide) hf9 (fun _ h9 => h9) rfl dX3_pinsOf_31 ?_
        refine lv_iload hx hb dX3_pinsOf_34 (lv_at hl 0 rfl) ?_
        refine kc_ald (i := j) (n := 8) hx hb hK hP 1 0 rfl rfl (by omega) (by decide) dX3_pinsOf_36 ?_
        refine lv_iload_n hx hb dX3_pinsOf_37 rfl (lv_at hl 4 rfl) ?_
        refine kc_rSi (As := [.int (mc j), .int po]) (rest := [.int 1, .int (mPins mr mc d po j)]) ⟨hx, hb, hml, hown, hts⟩ (c_X3_digit l (mc j) po ) (va_cwS 2 hts gX3_pinsOf_X3_digit rfl rfl rfl (by decide +kernel) ⟨Nat.le_of_ble_eq_true rfl, Nat.le_of_ble_eq_true rfl⟩) rfl hl.1 rfl (Nat.le_of_ble_eq_true rfl) dX3_pinsOf_38 ⟨Nat.le_of_ble_eq_true rfl, Nat.le_of_ble_eq_true rfl⟩ ?_
        refine lv_ishl hx hb dX3_pinsOf_41 ?_
        refine lv_ior hx hb dX3_pinsOf_42 ?_
        refine lv_istore_n (lv' := [(3, .int ((mPins mr mc d po j) ||| (1 <<< ((mDigit (mc j) po) &&& 31)))), (4, .int (nI j)), (0, .ref (md 0)), (1, .int (nI d)), (2, .int po)]) hx hb dX3_pinsOf_43 rfl hl (by decide) rfl (fun ls hl => ?_)
        refine lv_iinc (v := nI (j + 1)) (lv' := [(4, .int (nI (j + 1))), (3, .int ((mPins mr mc d po j) ||| (1 <<< ((mDigit (mc j) po) &&& 31)))), (0, .ref (md 0)), (1, .int (nI d)), (2, .int po)]) hx hb dX3_pinsOf_44 hl (k := 1) rfl (kc_inc j) (by decide) rfl (fun ls hl => ?_)
        refine lv_goto (tgt := 5) hx hb dX3_pinsOf_47 (by decide) ?_
        refine ih_5 _ hlt_5 ?_
        have eq_3 : mPins mr mc d po (j + 1) = (mPins mr mc d po j) ||| (1 <<< ((mDigit (mc j) po) &&& 31)) := by simp only [mPins, fo_s, if_pos c_25]
        show lv_has _ 5 [(4, .int (nI (j + 1))), (3, .int (mPins mr mc d po (j + 1))), (0, .ref (md 0)), (1, .int (nI d)), (2, .int po)]
        rw [eq_3]
        exact lv_sub hl [0, 1, 2, 3, 4] rfl
  · exact lv_sub hl [0, 1, 2, 3, 4] rfl
set_option maxHeartbeats 4000000 in
set_option maxRecDepth 100000 in
theorem c_X3_allPins (l : Launch) (D : va_G) (md : Nat → Nat) (cI : ClassId) (th : Int32) (mK : Nat) (mc : Nat → Int32) (mD : Nat) (mr : Nat → Int32) (mw : Int32) (my : Int32) (mC : Nat) (mk : Nat → Int32) (ms : Nat → Int32) (mu : Nat → Int32) (mt : Nat → Int32) (mp : Nat → Int32) (mb : Nat → Int32) (me : Nat → Int32) (d : Nat) (hK8 : mK ≤ 8) (hd : d < 8) : Met l yX3_allPins wsX3_allPins ({ frames := 2, cells := 0, slots := 0, locals := 45 } : Room) (rdP [.ref (md 0), .int (nI d)] D (wMd md cI th mK mc mD mr mw my mC mk ms mu mt mp mb me) [(cI, .int)]) (vp_Si (fun rZ => rZ = mAll mr mc mK d 5)) 0 0 (fun _ => False) := by
  refine Met.ofW (cc := cX3_allPins) (maxL := 4) (ret := (some .int)) (by decide) rfl ?_
  intro p e s m args below meth c s₁ B hml hv
  obtain ⟨rfl, hP, hK⟩ := hv
  have hx := B.exec
  have hb := B.bytes
  have hr := B.returns
  have hts := atoms_spec (ws := wsX3_allPins) B.pre
  have hown : s.vm.findClass RX3 = some m.cls := findClass_of_methodNamed B.named
  have hlocks := B.notSynchronized
  have hS : va_S (fun _ => False) s.heap s.heap [] := va_S.rf
  have hl := lv_entry ([.ref (md 0), .int (nI d)]) (n := 4) (Nat.le_of_ble_eq_true rfl)
  rw [lg_entry_eq]
  generalize (lg_sl ([.ref (md 0), .int (nI d)]) ++ List.replicate (4 - (lg_sl ([.ref (md 0), .int (nI d)])).length) Slot.unset).toArray = ls at hl ⊢
  have hl : lv_has ls 4 [(0, .ref (md 0)), (1, .int (nI d))] := hl
  refine lv_iconst (v := 0) hx hb dX3_allPins_0 (by decide) ?_
  refine lv_istore_n (lv' := [(2, .int 0), (0, .ref (md 0)), (1, .int (nI d))]) hx hb dX3_allPins_1 rfl hl (by decide) rfl (fun ls hl => ?_)
  refine lv_iconst (v := 0) hx hb dX3_allPins_2 (by decide) ?_
  refine lv_istore_n (lv' := [(3, .int 0), (2, .int 0), (0, .ref (md 0)), (1, .int (nI d))]) hx hb dX3_allPins_3 rfl hl (by decide) rfl (fun ls hl => ?_)
  refine kc_forW (pc := 4) (N := 5) (P := fun j ls => lv_has ls 4 [(3, .int (nI j)), (2, .int (mAll mr mc mK d j)), (0, .ref (md 0)), (1, .int (nI d))]) (fun j ls hj_4 hp ih_4 => ?_) ls ?_
  · have hl := hp
    refine lv_iload_n hx hb dX3_allPins_4 rfl (lv_at hl 0 rfl) ?_
    refine lv_iconst (v := 5) hx hb dX3_allPins_5 (by decide) ?_
    refine kc_tst (j := j) (N := 5) (tgt := 27) hx hb dX3_allPins_6 (by decide) hj_4 (by omega) (fun hN => ?_) (fun hlt_4 => ?_)
    · subst hN
      refine lv_iload_n hx hb dX3_allPins_27 rfl (lv_at hl 1 rfl) ?_
      exact W.iret (v := mAll mr mc mK d 5) hx hb hr (fun tZ htZ hWZ => ⟨_, rfl, rfl, htZ⟩) hS.2.2 dX3_allPins_28
    · refine lv_bipush (v := 16) hx hb dX3_allPins_9 (by decide) ?_
      refine lv_iload_n hx hb dX3_allPins_11 rfl (lv_at hl 1 rfl) ?_
      refine lv_imul hx hb dX3_allPins_12 ?_
      refine lv_aload_n hx hb dX3_allPins_13 rfl (lv_at hl 2 rfl) ?_
      refine lv_iload_n hx hb dX3_allPins_14 rfl (lv_at hl 3 rfl) ?_
      refine lv_iload_n hx hb dX3_allPins_15 rfl (lv_at hl 0 rfl) ?_
      refine kc_rVi (As := [.int (nI d), .int (nI j)]) (rest := [.int (16 * (mAll mr mc mK d j))]) ⟨hx, hb, hml, hown, hts⟩ (c_X3_pinsOf l D md cI th mK mc mD mr mw my mC mk ms mu mt mp mb me d (nI j) hK8 hd) (cwV 2 hts gX3_allPins_X3_pinsOf rfl rfl rfl (by decide +kernel) ⟨Nat.le_of_ble_eq_true rfl, Nat.le_of_ble_eq_true rfl⟩) hK hP [0, 1, 2, 3, 4, 5, 6, 7, 8, 9] [0] rfl rfl 0 rfl rfl rfl rfl hl.1 rfl (Nat.le_of_ble_eq_true rfl) dX3_allPins_16 ⟨Nat.le_of_ble_eq_true rfl, Nat.le_of_ble_eq_true rfl⟩ ?_
      refine lv_iadd hx hb dX3_allPins_19 ?_
      refine lv_istore_n (lv' := [(2, .int ((16 * (mAll mr mc mK d j)) + (mPins mr mc d (nI j) mK))), (3, .int (nI j)), (0, .ref (md 0)), (1, .int (nI d))]) hx hb dX3_allPins_20 rfl hl (by decide) rfl (fun ls hl => ?_)
      refine lv_iinc (v := nI (j + 1)) (lv' := [(3, .int (nI (j + 1))), (2, .int ((16 * (mAll mr mc mK d j)) + (mPins mr mc d (nI j) mK))), (0, .ref (md 0)), (1, .int (nI d))]) hx hb dX3_allPins_21 hl (k := 1) rfl (kc_inc j) (by decide) rfl (fun ls hl => ?_)
      refine lv_goto (tgt := 4) hx hb dX3_allPins_24 (by decide) ?_
      refine ih_4 _ hlt_4 ?_
      have eq_2 : mAll mr mc mK d (j + 1) = (16 * (mAll mr mc mK d j)) + (mPins mr mc d (nI j) mK) := rfl
      show lv_has _ 4 [(3, .int (nI (j + 1))), (2, .int (mAll mr mc mK d (j + 1))), (0, .ref (md 0)), (1, .int (nI d))]
      rw [eq_2]
      exact lv_sub hl [0, 1, 2, 3] rfl
  · exact lv_sub hl [0, 1, 2, 3] rfl
set_option maxHeartbeats 4000000 in
set_option maxRecDepth 100000 in
theorem c_X3_opensWith (l : Launch) (D : va_G) (md : Nat → Nat) (cI : ClassId) (th : Int32) (mK : Nat) (mc : Nat → Int32) (mD : Nat) (mr : Nat → Int32) (mw : Int32) (my : Int32) (mC : Nat) (mk : Nat → Int32) (ms : Nat → Int32) (mu : Nat → Int32) (mt : Nat → Int32) (mp : Nat → Int32) (mb : Nat → Int32) (me : Nat → Int32) (co : Int32) (d : Nat) (hK8 : mK ≤ 8) (hd : d < 8) : Met l yX3_opensWith wsX3_opensWith ({ frames := 2, cells := 0, slots := 0, locals := 45 } : Room) (rdP [.ref (md 0), .int co, .int (nI d)] D (wMd md cI th mK mc mD mr mw my mC mk ms mu mt mp mb me) [(cI, .int)]) (vp_Si (fun rZ => rZ = bI (mOpens mr mc mK co d 5))) 0 0 (fun _ => False) := by
  refine Met.ofW (cc := cX3_opensWith) (maxL := 5) (ret := (some .boolean)) (by decide) rfl ?_
  intro p e s m args below meth c s₁ B hml hv
  obtain ⟨rfl, hP, hK⟩ := hv
  have hx := B.exec
  have hb := B.bytes
  have hr := B.returns
  have hts := atoms_spec (ws := wsX3_opensWith) B.pre
  have hown : s.vm.findClass RX3 = some m.cls := findClass_of_methodNamed B.named
  have hlocks := B.notSynchronized
  have hS : va_S (fun _ => False) s.heap s.heap [] := va_S.rf
  have hl := lv_entry ([.ref (md 0), .int co, .int (nI d)]) (n := 5) (Nat.le_of_ble_eq_true rfl)
  rw [lg_entry_eq]
  generalize (lg_sl ([.ref (md 0), .int co, .int (nI d)]) ++ List.replicate (5 - (lg_sl ([.ref (md 0), .int co, .int (nI d)])).length) Slot.unset).toArray = ls at hl ⊢
  have hl : lv_has ls 5 [(0, .ref (md 0)), (1, .int co), (2, .int (nI d))] := hl
  refine lv_iconst (v := 1) hx hb dX3_opensWith_0 (by decide) ?_
  refine lv_istore_n (lv' := [(3, .int 1), (0, .ref (md 0)), (1, .int co), (2, .int (nI d))]) hx hb dX3_opensWith_1 rfl hl (by decide) rfl (fun ls hl => ?_)
  refine lv_iconst (v := 0) hx hb dX3_opensWith_2 (by decide) ?_
  refine lv_istore (lv' := [(4, .int 0), (3, .int 1), (0, .ref (md 0)), (1, .int co), (2, .int (nI d))]) hx hb dX3_opensWith_3 hl (by decide) rfl (fun ls hl => ?_)
  refine kc_forW (pc := 5) (N := 5) (P := fun j ls => lv_has ls 5 [(4, .int (nI j)), (3, .int (bI (mOpens mr mc mK co d j))), (0, .ref (md 0)), (1, .int co), (2, .int (nI d))]) (fun j ls hj_5 hp ih_5 => ?_) ls ?_
  · have hl := hp
    refine lv_iload hx hb dX3_opensWith_5 (lv_at hl 0 rfl) ?_
    refine lv_iconst (v := 5) hx hb dX3_opensWith_7 (by decide) ?_
    refine kc_tst (j := j) (N := 5) (tgt := 46) hx hb dX3_opensWith_8 (by decide) hj_5 (by omega) (fun hN => ?_) (fun hlt_5 => ?_)
    · subst hN
      refine lv_iload_n hx hb dX3_opensWith_46 rfl (lv_at hl 1 rfl) ?_
      exact W.zret (v := bI (mOpens mr mc mK co d 5)) hx hb hr (bI_nar _) (fun tZ htZ hWZ => ⟨_, rfl, rfl, htZ⟩) hS.2.2 dX3_opensWith_47
    · refine lv_iload_n hx hb dX3_opensWith_11 rfl (lv_at hl 1 rfl) ?_
      refine kc_ifeqB (tgt := 38) hx hb dX3_opensWith_12 (by decide) (fun c_12 => ?_) (fun c_12 => ?_)
      · refine lv_iconst (v := 0) hx hb dX3_opensWith_38 (by decide) ?_
        refine lv_istore_n (lv' := [(3, .int 0), (4, .int (nI j)), (0, .ref (md 0)), (1, .int co), (2, .int (nI d))]) hx hb dX3_opensWith_39 rfl hl (by decide) rfl (fun ls hl => ?_)
        refine lv_iinc (v := nI (j + 1)) (lv' := [(4, .int (nI (j + 1))), (3, .int 0), (0, .ref (md 0)), (1, .int co), (2, .int (nI d))]) hx hb dX3_opensWith_40 hl (k := 1) rfl (kc_inc j) (by decide) rfl (fun ls hl => ?_)
        refine lv_goto (tgt := 5) hx hb dX3_opensWith_43 (by decide) ?_
        refine ih_5 _ hlt_5 ?_
        have eq_3 : bI (mOpens mr mc mK co d (j + 1)) = 0 := by rw [mOpens_s, kc_bf c_12]; rfl
        show lv_has _ 5 [(4, .int (nI (j + 1))), (3, .int (bI (mOpens mr mc mK co d (j + 1)))), (0, .ref (md 0)), (1, .int co), (2, .int (nI d))]
        rw [eq_3]
        exact lv_sub hl [0, 1, 2, 3, 4] rfl
      · refine lv_aload_n hx hb dX3_opensWith_15 rfl (lv_at hl 2 rfl) ?_
        refine lv_iload_n hx hb dX3_opensWith_16 rfl (lv_at hl 4 rfl) ?_
        refine lv_iload hx hb dX3_opensWith_17 (lv_at hl 0 rfl) ?_
        refine kc_rVi (As := [.int (nI d), .int (nI j)]) (rest := []) ⟨hx, hb, hml, hown, hts⟩ (c_X3_pinsOf l D md cI th mK mc mD mr mw my mC mk ms mu mt mp mb me d (nI j) hK8 hd) (cwV 2 hts gX3_opensWith_X3_pinsOf rfl rfl rfl (by decide +kernel) ⟨Nat.le_of_ble_eq_true rfl, Nat.le_of_ble_eq_true rfl⟩) hK hP [0, 1, 2, 3, 4, 5, 6, 7, 8, 9] [0] rfl rfl 0 rfl rfl rfl rfl hl.1 rfl (Nat.le_of_ble_eq_true rfl) dX3_opensWith_19 ⟨Nat.le_of_ble_eq_true rfl, Nat.le_of_ble_eq_true rfl⟩ ?_
        refine lv_iload_n hx hb dX3_opensWith_22 rfl (lv_at hl 3 rfl) ?_
        refine lv_iload hx hb dX3_opensWith_23 (lv_at hl 0 rfl) ?_
        refine kc_rSi (As := [.int co, .int (nI j)]) (rest := [.int (mPins mr mc d (nI j) mK)]) ⟨hx, hb, hml, hown, hts⟩ (c_X3_digit l co (nI j) ) (va_cwS 2 hts gX3_opensWith_X3_digit rfl rfl rfl (by decide +kernel) ⟨Nat.le_of_ble_eq_true rfl, Nat.le_of_ble_eq_true rfl⟩) rfl hl.1 rfl (Nat.le_of_ble_eq_true rfl) dX3_opensWith_25 ⟨Nat.le_of_ble_eq_true rfl, Nat.le_of_ble_eq_true rfl⟩ ?_
        refine kc_rSi (As := [.int (mPins mr mc d (nI j) mK), .int (mDigit co (nI j))]) (rest := []) ⟨hx, hb, hml, hown, hts⟩ (c_X3_has l (mPins mr mc d (nI j) mK) (mDigit co (nI j)) ) (va_cwS 2 hts gX3_opensWith_X3_has rfl rfl rfl (by decide +kernel) ⟨Nat.le_of_ble_eq_true rfl, Nat.le_of_ble_eq_true rfl⟩) rfl hl.1 rfl (Nat.le_of_ble_eq_true rfl) dX3_opensWith_28 ⟨Nat.le_of_ble_eq_true rfl, Nat.le_of_ble_eq_true rfl⟩ ?_
        refine kc_ifeqB (tgt := 38) hx hb dX3_opensWith_31 (by decide) (fun c_31 => ?_) (fun c_31 => ?_)
        · refine lv_iconst (v := 0) hx hb dX3_opensWith_38 (by decide) ?_
          refine lv_istore_n (lv' := [(3, .int 0), (4, .int (nI j)), (0, .ref (md 0)), (1, .int co), (2, .int (nI d))]) hx hb dX3_opensWith_39 rfl hl (by decide) rfl (fun ls hl => ?_)
          refine lv_iinc (v := nI (j + 1)) (lv' := [(4, .int (nI (j + 1))), (3, .int 0), (0, .ref (md 0)), (1, .int co), (2, .int (nI d))]) hx hb dX3_opensWith_40 hl (k := 1) rfl (kc_inc j) (by decide) rfl (fun ls hl => ?_)
          refine lv_goto (tgt := 5) hx hb dX3_opensWith_43 (by decide) ?_
          refine ih_5 _ hlt_5 ?_
          have eq_3 : bI (mOpens mr mc mK co d (j + 1)) = 0 := by rw [mOpens_s, c_12, kc_bf c_31]; rfl
          show lv_has _ 5 [(4, .int (nI (j + 1))), (3, .int (bI (mOpens mr mc mK co d (j + 1)))), (0, .ref (md 0)), (1, .int co), (2, .int (nI d))]
          rw [eq_3]
          exact lv_sub hl [0, 1, 2, 3, 4] rfl
        · refine lv_iconst (v := 1) hx hb dX3_opensWith_34 (by decide) ?_
          refine lv_goto (tgt := 39) hx hb dX3_opensWith_35 (by decide) ?_
          refine lv_istore_n (lv' := [(3, .int 1), (4, .int (nI j)), (0, .ref (md 0)), (1, .int co), (2, .int (nI d))]) hx hb dX3_opensWith_39 rfl hl (by decide) rfl (fun ls hl => ?_)
          refine lv_iinc (v := nI (j + 1)) (lv' := [(4, .int (nI (j + 1))), (3, .int 1), (0, .ref (md 0)), (1, .int co), (2, .int (nI d))]) hx hb dX3_opensWith_40 hl (k := 1) rfl (kc_inc j) (by decide) rfl (fun ls hl => ?_)
          refine lv_goto (tgt := 5) hx hb dX3_opensWith_43 (by decide) ?_
          refine ih_5 _ hlt_5 ?_
          have eq_3 : bI (mOpens mr mc mK co d (j + 1)) = 1 := by rw [mOpens_s, c_12, c_31]; rfl
          show lv_has _ 5 [(4, .int (nI (j + 1))), (3, .int (bI (mOpens mr mc mK co d (j + 1)))), (0, .ref (md 0)), (1, .int co), (2, .int (nI d))]
          rw [eq_3]
          exact lv_sub hl [0, 1, 2, 3, 4] rfl
  · exact lv_sub hl [0, 1, 2, 3, 4] rfl
set_option maxHeartbeats 4000000 in
set_option maxRecDepth 100000 in
theorem c_X3_doorsOf (l : Launch) (D : va_G) (md : Nat → Nat) (cI : ClassId) (th : Int32) (mK : Nat) (mc : Nat → Int32) (mD : Nat) (mr : Nat → Int32) (mw : Int32) (my : Int32) (mC : Nat) (mk : Nat → Int32) (ms : Nat → Int32) (mu : Nat → Int32) (mt : Nat → Int32) (mp : Nat → Int32) (mb : Nat → Int32) (me : Nat → Int32) (co : Int32) (hK8 : mK ≤ 8) (hD8 : mD ≤ 8) : Met l yX3_doorsOf wsX3_doorsOf ({ frames := 3, cells := 0, slots := 0, locals := 69 } : Room) (rdP [.ref (md 0), .int co] D (wMd md cI th mK mc mD mr mw my mC mk ms mu mt mp mb me) [(cI, .int)]) (vp_Si (fun rZ => rZ = mDoors mr mc mK co mD)) 0 0 (fun _ => False) := by
  refine Met.ofW (cc := cX3_doorsOf) (maxL := 4) (ret := (some .int)) (by decide) rfl ?_
  intro p e s m args below meth c s₁ B hml hv
  obtain ⟨rfl, hP, hK⟩ := hv
  have hx := B.exec
  have hb := B.bytes
  have hr := B.returns
  have hts := atoms_spec (ws := wsX3_doorsOf) B.pre
  have hown : s.vm.findClass RX3 = some m.cls := findClass_of_methodNamed B.named
  have hlocks := B.notSynchronized
  have hS : va_S (fun _ => False) s.heap s.heap [] := va_S.rf
  have hinX3 : ∀ w ∈ u_ws RX3 TX3 15, w ∈ wsX3_doorsOf := by decide +kernel
  have hf44 := hts (.fieldLink RX3 44 "KeyCabinetModel" "doors" "I") (by decide +kernel)
  have hl := lv_entry ([.ref (md 0), .int co]) (n := 4) (Nat.le_of_ble_eq_true rfl)
  rw [lg_entry_eq]
  generalize (lg_sl ([.ref (md 0), .int co]) ++ List.replicate (4 - (lg_sl ([.ref (md 0), .int co])).length) Slot.unset).toArray = ls at hl ⊢
  have hl : lv_has ls 4 [(0, .ref (md 0)), (1, .int co)] := hl
  refine lv_iconst (v := 0) hx hb dX3_doorsOf_0 (by decide) ?_
  refine lv_istore_n (lv' := [(2, .int 0), (0, .ref (md 0)), (1, .int co)]) hx hb dX3_doorsOf_1 rfl hl (by decide) rfl (fun ls hl => ?_)
  refine lv_iconst (v := 0) hx hb dX3_doorsOf_2 (by decide) ?_
  refine lv_istore_n (lv' := [(3, .int 0), (2, .int 0), (0, .ref (md 0)), (1, .int co)]) hx hb dX3_doorsOf_3 rfl hl (by decide) rfl (fun ls hl => ?_)
  refine kc_forW (pc := 4) (N := mD) (P := fun j ls => lv_has ls 4 [(3, .int (nI j)), (2, .int (mDoors mr mc mK co j)), (0, .ref (md 0)), (1, .int co)]) (fun j ls hj_4 hp ih_4 => ?_) ls ?_
  · have hl := hp
    refine lv_iload_n hx hb dX3_doorsOf_4 rfl (lv_at hl 0 rfl) ?_
    refine lv_aload_n hx hb dX3_doorsOf_5 rfl (lv_at hl 2 rfl) ?_
    refine va_get (D := D) (ci := 3) (v := .int (nI mD)) (C := RX3) (T := TX3) (N := 15) hx hb hts hinX3 hown hK.1 hP 0 rfl rfl 3 (by decide) hf44 (fun _ h9 => h9) rfl dX3_doorsOf_6 ?_
    refine kc_tst (j := j) (N := mD) (tgt := 33) hx hb dX3_doorsOf_9 (by decide) hj_4 (by omega) (fun hN => ?_) (fun hlt_4 => ?_)
    · subst hN
      refine lv_iload_n hx hb dX3_doorsOf_33 rfl (lv_at hl 1 rfl) ?_
      exact W.iret (v := mDoors mr mc mK co mD) hx hb hr (fun tZ htZ hWZ => ⟨_, rfl, rfl, htZ⟩) hS.2.2 dX3_doorsOf_34
    · refine lv_aload_n hx hb dX3_doorsOf_12 rfl (lv_at hl 2 rfl) ?_
      refine lv_iload_n hx hb dX3_doorsOf_13 rfl (lv_at hl 3 rfl) ?_
      refine lv_iload_n hx hb dX3_doorsOf_14 rfl (lv_at hl 0 rfl) ?_
      refine kc_rVi (As := [.int co, .int (nI j)]) (rest := []) ⟨hx, hb, hml, hown, hts⟩ (c_X3_opensWith l D md cI th mK mc mD mr mw my mC mk ms mu mt mp mb me co j hK8 (by first | assumption | omega)) (cwV 2 hts gX3_doorsOf_X3_opensWith rfl rfl rfl (by decide +kernel) ⟨Nat.le_of_ble_eq_true rfl, Nat.le_of_ble_eq_true rfl⟩) hK hP [0, 1, 2, 3, 4, 5, 6, 7, 8, 9] [0] rfl rfl 0 rfl rfl rfl rfl hl.1 rfl (Nat.le_of_ble_eq_true rfl) dX3_doorsOf_15 ⟨Nat.le_of_ble_eq_true rfl, Nat.le_of_ble_eq_true rfl⟩ ?_
      refine kc_ifeqB (tgt := 27) hx hb dX3_doorsOf_18 (by decide) (fun c_18 => ?_) (fun c_18 => ?_)
      · refine lv_iinc (v := nI (j + 1)) (lv' := [(3, .int (nI (j + 1))), (2, .int (mDoors mr mc mK co j)), (0, .ref (md 0)), (1, .int co)]) hx hb dX3_doorsOf_27 hl (k := 0) rfl (kc_inc j) (by decide) rfl (fun ls hl => ?_)
        refine lv_goto (tgt := 4) hx hb dX3_doorsOf_30 (by decide) ?_
        refine ih_4 _ hlt_4 ?_
        have eq_2 : mDoors mr mc mK co (j + 1) = mDoors mr mc mK co j := by simp only [mDoors, fo_s, if_neg c_18]
        show lv_has _ 4 [(3, .int (nI (j + 1))), (2, .int (mDoors mr mc mK co (j + 1))), (0, .ref (md 0)), (1, .int co)]
        rw [eq_2]
        exact lv_sub hl [0, 1, 2, 3] rfl
      · refine lv_iload_n hx hb dX3_doorsOf_21 rfl (lv_at hl 1 rfl) ?_
        refine lv_iconst (v := 1) hx hb dX3_doorsOf_22 (by decide) ?_
        refine lv_iload_n hx hb dX3_doorsOf_23 rfl (lv_at hl 0 rfl) ?_
        refine lv_ishl hx hb dX3_doorsOf_24 ?_
        refine lv_ior hx hb dX3_doorsOf_25 ?_
        refine lv_istore_n (lv' := [(2, .int ((mDoors mr mc mK co j) ||| (1 <<< ((nI j) &&& 31)))), (3, .int (nI j)), (0, .ref (md 0)), (1, .int co)]) hx hb dX3_doorsOf_26 rfl hl (by decide) rfl (fun ls hl => ?_)
        refine lv_iinc (v := nI (j + 1)) (lv' := [(3, .int (nI (j + 1))), (2, .int ((mDoors mr mc mK co j) ||| (1 <<< ((nI j) &&& 31)))), (0, .ref (md 0)), (1, .int co)]) hx hb dX3_doorsOf_27 hl (k := 1) rfl (kc_inc j) (by decide) rfl (fun ls hl => ?_)
        refine lv_goto (tgt := 4) hx hb dX3_doorsOf_30 (by decide) ?_
        refine ih_4 _ hlt_4 ?_
        have eq_2 : mDoors mr mc mK co (j + 1) = (mDoors mr mc mK co j) ||| (1 <<< ((nI j) &&& 31)) := by simp only [mDoors, fo_s, if_pos c_18]
        show lv_has _ 4 [(3, .int (nI (j + 1))), (2, .int (mDoors mr mc mK co (j + 1))), (0, .ref (md 0)), (1, .int co)]
        rw [eq_2]
        exact lv_sub hl [0, 1, 2, 3] rfl
  · exact lv_sub hl [0, 1, 2, 3] rfl
set_option maxHeartbeats 4000000 in
set_option maxRecDepth 100000 in
theorem c_X3_strayCount (l : Launch) (D : va_G) (md : Nat → Nat) (cI : ClassId) (th : Int32) (mK : Nat) (mc : Nat → Int32) (mD : Nat) (mr : Nat → Int32) (mw : Int32) (my : Int32) (mC : Nat) (mk : Nat → Int32) (ms : Nat → Int32) (mu : Nat → Int32) (mt : Nat → Int32) (mp : Nat → Int32) (mb : Nat → Int32) (me : Nat → Int32) (hK8 : mK ≤ 8) (hD8 : mD ≤ 8) : Met l yX3_strayCount wsX3_strayCount ({ frames := 3, cells := 0, slots := 0, locals := 69 } : Room) (rdP [.ref (md 0)] D (wMd md cI th mK mc mD mr mw my mC mk ms mu mt mp mb me) [(cI, .int)]) (vp_Si (fun rZ => rZ = mStrays mr mc mK mD mK)) 0 0 (fun _ => False) := by
  refine Met.ofW (cc := cX3_strayCount) (maxL := 4) (ret := (some .int)) (by decide) rfl ?_
  intro p e s m args below meth c s₁ B hml hv
  obtain ⟨rfl, hP, hK⟩ := hv
  have hx := B.exec
  have hb := B.bytes
  have hr := B.returns
  have hts := atoms_spec (ws := wsX3_strayCount) B.pre
  have hown : s.vm.findClass RX3 = some m.cls := findClass_of_methodNamed B.named
  have hlocks := B.notSynchronized
  have hS : va_S (fun _ => False) s.heap s.heap [] := va_S.rf
  have hinX3 : ∀ w ∈ u_ws RX3 TX3 15, w ∈ wsX3_strayCount := by decide +kernel
  have hf41 := hts (.fieldLink RX3 41 "KeyCabinetModel" "keys" "I") (by decide +kernel)
  have hf44 := hts (.fieldLink RX3 44 "KeyCabinetModel" "doors" "I") (by decide +kernel)
  have hf9 := hts (.fieldLink RX3 9 "KeyCabinetModel" "codes" "[I") (by decide +kernel)
  have hf13 := hts (.fieldLink RX3 13 "KeyCabinetModel" "rights" "[I") (by decide +kernel)
  have hl := lv_entry ([.ref (md 0)]) (n := 4) (Nat.le_of_ble_eq_true rfl)
  rw [lg_entry_eq]
  generalize (lg_sl ([.ref (md 0)]) ++ List.replicate (4 - (lg_sl ([.ref (md 0)])).length) Slot.unset).toArray = ls at hl ⊢
  have hl : lv_has ls 4 [(0, .ref (md 0))] := hl
  refine lv_iconst (v := 0) hx hb dX3_strayCount_0 (by decide) ?_
  refine lv_istore_n (lv' := [(1, .int 0), (0, .ref (md 0))]) hx hb dX3_strayCount_1 rfl hl (by decide) rfl (fun ls hl => ?_)
  refine lv_iconst (v := 0) hx hb dX3_strayCount_2 (by decide) ?_
  refine lv_istore_n (lv' := [(2, .int 0), (1, .int 0), (0, .ref (md 0))]) hx hb dX3_strayCount_3 rfl hl (by decide) rfl (fun ls hl => ?_)
  refine kc_forW (pc := 4) (N := mK) (P := fun i ls => lv_has ls 4 [(2, .int (nI i)), (1, .int (mStrays mr mc mK mD i)), (0, .ref (md 0))]) (fun i ls hj_4 hp ih_4 => ?_) ls ?_
  · have hl := hp
    refine lv_iload_n hx hb dX3_strayCount_4 rfl (lv_at hl 0 rfl) ?_
    refine lv_aload_n hx hb dX3_strayCount_5 rfl (lv_at hl 2 rfl) ?_
    refine va_get (D := D) (ci := 3) (v := .int (nI mK)) (C := RX3) (T := TX3) (N := 15) hx hb hts hinX3 hown hK.1 hP 0 rfl rfl 1 (by decide) hf41 (fun _ h9 => h9) rfl dX3_strayCount_6 ?_
    refine kc_tst (j := i) (N := mK) (tgt := 69) hx hb dX3_strayCount_9 (by decide) hj_4 (by omega) (fun hN => ?_) (fun hlt_4 => ?_)
    · subst hN
      refine lv_iload_n hx hb dX3_strayCount_69 rfl (lv_at hl 1 rfl) ?_
      exact W.iret (v := mStrays mr mc mK mD mK) hx hb hr (fun tZ htZ hWZ => ⟨_, rfl, rfl, htZ⟩) hS.2.2 dX3_strayCount_70
    · refine lv_iconst (v := 0) hx hb dX3_strayCount_12 (by decide) ?_
      refine lv_istore_n (lv' := [(3, .int 0), (2, .int (nI i)), (1, .int (mStrays mr mc mK mD i)), (0, .ref (md 0))]) hx hb dX3_strayCount_13 rfl hl (by decide) rfl (fun ls hl => ?_)
      refine kc_forW (pc := 14) (N := mD) (P := fun j ls => lv_has ls 4 [(3, .int (nI j)), (2, .int (nI i)), (1, .int (mStrayK mr mc mK i (mStrays mr mc mK mD i) j)), (0, .ref (md 0))]) (fun j ls hj_14 hp ih_14 => ?_) ls ?_
      · have hl := hp
        refine lv_iload_n hx hb dX3_strayCount_14 rfl (lv_at hl 0 rfl) ?_
        refine lv_aload_n hx hb dX3_strayCount_15 rfl (lv_at hl 3 rfl) ?_
        refine va_get (D := D) (ci := 3) (v := .int (nI mD)) (C := RX3) (T := TX3) (N := 15) hx hb hts hinX3 hown hK.1 hP 0 rfl rfl 3 (by decide) hf44 (fun _ h9 => h9) rfl dX3_strayCount_16 ?_
        refine kc_tst (j := j) (N := mD) (tgt := 63) hx hb dX3_strayCount_19 (by decide) hj_14 (by omega) (fun hN => ?_) (fun hlt_14 => ?_)
        · subst hN
          refine lv_iinc (v := nI (i + 1)) (lv' := [(2, .int (nI (i + 1))), (3, .int (nI mD)), (1, .int (mStrayK mr mc mK i (mStrays mr mc mK mD i) mD)), (0, .ref (md 0))]) hx hb dX3_strayCount_63 hl (k := 1) rfl (kc_inc i) (by decide) rfl (fun ls hl => ?_)
          refine lv_goto (tgt := 4) hx hb dX3_strayCount_66 (by decide) ?_
          refine ih_4 _ hlt_4 ?_
          have eq_1 : mStrays mr mc mK mD (i + 1) = mStrayK mr mc mK i (mStrays mr mc mK mD i) mD := rfl
          show lv_has _ 4 [(2, .int (nI (i + 1))), (1, .int (mStrays mr mc mK mD (i + 1))), (0, .ref (md 0))]
          rw [eq_1]
          exact lv_sub hl [0, 2, 3] rfl
        · refine lv_iload_n hx hb dX3_strayCount_22 rfl (lv_at hl 2 rfl) ?_
          refine lv_aload_n hx hb dX3_strayCount_23 rfl (lv_at hl 3 rfl) ?_
          refine lv_aload_n hx hb dX3_strayCount_24 rfl (lv_at hl 3 rfl) ?_
          refine va_get (D := D) (ci := 3) (v := .ref (md 1)) (C := RX3) (T := TX3) (N := 15) hx hb hts hinX3 hown hK.1 hP 0 rfl rfl 2 (by decide) hf9 (fun _ h9 => h9) rfl dX3_strayCount_25 ?_
          refine lv_iload_n hx hb dX3_strayCount_28 rfl (lv_at hl 1 rfl) ?_
          refine kc_ald (i := i) (n := 8) hx hb hK hP 1 0 rfl rfl (by omega) (by decide) dX3_strayCount_29 ?_
          refine lv_iload_n hx hb dX3_strayCount_30 rfl (lv_at hl 0 rfl) ?_
          refine kc_rVi (As := [.int (mc i), .int (nI j)]) (rest := [.int (mStrayK mr mc mK i (mStrays mr mc mK mD i) j)]) ⟨hx, hb, hml, hown, hts⟩ (c_X3_opensWith l D md cI th mK mc mD mr mw my mC mk ms mu mt mp mb me (mc i) j hK8 (by first | assumption | omega)) (cwV 2 hts gX3_strayCount_X3_opensWith rfl rfl rfl (by decide +kernel) ⟨Nat.le_of_ble_eq_true rfl, Nat.le_of_ble_eq_true rfl⟩) hK hP [0, 1, 2, 3, 4, 5, 6, 7, 8, 9] [0] rfl rfl 0 rfl rfl rfl rfl hl.1 rfl (Nat.le_of_ble_eq_true rfl) dX3_strayCount_31 ⟨Nat.le_of_ble_eq_true rfl, Nat.le_of_ble_eq_true rfl⟩ ?_
          refine kc_ifeqB (tgt := 54) hx hb dX3_strayCount_34 (by decide) (fun c_34 => ?_) (fun c_34 => ?_)
          · refine lv_iconst (v := 0) hx hb dX3_strayCount_54 (by decide) ?_
            refine lv_iadd hx hb dX3_strayCount_55 ?_
            refine lv_istore_n (lv' := [(1, .int ((mStrayK mr mc mK i (mStrays mr mc mK mD i) j) + 0)), (3, .int (nI j)), (2, .int (nI i)), (0, .ref (md 0))]) hx hb dX3_strayCount_56 rfl hl (by decide) rfl (fun ls hl => ?_)
            refine lv_iinc (v := nI (j + 1)) (lv' := [(3, .int (nI (j + 1))), (1, .int ((mStrayK mr mc mK i (mStrays mr mc mK mD i) j) + 0)), (2, .int (nI i)), (0, .ref (md 0))]) hx hb dX3_strayCount_57 hl (k := 1) rfl (kc_inc j) (by decide) rfl (fun ls hl => ?_)
            refine lv_goto (tgt := 14) hx hb dX3_strayCount_60 (by decide) ?_
            refine ih_14 _ hlt_14 ?_
            have eq_1 : mStrayK mr mc mK i (mStrays mr mc mK mD i) (j + 1) = (mStrayK mr mc mK i (mStrays mr mc mK mD i) j) + 0 := by simp only [mStrayK, fo_s, if_neg c_34]
            show lv_has _ 4 [(3, .int (nI (j + 1))), (2, .int (nI i)), (1, .int (mStrayK mr mc mK i (mStrays mr mc mK mD i) (j + 1))), (0, .ref (md 0))]
            rw [eq_1]
            exact lv_sub hl [0, 2, 1, 3] rfl
          · refine lv_aload_n hx hb dX3_strayCount_37 rfl (lv_at hl 3 rfl) ?_
            refine va_get (D := D) (ci := 3) (v := .ref (md 2)) (C := RX3) (T := TX3) (N := 15) hx hb hts hinX3 hown hK.1 hP 0 rfl rfl 4 (by decide) hf13 (fun _ h9 => h9) rfl dX3_strayCount_38 ?_
            refine lv_iload_n hx hb dX3_strayCount_41 rfl (lv_at hl 0 rfl) ?_
            refine kc_ald (i := j) (n := 8) hx hb hK hP 2 0 rfl rfl (by omega) (by decide) dX3_strayCount_42 ?_
            refine lv_iload_n hx hb dX3_strayCount_43 rfl (lv_at hl 1 rfl) ?_
            refine kc_rSi (As := [.int (mr j), .int (nI i)]) (rest := [.int (mStrayK mr mc mK i (mStrays mr mc mK mD i) j)]) ⟨hx, hb, hml, hown, hts⟩ (c_X3_has l (mr j) (nI i) ) (va_cwS 2 hts gX3_strayCount_X3_has rfl rfl rfl (by decide +kernel) ⟨Nat.le_of_ble_eq_true rfl, Nat.le_of_ble_eq_true rfl⟩) rfl hl.1 rfl (Nat.le_of_ble_eq_true rfl) dX3_strayCount_44 ⟨Nat.le_of_ble_eq_true rfl, Nat.le_of_ble_eq_true rfl⟩ ?_
            refine kc_ifneB (tgt := 54) hx hb dX3_strayCount_47 (by decide) (fun c_47 => ?_) (fun c_47 => ?_)
            · refine lv_iconst (v := 0) hx hb dX3_strayCount_54 (by decide) ?_
              refine lv_iadd hx hb dX3_strayCount_55 ?_
              refine lv_istore_n (lv' := [(1, .int ((mStrayK mr mc mK i (mStrays mr mc mK mD i) j) + 0)), (3, .int (nI j)), (2, .int (nI i)), (0, .ref (md 0))]) hx hb dX3_strayCount_56 rfl hl (by decide) rfl (fun ls hl => ?_)
              refine lv_iinc (v := nI (j + 1)) (lv' := [(3, .int (nI (j + 1))), (1, .int ((mStrayK mr mc mK i (mStrays mr mc mK mD i) j) + 0)), (2, .int (nI i)), (0, .ref (md 0))]) hx hb dX3_strayCount_57 hl (k := 1) rfl (kc_inc j) (by decide) rfl (fun ls hl => ?_)
              refine lv_goto (tgt := 14) hx hb dX3_strayCount_60 (by decide) ?_
              refine ih_14 _ hlt_14 ?_
              have eq_1 : mStrayK mr mc mK i (mStrays mr mc mK mD i) (j + 1) = (mStrayK mr mc mK i (mStrays mr mc mK mD i) j) + 0 := by simp only [mStrayK, fo_s, if_pos c_34, if_pos c_47]
              show lv_has _ 4 [(3, .int (nI (j + 1))), (2, .int (nI i)), (1, .int (mStrayK mr mc mK i (mStrays mr mc mK mD i) (j + 1))), (0, .ref (md 0))]
              rw [eq_1]
              exact lv_sub hl [0, 2, 1, 3] rfl
            · refine lv_iconst (v := 1) hx hb dX3_strayCount_50 (by decide) ?_
              refine lv_goto (tgt := 55) hx hb dX3_strayCount_51 (by decide) ?_
              refine lv_iadd hx hb dX3_strayCount_55 ?_
              refine lv_istore_n (lv' := [(1, .int ((mStrayK mr mc mK i (mStrays mr mc mK mD i) j) + 1)), (3, .int (nI j)), (2, .int (nI i)), (0, .ref (md 0))]) hx hb dX3_strayCount_56 rfl hl (by decide) rfl (fun ls hl => ?_)
              refine lv_iinc (v := nI (j + 1)) (lv' := [(3, .int (nI (j + 1))), (1, .int ((mStrayK mr mc mK i (mStrays mr mc mK mD i) j) + 1)), (2, .int (nI i)), (0, .ref (md 0))]) hx hb dX3_strayCount_57 hl (k := 1) rfl (kc_inc j) (by decide) rfl (fun ls hl => ?_)
              refine lv_goto (tgt := 14) hx hb dX3_strayCount_60 (by decide) ?_
              refine ih_14 _ hlt_14 ?_
              have eq_1 : mStrayK mr mc mK i (mStrays mr mc mK mD i) (j + 1) = (mStrayK mr mc mK i (mStrays mr mc mK mD i) j) + 1 := by simp only [mStrayK, fo_s, if_pos c_34, if_neg c_47]
              show lv_has _ 4 [(3, .int (nI (j + 1))), (2, .int (nI i)), (1, .int (mStrayK mr mc mK i (mStrays mr mc mK mD i) (j + 1))), (0, .ref (md 0))]
              rw [eq_1]
              exact lv_sub hl [0, 2, 1, 3] rfl
      · exact lv_sub hl [0, 1, 2, 3] rfl
  · exact lv_sub hl [0, 1, 2] rfl
set_option maxHeartbeats 4000000 in
set_option maxRecDepth 100000 in
theorem c_X3_told (l : Launch) (D : va_G) (md : Nat → Nat) (cI : ClassId) (th : Int32) (mK : Nat) (mc : Nat → Int32) (mD : Nat) (mr : Nat → Int32) (mw : Int32) (my : Int32) (mC : Nat) (mk : Nat → Int32) (ms : Nat → Int32) (mu : Nat → Int32) (mt : Nat → Int32) (mp : Nat → Int32) (mb : Nat → Int32) (me : Nat → Int32) (tn : Nat → Nat) (cx : Nat) (wh : Int32) (hc : cx < 24) (hok : okLe ms mt tn) : Met l yX3_told wsX3_told ({ frames := 0, cells := 0, slots := 0, locals := 0 } : Room) (rdP [.ref (md 0), .int (nI cx), .int wh] D (wMd md cI th mK mc mD mr mw my mC mk ms mu mt mp mb me) [(cI, .int)]) (vp_Si (fun rZ => rZ = mTold mk ms mu mt mp tn cx wh)) 0 0 (fun _ => False) := by
  refine Met.ofW (cc := cX3_told) (maxL := 4) (ret := (some .int)) (by decide) rfl ?_
  intro p e s m args below meth c s₁ B hml hv
  obtain ⟨rfl, hP, hK⟩ := hv
  have hx := B.exec
  have hb := B.bytes
  have hr := B.returns
  have hts := atoms_spec (ws := wsX3_told) B.pre
  have hown : s.vm.findClass RX3 = some m.cls := findClass_of_methodNamed B.named
  have hlocks := B.notSynchronized
  have hS : va_S (fun _ => False) s.heap s.heap [] := va_S.rf
  have hinX3 : ∀ w ∈ u_ws RX3 TX3 15, w ∈ wsX3_told := by decide +kernel
  have hf19 := hts (.fieldLink RX3 19 "KeyCabinetModel" "states" "[I") (by decide +kernel)
  have hf16 := hts (.fieldLink RX3 16 "KeyCabinetModel" "copyKeys" "[I") (by decide +kernel)
  have hf25 := hts (.fieldLink RX3 25 "KeyCabinetModel" "times" "[I") (by decide +kernel)
  have hf28 := hts (.fieldLink RX3 28 "KeyCabinetModel" "persons" "[I") (by decide +kernel)
  have hf22 := hts (.fieldLink RX3 22 "KeyCabinetModel" "dues" "[I") (by decide +kernel)
  have hokc := hok cx hc
  have hl := lv_entry ([.ref (md 0), .int (nI cx), .int wh]) (n := 4) (Nat.le_of_ble_eq_true rfl)
  rw [lg_entry_eq]
  generalize (lg_sl ([.ref (md 0), .int (nI cx), .int wh]) ++ List.replicate (4 - (lg_sl ([.ref (md 0), .int (nI cx), .int wh])).length) Slot.unset).toArray = ls at hl ⊢
  have hl : lv_has ls 4 [(0, .ref (md 0)), (1, .int (nI cx)), (2, .int wh)] := hl
  refine lv_aload_n hx hb dX3_told_0 rfl (lv_at hl 0 rfl) ?_
  refine va_get (D := D) (ci := 3) (v := .ref (md 4)) (C := RX3) (T := TX3) (N := 15) hx hb hts hinX3 hown hK.1 hP 0 rfl rfl 9 (by decide) hf19 (fun _ h9 => h9) rfl dX3_told_1 ?_
  refine lv_iload_n hx hb dX3_told_4 rfl (lv_at hl 1 rfl) ?_
  refine kc_ald (i := cx) (n := 24) hx hb hK hP 4 0 rfl rfl (by omega) (by decide) dX3_told_5 ?_
  refine lv_iconst (v := 1) hx hb dX3_told_6 (by decide) ?_
  refine lv_icmp_ne (tgt := 14) hx hb dX3_told_7 (by decide) (fun c_7 => ?_) (fun c_7 => ?_)
  · refine lv_iconst (v := 0) hx hb dX3_told_14 (by decide) ?_
    refine lv_istore_n (lv' := [(3, .int 0), (0, .ref (md 0)), (1, .int (nI cx)), (2, .int wh)]) hx hb dX3_told_15 rfl hl (by decide) rfl (fun ls hl => ?_)
    refine lv_iload_n hx hb dX3_told_16 rfl (lv_at hl 3 rfl) ?_
    by_cases c17_0 : wh = 0
    · refine lv_tableIn (tgt := 48) hx hb dX3_told_17 (by rw [c17_0]; decide) (by rw [c17_0]; decide) (by rw [c17_0]; rfl) (by decide) ?_
      refine lv_aload_n hx hb dX3_told_48 rfl (lv_at hl 1 rfl) ?_
      refine va_get (D := D) (ci := 3) (v := .ref (md 3)) (C := RX3) (T := TX3) (N := 15) hx hb hts hinX3 hown hK.1 hP 0 rfl rfl 8 (by decide) hf16 (fun _ h9 => h9) rfl dX3_told_49 ?_
      refine lv_iload_n hx hb dX3_told_52 rfl (lv_at hl 2 rfl) ?_
      refine kc_ald (i := cx) (n := 24) hx hb hK hP 3 0 rfl rfl (by omega) (by decide) dX3_told_53 ?_
      exact W.iret (v := mk cx) hx hb hr (fun tZ htZ hWZ => ⟨_, rfl, (by simp only [mTold, if_neg c_7, if_pos c17_0]), htZ⟩) hS.2.2 dX3_told_54
    by_cases c17_1 : wh = 1
    · refine lv_tableIn (tgt := 55) hx hb dX3_told_17 (by rw [c17_1]; decide) (by rw [c17_1]; decide) (by rw [c17_1]; rfl) (by decide) ?_
      refine lv_aload_n hx hb dX3_told_55 rfl (lv_at hl 1 rfl) ?_
      refine va_get (D := D) (ci := 3) (v := .ref (md 4)) (C := RX3) (T := TX3) (N := 15) hx hb hts hinX3 hown hK.1 hP 0 rfl rfl 9 (by decide) hf19 (fun _ h9 => h9) rfl dX3_told_56 ?_
      refine lv_iload_n hx hb dX3_told_59 rfl (lv_at hl 2 rfl) ?_
      refine kc_ald (i := cx) (n := 24) hx hb hK hP 4 0 rfl rfl (by omega) (by decide) dX3_told_60 ?_
      exact W.iret (v := ms cx) hx hb hr (fun tZ htZ hWZ => ⟨_, rfl, (by simp only [mTold, if_neg c_7, if_neg c17_0, if_pos c17_1]), htZ⟩) hS.2.2 dX3_told_61
    by_cases c17_2 : wh = 2
    · refine lv_tableIn (tgt := 62) hx hb dX3_told_17 (by rw [c17_2]; decide) (by rw [c17_2]; decide) (by rw [c17_2]; rfl) (by decide) ?_
      refine lv_iload_n hx hb dX3_told_62 rfl (lv_at hl 0 rfl) ?_
      refine lv_if_eq (tgt := 87) hx hb dX3_told_63 (by decide) (fun c_63 => ?_) (fun c_63 => absurd c_63 (by decide))
      refine lv_iconst (v := (-1)) hx hb dX3_told_87 (by decide) ?_
      exact W.iret (v := (-1)) hx hb hr (fun tZ htZ hWZ => ⟨_, rfl, (by simp only [mTold, if_neg c_7, if_neg c17_0, if_neg c17_1, if_pos c17_2]), htZ⟩) hS.2.2 dX3_told_88
    by_cases c17_3 : wh = 3
    · refine lv_tableIn (tgt := 89) hx hb dX3_told_17 (by rw [c17_3]; decide) (by rw [c17_3]; decide) (by rw [c17_3]; rfl) (by decide) ?_
      refine lv_iload_n hx hb dX3_told_89 rfl (lv_at hl 0 rfl) ?_
      refine lv_if_eq (tgt := 102) hx hb dX3_told_90 (by decide) (fun c_90 => ?_) (fun c_90 => absurd c_90 (by decide))
      refine lv_iconst (v := (-1)) hx hb dX3_told_102 (by decide) ?_
      exact W.iret (v := (-1)) hx hb hr (fun tZ htZ hWZ => ⟨_, rfl, (by simp only [mTold, if_neg c_7, if_neg c17_0, if_neg c17_1, if_neg c17_2, if_pos c17_3]), htZ⟩) hS.2.2 dX3_told_103
    refine lv_tableOut (tgt := 104) hx hb dX3_told_17 (kc_sw4 c17_0 c17_1 c17_2 c17_3) (by decide) ?_
    refine lv_aload_n hx hb dX3_told_104 rfl (lv_at hl 1 rfl) ?_
    refine va_get (D := D) (ci := 3) (v := .ref (md 6)) (C := RX3) (T := TX3) (N := 15) hx hb hts hinX3 hown hK.1 hP 0 rfl rfl 11 (by decide) hf25 (fun _ h9 => h9) rfl dX3_told_105 ?_
    refine lv_iload_n hx hb dX3_told_108 rfl (lv_at hl 2 rfl) ?_
    refine kc_ald (i := cx) (n := 24) hx hb hK hP 6 0 rfl rfl (by omega) (by decide) dX3_told_109 ?_
    exact W.iret (v := mt cx) hx hb hr (fun tZ htZ hWZ => ⟨_, rfl, (by simp only [mTold, if_neg c_7, if_neg c17_0, if_neg c17_1, if_neg c17_2, if_neg c17_3]), htZ⟩) hS.2.2 dX3_told_110
  · refine lv_iconst (v := 1) hx hb dX3_told_10 (by decide) ?_
    refine lv_goto (tgt := 15) hx hb dX3_told_11 (by decide) ?_
    refine lv_istore_n (lv' := [(3, .int 1), (0, .ref (md 0)), (1, .int (nI cx)), (2, .int wh)]) hx hb dX3_told_15 rfl hl (by decide) rfl (fun ls hl => ?_)
    refine lv_iload_n hx hb dX3_told_16 rfl (lv_at hl 3 rfl) ?_
    by_cases c17_0 : wh = 0
    · refine lv_tableIn (tgt := 48) hx hb dX3_told_17 (by rw [c17_0]; decide) (by rw [c17_0]; decide) (by rw [c17_0]; rfl) (by decide) ?_
      refine lv_aload_n hx hb dX3_told_48 rfl (lv_at hl 1 rfl) ?_
      refine va_get (D := D) (ci := 3) (v := .ref (md 3)) (C := RX3) (T := TX3) (N := 15) hx hb hts hinX3 hown hK.1 hP 0 rfl rfl 8 (by decide) hf16 (fun _ h9 => h9) rfl dX3_told_49 ?_
      refine lv_iload_n hx hb dX3_told_52 rfl (lv_at hl 2 rfl) ?_
      refine kc_ald (i := cx) (n := 24) hx hb hK hP 3 0 rfl rfl (by omega) (by decide) dX3_told_53 ?_
      exact W.iret (v := mk cx) hx hb hr (fun tZ htZ hWZ => ⟨_, rfl, (by simp only [mTold, if_pos c_7, if_pos c17_0]), htZ⟩) hS.2.2 dX3_told_54
    by_cases c17_1 : wh = 1
    · refine lv_tableIn (tgt := 55) hx hb dX3_told_17 (by rw [c17_1]; decide) (by rw [c17_1]; decide) (by rw [c17_1]; rfl) (by decide) ?_
      refine lv_aload_n hx hb dX3_told_55 rfl (lv_at hl 1 rfl) ?_
      refine va_get (D := D) (ci := 3) (v := .ref (md 4)) (C := RX3) (T := TX3) (N := 15) hx hb hts hinX3 hown hK.1 hP 0 rfl rfl 9 (by decide) hf19 (fun _ h9 => h9) rfl dX3_told_56 ?_
      refine lv_iload_n hx hb dX3_told_59 rfl (lv_at hl 2 rfl) ?_
      refine kc_ald (i := cx) (n := 24) hx hb hK hP 4 0 rfl rfl (by omega) (by decide) dX3_told_60 ?_
      exact W.iret (v := ms cx) hx hb hr (fun tZ htZ hWZ => ⟨_, rfl, (by simp only [mTold, if_pos c_7, if_neg c17_0, if_pos c17_1]), htZ⟩) hS.2.2 dX3_told_61
    by_cases c17_2 : wh = 2
    · refine lv_tableIn (tgt := 62) hx hb dX3_told_17 (by rw [c17_2]; decide) (by rw [c17_2]; decide) (by rw [c17_2]; rfl) (by decide) ?_
      refine lv_iload_n hx hb dX3_told_62 rfl (lv_at hl 0 rfl) ?_
      refine lv_if_eq (tgt := 87) hx hb dX3_told_63 (by decide) (fun c_63 => absurd c_63 (by decide)) (fun c_63 => ?_)
      refine lv_aload_n hx hb dX3_told_66 rfl (lv_at hl 1 rfl) ?_
      refine va_get (D := D) (ci := 3) (v := .ref (md 7)) (C := RX3) (T := TX3) (N := 15) hx hb hts hinX3 hown hK.1 hP 0 rfl rfl 12 (by decide) hf28 (fun _ h9 => h9) rfl dX3_told_67 ?_
      refine lv_bipush (v := 9) hx hb dX3_told_70 (by decide) ?_
      refine lv_iload_n hx hb dX3_told_72 rfl (lv_at hl 2 rfl) ?_
      refine lv_imul hx hb dX3_told_73 ?_
      refine kc_top (show 9 * (nI cx) = nI (cx * 9) from kc_9 cx) ?_
      refine lv_aload_n hx hb dX3_told_74 rfl (lv_at hl 1 rfl) ?_
      refine va_get (D := D) (ci := 3) (v := .ref (md 6)) (C := RX3) (T := TX3) (N := 15) hx hb hts hinX3 hown hK.1 hP 0 rfl rfl 11 (by decide) hf25 (fun _ h9 => h9) rfl dX3_told_75 ?_
      refine lv_iload_n hx hb dX3_told_78 rfl (lv_at hl 2 rfl) ?_
      refine kc_ald (i := cx) (n := 24) hx hb hK hP 6 0 rfl rfl (by omega) (by decide) dX3_told_79 ?_
      refine kc_top (show mt cx = nI (tn cx) from hokc.1) ?_
      refine lv_iadd hx hb dX3_told_80 ?_
      refine kc_top (show (nI (cx * 9)) + (nI (tn cx)) = nI ((cx * 9) + (tn cx)) from nI_add _ _) ?_
      refine lv_iconst (v := 1) hx hb dX3_told_81 (by decide) ?_
      refine lv_isub hx hb dX3_told_82 ?_
      refine kc_top (show (nI ((cx * 9) + (tn cx))) - 1 = nI (cx * 9 + tn cx - 1) from pk_sub (a := cx * 9 + tn cx) (b := 1) (by have := hokc.2.2 c_7; omega)) ?_
      refine kc_ald (i := (cx * 9 + tn cx - 1)) (n := 216) hx hb hK hP 7 0 rfl rfl (by omega) (by decide) dX3_told_83 ?_
      refine lv_goto (tgt := 88) hx hb dX3_told_84 (by decide) ?_
      exact W.iret (v := mp (cx * 9 + tn cx - 1)) hx hb hr (fun tZ htZ hWZ => ⟨_, rfl, (by simp only [mTold, if_pos c_7, if_neg c17_0, if_neg c17_1, if_pos c17_2]), htZ⟩) hS.2.2 dX3_told_88
    by_cases c17_3 : wh = 3
    · refine lv_tableIn (tgt := 89) hx hb dX3_told_17 (by rw [c17_3]; decide) (by rw [c17_3]; decide) (by rw [c17_3]; rfl) (by decide) ?_
      refine lv_iload_n hx hb dX3_told_89 rfl (lv_at hl 0 rfl) ?_
      refine lv_if_eq (tgt := 102) hx hb dX3_told_90 (by decide) (fun c_90 => absurd c_90 (by decide)) (fun c_90 => ?_)
      refine lv_aload_n hx hb dX3_told_93 rfl (lv_at hl 1 rfl) ?_
      refine va_get (D := D) (ci := 3) (v := .ref (md 5)) (C := RX3) (T := TX3) (N := 15) hx hb hts hinX3 hown hK.1 hP 0 rfl rfl 10 (by decide) hf22 (fun _ h9 => h9) rfl dX3_told_94 ?_
      refine lv_iload_n hx hb dX3_told_97 rfl (lv_at hl 2 rfl) ?_
      refine kc_ald (i := cx) (n := 24) hx hb hK hP 5 0 rfl rfl (by omega) (by decide) dX3_told_98 ?_
      refine lv_goto (tgt := 103) hx hb dX3_told_99 (by decide) ?_
      exact W.iret (v := mu cx) hx hb hr (fun tZ htZ hWZ => ⟨_, rfl, (by simp only [mTold, if_pos c_7, if_neg c17_0, if_neg c17_1, if_neg c17_2, if_pos c17_3]), htZ⟩) hS.2.2 dX3_told_103
    refine lv_tableOut (tgt := 104) hx hb dX3_told_17 (kc_sw4 c17_0 c17_1 c17_2 c17_3) (by decide) ?_
    refine lv_aload_n hx hb dX3_told_104 rfl (lv_at hl 1 rfl) ?_
    refine va_get (D := D) (ci := 3) (v := .ref (md 6)) (C := RX3) (T := TX3) (N := 15) hx hb hts hinX3 hown hK.1 hP 0 rfl rfl 11 (by decide) hf25 (fun _ h9 => h9) rfl dX3_told_105 ?_
    refine lv_iload_n hx hb dX3_told_108 rfl (lv_at hl 2 rfl) ?_
    refine kc_ald (i := cx) (n := 24) hx hb hK hP 6 0 rfl rfl (by omega) (by decide) dX3_told_109 ?_
    exact W.iret (v := mt cx) hx hb hr (fun tZ htZ hWZ => ⟨_, rfl, (by simp only [mTold, if_pos c_7, if_neg c17_0, if_neg c17_1, if_neg c17_2, if_neg c17_3]), htZ⟩) hS.2.2 dX3_told_110
set_option maxHeartbeats 4000000 in
set_option maxRecDepth 100000 in
theorem c_X3_riskyDoors (l : Launch) (D : va_G) (md : Nat → Nat) (cI : ClassId) (th : Int32) (mK : Nat) (mc : Nat → Int32) (mD : Nat) (mr : Nat → Int32) (mw : Int32) (my : Int32) (mC : Nat) (mk : Nat → Int32) (ms : Nat → Int32) (mu : Nat → Int32) (mt : Nat → Int32) (mp : Nat → Int32) (mb : Nat → Int32) (me : Nat → Int32) (kn : Nat → Nat) (hK8 : mK ≤ 8) (hD8 : mD ≤ 8) (hC24 : mC ≤ 24) (hkn : okKe mC mk kn) : Met l yX3_riskyDoors wsX3_riskyDoors ({ frames := 4, cells := 0, slots := 0, locals := 92 } : Room) (rdP [.ref (md 0)] D (wMd md cI th mK mc mD mr mw my mC mk ms mu mt mp mb me) [(cI, .int)]) (vp_Si (fun rZ => rZ = mRisk mr mc ms mK mD kn mC)) 0 0 (fun _ => False) := by
  refine Met.ofW (cc := cX3_riskyDoors) (maxL := 3) (ret := (some .int)) (by decide) rfl ?_
  intro p e s m args below meth c s₁ B hml hv
  obtain ⟨rfl, hP, hK⟩ := hv
  have hx := B.exec
  have hb := B.bytes
  have hr := B.returns
  have hts := atoms_spec (ws := wsX3_riskyDoors) B.pre
  have hown : s.vm.findClass RX3 = some m.cls := findClass_of_methodNamed B.named
  have hlocks := B.notSynchronized
  have hS : va_S (fun _ => False) s.heap s.heap [] := va_S.rf
  have hinX3 : ∀ w ∈ u_ws RX3 TX3 15, w ∈ wsX3_riskyDoors := by decide +kernel
  have hf47 := hts (.fieldLink RX3 47 "KeyCabinetModel" "copies" "I") (by decide +kernel)
  have hf19 := hts (.fieldLink RX3 19 "KeyCabinetModel" "states" "[I") (by decide +kernel)
  have hf9 := hts (.fieldLink RX3 9 "KeyCabinetModel" "codes" "[I") (by decide +kernel)
  have hf16 := hts (.fieldLink RX3 16 "KeyCabinetModel" "copyKeys" "[I") (by decide +kernel)
  have hl := lv_entry ([.ref (md 0)]) (n := 3) (Nat.le_of_ble_eq_true rfl)
  rw [lg_entry_eq]
  generalize (lg_sl ([.ref (md 0)]) ++ List.replicate (3 - (lg_sl ([.ref (md 0)])).length) Slot.unset).toArray = ls at hl ⊢
  have hl : lv_has ls 3 [(0, .ref (md 0))] := hl
  refine lv_iconst (v := 0) hx hb dX3_riskyDoors_0 (by decide) ?_
  refine lv_istore_n (lv' := [(1, .int 0), (0, .ref (md 0))]) hx hb dX3_riskyDoors_1 rfl hl (by decide) rfl (fun ls hl => ?_)
  refine lv_iconst (v := 0) hx hb dX3_riskyDoors_2 (by decide) ?_
  refine lv_istore_n (lv' := [(2, .int 0), (1, .int 0), (0, .ref (md 0))]) hx hb dX3_riskyDoors_3 rfl hl (by decide) rfl (fun ls hl => ?_)
  refine kc_forW (pc := 4) (N := mC) (P := fun j ls => lv_has ls 3 [(2, .int (nI j)), (1, .int (mRisk mr mc ms mK mD kn j)), (0, .ref (md 0))]) (fun j ls hj_4 hp ih_4 => ?_) ls ?_
  · have hl := hp
    refine lv_iload_n hx hb dX3_riskyDoors_4 rfl (lv_at hl 0 rfl) ?_
    refine lv_aload_n hx hb dX3_riskyDoors_5 rfl (lv_at hl 2 rfl) ?_
    refine va_get (D := D) (ci := 3) (v := .int (nI mC)) (C := RX3) (T := TX3) (N := 15) hx hb hts hinX3 hown hK.1 hP 0 rfl rfl 7 (by decide) hf47 (fun _ h9 => h9) rfl dX3_riskyDoors_6 ?_
    refine kc_tst (j := j) (N := mC) (tgt := 46) hx hb dX3_riskyDoors_9 (by decide) hj_4 (by omega) (fun hN => ?_) (fun hlt_4 => ?_)
    · subst hN
      refine lv_iload_n hx hb dX3_riskyDoors_46 rfl (lv_at hl 1 rfl) ?_
      exact W.iret (v := mRisk mr mc ms mK mD kn mC) hx hb hr (fun tZ htZ hWZ => ⟨_, rfl, rfl, htZ⟩) hS.2.2 dX3_riskyDoors_47
    · refine lv_aload_n hx hb dX3_riskyDoors_12 rfl (lv_at hl 2 rfl) ?_
      refine va_get (D := D) (ci := 3) (v := .ref (md 4)) (C := RX3) (T := TX3) (N := 15) hx hb hts hinX3 hown hK.1 hP 0 rfl rfl 9 (by decide) hf19 (fun _ h9 => h9) rfl dX3_riskyDoors_13 ?_
      refine lv_iload_n hx hb dX3_riskyDoors_16 rfl (lv_at hl 0 rfl) ?_
      refine kc_ald (i := j) (n := 24) hx hb hK hP 4 0 rfl rfl (by omega) (by decide) dX3_riskyDoors_17 ?_
      refine lv_iconst (v := 2) hx hb dX3_riskyDoors_18 (by decide) ?_
      refine lv_icmp_ne (tgt := 40) hx hb dX3_riskyDoors_19 (by decide) (fun c_19 => ?_) (fun c_19 => ?_)
      · refine lv_iinc (v := nI (j + 1)) (lv' := [(2, .int (nI (j + 1))), (1, .int (mRisk mr mc ms mK mD kn j)), (0, .ref (md 0))]) hx hb dX3_riskyDoors_40 hl (k := 0) rfl (kc_inc j) (by decide) rfl (fun ls hl => ?_)
        refine lv_goto (tgt := 4) hx hb dX3_riskyDoors_43 (by decide) ?_
        refine ih_4 _ hlt_4 ?_
        have eq_1 : mRisk mr mc ms mK mD kn (j + 1) = mRisk mr mc ms mK mD kn j := by simp only [mRisk, fo_s, if_neg c_19]
        show lv_has _ 3 [(2, .int (nI (j + 1))), (1, .int (mRisk mr mc ms mK mD kn (j + 1))), (0, .ref (md 0))]
        rw [eq_1]
        exact lv_sub hl [0, 1, 2] rfl
      · refine lv_iload_n hx hb dX3_riskyDoors_22 rfl (lv_at hl 1 rfl) ?_
        refine lv_aload_n hx hb dX3_riskyDoors_23 rfl (lv_at hl 2 rfl) ?_
        refine lv_aload_n hx hb dX3_riskyDoors_24 rfl (lv_at hl 2 rfl) ?_
        refine va_get (D := D) (ci := 3) (v := .ref (md 1)) (C := RX3) (T := TX3) (N := 15) hx hb hts hinX3 hown hK.1 hP 0 rfl rfl 2 (by decide) hf9 (fun _ h9 => h9) rfl dX3_riskyDoors_25 ?_
        refine lv_aload_n hx hb dX3_riskyDoors_28 rfl (lv_at hl 2 rfl) ?_
        refine va_get (D := D) (ci := 3) (v := .ref (md 3)) (C := RX3) (T := TX3) (N := 15) hx hb hts hinX3 hown hK.1 hP 0 rfl rfl 8 (by decide) hf16 (fun _ h9 => h9) rfl dX3_riskyDoors_29 ?_
        refine lv_iload_n hx hb dX3_riskyDoors_32 rfl (lv_at hl 0 rfl) ?_
        refine kc_ald (i := j) (n := 24) hx hb hK hP 3 0 rfl rfl (by omega) (by decide) dX3_riskyDoors_33 ?_
        refine kc_top (show mk j = nI (kn j) from (hkn j hlt_4).1) ?_
        refine kc_ald (i := (kn j)) (n := 8) hx hb hK hP 1 0 rfl rfl ((hkn j hlt_4).2) (by decide) dX3_riskyDoors_34 ?_
        refine kc_rVi (As := [.int (mc (kn j))]) (rest := [.int (mRisk mr mc ms mK mD kn j)]) ⟨hx, hb, hml, hown, hts⟩ (c_X3_doorsOf l D md cI th mK mc mD mr mw my mC mk ms mu mt mp mb me (mc (kn j)) hK8 hD8) (cwV 1 hts gX3_riskyDoors_X3_doorsOf rfl rfl rfl (by decide +kernel) ⟨Nat.le_of_ble_eq_true rfl, Nat.le_of_ble_eq_true rfl⟩) hK hP [0, 1, 2, 3, 4, 5, 6, 7, 8, 9] [0] rfl rfl 0 rfl rfl rfl rfl hl.1 rfl (Nat.le_of_ble_eq_true rfl) dX3_riskyDoors_35 ⟨Nat.le_of_ble_eq_true rfl, Nat.le_of_ble_eq_true rfl⟩ ?_
        refine lv_ior hx hb dX3_riskyDoors_38 ?_
        refine lv_istore_n (lv' := [(1, .int ((mRisk mr mc ms mK mD kn j) ||| (mDoors mr mc mK (mc (kn j)) mD))), (2, .int (nI j)), (0, .ref (md 0))]) hx hb dX3_riskyDoors_39 rfl hl (by decide) rfl (fun ls hl => ?_)
        refine lv_iinc (v := nI (j + 1)) (lv' := [(2, .int (nI (j + 1))), (1, .int ((mRisk mr mc ms mK mD kn j) ||| (mDoors mr mc mK (mc (kn j)) mD))), (0, .ref (md 0))]) hx hb dX3_riskyDoors_40 hl (k := 1) rfl (kc_inc j) (by decide) rfl (fun ls hl => ?_)
        refine lv_goto (tgt := 4) hx hb dX3_riskyDoors_43 (by decide) ?_
        refine ih_4 _ hlt_4 ?_
        have eq_1 : mRisk mr mc ms mK mD kn (j + 1) = (mRisk mr mc ms mK mD kn j) ||| (mDoors mr mc mK (mc (kn j)) mD) := by simp only [mRisk, fo_s, if_pos c_19]
        show lv_has _ 3 [(2, .int (nI (j + 1))), (1, .int (mRisk mr mc ms mK mD kn (j + 1))), (0, .ref (md 0))]
        rw [eq_1]
        exact lv_sub hl [0, 1, 2] rfl
  · exact lv_sub hl [0, 1, 2] rfl
set_option maxHeartbeats 4000000 in
set_option maxRecDepth 100000 in
theorem c_X3_reachOf (l : Launch) (D : va_G) (md : Nat → Nat) (cI : ClassId) (th : Int32) (mK : Nat) (mc : Nat → Int32) (mD : Nat) (mr : Nat → Int32) (mw : Int32) (my : Int32) (mC : Nat) (mk : Nat → Int32) (ms : Nat → Int32) (mu : Nat → Int32) (mt : Nat → Int32) (mp : Nat → Int32) (mb : Nat → Int32) (me : Nat → Int32) (kn : Nat → Nat) (tn : Nat → Nat) (pe : Int32) (hK8 : mK ≤ 8) (hD8 : mD ≤ 8) (hC24 : mC ≤ 24) (hkn : okKe mC mk kn) (hok : okLe ms mt tn) : Met l yX3_reachOf wsX3_reachOf ({ frames := 4, cells := 0, slots := 0, locals := 92 } : Room) (rdP [.ref (md 0), .int pe] D (wMd md cI th mK mc mD mr mw my mC mk ms mu mt mp mb me) [(cI, .int)]) (vp_Si (fun rZ => rZ = mReach mr mc mk ms mu mt mp mK mD kn tn pe mC)) 0 0 (fun _ => False) := by
  refine Met.ofW (cc := cX3_reachOf) (maxL := 4) (ret := (some .int)) (by decide) rfl ?_
  intro p e s m args below meth c s₁ B hml hv
  obtain ⟨rfl, hP, hK⟩ := hv
  have hx := B.exec
  have hb := B.bytes
  have hr := B.returns
  have hts := atoms_spec (ws := wsX3_reachOf) B.pre
  have hown : s.vm.findClass RX3 = some m.cls := findClass_of_methodNamed B.named
  have hlocks := B.notSynchronized
  have hS : va_S (fun _ => False) s.heap s.heap [] := va_S.rf
  have hinX3 : ∀ w ∈ u_ws RX3 TX3 15, w ∈ wsX3_reachOf := by decide +kernel
  have hf47 := hts (.fieldLink RX3 47 "KeyCabinetModel" "copies" "I") (by decide +kernel)
  have hf19 := hts (.fieldLink RX3 19 "KeyCabinetModel" "states" "[I") (by decide +kernel)
  have hf9 := hts (.fieldLink RX3 9 "KeyCabinetModel" "codes" "[I") (by decide +kernel)
  have hf16 := hts (.fieldLink RX3 16 "KeyCabinetModel" "copyKeys" "[I") (by decide +kernel)
  have hl := lv_entry ([.ref (md 0), .int pe]) (n := 4) (Nat.le_of_ble_eq_true rfl)
  rw [lg_entry_eq]
  generalize (lg_sl ([.ref (md 0), .int pe]) ++ List.replicate (4 - (lg_sl ([.ref (md 0), .int pe])).length) Slot.unset).toArray = ls at hl ⊢
  have hl : lv_has ls 4 [(0, .ref (md 0)), (1, .int pe)] := hl
  refine lv_iconst (v := 0) hx hb dX3_reachOf_0 (by decide) ?_
  refine lv_istore_n (lv' := [(2, .int 0), (0, .ref (md 0)), (1, .int pe)]) hx hb dX3_reachOf_1 rfl hl (by decide) rfl (fun ls hl => ?_)
  refine lv_iconst (v := 0) hx hb dX3_reachOf_2 (by decide) ?_
  refine lv_istore_n (lv' := [(3, .int 0), (2, .int 0), (0, .ref (md 0)), (1, .int pe)]) hx hb dX3_reachOf_3 rfl hl (by decide) rfl (fun ls hl => ?_)
  refine kc_forW (pc := 4) (N := mC) (P := fun j ls => lv_has ls 4 [(3, .int (nI j)), (2, .int (mReach mr mc mk ms mu mt mp mK mD kn tn pe j)), (0, .ref (md 0)), (1, .int pe)]) (fun j ls hj_4 hp ih_4 => ?_) ls ?_
  · have hl := hp
    refine lv_iload_n hx hb dX3_reachOf_4 rfl (lv_at hl 0 rfl) ?_
    refine lv_aload_n hx hb dX3_reachOf_5 rfl (lv_at hl 2 rfl) ?_
    refine va_get (D := D) (ci := 3) (v := .int (nI mC)) (C := RX3) (T := TX3) (N := 15) hx hb hts hinX3 hown hK.1 hP 0 rfl rfl 7 (by decide) hf47 (fun _ h9 => h9) rfl dX3_reachOf_6 ?_
    refine kc_tst (j := j) (N := mC) (tgt := 56) hx hb dX3_reachOf_9 (by decide) hj_4 (by omega) (fun hN => ?_) (fun hlt_4 => ?_)
    · subst hN
      refine lv_iload_n hx hb dX3_reachOf_56 rfl (lv_at hl 1 rfl) ?_
      exact W.iret (v := mReach mr mc mk ms mu mt mp mK mD kn tn pe mC) hx hb hr (fun tZ htZ hWZ => ⟨_, rfl, rfl, htZ⟩) hS.2.2 dX3_reachOf_57
    · refine lv_aload_n hx hb dX3_reachOf_12 rfl (lv_at hl 2 rfl) ?_
      refine va_get (D := D) (ci := 3) (v := .ref (md 4)) (C := RX3) (T := TX3) (N := 15) hx hb hts hinX3 hown hK.1 hP 0 rfl rfl 9 (by decide) hf19 (fun _ h9 => h9) rfl dX3_reachOf_13 ?_
      refine lv_iload_n hx hb dX3_reachOf_16 rfl (lv_at hl 0 rfl) ?_
      refine kc_ald (i := j) (n := 24) hx hb hK hP 4 0 rfl rfl (by omega) (by decide) dX3_reachOf_17 ?_
      refine lv_iconst (v := 1) hx hb dX3_reachOf_18 (by decide) ?_
      refine lv_icmp_ne (tgt := 50) hx hb dX3_reachOf_19 (by decide) (fun c_19 => ?_) (fun c_19 => ?_)
      · refine lv_iinc (v := nI (j + 1)) (lv' := [(3, .int (nI (j + 1))), (2, .int (mReach mr mc mk ms mu mt mp mK mD kn tn pe j)), (0, .ref (md 0)), (1, .int pe)]) hx hb dX3_reachOf_50 hl (k := 0) rfl (kc_inc j) (by decide) rfl (fun ls hl => ?_)
        refine lv_goto (tgt := 4) hx hb dX3_reachOf_53 (by decide) ?_
        refine ih_4 _ hlt_4 ?_
        have eq_2 : mReach mr mc mk ms mu mt mp mK mD kn tn pe (j + 1) = mReach mr mc mk ms mu mt mp mK mD kn tn pe j := by simp only [mReach, fo_s, if_neg c_19]
        show lv_has _ 4 [(3, .int (nI (j + 1))), (2, .int (mReach mr mc mk ms mu mt mp mK mD kn tn pe (j + 1))), (0, .ref (md 0)), (1, .int pe)]
        rw [eq_2]
        exact lv_sub hl [0, 1, 2, 3] rfl
      · refine lv_aload_n hx hb dX3_reachOf_22 rfl (lv_at hl 2 rfl) ?_
        refine lv_iload_n hx hb dX3_reachOf_23 rfl (lv_at hl 0 rfl) ?_
        refine lv_iconst (v := 2) hx hb dX3_reachOf_24 (by decide) ?_
        refine kc_rVi (As := [.int (nI j), .int 2]) (rest := []) ⟨hx, hb, hml, hown, hts⟩ (c_X3_told l D md cI th mK mc mD mr mw my mC mk ms mu mt mp mb me tn j 2 (by first | assumption | omega) hok) (cwV 2 hts gX3_reachOf_X3_told rfl rfl rfl (by decide +kernel) ⟨Nat.le_of_ble_eq_true rfl, Nat.le_of_ble_eq_true rfl⟩) hK hP [0, 1, 2, 3, 4, 5, 6, 7, 8, 9] [0] rfl rfl 0 rfl rfl rfl rfl hl.1 rfl (Nat.le_of_ble_eq_true rfl) dX3_reachOf_25 ⟨Nat.le_of_ble_eq_true rfl, Nat.le_of_ble_eq_true rfl⟩ ?_
        refine lv_iload_n hx hb dX3_reachOf_28 rfl (lv_at hl 3 rfl) ?_
        refine lv_icmp_ne (tgt := 50) hx hb dX3_reachOf_29 (by decide) (fun c_29 => ?_) (fun c_29 => ?_)
        · refine lv_iinc (v := nI (j + 1)) (lv' := [(3, .int (nI (j + 1))), (2, .int (mReach mr mc mk ms mu mt mp mK mD kn tn pe j)), (0, .ref (md 0)), (1, .int pe)]) hx hb dX3_reachOf_50 hl (k := 0) rfl (kc_inc j) (by decide) rfl (fun ls hl => ?_)
          refine lv_goto (tgt := 4) hx hb dX3_reachOf_53 (by decide) ?_
          refine ih_4 _ hlt_4 ?_
          have eq_2 : mReach mr mc mk ms mu mt mp mK mD kn tn pe (j + 1) = mReach mr mc mk ms mu mt mp mK mD kn tn pe j := by simp only [mReach, fo_s, if_pos c_19, if_neg c_29]
          show lv_has _ 4 [(3, .int (nI (j + 1))), (2, .int (mReach mr mc mk ms mu mt mp mK mD kn tn pe (j + 1))), (0, .ref (md 0)), (1, .int pe)]
          rw [eq_2]
          exact lv_sub hl [0, 1, 2, 3] rfl
        · refine lv_iload_n hx hb dX3_reachOf_32 rfl (lv_at hl 1 rfl) ?_
          refine lv_aload_n hx hb dX3_reachOf_33 rfl (lv_at hl 2 rfl) ?_
          refine lv_aload_n hx hb dX3_reachOf_34 rfl (lv_at hl 2 rfl) ?_
          refine va_get (D := D) (ci := 3) (v := .ref (md 1)) (C := RX3) (T := TX3) (N := 15) hx hb hts hinX3 hown hK.1 hP 0 rfl rfl 2 (by decide) hf9 (fun _ h9 => h9) rfl dX3_reachOf_35 ?_
          refine lv_aload_n hx hb dX3_reachOf_38 rfl (lv_at hl 2 rfl) ?_
          refine va_get (D := D) (ci := 3) (v := .ref (md 3)) (C := RX3) (T := TX3) (N := 15) hx hb hts hinX3 hown hK.1 hP 0 rfl rfl 8 (by decide) hf16 (fun _ h9 => h9) rfl dX3_reachOf_39 ?_
          refine lv_iload_n hx hb dX3_reachOf_42 rfl (lv_at hl 0 rfl) ?_
          refine kc_ald (i := j) (n := 24) hx hb hK hP 3 0 rfl rfl (by omega) (by decide) dX3_reachOf_43 ?_
          refine kc_top (show mk j = nI (kn j) from (hkn j hlt_4).1) ?_
          refine kc_ald (i := (kn j)) (n := 8) hx hb hK hP 1 0 rfl rfl ((hkn j hlt_4).2) (by decide) dX3_reachOf_44 ?_
          refine kc_rVi (As := [.int (mc (kn j))]) (rest := [.int (mReach mr mc mk ms mu mt mp mK mD kn tn pe j)]) ⟨hx, hb, hml, hown, hts⟩ (c_X3_doorsOf l D md cI th mK mc mD mr mw my mC mk ms mu mt mp mb me (mc (kn j)) hK8 hD8) (cwV 1 hts gX3_reachOf_X3_doorsOf rfl rfl rfl (by decide +kernel) ⟨Nat.le_of_ble_eq_true rfl, Nat.le_of_ble_eq_true rfl⟩) hK hP [0, 1, 2, 3, 4, 5, 6, 7, 8, 9] [0] rfl rfl 0 rfl rfl rfl rfl hl.1 rfl (Nat.le_of_ble_eq_true rfl) dX3_reachOf_45 ⟨Nat.le_of_ble_eq_true rfl, Nat.le_of_ble_eq_true rfl⟩ ?_
          refine lv_ior hx hb dX3_reachOf_48 ?_
          refine lv_istore_n (lv' := [(2, .int ((mReach mr mc mk ms mu mt mp mK mD kn tn pe j) ||| (mDoors mr mc mK (mc (kn j)) mD))), (3, .int (nI j)), (0, .ref (md 0)), (1, .int pe)]) hx hb dX3_reachOf_49 rfl hl (by decide) rfl (fun ls hl => ?_)
          refine lv_iinc (v := nI (j + 1)) (lv' := [(3, .int (nI (j + 1))), (2, .int ((mReach mr mc mk ms mu mt mp mK mD kn tn pe j) ||| (mDoors mr mc mK (mc (kn j)) mD))), (0, .ref (md 0)), (1, .int pe)]) hx hb dX3_reachOf_50 hl (k := 1) rfl (kc_inc j) (by decide) rfl (fun ls hl => ?_)
          refine lv_goto (tgt := 4) hx hb dX3_reachOf_53 (by decide) ?_
          refine ih_4 _ hlt_4 ?_
          have eq_2 : mReach mr mc mk ms mu mt mp mK mD kn tn pe (j + 1) = (mReach mr mc mk ms mu mt mp mK mD kn tn pe j) ||| (mDoors mr mc mK (mc (kn j)) mD) := by simp only [mReach, fo_s, if_pos c_19, if_pos c_29]
          show lv_has _ 4 [(3, .int (nI (j + 1))), (2, .int (mReach mr mc mk ms mu mt mp mK mD kn tn pe (j + 1))), (0, .ref (md 0)), (1, .int pe)]
          rw [eq_2]
          exact lv_sub hl [0, 1, 2, 3] rfl
  · exact lv_sub hl [0, 1, 2, 3] rfl
set_option maxHeartbeats 4000000 in
set_option maxRecDepth 100000 in
theorem c_X3_fail (l : Launch) (D : va_G) (md : Nat → Nat) (cI : ClassId) (th : Int32) (mK : Nat) (mc : Nat → Int32) (mD : Nat) (mr : Nat → Int32) (mw : Int32) (my : Int32) (mC : Nat) (mk : Nat → Int32) (ms : Nat → Int32) (mu : Nat → Int32) (mt : Nat → Int32) (mp : Nat → Int32) (mb : Nat → Int32) (me : Nat → Int32) (no : Int32) (sz : Nat)  : Met l yX3_fail wsX3_fail ({ frames := 0, cells := 0, slots := 0, locals := 0 } : Room) (wrP [.ref (md 0), .int no] D sz (wMd md cI th mK mc mD mr mw my mC mk ms mu mt mp mb me) [(cI, .int)]) (va_Qi (fun rZ (_ : Unit) => rZ = 0) (wrB D sz (wMd md cI th mK mc mD mr mw my mC mk ms mu mt mp mb me) (wMd md cI no mK mc mD mr mw my mC mk ms mu mt mp mb me)) (va_A (wMd md cI th mK mc mD mr mw my mC mk ms mu mt mp mb me) sz)) 0 0 (va_A (wMd md cI th mK mc mD mr mw my mC mk ms mu mt mp mb me) sz) := by
  refine Met.ofW (cc := cX3_fail) (maxL := 2) (ret := (some .int)) (by decide) rfl ?_
  intro p e s m args below meth c s₁ B hml hv
  obtain ⟨rfl, hsz, hP, hD0, hK⟩ := hv
  have hx := B.exec
  have hb := B.bytes
  have hr := B.returns
  have hts := atoms_spec (ws := wsX3_fail) B.pre
  have hown : s.vm.findClass RX3 = some m.cls := findClass_of_methodNamed B.named
  have hlocks := B.notSynchronized
  subst hsz
  have hD := hD0.self (sz := s.heap.size)
  generalize hAe : va_A (wMd md cI th mK mc mD mr mw my mC mk ms mu mt mp mb me) s.heap.size = A at hD ⊢
  have hA : ∀ q : Nat, s.heap.size ≤ q → A q := fun q h => by rw [← hAe]; exact Or.inr h
  have hinX3 : ∀ w ∈ u_ws RX3 TX3 15, w ∈ wsX3_fail := by decide +kernel
  have hf37 := hts (.fieldLink RX3 37 "KeyCabinetModel" "thrown" "I") (by decide +kernel)
  have hl := lv_entry ([.ref (md 0), .int no]) (n := 2) (Nat.le_of_ble_eq_true rfl)
  rw [lg_entry_eq]
  generalize (lg_sl ([.ref (md 0), .int no]) ++ List.replicate (2 - (lg_sl ([.ref (md 0), .int no])).length) Slot.unset).toArray = ls at hl ⊢
  have hl : lv_has ls 2 [(0, .ref (md 0)), (1, .int no)] := hl
  refine W.genH (fun H locs eH eL => ?_)
  have hS : va_S A s.heap H locs := by rw [eH, eL]; exact va_S.rf
  have hP : va_P D vwCl (wMd md cI th mK mc mD mr mw my mC mk ms mu mt mp mb me) H := by rw [eH]; exact hP
  clear eH eL
  refine lv_aload_n hx hb dX3_fail_0 rfl (lv_at hl 0 rfl) ?_
  refine lv_iload_n hx hb dX3_fail_1 rfl (lv_at hl 1 rfl) ?_
  refine va_put (D := D) (ci := 3) (v := .int no) (ty := .int) (C := RX3) (T := TX3) (N := 15) hx hb hts hinX3 tyX3 tyX3_ok nmX3 hown hK.1 hP hD hS 0 rfl rfl 0 (by decide) hf37 (fun _ h9 => h9) rfl (by decide +kernel) rfl rfl (Nat.le_of_ble_eq_true rfl) dX3_fail_2 (fun H locs hP hD hS => ?_)
  have hP : va_P D vwCl (wMd md cI no mK mc mD mr mw my mC mk ms mu mt mp mb me) H := hP
  have hD : va_D A (wMd md cI no mK mc mD mr mw my mC mk ms mu mt mp mb me) := hD
  refine lv_iconst (v := 0) hx hb dX3_fail_5 (by decide) ?_
  exact W.iret (v := 0) hx hb hr (fun tZ htZ hWZ => ⟨⟨_, (), rfl, rfl, by rw [htZ]; exact hP, by rw [hAe]; exact hD⟩, hS.F htZ⟩) hS.2.2 dX3_fail_6
set_option maxHeartbeats 4000000 in
set_option maxRecDepth 100000 in
theorem c_X3_stop (l : Launch) (D : va_G) (md : Nat → Nat) (cI : ClassId) (th : Int32) (mK : Nat) (mc : Nat → Int32) (mD : Nat) (mr : Nat → Int32) (mw : Int32) (my : Int32) (mC : Nat) (mk : Nat → Int32) (ms : Nat → Int32) (mu : Nat → Int32) (mt : Nat → Int32) (mp : Nat → Int32) (mb : Nat → Int32) (me : Nat → Int32) (tn : Nat → Nat) (cx : Nat) (sz : Nat) (hc : cx < 24) (hok : okLe ms mt tn) : Met l yX3_stop wsX3_stop ({ frames := 0, cells := 0, slots := 0, locals := 0 } : Room) (wrP [.ref (md 0), .int (nI cx)] D sz (wMd md cI th mK mc mD mr mw my mC mk ms mu mt mp mb me) [(cI, .int)]) (va_Qv (fun (_ : Unit) => True) (wrB D sz (wMd md cI th mK mc mD mr mw my mC mk ms mu mt mp mb me) (wMd md cI th mK mc mD mr mw my mC mk ms mu mt mp mb (jMoveEnd ms me tn cx my))) (va_A (wMd md cI th mK mc mD mr mw my mC mk ms mu mt mp mb me) sz)) 0 0 (va_A (wMd md cI th mK mc mD mr mw my mC mk ms mu mt mp mb me) sz) := by
  refine Met.ofW (cc := cX3_stop) (maxL := 2) (ret := none) (by decide) rfl ?_
  intro p e s m args below meth c s₁ B hml hv
  obtain ⟨rfl, hsz, hP, hD0, hK⟩ := hv
  have hx := B.exec
  have hb := B.bytes
  have hr := B.returns
  have hts := atoms_spec (ws := wsX3_stop) B.pre
  have hown : s.vm.findClass RX3 = some m.cls := findClass_of_methodNamed B.named
  have hlocks := B.notSynchronized
  subst hsz
  have hD := hD0.self (sz := s.heap.size)
  generalize hAe : va_A (wMd md cI th mK mc mD mr mw my mC mk ms mu mt mp mb me) s.heap.size = A at hD ⊢
  have hA : ∀ q : Nat, s.heap.size ≤ q → A q := fun q h => by rw [← hAe]; exact Or.inr h
  have hinX3 : ∀ w ∈ u_ws RX3 TX3 15, w ∈ wsX3_stop := by decide +kernel
  have hf19 := hts (.fieldLink RX3 19 "KeyCabinetModel" "states" "[I") (by decide +kernel)
  have hf34 := hts (.fieldLink RX3 34 "KeyCabinetModel" "ends" "[I") (by decide +kernel)
  have hf25 := hts (.fieldLink RX3 25 "KeyCabinetModel" "times" "[I") (by decide +kernel)
  have hf100 := hts (.fieldLink RX3 100 "KeyCabinetModel" "day" "I") (by decide +kernel)
  have hokc := hok cx hc
  have hl := lv_entry ([.ref (md 0), .int (nI cx)]) (n := 2) (Nat.le_of_ble_eq_true rfl)
  rw [lg_entry_eq]
  generalize (lg_sl ([.ref (md 0), .int (nI cx)]) ++ List.replicate (2 - (lg_sl ([.ref (md 0), .int (nI cx)])).length) Slot.unset).toArray = ls at hl ⊢
  have hl : lv_has ls 2 [(0, .ref (md 0)), (1, .int (nI cx))] := hl
  refine W.genH (fun H locs eH eL => ?_)
  have hS : va_S A s.heap H locs := by rw [eH, eL]; exact va_S.rf
  have hP : va_P D vwCl (wMd md cI th mK mc mD mr mw my mC mk ms mu mt mp mb me) H := by rw [eH]; exact hP
  clear eH eL
  refine lv_aload_n hx hb dX3_stop_0 rfl (lv_at hl 0 rfl) ?_
  refine va_get (D := D) (ci := 3) (v := .ref (md 4)) (C := RX3) (T := TX3) (N := 15) hx hb hts hinX3 hown hK.1 hP 0 rfl rfl 9 (by decide) hf19 (fun _ h9 => h9) rfl dX3_stop_1 ?_
  refine lv_iload_n hx hb dX3_stop_4 rfl (lv_at hl 1 rfl) ?_
  refine kc_ald (i := cx) (n := 24) hx hb hK hP 4 0 rfl rfl (by omega) (by decide) dX3_stop_5 ?_
  refine lv_iconst (v := 1) hx hb dX3_stop_6 (by decide) ?_
  refine lv_icmp_eq (tgt := 11) hx hb dX3_stop_7 (by decide) (fun c_7 => ?_) (fun c_7 => ?_)
  · refine lv_aload_n hx hb dX3_stop_11 rfl (lv_at hl 0 rfl) ?_
    refine va_get (D := D) (ci := 3) (v := .ref (md 9)) (C := RX3) (T := TX3) (N := 15) hx hb hts hinX3 hown hK.1 hP 0 rfl rfl 14 (by decide) hf34 (fun _ h9 => h9) rfl dX3_stop_12 ?_
    refine lv_bipush (v := 9) hx hb dX3_stop_15 (by decide) ?_
    refine lv_iload_n hx hb dX3_stop_17 rfl (lv_at hl 1 rfl) ?_
    refine lv_imul hx hb dX3_stop_18 ?_
    refine kc_top (show 9 * (nI cx) = nI (cx * 9) from kc_9 cx) ?_
    refine lv_aload_n hx hb dX3_stop_19 rfl (lv_at hl 0 rfl) ?_
    refine va_get (D := D) (ci := 3) (v := .ref (md 6)) (C := RX3) (T := TX3) (N := 15) hx hb hts hinX3 hown hK.1 hP 0 rfl rfl 11 (by decide) hf25 (fun _ h9 => h9) rfl dX3_stop_20 ?_
    refine lv_iload_n hx hb dX3_stop_23 rfl (lv_at hl 1 rfl) ?_
    refine kc_ald (i := cx) (n := 24) hx hb hK hP 6 0 rfl rfl (by omega) (by decide) dX3_stop_24 ?_
    refine kc_top (show mt cx = nI (tn cx) from hokc.1) ?_
    refine lv_iadd hx hb dX3_stop_25 ?_
    refine kc_top (show (nI (cx * 9)) + (nI (tn cx)) = nI ((cx * 9) + (tn cx)) from nI_add _ _) ?_
    refine lv_iconst (v := 1) hx hb dX3_stop_26 (by decide) ?_
    refine lv_isub hx hb dX3_stop_27 ?_
    refine kc_top (show (nI ((cx * 9) + (tn cx))) - 1 = nI (cx * 9 + tn cx - 1) from pk_sub (a := cx * 9 + tn cx) (b := 1) (by have := hokc.2.2 c_7; omega)) ?_
    refine lv_aload_n hx hb dX3_stop_28 rfl (lv_at hl 0 rfl) ?_
    refine va_get (D := D) (ci := 3) (v := .int my) (C := RX3) (T := TX3) (N := 15) hx hb hts hinX3 hown hK.1 hP 0 rfl rfl 6 (by decide) hf100 (fun _ h9 => h9) rfl dX3_stop_29 ?_
    refine kc_ast (i := (cx * 9 + tn cx - 1)) (n := 216) hx hb hK hP hD hS 9 0 rfl rfl (by omega) (by decide) dX3_stop_32 (fun H locs hP hD hS => ?_)
    have hP : va_P D vwCl (wMd md cI th mK mc mD mr mw my mC mk ms mu mt mp mb (upd me (cx * 9 + tn cx - 1) my)) H := hP
    have hD : va_D A (wMd md cI th mK mc mD mr mw my mC mk ms mu mt mp mb (upd me (cx * 9 + tn cx - 1) my)) := hD
    have eqw_me : jMoveEnd ms me tn cx my = upd me (cx * 9 + tn cx - 1) my := by simp only [jMoveEnd, if_pos c_7]
    have hP : va_P D vwCl (wMd md cI th mK mc mD mr mw my mC mk ms mu mt mp mb (jMoveEnd ms me tn cx my)) H := by rw [eqw_me]; exact hP
    have hD : va_D A (wMd md cI th mK mc mD mr mw my mC mk ms mu mt mp mb (jMoveEnd ms me tn cx my)) := by rw [eqw_me]; exact hD
    exact W.vret hx hb hr (fun tZ htZ hWZ => ⟨⟨(), rfl, trivial, by rw [htZ]; exact hP, by rw [hAe]; exact hD⟩, hS.F htZ⟩) hS.2.2 dX3_stop_33
  · have eqw_me : jMoveEnd ms me tn cx my = me := by simp only [jMoveEnd, if_neg c_7]
    have hP : va_P D vwCl (wMd md cI th mK mc mD mr mw my mC mk ms mu mt mp mb (jMoveEnd ms me tn cx my)) H := by rw [eqw_me]; exact hP
    have hD : va_D A (wMd md cI th mK mc mD mr mw my mC mk ms mu mt mp mb (jMoveEnd ms me tn cx my)) := by rw [eqw_me]; exact hD
    exact W.vret hx hb hr (fun tZ htZ hWZ => ⟨⟨(), rfl, trivial, by rw [htZ]; exact hP, by rw [hAe]; exact hD⟩, hS.F htZ⟩) hS.2.2 dX3_stop_10
