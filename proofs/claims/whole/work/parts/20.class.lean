abbrev wKc (ad : Nat → Nat) (cI : ClassId) (cd : Nat → Int32) (te : Nat → Int32) (ri : Nat → Int32) (pi : Nat → Int32) (pw : Nat → Int32) (K : Nat) (Dn : Nat) (mv : Int32) (ko : Nat → Int32) (so : Nat → Int32) (tl : Nat → Int32) (lp : Nat → Int32) (lb : Nat → Int32) (ld : Nat → Int32) (le : Nat → Int32) (C : Nat) (cl : Nat → Int32) (dq : Nat → Int32) (dy : Int32) : va_W := [(ad 0, .inr (1, [.ref (ad 1), .ref (ad 2), .ref (ad 3), .ref (ad 4), .ref (ad 5), .int (nI K), .int (nI Dn), .int mv])), (ad 1, .inl (cI, 8, .inl cd)), (ad 2, .inl (cI, 8, .inl te)), (ad 3, .inl (cI, 8, .inl ri)), (ad 4, .inl (cI, 8, .inl pi)), (ad 5, .inl (cI, 8, .inl pw)), (ad 6, .inr (0, [.ref (ad 7), .ref (ad 8), .ref (ad 9), .ref (ad 10), .ref (ad 11), .ref (ad 12), .ref (ad 13), .int (nI C)])), (ad 7, .inl (cI, 24, .inl ko)), (ad 8, .inl (cI, 24, .inl so)), (ad 9, .inl (cI, 24, .inl tl)), (ad 10, .inl (cI, 216, .inl lp)), (ad 11, .inl (cI, 216, .inl lb)), (ad 12, .inl (cI, 216, .inl ld)), (ad 13, .inl (cI, 216, .inl le)), (ad 14, .inr (2, [.ref (ad 0), .ref (ad 6), .ref (ad 15), .ref (ad 16), .int dy])), (ad 15, .inl (cI, 8, .inl cl)), (ad 16, .inl (cI, 8, .inl dq))]
set_option maxHeartbeats 4000000 in
set_option maxRecDepth 100000 in
theorem c_X2_isSetOf (l : Launch) (n : Nat) (sx : Int32)  : Met l yX2_isSetOf wsX2_isSetOf ({ frames := 0, cells := 0, slots := 0, locals := 0 } : Room) (stP [.int (nI n), .int sx]) (vp_Si (fun rZ => rZ = bI (jSetOf n sx))) 0 0 (fun _ => False) := by
  refine Met.ofW (cc := cX2_isSetOf) (maxL := 2) (ret := (some .boolean)) (by decide) rfl ?_
  intro p e s m args below meth c s₁ B hml hv
  obtain ⟨rfl, -⟩ := hv
  have hx := B.exec
  have hb := B.bytes
  have hr := B.returns
  have hts := atoms_spec (ws := wsX2_isSetOf) B.pre
  have hown : s.vm.findClass RX2 = some m.cls := findClass_of_methodNamed B.named
  have hlocks := B.notSynchronized
  have hS : va_S (fun _ => False) s.heap s.heap [] := va_S.rf
  have hl := lv_entry ([.int (nI n), .int sx]) (n := 2) (Nat.le_of_ble_eq_true rfl)
  rw [lg_entry_eq]
  generalize (lg_sl ([.int (nI n), .int sx]) ++ List.replicate (2 - (lg_sl ([.int (nI n), .int sx])).length) Slot.unset).toArray = ls at hl ⊢
  have hl : lv_has ls 2 [(0, .int (nI n)), (1, .int sx)] := hl
  refine lv_iload_n hx hb dX2_isSetOf_0 rfl (lv_at hl 1 rfl) ?_
  refine lv_iconst (v := 1) hx hb dX2_isSetOf_1 (by decide) ?_
  refine lv_iload_n hx hb dX2_isSetOf_2 rfl (lv_at hl 0 rfl) ?_
  refine lv_ishl hx hb dX2_isSetOf_3 ?_
  refine lv_ineg hx hb dX2_isSetOf_4 ?_
  refine lv_iand hx hb dX2_isSetOf_5 ?_
  refine lv_if_ne (tgt := 13) hx hb dX2_isSetOf_6 (by decide) (fun c_6 => ?_) (fun c_6 => ?_)
  · refine lv_iconst (v := 0) hx hb dX2_isSetOf_13 (by decide) ?_
    exact W.zret (v := 0) hx hb hr rfl (fun tZ htZ hWZ => ⟨_, rfl, (bI_n c_6).symm, htZ⟩) hS.2.2 dX2_isSetOf_14
  · refine lv_iconst (v := 1) hx hb dX2_isSetOf_9 (by decide) ?_
    refine lv_goto (tgt := 14) hx hb dX2_isSetOf_10 (by decide) ?_
    exact W.zret (v := 1) hx hb hr rfl (fun tZ htZ hWZ => ⟨_, rfl, (bI_d c_6).symm, htZ⟩) hS.2.2 dX2_isSetOf_14
set_option maxHeartbeats 4000000 in
set_option maxRecDepth 100000 in
theorem c_X2_needKey (l : Launch) (D : va_G) (ad : Nat → Nat) (cI : ClassId) (cd : Nat → Int32) (te : Nat → Int32) (ri : Nat → Int32) (pi : Nat → Int32) (pw : Nat → Int32) (K : Nat) (Dn : Nat) (mv : Int32) (ko : Nat → Int32) (so : Nat → Int32) (tl : Nat → Int32) (lp : Nat → Int32) (lb : Nat → Int32) (ld : Nat → Int32) (le : Nat → Int32) (C : Nat) (cl : Nat → Int32) (dq : Nat → Int32) (dy : Int32) (k : Nat) (hk : k < K) (hK8 : K ≤ 8) : Met l yX2_needKey wsX2_needKey ({ frames := 0, cells := 0, slots := 0, locals := 0 } : Room) (rdP [.ref (ad 14), .int (nI k)] D (wKc ad cI cd te ri pi pw K Dn mv ko so tl lp lb ld le C cl dq dy) [(cI, .int)]) (va_Sv (fun _ => True)) 0 0 (fun _ => False) := by
  refine Met.ofW (cc := cX2_needKey) (maxL := 2) (ret := none) (by decide) rfl ?_
  intro p e s m args below meth c s₁ B hml hv
  obtain ⟨rfl, hP, hK⟩ := hv
  have hx := B.exec
  have hb := B.bytes
  have hr := B.returns
  have hts := atoms_spec (ws := wsX2_needKey) B.pre
  have hown : s.vm.findClass RX2 = some m.cls := findClass_of_methodNamed B.named
  have hlocks := B.notSynchronized
  have hS : va_S (fun _ => False) s.heap s.heap [] := va_S.rf
  have hinX1 : ∀ w ∈ u_ws RX1 TX1 8, w ∈ wsX2_needKey := by decide +kernel
  have hinX2 : ∀ w ∈ u_ws RX2 TX2 5, w ∈ wsX2_needKey := by decide +kernel
  have hf16 := hts (.fieldLink RX2 16 "KeyCabinet" "plan" "LKeyCabinet$Plan;") (by decide +kernel)
  have hf41 := hts (.fieldLink RX2 41 "KeyCabinet$Plan" "keys" "I") (by decide +kernel)
  have hl := lv_entry ([.ref (ad 14), .int (nI k)]) (n := 2) (Nat.le_of_ble_eq_true rfl)
  rw [lg_entry_eq]
  generalize (lg_sl ([.ref (ad 14), .int (nI k)]) ++ List.replicate (2 - (lg_sl ([.ref (ad 14), .int (nI k)])).length) Slot.unset).toArray = ls at hl ⊢
  have hl : lv_has ls 2 [(0, .ref (ad 14)), (1, .int (nI k))] := hl
  refine lv_iload_n hx hb dX2_needKey_0 rfl (lv_at hl 1 rfl) ?_
  refine lv_if_lt (tgt := 15) hx hb dX2_needKey_1 (by decide) (fun c_1 => ?_) (fun c_1 => ?_)
  · exact absurd c_1 (nI_pos (by omega))
  · refine lv_iload_n hx hb dX2_needKey_4 rfl (lv_at hl 1 rfl) ?_
    refine lv_aload_n hx hb dX2_needKey_5 rfl (lv_at hl 0 rfl) ?_
    refine va_get (D := D) (ci := 2) (v := .ref (ad 0)) (C := RX2) (T := TX2) (N := 5) hx hb hts hinX2 hown hK.1 hP 14 rfl rfl 0 (by decide) hf16 (fun _ h9 => h9) rfl dX2_needKey_6 ?_
    refine va_get (D := D) (ci := 1) (v := .int (nI K)) (C := RX1) (T := TX1) (N := 8) hx hb hts hinX1 hown hK.1 hP 0 rfl rfl 5 (by decide) hf41 (fun _ h9 => h9) rfl dX2_needKey_9 ?_
    refine lv_icmp_lt (tgt := 25) hx hb dX2_needKey_12 (by decide) (fun c_12 => ?_) (fun c_12 => ?_)
    · exact W.vret hx hb hr (fun tZ htZ hWZ => ⟨rfl, trivial, htZ⟩) hS.2.2 dX2_needKey_25
    · exact absurd (nI_lt hk (by omega)) c_12
set_option maxHeartbeats 4000000 in
set_option maxRecDepth 100000 in
theorem c_X2_needDoor (l : Launch) (D : va_G) (ad : Nat → Nat) (cI : ClassId) (cd : Nat → Int32) (te : Nat → Int32) (ri : Nat → Int32) (pi : Nat → Int32) (pw : Nat → Int32) (K : Nat) (Dn : Nat) (mv : Int32) (ko : Nat → Int32) (so : Nat → Int32) (tl : Nat → Int32) (lp : Nat → Int32) (lb : Nat → Int32) (ld : Nat → Int32) (le : Nat → Int32) (C : Nat) (cl : Nat → Int32) (dq : Nat → Int32) (dy : Int32) (d : Nat) (hd : d < Dn) (hD8 : Dn ≤ 8) : Met l yX2_needDoor wsX2_needDoor ({ frames := 0, cells := 0, slots := 0, locals := 0 } : Room) (rdP [.ref (ad 14), .int (nI d)] D (wKc ad cI cd te ri pi pw K Dn mv ko so tl lp lb ld le C cl dq dy) [(cI, .int)]) (va_Sv (fun _ => True)) 0 0 (fun _ => False) := by
  refine Met.ofW (cc := cX2_needDoor) (maxL := 2) (ret := none) (by decide) rfl ?_
  intro p e s m args below meth c s₁ B hml hv
  obtain ⟨rfl, hP, hK⟩ := hv
  have hx := B.exec
  have hb := B.bytes
  have hr := B.returns
  have hts := atoms_spec (ws := wsX2_needDoor) B.pre
  have hown : s.vm.findClass RX2 = some m.cls := findClass_of_methodNamed B.named
  have hlocks := B.notSynchronized
  have hS : va_S (fun _ => False) s.heap s.heap [] := va_S.rf
  have hinX1 : ∀ w ∈ u_ws RX1 TX1 8, w ∈ wsX2_needDoor := by decide +kernel
  have hinX2 : ∀ w ∈ u_ws RX2 TX2 5, w ∈ wsX2_needDoor := by decide +kernel
  have hf16 := hts (.fieldLink RX2 16 "KeyCabinet" "plan" "LKeyCabinet$Plan;") (by decide +kernel)
  have hf63 := hts (.fieldLink RX2 63 "KeyCabinet$Plan" "doors" "I") (by decide +kernel)
  have hl := lv_entry ([.ref (ad 14), .int (nI d)]) (n := 2) (Nat.le_of_ble_eq_true rfl)
  rw [lg_entry_eq]
  generalize (lg_sl ([.ref (ad 14), .int (nI d)]) ++ List.replicate (2 - (lg_sl ([.ref (ad 14), .int (nI d)])).length) Slot.unset).toArray = ls at hl ⊢
  have hl : lv_has ls 2 [(0, .ref (ad 14)), (1, .int (nI d))] := hl
  refine lv_iload_n hx hb dX2_needDoor_0 rfl (lv_at hl 1 rfl) ?_
  refine lv_if_lt (tgt := 15) hx hb dX2_needDoor_1 (by decide) (fun c_1 => ?_) (fun c_1 => ?_)
  · exact absurd c_1 (nI_pos (by omega))
  · refine lv_iload_n hx hb dX2_needDoor_4 rfl (lv_at hl 1 rfl) ?_
    refine lv_aload_n hx hb dX2_needDoor_5 rfl (lv_at hl 0 rfl) ?_
    refine va_get (D := D) (ci := 2) (v := .ref (ad 0)) (C := RX2) (T := TX2) (N := 5) hx hb hts hinX2 hown hK.1 hP 14 rfl rfl 0 (by decide) hf16 (fun _ h9 => h9) rfl dX2_needDoor_6 ?_
    refine va_get (D := D) (ci := 1) (v := .int (nI Dn)) (C := RX1) (T := TX1) (N := 8) hx hb hts hinX1 hown hK.1 hP 0 rfl rfl 6 (by decide) hf63 (fun _ h9 => h9) rfl dX2_needDoor_9 ?_
    refine lv_icmp_lt (tgt := 25) hx hb dX2_needDoor_12 (by decide) (fun c_12 => ?_) (fun c_12 => ?_)
    · exact W.vret hx hb hr (fun tZ htZ hWZ => ⟨rfl, trivial, htZ⟩) hS.2.2 dX2_needDoor_25
    · exact absurd (nI_lt hd (by omega)) c_12
set_option maxHeartbeats 4000000 in
set_option maxRecDepth 100000 in
theorem c_X2_needCopy (l : Launch) (D : va_G) (ad : Nat → Nat) (cI : ClassId) (cd : Nat → Int32) (te : Nat → Int32) (ri : Nat → Int32) (pi : Nat → Int32) (pw : Nat → Int32) (K : Nat) (Dn : Nat) (mv : Int32) (ko : Nat → Int32) (so : Nat → Int32) (tl : Nat → Int32) (lp : Nat → Int32) (lb : Nat → Int32) (ld : Nat → Int32) (le : Nat → Int32) (C : Nat) (cl : Nat → Int32) (dq : Nat → Int32) (dy : Int32) (cx : Nat) (hc : cx < C) (hC24 : C ≤ 24) : Met l yX2_needCopy wsX2_needCopy ({ frames := 0, cells := 0, slots := 0, locals := 0 } : Room) (rdP [.ref (ad 14), .int (nI cx)] D (wKc ad cI cd te ri pi pw K Dn mv ko so tl lp lb ld le C cl dq dy) [(cI, .int)]) (va_Sv (fun _ => True)) 0 0 (fun _ => False) := by
  refine Met.ofW (cc := cX2_needCopy) (maxL := 2) (ret := none) (by decide) rfl ?_
  intro p e s m args below meth c s₁ B hml hv
  obtain ⟨rfl, hP, hK⟩ := hv
  have hx := B.exec
  have hb := B.bytes
  have hr := B.returns
  have hts := atoms_spec (ws := wsX2_needCopy) B.pre
  have hown : s.vm.findClass RX2 = some m.cls := findClass_of_methodNamed B.named
  have hlocks := B.notSynchronized
  have hS : va_S (fun _ => False) s.heap s.heap [] := va_S.rf
  have hinX0 : ∀ w ∈ u_ws RX0 TX0 8, w ∈ wsX2_needCopy := by decide +kernel
  have hinX2 : ∀ w ∈ u_ws RX2 TX2 5, w ∈ wsX2_needCopy := by decide +kernel
  have hf23 := hts (.fieldLink RX2 23 "KeyCabinet" "ledger" "LKeyCabinet$Ledger;") (by decide +kernel)
  have hf128 := hts (.fieldLink RX2 128 "KeyCabinet$Ledger" "copies" "I") (by decide +kernel)
  have hl := lv_entry ([.ref (ad 14), .int (nI cx)]) (n := 2) (Nat.le_of_ble_eq_true rfl)
  rw [lg_entry_eq]
  generalize (lg_sl ([.ref (ad 14), .int (nI cx)]) ++ List.replicate (2 - (lg_sl ([.ref (ad 14), .int (nI cx)])).length) Slot.unset).toArray = ls at hl ⊢
  have hl : lv_has ls 2 [(0, .ref (ad 14)), (1, .int (nI cx))] := hl
  refine lv_iload_n hx hb dX2_needCopy_0 rfl (lv_at hl 1 rfl) ?_
  refine lv_if_lt (tgt := 15) hx hb dX2_needCopy_1 (by decide) (fun c_1 => ?_) (fun c_1 => ?_)
  · exact absurd c_1 (nI_pos (by omega))
  · refine lv_iload_n hx hb dX2_needCopy_4 rfl (lv_at hl 1 rfl) ?_
    refine lv_aload_n hx hb dX2_needCopy_5 rfl (lv_at hl 0 rfl) ?_
    refine va_get (D := D) (ci := 2) (v := .ref (ad 6)) (C := RX2) (T := TX2) (N := 5) hx hb hts hinX2 hown hK.1 hP 14 rfl rfl 1 (by decide) hf23 (fun _ h9 => h9) rfl dX2_needCopy_6 ?_
    refine va_get (D := D) (ci := 0) (v := .int (nI C)) (C := RX0) (T := TX0) (N := 8) hx hb hts hinX0 hown hK.1 hP 6 rfl rfl 7 (by decide) hf128 (fun _ h9 => h9) rfl dX2_needCopy_9 ?_
    refine lv_icmp_lt (tgt := 25) hx hb dX2_needCopy_12 (by decide) (fun c_12 => ?_) (fun c_12 => ?_)
    · exact W.vret hx hb hr (fun tZ htZ hWZ => ⟨rfl, trivial, htZ⟩) hS.2.2 dX2_needCopy_25
    · exact absurd (nI_lt hc (by omega)) c_12
set_option maxHeartbeats 4000000 in
set_option maxRecDepth 100000 in
theorem c_X2_needPerson (l : Launch) (D : va_G) (ad : Nat → Nat) (cI : ClassId) (cd : Nat → Int32) (te : Nat → Int32) (ri : Nat → Int32) (pi : Nat → Int32) (pw : Nat → Int32) (K : Nat) (Dn : Nat) (mv : Int32) (ko : Nat → Int32) (so : Nat → Int32) (tl : Nat → Int32) (lp : Nat → Int32) (lb : Nat → Int32) (ld : Nat → Int32) (le : Nat → Int32) (C : Nat) (cl : Nat → Int32) (dq : Nat → Int32) (dy : Int32) (pe : Int32) (hp : jIn 8 pe = true) : Met l yX2_needPerson wsX2_needPerson ({ frames := 0, cells := 0, slots := 0, locals := 0 } : Room) (rdP [.ref (ad 14), .int pe] D (wKc ad cI cd te ri pi pw K Dn mv ko so tl lp lb ld le C cl dq dy) [(cI, .int)]) (va_Sv (fun _ => True)) 0 0 (fun _ => False) := by
  refine Met.ofW (cc := cX2_needPerson) (maxL := 2) (ret := none) (by decide) rfl ?_
  intro p e s m args below meth c s₁ B hml hv
  obtain ⟨rfl, hP, hK⟩ := hv
  have hx := B.exec
  have hb := B.bytes
  have hr := B.returns
  have hts := atoms_spec (ws := wsX2_needPerson) B.pre
  have hown : s.vm.findClass RX2 = some m.cls := findClass_of_methodNamed B.named
  have hlocks := B.notSynchronized
  have hS : va_S (fun _ => False) s.heap s.heap [] := va_S.rf
  have hl := lv_entry ([.ref (ad 14), .int pe]) (n := 2) (Nat.le_of_ble_eq_true rfl)
  rw [lg_entry_eq]
  generalize (lg_sl ([.ref (ad 14), .int pe]) ++ List.replicate (2 - (lg_sl ([.ref (ad 14), .int pe])).length) Slot.unset).toArray = ls at hl ⊢
  have hl : lv_has ls 2 [(0, .ref (ad 14)), (1, .int pe)] := hl
  refine lv_iload_n hx hb dX2_needPerson_0 rfl (lv_at hl 1 rfl) ?_
  refine lv_if_lt (tgt := 10) hx hb dX2_needPerson_1 (by decide) (fun c_1 => ?_) (fun c_1 => ?_)
  · exact absurd c_1 (of_decide_eq_true hp).1
  · refine lv_iload_n hx hb dX2_needPerson_4 rfl (lv_at hl 1 rfl) ?_
    refine lv_bipush (v := 8) hx hb dX2_needPerson_5 (by decide) ?_
    refine lv_icmp_lt (tgt := 20) hx hb dX2_needPerson_7 (by decide) (fun c_7 => ?_) (fun c_7 => ?_)
    · exact W.vret hx hb hr (fun tZ htZ hWZ => ⟨rfl, trivial, htZ⟩) hS.2.2 dX2_needPerson_20
    · exact absurd (kc_nlt2 (of_decide_eq_true hp).2) c_7
set_option maxHeartbeats 4000000 in
set_option maxRecDepth 100000 in
theorem c_X2_needRights (l : Launch) (D : va_G) (ad : Nat → Nat) (cI : ClassId) (cd : Nat → Int32) (te : Nat → Int32) (ri : Nat → Int32) (pi : Nat → Int32) (pw : Nat → Int32) (K : Nat) (Dn : Nat) (mv : Int32) (ko : Nat → Int32) (so : Nat → Int32) (tl : Nat → Int32) (lp : Nat → Int32) (lb : Nat → Int32) (ld : Nat → Int32) (le : Nat → Int32) (C : Nat) (cl : Nat → Int32) (dq : Nat → Int32) (dy : Int32) (sx : Int32) (hs : jSetOf K sx = true) : Met l yX2_needRights wsX2_needRights ({ frames := 1, cells := 0, slots := 0, locals := 21 } : Room) (rdP [.ref (ad 14), .int sx] D (wKc ad cI cd te ri pi pw K Dn mv ko so tl lp lb ld le C cl dq dy) [(cI, .int)]) (va_Sv (fun _ => True)) 0 0 (fun _ => False) := by
  refine Met.ofW (cc := cX2_needRights) (maxL := 2) (ret := none) (by decide) rfl ?_
  intro p e s m args below meth c s₁ B hml hv
  obtain ⟨rfl, hP, hK⟩ := hv
  have hx := B.exec
  have hb := B.bytes
  have hr := B.returns
  have hts := atoms_spec (ws := wsX2_needRights) B.pre
  have hown : s.vm.findClass RX2 = some m.cls := findClass_of_methodNamed B.named
  have hlocks := B.notSynchronized
  have hS : va_S (fun _ => False) s.heap s.heap [] := va_S.rf
  have hinX1 : ∀ w ∈ u_ws RX1 TX1 8, w ∈ wsX2_needRights := by decide +kernel
  have hinX2 : ∀ w ∈ u_ws RX2 TX2 5, w ∈ wsX2_needRights := by decide +kernel
  have hf16 := hts (.fieldLink RX2 16 "KeyCabinet" "plan" "LKeyCabinet$Plan;") (by decide +kernel)
  have hf41 := hts (.fieldLink RX2 41 "KeyCabinet$Plan" "keys" "I") (by decide +kernel)
  have hl := lv_entry ([.ref (ad 14), .int sx]) (n := 2) (Nat.le_of_ble_eq_true rfl)
  rw [lg_entry_eq]
  generalize (lg_sl ([.ref (ad 14), .int sx]) ++ List.replicate (2 - (lg_sl ([.ref (ad 14), .int sx])).length) Slot.unset).toArray = ls at hl ⊢
  have hl : lv_has ls 2 [(0, .ref (ad 14)), (1, .int sx)] := hl
  refine lv_aload_n hx hb dX2_needRights_0 rfl (lv_at hl 0 rfl) ?_
  refine va_get (D := D) (ci := 2) (v := .ref (ad 0)) (C := RX2) (T := TX2) (N := 5) hx hb hts hinX2 hown hK.1 hP 14 rfl rfl 0 (by decide) hf16 (fun _ h9 => h9) rfl dX2_needRights_1 ?_
  refine va_get (D := D) (ci := 1) (v := .int (nI K)) (C := RX1) (T := TX1) (N := 8) hx hb hts hinX1 hown hK.1 hP 0 rfl rfl 5 (by decide) hf41 (fun _ h9 => h9) rfl dX2_needRights_4 ?_
  refine lv_iload_n hx hb dX2_needRights_7 rfl (lv_at hl 1 rfl) ?_
  refine kc_rSi (As := [.int (nI K), .int sx]) (rest := []) ⟨hx, hb, hml, hown, hts⟩ (c_X2_isSetOf l K sx ) (va_cwS 2 hts gX2_needRights_X2_isSetOf rfl rfl rfl (by decide +kernel) ⟨Nat.le_of_ble_eq_true rfl, Nat.le_of_ble_eq_true rfl⟩) rfl hl.1 rfl (Nat.le_of_ble_eq_true rfl) dX2_needRights_8 ⟨Nat.le_of_ble_eq_true rfl, Nat.le_of_ble_eq_true rfl⟩ ?_
  refine kc_ifneB (tgt := 24) hx hb dX2_needRights_11 (by decide) (fun c_11 => ?_) (fun c_11 => ?_)
  · exact W.vret hx hb hr (fun tZ htZ hWZ => ⟨rfl, trivial, htZ⟩) hS.2.2 dX2_needRights_24
  · exact absurd hs c_11
set_option maxHeartbeats 4000000 in
set_option maxRecDepth 100000 in
theorem c_X2_needDays (l : Launch) (D : va_G) (ad : Nat → Nat) (cI : ClassId) (cd : Nat → Int32) (te : Nat → Int32) (ri : Nat → Int32) (pi : Nat → Int32) (pw : Nat → Int32) (K : Nat) (Dn : Nat) (mv : Int32) (ko : Nat → Int32) (so : Nat → Int32) (tl : Nat → Int32) (lp : Nat → Int32) (lb : Nat → Int32) (ld : Nat → Int32) (le : Nat → Int32) (C : Nat) (cl : Nat → Int32) (dq : Nat → Int32) (dy : Int32) (dz : Int32) (hz1 : ¬ dz < 1) (hz2 : dz ≤ 99) : Met l yX2_needDays wsX2_needDays ({ frames := 0, cells := 0, slots := 0, locals := 0 } : Room) (rdP [.ref (ad 14), .int dz] D (wKc ad cI cd te ri pi pw K Dn mv ko so tl lp lb ld le C cl dq dy) [(cI, .int)]) (va_Sv (fun _ => True)) 0 0 (fun _ => False) := by
  refine Met.ofW (cc := cX2_needDays) (maxL := 2) (ret := none) (by decide) rfl ?_
  intro p e s m args below meth c s₁ B hml hv
  obtain ⟨rfl, hP, hK⟩ := hv
  have hx := B.exec
  have hb := B.bytes
  have hr := B.returns
  have hts := atoms_spec (ws := wsX2_needDays) B.pre
  have hown : s.vm.findClass RX2 = some m.cls := findClass_of_methodNamed B.named
  have hlocks := B.notSynchronized
  have hS : va_S (fun _ => False) s.heap s.heap [] := va_S.rf
  have hl := lv_entry ([.ref (ad 14), .int dz]) (n := 2) (Nat.le_of_ble_eq_true rfl)
  rw [lg_entry_eq]
  generalize (lg_sl ([.ref (ad 14), .int dz]) ++ List.replicate (2 - (lg_sl ([.ref (ad 14), .int dz])).length) Slot.unset).toArray = ls at hl ⊢
  have hl : lv_has ls 2 [(0, .ref (ad 14)), (1, .int dz)] := hl
  refine lv_iload_n hx hb dX2_needDays_0 rfl (lv_at hl 1 rfl) ?_
  refine lv_iconst (v := 1) hx hb dX2_needDays_1 (by decide) ?_
  refine lv_icmp_lt (tgt := 11) hx hb dX2_needDays_2 (by decide) (fun c_2 => ?_) (fun c_2 => ?_)
  · exact absurd c_2 hz1
  · refine lv_iload_n hx hb dX2_needDays_5 rfl (lv_at hl 1 rfl) ?_
    refine lv_bipush (v := 99) hx hb dX2_needDays_6 (by decide) ?_
    refine lv_icmp_le (tgt := 21) hx hb dX2_needDays_8 (by decide) (fun c_8 => ?_) (fun c_8 => ?_)
    · exact W.vret hx hb hr (fun tZ htZ hWZ => ⟨rfl, trivial, htZ⟩) hS.2.2 dX2_needDays_21
    · exact absurd hz2 c_8
set_option maxHeartbeats 4000000 in
set_option maxRecDepth 100000 in
theorem c_X2_keyCount (l : Launch) (D : va_G) (ad : Nat → Nat) (cI : ClassId) (cd : Nat → Int32) (te : Nat → Int32) (ri : Nat → Int32) (pi : Nat → Int32) (pw : Nat → Int32) (K : Nat) (Dn : Nat) (mv : Int32) (ko : Nat → Int32) (so : Nat → Int32) (tl : Nat → Int32) (lp : Nat → Int32) (lb : Nat → Int32) (ld : Nat → Int32) (le : Nat → Int32) (C : Nat) (cl : Nat → Int32) (dq : Nat → Int32) (dy : Int32)  : Met l yX2_keyCount wsX2_keyCount ({ frames := 0, cells := 0, slots := 0, locals := 0 } : Room) (rdP [.ref (ad 14)] D (wKc ad cI cd te ri pi pw K Dn mv ko so tl lp lb ld le C cl dq dy) [(cI, .int)]) (vp_Si (fun rZ => rZ = nI K)) 0 0 (fun _ => False) := by
  refine Met.ofW (cc := cX2_keyCount) (maxL := 1) (ret := (some .int)) (by decide) rfl ?_
  intro p e s m args below meth c s₁ B hml hv
  obtain ⟨rfl, hP, hK⟩ := hv
  have hx := B.exec
  have hb := B.bytes
  have hr := B.returns
  have hts := atoms_spec (ws := wsX2_keyCount) B.pre
  have hown : s.vm.findClass RX2 = some m.cls := findClass_of_methodNamed B.named
  have hlocks := B.notSynchronized
  have hS : va_S (fun _ => False) s.heap s.heap [] := va_S.rf
  have hinX1 : ∀ w ∈ u_ws RX1 TX1 8, w ∈ wsX2_keyCount := by decide +kernel
  have hinX2 : ∀ w ∈ u_ws RX2 TX2 5, w ∈ wsX2_keyCount := by decide +kernel
  have hf16 := hts (.fieldLink RX2 16 "KeyCabinet" "plan" "LKeyCabinet$Plan;") (by decide +kernel)
  have hf41 := hts (.fieldLink RX2 41 "KeyCabinet$Plan" "keys" "I") (by decide +kernel)
  have hl := lv_entry ([.ref (ad 14)]) (n := 1) (Nat.le_of_ble_eq_true rfl)
  rw [lg_entry_eq]
  generalize (lg_sl ([.ref (ad 14)]) ++ List.replicate (1 - (lg_sl ([.ref (ad 14)])).length) Slot.unset).toArray = ls at hl ⊢
  have hl : lv_has ls 1 [(0, .ref (ad 14))] := hl
  refine lv_aload_n hx hb dX2_keyCount_0 rfl (lv_at hl 0 rfl) ?_
  refine va_get (D := D) (ci := 2) (v := .ref (ad 0)) (C := RX2) (T := TX2) (N := 5) hx hb hts hinX2 hown hK.1 hP 14 rfl rfl 0 (by decide) hf16 (fun _ h9 => h9) rfl dX2_keyCount_1 ?_
  refine va_get (D := D) (ci := 1) (v := .int (nI K)) (C := RX1) (T := TX1) (N := 8) hx hb hts hinX1 hown hK.1 hP 0 rfl rfl 5 (by decide) hf41 (fun _ h9 => h9) rfl dX2_keyCount_4 ?_
  exact W.iret (v := nI K) hx hb hr (fun tZ htZ hWZ => ⟨_, rfl, rfl, htZ⟩) hS.2.2 dX2_keyCount_7
set_option maxHeartbeats 4000000 in
set_option maxRecDepth 100000 in
theorem c_X2_doorCount (l : Launch) (D : va_G) (ad : Nat → Nat) (cI : ClassId) (cd : Nat → Int32) (te : Nat → Int32) (ri : Nat → Int32) (pi : Nat → Int32) (pw : Nat → Int32) (K : Nat) (Dn : Nat) (mv : Int32) (ko : Nat → Int32) (so : Nat → Int32) (tl : Nat → Int32) (lp : Nat → Int32) (lb : Nat → Int32) (ld : Nat → Int32) (le : Nat → Int32) (C : Nat) (cl : Nat → Int32) (dq : Nat → Int32) (dy : Int32)  : Met l yX2_doorCount wsX2_doorCount ({ frames := 0, cells := 0, slots := 0, locals := 0 } : Room) (rdP [.ref (ad 14)] D (wKc ad cI cd te ri pi pw K Dn mv ko so tl lp lb ld le C cl dq dy) [(cI, .int)]) (vp_Si (fun rZ => rZ = nI Dn)) 0 0 (fun _ => False) := by
  refine Met.ofW (cc := cX2_doorCount) (maxL := 1) (ret := (some .int)) (by decide) rfl ?_
  intro p e s m args below meth c s₁ B hml hv
  obtain ⟨rfl, hP, hK⟩ := hv
  have hx := B.exec
  have hb := B.bytes
  have hr := B.returns
  have hts := atoms_spec (ws := wsX2_doorCount) B.pre
  have hown : s.vm.findClass RX2 = some m.cls := findClass_of_methodNamed B.named
  have hlocks := B.notSynchronized
  have hS : va_S (fun _ => False) s.heap s.heap [] := va_S.rf
  have hinX1 : ∀ w ∈ u_ws RX1 TX1 8, w ∈ wsX2_doorCount := by decide +kernel
  have hinX2 : ∀ w ∈ u_ws RX2 TX2 5, w ∈ wsX2_doorCount := by decide +kernel
  have hf16 := hts (.fieldLink RX2 16 "KeyCabinet" "plan" "LKeyCabinet$Plan;") (by decide +kernel)
  have hf63 := hts (.fieldLink RX2 63 "KeyCabinet$Plan" "doors" "I") (by decide +kernel)
  have hl := lv_entry ([.ref (ad 14)]) (n := 1) (Nat.le_of_ble_eq_true rfl)
  rw [lg_entry_eq]
  generalize (lg_sl ([.ref (ad 14)]) ++ List.replicate (1 - (lg_sl ([.ref (ad 14)])).length) Slot.unset).toArray = ls at hl ⊢
  have hl : lv_has ls 1 [(0, .ref (ad 14))] := hl
  refine lv_aload_n hx hb dX2_doorCount_0 rfl (lv_at hl 0 rfl) ?_
  refine va_get (D := D) (ci := 2) (v := .ref (ad 0)) (C := RX2) (T := TX2) (N := 5) hx hb hts hinX2 hown hK.1 hP 14 rfl rfl 0 (by decide) hf16 (fun _ h9 => h9) rfl dX2_doorCount_1 ?_
  refine va_get (D := D) (ci := 1) (v := .int (nI Dn)) (C := RX1) (T := TX1) (N := 8) hx hb hts hinX1 hown hK.1 hP 0 rfl rfl 6 (by decide) hf63 (fun _ h9 => h9) rfl dX2_doorCount_4 ?_
  exact W.iret (v := nI Dn) hx hb hr (fun tZ htZ hWZ => ⟨_, rfl, rfl, htZ⟩) hS.2.2 dX2_doorCount_7
set_option maxHeartbeats 4000000 in
set_option maxRecDepth 100000 in
theorem c_X2_work (l : Launch) (D : va_G) (ad : Nat → Nat) (cI : ClassId) (cd : Nat → Int32) (te : Nat → Int32) (ri : Nat → Int32) (pi : Nat → Int32) (pw : Nat → Int32) (K : Nat) (Dn : Nat) (mv : Int32) (ko : Nat → Int32) (so : Nat → Int32) (tl : Nat → Int32) (lp : Nat → Int32) (lb : Nat → Int32) (ld : Nat → Int32) (le : Nat → Int32) (C : Nat) (cl : Nat → Int32) (dq : Nat → Int32) (dy : Int32)  : Met l yX2_work wsX2_work ({ frames := 0, cells := 0, slots := 0, locals := 0 } : Room) (rdP [.ref (ad 14)] D (wKc ad cI cd te ri pi pw K Dn mv ko so tl lp lb ld le C cl dq dy) [(cI, .int)]) (vp_Si (fun rZ => rZ = mv)) 0 0 (fun _ => False) := by
  refine Met.ofW (cc := cX2_work) (maxL := 1) (ret := (some .int)) (by decide) rfl ?_
  intro p e s m args below meth c s₁ B hml hv
  obtain ⟨rfl, hP, hK⟩ := hv
  have hx := B.exec
  have hb := B.bytes
  have hr := B.returns
  have hts := atoms_spec (ws := wsX2_work) B.pre
  have hown : s.vm.findClass RX2 = some m.cls := findClass_of_methodNamed B.named
  have hlocks := B.notSynchronized
  have hS : va_S (fun _ => False) s.heap s.heap [] := va_S.rf
  have hinX1 : ∀ w ∈ u_ws RX1 TX1 8, w ∈ wsX2_work := by decide +kernel
  have hinX2 : ∀ w ∈ u_ws RX2 TX2 5, w ∈ wsX2_work := by decide +kernel
  have hf16 := hts (.fieldLink RX2 16 "KeyCabinet" "plan" "LKeyCabinet$Plan;") (by decide +kernel)
  have hf116 := hts (.fieldLink RX2 116 "KeyCabinet$Plan" "pinsMoved" "I") (by decide +kernel)
  have hl := lv_entry ([.ref (ad 14)]) (n := 1) (Nat.le_of_ble_eq_true rfl)
  rw [lg_entry_eq]
  generalize (lg_sl ([.ref (ad 14)]) ++ List.replicate (1 - (lg_sl ([.ref (ad 14)])).length) Slot.unset).toArray = ls at hl ⊢
  have hl : lv_has ls 1 [(0, .ref (ad 14))] := hl
  refine lv_aload_n hx hb dX2_work_0 rfl (lv_at hl 0 rfl) ?_
  refine va_get (D := D) (ci := 2) (v := .ref (ad 0)) (C := RX2) (T := TX2) (N := 5) hx hb hts hinX2 hown hK.1 hP 14 rfl rfl 0 (by decide) hf16 (fun _ h9 => h9) rfl dX2_work_1 ?_
  refine va_get (D := D) (ci := 1) (v := .int mv) (C := RX1) (T := TX1) (N := 8) hx hb hts hinX1 hown hK.1 hP 0 rfl rfl 7 (by decide) hf116 (fun _ h9 => h9) rfl dX2_work_4 ?_
  exact W.iret (v := mv) hx hb hr (fun tZ htZ hWZ => ⟨_, rfl, rfl, htZ⟩) hS.2.2 dX2_work_7
set_option maxHeartbeats 4000000 in
set_option maxRecDepth 100000 in
theorem c_X2_today (l : Launch) (D : va_G) (ad : Nat → Nat) (cI : ClassId) (cd : Nat → Int32) (te : Nat → Int32) (ri : Nat → Int32) (pi : Nat → Int32) (pw : Nat → Int32) (K : Nat) (Dn : Nat) (mv : Int32) (ko : Nat → Int32) (so : Nat → Int32) (tl : Nat → Int32) (lp : Nat → Int32) (lb : Nat → Int32) (ld : Nat → Int32) (le : Nat → Int32) (C : Nat) (cl : Nat → Int32) (dq : Nat → Int32) (dy : Int32)  : Met l yX2_today wsX2_today ({ frames := 0, cells := 0, slots := 0, locals := 0 } : Room) (rdP [.ref (ad 14)] D (wKc ad cI cd te ri pi pw K Dn mv ko so tl lp lb ld le C cl dq dy) [(cI, .int)]) (vp_Si (fun rZ => rZ = dy)) 0 0 (fun _ => False) := by
  refine Met.ofW (cc := cX2_today) (maxL := 1) (ret := (some .int)) (by decide) rfl ?_
  intro p e s m args below meth c s₁ B hml hv
  obtain ⟨rfl, hP, hK⟩ := hv
  have hx := B.exec
  have hb := B.bytes
  have hr := B.returns
  have hts := atoms_spec (ws := wsX2_today) B.pre
  have hown : s.vm.findClass RX2 = some m.cls := findClass_of_methodNamed B.named
  have hlocks := B.notSynchronized
  have hS : va_S (fun _ => False) s.heap s.heap [] := va_S.rf
  have hinX2 : ∀ w ∈ u_ws RX2 TX2 5, w ∈ wsX2_today := by decide +kernel
  have hf7 := hts (.fieldLink RX2 7 "KeyCabinet" "day" "I") (by decide +kernel)
  have hl := lv_entry ([.ref (ad 14)]) (n := 1) (Nat.le_of_ble_eq_true rfl)
  rw [lg_entry_eq]
  generalize (lg_sl ([.ref (ad 14)]) ++ List.replicate (1 - (lg_sl ([.ref (ad 14)])).length) Slot.unset).toArray = ls at hl ⊢
  have hl : lv_has ls 1 [(0, .ref (ad 14))] := hl
  refine lv_aload_n hx hb dX2_today_0 rfl (lv_at hl 0 rfl) ?_
  refine va_get (D := D) (ci := 2) (v := .int dy) (C := RX2) (T := TX2) (N := 5) hx hb hts hinX2 hown hK.1 hP 14 rfl rfl 4 (by decide) hf7 (fun _ h9 => h9) rfl dX2_today_1 ?_
  exact W.iret (v := dy) hx hb hr (fun tZ htZ hWZ => ⟨_, rfl, rfl, htZ⟩) hS.2.2 dX2_today_4
set_option maxHeartbeats 4000000 in
set_option maxRecDepth 100000 in
theorem c_X2_copyCount (l : Launch) (D : va_G) (ad : Nat → Nat) (cI : ClassId) (cd : Nat → Int32) (te : Nat → Int32) (ri : Nat → Int32) (pi : Nat → Int32) (pw : Nat → Int32) (K : Nat) (Dn : Nat) (mv : Int32) (ko : Nat → Int32) (so : Nat → Int32) (tl : Nat → Int32) (lp : Nat → Int32) (lb : Nat → Int32) (ld : Nat → Int32) (le : Nat → Int32) (C : Nat) (cl : Nat → Int32) (dq : Nat → Int32) (dy : Int32)  : Met l yX2_copyCount wsX2_copyCount ({ frames := 0, cells := 0, slots := 0, locals := 0 } : Room) (rdP [.ref (ad 14)] D (wKc ad cI cd te ri pi pw K Dn mv ko so tl lp lb ld le C cl dq dy) [(cI, .int)]) (vp_Si (fun rZ => rZ = nI C)) 0 0 (fun _ => False) := by
  refine Met.ofW (cc := cX2_copyCount) (maxL := 1) (ret := (some .int)) (by decide) rfl ?_
  intro p e s m args below meth c s₁ B hml hv
  obtain ⟨rfl, hP, hK⟩ := hv
  have hx := B.exec
  have hb := B.bytes
  have hr := B.returns
  have hts := atoms_spec (ws := wsX2_copyCount) B.pre
  have hown : s.vm.findClass RX2 = some m.cls := findClass_of_methodNamed B.named
  have hlocks := B.notSynchronized
  have hS : va_S (fun _ => False) s.heap s.heap [] := va_S.rf
  have hinX0 : ∀ w ∈ u_ws RX0 TX0 8, w ∈ wsX2_copyCount := by decide +kernel
  have hinX2 : ∀ w ∈ u_ws RX2 TX2 5, w ∈ wsX2_copyCount := by decide +kernel
  have hf23 := hts (.fieldLink RX2 23 "KeyCabinet" "ledger" "LKeyCabinet$Ledger;") (by decide +kernel)
  have hf128 := hts (.fieldLink RX2 128 "KeyCabinet$Ledger" "copies" "I") (by decide +kernel)
  have hl := lv_entry ([.ref (ad 14)]) (n := 1) (Nat.le_of_ble_eq_true rfl)
  rw [lg_entry_eq]
  generalize (lg_sl ([.ref (ad 14)]) ++ List.replicate (1 - (lg_sl ([.ref (ad 14)])).length) Slot.unset).toArray = ls at hl ⊢
  have hl : lv_has ls 1 [(0, .ref (ad 14))] := hl
  refine lv_aload_n hx hb dX2_copyCount_0 rfl (lv_at hl 0 rfl) ?_
  refine va_get (D := D) (ci := 2) (v := .ref (ad 6)) (C := RX2) (T := TX2) (N := 5) hx hb hts hinX2 hown hK.1 hP 14 rfl rfl 1 (by decide) hf23 (fun _ h9 => h9) rfl dX2_copyCount_1 ?_
  refine va_get (D := D) (ci := 0) (v := .int (nI C)) (C := RX0) (T := TX0) (N := 8) hx hb hts hinX0 hown hK.1 hP 6 rfl rfl 7 (by decide) hf128 (fun _ h9 => h9) rfl dX2_copyCount_4 ?_
  exact W.iret (v := nI C) hx hb hr (fun tZ htZ hWZ => ⟨_, rfl, rfl, htZ⟩) hS.2.2 dX2_copyCount_7
set_option maxHeartbeats 4000000 in
set_option maxRecDepth 100000 in
theorem c_X2_code_ok (l : Launch) (D : va_G) (ad : Nat → Nat) (cI : ClassId) (cd : Nat → Int32) (te : Nat → Int32) (ri : Nat → Int32) (pi : Nat → Int32) (pw : Nat → Int32) (K : Nat) (Dn : Nat) (mv : Int32) (ko : Nat → Int32) (so : Nat → Int32) (tl : Nat → Int32) (lp : Nat → Int32) (lb : Nat → Int32) (ld : Nat → Int32) (le : Nat → Int32) (C : Nat) (cl : Nat → Int32) (dq : Nat → Int32) (dy : Int32) (k : Nat) (hK8 : K ≤ 8) (hk : k < K) : Met l yX2_code wsX2_code ({ frames := 1, cells := 0, slots := 0, locals := 21 } : Room) (rdP [.ref (ad 14), .int (nI k)] D (wKc ad cI cd te ri pi pw K Dn mv ko so tl lp lb ld le C cl dq dy) [(cI, .int)]) (vp_Si (fun rZ => rZ = cd k)) 0 0 (fun _ => False) := by
  refine Met.ofW (cc := cX2_code) (maxL := 2) (ret := (some .int)) (by decide) rfl ?_
  intro p e s m args below meth c s₁ B hml hv
  obtain ⟨rfl, hP, hK⟩ := hv
  have hx := B.exec
  have hb := B.bytes
  have hr := B.returns
  have hts := atoms_spec (ws := wsX2_code) B.pre
  have hown : s.vm.findClass RX2 = some m.cls := findClass_of_methodNamed B.named
  have hlocks := B.notSynchronized
  have hS : va_S (fun _ => False) s.heap s.heap [] := va_S.rf
  have hinX1 : ∀ w ∈ u_ws RX1 TX1 8, w ∈ wsX2_code := by decide +kernel
  have hinX2 : ∀ w ∈ u_ws RX2 TX2 5, w ∈ wsX2_code := by decide +kernel
  have hf16 := hts (.fieldLink RX2 16 "KeyCabinet" "plan" "LKeyCabinet$Plan;") (by decide +kernel)
  have hf84 := hts (.fieldLink RX2 84 "KeyCabinet$Plan" "codeOf" "[I") (by decide +kernel)
  have hl := lv_entry ([.ref (ad 14), .int (nI k)]) (n := 2) (Nat.le_of_ble_eq_true rfl)
  rw [lg_entry_eq]
  generalize (lg_sl ([.ref (ad 14), .int (nI k)]) ++ List.replicate (2 - (lg_sl ([.ref (ad 14), .int (nI k)])).length) Slot.unset).toArray = ls at hl ⊢
  have hl : lv_has ls 2 [(0, .ref (ad 14)), (1, .int (nI k))] := hl
  refine lv_aload_n hx hb dX2_code_0 rfl (lv_at hl 0 rfl) ?_
  refine lv_iload_n hx hb dX2_code_1 rfl (lv_at hl 1 rfl) ?_
  refine kc_rVv (As := [.int (nI k)]) (rest := []) ⟨hx, hb, hml, hown, hts⟩ (c_X2_needKey l D ad cI cd te ri pi pw K Dn mv ko so tl lp lb ld le C cl dq dy k hk hK8) (cwV 1 hts gX2_code_X2_needKey rfl rfl rfl (by decide +kernel) ⟨Nat.le_of_ble_eq_true rfl, Nat.le_of_ble_eq_true rfl⟩) hK hP [0, 1, 2, 3, 4, 5, 6, 7, 8, 9, 10, 11, 12, 13, 14, 15, 16] [0] rfl rfl 14 rfl rfl rfl rfl hl.1 rfl (Nat.le_of_ble_eq_true rfl) dX2_code_2 ⟨Nat.le_of_ble_eq_true rfl, Nat.le_of_ble_eq_true rfl⟩ ?_
  refine lv_aload_n hx hb dX2_code_5 rfl (lv_at hl 0 rfl) ?_
  refine va_get (D := D) (ci := 2) (v := .ref (ad 0)) (C := RX2) (T := TX2) (N := 5) hx hb hts hinX2 hown hK.1 hP 14 rfl rfl 0 (by decide) hf16 (fun _ h9 => h9) rfl dX2_code_6 ?_
  refine va_get (D := D) (ci := 1) (v := .ref (ad 1)) (C := RX1) (T := TX1) (N := 8) hx hb hts hinX1 hown hK.1 hP 0 rfl rfl 0 (by decide) hf84 (fun _ h9 => h9) rfl dX2_code_9 ?_
  refine lv_iload_n hx hb dX2_code_12 rfl (lv_at hl 1 rfl) ?_
  refine kc_ald (i := k) (n := 8) hx hb hK hP 1 0 rfl rfl (by omega) (by decide) dX2_code_13 ?_
  exact W.iret (v := cd k) hx hb hr (fun tZ htZ hWZ => ⟨_, rfl, rfl, htZ⟩) hS.2.2 dX2_code_14
set_option maxHeartbeats 4000000 in
set_option maxRecDepth 100000 in
theorem c_X2_pins_ok (l : Launch) (D : va_G) (ad : Nat → Nat) (cI : ClassId) (cd : Nat → Int32) (te : Nat → Int32) (ri : Nat → Int32) (pi : Nat → Int32) (pw : Nat → Int32) (K : Nat) (Dn : Nat) (mv : Int32) (ko : Nat → Int32) (so : Nat → Int32) (tl : Nat → Int32) (lp : Nat → Int32) (lb : Nat → Int32) (ld : Nat → Int32) (le : Nat → Int32) (C : Nat) (cl : Nat → Int32) (dq : Nat → Int32) (dy : Int32) (d : Nat) (q : Nat) (hD8 : Dn ≤ 8) (hd : d < Dn) (hq : q < 5) : Met l yX2_pins wsX2_pins ({ frames := 1, cells := 0, slots := 0, locals := 22 } : Room) (rdP [.ref (ad 14), .int (nI d), .int (nI q)] D (wKc ad cI cd te ri pi pw K Dn mv ko so tl lp lb ld le C cl dq dy) [(cI, .int)]) (vp_Si (fun rZ => rZ = jPinsAt pi d (nI q))) 0 0 (fun _ => False) := by
  refine Met.ofW (cc := cX2_pins) (maxL := 3) (ret := (some .int)) (by decide) rfl ?_
  intro p e s m args below meth c s₁ B hml hv
  obtain ⟨rfl, hP, hK⟩ := hv
  have hx := B.exec
  have hb := B.bytes
  have hr := B.returns
  have hts := atoms_spec (ws := wsX2_pins) B.pre
  have hown : s.vm.findClass RX2 = some m.cls := findClass_of_methodNamed B.named
  have hlocks := B.notSynchronized
  have hS : va_S (fun _ => False) s.heap s.heap [] := va_S.rf
  have hinX2 : ∀ w ∈ u_ws RX2 TX2 5, w ∈ wsX2_pins := by decide +kernel
  have hf16 := hts (.fieldLink RX2 16 "KeyCabinet" "plan" "LKeyCabinet$Plan;") (by decide +kernel)
  have hl := lv_entry ([.ref (ad 14), .int (nI d), .int (nI q)]) (n := 3) (Nat.le_of_ble_eq_true rfl)
  rw [lg_entry_eq]
  generalize (lg_sl ([.ref (ad 14), .int (nI d), .int (nI q)]) ++ List.replicate (3 - (lg_sl ([.ref (ad 14), .int (nI d), .int (nI q)])).length) Slot.unset).toArray = ls at hl ⊢
  have hl : lv_has ls 3 [(0, .ref (ad 14)), (1, .int (nI d)), (2, .int (nI q))] := hl
  refine lv_aload_n hx hb dX2_pins_0 rfl (lv_at hl 0 rfl) ?_
  refine lv_iload_n hx hb dX2_pins_1 rfl (lv_at hl 1 rfl) ?_
  refine kc_rVv (As := [.int (nI d)]) (rest := []) ⟨hx, hb, hml, hown, hts⟩ (c_X2_needDoor l D ad cI cd te ri pi pw K Dn mv ko so tl lp lb ld le C cl dq dy d hd hD8) (cwV 1 hts gX2_pins_X2_needDoor rfl rfl rfl (by decide +kernel) ⟨Nat.le_of_ble_eq_true rfl, Nat.le_of_ble_eq_true rfl⟩) hK hP [0, 1, 2, 3, 4, 5, 6, 7, 8, 9, 10, 11, 12, 13, 14, 15, 16] [0] rfl rfl 14 rfl rfl rfl rfl hl.1 rfl (Nat.le_of_ble_eq_true rfl) dX2_pins_2 ⟨Nat.le_of_ble_eq_true rfl, Nat.le_of_ble_eq_true rfl⟩ ?_
  refine lv_iload_n hx hb dX2_pins_5 rfl (lv_at hl 2 rfl) ?_
  refine lv_if_lt (tgt := 14) hx hb dX2_pins_6 (by decide) (fun c_6 => ?_) (fun c_6 => ?_)
  · exact absurd c_6 (nI_pos (by omega))
  · refine lv_iload_n hx hb dX2_pins_9 rfl (lv_at hl 2 rfl) ?_
    refine lv_iconst (v := 5) hx hb dX2_pins_10 (by decide) ?_
    refine lv_icmp_lt (tgt := 24) hx hb dX2_pins_11 (by decide) (fun c_11 => ?_) (fun c_11 => ?_)
    · refine lv_aload_n hx hb dX2_pins_24 rfl (lv_at hl 0 rfl) ?_
      refine va_get (D := D) (ci := 2) (v := .ref (ad 0)) (C := RX2) (T := TX2) (N := 5) hx hb hts hinX2 hown hK.1 hP 14 rfl rfl 0 (by decide) hf16 (fun _ h9 => h9) rfl dX2_pins_25 ?_
      refine lv_iload_n hx hb dX2_pins_28 rfl (lv_at hl 1 rfl) ?_
      refine lv_iload_n hx hb dX2_pins_29 rfl (lv_at hl 2 rfl) ?_
      refine kc_rVi (As := [.int (nI d), .int (nI q)]) (rest := []) ⟨hx, hb, hml, hown, hts⟩ (c_X1_pinsAt l D ad cI cd te ri pi pw K Dn mv d (nI q) (by first | assumption | omega)) (cwV 2 hts gX2_pins_X1_pinsAt rfl rfl rfl (by decide +kernel) ⟨Nat.le_of_ble_eq_true rfl, Nat.le_of_ble_eq_true rfl⟩) hK hP [0, 1, 2, 3, 4, 5] [0] rfl rfl 0 rfl rfl rfl rfl hl.1 rfl (Nat.le_of_ble_eq_true rfl) dX2_pins_30 ⟨Nat.le_of_ble_eq_true rfl, Nat.le_of_ble_eq_true rfl⟩ ?_
      exact W.iret (v := jPinsAt pi d (nI q)) hx hb hr (fun tZ htZ hWZ => ⟨_, rfl, rfl, htZ⟩) hS.2.2 dX2_pins_33
    · exact absurd (nI_lt (b := 5) hq (by omega)) c_11
set_option maxHeartbeats 4000000 in
set_option maxRecDepth 100000 in
theorem c_X2_opens_ok (l : Launch) (D : va_G) (ad : Nat → Nat) (cI : ClassId) (cd : Nat → Int32) (te : Nat → Int32) (ri : Nat → Int32) (pi : Nat → Int32) (pw : Nat → Int32) (K : Nat) (Dn : Nat) (mv : Int32) (ko : Nat → Int32) (so : Nat → Int32) (tl : Nat → Int32) (lp : Nat → Int32) (lb : Nat → Int32) (ld : Nat → Int32) (le : Nat → Int32) (C : Nat) (cl : Nat → Int32) (dq : Nat → Int32) (dy : Int32) (k : Nat) (d : Nat) (hK8 : K ≤ 8) (hD8 : Dn ≤ 8) (hk : k < K) (hd : d < Dn) : Met l yX2_opens wsX2_opens ({ frames := 2, cells := 0, slots := 0, locals := 43 } : Room) (rdP [.ref (ad 14), .int (nI k), .int (nI d)] D (wKc ad cI cd te ri pi pw K Dn mv ko so tl lp lb ld le C cl dq dy) [(cI, .int)]) (vp_Si (fun rZ => rZ = bI (jContains (pi d) (te k)))) 0 0 (fun _ => False) := by
  refine Met.ofW (cc := cX2_opens) (maxL := 3) (ret := (some .boolean)) (by decide) rfl ?_
  intro p e s m args below meth c s₁ B hml hv
  obtain ⟨rfl, hP, hK⟩ := hv
  have hx := B.exec
  have hb := B.bytes
  have hr := B.returns
  have hts := atoms_spec (ws := wsX2_opens) B.pre
  have hown : s.vm.findClass RX2 = some m.cls := findClass_of_methodNamed B.named
  have hlocks := B.notSynchronized
  have hS : va_S (fun _ => False) s.heap s.heap [] := va_S.rf
  have hinX2 : ∀ w ∈ u_ws RX2 TX2 5, w ∈ wsX2_opens := by decide +kernel
  have hf16 := hts (.fieldLink RX2 16 "KeyCabinet" "plan" "LKeyCabinet$Plan;") (by decide +kernel)
  have hl := lv_entry ([.ref (ad 14), .int (nI k), .int (nI d)]) (n := 3) (Nat.le_of_ble_eq_true rfl)
  rw [lg_entry_eq]
  generalize (lg_sl ([.ref (ad 14), .int (nI k), .int (nI d)]) ++ List.replicate (3 - (lg_sl ([.ref (ad 14), .int (nI k), .int (nI d)])).length) Slot.unset).toArray = ls at hl ⊢
  have hl : lv_has ls 3 [(0, .ref (ad 14)), (1, .int (nI k)), (2, .int (nI d))] := hl
  refine lv_aload_n hx hb dX2_opens_0 rfl (lv_at hl 0 rfl) ?_
  refine lv_iload_n hx hb dX2_opens_1 rfl (lv_at hl 1 rfl) ?_
  refine kc_rVv (As := [.int (nI k)]) (rest := []) ⟨hx, hb, hml, hown, hts⟩ (c_X2_needKey l D ad cI cd te ri pi pw K Dn mv ko so tl lp lb ld le C cl dq dy k hk hK8) (cwV 1 hts gX2_opens_X2_needKey rfl rfl rfl (by decide +kernel) ⟨Nat.le_of_ble_eq_true rfl, Nat.le_of_ble_eq_true rfl⟩) hK hP [0, 1, 2, 3, 4, 5, 6, 7, 8, 9, 10, 11, 12, 13, 14, 15, 16] [0] rfl rfl 14 rfl rfl rfl rfl hl.1 rfl (Nat.le_of_ble_eq_true rfl) dX2_opens_2 ⟨Nat.le_of_ble_eq_true rfl, Nat.le_of_ble_eq_true rfl⟩ ?_
  refine lv_aload_n hx hb dX2_opens_5 rfl (lv_at hl 0 rfl) ?_
  refine lv_iload_n hx hb dX2_opens_6 rfl (lv_at hl 2 rfl) ?_
  refine kc_rVv (As := [.int (nI d)]) (rest := []) ⟨hx, hb, hml, hown, hts⟩ (c_X2_needDoor l D ad cI cd te ri pi pw K Dn mv ko so tl lp lb ld le C cl dq dy d hd hD8) (cwV 1 hts gX2_opens_X2_needDoor rfl rfl rfl (by decide +kernel) ⟨Nat.le_of_ble_eq_true rfl, Nat.le_of_ble_eq_true rfl⟩) hK hP [0, 1, 2, 3, 4, 5, 6, 7, 8, 9, 10, 11, 12, 13, 14, 15, 16] [0] rfl rfl 14 rfl rfl rfl rfl hl.1 rfl (Nat.le_of_ble_eq_true rfl) dX2_opens_7 ⟨Nat.le_of_ble_eq_true rfl, Nat.le_of_ble_eq_true rfl⟩ ?_
  refine lv_aload_n hx hb dX2_opens_10 rfl (lv_at hl 0 rfl) ?_
  refine va_get (D := D) (ci := 2) (v := .ref (ad 0)) (C := RX2) (T := TX2) (N := 5) hx hb hts hinX2 hown hK.1 hP 14 rfl rfl 0 (by decide) hf16 (fun _ h9 => h9) rfl dX2_opens_11 ?_
  refine lv_iload_n hx hb dX2_opens_14 rfl (lv_at hl 1 rfl) ?_
  refine lv_iload_n hx hb dX2_opens_15 rfl (lv_at hl 2 rfl) ?_
  refine kc_rVi (As := [.int (nI k), .int (nI d)]) (rest := []) ⟨hx, hb, hml, hown, hts⟩ (c_X1_keyOpens l D ad cI cd te ri pi pw K Dn mv k d (by first | assumption | omega) (by first | assumption | omega)) (cwV 2 hts gX2_opens_X1_keyOpens rfl rfl rfl (by decide +kernel) ⟨Nat.le_of_ble_eq_true rfl, Nat.le_of_ble_eq_true rfl⟩) hK hP [0, 1, 2, 3, 4, 5] [0] rfl rfl 0 rfl rfl rfl rfl hl.1 rfl (Nat.le_of_ble_eq_true rfl) dX2_opens_16 ⟨Nat.le_of_ble_eq_true rfl, Nat.le_of_ble_eq_true rfl⟩ ?_
  exact W.zret (v := bI (jContains (pi d) (te k))) hx hb hr (bI_nar _) (fun tZ htZ hWZ => ⟨_, rfl, rfl, htZ⟩) hS.2.2 dX2_opens_19
set_option maxHeartbeats 4000000 in
set_option maxRecDepth 100000 in
theorem c_X2_openers_ok (l : Launch) (D : va_G) (ad : Nat → Nat) (cI : ClassId) (cd : Nat → Int32) (te : Nat → Int32) (ri : Nat → Int32) (pi : Nat → Int32) (pw : Nat → Int32) (K : Nat) (Dn : Nat) (mv : Int32) (ko : Nat → Int32) (so : Nat → Int32) (tl : Nat → Int32) (lp : Nat → Int32) (lb : Nat → Int32) (ld : Nat → Int32) (le : Nat → Int32) (C : Nat) (cl : Nat → Int32) (dq : Nat → Int32) (dy : Int32) (d : Nat) (hK8 : K ≤ 8) (hD8 : Dn ≤ 8) (hd : d < Dn) : Met l yX2_openers wsX2_openers ({ frames := 3, cells := 0, slots := 0, locals := 66 } : Room) (rdP [.ref (ad 14), .int (nI d)] D (wKc ad cI cd te ri pi pw K Dn mv ko so tl lp lb ld le C cl dq dy) [(cI, .int)]) (vp_Si (fun rZ => rZ = jOpeners pi te d K)) 0 0 (fun _ => False) := by
  refine Met.ofW (cc := cX2_openers) (maxL := 2) (ret := (some .int)) (by decide) rfl ?_
  intro p e s m args below meth c s₁ B hml hv
  obtain ⟨rfl, hP, hK⟩ := hv
  have hx := B.exec
  have hb := B.bytes
  have hr := B.returns
  have hts := atoms_spec (ws := wsX2_openers) B.pre
  have hown : s.vm.findClass RX2 = some m.cls := findClass_of_methodNamed B.named
  have hlocks := B.notSynchronized
  have hS : va_S (fun _ => False) s.heap s.heap [] := va_S.rf
  have hinX2 : ∀ w ∈ u_ws RX2 TX2 5, w ∈ wsX2_openers := by decide +kernel
  have hf16 := hts (.fieldLink RX2 16 "KeyCabinet" "plan" "LKeyCabinet$Plan;") (by decide +kernel)
  have hl := lv_entry ([.ref (ad 14), .int (nI d)]) (n := 2) (Nat.le_of_ble_eq_true rfl)
  rw [lg_entry_eq]
  generalize (lg_sl ([.ref (ad 14), .int (nI d)]) ++ List.replicate (2 - (lg_sl ([.ref (ad 14), .int (nI d)])).length) Slot.unset).toArray = ls at hl ⊢
  have hl : lv_has ls 2 [(0, .ref (ad 14)), (1, .int (nI d))] := hl
  refine lv_aload_n hx hb dX2_openers_0 rfl (lv_at hl 0 rfl) ?_
  refine lv_iload_n hx hb dX2_openers_1 rfl (lv_at hl 1 rfl) ?_
  refine kc_rVv (As := [.int (nI d)]) (rest := []) ⟨hx, hb, hml, hown, hts⟩ (c_X2_needDoor l D ad cI cd te ri pi pw K Dn mv ko so tl lp lb ld le C cl dq dy d hd hD8) (cwV 1 hts gX2_openers_X2_needDoor rfl rfl rfl (by decide +kernel) ⟨Nat.le_of_ble_eq_true rfl, Nat.le_of_ble_eq_true rfl⟩) hK hP [0, 1, 2, 3, 4, 5, 6, 7, 8, 9, 10, 11, 12, 13, 14, 15, 16] [0] rfl rfl 14 rfl rfl rfl rfl hl.1 rfl (Nat.le_of_ble_eq_true rfl) dX2_openers_2 ⟨Nat.le_of_ble_eq_true rfl, Nat.le_of_ble_eq_true rfl⟩ ?_
  refine lv_aload_n hx hb dX2_openers_5 rfl (lv_at hl 0 rfl) ?_
  refine va_get (D := D) (ci := 2) (v := .ref (ad 0)) (C := RX2) (T := TX2) (N := 5) hx hb hts hinX2 hown hK.1 hP 14 rfl rfl 0 (by decide) hf16 (fun _ h9 => h9) rfl dX2_openers_6 ?_
  refine lv_iload_n hx hb dX2_openers_9 rfl (lv_at hl 1 rfl) ?_
  refine kc_rVi (As := [.int (nI d)]) (rest := []) ⟨hx, hb, hml, hown, hts⟩ (c_X1_openersOf l D ad cI cd te ri pi pw K Dn mv d hK8 (by first | assumption | omega)) (cwV 1 hts gX2_openers_X1_openersOf rfl rfl rfl (by decide +kernel) ⟨Nat.le_of_ble_eq_true rfl, Nat.le_of_ble_eq_true rfl⟩) hK hP [0, 1, 2, 3, 4, 5] [0] rfl rfl 0 rfl rfl rfl rfl hl.1 rfl (Nat.le_of_ble_eq_true rfl) dX2_openers_10 ⟨Nat.le_of_ble_eq_true rfl, Nat.le_of_ble_eq_true rfl⟩ ?_
  exact W.iret (v := jOpeners pi te d K) hx hb hr (fun tZ htZ hWZ => ⟨_, rfl, rfl, htZ⟩) hS.2.2 dX2_openers_13
set_option maxHeartbeats 4000000 in
set_option maxRecDepth 100000 in
theorem c_X2_doors_ok (l : Launch) (D : va_G) (ad : Nat → Nat) (cI : ClassId) (cd : Nat → Int32) (te : Nat → Int32) (ri : Nat → Int32) (pi : Nat → Int32) (pw : Nat → Int32) (K : Nat) (Dn : Nat) (mv : Int32) (ko : Nat → Int32) (so : Nat → Int32) (tl : Nat → Int32) (lp : Nat → Int32) (lb : Nat → Int32) (ld : Nat → Int32) (le : Nat → Int32) (C : Nat) (cl : Nat → Int32) (dq : Nat → Int32) (dy : Int32) (k : Nat) (hK8 : K ≤ 8) (hD8 : Dn ≤ 8) (hk : k < K) : Met l yX2_doors wsX2_doors ({ frames := 3, cells := 0, slots := 0, locals := 66 } : Room) (rdP [.ref (ad 14), .int (nI k)] D (wKc ad cI cd te ri pi pw K Dn mv ko so tl lp lb ld le C cl dq dy) [(cI, .int)]) (vp_Si (fun rZ => rZ = jDoors pi te k Dn)) 0 0 (fun _ => False) := by
  refine Met.ofW (cc := cX2_doors) (maxL := 2) (ret := (some .int)) (by decide) rfl ?_
  intro p e s m args below meth c s₁ B hml hv
  obtain ⟨rfl, hP, hK⟩ := hv
  have hx := B.exec
  have hb := B.bytes
  have hr := B.returns
  have hts := atoms_spec (ws := wsX2_doors) B.pre
  have hown : s.vm.findClass RX2 = some m.cls := findClass_of_methodNamed B.named
  have hlocks := B.notSynchronized
  have hS : va_S (fun _ => False) s.heap s.heap [] := va_S.rf
  have hinX2 : ∀ w ∈ u_ws RX2 TX2 5, w ∈ wsX2_doors := by decide +kernel
  have hf16 := hts (.fieldLink RX2 16 "KeyCabinet" "plan" "LKeyCabinet$Plan;") (by decide +kernel)
  have hl := lv_entry ([.ref (ad 14), .int (nI k)]) (n := 2) (Nat.le_of_ble_eq_true rfl)
  rw [lg_entry_eq]
  generalize (lg_sl ([.ref (ad 14), .int (nI k)]) ++ List.replicate (2 - (lg_sl ([.ref (ad 14), .int (nI k)])).length) Slot.unset).toArray = ls at hl ⊢
  have hl : lv_has ls 2 [(0, .ref (ad 14)), (1, .int (nI k))] := hl
  refine lv_aload_n hx hb dX2_doors_0 rfl (lv_at hl 0 rfl) ?_
  refine lv_iload_n hx hb dX2_doors_1 rfl (lv_at hl 1 rfl) ?_
  refine kc_rVv (As := [.int (nI k)]) (rest := []) ⟨hx, hb, hml, hown, hts⟩ (c_X2_needKey l D ad cI cd te ri pi pw K Dn mv ko so tl lp lb ld le C cl dq dy k hk hK8) (cwV 1 hts gX2_doors_X2_needKey rfl rfl rfl (by decide +kernel) ⟨Nat.le_of_ble_eq_true rfl, Nat.le_of_ble_eq_true rfl⟩) hK hP [0, 1, 2, 3, 4, 5, 6, 7, 8, 9, 10, 11, 12, 13, 14, 15, 16] [0] rfl rfl 14 rfl rfl rfl rfl hl.1 rfl (Nat.le_of_ble_eq_true rfl) dX2_doors_2 ⟨Nat.le_of_ble_eq_true rfl, Nat.le_of_ble_eq_true rfl⟩ ?_
  refine lv_aload_n hx hb dX2_doors_5 rfl (lv_at hl 0 rfl) ?_
  refine va_get (D := D) (ci := 2) (v := .ref (ad 0)) (C := RX2) (T := TX2) (N := 5) hx hb hts hinX2 hown hK.1 hP 14 rfl rfl 0 (by decide) hf16 (fun _ h9 => h9) rfl dX2_doors_6 ?_
  refine lv_iload_n hx hb dX2_doors_9 rfl (lv_at hl 1 rfl) ?_
  refine kc_rVi (As := [.int (nI k)]) (rest := []) ⟨hx, hb, hml, hown, hts⟩ (c_X1_doorsOf l D ad cI cd te ri pi pw K Dn mv k hD8 (by first | assumption | omega)) (cwV 1 hts gX2_doors_X1_doorsOf rfl rfl rfl (by decide +kernel) ⟨Nat.le_of_ble_eq_true rfl, Nat.le_of_ble_eq_true rfl⟩) hK hP [0, 1, 2, 3, 4, 5] [0] rfl rfl 0 rfl rfl rfl rfl hl.1 rfl (Nat.le_of_ble_eq_true rfl) dX2_doors_10 ⟨Nat.le_of_ble_eq_true rfl, Nat.le_of_ble_eq_true rfl⟩ ?_
  exact W.iret (v := jDoors pi te k Dn) hx hb hr (fun tZ htZ hWZ => ⟨_, rfl, rfl, htZ⟩) hS.2.2 dX2_doors_13
set_option maxHeartbeats 4000000 in
set_option maxRecDepth 100000 in
theorem c_X2_strays (l : Launch) (D : va_G) (ad : Nat → Nat) (cI : ClassId) (cd : Nat → Int32) (te : Nat → Int32) (ri : Nat → Int32) (pi : Nat → Int32) (pw : Nat → Int32) (K : Nat) (Dn : Nat) (mv : Int32) (ko : Nat → Int32) (so : Nat → Int32) (tl : Nat → Int32) (lp : Nat → Int32) (lb : Nat → Int32) (ld : Nat → Int32) (le : Nat → Int32) (C : Nat) (cl : Nat → Int32) (dq : Nat → Int32) (dy : Int32) (hK8 : K ≤ 8) (hD8 : Dn ≤ 8) : Met l yX2_strays wsX2_strays ({ frames := 4, cells := 0, slots := 0, locals := 88 } : Room) (rdP [.ref (ad 14)] D (wKc ad cI cd te ri pi pw K Dn mv ko so tl lp lb ld le C cl dq dy) [(cI, .int)]) (vp_Si (fun rZ => rZ = jStrays pi te ri K Dn)) 0 0 (fun _ => False) := by
  refine Met.ofW (cc := cX2_strays) (maxL := 1) (ret := (some .int)) (by decide) rfl ?_
  intro p e s m args below meth c s₁ B hml hv
  obtain ⟨rfl, hP, hK⟩ := hv
  have hx := B.exec
  have hb := B.bytes
  have hr := B.returns
  have hts := atoms_spec (ws := wsX2_strays) B.pre
  have hown : s.vm.findClass RX2 = some m.cls := findClass_of_methodNamed B.named
  have hlocks := B.notSynchronized
  have hS : va_S (fun _ => False) s.heap s.heap [] := va_S.rf
  have hinX2 : ∀ w ∈ u_ws RX2 TX2 5, w ∈ wsX2_strays := by decide +kernel
  have hf16 := hts (.fieldLink RX2 16 "KeyCabinet" "plan" "LKeyCabinet$Plan;") (by decide +kernel)
  have hl := lv_entry ([.ref (ad 14)]) (n := 1) (Nat.le_of_ble_eq_true rfl)
  rw [lg_entry_eq]
  generalize (lg_sl ([.ref (ad 14)]) ++ List.replicate (1 - (lg_sl ([.ref (ad 14)])).length) Slot.unset).toArray = ls at hl ⊢
  have hl : lv_has ls 1 [(0, .ref (ad 14))] := hl
  refine lv_aload_n hx hb dX2_strays_0 rfl (lv_at hl 0 rfl) ?_
  refine va_get (D := D) (ci := 2) (v := .ref (ad 0)) (C := RX2) (T := TX2) (N := 5) hx hb hts hinX2 hown hK.1 hP 14 rfl rfl 0 (by decide) hf16 (fun _ h9 => h9) rfl dX2_strays_1 ?_
  refine kc_rVi (As := []) (rest := []) ⟨hx, hb, hml, hown, hts⟩ (c_X1_countStrays l D ad cI cd te ri pi pw K Dn mv hK8 hD8) (cwV 0 hts gX2_strays_X1_countStrays rfl rfl rfl (by decide +kernel) ⟨Nat.le_of_ble_eq_true rfl, Nat.le_of_ble_eq_true rfl⟩) hK hP [0, 1, 2, 3, 4, 5] [0] rfl rfl 0 rfl rfl rfl rfl hl.1 rfl (Nat.le_of_ble_eq_true rfl) dX2_strays_4 ⟨Nat.le_of_ble_eq_true rfl, Nat.le_of_ble_eq_true rfl⟩ ?_
  exact W.iret (v := jStrays pi te ri K Dn) hx hb hr (fun tZ htZ hWZ => ⟨_, rfl, rfl, htZ⟩) hS.2.2 dX2_strays_7
set_option maxHeartbeats 4000000 in
set_option maxRecDepth 100000 in
theorem c_X2_codes_ok (l : Launch) (D : va_G) (ad : Nat → Nat) (cI : ClassId) (cd : Nat → Int32) (te : Nat → Int32) (ri : Nat → Int32) (pi : Nat → Int32) (pw : Nat → Int32) (K : Nat) (Dn : Nat) (mv : Int32) (ko : Nat → Int32) (so : Nat → Int32) (tl : Nat → Int32) (lp : Nat → Int32) (lb : Nat → Int32) (ld : Nat → Int32) (le : Nat → Int32) (C : Nat) (cl : Nat → Int32) (dq : Nat → Int32) (dy : Int32) (d : Nat) (hD8 : Dn ≤ 8) (hd : d < Dn) : Met l yX2_codes wsX2_codes ({ frames := 2, cells := 0, slots := 0, locals := 45 } : Room) (rdP [.ref (ad 14), .int (nI d)] D (wKc ad cI cd te ri pi pw K Dn mv ko so tl lp lb ld le C cl dq dy) [(cI, .int)]) (vp_Si (fun rZ => rZ = jCodes pi d 5)) 0 0 (fun _ => False) := by
  refine Met.ofW (cc := cX2_codes) (maxL := 2) (ret := (some .int)) (by decide) rfl ?_
  intro p e s m args below meth c s₁ B hml hv
  obtain ⟨rfl, hP, hK⟩ := hv
  have hx := B.exec
  have hb := B.bytes
  have hr := B.returns
  have hts := atoms_spec (ws := wsX2_codes) B.pre
  have hown : s.vm.findClass RX2 = some m.cls := findClass_of_methodNamed B.named
  have hlocks := B.notSynchronized
  have hS : va_S (fun _ => False) s.heap s.heap [] := va_S.rf
  have hinX2 : ∀ w ∈ u_ws RX2 TX2 5, w ∈ wsX2_codes := by decide +kernel
  have hf16 := hts (.fieldLink RX2 16 "KeyCabinet" "plan" "LKeyCabinet$Plan;") (by decide +kernel)
  have hl := lv_entry ([.ref (ad 14), .int (nI d)]) (n := 2) (Nat.le_of_ble_eq_true rfl)
  rw [lg_entry_eq]
  generalize (lg_sl ([.ref (ad 14), .int (nI d)]) ++ List.replicate (2 - (lg_sl ([.ref (ad 14), .int (nI d)])).length) Slot.unset).toArray = ls at hl ⊢
  have hl : lv_has ls 2 [(0, .ref (ad 14)), (1, .int (nI d))] := hl
  refine lv_aload_n hx hb dX2_codes_0 rfl (lv_at hl 0 rfl) ?_
  refine lv_iload_n hx hb dX2_codes_1 rfl (lv_at hl 1 rfl) ?_
  refine kc_rVv (As := [.int (nI d)]) (rest := []) ⟨hx, hb, hml, hown, hts⟩ (c_X2_needDoor l D ad cI cd te ri pi pw K Dn mv ko so tl lp lb ld le C cl dq dy d hd hD8) (cwV 1 hts gX2_codes_X2_needDoor rfl rfl rfl (by decide +kernel) ⟨Nat.le_of_ble_eq_true rfl, Nat.le_of_ble_eq_true rfl⟩) hK hP [0, 1, 2, 3, 4, 5, 6, 7, 8, 9, 10, 11, 12, 13, 14, 15, 16] [0] rfl rfl 14 rfl rfl rfl rfl hl.1 rfl (Nat.le_of_ble_eq_true rfl) dX2_codes_2 ⟨Nat.le_of_ble_eq_true rfl, Nat.le_of_ble_eq_true rfl⟩ ?_
  refine lv_aload_n hx hb dX2_codes_5 rfl (lv_at hl 0 rfl) ?_
  refine va_get (D := D) (ci := 2) (v := .ref (ad 0)) (C := RX2) (T := TX2) (N := 5) hx hb hts hinX2 hown hK.1 hP 14 rfl rfl 0 (by decide) hf16 (fun _ h9 => h9) rfl dX2_codes_6 ?_
  refine lv_iload_n hx hb dX2_codes_9 rfl (lv_at hl 1 rfl) ?_
  refine kc_rVi (As := [.int (nI d)]) (rest := []) ⟨hx, hb, hml, hown, hts⟩ (c_X1_countCodes l D ad cI cd te ri pi pw K Dn mv d (by first | assumption | omega)) (cwV 1 hts gX2_codes_X1_countCodes rfl rfl rfl (by decide +kernel) ⟨Nat.le_of_ble_eq_true rfl, Nat.le_of_ble_eq_true rfl⟩) hK hP [0, 1, 2, 3, 4, 5] [0] rfl rfl 0 rfl rfl rfl rfl hl.1 rfl (Nat.le_of_ble_eq_true rfl) dX2_codes_10 ⟨Nat.le_of_ble_eq_true rfl, Nat.le_of_ble_eq_true rfl⟩ ?_
  exact W.iret (v := jCodes pi d 5) hx hb hr (fun tZ htZ hWZ => ⟨_, rfl, rfl, htZ⟩) hS.2.2 dX2_codes_13
set_option maxHeartbeats 4000000 in
set_option maxRecDepth 100000 in
theorem c_X2_isAbove_ok (l : Launch) (D : va_G) (ad : Nat → Nat) (cI : ClassId) (cd : Nat → Int32) (te : Nat → Int32) (ri : Nat → Int32) (pi : Nat → Int32) (pw : Nat → Int32) (K : Nat) (Dn : Nat) (mv : Int32) (ko : Nat → Int32) (so : Nat → Int32) (tl : Nat → Int32) (lp : Nat → Int32) (lb : Nat → Int32) (ld : Nat → Int32) (le : Nat → Int32) (C : Nat) (cl : Nat → Int32) (dq : Nat → Int32) (dy : Int32) (k : Nat) (k2 : Nat) (hK8 : K ≤ 8) (hD8 : Dn ≤ 8) (hk : k < K) (hk2 : k2 < K) : Met l yX2_isAbove wsX2_isAbove ({ frames := 3, cells := 0, slots := 0, locals := 66 } : Room) (rdP [.ref (ad 14), .int (nI k), .int (nI k2)] D (wKc ad cI cd te ri pi pw K Dn mv ko so tl lp lb ld le C cl dq dy) [(cI, .int)]) (vp_Si (fun rZ => rZ = bI (jAbove (jDoors pi te k Dn) (jDoors pi te k2 Dn)))) 0 0 (fun _ => False) := by
  refine Met.ofW (cc := cX2_isAbove) (maxL := 5) (ret := (some .boolean)) (by decide) rfl ?_
  intro p e s m args below meth c s₁ B hml hv
  obtain ⟨rfl, hP, hK⟩ := hv
  have hx := B.exec
  have hb := B.bytes
  have hr := B.returns
  have hts := atoms_spec (ws := wsX2_isAbove) B.pre
  have hown : s.vm.findClass RX2 = some m.cls := findClass_of_methodNamed B.named
  have hlocks := B.notSynchronized
  have hS : va_S (fun _ => False) s.heap s.heap [] := va_S.rf
  have hinX2 : ∀ w ∈ u_ws RX2 TX2 5, w ∈ wsX2_isAbove := by decide +kernel
  have hf16 := hts (.fieldLink RX2 16 "KeyCabinet" "plan" "LKeyCabinet$Plan;") (by decide +kernel)
  have hl := lv_entry ([.ref (ad 14), .int (nI k), .int (nI k2)]) (n := 5) (Nat.le_of_ble_eq_true rfl)
  rw [lg_entry_eq]
  generalize (lg_sl ([.ref (ad 14), .int (nI k), .int (nI k2)]) ++ List.replicate (5 - (lg_sl ([.ref (ad 14), .int (nI k), .int (nI k2)])).length) Slot.unset).toArray = ls at hl ⊢
  have hl : lv_has ls 5 [(0, .ref (ad 14)), (1, .int (nI k)), (2, .int (nI k2))] := hl
  refine lv_aload_n hx hb dX2_isAbove_0 rfl (lv_at hl 0 rfl) ?_
  refine lv_iload_n hx hb dX2_isAbove_1 rfl (lv_at hl 1 rfl) ?_
  refine kc_rVv (As := [.int (nI k)]) (rest := []) ⟨hx, hb, hml, hown, hts⟩ (c_X2_needKey l D ad cI cd te ri pi pw K Dn mv ko so tl lp lb ld le C cl dq dy k hk hK8) (cwV 1 hts gX2_isAbove_X2_needKey rfl rfl rfl (by decide +kernel) ⟨Nat.le_of_ble_eq_true rfl, Nat.le_of_ble_eq_true rfl⟩) hK hP [0, 1, 2, 3, 4, 5, 6, 7, 8, 9, 10, 11, 12, 13, 14, 15, 16] [0] rfl rfl 14 rfl rfl rfl rfl hl.1 rfl (Nat.le_of_ble_eq_true rfl) dX2_isAbove_2 ⟨Nat.le_of_ble_eq_true rfl, Nat.le_of_ble_eq_true rfl⟩ ?_
  refine lv_aload_n hx hb dX2_isAbove_5 rfl (lv_at hl 0 rfl) ?_
  refine lv_iload_n hx hb dX2_isAbove_6 rfl (lv_at hl 2 rfl) ?_
  refine kc_rVv (As := [.int (nI k2)]) (rest := []) ⟨hx, hb, hml, hown, hts⟩ (c_X2_needKey l D ad cI cd te ri pi pw K Dn mv ko so tl lp lb ld le C cl dq dy k2 (by first | assumption | omega) hK8) (cwV 1 hts gX2_isAbove_X2_needKey rfl rfl rfl (by decide +kernel) ⟨Nat.le_of_ble_eq_true rfl, Nat.le_of_ble_eq_true rfl⟩) hK hP [0, 1, 2, 3, 4, 5, 6, 7, 8, 9, 10, 11, 12, 13, 14, 15, 16] [0] rfl rfl 14 rfl rfl rfl rfl hl.1 rfl (Nat.le_of_ble_eq_true rfl) dX2_isAbove_7 ⟨Nat.le_of_ble_eq_true rfl, Nat.le_of_ble_eq_true rfl⟩ ?_
  refine lv_aload_n hx hb dX2_isAbove_10 rfl (lv_at hl 0 rfl) ?_
  refine va_get (D := D) (ci := 2) (v := .ref (ad 0)) (C := RX2) (T := TX2) (N := 5) hx hb hts hinX2 hown hK.1 hP 14 rfl rfl 0 (by decide) hf16 (fun _ h9 => h9) rfl dX2_isAbove_11 ?_
  refine lv_iload_n hx hb dX2_isAbove_14 rfl (lv_at hl 1 rfl) ?_
  refine kc_rVi (As := [.int (nI k)]) (rest := []) ⟨hx, hb, hml, hown, hts⟩ (c_X1_doorsOf l D ad cI cd te ri pi pw K Dn mv k hD8 (by first | assumption | omega)) (cwV 1 hts gX2_isAbove_X1_doorsOf rfl rfl rfl (by decide +kernel) ⟨Nat.le_of_ble_eq_true rfl, Nat.le_of_ble_eq_true rfl⟩) hK hP [0, 1, 2, 3, 4, 5] [0] rfl rfl 0 rfl rfl rfl rfl hl.1 rfl (Nat.le_of_ble_eq_true rfl) dX2_isAbove_15 ⟨Nat.le_of_ble_eq_true rfl, Nat.le_of_ble_eq_true rfl⟩ ?_
  refine lv_istore_n (lv' := [(3, .int (jDoors pi te k Dn)), (0, .ref (ad 14)), (1, .int (nI k)), (2, .int (nI k2))]) hx hb dX2_isAbove_18 rfl hl (by decide) rfl (fun ls hl => ?_)
  refine lv_aload_n hx hb dX2_isAbove_19 rfl (lv_at hl 1 rfl) ?_
  refine va_get (D := D) (ci := 2) (v := .ref (ad 0)) (C := RX2) (T := TX2) (N := 5) hx hb hts hinX2 hown hK.1 hP 14 rfl rfl 0 (by decide) hf16 (fun _ h9 => h9) rfl dX2_isAbove_20 ?_
  refine lv_iload_n hx hb dX2_isAbove_23 rfl (lv_at hl 3 rfl) ?_
  refine kc_rVi (As := [.int (nI k2)]) (rest := []) ⟨hx, hb, hml, hown, hts⟩ (c_X1_doorsOf l D ad cI cd te ri pi pw K Dn mv k2 hD8 (by first | assumption | omega)) (cwV 1 hts gX2_isAbove_X1_doorsOf rfl rfl rfl (by decide +kernel) ⟨Nat.le_of_ble_eq_true rfl, Nat.le_of_ble_eq_true rfl⟩) hK hP [0, 1, 2, 3, 4, 5] [0] rfl rfl 0 rfl rfl rfl rfl hl.1 rfl (Nat.le_of_ble_eq_true rfl) dX2_isAbove_24 ⟨Nat.le_of_ble_eq_true rfl, Nat.le_of_ble_eq_true rfl⟩ ?_
  refine lv_istore (lv' := [(4, .int (jDoors pi te k2 Dn)), (3, .int (jDoors pi te k Dn)), (0, .ref (ad 14)), (1, .int (nI k)), (2, .int (nI k2))]) hx hb dX2_isAbove_27 hl (by decide) rfl (fun ls hl => ?_)
  refine lv_iload_n hx hb dX2_isAbove_29 rfl (lv_at hl 1 rfl) ?_
  refine lv_iload hx hb dX2_isAbove_30 (lv_at hl 0 rfl) ?_
  refine kc_rSi (As := [.int (jDoors pi te k Dn), .int (jDoors pi te k2 Dn)]) (rest := []) ⟨hx, hb, hml, hown, hts⟩ (c_X2_contains l (jDoors pi te k Dn) (jDoors pi te k2 Dn) ) (va_cwS 2 hts gX2_isAbove_X2_contains rfl rfl rfl (by decide +kernel) ⟨Nat.le_of_ble_eq_true rfl, Nat.le_of_ble_eq_true rfl⟩) rfl hl.1 rfl (Nat.le_of_ble_eq_true rfl) dX2_isAbove_32 ⟨Nat.le_of_ble_eq_true rfl, Nat.le_of_ble_eq_true rfl⟩ ?_
  refine kc_ifeqB (tgt := 48) hx hb dX2_isAbove_35 (by decide) (fun c_35 => ?_) (fun c_35 => ?_)
  · refine lv_iconst (v := 0) hx hb dX2_isAbove_48 (by decide) ?_
    exact W.zret (v := 0) hx hb hr rfl (fun tZ htZ hWZ => ⟨_, rfl, (bI_n (fun h => c_35 h.1)).symm, htZ⟩) hS.2.2 dX2_isAbove_49
  · refine lv_iload_n hx hb dX2_isAbove_38 rfl (lv_at hl 1 rfl) ?_
    refine lv_iload hx hb dX2_isAbove_39 (lv_at hl 0 rfl) ?_
    refine lv_icmp_eq (tgt := 48) hx hb dX2_isAbove_41 (by decide) (fun c_41 => ?_) (fun c_41 => ?_)
    · refine lv_iconst (v := 0) hx hb dX2_isAbove_48 (by decide) ?_
      exact W.zret (v := 0) hx hb hr rfl (fun tZ htZ hWZ => ⟨_, rfl, (bI_n (fun h => h.2 c_41)).symm, htZ⟩) hS.2.2 dX2_isAbove_49
    · refine lv_iconst (v := 1) hx hb dX2_isAbove_44 (by decide) ?_
      refine lv_goto (tgt := 49) hx hb dX2_isAbove_45 (by decide) ?_
      exact W.zret (v := 1) hx hb hr rfl (fun tZ htZ hWZ => ⟨_, rfl, (bI_d ⟨c_35, c_41⟩).symm, htZ⟩) hS.2.2 dX2_isAbove_49
set_option maxHeartbeats 4000000 in
set_option maxRecDepth 100000 in
theorem c_X2_copy_ok (l : Launch) (D : va_G) (ad : Nat → Nat) (cI : ClassId) (cd : Nat → Int32) (te : Nat → Int32) (ri : Nat → Int32) (pi : Nat → Int32) (pw : Nat → Int32) (K : Nat) (Dn : Nat) (mv : Int32) (ko : Nat → Int32) (so : Nat → Int32) (tl : Nat → Int32) (lp : Nat → Int32) (lb : Nat → Int32) (ld : Nat → Int32) (le : Nat → Int32) (C : Nat) (cl : Nat → Int32) (dq : Nat → Int32) (dy : Int32) (cx : Nat) (q : Nat) (tn : Nat → Nat) (hC24 : C ≤ 24) (hc : cx < C) (hok : okLe so tl tn) (hq : q < 5) : Met l yX2_copy wsX2_copy ({ frames := 2, cells := 0, slots := 0, locals := 42 } : Room) (rdP [.ref (ad 14), .int (nI cx), .int (nI q)] D (wKc ad cI cd te ri pi pw K Dn mv ko so tl lp lb ld le C cl dq dy) [(cI, .int)]) (vp_Si (fun rZ => rZ = jTold ko so tl lp ld tn cx (nI q))) 0 0 (fun _ => False) := by
  refine Met.ofW (cc := cX2_copy) (maxL := 3) (ret := (some .int)) (by decide) rfl ?_
  intro p e s m args below meth c s₁ B hml hv
  obtain ⟨rfl, hP, hK⟩ := hv
  have hx := B.exec
  have hb := B.bytes
  have hr := B.returns
  have hts := atoms_spec (ws := wsX2_copy) B.pre
  have hown : s.vm.findClass RX2 = some m.cls := findClass_of_methodNamed B.named
  have hlocks := B.notSynchronized
  have hS : va_S (fun _ => False) s.heap s.heap [] := va_S.rf
  have hinX0 : ∀ w ∈ u_ws RX0 TX0 8, w ∈ wsX2_copy := by decide +kernel
  have hinX2 : ∀ w ∈ u_ws RX2 TX2 5, w ∈ wsX2_copy := by decide +kernel
  have hf23 := hts (.fieldLink RX2 23 "KeyCabinet" "ledger" "LKeyCabinet$Ledger;") (by decide +kernel)
  have hf173 := hts (.fieldLink RX2 173 "KeyCabinet$Ledger" "keyOf" "[I") (by decide +kernel)
  have hf154 := hts (.fieldLink RX2 154 "KeyCabinet$Ledger" "stateOf" "[I") (by decide +kernel)
  have hf186 := hts (.fieldLink RX2 186 "KeyCabinet$Ledger" "timesLent" "[I") (by decide +kernel)
  have hl := lv_entry ([.ref (ad 14), .int (nI cx), .int (nI q)]) (n := 3) (Nat.le_of_ble_eq_true rfl)
  rw [lg_entry_eq]
  generalize (lg_sl ([.ref (ad 14), .int (nI cx), .int (nI q)]) ++ List.replicate (3 - (lg_sl ([.ref (ad 14), .int (nI cx), .int (nI q)])).length) Slot.unset).toArray = ls at hl ⊢
  have hl : lv_has ls 3 [(0, .ref (ad 14)), (1, .int (nI cx)), (2, .int (nI q))] := hl
  refine lv_aload_n hx hb dX2_copy_0 rfl (lv_at hl 0 rfl) ?_
  refine lv_iload_n hx hb dX2_copy_1 rfl (lv_at hl 1 rfl) ?_
  refine kc_rVv (As := [.int (nI cx)]) (rest := []) ⟨hx, hb, hml, hown, hts⟩ (c_X2_needCopy l D ad cI cd te ri pi pw K Dn mv ko so tl lp lb ld le C cl dq dy cx hc hC24) (cwV 1 hts gX2_copy_X2_needCopy rfl rfl rfl (by decide +kernel) ⟨Nat.le_of_ble_eq_true rfl, Nat.le_of_ble_eq_true rfl⟩) hK hP [0, 1, 2, 3, 4, 5, 6, 7, 8, 9, 10, 11, 12, 13, 14, 15, 16] [0] rfl rfl 14 rfl rfl rfl rfl hl.1 rfl (Nat.le_of_ble_eq_true rfl) dX2_copy_2 ⟨Nat.le_of_ble_eq_true rfl, Nat.le_of_ble_eq_true rfl⟩ ?_
  refine lv_iload_n hx hb dX2_copy_5 rfl (lv_at hl 2 rfl) ?_
  by_cases c6_0 : (nI q) = 0
  · refine lv_tableIn (tgt := 40) hx hb dX2_copy_6 (by rw [c6_0]; decide) (by rw [c6_0]; decide) (by rw [c6_0]; rfl) (by decide) ?_
    refine lv_aload_n hx hb dX2_copy_40 rfl (lv_at hl 0 rfl) ?_
    refine va_get (D := D) (ci := 2) (v := .ref (ad 6)) (C := RX2) (T := TX2) (N := 5) hx hb hts hinX2 hown hK.1 hP 14 rfl rfl 1 (by decide) hf23 (fun _ h9 => h9) rfl dX2_copy_41 ?_
    refine va_get (D := D) (ci := 0) (v := .ref (ad 7)) (C := RX0) (T := TX0) (N := 8) hx hb hts hinX0 hown hK.1 hP 6 rfl rfl 0 (by decide) hf173 (fun _ h9 => h9) rfl dX2_copy_44 ?_
    refine lv_iload_n hx hb dX2_copy_47 rfl (lv_at hl 1 rfl) ?_
    refine kc_ald (i := cx) (n := 24) hx hb hK hP 7 0 rfl rfl (by omega) (by decide) dX2_copy_48 ?_
    exact W.iret (v := ko cx) hx hb hr (fun tZ htZ hWZ => ⟨_, rfl, (by simp only [jTold, if_pos c6_0]), htZ⟩) hS.2.2 dX2_copy_49
  by_cases c6_1 : (nI q) = 1
  · refine lv_tableIn (tgt := 50) hx hb dX2_copy_6 (by rw [c6_1]; decide) (by rw [c6_1]; decide) (by rw [c6_1]; rfl) (by decide) ?_
    refine lv_aload_n hx hb dX2_copy_50 rfl (lv_at hl 0 rfl) ?_
    refine va_get (D := D) (ci := 2) (v := .ref (ad 6)) (C := RX2) (T := TX2) (N := 5) hx hb hts hinX2 hown hK.1 hP 14 rfl rfl 1 (by decide) hf23 (fun _ h9 => h9) rfl dX2_copy_51 ?_
    refine va_get (D := D) (ci := 0) (v := .ref (ad 8)) (C := RX0) (T := TX0) (N := 8) hx hb hts hinX0 hown hK.1 hP 6 rfl rfl 1 (by decide) hf154 (fun _ h9 => h9) rfl dX2_copy_54 ?_
    refine lv_iload_n hx hb dX2_copy_57 rfl (lv_at hl 1 rfl) ?_
    refine kc_ald (i := cx) (n := 24) hx hb hK hP 8 0 rfl rfl (by omega) (by decide) dX2_copy_58 ?_
    exact W.iret (v := so cx) hx hb hr (fun tZ htZ hWZ => ⟨_, rfl, (by simp only [jTold, if_neg c6_0, if_pos c6_1]), htZ⟩) hS.2.2 dX2_copy_59
  by_cases c6_2 : (nI q) = 2
  · refine lv_tableIn (tgt := 60) hx hb dX2_copy_6 (by rw [c6_2]; decide) (by rw [c6_2]; decide) (by rw [c6_2]; rfl) (by decide) ?_
    refine lv_aload_n hx hb dX2_copy_60 rfl (lv_at hl 0 rfl) ?_
    refine va_get (D := D) (ci := 2) (v := .ref (ad 6)) (C := RX2) (T := TX2) (N := 5) hx hb hts hinX2 hown hK.1 hP 14 rfl rfl 1 (by decide) hf23 (fun _ h9 => h9) rfl dX2_copy_61 ?_
    refine lv_iload_n hx hb dX2_copy_64 rfl (lv_at hl 1 rfl) ?_
    refine kc_rVi (As := [.int (nI cx)]) (rest := []) ⟨hx, hb, hml, hown, hts⟩ (c_X0_holderOf l D ad cI ko so tl lp lb ld le C tn cx (by first | assumption | omega) hok) (cwV 1 hts gX2_copy_X0_holderOf rfl rfl rfl (by decide +kernel) ⟨Nat.le_of_ble_eq_true rfl, Nat.le_of_ble_eq_true rfl⟩) hK hP [6, 7, 8, 9, 10, 11, 12, 13] [0] rfl rfl 6 rfl rfl rfl rfl hl.1 rfl (Nat.le_of_ble_eq_true rfl) dX2_copy_65 ⟨Nat.le_of_ble_eq_true rfl, Nat.le_of_ble_eq_true rfl⟩ ?_
    exact W.iret (v := jHolder so lp tn cx) hx hb hr (fun tZ htZ hWZ => ⟨_, rfl, (by simp only [jTold, if_neg c6_0, if_neg c6_1, if_pos c6_2]), htZ⟩) hS.2.2 dX2_copy_68
  by_cases c6_3 : (nI q) = 3
  · refine lv_tableIn (tgt := 69) hx hb dX2_copy_6 (by rw [c6_3]; decide) (by rw [c6_3]; decide) (by rw [c6_3]; rfl) (by decide) ?_
    refine lv_aload_n hx hb dX2_copy_69 rfl (lv_at hl 0 rfl) ?_
    refine va_get (D := D) (ci := 2) (v := .ref (ad 6)) (C := RX2) (T := TX2) (N := 5) hx hb hts hinX2 hown hK.1 hP 14 rfl rfl 1 (by decide) hf23 (fun _ h9 => h9) rfl dX2_copy_70 ?_
    refine lv_iload_n hx hb dX2_copy_73 rfl (lv_at hl 1 rfl) ?_
    refine kc_rVi (As := [.int (nI cx)]) (rest := []) ⟨hx, hb, hml, hown, hts⟩ (c_X0_dueOf l D ad cI ko so tl lp lb ld le C tn cx (by first | assumption | omega) hok) (cwV 1 hts gX2_copy_X0_dueOf rfl rfl rfl (by decide +kernel) ⟨Nat.le_of_ble_eq_true rfl, Nat.le_of_ble_eq_true rfl⟩) hK hP [6, 7, 8, 9, 10, 11, 12, 13] [0] rfl rfl 6 rfl rfl rfl rfl hl.1 rfl (Nat.le_of_ble_eq_true rfl) dX2_copy_74 ⟨Nat.le_of_ble_eq_true rfl, Nat.le_of_ble_eq_true rfl⟩ ?_
    exact W.iret (v := jDue so ld tn cx) hx hb hr (fun tZ htZ hWZ => ⟨_, rfl, (by simp only [jTold, if_neg c6_0, if_neg c6_1, if_neg c6_2, if_pos c6_3]), htZ⟩) hS.2.2 dX2_copy_77
  by_cases c6_4 : (nI q) = 4
  · refine lv_tableIn (tgt := 78) hx hb dX2_copy_6 (by rw [c6_4]; decide) (by rw [c6_4]; decide) (by rw [c6_4]; rfl) (by decide) ?_
    refine lv_aload_n hx hb dX2_copy_78 rfl (lv_at hl 0 rfl) ?_
    refine va_get (D := D) (ci := 2) (v := .ref (ad 6)) (C := RX2) (T := TX2) (N := 5) hx hb hts hinX2 hown hK.1 hP 14 rfl rfl 1 (by decide) hf23 (fun _ h9 => h9) rfl dX2_copy_79 ?_
    refine va_get (D := D) (ci := 0) (v := .ref (ad 9)) (C := RX0) (T := TX0) (N := 8) hx hb hts hinX0 hown hK.1 hP 6 rfl rfl 2 (by decide) hf186 (fun _ h9 => h9) rfl dX2_copy_82 ?_
    refine lv_iload_n hx hb dX2_copy_85 rfl (lv_at hl 1 rfl) ?_
    refine kc_ald (i := cx) (n := 24) hx hb hK hP 9 0 rfl rfl (by omega) (by decide) dX2_copy_86 ?_
    exact W.iret (v := tl cx) hx hb hr (fun tZ htZ hWZ => ⟨_, rfl, (by simp only [jTold, if_neg c6_0, if_neg c6_1, if_neg c6_2, if_neg c6_3, if_pos c6_4]), htZ⟩) hS.2.2 dX2_copy_87
  exact absurd hq (kc_sw5 c6_0 c6_1 c6_2 c6_3 c6_4)
set_option maxHeartbeats 4000000 in
set_option maxRecDepth 100000 in
theorem c_X2_overdue (l : Launch) (D : va_G) (ad : Nat → Nat) (cI : ClassId) (cd : Nat → Int32) (te : Nat → Int32) (ri : Nat → Int32) (pi : Nat → Int32) (pw : Nat → Int32) (K : Nat) (Dn : Nat) (mv : Int32) (ko : Nat → Int32) (so : Nat → Int32) (tl : Nat → Int32) (lp : Nat → Int32) (lb : Nat → Int32) (ld : Nat → Int32) (le : Nat → Int32) (C : Nat) (cl : Nat → Int32) (dq : Nat → Int32) (dy : Int32) (tn : Nat → Nat) (hC24 : C ≤ 24) (hok : okLe so tl tn) : Met l yX2_overdue wsX2_overdue ({ frames := 3, cells := 0, slots := 0, locals := 65 } : Room) (rdP [.ref (ad 14)] D (wKc ad cI cd te ri pi pw K Dn mv ko so tl lp lb ld le C cl dq dy) [(cI, .int)]) (vp_Si (fun rZ => rZ = jLate so ld tn dy C)) 0 0 (fun _ => False) := by
  refine Met.ofW (cc := cX2_overdue) (maxL := 1) (ret := (some .int)) (by decide) rfl ?_
  intro p e s m args below meth c s₁ B hml hv
  obtain ⟨rfl, hP, hK⟩ := hv
  have hx := B.exec
  have hb := B.bytes
  have hr := B.returns
  have hts := atoms_spec (ws := wsX2_overdue) B.pre
  have hown : s.vm.findClass RX2 = some m.cls := findClass_of_methodNamed B.named
  have hlocks := B.notSynchronized
  have hS : va_S (fun _ => False) s.heap s.heap [] := va_S.rf
  have hinX2 : ∀ w ∈ u_ws RX2 TX2 5, w ∈ wsX2_overdue := by decide +kernel
  have hf23 := hts (.fieldLink RX2 23 "KeyCabinet" "ledger" "LKeyCabinet$Ledger;") (by decide +kernel)
  have hf7 := hts (.fieldLink RX2 7 "KeyCabinet" "day" "I") (by decide +kernel)
  have hl := lv_entry ([.ref (ad 14)]) (n := 1) (Nat.le_of_ble_eq_true rfl)
  rw [lg_entry_eq]
  generalize (lg_sl ([.ref (ad 14)]) ++ List.replicate (1 - (lg_sl ([.ref (ad 14)])).length) Slot.unset).toArray = ls at hl ⊢
  have hl : lv_has ls 1 [(0, .ref (ad 14))] := hl
  refine lv_aload_n hx hb dX2_overdue_0 rfl (lv_at hl 0 rfl) ?_
  refine va_get (D := D) (ci := 2) (v := .ref (ad 6)) (C := RX2) (T := TX2) (N := 5) hx hb hts hinX2 hown hK.1 hP 14 rfl rfl 1 (by decide) hf23 (fun _ h9 => h9) rfl dX2_overdue_1 ?_
  refine lv_aload_n hx hb dX2_overdue_4 rfl (lv_at hl 0 rfl) ?_
  refine va_get (D := D) (ci := 2) (v := .int dy) (C := RX2) (T := TX2) (N := 5) hx hb hts hinX2 hown hK.1 hP 14 rfl rfl 4 (by decide) hf7 (fun _ h9 => h9) rfl dX2_overdue_5 ?_
  refine kc_rVi (As := [.int dy]) (rest := []) ⟨hx, hb, hml, hown, hts⟩ (c_X0_copiesDueBefore l D ad cI ko so tl lp lb ld le C tn dy hC24 hok) (cwV 1 hts gX2_overdue_X0_copiesDueBefore rfl rfl rfl (by decide +kernel) ⟨Nat.le_of_ble_eq_true rfl, Nat.le_of_ble_eq_true rfl⟩) hK hP [6, 7, 8, 9, 10, 11, 12, 13] [0] rfl rfl 6 rfl rfl rfl rfl hl.1 rfl (Nat.le_of_ble_eq_true rfl) dX2_overdue_8 ⟨Nat.le_of_ble_eq_true rfl, Nat.le_of_ble_eq_true rfl⟩ ?_
  exact W.iret (v := jLate so ld tn dy C) hx hb hr (fun tZ htZ hWZ => ⟨_, rfl, rfl, htZ⟩) hS.2.2 dX2_overdue_11
set_option maxHeartbeats 4000000 in
set_option maxRecDepth 100000 in
theorem c_X2_holderAt_ok (l : Launch) (D : va_G) (ad : Nat → Nat) (cI : ClassId) (cd : Nat → Int32) (te : Nat → Int32) (ri : Nat → Int32) (pi : Nat → Int32) (pw : Nat → Int32) (K : Nat) (Dn : Nat) (mv : Int32) (ko : Nat → Int32) (so : Nat → Int32) (tl : Nat → Int32) (lp : Nat → Int32) (lb : Nat → Int32) (ld : Nat → Int32) (le : Nat → Int32) (C : Nat) (cl : Nat → Int32) (dq : Nat → Int32) (dy : Int32) (cx : Nat) (da : Int32) (tn : Nat → Nat) (hC24 : C ≤ 24) (hc : cx < C) (hok : okLe so tl tn) (hz1 : ¬ da < 0) (hz2 : da ≤ dy) : Met l yX2_holderAt wsX2_holderAt ({ frames := 1, cells := 0, slots := 0, locals := 24 } : Room) (rdP [.ref (ad 14), .int (nI cx), .int da] D (wKc ad cI cd te ri pi pw K Dn mv ko so tl lp lb ld le C cl dq dy) [(cI, .int)]) (vp_Si (fun rZ => rZ = jHolderOn lp lb le cx (tn cx) da)) 0 0 (fun _ => False) := by
  refine Met.ofW (cc := cX2_holderAt) (maxL := 3) (ret := (some .int)) (by decide) rfl ?_
  intro p e s m args below meth c s₁ B hml hv
  obtain ⟨rfl, hP, hK⟩ := hv
  have hx := B.exec
  have hb := B.bytes
  have hr := B.returns
  have hts := atoms_spec (ws := wsX2_holderAt) B.pre
  have hown : s.vm.findClass RX2 = some m.cls := findClass_of_methodNamed B.named
  have hlocks := B.notSynchronized
  have hS : va_S (fun _ => False) s.heap s.heap [] := va_S.rf
  have hinX2 : ∀ w ∈ u_ws RX2 TX2 5, w ∈ wsX2_holderAt := by decide +kernel
  have hf7 := hts (.fieldLink RX2 7 "KeyCabinet" "day" "I") (by decide +kernel)
  have hf23 := hts (.fieldLink RX2 23 "KeyCabinet" "ledger" "LKeyCabinet$Ledger;") (by decide +kernel)
  have hl := lv_entry ([.ref (ad 14), .int (nI cx), .int da]) (n := 3) (Nat.le_of_ble_eq_true rfl)
  rw [lg_entry_eq]
  generalize (lg_sl ([.ref (ad 14), .int (nI cx), .int da]) ++ List.replicate (3 - (lg_sl ([.ref (ad 14), .int (nI cx), .int da])).length) Slot.unset).toArray = ls at hl ⊢
  have hl : lv_has ls 3 [(0, .ref (ad 14)), (1, .int (nI cx)), (2, .int da)] := hl
  refine lv_aload_n hx hb dX2_holderAt_0 rfl (lv_at hl 0 rfl) ?_
  refine lv_iload_n hx hb dX2_holderAt_1 rfl (lv_at hl 1 rfl) ?_
  refine kc_rVv (As := [.int (nI cx)]) (rest := []) ⟨hx, hb, hml, hown, hts⟩ (c_X2_needCopy l D ad cI cd te ri pi pw K Dn mv ko so tl lp lb ld le C cl dq dy cx hc hC24) (cwV 1 hts gX2_holderAt_X2_needCopy rfl rfl rfl (by decide +kernel) ⟨Nat.le_of_ble_eq_true rfl, Nat.le_of_ble_eq_true rfl⟩) hK hP [0, 1, 2, 3, 4, 5, 6, 7, 8, 9, 10, 11, 12, 13, 14, 15, 16] [0] rfl rfl 14 rfl rfl rfl rfl hl.1 rfl (Nat.le_of_ble_eq_true rfl) dX2_holderAt_2 ⟨Nat.le_of_ble_eq_true rfl, Nat.le_of_ble_eq_true rfl⟩ ?_
  refine lv_iload_n hx hb dX2_holderAt_5 rfl (lv_at hl 2 rfl) ?_
  refine lv_if_lt (tgt := 17) hx hb dX2_holderAt_6 (by decide) (fun c_6 => ?_) (fun c_6 => ?_)
  · exact absurd c_6 hz1
  · refine lv_iload_n hx hb dX2_holderAt_9 rfl (lv_at hl 2 rfl) ?_
    refine lv_aload_n hx hb dX2_holderAt_10 rfl (lv_at hl 0 rfl) ?_
    refine va_get (D := D) (ci := 2) (v := .int dy) (C := RX2) (T := TX2) (N := 5) hx hb hts hinX2 hown hK.1 hP 14 rfl rfl 4 (by decide) hf7 (fun _ h9 => h9) rfl dX2_holderAt_11 ?_
    refine lv_icmp_le (tgt := 27) hx hb dX2_holderAt_14 (by decide) (fun c_14 => ?_) (fun c_14 => ?_)
    · refine lv_aload_n hx hb dX2_holderAt_27 rfl (lv_at hl 0 rfl) ?_
      refine va_get (D := D) (ci := 2) (v := .ref (ad 6)) (C := RX2) (T := TX2) (N := 5) hx hb hts hinX2 hown hK.1 hP 14 rfl rfl 1 (by decide) hf23 (fun _ h9 => h9) rfl dX2_holderAt_28 ?_
      refine lv_iload_n hx hb dX2_holderAt_31 rfl (lv_at hl 1 rfl) ?_
      refine lv_iload_n hx hb dX2_holderAt_32 rfl (lv_at hl 2 rfl) ?_
      refine kc_rVi (As := [.int (nI cx), .int da]) (rest := []) ⟨hx, hb, hml, hown, hts⟩ (c_X0_holderOn l D ad cI ko so tl lp lb ld le C tn cx da (by first | assumption | omega) hok) (cwV 2 hts gX2_holderAt_X0_holderOn rfl rfl rfl (by decide +kernel) ⟨Nat.le_of_ble_eq_true rfl, Nat.le_of_ble_eq_true rfl⟩) hK hP [6, 7, 8, 9, 10, 11, 12, 13] [0] rfl rfl 6 rfl rfl rfl rfl hl.1 rfl (Nat.le_of_ble_eq_true rfl) dX2_holderAt_33 ⟨Nat.le_of_ble_eq_true rfl, Nat.le_of_ble_eq_true rfl⟩ ?_
      exact W.iret (v := jHolderOn lp lb le cx (tn cx) da) hx hb hr (fun tZ htZ hWZ => ⟨_, rfl, rfl, htZ⟩) hS.2.2 dX2_holderAt_36
    · exact absurd hz2 c_14
set_option maxHeartbeats 4000000 in
set_option maxRecDepth 100000 in
theorem c_X2_doorsReached (l : Launch) (D : va_G) (ad : Nat → Nat) (cI : ClassId) (cd : Nat → Int32) (te : Nat → Int32) (ri : Nat → Int32) (pi : Nat → Int32) (pw : Nat → Int32) (K : Nat) (Dn : Nat) (mv : Int32) (ko : Nat → Int32) (so : Nat → Int32) (tl : Nat → Int32) (lp : Nat → Int32) (lb : Nat → Int32) (ld : Nat → Int32) (le : Nat → Int32) (C : Nat) (cl : Nat → Int32) (dq : Nat → Int32) (dy : Int32) (pe : Int32) (tn : Nat → Nat) (hK8 : K ≤ 8) (hD8 : Dn ≤ 8) (hC24 : C ≤ 24) (hok : okLe so tl tn) : Met l yX2_doorsReached wsX2_doorsReached ({ frames := 4, cells := 0, slots := 0, locals := 89 } : Room) (rdP [.ref (ad 14), .int pe] D (wKc ad cI cd te ri pi pw K Dn mv ko so tl lp lb ld le C cl dq dy) [(cI, .int)]) (vp_Si (fun rZ => rZ = jReach pi te Dn K ko so lp tn C pe)) 0 0 (fun _ => False) := by
  refine Met.ofW (cc := cX2_doorsReached) (maxL := 2) (ret := (some .int)) (by decide) rfl ?_
  intro p e s m args below meth c s₁ B hml hv
  obtain ⟨rfl, hP, hK⟩ := hv
  have hx := B.exec
  have hb := B.bytes
  have hr := B.returns
  have hts := atoms_spec (ws := wsX2_doorsReached) B.pre
  have hown : s.vm.findClass RX2 = some m.cls := findClass_of_methodNamed B.named
  have hlocks := B.notSynchronized
  have hS : va_S (fun _ => False) s.heap s.heap [] := va_S.rf
  have hinX2 : ∀ w ∈ u_ws RX2 TX2 5, w ∈ wsX2_doorsReached := by decide +kernel
  have hf16 := hts (.fieldLink RX2 16 "KeyCabinet" "plan" "LKeyCabinet$Plan;") (by decide +kernel)
  have hf23 := hts (.fieldLink RX2 23 "KeyCabinet" "ledger" "LKeyCabinet$Ledger;") (by decide +kernel)
  have hl := lv_entry ([.ref (ad 14), .int pe]) (n := 2) (Nat.le_of_ble_eq_true rfl)
  rw [lg_entry_eq]
  generalize (lg_sl ([.ref (ad 14), .int pe]) ++ List.replicate (2 - (lg_sl ([.ref (ad 14), .int pe])).length) Slot.unset).toArray = ls at hl ⊢
  have hl : lv_has ls 2 [(0, .ref (ad 14)), (1, .int pe)] := hl
  refine lv_aload_n hx hb dX2_doorsReached_0 rfl (lv_at hl 0 rfl) ?_
  refine va_get (D := D) (ci := 2) (v := .ref (ad 0)) (C := RX2) (T := TX2) (N := 5) hx hb hts hinX2 hown hK.1 hP 14 rfl rfl 0 (by decide) hf16 (fun _ h9 => h9) rfl dX2_doorsReached_1 ?_
  refine lv_aload_n hx hb dX2_doorsReached_4 rfl (lv_at hl 0 rfl) ?_
  refine va_get (D := D) (ci := 2) (v := .ref (ad 6)) (C := RX2) (T := TX2) (N := 5) hx hb hts hinX2 hown hK.1 hP 14 rfl rfl 1 (by decide) hf23 (fun _ h9 => h9) rfl dX2_doorsReached_5 ?_
  refine lv_iload_n hx hb dX2_doorsReached_8 rfl (lv_at hl 1 rfl) ?_
  refine kc_rVi (As := [.int pe]) (rest := [.ref (ad 0)]) ⟨hx, hb, hml, hown, hts⟩ (c_X0_keysHeldBy l D ad cI ko so tl lp lb ld le C tn pe hC24 hok) (cwV 1 hts gX2_doorsReached_X0_keysHeldBy rfl rfl rfl (by decide +kernel) ⟨Nat.le_of_ble_eq_true rfl, Nat.le_of_ble_eq_true rfl⟩) hK hP [6, 7, 8, 9, 10, 11, 12, 13] [0] rfl rfl 6 rfl rfl rfl rfl hl.1 rfl (Nat.le_of_ble_eq_true rfl) dX2_doorsReached_9 ⟨Nat.le_of_ble_eq_true rfl, Nat.le_of_ble_eq_true rfl⟩ ?_
  refine kc_rVi (As := [.int (jHeld ko so lp tn pe C)]) (rest := []) ⟨hx, hb, hml, hown, hts⟩ (c_X1_doorsOfAll l D ad cI cd te ri pi pw K Dn mv (jHeld ko so lp tn pe C) hK8 hD8) (cwV 1 hts gX2_doorsReached_X1_doorsOfAll rfl rfl rfl (by decide +kernel) ⟨Nat.le_of_ble_eq_true rfl, Nat.le_of_ble_eq_true rfl⟩) hK hP [0, 1, 2, 3, 4, 5] [0] rfl rfl 0 rfl rfl rfl rfl hl.1 rfl (Nat.le_of_ble_eq_true rfl) dX2_doorsReached_12 ⟨Nat.le_of_ble_eq_true rfl, Nat.le_of_ble_eq_true rfl⟩ ?_
  exact W.iret (v := jDoorsAll pi te (jHeld ko so lp tn pe C) Dn K) hx hb hr (fun tZ htZ hWZ => ⟨_, rfl, rfl, htZ⟩) hS.2.2 dX2_doorsReached_15
set_option maxHeartbeats 4000000 in
set_option maxRecDepth 100000 in
theorem c_X2_doorsAtRisk (l : Launch) (D : va_G) (ad : Nat → Nat) (cI : ClassId) (cd : Nat → Int32) (te : Nat → Int32) (ri : Nat → Int32) (pi : Nat → Int32) (pw : Nat → Int32) (K : Nat) (Dn : Nat) (mv : Int32) (ko : Nat → Int32) (so : Nat → Int32) (tl : Nat → Int32) (lp : Nat → Int32) (lb : Nat → Int32) (ld : Nat → Int32) (le : Nat → Int32) (C : Nat) (cl : Nat → Int32) (dq : Nat → Int32) (dy : Int32) (hK8 : K ≤ 8) (hD8 : Dn ≤ 8) (hC24 : C ≤ 24) : Met l yX2_doorsAtRisk wsX2_doorsAtRisk ({ frames := 4, cells := 0, slots := 0, locals := 89 } : Room) (rdP [.ref (ad 14)] D (wKc ad cI cd te ri pi pw K Dn mv ko so tl lp lb ld le C cl dq dy) [(cI, .int)]) (vp_Si (fun rZ => rZ = jRisk pi te Dn K ko so C)) 0 0 (fun _ => False) := by
  refine Met.ofW (cc := cX2_doorsAtRisk) (maxL := 1) (ret := (some .int)) (by decide) rfl ?_
  intro p e s m args below meth c s₁ B hml hv
  obtain ⟨rfl, hP, hK⟩ := hv
  have hx := B.exec
  have hb := B.bytes
  have hr := B.returns
  have hts := atoms_spec (ws := wsX2_doorsAtRisk) B.pre
  have hown : s.vm.findClass RX2 = some m.cls := findClass_of_methodNamed B.named
  have hlocks := B.notSynchronized
  have hS : va_S (fun _ => False) s.heap s.heap [] := va_S.rf
  have hinX2 : ∀ w ∈ u_ws RX2 TX2 5, w ∈ wsX2_doorsAtRisk := by decide +kernel
  have hf16 := hts (.fieldLink RX2 16 "KeyCabinet" "plan" "LKeyCabinet$Plan;") (by decide +kernel)
  have hf23 := hts (.fieldLink RX2 23 "KeyCabinet" "ledger" "LKeyCabinet$Ledger;") (by decide +kernel)
  have hl := lv_entry ([.ref (ad 14)]) (n := 1) (Nat.le_of_ble_eq_true rfl)
  rw [lg_entry_eq]
  generalize (lg_sl ([.ref (ad 14)]) ++ List.replicate (1 - (lg_sl ([.ref (ad 14)])).length) Slot.unset).toArray = ls at hl ⊢
  have hl : lv_has ls 1 [(0, .ref (ad 14))] := hl
  refine lv_aload_n hx hb dX2_doorsAtRisk_0 rfl (lv_at hl 0 rfl) ?_
  refine va_get (D := D) (ci := 2) (v := .ref (ad 0)) (C := RX2) (T := TX2) (N := 5) hx hb hts hinX2 hown hK.1 hP 14 rfl rfl 0 (by decide) hf16 (fun _ h9 => h9) rfl dX2_doorsAtRisk_1 ?_
  refine lv_aload_n hx hb dX2_doorsAtRisk_4 rfl (lv_at hl 0 rfl) ?_
  refine va_get (D := D) (ci := 2) (v := .ref (ad 6)) (C := RX2) (T := TX2) (N := 5) hx hb hts hinX2 hown hK.1 hP 14 rfl rfl 1 (by decide) hf23 (fun _ h9 => h9) rfl dX2_doorsAtRisk_5 ?_
  refine kc_rVi (As := []) (rest := [.ref (ad 0)]) ⟨hx, hb, hml, hown, hts⟩ (c_X0_keysLost l D ad cI ko so tl lp lb ld le C hC24) (cwV 0 hts gX2_doorsAtRisk_X0_keysLost rfl rfl rfl (by decide +kernel) ⟨Nat.le_of_ble_eq_true rfl, Nat.le_of_ble_eq_true rfl⟩) hK hP [6, 7, 8, 9, 10, 11, 12, 13] [0] rfl rfl 6 rfl rfl rfl rfl hl.1 rfl (Nat.le_of_ble_eq_true rfl) dX2_doorsAtRisk_8 ⟨Nat.le_of_ble_eq_true rfl, Nat.le_of_ble_eq_true rfl⟩ ?_
  refine kc_rVi (As := [.int (jLost ko so C)]) (rest := []) ⟨hx, hb, hml, hown, hts⟩ (c_X1_doorsOfAll l D ad cI cd te ri pi pw K Dn mv (jLost ko so C) hK8 hD8) (cwV 1 hts gX2_doorsAtRisk_X1_doorsOfAll rfl rfl rfl (by decide +kernel) ⟨Nat.le_of_ble_eq_true rfl, Nat.le_of_ble_eq_true rfl⟩) hK hP [0, 1, 2, 3, 4, 5] [0] rfl rfl 0 rfl rfl rfl rfl hl.1 rfl (Nat.le_of_ble_eq_true rfl) dX2_doorsAtRisk_11 ⟨Nat.le_of_ble_eq_true rfl, Nat.le_of_ble_eq_true rfl⟩ ?_
  exact W.iret (v := jDoorsAll pi te (jLost ko so C) Dn K) hx hb hr (fun tZ htZ hWZ => ⟨_, rfl, rfl, htZ⟩) hS.2.2 dX2_doorsAtRisk_14
set_option maxHeartbeats 4000000 in
set_option maxRecDepth 100000 in
theorem c_X2_reach_ok (l : Launch) (D : va_G) (ad : Nat → Nat) (cI : ClassId) (cd : Nat → Int32) (te : Nat → Int32) (ri : Nat → Int32) (pi : Nat → Int32) (pw : Nat → Int32) (K : Nat) (Dn : Nat) (mv : Int32) (ko : Nat → Int32) (so : Nat → Int32) (tl : Nat → Int32) (lp : Nat → Int32) (lb : Nat → Int32) (ld : Nat → Int32) (le : Nat → Int32) (C : Nat) (cl : Nat → Int32) (dq : Nat → Int32) (dy : Int32) (pe : Int32) (tn : Nat → Nat) (hK8 : K ≤ 8) (hD8 : Dn ≤ 8) (hC24 : C ≤ 24) (hok : okLe so tl tn) (hp : jIn 8 pe = true) : Met l yX2_reach wsX2_reach ({ frames := 5, cells := 0, slots := 0, locals := 110 } : Room) (rdP [.ref (ad 14), .int pe] D (wKc ad cI cd te ri pi pw K Dn mv ko so tl lp lb ld le C cl dq dy) [(cI, .int)]) (vp_Si (fun rZ => rZ = jReach pi te Dn K ko so lp tn C pe)) 0 0 (fun _ => False) := by
  refine Met.ofW (cc := cX2_reach) (maxL := 2) (ret := (some .int)) (by decide) rfl ?_
  intro p e s m args below meth c s₁ B hml hv
  obtain ⟨rfl, hP, hK⟩ := hv
  have hx := B.exec
  have hb := B.bytes
  have hr := B.returns
  have hts := atoms_spec (ws := wsX2_reach) B.pre
  have hown : s.vm.findClass RX2 = some m.cls := findClass_of_methodNamed B.named
  have hlocks := B.notSynchronized
  have hS : va_S (fun _ => False) s.heap s.heap [] := va_S.rf
  have hl := lv_entry ([.ref (ad 14), .int pe]) (n := 2) (Nat.le_of_ble_eq_true rfl)
  rw [lg_entry_eq]
  generalize (lg_sl ([.ref (ad 14), .int pe]) ++ List.replicate (2 - (lg_sl ([.ref (ad 14), .int pe])).length) Slot.unset).toArray = ls at hl ⊢
  have hl : lv_has ls 2 [(0, .ref (ad 14)), (1, .int pe)] := hl
  refine lv_aload_n hx hb dX2_reach_0 rfl (lv_at hl 0 rfl) ?_
  refine lv_iload_n hx hb dX2_reach_1 rfl (lv_at hl 1 rfl) ?_
  refine kc_rVv (As := [.int pe]) (rest := []) ⟨hx, hb, hml, hown, hts⟩ (c_X2_needPerson l D ad cI cd te ri pi pw K Dn mv ko so tl lp lb ld le C cl dq dy pe hp) (cwV 1 hts gX2_reach_X2_needPerson rfl rfl rfl (by decide +kernel) ⟨Nat.le_of_ble_eq_true rfl, Nat.le_of_ble_eq_true rfl⟩) hK hP [0, 1, 2, 3, 4, 5, 6, 7, 8, 9, 10, 11, 12, 13, 14, 15, 16] [0] rfl rfl 14 rfl rfl rfl rfl hl.1 rfl (Nat.le_of_ble_eq_true rfl) dX2_reach_2 ⟨Nat.le_of_ble_eq_true rfl, Nat.le_of_ble_eq_true rfl⟩ ?_
  refine lv_aload_n hx hb dX2_reach_5 rfl (lv_at hl 0 rfl) ?_
  refine lv_iload_n hx hb dX2_reach_6 rfl (lv_at hl 1 rfl) ?_
  refine kc_rVi (As := [.int pe]) (rest := []) ⟨hx, hb, hml, hown, hts⟩ (c_X2_doorsReached l D ad cI cd te ri pi pw K Dn mv ko so tl lp lb ld le C cl dq dy pe tn hK8 hD8 hC24 hok) (cwV 1 hts gX2_reach_X2_doorsReached rfl rfl rfl (by decide +kernel) ⟨Nat.le_of_ble_eq_true rfl, Nat.le_of_ble_eq_true rfl⟩) hK hP [0, 1, 2, 3, 4, 5, 6, 7, 8, 9, 10, 11, 12, 13, 14, 15, 16] [0] rfl rfl 14 rfl rfl rfl rfl hl.1 rfl (Nat.le_of_ble_eq_true rfl) dX2_reach_7 ⟨Nat.le_of_ble_eq_true rfl, Nat.le_of_ble_eq_true rfl⟩ ?_
  exact W.iret (v := jReach pi te Dn K ko so lp tn C pe) hx hb hr (fun tZ htZ hWZ => ⟨_, rfl, rfl, htZ⟩) hS.2.2 dX2_reach_10
set_option maxHeartbeats 4000000 in
set_option maxRecDepth 100000 in
theorem c_X2_risk (l : Launch) (D : va_G) (ad : Nat → Nat) (cI : ClassId) (cd : Nat → Int32) (te : Nat → Int32) (ri : Nat → Int32) (pi : Nat → Int32) (pw : Nat → Int32) (K : Nat) (Dn : Nat) (mv : Int32) (ko : Nat → Int32) (so : Nat → Int32) (tl : Nat → Int32) (lp : Nat → Int32) (lb : Nat → Int32) (ld : Nat → Int32) (le : Nat → Int32) (C : Nat) (cl : Nat → Int32) (dq : Nat → Int32) (dy : Int32) (hK8 : K ≤ 8) (hD8 : Dn ≤ 8) (hC24 : C ≤ 24) : Met l yX2_risk wsX2_risk ({ frames := 5, cells := 0, slots := 0, locals := 109 } : Room) (rdP [.ref (ad 14)] D (wKc ad cI cd te ri pi pw K Dn mv ko so tl lp lb ld le C cl dq dy) [(cI, .int)]) (vp_Si (fun rZ => rZ = jRisk pi te Dn K ko so C)) 0 0 (fun _ => False) := by
  refine Met.ofW (cc := cX2_risk) (maxL := 1) (ret := (some .int)) (by decide) rfl ?_
  intro p e s m args below meth c s₁ B hml hv
  obtain ⟨rfl, hP, hK⟩ := hv
  have hx := B.exec
  have hb := B.bytes
  have hr := B.returns
  have hts := atoms_spec (ws := wsX2_risk) B.pre
  have hown : s.vm.findClass RX2 = some m.cls := findClass_of_methodNamed B.named
  have hlocks := B.notSynchronized
  have hS : va_S (fun _ => False) s.heap s.heap [] := va_S.rf
  have hl := lv_entry ([.ref (ad 14)]) (n := 1) (Nat.le_of_ble_eq_true rfl)
  rw [lg_entry_eq]
  generalize (lg_sl ([.ref (ad 14)]) ++ List.replicate (1 - (lg_sl ([.ref (ad 14)])).length) Slot.unset).toArray = ls at hl ⊢
  have hl : lv_has ls 1 [(0, .ref (ad 14))] := hl
  refine lv_aload_n hx hb dX2_risk_0 rfl (lv_at hl 0 rfl) ?_
  refine kc_rVi (As := []) (rest := []) ⟨hx, hb, hml, hown, hts⟩ (c_X2_doorsAtRisk l D ad cI cd te ri pi pw K Dn mv ko so tl lp lb ld le C cl dq dy hK8 hD8 hC24) (cwV 0 hts gX2_risk_X2_doorsAtRisk rfl rfl rfl (by decide +kernel) ⟨Nat.le_of_ble_eq_true rfl, Nat.le_of_ble_eq_true rfl⟩) hK hP [0, 1, 2, 3, 4, 5, 6, 7, 8, 9, 10, 11, 12, 13, 14, 15, 16] [0] rfl rfl 14 rfl rfl rfl rfl hl.1 rfl (Nat.le_of_ble_eq_true rfl) dX2_risk_1 ⟨Nat.le_of_ble_eq_true rfl, Nat.le_of_ble_eq_true rfl⟩ ?_
  exact W.iret (v := jRisk pi te Dn K ko so C) hx hb hr (fun tZ htZ hWZ => ⟨_, rfl, rfl, htZ⟩) hS.2.2 dX2_risk_4
set_option maxHeartbeats 4000000 in
set_option maxRecDepth 100000 in
theorem c_X2_doorsOpenedBy (l : Launch) (D : va_G) (ad : Nat → Nat) (cI : ClassId) (cd : Nat → Int32) (te : Nat → Int32) (ri : Nat → Int32) (pi : Nat → Int32) (pw : Nat → Int32) (K : Nat) (Dn : Nat) (mv : Int32) (ko : Nat → Int32) (so : Nat → Int32) (tl : Nat → Int32) (lp : Nat → Int32) (lb : Nat → Int32) (ld : Nat → Int32) (le : Nat → Int32) (C : Nat) (cl : Nat → Int32) (dq : Nat → Int32) (dy : Int32) (sx : Int32) (hK8 : K ≤ 8) : Met l yX2_doorsOpenedBy wsX2_doorsOpenedBy ({ frames := 0, cells := 0, slots := 0, locals := 0 } : Room) (rdP [.ref (ad 14), .int sx] D (wKc ad cI cd te ri pi pw K Dn mv ko so tl lp lb ld le C cl dq dy) [(cI, .int)]) (vp_Si (fun rZ => rZ = jSOpen dq sx K)) 0 0 (fun _ => False) := by
  refine Met.ofW (cc := cX2_doorsOpenedBy) (maxL := 4) (ret := (some .int)) (by decide) rfl ?_
  intro p e s m args below meth c s₁ B hml hv
  obtain ⟨rfl, hP, hK⟩ := hv
  have hx := B.exec
  have hb := B.bytes
  have hr := B.returns
  have hts := atoms_spec (ws := wsX2_doorsOpenedBy) B.pre
  have hown : s.vm.findClass RX2 = some m.cls := findClass_of_methodNamed B.named
  have hlocks := B.notSynchronized
  have hS : va_S (fun _ => False) s.heap s.heap [] := va_S.rf
  have hinX1 : ∀ w ∈ u_ws RX1 TX1 8, w ∈ wsX2_doorsOpenedBy := by decide +kernel
  have hinX2 : ∀ w ∈ u_ws RX2 TX2 5, w ∈ wsX2_doorsOpenedBy := by decide +kernel
  have hf16 := hts (.fieldLink RX2 16 "KeyCabinet" "plan" "LKeyCabinet$Plan;") (by decide +kernel)
  have hf41 := hts (.fieldLink RX2 41 "KeyCabinet$Plan" "keys" "I") (by decide +kernel)
  have hf31 := hts (.fieldLink RX2 31 "KeyCabinet" "doorsOpened" "[I") (by decide +kernel)
  have hl := lv_entry ([.ref (ad 14), .int sx]) (n := 4) (Nat.le_of_ble_eq_true rfl)
  rw [lg_entry_eq]
  generalize (lg_sl ([.ref (ad 14), .int sx]) ++ List.replicate (4 - (lg_sl ([.ref (ad 14), .int sx])).length) Slot.unset).toArray = ls at hl ⊢
  have hl : lv_has ls 4 [(0, .ref (ad 14)), (1, .int sx)] := hl
  refine lv_iconst (v := 0) hx hb dX2_doorsOpenedBy_0 (by decide) ?_
  refine lv_istore_n (lv' := [(2, .int 0), (0, .ref (ad 14)), (1, .int sx)]) hx hb dX2_doorsOpenedBy_1 rfl hl (by decide) rfl (fun ls hl => ?_)
  refine lv_iconst (v := 0) hx hb dX2_doorsOpenedBy_2 (by decide) ?_
  refine lv_istore_n (lv' := [(3, .int 0), (2, .int 0), (0, .ref (ad 14)), (1, .int sx)]) hx hb dX2_doorsOpenedBy_3 rfl hl (by decide) rfl (fun ls hl => ?_)
  refine kc_forW (pc := 4) (N := K) (P := fun j ls => lv_has ls 4 [(3, .int (nI j)), (2, .int (jSOpen dq sx j)), (0, .ref (ad 14)), (1, .int sx)]) (fun j ls hj_4 hp ih_4 => ?_) ls ?_
  · have hl := hp
    refine lv_iload_n hx hb dX2_doorsOpenedBy_4 rfl (lv_at hl 0 rfl) ?_
    refine lv_aload_n hx hb dX2_doorsOpenedBy_5 rfl (lv_at hl 2 rfl) ?_
    refine va_get (D := D) (ci := 2) (v := .ref (ad 0)) (C := RX2) (T := TX2) (N := 5) hx hb hts hinX2 hown hK.1 hP 14 rfl rfl 0 (by decide) hf16 (fun _ h9 => h9) rfl dX2_doorsOpenedBy_6 ?_
    refine va_get (D := D) (ci := 1) (v := .int (nI K)) (C := RX1) (T := TX1) (N := 8) hx hb hts hinX1 hown hK.1 hP 0 rfl rfl 5 (by decide) hf41 (fun _ h9 => h9) rfl dX2_doorsOpenedBy_9 ?_
    refine kc_tst (j := j) (N := K) (tgt := 39) hx hb dX2_doorsOpenedBy_12 (by decide) hj_4 (by omega) (fun hN => ?_) (fun hlt_4 => ?_)
    · subst hN
      refine lv_iload_n hx hb dX2_doorsOpenedBy_39 rfl (lv_at hl 1 rfl) ?_
      exact W.iret (v := jSOpen dq sx K) hx hb hr (fun tZ htZ hWZ => ⟨_, rfl, rfl, htZ⟩) hS.2.2 dX2_doorsOpenedBy_40
    · refine lv_iload_n hx hb dX2_doorsOpenedBy_15 rfl (lv_at hl 3 rfl) ?_
      refine lv_iload_n hx hb dX2_doorsOpenedBy_16 rfl (lv_at hl 0 rfl) ?_
      refine lv_ishr hx hb dX2_doorsOpenedBy_17 ?_
      refine lv_iconst (v := 1) hx hb dX2_doorsOpenedBy_18 (by decide) ?_
      refine lv_iand hx hb dX2_doorsOpenedBy_19 ?_
      refine lv_iconst (v := 1) hx hb dX2_doorsOpenedBy_20 (by decide) ?_
      refine lv_icmp_ne (tgt := 33) hx hb dX2_doorsOpenedBy_21 (by decide) (fun c_21 => ?_) (fun c_21 => ?_)
      · refine lv_iinc (v := nI (j + 1)) (lv' := [(3, .int (nI (j + 1))), (2, .int (jSOpen dq sx j)), (0, .ref (ad 14)), (1, .int sx)]) hx hb dX2_doorsOpenedBy_33 hl (k := 0) rfl (kc_inc j) (by decide) rfl (fun ls hl => ?_)
        refine lv_goto (tgt := 4) hx hb dX2_doorsOpenedBy_36 (by decide) ?_
        refine ih_4 _ hlt_4 ?_
        have eq_2 : jSOpen dq sx (j + 1) = jSOpen dq sx j := by simp only [jSOpen, fo_s, if_neg c_21]
        show lv_has _ 4 [(3, .int (nI (j + 1))), (2, .int (jSOpen dq sx (j + 1))), (0, .ref (ad 14)), (1, .int sx)]
        rw [eq_2]
        exact lv_sub hl [0, 1, 2, 3] rfl
      · refine lv_iload_n hx hb dX2_doorsOpenedBy_24 rfl (lv_at hl 1 rfl) ?_
        refine lv_aload_n hx hb dX2_doorsOpenedBy_25 rfl (lv_at hl 2 rfl) ?_
        refine va_get (D := D) (ci := 2) (v := .ref (ad 16)) (C := RX2) (T := TX2) (N := 5) hx hb hts hinX2 hown hK.1 hP 14 rfl rfl 3 (by decide) hf31 (fun _ h9 => h9) rfl dX2_doorsOpenedBy_26 ?_
        refine lv_iload_n hx hb dX2_doorsOpenedBy_29 rfl (lv_at hl 0 rfl) ?_
        refine kc_ald (i := j) (n := 8) hx hb hK hP 16 0 rfl rfl (by omega) (by decide) dX2_doorsOpenedBy_30 ?_
        refine lv_ior hx hb dX2_doorsOpenedBy_31 ?_
        refine lv_istore_n (lv' := [(2, .int ((jSOpen dq sx j) ||| (dq j))), (3, .int (nI j)), (0, .ref (ad 14)), (1, .int sx)]) hx hb dX2_doorsOpenedBy_32 rfl hl (by decide) rfl (fun ls hl => ?_)
        refine lv_iinc (v := nI (j + 1)) (lv' := [(3, .int (nI (j + 1))), (2, .int ((jSOpen dq sx j) ||| (dq j))), (0, .ref (ad 14)), (1, .int sx)]) hx hb dX2_doorsOpenedBy_33 hl (k := 1) rfl (kc_inc j) (by decide) rfl (fun ls hl => ?_)
        refine lv_goto (tgt := 4) hx hb dX2_doorsOpenedBy_36 (by decide) ?_
        refine ih_4 _ hlt_4 ?_
        have eq_2 : jSOpen dq sx (j + 1) = (jSOpen dq sx j) ||| (dq j) := by simp only [jSOpen, fo_s, if_pos c_21]
        show lv_has _ 4 [(3, .int (nI (j + 1))), (2, .int (jSOpen dq sx (j + 1))), (0, .ref (ad 14)), (1, .int sx)]
        rw [eq_2]
        exact lv_sub hl [0, 1, 2, 3] rfl
  · exact lv_sub hl [0, 1, 2, 3] rfl
set_option maxHeartbeats 4000000 in
set_option maxRecDepth 100000 in
theorem c_X2_copiesOf (l : Launch) (D : va_G) (ad : Nat → Nat) (cI : ClassId) (cd : Nat → Int32) (te : Nat → Int32) (ri : Nat → Int32) (pi : Nat → Int32) (pw : Nat → Int32) (K : Nat) (Dn : Nat) (mv : Int32) (ko : Nat → Int32) (so : Nat → Int32) (tl : Nat → Int32) (lp : Nat → Int32) (lb : Nat → Int32) (ld : Nat → Int32) (le : Nat → Int32) (C : Nat) (cl : Nat → Int32) (dq : Nat → Int32) (dy : Int32) (sx : Int32) (hK8 : K ≤ 8) : Met l yX2_copiesOf wsX2_copiesOf ({ frames := 0, cells := 0, slots := 0, locals := 0 } : Room) (rdP [.ref (ad 14), .int sx] D (wKc ad cI cd te ri pi pw K Dn mv ko so tl lp lb ld le C cl dq dy) [(cI, .int)]) (vp_Si (fun rZ => rZ = jSCop cl sx K)) 0 0 (fun _ => False) := by
  refine Met.ofW (cc := cX2_copiesOf) (maxL := 4) (ret := (some .int)) (by decide) rfl ?_
  intro p e s m args below meth c s₁ B hml hv
  obtain ⟨rfl, hP, hK⟩ := hv
  have hx := B.exec
  have hb := B.bytes
  have hr := B.returns
  have hts := atoms_spec (ws := wsX2_copiesOf) B.pre
  have hown : s.vm.findClass RX2 = some m.cls := findClass_of_methodNamed B.named
  have hlocks := B.notSynchronized
  have hS : va_S (fun _ => False) s.heap s.heap [] := va_S.rf
  have hinX1 : ∀ w ∈ u_ws RX1 TX1 8, w ∈ wsX2_copiesOf := by decide +kernel
  have hinX2 : ∀ w ∈ u_ws RX2 TX2 5, w ∈ wsX2_copiesOf := by decide +kernel
  have hf16 := hts (.fieldLink RX2 16 "KeyCabinet" "plan" "LKeyCabinet$Plan;") (by decide +kernel)
  have hf41 := hts (.fieldLink RX2 41 "KeyCabinet$Plan" "keys" "I") (by decide +kernel)
  have hf27 := hts (.fieldLink RX2 27 "KeyCabinet" "copyToLend" "[I") (by decide +kernel)
  have hl := lv_entry ([.ref (ad 14), .int sx]) (n := 4) (Nat.le_of_ble_eq_true rfl)
  rw [lg_entry_eq]
  generalize (lg_sl ([.ref (ad 14), .int sx]) ++ List.replicate (4 - (lg_sl ([.ref (ad 14), .int sx])).length) Slot.unset).toArray = ls at hl ⊢
  have hl : lv_has ls 4 [(0, .ref (ad 14)), (1, .int sx)] := hl
  refine lv_iconst (v := 0) hx hb dX2_copiesOf_0 (by decide) ?_
  refine lv_istore_n (lv' := [(2, .int 0), (0, .ref (ad 14)), (1, .int sx)]) hx hb dX2_copiesOf_1 rfl hl (by decide) rfl (fun ls hl => ?_)
  refine lv_iconst (v := 0) hx hb dX2_copiesOf_2 (by decide) ?_
  refine lv_istore_n (lv' := [(3, .int 0), (2, .int 0), (0, .ref (ad 14)), (1, .int sx)]) hx hb dX2_copiesOf_3 rfl hl (by decide) rfl (fun ls hl => ?_)
  refine kc_forW (pc := 4) (N := K) (P := fun j ls => lv_has ls 4 [(3, .int (nI j)), (2, .int (jSCop0 cl sx j)), (0, .ref (ad 14)), (1, .int sx)] ∧ ∀ i, i < j → ¬ (jHas sx i ∧ cl i = (-1))) (fun j ls hj_4 hp ih_4 => ?_) ls ?_
  · obtain ⟨hl, he_4⟩ := hp
    refine lv_iload_n hx hb dX2_copiesOf_4 rfl (lv_at hl 0 rfl) ?_
    refine lv_aload_n hx hb dX2_copiesOf_5 rfl (lv_at hl 2 rfl) ?_
    refine va_get (D := D) (ci := 2) (v := .ref (ad 0)) (C := RX2) (T := TX2) (N := 5) hx hb hts hinX2 hown hK.1 hP 14 rfl rfl 0 (by decide) hf16 (fun _ h9 => h9) rfl dX2_copiesOf_6 ?_
    refine va_get (D := D) (ci := 1) (v := .int (nI K)) (C := RX1) (T := TX1) (N := 8) hx hb hts hinX1 hown hK.1 hP 0 rfl rfl 5 (by decide) hf41 (fun _ h9 => h9) rfl dX2_copiesOf_9 ?_
    refine kc_tst (j := j) (N := K) (tgt := 53) hx hb dX2_copiesOf_12 (by decide) hj_4 (by omega) (fun hN => ?_) (fun hlt_4 => ?_)
    · subst hN
      refine lv_iload_n hx hb dX2_copiesOf_53 rfl (lv_at hl 1 rfl) ?_
      exact W.iret (v := jSCop0 cl sx K) hx hb hr (fun tZ htZ hWZ => ⟨_, rfl, (by rw [jSCop, if_neg (jAny_f (fun i hi h => he_4 i hi (of_decide_eq_true h)))]), htZ⟩) hS.2.2 dX2_copiesOf_54
    · refine lv_iload_n hx hb dX2_copiesOf_15 rfl (lv_at hl 3 rfl) ?_
      refine lv_iload_n hx hb dX2_copiesOf_16 rfl (lv_at hl 0 rfl) ?_
      refine lv_ishr hx hb dX2_copiesOf_17 ?_
      refine lv_iconst (v := 1) hx hb dX2_copiesOf_18 (by decide) ?_
      refine lv_iand hx hb dX2_copiesOf_19 ?_
      refine lv_iconst (v := 1) hx hb dX2_copiesOf_20 (by decide) ?_
      refine lv_icmp_ne (tgt := 47) hx hb dX2_copiesOf_21 (by decide) (fun c_21 => ?_) (fun c_21 => ?_)
      · refine lv_iinc (v := nI (j + 1)) (lv' := [(3, .int (nI (j + 1))), (2, .int (jSCop0 cl sx j)), (0, .ref (ad 14)), (1, .int sx)]) hx hb dX2_copiesOf_47 hl (k := 0) rfl (kc_inc j) (by decide) rfl (fun ls hl => ?_)
        refine lv_goto (tgt := 4) hx hb dX2_copiesOf_50 (by decide) ?_
        refine ih_4 _ hlt_4 ?_
        have eq_2 : jSCop0 cl sx (j + 1) = jSCop0 cl sx j := by simp only [jSCop0, fo_s, if_neg c_21]
        show lv_has _ 4 [(3, .int (nI (j + 1))), (2, .int (jSCop0 cl sx (j + 1))), (0, .ref (ad 14)), (1, .int sx)] ∧ ∀ i, i < (j + 1) → ¬ (jHas sx i ∧ cl i = (-1))
        rw [eq_2]
        exact ⟨lv_sub hl [0, 1, 2, 3] rfl, lt_s he_4 (fun h => c_21 h.1)⟩
      · refine lv_aload_n hx hb dX2_copiesOf_24 rfl (lv_at hl 2 rfl) ?_
        refine va_get (D := D) (ci := 2) (v := .ref (ad 15)) (C := RX2) (T := TX2) (N := 5) hx hb hts hinX2 hown hK.1 hP 14 rfl rfl 2 (by decide) hf27 (fun _ h9 => h9) rfl dX2_copiesOf_25 ?_
        refine lv_iload_n hx hb dX2_copiesOf_28 rfl (lv_at hl 0 rfl) ?_
        refine kc_ald (i := j) (n := 8) hx hb hK hP 15 0 rfl rfl (by omega) (by decide) dX2_copiesOf_29 ?_
        refine lv_iconst (v := (-1)) hx hb dX2_copiesOf_30 (by decide) ?_
        refine lv_icmp_ne (tgt := 36) hx hb dX2_copiesOf_31 (by decide) (fun c_31 => ?_) (fun c_31 => ?_)
        · refine lv_iload_n hx hb dX2_copiesOf_36 rfl (lv_at hl 1 rfl) ?_
          refine lv_iconst (v := 1) hx hb dX2_copiesOf_37 (by decide) ?_
          refine lv_aload_n hx hb dX2_copiesOf_38 rfl (lv_at hl 2 rfl) ?_
          refine va_get (D := D) (ci := 2) (v := .ref (ad 15)) (C := RX2) (T := TX2) (N := 5) hx hb hts hinX2 hown hK.1 hP 14 rfl rfl 2 (by decide) hf27 (fun _ h9 => h9) rfl dX2_copiesOf_39 ?_
          refine lv_iload_n hx hb dX2_copiesOf_42 rfl (lv_at hl 0 rfl) ?_
          refine kc_ald (i := j) (n := 8) hx hb hK hP 15 0 rfl rfl (by omega) (by decide) dX2_copiesOf_43 ?_
          refine lv_ishl hx hb dX2_copiesOf_44 ?_
          refine lv_ior hx hb dX2_copiesOf_45 ?_
          refine lv_istore_n (lv' := [(2, .int ((jSCop0 cl sx j) ||| (1 <<< ((cl j) &&& 31)))), (3, .int (nI j)), (0, .ref (ad 14)), (1, .int sx)]) hx hb dX2_copiesOf_46 rfl hl (by decide) rfl (fun ls hl => ?_)
          refine lv_iinc (v := nI (j + 1)) (lv' := [(3, .int (nI (j + 1))), (2, .int ((jSCop0 cl sx j) ||| (1 <<< ((cl j) &&& 31)))), (0, .ref (ad 14)), (1, .int sx)]) hx hb dX2_copiesOf_47 hl (k := 1) rfl (kc_inc j) (by decide) rfl (fun ls hl => ?_)
          refine lv_goto (tgt := 4) hx hb dX2_copiesOf_50 (by decide) ?_
          refine ih_4 _ hlt_4 ?_
          have eq_2 : jSCop0 cl sx (j + 1) = (jSCop0 cl sx j) ||| (1 <<< ((cl j) &&& 31)) := by simp only [jSCop0, fo_s, if_pos c_21, if_neg c_31]
          show lv_has _ 4 [(3, .int (nI (j + 1))), (2, .int (jSCop0 cl sx (j + 1))), (0, .ref (ad 14)), (1, .int sx)] ∧ ∀ i, i < (j + 1) → ¬ (jHas sx i ∧ cl i = (-1))
          rw [eq_2]
          exact ⟨lv_sub hl [0, 1, 2, 3] rfl, lt_s he_4 (fun h => c_31 h.2)⟩
        · refine lv_iconst (v := (-1)) hx hb dX2_copiesOf_34 (by decide) ?_
          exact W.iret (v := (-1)) hx hb hr (fun tZ htZ hWZ => ⟨_, rfl, (by rw [jSCop, if_pos (jAny_t j hlt_4 (decide_eq_true ⟨c_21, c_31⟩))]), htZ⟩) hS.2.2 dX2_copiesOf_35
  · exact ⟨lv_sub hl [0, 1, 2, 3] rfl, (fun _ h => absurd h (Nat.not_lt_zero _))⟩
set_option maxHeartbeats 4000000 in
set_option maxRecDepth 100000 in
theorem c_X2_bestCopies (l : Launch) (D : va_G) (ad : Nat → Nat) (cI : ClassId) (cd : Nat → Int32) (te : Nat → Int32) (ri : Nat → Int32) (pi : Nat → Int32) (pw : Nat → Int32) (K : Nat) (Dn : Nat) (mv : Int32) (ko : Nat → Int32) (so : Nat → Int32) (tl : Nat → Int32) (lp : Nat → Int32) (lb : Nat → Int32) (ld : Nat → Int32) (le : Nat → Int32) (C : Nat) (cl : Nat → Int32) (dq : Nat → Int32) (dy : Int32) (re : Int32) (wa : Int32) (hK8 : K ≤ 8) : Met l yX2_bestCopies wsX2_bestCopies ({ frames := 1, cells := 0, slots := 0, locals := 23 } : Room) (rdP [.ref (ad 14), .int re, .int wa] D (wKc ad cI cd te ri pi pw K Dn mv ko so tl lp lb ld le C cl dq dy) [(cI, .int)]) (vp_Si (fun rZ => rZ = (jSug cl dq K re wa (2 ^ K)).1)) 0 0 (fun _ => False) := by
  refine Met.ofW (cc := cX2_bestCopies) (maxL := 9) (ret := (some .int)) (by decide) rfl ?_
  intro p e s m args below meth c s₁ B hml hv
  obtain ⟨rfl, hP, hK⟩ := hv
  have hx := B.exec
  have hb := B.bytes
  have hr := B.returns
  have hts := atoms_spec (ws := wsX2_bestCopies) B.pre
  have hown : s.vm.findClass RX2 = some m.cls := findClass_of_methodNamed B.named
  have hlocks := B.notSynchronized
  have hS : va_S (fun _ => False) s.heap s.heap [] := va_S.rf
  have hinX1 : ∀ w ∈ u_ws RX1 TX1 8, w ∈ wsX2_bestCopies := by decide +kernel
  have hinX2 : ∀ w ∈ u_ws RX2 TX2 5, w ∈ wsX2_bestCopies := by decide +kernel
  have hf16 := hts (.fieldLink RX2 16 "KeyCabinet" "plan" "LKeyCabinet$Plan;") (by decide +kernel)
  have hf41 := hts (.fieldLink RX2 41 "KeyCabinet$Plan" "keys" "I") (by decide +kernel)
  have hl := lv_entry ([.ref (ad 14), .int re, .int wa]) (n := 9) (Nat.le_of_ble_eq_true rfl)
  rw [lg_entry_eq]
  generalize (lg_sl ([.ref (ad 14), .int re, .int wa]) ++ List.replicate (9 - (lg_sl ([.ref (ad 14), .int re, .int wa])).length) Slot.unset).toArray = ls at hl ⊢
  have hl : lv_has ls 9 [(0, .ref (ad 14)), (1, .int re), (2, .int wa)] := hl
  refine lv_iconst (v := (-1)) hx hb dX2_bestCopies_0 (by decide) ?_
  refine lv_istore_n (lv' := [(3, .int (-1)), (0, .ref (ad 14)), (1, .int re), (2, .int wa)]) hx hb dX2_bestCopies_1 rfl hl (by decide) rfl (fun ls hl => ?_)
  refine lv_iconst (v := 0) hx hb dX2_bestCopies_2 (by decide) ?_
  refine lv_istore (lv' := [(4, .int 0), (3, .int (-1)), (0, .ref (ad 14)), (1, .int re), (2, .int wa)]) hx hb dX2_bestCopies_3 hl (by decide) rfl (fun ls hl => ?_)
  refine lv_iconst (v := 0) hx hb dX2_bestCopies_5 (by decide) ?_
  refine lv_istore (lv' := [(5, .int 0), (4, .int 0), (3, .int (-1)), (0, .ref (ad 14)), (1, .int re), (2, .int wa)]) hx hb dX2_bestCopies_6 hl (by decide) rfl (fun ls hl => ?_)
  refine kc_forW (pc := 8) (N := 2 ^ K) (P := fun i ls => lv_has ls 9 [(5, .int (nI i)), (4, .int ((jSug cl dq K re wa i).2)), (3, .int ((jSug cl dq K re wa i).1)), (0, .ref (ad 14)), (1, .int re), (2, .int wa)]) (fun i ls hj_8 hp ih_8 => ?_) ls ?_
  · have hl := hp
    refine lv_iload hx hb dX2_bestCopies_8 (lv_at hl 0 rfl) ?_
    refine lv_iconst (v := 1) hx hb dX2_bestCopies_10 (by decide) ?_
    refine lv_aload_n hx hb dX2_bestCopies_11 rfl (lv_at hl 3 rfl) ?_
    refine va_get (D := D) (ci := 2) (v := .ref (ad 0)) (C := RX2) (T := TX2) (N := 5) hx hb hts hinX2 hown hK.1 hP 14 rfl rfl 0 (by decide) hf16 (fun _ h9 => h9) rfl dX2_bestCopies_12 ?_
    refine va_get (D := D) (ci := 1) (v := .int (nI K)) (C := RX1) (T := TX1) (N := 8) hx hb hts hinX1 hown hK.1 hP 0 rfl rfl 5 (by decide) hf41 (fun _ h9 => h9) rfl dX2_bestCopies_15 ?_
    refine lv_ishl hx hb dX2_bestCopies_18 ?_
    refine kc_top (show 1 <<< ((nI K) &&& 31) = nI (2 ^ K) from kc_sh hK8) ?_
    refine kc_tst (j := i) (N := 2 ^ K) (tgt := 116) hx hb dX2_bestCopies_19 (by decide) hj_8 (kc_2lt hK8) (fun hN => ?_) (fun hlt_8 => ?_)
    · subst hN
      refine lv_iload_n hx hb dX2_bestCopies_116 rfl (lv_at hl 2 rfl) ?_
      exact W.iret (v := (jSug cl dq K re wa (2 ^ K)).1) hx hb hr (fun tZ htZ hWZ => ⟨_, rfl, rfl, htZ⟩) hS.2.2 dX2_bestCopies_117
    · refine lv_iload_n hx hb dX2_bestCopies_22 rfl (lv_at hl 4 rfl) ?_
      refine lv_aload_n hx hb dX2_bestCopies_23 rfl (lv_at hl 3 rfl) ?_
      refine lv_iload hx hb dX2_bestCopies_24 (lv_at hl 0 rfl) ?_
      refine kc_rVi (As := [.int (nI i)]) (rest := [.int re]) ⟨hx, hb, hml, hown, hts⟩ (c_X2_doorsOpenedBy l D ad cI cd te ri pi pw K Dn mv ko so tl lp lb ld le C cl dq dy (nI i) hK8) (cwV 1 hts gX2_bestCopies_X2_doorsOpenedBy rfl rfl rfl (by decide +kernel) ⟨Nat.le_of_ble_eq_true rfl, Nat.le_of_ble_eq_true rfl⟩) hK hP [0, 1, 2, 3, 4, 5, 6, 7, 8, 9, 10, 11, 12, 13, 14, 15, 16] [0] rfl rfl 14 rfl rfl rfl rfl hl.1 rfl (Nat.le_of_ble_eq_true rfl) dX2_bestCopies_26 ⟨Nat.le_of_ble_eq_true rfl, Nat.le_of_ble_eq_true rfl⟩ ?_
      refine lv_ior hx hb dX2_bestCopies_29 ?_
      refine lv_istore (lv' := [(6, .int (re ||| (jSOpen dq (nI i) K))), (5, .int (nI i)), (4, .int ((jSug cl dq K re wa i).2)), (3, .int ((jSug cl dq K re wa i).1)), (0, .ref (ad 14)), (1, .int re), (2, .int wa)]) hx hb dX2_bestCopies_30 hl (by decide) rfl (fun ls hl => ?_)
      refine lv_iload hx hb dX2_bestCopies_32 (lv_at hl 0 rfl) ?_
      refine lv_iload_n hx hb dX2_bestCopies_34 rfl (lv_at hl 6 rfl) ?_
      refine kc_rSi (As := [.int (re ||| (jSOpen dq (nI i) K)), .int wa]) (rest := []) ⟨hx, hb, hml, hown, hts⟩ (c_X2_contains l (re ||| (jSOpen dq (nI i) K)) wa ) (va_cwS 2 hts gX2_bestCopies_X2_contains rfl rfl rfl (by decide +kernel) ⟨Nat.le_of_ble_eq_true rfl, Nat.le_of_ble_eq_true rfl⟩) rfl hl.1 rfl (Nat.le_of_ble_eq_true rfl) dX2_bestCopies_35 ⟨Nat.le_of_ble_eq_true rfl, Nat.le_of_ble_eq_true rfl⟩ ?_
      refine kc_ifeqB (tgt := 50) hx hb dX2_bestCopies_38 (by decide) (fun c_38 => ?_) (fun c_38 => ?_)
      · refine lv_iconst (v := (-1)) hx hb dX2_bestCopies_50 (by decide) ?_
        refine lv_istore (lv' := [(7, .int (-1)), (6, .int (re ||| (jSOpen dq (nI i) K))), (5, .int (nI i)), (4, .int ((jSug cl dq K re wa i).2)), (3, .int ((jSug cl dq K re wa i).1)), (0, .ref (ad 14)), (1, .int re), (2, .int wa)]) hx hb dX2_bestCopies_51 hl (by decide) rfl (fun ls hl => ?_)
        refine lv_iload hx hb dX2_bestCopies_53 (lv_at hl 0 rfl) ?_
        refine lv_iconst (v := (-1)) hx hb dX2_bestCopies_55 (by decide) ?_
        refine lv_icmp_ne (tgt := 62) hx hb dX2_bestCopies_56 (by decide) (fun c_56 => absurd c_56 (by decide)) (fun c_56 => ?_)
        refine lv_goto (tgt := 110) hx hb dX2_bestCopies_59 (by decide) ?_
        refine lv_iinc (v := nI (i + 1)) (lv' := [(5, .int (nI (i + 1))), (7, .int (-1)), (6, .int (re ||| (jSOpen dq (nI i) K))), (4, .int ((jSug cl dq K re wa i).2)), (3, .int ((jSug cl dq K re wa i).1)), (0, .ref (ad 14)), (1, .int re), (2, .int wa)]) hx hb dX2_bestCopies_110 hl (k := 2) rfl (kc_inc i) (by decide) rfl (fun ls hl => ?_)
        refine lv_goto (tgt := 8) hx hb dX2_bestCopies_113 (by decide) ?_
        refine ih_8 _ hlt_8 ?_
        have eq_4 : (jSug cl dq K re wa (i + 1)).2 = (jSug cl dq K re wa i).2 := by rw [jSug_s]; simp only [jSStep, if_neg c_38]
        have eq_3 : (jSug cl dq K re wa (i + 1)).1 = (jSug cl dq K re wa i).1 := by rw [jSug_s]; simp only [jSStep, if_neg c_38]
        show lv_has _ 9 [(5, .int (nI (i + 1))), (4, .int ((jSug cl dq K re wa (i + 1)).2)), (3, .int ((jSug cl dq K re wa (i + 1)).1)), (0, .ref (ad 14)), (1, .int re), (2, .int wa)]
        rw [eq_4, eq_3]
        exact lv_sub hl [0, 3, 4, 5, 6, 7] rfl
      · refine lv_aload_n hx hb dX2_bestCopies_41 rfl (lv_at hl 4 rfl) ?_
        refine lv_iload hx hb dX2_bestCopies_42 (lv_at hl 1 rfl) ?_
        refine kc_rVi (As := [.int (nI i)]) (rest := []) ⟨hx, hb, hml, hown, hts⟩ (c_X2_copiesOf l D ad cI cd te ri pi pw K Dn mv ko so tl lp lb ld le C cl dq dy (nI i) hK8) (cwV 1 hts gX2_bestCopies_X2_copiesOf rfl rfl rfl (by decide +kernel) ⟨Nat.le_of_ble_eq_true rfl, Nat.le_of_ble_eq_true rfl⟩) hK hP [0, 1, 2, 3, 4, 5, 6, 7, 8, 9, 10, 11, 12, 13, 14, 15, 16] [0] rfl rfl 14 rfl rfl rfl rfl hl.1 rfl (Nat.le_of_ble_eq_true rfl) dX2_bestCopies_44 ⟨Nat.le_of_ble_eq_true rfl, Nat.le_of_ble_eq_true rfl⟩ ?_
        refine lv_goto (tgt := 51) hx hb dX2_bestCopies_47 (by decide) ?_
        refine lv_istore (lv' := [(7, .int (jSCop cl (nI i) K)), (6, .int (re ||| (jSOpen dq (nI i) K))), (5, .int (nI i)), (4, .int ((jSug cl dq K re wa i).2)), (3, .int ((jSug cl dq K re wa i).1)), (0, .ref (ad 14)), (1, .int re), (2, .int wa)]) hx hb dX2_bestCopies_51 hl (by decide) rfl (fun ls hl => ?_)
        refine lv_iload hx hb dX2_bestCopies_53 (lv_at hl 0 rfl) ?_
        refine lv_iconst (v := (-1)) hx hb dX2_bestCopies_55 (by decide) ?_
        refine lv_icmp_ne (tgt := 62) hx hb dX2_bestCopies_56 (by decide) (fun c_56 => ?_) (fun c_56 => ?_)
        · refine lv_iload hx hb dX2_bestCopies_62 (lv_at hl 0 rfl) ?_
          refine kc_rSi (As := [.int (jSCop cl (nI i) K)]) (rest := []) ⟨hx, hb, hml, hown, hts⟩ (c_J6_bitCount_0f7a4 l (jSCop cl (nI i) K) ) (va_cwS 1 hts gX2_bestCopies_J6_bitCount_0f7a4 rfl rfl rfl (by decide +kernel) ⟨Nat.le_of_ble_eq_true rfl, Nat.le_of_ble_eq_true rfl⟩) rfl hl.1 rfl (Nat.le_of_ble_eq_true rfl) dX2_bestCopies_64 ⟨Nat.le_of_ble_eq_true rfl, Nat.le_of_ble_eq_true rfl⟩ ?_
          refine lv_bipush (v := 9) hx hb dX2_bestCopies_67 (by decide) ?_
          refine lv_imul hx hb dX2_bestCopies_69 ?_
          refine lv_iload hx hb dX2_bestCopies_70 (lv_at hl 1 rfl) ?_
          refine kc_rSi (As := [.int (re ||| (jSOpen dq (nI i) K))]) (rest := [.int ((jPop (jSCop cl (nI i) K)) * 9)]) ⟨hx, hb, hml, hown, hts⟩ (c_J6_bitCount_0f7a4 l (re ||| (jSOpen dq (nI i) K)) ) (va_cwS 1 hts gX2_bestCopies_J6_bitCount_0f7a4 rfl rfl rfl (by decide +kernel) ⟨Nat.le_of_ble_eq_true rfl, Nat.le_of_ble_eq_true rfl⟩) rfl hl.1 rfl (Nat.le_of_ble_eq_true rfl) dX2_bestCopies_72 ⟨Nat.le_of_ble_eq_true rfl, Nat.le_of_ble_eq_true rfl⟩ ?_
          refine lv_iadd hx hb dX2_bestCopies_75 ?_
          refine kc_top (show ((jPop (jSCop cl (nI i) K)) * 9) + (jPop (re ||| (jSOpen dq (nI i) K))) = jSRank (jSCop cl (nI i) K) (re ||| jSOpen dq (nI i) K) from rfl) ?_
          refine lv_istore (lv' := [(8, .int (jSRank (jSCop cl (nI i) K) (re ||| jSOpen dq (nI i) K))), (7, .int (jSCop cl (nI i) K)), (6, .int (re ||| (jSOpen dq (nI i) K))), (5, .int (nI i)), (4, .int ((jSug cl dq K re wa i).2)), (3, .int ((jSug cl dq K re wa i).1)), (0, .ref (ad 14)), (1, .int re), (2, .int wa)]) hx hb dX2_bestCopies_76 hl (by decide) rfl (fun ls hl => ?_)
          refine lv_iload_n hx hb dX2_bestCopies_78 rfl (lv_at hl 5 rfl) ?_
          refine lv_iconst (v := (-1)) hx hb dX2_bestCopies_79 (by decide) ?_
          refine lv_icmp_eq (tgt := 103) hx hb dX2_bestCopies_80 (by decide) (fun c_80 => ?_) (fun c_80 => ?_)
          · refine lv_iload hx hb dX2_bestCopies_103 (lv_at hl 1 rfl) ?_
            refine lv_istore_n (lv' := [(3, .int (jSCop cl (nI i) K)), (8, .int (jSRank (jSCop cl (nI i) K) (re ||| jSOpen dq (nI i) K))), (7, .int (jSCop cl (nI i) K)), (6, .int (re ||| (jSOpen dq (nI i) K))), (5, .int (nI i)), (4, .int ((jSug cl dq K re wa i).2)), (0, .ref (ad 14)), (1, .int re), (2, .int wa)]) hx hb dX2_bestCopies_105 rfl hl (by decide) rfl (fun ls hl => ?_)
            refine lv_iload hx hb dX2_bestCopies_106 (lv_at hl 1 rfl) ?_
            refine lv_istore (lv' := [(4, .int (jSRank (jSCop cl (nI i) K) (re ||| jSOpen dq (nI i) K))), (3, .int (jSCop cl (nI i) K)), (8, .int (jSRank (jSCop cl (nI i) K) (re ||| jSOpen dq (nI i) K))), (7, .int (jSCop cl (nI i) K)), (6, .int (re ||| (jSOpen dq (nI i) K))), (5, .int (nI i)), (0, .ref (ad 14)), (1, .int re), (2, .int wa)]) hx hb dX2_bestCopies_108 hl (by decide) rfl (fun ls hl => ?_)
            refine lv_iinc (v := nI (i + 1)) (lv' := [(5, .int (nI (i + 1))), (4, .int (jSRank (jSCop cl (nI i) K) (re ||| jSOpen dq (nI i) K))), (3, .int (jSCop cl (nI i) K)), (8, .int (jSRank (jSCop cl (nI i) K) (re ||| jSOpen dq (nI i) K))), (7, .int (jSCop cl (nI i) K)), (6, .int (re ||| (jSOpen dq (nI i) K))), (0, .ref (ad 14)), (1, .int re), (2, .int wa)]) hx hb dX2_bestCopies_110 hl (k := 5) rfl (kc_inc i) (by decide) rfl (fun ls hl => ?_)
            refine lv_goto (tgt := 8) hx hb dX2_bestCopies_113 (by decide) ?_
            refine ih_8 _ hlt_8 ?_
            have eq_4 : (jSug cl dq K re wa (i + 1)).2 = jSRank (jSCop cl (nI i) K) (re ||| jSOpen dq (nI i) K) := by rw [jSug_s]; simp only [jSStep, if_pos c_38, if_neg c_56, if_pos c_80]
            have eq_3 : (jSug cl dq K re wa (i + 1)).1 = jSCop cl (nI i) K := by rw [jSug_s]; simp only [jSStep, if_pos c_38, if_neg c_56, if_pos c_80]
            show lv_has _ 9 [(5, .int (nI (i + 1))), (4, .int ((jSug cl dq K re wa (i + 1)).2)), (3, .int ((jSug cl dq K re wa (i + 1)).1)), (0, .ref (ad 14)), (1, .int re), (2, .int wa)]
            rw [eq_4, eq_3]
            exact lv_sub hl [0, 1, 2, 6, 7, 8] rfl
          · refine lv_iload hx hb dX2_bestCopies_83 (lv_at hl 0 rfl) ?_
            refine lv_iload hx hb dX2_bestCopies_85 (lv_at hl 4 rfl) ?_
            refine lv_icmp_lt (tgt := 103) hx hb dX2_bestCopies_87 (by decide) (fun c_87 => ?_) (fun c_87 => ?_)
            · refine lv_iload hx hb dX2_bestCopies_103 (lv_at hl 1 rfl) ?_
              refine lv_istore_n (lv' := [(3, .int (jSCop cl (nI i) K)), (8, .int (jSRank (jSCop cl (nI i) K) (re ||| jSOpen dq (nI i) K))), (7, .int (jSCop cl (nI i) K)), (6, .int (re ||| (jSOpen dq (nI i) K))), (5, .int (nI i)), (4, .int ((jSug cl dq K re wa i).2)), (0, .ref (ad 14)), (1, .int re), (2, .int wa)]) hx hb dX2_bestCopies_105 rfl hl (by decide) rfl (fun ls hl => ?_)
              refine lv_iload hx hb dX2_bestCopies_106 (lv_at hl 1 rfl) ?_
              refine lv_istore (lv' := [(4, .int (jSRank (jSCop cl (nI i) K) (re ||| jSOpen dq (nI i) K))), (3, .int (jSCop cl (nI i) K)), (8, .int (jSRank (jSCop cl (nI i) K) (re ||| jSOpen dq (nI i) K))), (7, .int (jSCop cl (nI i) K)), (6, .int (re ||| (jSOpen dq (nI i) K))), (5, .int (nI i)), (0, .ref (ad 14)), (1, .int re), (2, .int wa)]) hx hb dX2_bestCopies_108 hl (by decide) rfl (fun ls hl => ?_)
              refine lv_iinc (v := nI (i + 1)) (lv' := [(5, .int (nI (i + 1))), (4, .int (jSRank (jSCop cl (nI i) K) (re ||| jSOpen dq (nI i) K))), (3, .int (jSCop cl (nI i) K)), (8, .int (jSRank (jSCop cl (nI i) K) (re ||| jSOpen dq (nI i) K))), (7, .int (jSCop cl (nI i) K)), (6, .int (re ||| (jSOpen dq (nI i) K))), (0, .ref (ad 14)), (1, .int re), (2, .int wa)]) hx hb dX2_bestCopies_110 hl (k := 5) rfl (kc_inc i) (by decide) rfl (fun ls hl => ?_)
              refine lv_goto (tgt := 8) hx hb dX2_bestCopies_113 (by decide) ?_
              refine ih_8 _ hlt_8 ?_
              have eq_4 : (jSug cl dq K re wa (i + 1)).2 = jSRank (jSCop cl (nI i) K) (re ||| jSOpen dq (nI i) K) := by rw [jSug_s]; simp only [jSStep, if_pos c_38, if_neg c_56, if_neg c_80, if_pos c_87]
              have eq_3 : (jSug cl dq K re wa (i + 1)).1 = jSCop cl (nI i) K := by rw [jSug_s]; simp only [jSStep, if_pos c_38, if_neg c_56, if_neg c_80, if_pos c_87]
              show lv_has _ 9 [(5, .int (nI (i + 1))), (4, .int ((jSug cl dq K re wa (i + 1)).2)), (3, .int ((jSug cl dq K re wa (i + 1)).1)), (0, .ref (ad 14)), (1, .int re), (2, .int wa)]
              rw [eq_4, eq_3]
              exact lv_sub hl [0, 1, 2, 6, 7, 8] rfl
            · refine lv_iload hx hb dX2_bestCopies_90 (lv_at hl 0 rfl) ?_
              refine lv_iload hx hb dX2_bestCopies_92 (lv_at hl 4 rfl) ?_
              refine lv_icmp_ne (tgt := 110) hx hb dX2_bestCopies_94 (by decide) (fun c_94 => ?_) (fun c_94 => ?_)
              · refine lv_iinc (v := nI (i + 1)) (lv' := [(5, .int (nI (i + 1))), (8, .int (jSRank (jSCop cl (nI i) K) (re ||| jSOpen dq (nI i) K))), (7, .int (jSCop cl (nI i) K)), (6, .int (re ||| (jSOpen dq (nI i) K))), (4, .int ((jSug cl dq K re wa i).2)), (3, .int ((jSug cl dq K re wa i).1)), (0, .ref (ad 14)), (1, .int re), (2, .int wa)]) hx hb dX2_bestCopies_110 hl (k := 3) rfl (kc_inc i) (by decide) rfl (fun ls hl => ?_)
                refine lv_goto (tgt := 8) hx hb dX2_bestCopies_113 (by decide) ?_
                refine ih_8 _ hlt_8 ?_
                have eq_4 : (jSug cl dq K re wa (i + 1)).2 = (jSug cl dq K re wa i).2 := by rw [jSug_s]; simp only [jSStep, if_pos c_38, if_neg c_56, if_neg c_80, if_neg c_87, if_neg c_94]
                have eq_3 : (jSug cl dq K re wa (i + 1)).1 = (jSug cl dq K re wa i).1 := by rw [jSug_s]; simp only [jSStep, if_pos c_38, if_neg c_56, if_neg c_80, if_neg c_87, if_neg c_94]
                show lv_has _ 9 [(5, .int (nI (i + 1))), (4, .int ((jSug cl dq K re wa (i + 1)).2)), (3, .int ((jSug cl dq K re wa (i + 1)).1)), (0, .ref (ad 14)), (1, .int re), (2, .int wa)]
                rw [eq_4, eq_3]
                exact lv_sub hl [0, 4, 5, 6, 7, 8] rfl
              · refine lv_iload hx hb dX2_bestCopies_97 (lv_at hl 1 rfl) ?_
                refine lv_iload_n hx hb dX2_bestCopies_99 rfl (lv_at hl 5 rfl) ?_
                refine lv_icmp_ge (tgt := 110) hx hb dX2_bestCopies_100 (by decide) (fun c_100 => ?_) (fun c_100 => ?_)
                · refine lv_iinc (v := nI (i + 1)) (lv' := [(5, .int (nI (i + 1))), (8, .int (jSRank (jSCop cl (nI i) K) (re ||| jSOpen dq (nI i) K))), (7, .int (jSCop cl (nI i) K)), (6, .int (re ||| (jSOpen dq (nI i) K))), (4, .int ((jSug cl dq K re wa i).2)), (3, .int ((jSug cl dq K re wa i).1)), (0, .ref (ad 14)), (1, .int re), (2, .int wa)]) hx hb dX2_bestCopies_110 hl (k := 3) rfl (kc_inc i) (by decide) rfl (fun ls hl => ?_)
                  refine lv_goto (tgt := 8) hx hb dX2_bestCopies_113 (by decide) ?_
                  refine ih_8 _ hlt_8 ?_
                  have eq_4 : (jSug cl dq K re wa (i + 1)).2 = (jSug cl dq K re wa i).2 := by rw [jSug_s]; simp only [jSStep, if_pos c_38, if_neg c_56, if_neg c_80, if_neg c_87, if_pos c_94, if_pos c_100]
                  have eq_3 : (jSug cl dq K re wa (i + 1)).1 = (jSug cl dq K re wa i).1 := by rw [jSug_s]; simp only [jSStep, if_pos c_38, if_neg c_56, if_neg c_80, if_neg c_87, if_pos c_94, if_pos c_100]
                  show lv_has _ 9 [(5, .int (nI (i + 1))), (4, .int ((jSug cl dq K re wa (i + 1)).2)), (3, .int ((jSug cl dq K re wa (i + 1)).1)), (0, .ref (ad 14)), (1, .int re), (2, .int wa)]
                  rw [eq_4, eq_3]
                  exact lv_sub hl [0, 4, 5, 6, 7, 8] rfl
                · refine lv_iload hx hb dX2_bestCopies_103 (lv_at hl 1 rfl) ?_
                  refine lv_istore_n (lv' := [(3, .int (jSCop cl (nI i) K)), (8, .int (jSRank (jSCop cl (nI i) K) (re ||| jSOpen dq (nI i) K))), (7, .int (jSCop cl (nI i) K)), (6, .int (re ||| (jSOpen dq (nI i) K))), (5, .int (nI i)), (4, .int ((jSug cl dq K re wa i).2)), (0, .ref (ad 14)), (1, .int re), (2, .int wa)]) hx hb dX2_bestCopies_105 rfl hl (by decide) rfl (fun ls hl => ?_)
                  refine lv_iload hx hb dX2_bestCopies_106 (lv_at hl 1 rfl) ?_
                  refine lv_istore (lv' := [(4, .int (jSRank (jSCop cl (nI i) K) (re ||| jSOpen dq (nI i) K))), (3, .int (jSCop cl (nI i) K)), (8, .int (jSRank (jSCop cl (nI i) K) (re ||| jSOpen dq (nI i) K))), (7, .int (jSCop cl (nI i) K)), (6, .int (re ||| (jSOpen dq (nI i) K))), (5, .int (nI i)), (0, .ref (ad 14)), (1, .int re), (2, .int wa)]) hx hb dX2_bestCopies_108 hl (by decide) rfl (fun ls hl => ?_)
                  refine lv_iinc (v := nI (i + 1)) (lv' := [(5, .int (nI (i + 1))), (4, .int (jSRank (jSCop cl (nI i) K) (re ||| jSOpen dq (nI i) K))), (3, .int (jSCop cl (nI i) K)), (8, .int (jSRank (jSCop cl (nI i) K) (re ||| jSOpen dq (nI i) K))), (7, .int (jSCop cl (nI i) K)), (6, .int (re ||| (jSOpen dq (nI i) K))), (0, .ref (ad 14)), (1, .int re), (2, .int wa)]) hx hb dX2_bestCopies_110 hl (k := 5) rfl (kc_inc i) (by decide) rfl (fun ls hl => ?_)
                  refine lv_goto (tgt := 8) hx hb dX2_bestCopies_113 (by decide) ?_
                  refine ih_8 _ hlt_8 ?_
                  have eq_4 : (jSug cl dq K re wa (i + 1)).2 = jSRank (jSCop cl (nI i) K) (re ||| jSOpen dq (nI i) K) := by rw [jSug_s]; simp only [jSStep, if_pos c_38, if_neg c_56, if_neg c_80, if_neg c_87, if_pos c_94, if_neg c_100]
                  have eq_3 : (jSug cl dq K re wa (i + 1)).1 = jSCop cl (nI i) K := by rw [jSug_s]; simp only [jSStep, if_pos c_38, if_neg c_56, if_neg c_80, if_neg c_87, if_pos c_94, if_neg c_100]
                  show lv_has _ 9 [(5, .int (nI (i + 1))), (4, .int ((jSug cl dq K re wa (i + 1)).2)), (3, .int ((jSug cl dq K re wa (i + 1)).1)), (0, .ref (ad 14)), (1, .int re), (2, .int wa)]
                  rw [eq_4, eq_3]
                  exact lv_sub hl [0, 1, 2, 6, 7, 8] rfl
        · refine lv_goto (tgt := 110) hx hb dX2_bestCopies_59 (by decide) ?_
          refine lv_iinc (v := nI (i + 1)) (lv' := [(5, .int (nI (i + 1))), (7, .int (jSCop cl (nI i) K)), (6, .int (re ||| (jSOpen dq (nI i) K))), (4, .int ((jSug cl dq K re wa i).2)), (3, .int ((jSug cl dq K re wa i).1)), (0, .ref (ad 14)), (1, .int re), (2, .int wa)]) hx hb dX2_bestCopies_110 hl (k := 2) rfl (kc_inc i) (by decide) rfl (fun ls hl => ?_)
          refine lv_goto (tgt := 8) hx hb dX2_bestCopies_113 (by decide) ?_
          refine ih_8 _ hlt_8 ?_
          have eq_4 : (jSug cl dq K re wa (i + 1)).2 = (jSug cl dq K re wa i).2 := by rw [jSug_s]; simp only [jSStep, if_pos c_38, if_pos c_56]
          have eq_3 : (jSug cl dq K re wa (i + 1)).1 = (jSug cl dq K re wa i).1 := by rw [jSug_s]; simp only [jSStep, if_pos c_38, if_pos c_56]
          show lv_has _ 9 [(5, .int (nI (i + 1))), (4, .int ((jSug cl dq K re wa (i + 1)).2)), (3, .int ((jSug cl dq K re wa (i + 1)).1)), (0, .ref (ad 14)), (1, .int re), (2, .int wa)]
          rw [eq_4, eq_3]
          exact lv_sub hl [0, 3, 4, 5, 6, 7] rfl
  · exact lv_sub hl [0, 1, 2, 3, 4, 5] rfl
set_option maxHeartbeats 4000000 in
set_option maxRecDepth 100000 in
theorem c_X2_suggest_ok (l : Launch) (D : va_G) (ad : Nat → Nat) (cI : ClassId) (cd : Nat → Int32) (te : Nat → Int32) (ri : Nat → Int32) (pi : Nat → Int32) (pw : Nat → Int32) (K : Nat) (Dn : Nat) (mv : Int32) (ko : Nat → Int32) (so : Nat → Int32) (tl : Nat → Int32) (lp : Nat → Int32) (lb : Nat → Int32) (ld : Nat → Int32) (le : Nat → Int32) (C : Nat) (cl : Nat → Int32) (dq : Nat → Int32) (dy : Int32) (pe : Int32) (wa : Int32) (tn : Nat → Nat) (sz : Nat) (hK8 : K ≤ 8) (hD8 : Dn ≤ 8) (hC24 : C ≤ 24) (hok : okLe so tl tn) (hp : jIn 8 pe = true) (hs : jSetOf Dn wa = true) : Met l yX2_suggest wsX2_suggest ({ frames := 5, cells := 0, slots := 0, locals := 110 } : Room) (wrP [.ref (ad 14), .int pe, .int wa] D sz (wKc ad cI cd te ri pi pw K Dn mv ko so tl lp lb ld le C cl dq dy) [(cI, .int)]) (va_Qi (fun rZ (_ : Unit) => rZ = (jSug (jToLend ko so tl C cl K) (jOpened pi te Dn dq K) K (jReach pi te Dn K ko so lp tn C pe) wa (2 ^ K)).1) (wrB D sz (wKc ad cI cd te ri pi pw K Dn mv ko so tl lp lb ld le C cl dq dy) (wKc ad cI cd te ri pi pw K Dn mv ko so tl lp lb ld le C (jToLend ko so tl C cl K) (jOpened pi te Dn dq K) dy)) (va_A (wKc ad cI cd te ri pi pw K Dn mv ko so tl lp lb ld le C cl dq dy) sz)) 0 0 (va_A (wKc ad cI cd te ri pi pw K Dn mv ko so tl lp lb ld le C cl dq dy) sz) := by
  refine Met.ofW (cc := cX2_suggest) (maxL := 4) (ret := (some .int)) (by decide) rfl ?_
  intro p e s m args below meth c s₁ B hml hv
  obtain ⟨rfl, hsz, hP, hD0, hK⟩ := hv
  have hx := B.exec
  have hb := B.bytes
  have hr := B.returns
  have hts := atoms_spec (ws := wsX2_suggest) B.pre
  have hown : s.vm.findClass RX2 = some m.cls := findClass_of_methodNamed B.named
  have hlocks := B.notSynchronized
  subst hsz
  have hD := hD0.self (sz := s.heap.size)
  generalize hAe : va_A (wKc ad cI cd te ri pi pw K Dn mv ko so tl lp lb ld le C cl dq dy) s.heap.size = A at hD ⊢
  have hA : ∀ q : Nat, s.heap.size ≤ q → A q := fun q h => by rw [← hAe]; exact Or.inr h
  have hinX1 : ∀ w ∈ u_ws RX1 TX1 8, w ∈ wsX2_suggest := by decide +kernel
  have hinX2 : ∀ w ∈ u_ws RX2 TX2 5, w ∈ wsX2_suggest := by decide +kernel
  have hf16 := hts (.fieldLink RX2 16 "KeyCabinet" "plan" "LKeyCabinet$Plan;") (by decide +kernel)
  have hf63 := hts (.fieldLink RX2 63 "KeyCabinet$Plan" "doors" "I") (by decide +kernel)
  have hf41 := hts (.fieldLink RX2 41 "KeyCabinet$Plan" "keys" "I") (by decide +kernel)
  have hf27 := hts (.fieldLink RX2 27 "KeyCabinet" "copyToLend" "[I") (by decide +kernel)
  have hf23 := hts (.fieldLink RX2 23 "KeyCabinet" "ledger" "LKeyCabinet$Ledger;") (by decide +kernel)
  have hf31 := hts (.fieldLink RX2 31 "KeyCabinet" "doorsOpened" "[I") (by decide +kernel)
  have hl := lv_entry ([.ref (ad 14), .int pe, .int wa]) (n := 4) (Nat.le_of_ble_eq_true rfl)
  rw [lg_entry_eq]
  generalize (lg_sl ([.ref (ad 14), .int pe, .int wa]) ++ List.replicate (4 - (lg_sl ([.ref (ad 14), .int pe, .int wa])).length) Slot.unset).toArray = ls at hl ⊢
  have hl : lv_has ls 4 [(0, .ref (ad 14)), (1, .int pe), (2, .int wa)] := hl
  refine W.genH (fun H locs eH eL => ?_)
  have hS : va_S A s.heap H locs := by rw [eH, eL]; exact va_S.rf
  have hP : va_P D vwCl (wKc ad cI cd te ri pi pw K Dn mv ko so tl lp lb ld le C cl dq dy) H := by rw [eH]; exact hP
  clear eH eL
  refine lv_aload_n hx hb dX2_suggest_0 rfl (lv_at hl 0 rfl) ?_
  refine lv_iload_n hx hb dX2_suggest_1 rfl (lv_at hl 1 rfl) ?_
  refine kc_rVv (As := [.int pe]) (rest := []) ⟨hx, hb, hml, hown, hts⟩ (c_X2_needPerson l D ad cI cd te ri pi pw K Dn mv ko so tl lp lb ld le C cl dq dy pe hp) (cwV 1 hts gX2_suggest_X2_needPerson rfl rfl rfl (by decide +kernel) ⟨Nat.le_of_ble_eq_true rfl, Nat.le_of_ble_eq_true rfl⟩) hK hP [0, 1, 2, 3, 4, 5, 6, 7, 8, 9, 10, 11, 12, 13, 14, 15, 16] [0] rfl rfl 14 rfl rfl rfl rfl hl.1 rfl (Nat.le_of_ble_eq_true rfl) dX2_suggest_2 ⟨Nat.le_of_ble_eq_true rfl, Nat.le_of_ble_eq_true rfl⟩ ?_
  refine lv_aload_n hx hb dX2_suggest_5 rfl (lv_at hl 0 rfl) ?_
  refine va_get (D := D) (ci := 2) (v := .ref (ad 0)) (C := RX2) (T := TX2) (N := 5) hx hb hts hinX2 hown hK.1 hP 14 rfl rfl 0 (by decide) hf16 (fun _ h9 => h9) rfl dX2_suggest_6 ?_
  refine va_get (D := D) (ci := 1) (v := .int (nI Dn)) (C := RX1) (T := TX1) (N := 8) hx hb hts hinX1 hown hK.1 hP 0 rfl rfl 6 (by decide) hf63 (fun _ h9 => h9) rfl dX2_suggest_9 ?_
  refine lv_iload_n hx hb dX2_suggest_12 rfl (lv_at hl 2 rfl) ?_
  refine kc_rSi (As := [.int (nI Dn), .int wa]) (rest := []) ⟨hx, hb, hml, hown, hts⟩ (c_X2_isSetOf l Dn wa ) (va_cwS 2 hts gX2_suggest_X2_isSetOf rfl rfl rfl (by decide +kernel) ⟨Nat.le_of_ble_eq_true rfl, Nat.le_of_ble_eq_true rfl⟩) rfl hl.1 rfl (Nat.le_of_ble_eq_true rfl) dX2_suggest_13 ⟨Nat.le_of_ble_eq_true rfl, Nat.le_of_ble_eq_true rfl⟩ ?_
  refine kc_ifneB (tgt := 29) hx hb dX2_suggest_16 (by decide) (fun c_16 => ?_) (fun c_16 => ?_)
  · refine lv_iconst (v := 0) hx hb dX2_suggest_29 (by decide) ?_
    refine lv_istore_n (lv' := [(3, .int 0), (0, .ref (ad 14)), (1, .int pe), (2, .int wa)]) hx hb dX2_suggest_30 rfl hl (by decide) rfl (fun ls hl => ?_)
    refine kc_forHW (pc := 31) (N := K) (P := fun j H locs ls => va_P D vwCl (wKc ad cI cd te ri pi pw K Dn mv ko so tl lp lb ld le C (jToLend ko so tl C cl j) (jOpened pi te Dn dq j) dy) H ∧ va_D A (wKc ad cI cd te ri pi pw K Dn mv ko so tl lp lb ld le C (jToLend ko so tl C cl j) (jOpened pi te Dn dq j) dy) ∧ va_S A s.heap H locs ∧ lv_has ls 4 [(3, .int (nI j)), (0, .ref (ad 14)), (1, .int pe), (2, .int wa)]) (fun j H locs ls hj_31 hp ih_31 => ?_) H locs ls ?_
    · obtain ⟨hP, hD, hS, hl⟩ := hp
      refine lv_iload_n hx hb dX2_suggest_31 rfl (lv_at hl 0 rfl) ?_
      refine lv_aload_n hx hb dX2_suggest_32 rfl (lv_at hl 1 rfl) ?_
      refine va_get (D := D) (ci := 2) (v := .ref (ad 0)) (C := RX2) (T := TX2) (N := 5) hx hb hts hinX2 hown hK.1 hP 14 rfl rfl 0 (by decide) hf16 (fun _ h9 => h9) rfl dX2_suggest_33 ?_
      refine va_get (D := D) (ci := 1) (v := .int (nI K)) (C := RX1) (T := TX1) (N := 8) hx hb hts hinX1 hown hK.1 hP 0 rfl rfl 5 (by decide) hf41 (fun _ h9 => h9) rfl dX2_suggest_36 ?_
      refine kc_tst (j := j) (N := K) (tgt := 76) hx hb dX2_suggest_39 (by decide) hj_31 (by omega) (fun hN => ?_) (fun hlt_31 => ?_)
      · subst hN
        refine lv_aload_n hx hb dX2_suggest_76 rfl (lv_at hl 1 rfl) ?_
        refine lv_aload_n hx hb dX2_suggest_77 rfl (lv_at hl 1 rfl) ?_
        refine lv_iload_n hx hb dX2_suggest_78 rfl (lv_at hl 2 rfl) ?_
        refine kc_rVi (As := [.int pe]) (rest := [.ref (ad 14)]) ⟨hx, hb, hml, hown, hts⟩ (c_X2_doorsReached l D ad cI cd te ri pi pw K Dn mv ko so tl lp lb ld le C (jToLend ko so tl C cl K) (jOpened pi te Dn dq K) dy pe tn hK8 hD8 hC24 hok) (cwV 1 hts gX2_suggest_X2_doorsReached rfl rfl rfl (by decide +kernel) ⟨Nat.le_of_ble_eq_true rfl, Nat.le_of_ble_eq_true rfl⟩) hK hP [0, 1, 2, 3, 4, 5, 6, 7, 8, 9, 10, 11, 12, 13, 14, 15, 16] [0] rfl rfl 14 rfl rfl rfl rfl hl.1 rfl (Nat.le_of_ble_eq_true rfl) dX2_suggest_79 ⟨Nat.le_of_ble_eq_true rfl, Nat.le_of_ble_eq_true rfl⟩ ?_
        refine lv_iload_n hx hb dX2_suggest_82 rfl (lv_at hl 3 rfl) ?_
        refine kc_rVi (As := [.int (jReach pi te Dn K ko so lp tn C pe), .int wa]) (rest := []) ⟨hx, hb, hml, hown, hts⟩ (c_X2_bestCopies l D ad cI cd te ri pi pw K Dn mv ko so tl lp lb ld le C (jToLend ko so tl C cl K) (jOpened pi te Dn dq K) dy (jReach pi te Dn K ko so lp tn C pe) wa hK8) (cwV 2 hts gX2_suggest_X2_bestCopies rfl rfl rfl (by decide +kernel) ⟨Nat.le_of_ble_eq_true rfl, Nat.le_of_ble_eq_true rfl⟩) hK hP [0, 1, 2, 3, 4, 5, 6, 7, 8, 9, 10, 11, 12, 13, 14, 15, 16] [0] rfl rfl 14 rfl rfl rfl rfl hl.1 rfl (Nat.le_of_ble_eq_true rfl) dX2_suggest_83 ⟨Nat.le_of_ble_eq_true rfl, Nat.le_of_ble_eq_true rfl⟩ ?_
        exact W.iret (v := (jSug (jToLend ko so tl C cl K) (jOpened pi te Dn dq K) K (jReach pi te Dn K ko so lp tn C pe) wa (2 ^ K)).1) hx hb hr (fun tZ htZ hWZ => ⟨⟨_, (), rfl, rfl, by rw [htZ]; exact hP, by rw [hAe]; exact hD⟩, hS.F htZ⟩) hS.2.2 dX2_suggest_86
      · refine lv_aload_n hx hb dX2_suggest_42 rfl (lv_at hl 1 rfl) ?_
        refine va_get (D := D) (ci := 2) (v := .ref (ad 15)) (C := RX2) (T := TX2) (N := 5) hx hb hts hinX2 hown hK.1 hP 14 rfl rfl 2 (by decide) hf27 (fun _ h9 => h9) rfl dX2_suggest_43 ?_
        refine lv_iload_n hx hb dX2_suggest_46 rfl (lv_at hl 0 rfl) ?_
        refine lv_aload_n hx hb dX2_suggest_47 rfl (lv_at hl 1 rfl) ?_
        refine va_get (D := D) (ci := 2) (v := .ref (ad 6)) (C := RX2) (T := TX2) (N := 5) hx hb hts hinX2 hown hK.1 hP 14 rfl rfl 1 (by decide) hf23 (fun _ h9 => h9) rfl dX2_suggest_48 ?_
        refine lv_iload_n hx hb dX2_suggest_51 rfl (lv_at hl 0 rfl) ?_
        refine kc_rVi (As := [.int (nI j)]) (rest := [.int (nI j), .ref (ad 15)]) ⟨hx, hb, hml, hown, hts⟩ (c_X0_firstToLend l D ad cI ko so tl lp lb ld le C (nI j) hC24) (cwV 1 hts gX2_suggest_X0_firstToLend rfl rfl rfl (by decide +kernel) ⟨Nat.le_of_ble_eq_true rfl, Nat.le_of_ble_eq_true rfl⟩) hK hP [6, 7, 8, 9, 10, 11, 12, 13] [0] rfl rfl 6 rfl rfl rfl rfl hl.1 rfl (Nat.le_of_ble_eq_true rfl) dX2_suggest_52 ⟨Nat.le_of_ble_eq_true rfl, Nat.le_of_ble_eq_true rfl⟩ ?_
        refine kc_ast (i := j) (n := 8) hx hb hK hP hD hS 15 0 rfl rfl (by omega) (by decide) dX2_suggest_55 (fun H locs hP hD hS => ?_)
        have hP : va_P D vwCl (wKc ad cI cd te ri pi pw K Dn mv ko so tl lp lb ld le C (upd (jToLend ko so tl C cl j) j (jFirst ko so tl (nI j) C)) (jOpened pi te Dn dq j) dy) H := hP
        have hD : va_D A (wKc ad cI cd te ri pi pw K Dn mv ko so tl lp lb ld le C (upd (jToLend ko so tl C cl j) j (jFirst ko so tl (nI j) C)) (jOpened pi te Dn dq j) dy) := hD
        refine lv_aload_n hx hb dX2_suggest_56 rfl (lv_at hl 1 rfl) ?_
        refine va_get (D := D) (ci := 2) (v := .ref (ad 16)) (C := RX2) (T := TX2) (N := 5) hx hb hts hinX2 hown hK.1 hP 14 rfl rfl 3 (by decide) hf31 (fun _ h9 => h9) rfl dX2_suggest_57 ?_
        refine lv_iload_n hx hb dX2_suggest_60 rfl (lv_at hl 0 rfl) ?_
        refine lv_aload_n hx hb dX2_suggest_61 rfl (lv_at hl 1 rfl) ?_
        refine va_get (D := D) (ci := 2) (v := .ref (ad 0)) (C := RX2) (T := TX2) (N := 5) hx hb hts hinX2 hown hK.1 hP 14 rfl rfl 0 (by decide) hf16 (fun _ h9 => h9) rfl dX2_suggest_62 ?_
        refine lv_iload_n hx hb dX2_suggest_65 rfl (lv_at hl 0 rfl) ?_
        refine kc_rVi (As := [.int (nI j)]) (rest := [.int (nI j), .ref (ad 16)]) ⟨hx, hb, hml, hown, hts⟩ (c_X1_doorsOf l D ad cI cd te ri pi pw K Dn mv j hD8 (by first | assumption | omega)) (cwV 1 hts gX2_suggest_X1_doorsOf rfl rfl rfl (by decide +kernel) ⟨Nat.le_of_ble_eq_true rfl, Nat.le_of_ble_eq_true rfl⟩) hK hP [0, 1, 2, 3, 4, 5] [0] rfl rfl 0 rfl rfl rfl rfl hl.1 rfl (Nat.le_of_ble_eq_true rfl) dX2_suggest_66 ⟨Nat.le_of_ble_eq_true rfl, Nat.le_of_ble_eq_true rfl⟩ ?_
        refine kc_ast (i := j) (n := 8) hx hb hK hP hD hS 16 0 rfl rfl (by omega) (by decide) dX2_suggest_69 (fun H locs hP hD hS => ?_)
        have hP : va_P D vwCl (wKc ad cI cd te ri pi pw K Dn mv ko so tl lp lb ld le C (upd (jToLend ko so tl C cl j) j (jFirst ko so tl (nI j) C)) (upd (jOpened pi te Dn dq j) j (jDoors pi te j Dn)) dy) H := hP
        have hD : va_D A (wKc ad cI cd te ri pi pw K Dn mv ko so tl lp lb ld le C (upd (jToLend ko so tl C cl j) j (jFirst ko so tl (nI j) C)) (upd (jOpened pi te Dn dq j) j (jDoors pi te j Dn)) dy) := hD
        refine lv_iinc (v := nI (j + 1)) (lv' := [(3, .int (nI (j + 1))), (0, .ref (ad 14)), (1, .int pe), (2, .int wa)]) hx hb dX2_suggest_70 hl (k := 0) rfl (kc_inc j) (by decide) rfl (fun ls hl => ?_)
        refine lv_goto (tgt := 31) hx hb dX2_suggest_73 (by decide) ?_
        refine ih_31 _ _ _ hlt_31 ?_
        have eqw_cl : jToLend ko so tl C cl (j + 1) = upd (jToLend ko so tl C cl j) j (jFirst ko so tl (nI j) C) := rfl
        have eqw_dq : jOpened pi te Dn dq (j + 1) = upd (jOpened pi te Dn dq j) j (jDoors pi te j Dn) := rfl
        show va_P D vwCl (wKc ad cI cd te ri pi pw K Dn mv ko so tl lp lb ld le C (jToLend ko so tl C cl (j + 1)) (jOpened pi te Dn dq (j + 1)) dy) _ ∧ va_D A (wKc ad cI cd te ri pi pw K Dn mv ko so tl lp lb ld le C (jToLend ko so tl C cl (j + 1)) (jOpened pi te Dn dq (j + 1)) dy) ∧ va_S A s.heap _ _ ∧ lv_has _ 4 [(3, .int (nI (j + 1))), (0, .ref (ad 14)), (1, .int pe), (2, .int wa)]
        rw [eqw_cl, eqw_dq]
        exact ⟨hP, hD, hS, lv_sub hl [0, 1, 2, 3] rfl⟩
    · exact ⟨hP, hD, hS, lv_sub hl [0, 1, 2, 3] rfl⟩
  · exact absurd hs c_16
set_option maxHeartbeats 4000000 in
set_option maxRecDepth 100000 in
theorem c_X2_exposure_z (l : Launch) (D : va_G) (ad : Nat → Nat) (cI : ClassId) (cd : Nat → Int32) (te : Nat → Int32) (ri : Nat → Int32) (pi : Nat → Int32) (pw : Nat → Int32) (K : Nat) (Dn : Nat) (mv : Int32) (ko : Nat → Int32) (so : Nat → Int32) (tl : Nat → Int32) (lp : Nat → Int32) (lb : Nat → Int32) (ld : Nat → Int32) (le : Nat → Int32) (C : Nat) (cl : Nat → Int32) (dq : Nat → Int32) (dy : Int32) (tn : Nat → Nat) (hDe : Dn = 0) : Met l yX2_exposure wsX2_exposure ({ frames := 0, cells := 0, slots := 0, locals := 0 } : Room) (rdP [.ref (ad 14)] D (wKc ad cI cd te ri pi pw K Dn mv ko so tl lp lb ld le C cl dq dy) [(cI, .int)]) (vp_Sd (fun rZ => rZ = FP.dconst0)) 0 0 (fun _ => False) := by
  refine Met.ofW (cc := cX2_exposure) (maxL := 3) (ret := (some .double)) (by decide) rfl ?_
  intro p e s m args below meth c s₁ B hml hv
  obtain ⟨rfl, hP, hK⟩ := hv
  have hx := B.exec
  have hb := B.bytes
  have hr := B.returns
  have hts := atoms_spec (ws := wsX2_exposure) B.pre
  have hown : s.vm.findClass RX2 = some m.cls := findClass_of_methodNamed B.named
  have hlocks := B.notSynchronized
  have hS : va_S (fun _ => False) s.heap s.heap [] := va_S.rf
  have hinX1 : ∀ w ∈ u_ws RX1 TX1 8, w ∈ wsX2_exposure := by decide +kernel
  have hinX2 : ∀ w ∈ u_ws RX2 TX2 5, w ∈ wsX2_exposure := by decide +kernel
  have hf16 := hts (.fieldLink RX2 16 "KeyCabinet" "plan" "LKeyCabinet$Plan;") (by decide +kernel)
  have hf63 := hts (.fieldLink RX2 63 "KeyCabinet$Plan" "doors" "I") (by decide +kernel)
  have hl := lv_entry ([.ref (ad 14)]) (n := 3) (Nat.le_of_ble_eq_true rfl)
  rw [lg_entry_eq]
  generalize (lg_sl ([.ref (ad 14)]) ++ List.replicate (3 - (lg_sl ([.ref (ad 14)])).length) Slot.unset).toArray = ls at hl ⊢
  have hl : lv_has ls 3 [(0, .ref (ad 14))] := hl
  refine lv_aload_n hx hb dX2_exposure_0 rfl (lv_at hl 0 rfl) ?_
  refine va_get (D := D) (ci := 2) (v := .ref (ad 0)) (C := RX2) (T := TX2) (N := 5) hx hb hts hinX2 hown hK.1 hP 14 rfl rfl 0 (by decide) hf16 (fun _ h9 => h9) rfl dX2_exposure_1 ?_
  refine va_get (D := D) (ci := 1) (v := .int (nI Dn)) (C := RX1) (T := TX1) (N := 8) hx hb hts hinX1 hown hK.1 hP 0 rfl rfl 6 (by decide) hf63 (fun _ h9 => h9) rfl dX2_exposure_4 ?_
  refine lv_if_gt (tgt := 12) hx hb dX2_exposure_7 (by decide) (fun c_7 => ?_) (fun c_7 => ?_)
  · exact absurd c_7 (by rw [hDe]; decide)
  · refine lv_dconst0 hx hb dX2_exposure_10 ?_
    exact W.dret (v := FP.dconst0) hx hb hr (fun tZ htZ hWZ => ⟨_, rfl, rfl, htZ⟩) hS.2.2 dX2_exposure_11
set_option maxHeartbeats 4000000 in
set_option maxRecDepth 100000 in
theorem c_X2_exposure_ok (l : Launch) (D : va_G) (ad : Nat → Nat) (cI : ClassId) (cd : Nat → Int32) (te : Nat → Int32) (ri : Nat → Int32) (pi : Nat → Int32) (pw : Nat → Int32) (K : Nat) (Dn : Nat) (mv : Int32) (ko : Nat → Int32) (so : Nat → Int32) (tl : Nat → Int32) (lp : Nat → Int32) (lb : Nat → Int32) (ld : Nat → Int32) (le : Nat → Int32) (C : Nat) (cl : Nat → Int32) (dq : Nat → Int32) (dy : Int32) (tn : Nat → Nat) (hK8 : K ≤ 8) (hD8 : Dn ≤ 8) (hC24 : C ≤ 24) (hok : okLe so tl tn) (hDp : 0 < Dn) : Met l yX2_exposure wsX2_exposure ({ frames := 5, cells := 0, slots := 0, locals := 110 } : Room) (rdP [.ref (ad 14)] D (wKc ad cI cd te ri pi pw K Dn mv ko so tl lp lb ld le C cl dq dy) [(cI, .int)]) (vp_Sd (fun rZ => rZ = FP.ddiv (FP.i2d (jPop (jExp pi te Dn K ko so lp tn C 8))) (FP.i2d (nI Dn)))) 0 0 (fun _ => False) := by
  refine Met.ofW (cc := cX2_exposure) (maxL := 3) (ret := (some .double)) (by decide) rfl ?_
  intro p e s m args below meth c s₁ B hml hv
  obtain ⟨rfl, hP, hK⟩ := hv
  have hx := B.exec
  have hb := B.bytes
  have hr := B.returns
  have hts := atoms_spec (ws := wsX2_exposure) B.pre
  have hown : s.vm.findClass RX2 = some m.cls := findClass_of_methodNamed B.named
  have hlocks := B.notSynchronized
  have hS : va_S (fun _ => False) s.heap s.heap [] := va_S.rf
  have hinX1 : ∀ w ∈ u_ws RX1 TX1 8, w ∈ wsX2_exposure := by decide +kernel
  have hinX2 : ∀ w ∈ u_ws RX2 TX2 5, w ∈ wsX2_exposure := by decide +kernel
  have hf16 := hts (.fieldLink RX2 16 "KeyCabinet" "plan" "LKeyCabinet$Plan;") (by decide +kernel)
  have hf63 := hts (.fieldLink RX2 63 "KeyCabinet$Plan" "doors" "I") (by decide +kernel)
  have hl := lv_entry ([.ref (ad 14)]) (n := 3) (Nat.le_of_ble_eq_true rfl)
  rw [lg_entry_eq]
  generalize (lg_sl ([.ref (ad 14)]) ++ List.replicate (3 - (lg_sl ([.ref (ad 14)])).length) Slot.unset).toArray = ls at hl ⊢
  have hl : lv_has ls 3 [(0, .ref (ad 14))] := hl
  refine lv_aload_n hx hb dX2_exposure_0 rfl (lv_at hl 0 rfl) ?_
  refine va_get (D := D) (ci := 2) (v := .ref (ad 0)) (C := RX2) (T := TX2) (N := 5) hx hb hts hinX2 hown hK.1 hP 14 rfl rfl 0 (by decide) hf16 (fun _ h9 => h9) rfl dX2_exposure_1 ?_
  refine va_get (D := D) (ci := 1) (v := .int (nI Dn)) (C := RX1) (T := TX1) (N := 8) hx hb hts hinX1 hown hK.1 hP 0 rfl rfl 6 (by decide) hf63 (fun _ h9 => h9) rfl dX2_exposure_4 ?_
  refine lv_if_gt (tgt := 12) hx hb dX2_exposure_7 (by decide) (fun c_7 => ?_) (fun c_7 => ?_)
  · refine lv_aload_n hx hb dX2_exposure_12 rfl (lv_at hl 0 rfl) ?_
    refine kc_rVi (As := []) (rest := []) ⟨hx, hb, hml, hown, hts⟩ (c_X2_doorsAtRisk l D ad cI cd te ri pi pw K Dn mv ko so tl lp lb ld le C cl dq dy hK8 hD8 hC24) (cwV 0 hts gX2_exposure_X2_doorsAtRisk rfl rfl rfl (by decide +kernel) ⟨Nat.le_of_ble_eq_true rfl, Nat.le_of_ble_eq_true rfl⟩) hK hP [0, 1, 2, 3, 4, 5, 6, 7, 8, 9, 10, 11, 12, 13, 14, 15, 16] [0] rfl rfl 14 rfl rfl rfl rfl hl.1 rfl (Nat.le_of_ble_eq_true rfl) dX2_exposure_13 ⟨Nat.le_of_ble_eq_true rfl, Nat.le_of_ble_eq_true rfl⟩ ?_
    refine lv_istore_n (lv' := [(1, .int (jRisk pi te Dn K ko so C)), (0, .ref (ad 14))]) hx hb dX2_exposure_16 rfl hl (by decide) rfl (fun ls hl => ?_)
    refine lv_iconst (v := 0) hx hb dX2_exposure_17 (by decide) ?_
    refine lv_istore_n (lv' := [(2, .int 0), (1, .int (jRisk pi te Dn K ko so C)), (0, .ref (ad 14))]) hx hb dX2_exposure_18 rfl hl (by decide) rfl (fun ls hl => ?_)
    refine kc_forW (pc := 19) (N := 8) (P := fun j ls => lv_has ls 3 [(2, .int (nI j)), (1, .int (jExp pi te Dn K ko so lp tn C j)), (0, .ref (ad 14))]) (fun j ls hj_19 hp ih_19 => ?_) ls ?_
    · have hl := hp
      refine lv_iload_n hx hb dX2_exposure_19 rfl (lv_at hl 0 rfl) ?_
      refine lv_bipush (v := 8) hx hb dX2_exposure_20 (by decide) ?_
      refine kc_tst (j := j) (N := 8) (tgt := 39) hx hb dX2_exposure_22 (by decide) hj_19 (by omega) (fun hN => ?_) (fun hlt_19 => ?_)
      · subst hN
        refine lv_iload_n hx hb dX2_exposure_39 rfl (lv_at hl 1 rfl) ?_
        refine kc_rSi (As := [.int (jExp pi te Dn K ko so lp tn C 8)]) (rest := []) ⟨hx, hb, hml, hown, hts⟩ (c_J6_bitCount_0f7a4 l (jExp pi te Dn K ko so lp tn C 8) ) (va_cwS 1 hts gX2_exposure_J6_bitCount_0f7a4 rfl rfl rfl (by decide +kernel) ⟨Nat.le_of_ble_eq_true rfl, Nat.le_of_ble_eq_true rfl⟩) rfl hl.1 rfl (Nat.le_of_ble_eq_true rfl) dX2_exposure_40 ⟨Nat.le_of_ble_eq_true rfl, Nat.le_of_ble_eq_true rfl⟩ ?_
        refine lv_i2d hx hb dX2_exposure_43 ?_
        refine lv_aload_n hx hb dX2_exposure_44 rfl (lv_at hl 2 rfl) ?_
        refine va_get (D := D) (ci := 2) (v := .ref (ad 0)) (C := RX2) (T := TX2) (N := 5) hx hb hts hinX2 hown hK.1 hP 14 rfl rfl 0 (by decide) hf16 (fun _ h9 => h9) rfl dX2_exposure_45 ?_
        refine va_get (D := D) (ci := 1) (v := .int (nI Dn)) (C := RX1) (T := TX1) (N := 8) hx hb hts hinX1 hown hK.1 hP 0 rfl rfl 6 (by decide) hf63 (fun _ h9 => h9) rfl dX2_exposure_48 ?_
        refine lv_i2d hx hb dX2_exposure_51 ?_
        refine lv_ddiv hx hb dX2_exposure_52 (kc_ddn _ hDp hD8) ?_
        exact W.dret (v := FP.ddiv (FP.i2d (jPop (jExp pi te Dn K ko so lp tn C 8))) (FP.i2d (nI Dn))) hx hb hr (fun tZ htZ hWZ => ⟨_, rfl, rfl, htZ⟩) hS.2.2 dX2_exposure_53
      · refine lv_iload_n hx hb dX2_exposure_25 rfl (lv_at hl 1 rfl) ?_
        refine lv_aload_n hx hb dX2_exposure_26 rfl (lv_at hl 2 rfl) ?_
        refine lv_iload_n hx hb dX2_exposure_27 rfl (lv_at hl 0 rfl) ?_
        refine kc_rVi (As := [.int (nI j)]) (rest := [.int (jExp pi te Dn K ko so lp tn C j)]) ⟨hx, hb, hml, hown, hts⟩ (c_X2_doorsReached l D ad cI cd te ri pi pw K Dn mv ko so tl lp lb ld le C cl dq dy (nI j) tn hK8 hD8 hC24 hok) (cwV 1 hts gX2_exposure_X2_doorsReached rfl rfl rfl (by decide +kernel) ⟨Nat.le_of_ble_eq_true rfl, Nat.le_of_ble_eq_true rfl⟩) hK hP [0, 1, 2, 3, 4, 5, 6, 7, 8, 9, 10, 11, 12, 13, 14, 15, 16] [0] rfl rfl 14 rfl rfl rfl rfl hl.1 rfl (Nat.le_of_ble_eq_true rfl) dX2_exposure_28 ⟨Nat.le_of_ble_eq_true rfl, Nat.le_of_ble_eq_true rfl⟩ ?_
        refine lv_ior hx hb dX2_exposure_31 ?_
        refine lv_istore_n (lv' := [(1, .int ((jExp pi te Dn K ko so lp tn C j) ||| (jReach pi te Dn K ko so lp tn C (nI j)))), (2, .int (nI j)), (0, .ref (ad 14))]) hx hb dX2_exposure_32 rfl hl (by decide) rfl (fun ls hl => ?_)
        refine lv_iinc (v := nI (j + 1)) (lv' := [(2, .int (nI (j + 1))), (1, .int ((jExp pi te Dn K ko so lp tn C j) ||| (jReach pi te Dn K ko so lp tn C (nI j)))), (0, .ref (ad 14))]) hx hb dX2_exposure_33 hl (k := 1) rfl (kc_inc j) (by decide) rfl (fun ls hl => ?_)
        refine lv_goto (tgt := 19) hx hb dX2_exposure_36 (by decide) ?_
        refine ih_19 _ hlt_19 ?_
        have eq_1 : jExp pi te Dn K ko so lp tn C (j + 1) = (jExp pi te Dn K ko so lp tn C j) ||| (jReach pi te Dn K ko so lp tn C (nI j)) := rfl
        show lv_has _ 3 [(2, .int (nI (j + 1))), (1, .int (jExp pi te Dn K ko so lp tn C (j + 1))), (0, .ref (ad 14))]
        rw [eq_1]
        exact lv_sub hl [0, 1, 2] rfl
    · exact lv_sub hl [0, 1, 2] rfl
  · exact absurd (nI_lt (a := 0) hDp (by omega)) c_7
set_option maxHeartbeats 4000000 in
set_option maxRecDepth 100000 in
theorem c_X2_mix (l : Launch) (dl : Int64) (xl : Int64)  : Met l yX2_mix wsX2_mix ({ frames := 0, cells := 0, slots := 0, locals := 0 } : Room) (stP [.long dl, .long xl]) (vp_Sl (fun rZ => rZ = dl * 31 + xl)) 0 0 (fun _ => False) := by
  refine Met.ofW (cc := cX2_mix) (maxL := 4) (ret := (some .long)) (by decide) rfl ?_
  intro p e s m args below meth c s₁ B hml hv
  obtain ⟨rfl, -⟩ := hv
  have hx := B.exec
  have hb := B.bytes
  have hr := B.returns
  have hts := atoms_spec (ws := wsX2_mix) B.pre
  have hown : s.vm.findClass RX2 = some m.cls := findClass_of_methodNamed B.named
  have hlocks := B.notSynchronized
  have hS : va_S (fun _ => False) s.heap s.heap [] := va_S.rf
  have hl := lv_entry ([.long dl, .long xl]) (n := 4) (Nat.le_of_ble_eq_true rfl)
  rw [lg_entry_eq]
  generalize (lg_sl ([.long dl, .long xl]) ++ List.replicate (4 - (lg_sl ([.long dl, .long xl])).length) Slot.unset).toArray = ls at hl ⊢
  have hl : lv_has ls 4 [(0, .long dl), (2, .long xl)] := hl
  refine lv_lload_n hx hb dX2_mix_0 rfl (lv_at hl 0 rfl) ?_
  refine lv_ldc2 (v := 31) hx hb hown (hts (.constantLong RX2 258 (31)) (by decide +kernel)) dX2_mix_1 ?_
  refine lv_lmul hx hb dX2_mix_4 ?_
  refine lv_lload_n hx hb dX2_mix_5 rfl (lv_at hl 1 rfl) ?_
  refine lv_ladd hx hb dX2_mix_6 ?_
  exact W.lret (v := (dl * 31) + xl) hx hb hr (fun tZ htZ hWZ => ⟨_, rfl, rfl, htZ⟩) hS.2.2 dX2_mix_7
set_option maxHeartbeats 4000000 in
set_option maxRecDepth 100000 in
theorem c_X2_mixDoor (l : Launch) (D : va_G) (ad : Nat → Nat) (cI : ClassId) (cd : Nat → Int32) (te : Nat → Int32) (ri : Nat → Int32) (pi : Nat → Int32) (pw : Nat → Int32) (K : Nat) (Dn : Nat) (mv : Int32) (ko : Nat → Int32) (so : Nat → Int32) (tl : Nat → Int32) (lp : Nat → Int32) (lb : Nat → Int32) (ld : Nat → Int32) (le : Nat → Int32) (C : Nat) (cl : Nat → Int32) (dq : Nat → Int32) (dy : Int32) (dl : Int64) (d : Nat) (hd : d < 8) : Met l yX2_mixDoor wsX2_mixDoor ({ frames := 1, cells := 0, slots := 0, locals := 23 } : Room) (rdP [.ref (ad 14), .long dl, .int (nI d)] D (wKc ad cI cd te ri pi pw K Dn mv ko so tl lp lb ld le C cl dq dy) [(cI, .int)]) (vp_Sl (fun rZ => rZ = jMixDoor ri pi d dl 5)) 0 0 (fun _ => False) := by
  refine Met.ofW (cc := cX2_mixDoor) (maxL := 7) (ret := (some .long)) (by decide) rfl ?_
  intro p e s m args below meth c s₁ B hml hv
  obtain ⟨rfl, hP, hK⟩ := hv
  have hx := B.exec
  have hb := B.bytes
  have hr := B.returns
  have hts := atoms_spec (ws := wsX2_mixDoor) B.pre
  have hown : s.vm.findClass RX2 = some m.cls := findClass_of_methodNamed B.named
  have hlocks := B.notSynchronized
  have hS : va_S (fun _ => False) s.heap s.heap [] := va_S.rf
  have hinX1 : ∀ w ∈ u_ws RX1 TX1 8, w ∈ wsX2_mixDoor := by decide +kernel
  have hinX2 : ∀ w ∈ u_ws RX2 TX2 5, w ∈ wsX2_mixDoor := by decide +kernel
  have hf16 := hts (.fieldLink RX2 16 "KeyCabinet" "plan" "LKeyCabinet$Plan;") (by decide +kernel)
  have hf74 := hts (.fieldLink RX2 74 "KeyCabinet$Plan" "rightsOf" "[I") (by decide +kernel)
  have hl := lv_entry ([.ref (ad 14), .long dl, .int (nI d)]) (n := 7) (Nat.le_of_ble_eq_true rfl)
  rw [lg_entry_eq]
  generalize (lg_sl ([.ref (ad 14), .long dl, .int (nI d)]) ++ List.replicate (7 - (lg_sl ([.ref (ad 14), .long dl, .int (nI d)])).length) Slot.unset).toArray = ls at hl ⊢
  have hl : lv_has ls 7 [(0, .ref (ad 14)), (1, .long dl), (3, .int (nI d))] := hl
  refine lv_lload_n hx hb dX2_mixDoor_0 rfl (lv_at hl 1 rfl) ?_
  refine lv_aload_n hx hb dX2_mixDoor_1 rfl (lv_at hl 0 rfl) ?_
  refine va_get (D := D) (ci := 2) (v := .ref (ad 0)) (C := RX2) (T := TX2) (N := 5) hx hb hts hinX2 hown hK.1 hP 14 rfl rfl 0 (by decide) hf16 (fun _ h9 => h9) rfl dX2_mixDoor_2 ?_
  refine va_get (D := D) (ci := 1) (v := .ref (ad 3)) (C := RX1) (T := TX1) (N := 8) hx hb hts hinX1 hown hK.1 hP 0 rfl rfl 2 (by decide) hf74 (fun _ h9 => h9) rfl dX2_mixDoor_5 ?_
  refine lv_iload_n hx hb dX2_mixDoor_8 rfl (lv_at hl 2 rfl) ?_
  refine kc_ald (i := d) (n := 8) hx hb hK hP 3 0 rfl rfl (by omega) (by decide) dX2_mixDoor_9 ?_
  refine lv_i2l (v := Int32.toInt64 (ri d)) hx hb dX2_mixDoor_10 rfl ?_
  refine kc_rSl (As := [.long dl, .long (Int32.toInt64 (ri d))]) (rest := []) ⟨hx, hb, hml, hown, hts⟩ (c_X2_mix l dl (Int32.toInt64 (ri d)) ) (va_cwS 2 hts gX2_mixDoor_X2_mix rfl rfl rfl (by decide +kernel) ⟨Nat.le_of_ble_eq_true rfl, Nat.le_of_ble_eq_true rfl⟩) rfl hl.1 rfl (Nat.le_of_ble_eq_true rfl) dX2_mixDoor_11 ⟨Nat.le_of_ble_eq_true rfl, Nat.le_of_ble_eq_true rfl⟩ ?_
  refine lv_lstore (lv' := [(4, .long (dl * 31 + (Int32.toInt64 (ri d)))), (0, .ref (ad 14)), (1, .long dl), (3, .int (nI d))]) hx hb dX2_mixDoor_14 hl (by decide) rfl (fun ls hl => ?_)
  refine lv_iconst (v := 0) hx hb dX2_mixDoor_16 (by decide) ?_
  refine lv_istore (lv' := [(6, .int 0), (4, .long (dl * 31 + (Int32.toInt64 (ri d)))), (0, .ref (ad 14)), (1, .long dl), (3, .int (nI d))]) hx hb dX2_mixDoor_17 hl (by decide) rfl (fun ls hl => ?_)
  refine kc_forW (pc := 19) (N := 5) (P := fun j ls => lv_has ls 7 [(6, .int (nI j)), (4, .long (jMixDoor ri pi d dl j)), (0, .ref (ad 14)), (1, .long dl), (3, .int (nI d))]) (fun j ls hj_19 hp ih_19 => ?_) ls ?_
  · have hl := hp
    refine lv_iload hx hb dX2_mixDoor_19 (lv_at hl 0 rfl) ?_
    refine lv_iconst (v := 5) hx hb dX2_mixDoor_21 (by decide) ?_
    refine kc_tst (j := j) (N := 5) (tgt := 49) hx hb dX2_mixDoor_22 (by decide) hj_19 (by omega) (fun hN => ?_) (fun hlt_19 => ?_)
    · subst hN
      refine lv_lload hx hb dX2_mixDoor_49 (lv_at hl 1 rfl) ?_
      exact W.lret (v := jMixDoor ri pi d dl 5) hx hb hr (fun tZ htZ hWZ => ⟨_, rfl, rfl, htZ⟩) hS.2.2 dX2_mixDoor_51
    · refine lv_lload hx hb dX2_mixDoor_25 (lv_at hl 1 rfl) ?_
      refine lv_aload_n hx hb dX2_mixDoor_27 rfl (lv_at hl 2 rfl) ?_
      refine va_get (D := D) (ci := 2) (v := .ref (ad 0)) (C := RX2) (T := TX2) (N := 5) hx hb hts hinX2 hown hK.1 hP 14 rfl rfl 0 (by decide) hf16 (fun _ h9 => h9) rfl dX2_mixDoor_28 ?_
      refine lv_iload_n hx hb dX2_mixDoor_31 rfl (lv_at hl 4 rfl) ?_
      refine lv_iload hx hb dX2_mixDoor_32 (lv_at hl 0 rfl) ?_
      refine kc_rVi (As := [.int (nI d), .int (nI j)]) (rest := [.long (jMixDoor ri pi d dl j)]) ⟨hx, hb, hml, hown, hts⟩ (c_X1_pinsAt l D ad cI cd te ri pi pw K Dn mv d (nI j) hd) (cwV 2 hts gX2_mixDoor_X1_pinsAt rfl rfl rfl (by decide +kernel) ⟨Nat.le_of_ble_eq_true rfl, Nat.le_of_ble_eq_true rfl⟩) hK hP [0, 1, 2, 3, 4, 5] [0] rfl rfl 0 rfl rfl rfl rfl hl.1 rfl (Nat.le_of_ble_eq_true rfl) dX2_mixDoor_34 ⟨Nat.le_of_ble_eq_true rfl, Nat.le_of_ble_eq_true rfl⟩ ?_
      refine lv_i2l (v := Int32.toInt64 (jPinsAt pi d (nI j))) hx hb dX2_mixDoor_37 rfl ?_
      refine kc_rSl (As := [.long (jMixDoor ri pi d dl j), .long (Int32.toInt64 (jPinsAt pi d (nI j)))]) (rest := []) ⟨hx, hb, hml, hown, hts⟩ (c_X2_mix l (jMixDoor ri pi d dl j) (Int32.toInt64 (jPinsAt pi d (nI j))) ) (va_cwS 2 hts gX2_mixDoor_X2_mix rfl rfl rfl (by decide +kernel) ⟨Nat.le_of_ble_eq_true rfl, Nat.le_of_ble_eq_true rfl⟩) rfl hl.1 rfl (Nat.le_of_ble_eq_true rfl) dX2_mixDoor_38 ⟨Nat.le_of_ble_eq_true rfl, Nat.le_of_ble_eq_true rfl⟩ ?_
      refine lv_lstore (lv' := [(4, .long ((jMixDoor ri pi d dl j) * 31 + (Int32.toInt64 (jPinsAt pi d (nI j))))), (6, .int (nI j)), (0, .ref (ad 14)), (1, .long dl), (3, .int (nI d))]) hx hb dX2_mixDoor_41 hl (by decide) rfl (fun ls hl => ?_)
      refine lv_iinc (v := nI (j + 1)) (lv' := [(6, .int (nI (j + 1))), (4, .long ((jMixDoor ri pi d dl j) * 31 + (Int32.toInt64 (jPinsAt pi d (nI j))))), (0, .ref (ad 14)), (1, .long dl), (3, .int (nI d))]) hx hb dX2_mixDoor_43 hl (k := 1) rfl (kc_inc j) (by decide) rfl (fun ls hl => ?_)
      refine lv_goto (tgt := 19) hx hb dX2_mixDoor_46 (by decide) ?_
      refine ih_19 _ hlt_19 ?_
      have eq_4 : jMixDoor ri pi d dl (j + 1) = (jMixDoor ri pi d dl j) * 31 + (Int32.toInt64 (jPinsAt pi d (nI j))) := rfl
      show lv_has _ 7 [(6, .int (nI (j + 1))), (4, .long (jMixDoor ri pi d dl (j + 1))), (0, .ref (ad 14)), (1, .long dl), (3, .int (nI d))]
      rw [eq_4]
      exact lv_sub hl [0, 1, 2, 3, 4] rfl
  · exact lv_sub hl [0, 1, 2, 3, 4] rfl
set_option maxHeartbeats 4000000 in
set_option maxRecDepth 100000 in
theorem c_X2_mixCopy (l : Launch) (D : va_G) (ad : Nat → Nat) (cI : ClassId) (cd : Nat → Int32) (te : Nat → Int32) (ri : Nat → Int32) (pi : Nat → Int32) (pw : Nat → Int32) (K : Nat) (Dn : Nat) (mv : Int32) (ko : Nat → Int32) (so : Nat → Int32) (tl : Nat → Int32) (lp : Nat → Int32) (lb : Nat → Int32) (ld : Nat → Int32) (le : Nat → Int32) (C : Nat) (cl : Nat → Int32) (dq : Nat → Int32) (dy : Int32) (dl : Int64) (cx : Nat) (tn : Nat → Nat) (hc : cx < 24) (hok : okLe so tl tn) : Met l yX2_mixCopy wsX2_mixCopy ({ frames := 2, cells := 0, slots := 0, locals := 42 } : Room) (rdP [.ref (ad 14), .long dl, .int (nI cx)] D (wKc ad cI cd te ri pi pw K Dn mv ko so tl lp lb ld le C cl dq dy) [(cI, .int)]) (vp_Sl (fun rZ => rZ = jMixCopy ko so tl lp ld tn cx dl)) 0 0 (fun _ => False) := by
  refine Met.ofW (cc := cX2_mixCopy) (maxL := 6) (ret := (some .long)) (by decide) rfl ?_
  intro p e s m args below meth c s₁ B hml hv
  obtain ⟨rfl, hP, hK⟩ := hv
  have hx := B.exec
  have hb := B.bytes
  have hr := B.returns
  have hts := atoms_spec (ws := wsX2_mixCopy) B.pre
  have hown : s.vm.findClass RX2 = some m.cls := findClass_of_methodNamed B.named
  have hlocks := B.notSynchronized
  have hS : va_S (fun _ => False) s.heap s.heap [] := va_S.rf
  have hinX0 : ∀ w ∈ u_ws RX0 TX0 8, w ∈ wsX2_mixCopy := by decide +kernel
  have hinX2 : ∀ w ∈ u_ws RX2 TX2 5, w ∈ wsX2_mixCopy := by decide +kernel
  have hf23 := hts (.fieldLink RX2 23 "KeyCabinet" "ledger" "LKeyCabinet$Ledger;") (by decide +kernel)
  have hf173 := hts (.fieldLink RX2 173 "KeyCabinet$Ledger" "keyOf" "[I") (by decide +kernel)
  have hf154 := hts (.fieldLink RX2 154 "KeyCabinet$Ledger" "stateOf" "[I") (by decide +kernel)
  have hf186 := hts (.fieldLink RX2 186 "KeyCabinet$Ledger" "timesLent" "[I") (by decide +kernel)
  have hl := lv_entry ([.ref (ad 14), .long dl, .int (nI cx)]) (n := 6) (Nat.le_of_ble_eq_true rfl)
  rw [lg_entry_eq]
  generalize (lg_sl ([.ref (ad 14), .long dl, .int (nI cx)]) ++ List.replicate (6 - (lg_sl ([.ref (ad 14), .long dl, .int (nI cx)])).length) Slot.unset).toArray = ls at hl ⊢
  have hl : lv_has ls 6 [(0, .ref (ad 14)), (1, .long dl), (3, .int (nI cx))] := hl
  refine lv_lload_n hx hb dX2_mixCopy_0 rfl (lv_at hl 1 rfl) ?_
  refine lv_aload_n hx hb dX2_mixCopy_1 rfl (lv_at hl 0 rfl) ?_
  refine va_get (D := D) (ci := 2) (v := .ref (ad 6)) (C := RX2) (T := TX2) (N := 5) hx hb hts hinX2 hown hK.1 hP 14 rfl rfl 1 (by decide) hf23 (fun _ h9 => h9) rfl dX2_mixCopy_2 ?_
  refine va_get (D := D) (ci := 0) (v := .ref (ad 7)) (C := RX0) (T := TX0) (N := 8) hx hb hts hinX0 hown hK.1 hP 6 rfl rfl 0 (by decide) hf173 (fun _ h9 => h9) rfl dX2_mixCopy_5 ?_
  refine lv_iload_n hx hb dX2_mixCopy_8 rfl (lv_at hl 2 rfl) ?_
  refine kc_ald (i := cx) (n := 24) hx hb hK hP 7 0 rfl rfl (by omega) (by decide) dX2_mixCopy_9 ?_
  refine lv_i2l (v := Int32.toInt64 (ko cx)) hx hb dX2_mixCopy_10 rfl ?_
  refine kc_rSl (As := [.long dl, .long (Int32.toInt64 (ko cx))]) (rest := []) ⟨hx, hb, hml, hown, hts⟩ (c_X2_mix l dl (Int32.toInt64 (ko cx)) ) (va_cwS 2 hts gX2_mixCopy_X2_mix rfl rfl rfl (by decide +kernel) ⟨Nat.le_of_ble_eq_true rfl, Nat.le_of_ble_eq_true rfl⟩) rfl hl.1 rfl (Nat.le_of_ble_eq_true rfl) dX2_mixCopy_11 ⟨Nat.le_of_ble_eq_true rfl, Nat.le_of_ble_eq_true rfl⟩ ?_
  refine lv_lstore (lv' := [(4, .long (dl * 31 + (Int32.toInt64 (ko cx)))), (0, .ref (ad 14)), (1, .long dl), (3, .int (nI cx))]) hx hb dX2_mixCopy_14 hl (by decide) rfl (fun ls hl => ?_)
  refine lv_lload hx hb dX2_mixCopy_16 (lv_at hl 0 rfl) ?_
  refine lv_aload_n hx hb dX2_mixCopy_18 rfl (lv_at hl 1 rfl) ?_
  refine va_get (D := D) (ci := 2) (v := .ref (ad 6)) (C := RX2) (T := TX2) (N := 5) hx hb hts hinX2 hown hK.1 hP 14 rfl rfl 1 (by decide) hf23 (fun _ h9 => h9) rfl dX2_mixCopy_19 ?_
  refine va_get (D := D) (ci := 0) (v := .ref (ad 8)) (C := RX0) (T := TX0) (N := 8) hx hb hts hinX0 hown hK.1 hP 6 rfl rfl 1 (by decide) hf154 (fun _ h9 => h9) rfl dX2_mixCopy_22 ?_
  refine lv_iload_n hx hb dX2_mixCopy_25 rfl (lv_at hl 3 rfl) ?_
  refine kc_ald (i := cx) (n := 24) hx hb hK hP 8 0 rfl rfl (by omega) (by decide) dX2_mixCopy_26 ?_
  refine lv_i2l (v := Int32.toInt64 (so cx)) hx hb dX2_mixCopy_27 rfl ?_
  refine kc_rSl (As := [.long (dl * 31 + (Int32.toInt64 (ko cx))), .long (Int32.toInt64 (so cx))]) (rest := []) ⟨hx, hb, hml, hown, hts⟩ (c_X2_mix l (dl * 31 + (Int32.toInt64 (ko cx))) (Int32.toInt64 (so cx)) ) (va_cwS 2 hts gX2_mixCopy_X2_mix rfl rfl rfl (by decide +kernel) ⟨Nat.le_of_ble_eq_true rfl, Nat.le_of_ble_eq_true rfl⟩) rfl hl.1 rfl (Nat.le_of_ble_eq_true rfl) dX2_mixCopy_28 ⟨Nat.le_of_ble_eq_true rfl, Nat.le_of_ble_eq_true rfl⟩ ?_
  refine lv_lstore (lv' := [(4, .long ((dl * 31 + (Int32.toInt64 (ko cx))) * 31 + (Int32.toInt64 (so cx)))), (0, .ref (ad 14)), (1, .long dl), (3, .int (nI cx))]) hx hb dX2_mixCopy_31 hl (by decide) rfl (fun ls hl => ?_)
  refine lv_lload hx hb dX2_mixCopy_33 (lv_at hl 0 rfl) ?_
  refine lv_aload_n hx hb dX2_mixCopy_35 rfl (lv_at hl 1 rfl) ?_
  refine va_get (D := D) (ci := 2) (v := .ref (ad 6)) (C := RX2) (T := TX2) (N := 5) hx hb hts hinX2 hown hK.1 hP 14 rfl rfl 1 (by decide) hf23 (fun _ h9 => h9) rfl dX2_mixCopy_36 ?_
  refine lv_iload_n hx hb dX2_mixCopy_39 rfl (lv_at hl 3 rfl) ?_
  refine kc_rVi (As := [.int (nI cx)]) (rest := [.long ((dl * 31 + (Int32.toInt64 (ko cx))) * 31 + (Int32.toInt64 (so cx)))]) ⟨hx, hb, hml, hown, hts⟩ (c_X0_holderOf l D ad cI ko so tl lp lb ld le C tn cx hc hok) (cwV 1 hts gX2_mixCopy_X0_holderOf rfl rfl rfl (by decide +kernel) ⟨Nat.le_of_ble_eq_true rfl, Nat.le_of_ble_eq_true rfl⟩) hK hP [6, 7, 8, 9, 10, 11, 12, 13] [0] rfl rfl 6 rfl rfl rfl rfl hl.1 rfl (Nat.le_of_ble_eq_true rfl) dX2_mixCopy_40 ⟨Nat.le_of_ble_eq_true rfl, Nat.le_of_ble_eq_true rfl⟩ ?_
  refine lv_i2l (v := Int32.toInt64 (jHolder so lp tn cx)) hx hb dX2_mixCopy_43 rfl ?_
  refine kc_rSl (As := [.long ((dl * 31 + (Int32.toInt64 (ko cx))) * 31 + (Int32.toInt64 (so cx))), .long (Int32.toInt64 (jHolder so lp tn cx))]) (rest := []) ⟨hx, hb, hml, hown, hts⟩ (c_X2_mix l ((dl * 31 + (Int32.toInt64 (ko cx))) * 31 + (Int32.toInt64 (so cx))) (Int32.toInt64 (jHolder so lp tn cx)) ) (va_cwS 2 hts gX2_mixCopy_X2_mix rfl rfl rfl (by decide +kernel) ⟨Nat.le_of_ble_eq_true rfl, Nat.le_of_ble_eq_true rfl⟩) rfl hl.1 rfl (Nat.le_of_ble_eq_true rfl) dX2_mixCopy_44 ⟨Nat.le_of_ble_eq_true rfl, Nat.le_of_ble_eq_true rfl⟩ ?_
  refine lv_lstore (lv' := [(4, .long (((dl * 31 + (Int32.toInt64 (ko cx))) * 31 + (Int32.toInt64 (so cx))) * 31 + (Int32.toInt64 (jHolder so lp tn cx)))), (0, .ref (ad 14)), (1, .long dl), (3, .int (nI cx))]) hx hb dX2_mixCopy_47 hl (by decide) rfl (fun ls hl => ?_)
  refine lv_lload hx hb dX2_mixCopy_49 (lv_at hl 0 rfl) ?_
  refine lv_aload_n hx hb dX2_mixCopy_51 rfl (lv_at hl 1 rfl) ?_
  refine va_get (D := D) (ci := 2) (v := .ref (ad 6)) (C := RX2) (T := TX2) (N := 5) hx hb hts hinX2 hown hK.1 hP 14 rfl rfl 1 (by decide) hf23 (fun _ h9 => h9) rfl dX2_mixCopy_52 ?_
  refine lv_iload_n hx hb dX2_mixCopy_55 rfl (lv_at hl 3 rfl) ?_
  refine kc_rVi (As := [.int (nI cx)]) (rest := [.long (((dl * 31 + (Int32.toInt64 (ko cx))) * 31 + (Int32.toInt64 (so cx))) * 31 + (Int32.toInt64 (jHolder so lp tn cx)))]) ⟨hx, hb, hml, hown, hts⟩ (c_X0_dueOf l D ad cI ko so tl lp lb ld le C tn cx hc hok) (cwV 1 hts gX2_mixCopy_X0_dueOf rfl rfl rfl (by decide +kernel) ⟨Nat.le_of_ble_eq_true rfl, Nat.le_of_ble_eq_true rfl⟩) hK hP [6, 7, 8, 9, 10, 11, 12, 13] [0] rfl rfl 6 rfl rfl rfl rfl hl.1 rfl (Nat.le_of_ble_eq_true rfl) dX2_mixCopy_56 ⟨Nat.le_of_ble_eq_true rfl, Nat.le_of_ble_eq_true rfl⟩ ?_
  refine lv_i2l (v := Int32.toInt64 (jDue so ld tn cx)) hx hb dX2_mixCopy_59 rfl ?_
  refine kc_rSl (As := [.long (((dl * 31 + (Int32.toInt64 (ko cx))) * 31 + (Int32.toInt64 (so cx))) * 31 + (Int32.toInt64 (jHolder so lp tn cx))), .long (Int32.toInt64 (jDue so ld tn cx))]) (rest := []) ⟨hx, hb, hml, hown, hts⟩ (c_X2_mix l (((dl * 31 + (Int32.toInt64 (ko cx))) * 31 + (Int32.toInt64 (so cx))) * 31 + (Int32.toInt64 (jHolder so lp tn cx))) (Int32.toInt64 (jDue so ld tn cx)) ) (va_cwS 2 hts gX2_mixCopy_X2_mix rfl rfl rfl (by decide +kernel) ⟨Nat.le_of_ble_eq_true rfl, Nat.le_of_ble_eq_true rfl⟩) rfl hl.1 rfl (Nat.le_of_ble_eq_true rfl) dX2_mixCopy_60 ⟨Nat.le_of_ble_eq_true rfl, Nat.le_of_ble_eq_true rfl⟩ ?_
  refine lv_lstore (lv' := [(4, .long ((((dl * 31 + (Int32.toInt64 (ko cx))) * 31 + (Int32.toInt64 (so cx))) * 31 + (Int32.toInt64 (jHolder so lp tn cx))) * 31 + (Int32.toInt64 (jDue so ld tn cx)))), (0, .ref (ad 14)), (1, .long dl), (3, .int (nI cx))]) hx hb dX2_mixCopy_63 hl (by decide) rfl (fun ls hl => ?_)
  refine lv_lload hx hb dX2_mixCopy_65 (lv_at hl 0 rfl) ?_
  refine lv_aload_n hx hb dX2_mixCopy_67 rfl (lv_at hl 1 rfl) ?_
  refine va_get (D := D) (ci := 2) (v := .ref (ad 6)) (C := RX2) (T := TX2) (N := 5) hx hb hts hinX2 hown hK.1 hP 14 rfl rfl 1 (by decide) hf23 (fun _ h9 => h9) rfl dX2_mixCopy_68 ?_
  refine va_get (D := D) (ci := 0) (v := .ref (ad 9)) (C := RX0) (T := TX0) (N := 8) hx hb hts hinX0 hown hK.1 hP 6 rfl rfl 2 (by decide) hf186 (fun _ h9 => h9) rfl dX2_mixCopy_71 ?_
  refine lv_iload_n hx hb dX2_mixCopy_74 rfl (lv_at hl 3 rfl) ?_
  refine kc_ald (i := cx) (n := 24) hx hb hK hP 9 0 rfl rfl (by omega) (by decide) dX2_mixCopy_75 ?_
  refine lv_i2l (v := Int32.toInt64 (tl cx)) hx hb dX2_mixCopy_76 rfl ?_
  refine kc_rSl (As := [.long ((((dl * 31 + (Int32.toInt64 (ko cx))) * 31 + (Int32.toInt64 (so cx))) * 31 + (Int32.toInt64 (jHolder so lp tn cx))) * 31 + (Int32.toInt64 (jDue so ld tn cx))), .long (Int32.toInt64 (tl cx))]) (rest := []) ⟨hx, hb, hml, hown, hts⟩ (c_X2_mix l ((((dl * 31 + (Int32.toInt64 (ko cx))) * 31 + (Int32.toInt64 (so cx))) * 31 + (Int32.toInt64 (jHolder so lp tn cx))) * 31 + (Int32.toInt64 (jDue so ld tn cx))) (Int32.toInt64 (tl cx)) ) (va_cwS 2 hts gX2_mixCopy_X2_mix rfl rfl rfl (by decide +kernel) ⟨Nat.le_of_ble_eq_true rfl, Nat.le_of_ble_eq_true rfl⟩) rfl hl.1 rfl (Nat.le_of_ble_eq_true rfl) dX2_mixCopy_77 ⟨Nat.le_of_ble_eq_true rfl, Nat.le_of_ble_eq_true rfl⟩ ?_
  exact W.lret (v := ((((dl * 31 + (Int32.toInt64 (ko cx))) * 31 + (Int32.toInt64 (so cx))) * 31 + (Int32.toInt64 (jHolder so lp tn cx))) * 31 + (Int32.toInt64 (jDue so ld tn cx))) * 31 + (Int32.toInt64 (tl cx))) hx hb hr (fun tZ htZ hWZ => ⟨_, rfl, rfl, htZ⟩) hS.2.2 dX2_mixCopy_80
set_option maxHeartbeats 4000000 in
set_option maxRecDepth 100000 in
theorem c_X2_digest (l : Launch) (D : va_G) (ad : Nat → Nat) (cI : ClassId) (cd : Nat → Int32) (te : Nat → Int32) (ri : Nat → Int32) (pi : Nat → Int32) (pw : Nat → Int32) (K : Nat) (Dn : Nat) (mv : Int32) (ko : Nat → Int32) (so : Nat → Int32) (tl : Nat → Int32) (lp : Nat → Int32) (lb : Nat → Int32) (ld : Nat → Int32) (le : Nat → Int32) (C : Nat) (cl : Nat → Int32) (dq : Nat → Int32) (dy : Int32) (tn : Nat → Nat) (hK8 : K ≤ 8) (hD8 : Dn ≤ 8) (hC24 : C ≤ 24) (hok : okLe so tl tn) : Met l yX2_digest wsX2_digest ({ frames := 3, cells := 0, slots := 0, locals := 67 } : Room) (rdP [.ref (ad 14)] D (wKc ad cI cd te ri pi pw K Dn mv ko so tl lp lb ld le C cl dq dy) [(cI, .int)]) (vp_Sl (fun rZ => rZ = jDigC ko so tl lp ld tn (mix (mix (mix (jDigD ri pi (mix (jDigK cd (mix 173 (nI K)) K) (nI Dn)) Dn) mv) dy) (nI C)) C)) 0 0 (fun _ => False) := by
  refine Met.ofW (cc := cX2_digest) (maxL := 4) (ret := (some .long)) (by decide) rfl ?_
  intro p e s m args below meth c s₁ B hml hv
  obtain ⟨rfl, hP, hK⟩ := hv
  have hx := B.exec
  have hb := B.bytes
  have hr := B.returns
  have hts := atoms_spec (ws := wsX2_digest) B.pre
  have hown : s.vm.findClass RX2 = some m.cls := findClass_of_methodNamed B.named
  have hlocks := B.notSynchronized
  have hS : va_S (fun _ => False) s.heap s.heap [] := va_S.rf
  have hinX0 : ∀ w ∈ u_ws RX0 TX0 8, w ∈ wsX2_digest := by decide +kernel
  have hinX1 : ∀ w ∈ u_ws RX1 TX1 8, w ∈ wsX2_digest := by decide +kernel
  have hinX2 : ∀ w ∈ u_ws RX2 TX2 5, w ∈ wsX2_digest := by decide +kernel
  have hf16 := hts (.fieldLink RX2 16 "KeyCabinet" "plan" "LKeyCabinet$Plan;") (by decide +kernel)
  have hf41 := hts (.fieldLink RX2 41 "KeyCabinet$Plan" "keys" "I") (by decide +kernel)
  have hf63 := hts (.fieldLink RX2 63 "KeyCabinet$Plan" "doors" "I") (by decide +kernel)
  have hf116 := hts (.fieldLink RX2 116 "KeyCabinet$Plan" "pinsMoved" "I") (by decide +kernel)
  have hf7 := hts (.fieldLink RX2 7 "KeyCabinet" "day" "I") (by decide +kernel)
  have hf23 := hts (.fieldLink RX2 23 "KeyCabinet" "ledger" "LKeyCabinet$Ledger;") (by decide +kernel)
  have hf128 := hts (.fieldLink RX2 128 "KeyCabinet$Ledger" "copies" "I") (by decide +kernel)
  have hf84 := hts (.fieldLink RX2 84 "KeyCabinet$Plan" "codeOf" "[I") (by decide +kernel)
  have hl := lv_entry ([.ref (ad 14)]) (n := 4) (Nat.le_of_ble_eq_true rfl)
  rw [lg_entry_eq]
  generalize (lg_sl ([.ref (ad 14)]) ++ List.replicate (4 - (lg_sl ([.ref (ad 14)])).length) Slot.unset).toArray = ls at hl ⊢
  have hl : lv_has ls 4 [(0, .ref (ad 14))] := hl
  refine lv_ldc2 (v := 173) hx hb hown (hts (.constantLong RX2 218 (173)) (by decide +kernel)) dX2_digest_0 ?_
  refine lv_lstore_n (lv' := [(1, .long 173), (0, .ref (ad 14))]) hx hb dX2_digest_3 rfl hl (by decide) rfl (fun ls hl => ?_)
  refine lv_lload_n hx hb dX2_digest_4 rfl (lv_at hl 0 rfl) ?_
  refine lv_aload_n hx hb dX2_digest_5 rfl (lv_at hl 1 rfl) ?_
  refine va_get (D := D) (ci := 2) (v := .ref (ad 0)) (C := RX2) (T := TX2) (N := 5) hx hb hts hinX2 hown hK.1 hP 14 rfl rfl 0 (by decide) hf16 (fun _ h9 => h9) rfl dX2_digest_6 ?_
  refine va_get (D := D) (ci := 1) (v := .int (nI K)) (C := RX1) (T := TX1) (N := 8) hx hb hts hinX1 hown hK.1 hP 0 rfl rfl 5 (by decide) hf41 (fun _ h9 => h9) rfl dX2_digest_9 ?_
  refine lv_i2l (v := Int32.toInt64 (nI K)) hx hb dX2_digest_12 rfl ?_
  refine kc_rSl (As := [.long 173, .long (Int32.toInt64 (nI K))]) (rest := []) ⟨hx, hb, hml, hown, hts⟩ (c_X2_mix l 173 (Int32.toInt64 (nI K)) ) (va_cwS 2 hts gX2_digest_X2_mix rfl rfl rfl (by decide +kernel) ⟨Nat.le_of_ble_eq_true rfl, Nat.le_of_ble_eq_true rfl⟩) rfl hl.1 rfl (Nat.le_of_ble_eq_true rfl) dX2_digest_13 ⟨Nat.le_of_ble_eq_true rfl, Nat.le_of_ble_eq_true rfl⟩ ?_
  refine lv_lstore_n (lv' := [(1, .long (173 * 31 + (Int32.toInt64 (nI K)))), (0, .ref (ad 14))]) hx hb dX2_digest_16 rfl hl (by decide) rfl (fun ls hl => ?_)
  refine lv_iconst (v := 0) hx hb dX2_digest_17 (by decide) ?_
  refine lv_istore_n (lv' := [(3, .int 0), (1, .long (173 * 31 + (Int32.toInt64 (nI K)))), (0, .ref (ad 14))]) hx hb dX2_digest_18 rfl hl (by decide) rfl (fun ls hl => ?_)
  refine kc_forW (pc := 19) (N := K) (P := fun j ls => lv_has ls 4 [(3, .int (nI j)), (1, .long (jDigK cd (mix 173 (nI K)) j)), (0, .ref (ad 14))]) (fun j ls hj_19 hp ih_19 => ?_) ls ?_
  · have hl := hp
    refine lv_iload_n hx hb dX2_digest_19 rfl (lv_at hl 0 rfl) ?_
    refine lv_aload_n hx hb dX2_digest_20 rfl (lv_at hl 2 rfl) ?_
    refine va_get (D := D) (ci := 2) (v := .ref (ad 0)) (C := RX2) (T := TX2) (N := 5) hx hb hts hinX2 hown hK.1 hP 14 rfl rfl 0 (by decide) hf16 (fun _ h9 => h9) rfl dX2_digest_21 ?_
    refine va_get (D := D) (ci := 1) (v := .int (nI K)) (C := RX1) (T := TX1) (N := 8) hx hb hts hinX1 hown hK.1 hP 0 rfl rfl 5 (by decide) hf41 (fun _ h9 => h9) rfl dX2_digest_24 ?_
    refine kc_tst (j := j) (N := K) (tgt := 51) hx hb dX2_digest_27 (by decide) hj_19 (by omega) (fun hN => ?_) (fun hlt_19 => ?_)
    · subst hN
      refine lv_lload_n hx hb dX2_digest_51 rfl (lv_at hl 1 rfl) ?_
      refine lv_aload_n hx hb dX2_digest_52 rfl (lv_at hl 2 rfl) ?_
      refine va_get (D := D) (ci := 2) (v := .ref (ad 0)) (C := RX2) (T := TX2) (N := 5) hx hb hts hinX2 hown hK.1 hP 14 rfl rfl 0 (by decide) hf16 (fun _ h9 => h9) rfl dX2_digest_53 ?_
      refine va_get (D := D) (ci := 1) (v := .int (nI Dn)) (C := RX1) (T := TX1) (N := 8) hx hb hts hinX1 hown hK.1 hP 0 rfl rfl 6 (by decide) hf63 (fun _ h9 => h9) rfl dX2_digest_56 ?_
      refine lv_i2l (v := Int32.toInt64 (nI Dn)) hx hb dX2_digest_59 rfl ?_
      refine kc_rSl (As := [.long (jDigK cd (mix 173 (nI K)) K), .long (Int32.toInt64 (nI Dn))]) (rest := []) ⟨hx, hb, hml, hown, hts⟩ (c_X2_mix l (jDigK cd (mix 173 (nI K)) K) (Int32.toInt64 (nI Dn)) ) (va_cwS 2 hts gX2_digest_X2_mix rfl rfl rfl (by decide +kernel) ⟨Nat.le_of_ble_eq_true rfl, Nat.le_of_ble_eq_true rfl⟩) rfl hl.1 rfl (Nat.le_of_ble_eq_true rfl) dX2_digest_60 ⟨Nat.le_of_ble_eq_true rfl, Nat.le_of_ble_eq_true rfl⟩ ?_
      refine lv_lstore_n (lv' := [(1, .long ((jDigK cd (mix 173 (nI K)) K) * 31 + (Int32.toInt64 (nI Dn)))), (3, .int (nI K)), (0, .ref (ad 14))]) hx hb dX2_digest_63 rfl hl (by decide) rfl (fun ls hl => ?_)
      refine lv_iconst (v := 0) hx hb dX2_digest_64 (by decide) ?_
      refine lv_istore_n (lv' := [(3, .int 0), (1, .long ((jDigK cd (mix 173 (nI K)) K) * 31 + (Int32.toInt64 (nI Dn)))), (0, .ref (ad 14))]) hx hb dX2_digest_65 rfl hl (by decide) rfl (fun ls hl => ?_)
      refine kc_forW (pc := 66) (N := Dn) (P := fun j ls => lv_has ls 4 [(3, .int (nI j)), (1, .long (jDigD ri pi (mix (jDigK cd (mix 173 (nI K)) K) (nI Dn)) j)), (0, .ref (ad 14))]) (fun j ls hj_66 hp ih_66 => ?_) ls ?_
      · have hl := hp
        refine lv_iload_n hx hb dX2_digest_66 rfl (lv_at hl 0 rfl) ?_
        refine lv_aload_n hx hb dX2_digest_67 rfl (lv_at hl 2 rfl) ?_
        refine va_get (D := D) (ci := 2) (v := .ref (ad 0)) (C := RX2) (T := TX2) (N := 5) hx hb hts hinX2 hown hK.1 hP 14 rfl rfl 0 (by decide) hf16 (fun _ h9 => h9) rfl dX2_digest_68 ?_
        refine va_get (D := D) (ci := 1) (v := .int (nI Dn)) (C := RX1) (T := TX1) (N := 8) hx hb hts hinX1 hown hK.1 hP 0 rfl rfl 6 (by decide) hf63 (fun _ h9 => h9) rfl dX2_digest_71 ?_
        refine kc_tst (j := j) (N := Dn) (tgt := 90) hx hb dX2_digest_74 (by decide) hj_66 (by omega) (fun hN => ?_) (fun hlt_66 => ?_)
        · subst hN
          refine lv_lload_n hx hb dX2_digest_90 rfl (lv_at hl 1 rfl) ?_
          refine lv_aload_n hx hb dX2_digest_91 rfl (lv_at hl 2 rfl) ?_
          refine va_get (D := D) (ci := 2) (v := .ref (ad 0)) (C := RX2) (T := TX2) (N := 5) hx hb hts hinX2 hown hK.1 hP 14 rfl rfl 0 (by decide) hf16 (fun _ h9 => h9) rfl dX2_digest_92 ?_
          refine va_get (D := D) (ci := 1) (v := .int mv) (C := RX1) (T := TX1) (N := 8) hx hb hts hinX1 hown hK.1 hP 0 rfl rfl 7 (by decide) hf116 (fun _ h9 => h9) rfl dX2_digest_95 ?_
          refine lv_i2l (v := Int32.toInt64 mv) hx hb dX2_digest_98 rfl ?_
          refine kc_rSl (As := [.long (jDigD ri pi (mix (jDigK cd (mix 173 (nI K)) K) (nI Dn)) Dn), .long (Int32.toInt64 mv)]) (rest := []) ⟨hx, hb, hml, hown, hts⟩ (c_X2_mix l (jDigD ri pi (mix (jDigK cd (mix 173 (nI K)) K) (nI Dn)) Dn) (Int32.toInt64 mv) ) (va_cwS 2 hts gX2_digest_X2_mix rfl rfl rfl (by decide +kernel) ⟨Nat.le_of_ble_eq_true rfl, Nat.le_of_ble_eq_true rfl⟩) rfl hl.1 rfl (Nat.le_of_ble_eq_true rfl) dX2_digest_99 ⟨Nat.le_of_ble_eq_true rfl, Nat.le_of_ble_eq_true rfl⟩ ?_
          refine lv_lstore_n (lv' := [(1, .long ((jDigD ri pi (mix (jDigK cd (mix 173 (nI K)) K) (nI Dn)) Dn) * 31 + (Int32.toInt64 mv))), (3, .int (nI Dn)), (0, .ref (ad 14))]) hx hb dX2_digest_102 rfl hl (by decide) rfl (fun ls hl => ?_)
          refine lv_lload_n hx hb dX2_digest_103 rfl (lv_at hl 0 rfl) ?_
          refine lv_aload_n hx hb dX2_digest_104 rfl (lv_at hl 2 rfl) ?_
          refine va_get (D := D) (ci := 2) (v := .int dy) (C := RX2) (T := TX2) (N := 5) hx hb hts hinX2 hown hK.1 hP 14 rfl rfl 4 (by decide) hf7 (fun _ h9 => h9) rfl dX2_digest_105 ?_
          refine lv_i2l (v := Int32.toInt64 dy) hx hb dX2_digest_108 rfl ?_
          refine kc_rSl (As := [.long ((jDigD ri pi (mix (jDigK cd (mix 173 (nI K)) K) (nI Dn)) Dn) * 31 + (Int32.toInt64 mv)), .long (Int32.toInt64 dy)]) (rest := []) ⟨hx, hb, hml, hown, hts⟩ (c_X2_mix l ((jDigD ri pi (mix (jDigK cd (mix 173 (nI K)) K) (nI Dn)) Dn) * 31 + (Int32.toInt64 mv)) (Int32.toInt64 dy) ) (va_cwS 2 hts gX2_digest_X2_mix rfl rfl rfl (by decide +kernel) ⟨Nat.le_of_ble_eq_true rfl, Nat.le_of_ble_eq_true rfl⟩) rfl hl.1 rfl (Nat.le_of_ble_eq_true rfl) dX2_digest_109 ⟨Nat.le_of_ble_eq_true rfl, Nat.le_of_ble_eq_true rfl⟩ ?_
          refine lv_lstore_n (lv' := [(1, .long (((jDigD ri pi (mix (jDigK cd (mix 173 (nI K)) K) (nI Dn)) Dn) * 31 + (Int32.toInt64 mv)) * 31 + (Int32.toInt64 dy))), (3, .int (nI Dn)), (0, .ref (ad 14))]) hx hb dX2_digest_112 rfl hl (by decide) rfl (fun ls hl => ?_)
          refine lv_lload_n hx hb dX2_digest_113 rfl (lv_at hl 0 rfl) ?_
          refine lv_aload_n hx hb dX2_digest_114 rfl (lv_at hl 2 rfl) ?_
          refine va_get (D := D) (ci := 2) (v := .ref (ad 6)) (C := RX2) (T := TX2) (N := 5) hx hb hts hinX2 hown hK.1 hP 14 rfl rfl 1 (by decide) hf23 (fun _ h9 => h9) rfl dX2_digest_115 ?_
          refine va_get (D := D) (ci := 0) (v := .int (nI C)) (C := RX0) (T := TX0) (N := 8) hx hb hts hinX0 hown hK.1 hP 6 rfl rfl 7 (by decide) hf128 (fun _ h9 => h9) rfl dX2_digest_118 ?_
          refine lv_i2l (v := Int32.toInt64 (nI C)) hx hb dX2_digest_121 rfl ?_
          refine kc_rSl (As := [.long (((jDigD ri pi (mix (jDigK cd (mix 173 (nI K)) K) (nI Dn)) Dn) * 31 + (Int32.toInt64 mv)) * 31 + (Int32.toInt64 dy)), .long (Int32.toInt64 (nI C))]) (rest := []) ⟨hx, hb, hml, hown, hts⟩ (c_X2_mix l (((jDigD ri pi (mix (jDigK cd (mix 173 (nI K)) K) (nI Dn)) Dn) * 31 + (Int32.toInt64 mv)) * 31 + (Int32.toInt64 dy)) (Int32.toInt64 (nI C)) ) (va_cwS 2 hts gX2_digest_X2_mix rfl rfl rfl (by decide +kernel) ⟨Nat.le_of_ble_eq_true rfl, Nat.le_of_ble_eq_true rfl⟩) rfl hl.1 rfl (Nat.le_of_ble_eq_true rfl) dX2_digest_122 ⟨Nat.le_of_ble_eq_true rfl, Nat.le_of_ble_eq_true rfl⟩ ?_
          refine lv_lstore_n (lv' := [(1, .long ((((jDigD ri pi (mix (jDigK cd (mix 173 (nI K)) K) (nI Dn)) Dn) * 31 + (Int32.toInt64 mv)) * 31 + (Int32.toInt64 dy)) * 31 + (Int32.toInt64 (nI C)))), (3, .int (nI Dn)), (0, .ref (ad 14))]) hx hb dX2_digest_125 rfl hl (by decide) rfl (fun ls hl => ?_)
          refine lv_iconst (v := 0) hx hb dX2_digest_126 (by decide) ?_
          refine lv_istore_n (lv' := [(3, .int 0), (1, .long ((((jDigD ri pi (mix (jDigK cd (mix 173 (nI K)) K) (nI Dn)) Dn) * 31 + (Int32.toInt64 mv)) * 31 + (Int32.toInt64 dy)) * 31 + (Int32.toInt64 (nI C)))), (0, .ref (ad 14))]) hx hb dX2_digest_127 rfl hl (by decide) rfl (fun ls hl => ?_)
          refine kc_forW (pc := 128) (N := C) (P := fun j ls => lv_has ls 4 [(3, .int (nI j)), (1, .long (jDigC ko so tl lp ld tn (mix (mix (mix (jDigD ri pi (mix (jDigK cd (mix 173 (nI K)) K) (nI Dn)) Dn) mv) dy) (nI C)) j)), (0, .ref (ad 14))]) (fun j ls hj_128 hp ih_128 => ?_) ls ?_
          · have hl := hp
            refine lv_iload_n hx hb dX2_digest_128 rfl (lv_at hl 0 rfl) ?_
            refine lv_aload_n hx hb dX2_digest_129 rfl (lv_at hl 2 rfl) ?_
            refine va_get (D := D) (ci := 2) (v := .ref (ad 6)) (C := RX2) (T := TX2) (N := 5) hx hb hts hinX2 hown hK.1 hP 14 rfl rfl 1 (by decide) hf23 (fun _ h9 => h9) rfl dX2_digest_130 ?_
            refine va_get (D := D) (ci := 0) (v := .int (nI C)) (C := RX0) (T := TX0) (N := 8) hx hb hts hinX0 hown hK.1 hP 6 rfl rfl 7 (by decide) hf128 (fun _ h9 => h9) rfl dX2_digest_133 ?_
            refine kc_tst (j := j) (N := C) (tgt := 152) hx hb dX2_digest_136 (by decide) hj_128 (by omega) (fun hN => ?_) (fun hlt_128 => ?_)
            · subst hN
              refine lv_lload_n hx hb dX2_digest_152 rfl (lv_at hl 1 rfl) ?_
              exact W.lret (v := jDigC ko so tl lp ld tn (mix (mix (mix (jDigD ri pi (mix (jDigK cd (mix 173 (nI K)) K) (nI Dn)) Dn) mv) dy) (nI C)) C) hx hb hr (fun tZ htZ hWZ => ⟨_, rfl, rfl, htZ⟩) hS.2.2 dX2_digest_153
            · refine lv_aload_n hx hb dX2_digest_139 rfl (lv_at hl 2 rfl) ?_
              refine lv_lload_n hx hb dX2_digest_140 rfl (lv_at hl 1 rfl) ?_
              refine lv_iload_n hx hb dX2_digest_141 rfl (lv_at hl 0 rfl) ?_
              refine kc_rVl (As := [.long (jDigC ko so tl lp ld tn (mix (mix (mix (jDigD ri pi (mix (jDigK cd (mix 173 (nI K)) K) (nI Dn)) Dn) mv) dy) (nI C)) j), .int (nI j)]) (rest := []) ⟨hx, hb, hml, hown, hts⟩ (c_X2_mixCopy l D ad cI cd te ri pi pw K Dn mv ko so tl lp lb ld le C cl dq dy (jDigC ko so tl lp ld tn (mix (mix (mix (jDigD ri pi (mix (jDigK cd (mix 173 (nI K)) K) (nI Dn)) Dn) mv) dy) (nI C)) j) j tn (by first | assumption | omega) hok) (cwV 2 hts gX2_digest_X2_mixCopy rfl rfl rfl (by decide +kernel) ⟨Nat.le_of_ble_eq_true rfl, Nat.le_of_ble_eq_true rfl⟩) hK hP [0, 1, 2, 3, 4, 5, 6, 7, 8, 9, 10, 11, 12, 13, 14, 15, 16] [0] rfl rfl 14 rfl rfl rfl rfl hl.1 rfl (Nat.le_of_ble_eq_true rfl) dX2_digest_142 ⟨Nat.le_of_ble_eq_true rfl, Nat.le_of_ble_eq_true rfl⟩ ?_
              refine lv_lstore_n (lv' := [(1, .long (jMixCopy ko so tl lp ld tn j (jDigC ko so tl lp ld tn (mix (mix (mix (jDigD ri pi (mix (jDigK cd (mix 173 (nI K)) K) (nI Dn)) Dn) mv) dy) (nI C)) j))), (3, .int (nI j)), (0, .ref (ad 14))]) hx hb dX2_digest_145 rfl hl (by decide) rfl (fun ls hl => ?_)
              refine lv_iinc (v := nI (j + 1)) (lv' := [(3, .int (nI (j + 1))), (1, .long (jMixCopy ko so tl lp ld tn j (jDigC ko so tl lp ld tn (mix (mix (mix (jDigD ri pi (mix (jDigK cd (mix 173 (nI K)) K) (nI Dn)) Dn) mv) dy) (nI C)) j))), (0, .ref (ad 14))]) hx hb dX2_digest_146 hl (k := 1) rfl (kc_inc j) (by decide) rfl (fun ls hl => ?_)
              refine lv_goto (tgt := 128) hx hb dX2_digest_149 (by decide) ?_
              refine ih_128 _ hlt_128 ?_
              have eq_1 : jDigC ko so tl lp ld tn (mix (mix (mix (jDigD ri pi (mix (jDigK cd (mix 173 (nI K)) K) (nI Dn)) Dn) mv) dy) (nI C)) (j + 1) = jMixCopy ko so tl lp ld tn j (jDigC ko so tl lp ld tn (mix (mix (mix (jDigD ri pi (mix (jDigK cd (mix 173 (nI K)) K) (nI Dn)) Dn) mv) dy) (nI C)) j) := rfl
              show lv_has _ 4 [(3, .int (nI (j + 1))), (1, .long (jDigC ko so tl lp ld tn (mix (mix (mix (jDigD ri pi (mix (jDigK cd (mix 173 (nI K)) K) (nI Dn)) Dn) mv) dy) (nI C)) (j + 1))), (0, .ref (ad 14))]
              rw [eq_1]
              exact lv_sub hl [0, 1, 2] rfl
          · exact lv_sub hl [0, 1, 2] rfl
        · refine lv_aload_n hx hb dX2_digest_77 rfl (lv_at hl 2 rfl) ?_
          refine lv_lload_n hx hb dX2_digest_78 rfl (lv_at hl 1 rfl) ?_
          refine lv_iload_n hx hb dX2_digest_79 rfl (lv_at hl 0 rfl) ?_
          refine kc_rVl (As := [.long (jDigD ri pi (mix (jDigK cd (mix 173 (nI K)) K) (nI Dn)) j), .int (nI j)]) (rest := []) ⟨hx, hb, hml, hown, hts⟩ (c_X2_mixDoor l D ad cI cd te ri pi pw K Dn mv ko so tl lp lb ld le C cl dq dy (jDigD ri pi (mix (jDigK cd (mix 173 (nI K)) K) (nI Dn)) j) j (by first | assumption | omega)) (cwV 2 hts gX2_digest_X2_mixDoor rfl rfl rfl (by decide +kernel) ⟨Nat.le_of_ble_eq_true rfl, Nat.le_of_ble_eq_true rfl⟩) hK hP [0, 1, 2, 3, 4, 5, 6, 7, 8, 9, 10, 11, 12, 13, 14, 15, 16] [0] rfl rfl 14 rfl rfl rfl rfl hl.1 rfl (Nat.le_of_ble_eq_true rfl) dX2_digest_80 ⟨Nat.le_of_ble_eq_true rfl, Nat.le_of_ble_eq_true rfl⟩ ?_
          refine lv_lstore_n (lv' := [(1, .long (jMixDoor ri pi j (jDigD ri pi (mix (jDigK cd (mix 173 (nI K)) K) (nI Dn)) j) 5)), (3, .int (nI j)), (0, .ref (ad 14))]) hx hb dX2_digest_83 rfl hl (by decide) rfl (fun ls hl => ?_)
          refine lv_iinc (v := nI (j + 1)) (lv' := [(3, .int (nI (j + 1))), (1, .long (jMixDoor ri pi j (jDigD ri pi (mix (jDigK cd (mix 173 (nI K)) K) (nI Dn)) j) 5)), (0, .ref (ad 14))]) hx hb dX2_digest_84 hl (k := 1) rfl (kc_inc j) (by decide) rfl (fun ls hl => ?_)
          refine lv_goto (tgt := 66) hx hb dX2_digest_87 (by decide) ?_
          refine ih_66 _ hlt_66 ?_
          have eq_1 : jDigD ri pi (mix (jDigK cd (mix 173 (nI K)) K) (nI Dn)) (j + 1) = jMixDoor ri pi j (jDigD ri pi (mix (jDigK cd (mix 173 (nI K)) K) (nI Dn)) j) 5 := rfl
          show lv_has _ 4 [(3, .int (nI (j + 1))), (1, .long (jDigD ri pi (mix (jDigK cd (mix 173 (nI K)) K) (nI Dn)) (j + 1))), (0, .ref (ad 14))]
          rw [eq_1]
          exact lv_sub hl [0, 1, 2] rfl
      · exact lv_sub hl [0, 1, 2] rfl
    · refine lv_lload_n hx hb dX2_digest_30 rfl (lv_at hl 1 rfl) ?_
      refine lv_aload_n hx hb dX2_digest_31 rfl (lv_at hl 2 rfl) ?_
      refine va_get (D := D) (ci := 2) (v := .ref (ad 0)) (C := RX2) (T := TX2) (N := 5) hx hb hts hinX2 hown hK.1 hP 14 rfl rfl 0 (by decide) hf16 (fun _ h9 => h9) rfl dX2_digest_32 ?_
      refine va_get (D := D) (ci := 1) (v := .ref (ad 1)) (C := RX1) (T := TX1) (N := 8) hx hb hts hinX1 hown hK.1 hP 0 rfl rfl 0 (by decide) hf84 (fun _ h9 => h9) rfl dX2_digest_35 ?_
      refine lv_iload_n hx hb dX2_digest_38 rfl (lv_at hl 0 rfl) ?_
      refine kc_ald (i := j) (n := 8) hx hb hK hP 1 0 rfl rfl (by omega) (by decide) dX2_digest_39 ?_
      refine lv_i2l (v := Int32.toInt64 (cd j)) hx hb dX2_digest_40 rfl ?_
      refine kc_rSl (As := [.long (jDigK cd (mix 173 (nI K)) j), .long (Int32.toInt64 (cd j))]) (rest := []) ⟨hx, hb, hml, hown, hts⟩ (c_X2_mix l (jDigK cd (mix 173 (nI K)) j) (Int32.toInt64 (cd j)) ) (va_cwS 2 hts gX2_digest_X2_mix rfl rfl rfl (by decide +kernel) ⟨Nat.le_of_ble_eq_true rfl, Nat.le_of_ble_eq_true rfl⟩) rfl hl.1 rfl (Nat.le_of_ble_eq_true rfl) dX2_digest_41 ⟨Nat.le_of_ble_eq_true rfl, Nat.le_of_ble_eq_true rfl⟩ ?_
      refine lv_lstore_n (lv' := [(1, .long ((jDigK cd (mix 173 (nI K)) j) * 31 + (Int32.toInt64 (cd j)))), (3, .int (nI j)), (0, .ref (ad 14))]) hx hb dX2_digest_44 rfl hl (by decide) rfl (fun ls hl => ?_)
      refine lv_iinc (v := nI (j + 1)) (lv' := [(3, .int (nI (j + 1))), (1, .long ((jDigK cd (mix 173 (nI K)) j) * 31 + (Int32.toInt64 (cd j)))), (0, .ref (ad 14))]) hx hb dX2_digest_45 hl (k := 1) rfl (kc_inc j) (by decide) rfl (fun ls hl => ?_)
      refine lv_goto (tgt := 19) hx hb dX2_digest_48 (by decide) ?_
      refine ih_19 _ hlt_19 ?_
      have eq_1 : jDigK cd (mix 173 (nI K)) (j + 1) = (jDigK cd (mix 173 (nI K)) j) * 31 + (Int32.toInt64 (cd j)) := rfl
      show lv_has _ 4 [(3, .int (nI (j + 1))), (1, .long (jDigK cd (mix 173 (nI K)) (j + 1))), (0, .ref (ad 14))]
      rw [eq_1]
      exact lv_sub hl [0, 1, 2] rfl
  · exact lv_sub hl [0, 1, 2] rfl
set_option maxHeartbeats 4000000 in
set_option maxRecDepth 100000 in
theorem c_X2_addKey_ok (l : Launch) (D : va_G) (ad : Nat → Nat) (cI : ClassId) (cd : Nat → Int32) (te : Nat → Int32) (ri : Nat → Int32) (pi : Nat → Int32) (pw : Nat → Int32) (K : Nat) (Dn : Nat) (mv : Int32) (ko : Nat → Int32) (so : Nat → Int32) (tl : Nat → Int32) (lp : Nat → Int32) (lb : Nat → Int32) (ld : Nat → Int32) (le : Nat → Int32) (C : Nat) (cl : Nat → Int32) (dq : Nat → Int32) (dy : Int32) (code : Int32) (sz : Nat) (h1 : ¬ code < 0) (h2 : code < 1024) (hK7 : K < 8) (hf : ¬ jTaken cd K code = true) : Met l yX2_addKey wsX2_addKey ({ frames := 2, cells := 0, slots := 0, locals := 45 } : Room) (wrP [.ref (ad 14), .int code] D sz (wKc ad cI cd te ri pi pw K Dn mv ko so tl lp lb ld le C cl dq dy) [(cI, .int)]) (va_Qi (fun rZ (_ : Unit) => rZ = nI K) (wrB D sz (wKc ad cI cd te ri pi pw K Dn mv ko so tl lp lb ld le C cl dq dy) (wKc ad cI (upd cd K code) (upd te K (jTeeth code 5)) ri pi pw (K + 1) Dn mv ko so tl lp lb ld le C cl dq dy)) (va_A (wKc ad cI cd te ri pi pw K Dn mv ko so tl lp lb ld le C cl dq dy) sz)) 0 0 (va_A (wKc ad cI cd te ri pi pw K Dn mv ko so tl lp lb ld le C cl dq dy) sz) := by
  refine Met.ofW (cc := cX2_addKey) (maxL := 2) (ret := (some .int)) (by decide) rfl ?_
  intro p e s m args below meth c s₁ B hml hv
  obtain ⟨rfl, hsz, hP, hD0, hK⟩ := hv
  have hx := B.exec
  have hb := B.bytes
  have hr := B.returns
  have hts := atoms_spec (ws := wsX2_addKey) B.pre
  have hown : s.vm.findClass RX2 = some m.cls := findClass_of_methodNamed B.named
  have hlocks := B.notSynchronized
  subst hsz
  have hD := hD0.self (sz := s.heap.size)
  generalize hAe : va_A (wKc ad cI cd te ri pi pw K Dn mv ko so tl lp lb ld le C cl dq dy) s.heap.size = A at hD ⊢
  have hA : ∀ q : Nat, s.heap.size ≤ q → A q := fun q h => by rw [← hAe]; exact Or.inr h
  have hinX1 : ∀ w ∈ u_ws RX1 TX1 8, w ∈ wsX2_addKey := by decide +kernel
  have hinX2 : ∀ w ∈ u_ws RX2 TX2 5, w ∈ wsX2_addKey := by decide +kernel
  have hf16 := hts (.fieldLink RX2 16 "KeyCabinet" "plan" "LKeyCabinet$Plan;") (by decide +kernel)
  have hf41 := hts (.fieldLink RX2 41 "KeyCabinet$Plan" "keys" "I") (by decide +kernel)
  have hl := lv_entry ([.ref (ad 14), .int code]) (n := 2) (Nat.le_of_ble_eq_true rfl)
  rw [lg_entry_eq]
  generalize (lg_sl ([.ref (ad 14), .int code]) ++ List.replicate (2 - (lg_sl ([.ref (ad 14), .int code])).length) Slot.unset).toArray = ls at hl ⊢
  have hl : lv_has ls 2 [(0, .ref (ad 14)), (1, .int code)] := hl
  refine W.genH (fun H locs eH eL => ?_)
  have hS : va_S A s.heap H locs := by rw [eH, eL]; exact va_S.rf
  have hP : va_P D vwCl (wKc ad cI cd te ri pi pw K Dn mv ko so tl lp lb ld le C cl dq dy) H := by rw [eH]; exact hP
  clear eH eL
  refine lv_iload_n hx hb dX2_addKey_0 rfl (lv_at hl 1 rfl) ?_
  refine lv_if_lt (tgt := 11) hx hb dX2_addKey_1 (by decide) (fun c_1 => ?_) (fun c_1 => ?_)
  · exact absurd c_1 h1
  · refine lv_iload_n hx hb dX2_addKey_4 rfl (lv_at hl 1 rfl) ?_
    refine lv_sipush (v := 1024) hx hb dX2_addKey_5 (by decide) ?_
    refine lv_icmp_lt (tgt := 21) hx hb dX2_addKey_8 (by decide) (fun c_8 => ?_) (fun c_8 => ?_)
    · refine lv_aload_n hx hb dX2_addKey_21 rfl (lv_at hl 0 rfl) ?_
      refine va_get (D := D) (ci := 2) (v := .ref (ad 0)) (C := RX2) (T := TX2) (N := 5) hx hb hts hinX2 hown hK.1 hP 14 rfl rfl 0 (by decide) hf16 (fun _ h9 => h9) rfl dX2_addKey_22 ?_
      refine va_get (D := D) (ci := 1) (v := .int (nI K)) (C := RX1) (T := TX1) (N := 8) hx hb hts hinX1 hown hK.1 hP 0 rfl rfl 5 (by decide) hf41 (fun _ h9 => h9) rfl dX2_addKey_25 ?_
      refine lv_bipush (v := 8) hx hb dX2_addKey_28 (by decide) ?_
      refine lv_icmp_lt (tgt := 43) hx hb dX2_addKey_30 (by decide) (fun c_30 => ?_) (fun c_30 => ?_)
      · refine lv_aload_n hx hb dX2_addKey_43 rfl (lv_at hl 0 rfl) ?_
        refine va_get (D := D) (ci := 2) (v := .ref (ad 0)) (C := RX2) (T := TX2) (N := 5) hx hb hts hinX2 hown hK.1 hP 14 rfl rfl 0 (by decide) hf16 (fun _ h9 => h9) rfl dX2_addKey_44 ?_
        refine lv_iload_n hx hb dX2_addKey_47 rfl (lv_at hl 1 rfl) ?_
        refine kc_rVi (As := [.int code]) (rest := []) ⟨hx, hb, hml, hown, hts⟩ (c_X1_isTaken l D ad cI cd te ri pi pw K Dn mv code (by first | assumption | omega)) (cwV 1 hts gX2_addKey_X1_isTaken rfl rfl rfl (by decide +kernel) ⟨Nat.le_of_ble_eq_true rfl, Nat.le_of_ble_eq_true rfl⟩) hK hP [0, 1, 2, 3, 4, 5] [0] rfl rfl 0 rfl rfl rfl rfl hl.1 rfl (Nat.le_of_ble_eq_true rfl) dX2_addKey_48 ⟨Nat.le_of_ble_eq_true rfl, Nat.le_of_ble_eq_true rfl⟩ ?_
        refine kc_ifeqB (tgt := 64) hx hb dX2_addKey_51 (by decide) (fun c_51 => ?_) (fun c_51 => ?_)
        · refine lv_aload_n hx hb dX2_addKey_64 rfl (lv_at hl 0 rfl) ?_
          refine va_get (D := D) (ci := 2) (v := .ref (ad 0)) (C := RX2) (T := TX2) (N := 5) hx hb hts hinX2 hown hK.1 hP 14 rfl rfl 0 (by decide) hf16 (fun _ h9 => h9) rfl dX2_addKey_65 ?_
          refine lv_iload_n hx hb dX2_addKey_68 rfl (lv_at hl 1 rfl) ?_
          refine kc_wVi (w1 := wPl ad cI (upd cd K code) (upd te K (jTeeth code 5)) ri pi pw (K + 1) Dn mv) (wr := [(ad 6, .inr (0, [.ref (ad 7), .ref (ad 8), .ref (ad 9), .ref (ad 10), .ref (ad 11), .ref (ad 12), .ref (ad 13), .int (nI C)])), (ad 7, .inl (cI, 24, .inl ko)), (ad 8, .inl (cI, 24, .inl so)), (ad 9, .inl (cI, 24, .inl tl)), (ad 10, .inl (cI, 216, .inl lp)), (ad 11, .inl (cI, 216, .inl lb)), (ad 12, .inl (cI, 216, .inl ld)), (ad 13, .inl (cI, 216, .inl le)), (ad 14, .inr (2, [.ref (ad 0), .ref (ad 6), .ref (ad 15), .ref (ad 16), .int dy])), (ad 15, .inl (cI, 8, .inl cl)), (ad 16, .inl (cI, 8, .inl dq))]) (ws1 := wKc ad cI (upd cd K code) (upd te K (jTeeth code 5)) ri pi pw (K + 1) Dn mv ko so tl lp lb ld le C cl dq dy) (As := [.int code]) (rest := []) ⟨hx, hb, hml, hown, hts⟩ (c_X1_takeKey l D ad cI cd te ri pi pw K Dn mv code H.size hK7) (cwV 1 hts gX2_addKey_X1_takeKey rfl rfl rfl (by decide +kernel) ⟨Nat.le_of_ble_eq_true rfl, Nat.le_of_ble_eq_true rfl⟩) hK hP hD hS hA [0, 1, 2, 3, 4, 5] [6, 7, 8, 9, 10, 11, 12, 13, 14, 15, 16] [11, 12, 13, 14, 15, 16, 0, 1, 2, 3, 4, 5, 6, 7, 8, 9, 10] [0] rfl rfl rfl rfl (by decide) rfl rfl rfl 0 rfl rfl rfl rfl hl.1 rfl (Nat.le_of_ble_eq_true rfl) dX2_addKey_69 ⟨Nat.le_of_ble_eq_true rfl, Nat.le_of_ble_eq_true rfl⟩ (fun H locs hP hD hS => ?_)
          exact W.iret (v := nI K) hx hb hr (fun tZ htZ hWZ => ⟨⟨_, (), rfl, rfl, by rw [htZ]; exact hP, by rw [hAe]; exact hD⟩, hS.F htZ⟩) hS.2.2 dX2_addKey_72
        · exact absurd c_51 hf
      · exact absurd (nI_lt (b := 8) hK7 (by omega)) c_30
    · exact absurd h2 c_8
set_option maxHeartbeats 4000000 in
set_option maxRecDepth 100000 in
theorem c_X2_addDoor_ok (l : Launch) (D : va_G) (ad : Nat → Nat) (cI : ClassId) (cd : Nat → Int32) (te : Nat → Int32) (ri : Nat → Int32) (pi : Nat → Int32) (pw : Nat → Int32) (K : Nat) (Dn : Nat) (mv : Int32) (ko : Nat → Int32) (so : Nat → Int32) (tl : Nat → Int32) (lp : Nat → Int32) (lb : Nat → Int32) (ld : Nat → Int32) (le : Nat → Int32) (C : Nat) (cl : Nat → Int32) (dq : Nat → Int32) (dy : Int32) (r : Int32) (sz : Nat) (hK8 : K ≤ 8) (hs : jSetOf K r = true) (hD7 : Dn < 8) : Met l yX2_addDoor wsX2_addDoor ({ frames := 4, cells := 0, slots := 0, locals := 89 } : Room) (wrP [.ref (ad 14), .int r] D sz (wKc ad cI cd te ri pi pw K Dn mv ko so tl lp lb ld le C cl dq dy) [(cI, .int)]) (va_Qi (fun rZ (_ : Unit) => rZ = nI Dn) (wrB D sz (wKc ad cI cd te ri pi pw K Dn mv ko so tl lp lb ld le C cl dq dy) (wKc ad cI cd te (upd ri Dn r) (upd pi Dn (jPinsFor te r K)) pw K (Dn + 1) (mv + jPop (pi Dn ^^^ jPinsFor te r K)) ko so tl lp lb ld le C cl dq dy)) (va_A (wKc ad cI cd te ri pi pw K Dn mv ko so tl lp lb ld le C cl dq dy) sz)) 0 0 (va_A (wKc ad cI cd te ri pi pw K Dn mv ko so tl lp lb ld le C cl dq dy) sz) := by
  refine Met.ofW (cc := cX2_addDoor) (maxL := 2) (ret := (some .int)) (by decide) rfl ?_
  intro p e s m args below meth c s₁ B hml hv
  obtain ⟨rfl, hsz, hP, hD0, hK⟩ := hv
  have hx := B.exec
  have hb := B.bytes
  have hr := B.returns
  have hts := atoms_spec (ws := wsX2_addDoor) B.pre
  have hown : s.vm.findClass RX2 = some m.cls := findClass_of_methodNamed B.named
  have hlocks := B.notSynchronized
  subst hsz
  have hD := hD0.self (sz := s.heap.size)
  generalize hAe : va_A (wKc ad cI cd te ri pi pw K Dn mv ko so tl lp lb ld le C cl dq dy) s.heap.size = A at hD ⊢
  have hA : ∀ q : Nat, s.heap.size ≤ q → A q := fun q h => by rw [← hAe]; exact Or.inr h
  have hinX1 : ∀ w ∈ u_ws RX1 TX1 8, w ∈ wsX2_addDoor := by decide +kernel
  have hinX2 : ∀ w ∈ u_ws RX2 TX2 5, w ∈ wsX2_addDoor := by decide +kernel
  have hf16 := hts (.fieldLink RX2 16 "KeyCabinet" "plan" "LKeyCabinet$Plan;") (by decide +kernel)
  have hf63 := hts (.fieldLink RX2 63 "KeyCabinet$Plan" "doors" "I") (by decide +kernel)
  have hl := lv_entry ([.ref (ad 14), .int r]) (n := 2) (Nat.le_of_ble_eq_true rfl)
  rw [lg_entry_eq]
  generalize (lg_sl ([.ref (ad 14), .int r]) ++ List.replicate (2 - (lg_sl ([.ref (ad 14), .int r])).length) Slot.unset).toArray = ls at hl ⊢
  have hl : lv_has ls 2 [(0, .ref (ad 14)), (1, .int r)] := hl
  refine W.genH (fun H locs eH eL => ?_)
  have hS : va_S A s.heap H locs := by rw [eH, eL]; exact va_S.rf
  have hP : va_P D vwCl (wKc ad cI cd te ri pi pw K Dn mv ko so tl lp lb ld le C cl dq dy) H := by rw [eH]; exact hP
  clear eH eL
  refine lv_aload_n hx hb dX2_addDoor_0 rfl (lv_at hl 0 rfl) ?_
  refine lv_iload_n hx hb dX2_addDoor_1 rfl (lv_at hl 1 rfl) ?_
  refine kc_rVv (As := [.int r]) (rest := []) ⟨hx, hb, hml, hown, hts⟩ (c_X2_needRights l D ad cI cd te ri pi pw K Dn mv ko so tl lp lb ld le C cl dq dy r hs) (cwV 1 hts gX2_addDoor_X2_needRights rfl rfl rfl (by decide +kernel) ⟨Nat.le_of_ble_eq_true rfl, Nat.le_of_ble_eq_true rfl⟩) hK hP [0, 1, 2, 3, 4, 5, 6, 7, 8, 9, 10, 11, 12, 13, 14, 15, 16] [0] rfl rfl 14 rfl rfl rfl rfl hl.1 rfl (Nat.le_of_ble_eq_true rfl) dX2_addDoor_2 ⟨Nat.le_of_ble_eq_true rfl, Nat.le_of_ble_eq_true rfl⟩ ?_
  refine lv_aload_n hx hb dX2_addDoor_5 rfl (lv_at hl 0 rfl) ?_
  refine va_get (D := D) (ci := 2) (v := .ref (ad 0)) (C := RX2) (T := TX2) (N := 5) hx hb hts hinX2 hown hK.1 hP 14 rfl rfl 0 (by decide) hf16 (fun _ h9 => h9) rfl dX2_addDoor_6 ?_
  refine va_get (D := D) (ci := 1) (v := .int (nI Dn)) (C := RX1) (T := TX1) (N := 8) hx hb hts hinX1 hown hK.1 hP 0 rfl rfl 6 (by decide) hf63 (fun _ h9 => h9) rfl dX2_addDoor_9 ?_
  refine lv_bipush (v := 8) hx hb dX2_addDoor_12 (by decide) ?_
  refine lv_icmp_lt (tgt := 27) hx hb dX2_addDoor_14 (by decide) (fun c_14 => ?_) (fun c_14 => ?_)
  · refine lv_aload_n hx hb dX2_addDoor_27 rfl (lv_at hl 0 rfl) ?_
    refine va_get (D := D) (ci := 2) (v := .ref (ad 0)) (C := RX2) (T := TX2) (N := 5) hx hb hts hinX2 hown hK.1 hP 14 rfl rfl 0 (by decide) hf16 (fun _ h9 => h9) rfl dX2_addDoor_28 ?_
    refine lv_iload_n hx hb dX2_addDoor_31 rfl (lv_at hl 1 rfl) ?_
    refine kc_wVi (w1 := wPl ad cI cd te (upd ri Dn r) (upd pi Dn (jPinsFor te r K)) pw K (Dn + 1) (mv + jPop (pi Dn ^^^ jPinsFor te r K))) (wr := [(ad 6, .inr (0, [.ref (ad 7), .ref (ad 8), .ref (ad 9), .ref (ad 10), .ref (ad 11), .ref (ad 12), .ref (ad 13), .int (nI C)])), (ad 7, .inl (cI, 24, .inl ko)), (ad 8, .inl (cI, 24, .inl so)), (ad 9, .inl (cI, 24, .inl tl)), (ad 10, .inl (cI, 216, .inl lp)), (ad 11, .inl (cI, 216, .inl lb)), (ad 12, .inl (cI, 216, .inl ld)), (ad 13, .inl (cI, 216, .inl le)), (ad 14, .inr (2, [.ref (ad 0), .ref (ad 6), .ref (ad 15), .ref (ad 16), .int dy])), (ad 15, .inl (cI, 8, .inl cl)), (ad 16, .inl (cI, 8, .inl dq))]) (ws1 := wKc ad cI cd te (upd ri Dn r) (upd pi Dn (jPinsFor te r K)) pw K (Dn + 1) (mv + jPop (pi Dn ^^^ jPinsFor te r K)) ko so tl lp lb ld le C cl dq dy) (As := [.int r]) (rest := []) ⟨hx, hb, hml, hown, hts⟩ (c_X1_takeDoor l D ad cI cd te ri pi pw K Dn mv r H.size hK8 hD7) (cwV 1 hts gX2_addDoor_X1_takeDoor rfl rfl rfl (by decide +kernel) ⟨Nat.le_of_ble_eq_true rfl, Nat.le_of_ble_eq_true rfl⟩) hK hP hD hS hA [0, 1, 2, 3, 4, 5] [6, 7, 8, 9, 10, 11, 12, 13, 14, 15, 16] [11, 12, 13, 14, 15, 16, 0, 1, 2, 3, 4, 5, 6, 7, 8, 9, 10] [0] rfl rfl rfl rfl (by decide) rfl rfl rfl 0 rfl rfl rfl rfl hl.1 rfl (Nat.le_of_ble_eq_true rfl) dX2_addDoor_32 ⟨Nat.le_of_ble_eq_true rfl, Nat.le_of_ble_eq_true rfl⟩ (fun H locs hP hD hS => ?_)
    exact W.iret (v := nI Dn) hx hb hr (fun tZ htZ hWZ => ⟨⟨_, (), rfl, rfl, by rw [htZ]; exact hP, by rw [hAe]; exact hD⟩, hS.F htZ⟩) hS.2.2 dX2_addDoor_35
  · exact absurd (nI_lt (b := 8) hD7 (by omega)) c_14
set_option maxHeartbeats 4000000 in
set_option maxRecDepth 100000 in
theorem c_X2_setRights_ok (l : Launch) (D : va_G) (ad : Nat → Nat) (cI : ClassId) (cd : Nat → Int32) (te : Nat → Int32) (ri : Nat → Int32) (pi : Nat → Int32) (pw : Nat → Int32) (K : Nat) (Dn : Nat) (mv : Int32) (ko : Nat → Int32) (so : Nat → Int32) (tl : Nat → Int32) (lp : Nat → Int32) (lb : Nat → Int32) (ld : Nat → Int32) (le : Nat → Int32) (C : Nat) (cl : Nat → Int32) (dq : Nat → Int32) (dy : Int32) (d : Nat) (r : Int32) (sz : Nat) (hK8 : K ≤ 8) (hD8 : Dn ≤ 8) (hd : d < Dn) (hs : jSetOf K r = true) : Met l yX2_setRights wsX2_setRights ({ frames := 3, cells := 0, slots := 0, locals := 67 } : Room) (wrP [.ref (ad 14), .int (nI d), .int r] D sz (wKc ad cI cd te ri pi pw K Dn mv ko so tl lp lb ld le C cl dq dy) [(cI, .int)]) (va_Qi (fun rZ (_ : Unit) => rZ = ri d) (wrB D sz (wKc ad cI cd te ri pi pw K Dn mv ko so tl lp lb ld le C cl dq dy) (wKc ad cI cd te (upd ri d r) (upd pi d (jPinsFor te r K)) pw K Dn (mv + jPop (pi d ^^^ jPinsFor te r K)) ko so tl lp lb ld le C cl dq dy)) (va_A (wKc ad cI cd te ri pi pw K Dn mv ko so tl lp lb ld le C cl dq dy) sz)) 0 0 (va_A (wKc ad cI cd te ri pi pw K Dn mv ko so tl lp lb ld le C cl dq dy) sz) := by
  refine Met.ofW (cc := cX2_setRights) (maxL := 4) (ret := (some .int)) (by decide) rfl ?_
  intro p e s m args below meth c s₁ B hml hv
  obtain ⟨rfl, hsz, hP, hD0, hK⟩ := hv
  have hx := B.exec
  have hb := B.bytes
  have hr := B.returns
  have hts := atoms_spec (ws := wsX2_setRights) B.pre
  have hown : s.vm.findClass RX2 = some m.cls := findClass_of_methodNamed B.named
  have hlocks := B.notSynchronized
  subst hsz
  have hD := hD0.self (sz := s.heap.size)
  generalize hAe : va_A (wKc ad cI cd te ri pi pw K Dn mv ko so tl lp lb ld le C cl dq dy) s.heap.size = A at hD ⊢
  have hA : ∀ q : Nat, s.heap.size ≤ q → A q := fun q h => by rw [← hAe]; exact Or.inr h
  have hinX1 : ∀ w ∈ u_ws RX1 TX1 8, w ∈ wsX2_setRights := by decide +kernel
  have hinX2 : ∀ w ∈ u_ws RX2 TX2 5, w ∈ wsX2_setRights := by decide +kernel
  have hf16 := hts (.fieldLink RX2 16 "KeyCabinet" "plan" "LKeyCabinet$Plan;") (by decide +kernel)
  have hf74 := hts (.fieldLink RX2 74 "KeyCabinet$Plan" "rightsOf" "[I") (by decide +kernel)
  have hl := lv_entry ([.ref (ad 14), .int (nI d), .int r]) (n := 4) (Nat.le_of_ble_eq_true rfl)
  rw [lg_entry_eq]
  generalize (lg_sl ([.ref (ad 14), .int (nI d), .int r]) ++ List.replicate (4 - (lg_sl ([.ref (ad 14), .int (nI d), .int r])).length) Slot.unset).toArray = ls at hl ⊢
  have hl : lv_has ls 4 [(0, .ref (ad 14)), (1, .int (nI d)), (2, .int r)] := hl
  refine W.genH (fun H locs eH eL => ?_)
  have hS : va_S A s.heap H locs := by rw [eH, eL]; exact va_S.rf
  have hP : va_P D vwCl (wKc ad cI cd te ri pi pw K Dn mv ko so tl lp lb ld le C cl dq dy) H := by rw [eH]; exact hP
  clear eH eL
  refine lv_aload_n hx hb dX2_setRights_0 rfl (lv_at hl 0 rfl) ?_
  refine lv_iload_n hx hb dX2_setRights_1 rfl (lv_at hl 1 rfl) ?_
  refine kc_rVv (As := [.int (nI d)]) (rest := []) ⟨hx, hb, hml, hown, hts⟩ (c_X2_needDoor l D ad cI cd te ri pi pw K Dn mv ko so tl lp lb ld le C cl dq dy d hd hD8) (cwV 1 hts gX2_setRights_X2_needDoor rfl rfl rfl (by decide +kernel) ⟨Nat.le_of_ble_eq_true rfl, Nat.le_of_ble_eq_true rfl⟩) hK hP [0, 1, 2, 3, 4, 5, 6, 7, 8, 9, 10, 11, 12, 13, 14, 15, 16] [0] rfl rfl 14 rfl rfl rfl rfl hl.1 rfl (Nat.le_of_ble_eq_true rfl) dX2_setRights_2 ⟨Nat.le_of_ble_eq_true rfl, Nat.le_of_ble_eq_true rfl⟩ ?_
  refine lv_aload_n hx hb dX2_setRights_5 rfl (lv_at hl 0 rfl) ?_
  refine lv_iload_n hx hb dX2_setRights_6 rfl (lv_at hl 2 rfl) ?_
  refine kc_rVv (As := [.int r]) (rest := []) ⟨hx, hb, hml, hown, hts⟩ (c_X2_needRights l D ad cI cd te ri pi pw K Dn mv ko so tl lp lb ld le C cl dq dy r hs) (cwV 1 hts gX2_setRights_X2_needRights rfl rfl rfl (by decide +kernel) ⟨Nat.le_of_ble_eq_true rfl, Nat.le_of_ble_eq_true rfl⟩) hK hP [0, 1, 2, 3, 4, 5, 6, 7, 8, 9, 10, 11, 12, 13, 14, 15, 16] [0] rfl rfl 14 rfl rfl rfl rfl hl.1 rfl (Nat.le_of_ble_eq_true rfl) dX2_setRights_7 ⟨Nat.le_of_ble_eq_true rfl, Nat.le_of_ble_eq_true rfl⟩ ?_
  refine lv_aload_n hx hb dX2_setRights_10 rfl (lv_at hl 0 rfl) ?_
  refine va_get (D := D) (ci := 2) (v := .ref (ad 0)) (C := RX2) (T := TX2) (N := 5) hx hb hts hinX2 hown hK.1 hP 14 rfl rfl 0 (by decide) hf16 (fun _ h9 => h9) rfl dX2_setRights_11 ?_
  refine va_get (D := D) (ci := 1) (v := .ref (ad 3)) (C := RX1) (T := TX1) (N := 8) hx hb hts hinX1 hown hK.1 hP 0 rfl rfl 2 (by decide) hf74 (fun _ h9 => h9) rfl dX2_setRights_14 ?_
  refine lv_iload_n hx hb dX2_setRights_17 rfl (lv_at hl 1 rfl) ?_
  refine kc_ald (i := d) (n := 8) hx hb hK hP 3 0 rfl rfl (by omega) (by decide) dX2_setRights_18 ?_
  refine lv_istore_n (lv' := [(3, .int (ri d)), (0, .ref (ad 14)), (1, .int (nI d)), (2, .int r)]) hx hb dX2_setRights_19 rfl hl (by decide) rfl (fun ls hl => ?_)
  refine lv_aload_n hx hb dX2_setRights_20 rfl (lv_at hl 1 rfl) ?_
  refine va_get (D := D) (ci := 2) (v := .ref (ad 0)) (C := RX2) (T := TX2) (N := 5) hx hb hts hinX2 hown hK.1 hP 14 rfl rfl 0 (by decide) hf16 (fun _ h9 => h9) rfl dX2_setRights_21 ?_
  refine lv_iload_n hx hb dX2_setRights_24 rfl (lv_at hl 2 rfl) ?_
  refine lv_iload_n hx hb dX2_setRights_25 rfl (lv_at hl 3 rfl) ?_
  refine kc_wVv (w1 := wPl ad cI cd te (upd ri d r) (upd pi d (jPinsFor te r K)) pw K Dn (mv + jPop (pi d ^^^ jPinsFor te r K))) (wr := [(ad 6, .inr (0, [.ref (ad 7), .ref (ad 8), .ref (ad 9), .ref (ad 10), .ref (ad 11), .ref (ad 12), .ref (ad 13), .int (nI C)])), (ad 7, .inl (cI, 24, .inl ko)), (ad 8, .inl (cI, 24, .inl so)), (ad 9, .inl (cI, 24, .inl tl)), (ad 10, .inl (cI, 216, .inl lp)), (ad 11, .inl (cI, 216, .inl lb)), (ad 12, .inl (cI, 216, .inl ld)), (ad 13, .inl (cI, 216, .inl le)), (ad 14, .inr (2, [.ref (ad 0), .ref (ad 6), .ref (ad 15), .ref (ad 16), .int dy])), (ad 15, .inl (cI, 8, .inl cl)), (ad 16, .inl (cI, 8, .inl dq))]) (ws1 := wKc ad cI cd te (upd ri d r) (upd pi d (jPinsFor te r K)) pw K Dn (mv + jPop (pi d ^^^ jPinsFor te r K)) ko so tl lp lb ld le C cl dq dy) (As := [.int (nI d), .int r]) (rest := []) ⟨hx, hb, hml, hown, hts⟩ (c_X1_giveRights l D ad cI cd te ri pi pw K Dn mv d r H.size hK8 (by first | assumption | omega)) (cwV 2 hts gX2_setRights_X1_giveRights rfl rfl rfl (by decide +kernel) ⟨Nat.le_of_ble_eq_true rfl, Nat.le_of_ble_eq_true rfl⟩) hK hP hD hS hA [0, 1, 2, 3, 4, 5] [6, 7, 8, 9, 10, 11, 12, 13, 14, 15, 16] [11, 12, 13, 14, 15, 16, 0, 1, 2, 3, 4, 5, 6, 7, 8, 9, 10] [0] rfl rfl rfl rfl (by decide) rfl rfl rfl 0 rfl rfl rfl rfl hl.1 rfl (Nat.le_of_ble_eq_true rfl) dX2_setRights_26 ⟨Nat.le_of_ble_eq_true rfl, Nat.le_of_ble_eq_true rfl⟩ (fun H locs hP hD hS => ?_)
  refine lv_iload_n hx hb dX2_setRights_29 rfl (lv_at hl 0 rfl) ?_
  exact W.iret (v := ri d) hx hb hr (fun tZ htZ hWZ => ⟨⟨_, (), rfl, rfl, by rw [htZ]; exact hP, by rw [hAe]; exact hD⟩, hS.F htZ⟩) hS.2.2 dX2_setRights_30
set_option maxHeartbeats 4000000 in
set_option maxRecDepth 100000 in
theorem c_X2_replace_none (l : Launch) (D : va_G) (ad : Nat → Nat) (cI : ClassId) (cd : Nat → Int32) (te : Nat → Int32) (ri : Nat → Int32) (pi : Nat → Int32) (pw : Nat → Int32) (K : Nat) (Dn : Nat) (mv : Int32) (ko : Nat → Int32) (so : Nat → Int32) (tl : Nat → Int32) (lp : Nat → Int32) (lb : Nat → Int32) (ld : Nat → Int32) (le : Nat → Int32) (C : Nat) (cl : Nat → Int32) (dq : Nat → Int32) (dy : Int32) (k : Nat) (sz : Nat) (hK8 : K ≤ 8) (hD8 : Dn ≤ 8) (hk : k < K) (hne : (jBest cd te ri pi (jWithout te ri K k pw Dn) K Dn k 1024).1 = (-1)) : Met l yX2_replace wsX2_replace ({ frames := 3, cells := 0, slots := 0, locals := 80 } : Room) (wrP [.ref (ad 14), .int (nI k)] D sz (wKc ad cI cd te ri pi pw K Dn mv ko so tl lp lb ld le C cl dq dy) [(cI, .int)]) (va_Qi (fun rZ (_ : Unit) => rZ = -1) (wrB D sz (wKc ad cI cd te ri pi pw K Dn mv ko so tl lp lb ld le C cl dq dy) (wKc ad cI cd te ri pi (jWithout te ri K k pw Dn) K Dn mv ko so tl lp lb ld le C cl dq dy)) (va_A (wKc ad cI cd te ri pi pw K Dn mv ko so tl lp lb ld le C cl dq dy) sz)) 0 0 (va_A (wKc ad cI cd te ri pi pw K Dn mv ko so tl lp lb ld le C cl dq dy) sz) := by
  refine Met.ofW (cc := cX2_replace) (maxL := 3) (ret := (some .int)) (by decide) rfl ?_
  intro p e s m args below meth c s₁ B hml hv
  obtain ⟨rfl, hsz, hP, hD0, hK⟩ := hv
  have hx := B.exec
  have hb := B.bytes
  have hr := B.returns
  have hts := atoms_spec (ws := wsX2_replace) B.pre
  have hown : s.vm.findClass RX2 = some m.cls := findClass_of_methodNamed B.named
  have hlocks := B.notSynchronized
  subst hsz
  have hD := hD0.self (sz := s.heap.size)
  generalize hAe : va_A (wKc ad cI cd te ri pi pw K Dn mv ko so tl lp lb ld le C cl dq dy) s.heap.size = A at hD ⊢
  have hA : ∀ q : Nat, s.heap.size ≤ q → A q := fun q h => by rw [← hAe]; exact Or.inr h
  have hinX2 : ∀ w ∈ u_ws RX2 TX2 5, w ∈ wsX2_replace := by decide +kernel
  have hf16 := hts (.fieldLink RX2 16 "KeyCabinet" "plan" "LKeyCabinet$Plan;") (by decide +kernel)
  have hl := lv_entry ([.ref (ad 14), .int (nI k)]) (n := 3) (Nat.le_of_ble_eq_true rfl)
  rw [lg_entry_eq]
  generalize (lg_sl ([.ref (ad 14), .int (nI k)]) ++ List.replicate (3 - (lg_sl ([.ref (ad 14), .int (nI k)])).length) Slot.unset).toArray = ls at hl ⊢
  have hl : lv_has ls 3 [(0, .ref (ad 14)), (1, .int (nI k))] := hl
  refine W.genH (fun H locs eH eL => ?_)
  have hS : va_S A s.heap H locs := by rw [eH, eL]; exact va_S.rf
  have hP : va_P D vwCl (wKc ad cI cd te ri pi pw K Dn mv ko so tl lp lb ld le C cl dq dy) H := by rw [eH]; exact hP
  clear eH eL
  refine lv_aload_n hx hb dX2_replace_0 rfl (lv_at hl 0 rfl) ?_
  refine lv_iload_n hx hb dX2_replace_1 rfl (lv_at hl 1 rfl) ?_
  refine kc_rVv (As := [.int (nI k)]) (rest := []) ⟨hx, hb, hml, hown, hts⟩ (c_X2_needKey l D ad cI cd te ri pi pw K Dn mv ko so tl lp lb ld le C cl dq dy k hk hK8) (cwV 1 hts gX2_replace_X2_needKey rfl rfl rfl (by decide +kernel) ⟨Nat.le_of_ble_eq_true rfl, Nat.le_of_ble_eq_true rfl⟩) hK hP [0, 1, 2, 3, 4, 5, 6, 7, 8, 9, 10, 11, 12, 13, 14, 15, 16] [0] rfl rfl 14 rfl rfl rfl rfl hl.1 rfl (Nat.le_of_ble_eq_true rfl) dX2_replace_2 ⟨Nat.le_of_ble_eq_true rfl, Nat.le_of_ble_eq_true rfl⟩ ?_
  refine lv_aload_n hx hb dX2_replace_5 rfl (lv_at hl 0 rfl) ?_
  refine va_get (D := D) (ci := 2) (v := .ref (ad 0)) (C := RX2) (T := TX2) (N := 5) hx hb hts hinX2 hown hK.1 hP 14 rfl rfl 0 (by decide) hf16 (fun _ h9 => h9) rfl dX2_replace_6 ?_
  refine lv_iload_n hx hb dX2_replace_9 rfl (lv_at hl 1 rfl) ?_
  refine kc_wVi (w1 := wPl ad cI cd te ri pi (jWithout te ri K k pw Dn) K Dn mv) (wr := [(ad 6, .inr (0, [.ref (ad 7), .ref (ad 8), .ref (ad 9), .ref (ad 10), .ref (ad 11), .ref (ad 12), .ref (ad 13), .int (nI C)])), (ad 7, .inl (cI, 24, .inl ko)), (ad 8, .inl (cI, 24, .inl so)), (ad 9, .inl (cI, 24, .inl tl)), (ad 10, .inl (cI, 216, .inl lp)), (ad 11, .inl (cI, 216, .inl lb)), (ad 12, .inl (cI, 216, .inl ld)), (ad 13, .inl (cI, 216, .inl le)), (ad 14, .inr (2, [.ref (ad 0), .ref (ad 6), .ref (ad 15), .ref (ad 16), .int dy])), (ad 15, .inl (cI, 8, .inl cl)), (ad 16, .inl (cI, 8, .inl dq))]) (ws1 := wKc ad cI cd te ri pi (jWithout te ri K k pw Dn) K Dn mv ko so tl lp lb ld le C cl dq dy) (As := [.int (nI k)]) (rest := []) ⟨hx, hb, hml, hown, hts⟩ (c_X1_bestCodeFor l D ad cI cd te ri pi pw K Dn mv k H.size hK8 hD8 (by first | assumption | omega)) (cwV 1 hts gX2_replace_X1_bestCodeFor rfl rfl rfl (by decide +kernel) ⟨Nat.le_of_ble_eq_true rfl, Nat.le_of_ble_eq_true rfl⟩) hK hP hD hS hA [0, 1, 2, 3, 4, 5] [6, 7, 8, 9, 10, 11, 12, 13, 14, 15, 16] [11, 12, 13, 14, 15, 16, 0, 1, 2, 3, 4, 5, 6, 7, 8, 9, 10] [0] rfl rfl rfl rfl (by decide) rfl rfl rfl 0 rfl rfl rfl rfl hl.1 rfl (Nat.le_of_ble_eq_true rfl) dX2_replace_10 ⟨Nat.le_of_ble_eq_true rfl, Nat.le_of_ble_eq_true rfl⟩ (fun H locs hP hD hS => ?_)
  refine lv_istore_n (lv' := [(2, .int ((jBest cd te ri pi (jWithout te ri K k pw Dn) K Dn k 1024).1)), (0, .ref (ad 14)), (1, .int (nI k))]) hx hb dX2_replace_13 rfl hl (by decide) rfl (fun ls hl => ?_)
  refine lv_iload_n hx hb dX2_replace_14 rfl (lv_at hl 0 rfl) ?_
  refine lv_iconst (v := (-1)) hx hb dX2_replace_15 (by decide) ?_
  refine lv_icmp_ne (tgt := 21) hx hb dX2_replace_16 (by decide) (fun c_16 => ?_) (fun c_16 => ?_)
  · exact absurd hne c_16
  · refine lv_iconst (v := (-1)) hx hb dX2_replace_19 (by decide) ?_
    exact W.iret (v := (-1)) hx hb hr (fun tZ htZ hWZ => ⟨⟨_, (), rfl, rfl, by rw [htZ]; exact hP, by rw [hAe]; exact hD⟩, hS.F htZ⟩) hS.2.2 dX2_replace_20
set_option maxHeartbeats 4000000 in
set_option maxRecDepth 100000 in
theorem c_X2_replace_ok (l : Launch) (D : va_G) (ad : Nat → Nat) (cI : ClassId) (cd : Nat → Int32) (te : Nat → Int32) (ri : Nat → Int32) (pi : Nat → Int32) (pw : Nat → Int32) (K : Nat) (Dn : Nat) (mv : Int32) (ko : Nat → Int32) (so : Nat → Int32) (tl : Nat → Int32) (lp : Nat → Int32) (lb : Nat → Int32) (ld : Nat → Int32) (le : Nat → Int32) (C : Nat) (cl : Nat → Int32) (dq : Nat → Int32) (dy : Int32) (k : Nat) (tn : Nat → Nat) (sz : Nat) (hK8 : K ≤ 8) (hD8 : Dn ≤ 8) (hC24 : C ≤ 24) (hk : k < K) (hok : okLe so tl tn) (hne : ¬ (jBest cd te ri pi (jWithout te ri K k pw Dn) K Dn k 1024).1 = (-1)) : Met l yX2_replace wsX2_replace ({ frames := 3, cells := 0, slots := 0, locals := 80 } : Room) (wrP [.ref (ad 14), .int (nI k)] D sz (wKc ad cI cd te ri pi pw K Dn mv ko so tl lp lb ld le C cl dq dy) [(cI, .int)]) (va_Qi (fun rZ (_ : Unit) => rZ = (jBest cd te ri pi (jWithout te ri K k pw Dn) K Dn k 1024).1) (wrB D sz (wKc ad cI cd te ri pi pw K Dn mv ko so tl lp lb ld le C cl dq dy) (wKc ad cI (upd cd k (jBest cd te ri pi (jWithout te ri K k pw Dn) K Dn k 1024).1) (upd te k (jTeeth (jBest cd te ri pi (jWithout te ri K k pw Dn) K Dn k 1024).1 5)) ri (jRepin (upd te k (jTeeth (jBest cd te ri pi (jWithout te ri K k pw Dn) K Dn k 1024).1 5)) ri K pi Dn) (jWithout te ri K k pw Dn) K Dn (jRework (upd te k (jTeeth (jBest cd te ri pi (jWithout te ri K k pw Dn) K Dn k 1024).1 5)) ri K pi mv Dn) ko (jVoidSo ko (nI k) so C) tl lp lb ld (jVoidEnd ko (nI k) so le tn dy C) C cl dq dy)) (va_A (wKc ad cI cd te ri pi pw K Dn mv ko so tl lp lb ld le C cl dq dy) sz)) 0 0 (va_A (wKc ad cI cd te ri pi pw K Dn mv ko so tl lp lb ld le C cl dq dy) sz) := by
  refine Met.ofW (cc := cX2_replace) (maxL := 3) (ret := (some .int)) (by decide) rfl ?_
  intro p e s m args below meth c s₁ B hml hv
  obtain ⟨rfl, hsz, hP, hD0, hK⟩ := hv
  have hx := B.exec
  have hb := B.bytes
  have hr := B.returns
  have hts := atoms_spec (ws := wsX2_replace) B.pre
  have hown : s.vm.findClass RX2 = some m.cls := findClass_of_methodNamed B.named
  have hlocks := B.notSynchronized
  subst hsz
  have hD := hD0.self (sz := s.heap.size)
  generalize hAe : va_A (wKc ad cI cd te ri pi pw K Dn mv ko so tl lp lb ld le C cl dq dy) s.heap.size = A at hD ⊢
  have hA : ∀ q : Nat, s.heap.size ≤ q → A q := fun q h => by rw [← hAe]; exact Or.inr h
  have hinX2 : ∀ w ∈ u_ws RX2 TX2 5, w ∈ wsX2_replace := by decide +kernel
  have hf16 := hts (.fieldLink RX2 16 "KeyCabinet" "plan" "LKeyCabinet$Plan;") (by decide +kernel)
  have hf23 := hts (.fieldLink RX2 23 "KeyCabinet" "ledger" "LKeyCabinet$Ledger;") (by decide +kernel)
  have hf7 := hts (.fieldLink RX2 7 "KeyCabinet" "day" "I") (by decide +kernel)
  have hl := lv_entry ([.ref (ad 14), .int (nI k)]) (n := 3) (Nat.le_of_ble_eq_true rfl)
  rw [lg_entry_eq]
  generalize (lg_sl ([.ref (ad 14), .int (nI k)]) ++ List.replicate (3 - (lg_sl ([.ref (ad 14), .int (nI k)])).length) Slot.unset).toArray = ls at hl ⊢
  have hl : lv_has ls 3 [(0, .ref (ad 14)), (1, .int (nI k))] := hl
  refine W.genH (fun H locs eH eL => ?_)
  have hS : va_S A s.heap H locs := by rw [eH, eL]; exact va_S.rf
  have hP : va_P D vwCl (wKc ad cI cd te ri pi pw K Dn mv ko so tl lp lb ld le C cl dq dy) H := by rw [eH]; exact hP
  clear eH eL
  refine lv_aload_n hx hb dX2_replace_0 rfl (lv_at hl 0 rfl) ?_
  refine lv_iload_n hx hb dX2_replace_1 rfl (lv_at hl 1 rfl) ?_
  refine kc_rVv (As := [.int (nI k)]) (rest := []) ⟨hx, hb, hml, hown, hts⟩ (c_X2_needKey l D ad cI cd te ri pi pw K Dn mv ko so tl lp lb ld le C cl dq dy k hk hK8) (cwV 1 hts gX2_replace_X2_needKey rfl rfl rfl (by decide +kernel) ⟨Nat.le_of_ble_eq_true rfl, Nat.le_of_ble_eq_true rfl⟩) hK hP [0, 1, 2, 3, 4, 5, 6, 7, 8, 9, 10, 11, 12, 13, 14, 15, 16] [0] rfl rfl 14 rfl rfl rfl rfl hl.1 rfl (Nat.le_of_ble_eq_true rfl) dX2_replace_2 ⟨Nat.le_of_ble_eq_true rfl, Nat.le_of_ble_eq_true rfl⟩ ?_
  refine lv_aload_n hx hb dX2_replace_5 rfl (lv_at hl 0 rfl) ?_
  refine va_get (D := D) (ci := 2) (v := .ref (ad 0)) (C := RX2) (T := TX2) (N := 5) hx hb hts hinX2 hown hK.1 hP 14 rfl rfl 0 (by decide) hf16 (fun _ h9 => h9) rfl dX2_replace_6 ?_
  refine lv_iload_n hx hb dX2_replace_9 rfl (lv_at hl 1 rfl) ?_
  refine kc_wVi (w1 := wPl ad cI cd te ri pi (jWithout te ri K k pw Dn) K Dn mv) (wr := [(ad 6, .inr (0, [.ref (ad 7), .ref (ad 8), .ref (ad 9), .ref (ad 10), .ref (ad 11), .ref (ad 12), .ref (ad 13), .int (nI C)])), (ad 7, .inl (cI, 24, .inl ko)), (ad 8, .inl (cI, 24, .inl so)), (ad 9, .inl (cI, 24, .inl tl)), (ad 10, .inl (cI, 216, .inl lp)), (ad 11, .inl (cI, 216, .inl lb)), (ad 12, .inl (cI, 216, .inl ld)), (ad 13, .inl (cI, 216, .inl le)), (ad 14, .inr (2, [.ref (ad 0), .ref (ad 6), .ref (ad 15), .ref (ad 16), .int dy])), (ad 15, .inl (cI, 8, .inl cl)), (ad 16, .inl (cI, 8, .inl dq))]) (ws1 := wKc ad cI cd te ri pi (jWithout te ri K k pw Dn) K Dn mv ko so tl lp lb ld le C cl dq dy) (As := [.int (nI k)]) (rest := []) ⟨hx, hb, hml, hown, hts⟩ (c_X1_bestCodeFor l D ad cI cd te ri pi pw K Dn mv k H.size hK8 hD8 (by first | assumption | omega)) (cwV 1 hts gX2_replace_X1_bestCodeFor rfl rfl rfl (by decide +kernel) ⟨Nat.le_of_ble_eq_true rfl, Nat.le_of_ble_eq_true rfl⟩) hK hP hD hS hA [0, 1, 2, 3, 4, 5] [6, 7, 8, 9, 10, 11, 12, 13, 14, 15, 16] [11, 12, 13, 14, 15, 16, 0, 1, 2, 3, 4, 5, 6, 7, 8, 9, 10] [0] rfl rfl rfl rfl (by decide) rfl rfl rfl 0 rfl rfl rfl rfl hl.1 rfl (Nat.le_of_ble_eq_true rfl) dX2_replace_10 ⟨Nat.le_of_ble_eq_true rfl, Nat.le_of_ble_eq_true rfl⟩ (fun H locs hP hD hS => ?_)
  refine lv_istore_n (lv' := [(2, .int ((jBest cd te ri pi (jWithout te ri K k pw Dn) K Dn k 1024).1)), (0, .ref (ad 14)), (1, .int (nI k))]) hx hb dX2_replace_13 rfl hl (by decide) rfl (fun ls hl => ?_)
  refine lv_iload_n hx hb dX2_replace_14 rfl (lv_at hl 0 rfl) ?_
  refine lv_iconst (v := (-1)) hx hb dX2_replace_15 (by decide) ?_
  refine lv_icmp_ne (tgt := 21) hx hb dX2_replace_16 (by decide) (fun c_16 => ?_) (fun c_16 => ?_)
  · refine lv_aload_n hx hb dX2_replace_21 rfl (lv_at hl 1 rfl) ?_
    refine va_get (D := D) (ci := 2) (v := .ref (ad 0)) (C := RX2) (T := TX2) (N := 5) hx hb hts hinX2 hown hK.1 hP 14 rfl rfl 0 (by decide) hf16 (fun _ h9 => h9) rfl dX2_replace_22 ?_
    refine lv_iload_n hx hb dX2_replace_25 rfl (lv_at hl 2 rfl) ?_
    refine lv_iload_n hx hb dX2_replace_26 rfl (lv_at hl 0 rfl) ?_
    refine kc_wVv (w1 := wPl ad cI (upd cd k ((jBest cd te ri pi (jWithout te ri K k pw Dn) K Dn k 1024).1)) (upd te k (jTeeth ((jBest cd te ri pi (jWithout te ri K k pw Dn) K Dn k 1024).1) 5)) ri (jRepin (upd te k (jTeeth ((jBest cd te ri pi (jWithout te ri K k pw Dn) K Dn k 1024).1) 5)) ri K pi Dn) (jWithout te ri K k pw Dn) K Dn (jRework (upd te k (jTeeth ((jBest cd te ri pi (jWithout te ri K k pw Dn) K Dn k 1024).1) 5)) ri K pi mv Dn)) (wr := [(ad 6, .inr (0, [.ref (ad 7), .ref (ad 8), .ref (ad 9), .ref (ad 10), .ref (ad 11), .ref (ad 12), .ref (ad 13), .int (nI C)])), (ad 7, .inl (cI, 24, .inl ko)), (ad 8, .inl (cI, 24, .inl so)), (ad 9, .inl (cI, 24, .inl tl)), (ad 10, .inl (cI, 216, .inl lp)), (ad 11, .inl (cI, 216, .inl lb)), (ad 12, .inl (cI, 216, .inl ld)), (ad 13, .inl (cI, 216, .inl le)), (ad 14, .inr (2, [.ref (ad 0), .ref (ad 6), .ref (ad 15), .ref (ad 16), .int dy])), (ad 15, .inl (cI, 8, .inl cl)), (ad 16, .inl (cI, 8, .inl dq))]) (ws1 := wKc ad cI (upd cd k ((jBest cd te ri pi (jWithout te ri K k pw Dn) K Dn k 1024).1)) (upd te k (jTeeth ((jBest cd te ri pi (jWithout te ri K k pw Dn) K Dn k 1024).1) 5)) ri (jRepin (upd te k (jTeeth ((jBest cd te ri pi (jWithout te ri K k pw Dn) K Dn k 1024).1) 5)) ri K pi Dn) (jWithout te ri K k pw Dn) K Dn (jRework (upd te k (jTeeth ((jBest cd te ri pi (jWithout te ri K k pw Dn) K Dn k 1024).1) 5)) ri K pi mv Dn) ko so tl lp lb ld le C cl dq dy) (As := [.int (nI k), .int ((jBest cd te ri pi (jWithout te ri K k pw Dn) K Dn k 1024).1)]) (rest := []) ⟨hx, hb, hml, hown, hts⟩ (c_X1_giveCode l D ad cI cd te ri pi (jWithout te ri K k pw Dn) K Dn mv k ((jBest cd te ri pi (jWithout te ri K k pw Dn) K Dn k 1024).1) H.size hK8 hD8 (by first | assumption | omega)) (cwV 2 hts gX2_replace_X1_giveCode rfl rfl rfl (by decide +kernel) ⟨Nat.le_of_ble_eq_true rfl, Nat.le_of_ble_eq_true rfl⟩) hK hP hD hS hA [0, 1, 2, 3, 4, 5] [6, 7, 8, 9, 10, 11, 12, 13, 14, 15, 16] [11, 12, 13, 14, 15, 16, 0, 1, 2, 3, 4, 5, 6, 7, 8, 9, 10] [0] rfl rfl rfl rfl (by decide) rfl rfl rfl 0 rfl rfl rfl rfl hl.1 rfl (Nat.le_of_ble_eq_true rfl) dX2_replace_27 ⟨Nat.le_of_ble_eq_true rfl, Nat.le_of_ble_eq_true rfl⟩ (fun H locs hP hD hS => ?_)
    refine lv_aload_n hx hb dX2_replace_30 rfl (lv_at hl 1 rfl) ?_
    refine va_get (D := D) (ci := 2) (v := .ref (ad 6)) (C := RX2) (T := TX2) (N := 5) hx hb hts hinX2 hown hK.1 hP 14 rfl rfl 1 (by decide) hf23 (fun _ h9 => h9) rfl dX2_replace_31 ?_
    refine lv_iload_n hx hb dX2_replace_34 rfl (lv_at hl 2 rfl) ?_
    refine lv_aload_n hx hb dX2_replace_35 rfl (lv_at hl 1 rfl) ?_
    refine va_get (D := D) (ci := 2) (v := .int dy) (C := RX2) (T := TX2) (N := 5) hx hb hts hinX2 hown hK.1 hP 14 rfl rfl 4 (by decide) hf7 (fun _ h9 => h9) rfl dX2_replace_36 ?_
    refine kc_wVv (w1 := wLe ad cI ko (jVoidSo ko (nI k) so C) tl lp lb ld (jVoidEnd ko (nI k) so le tn dy C) C) (wr := [(ad 0, .inr (1, [.ref (ad 1), .ref (ad 2), .ref (ad 3), .ref (ad 4), .ref (ad 5), .int (nI K), .int (nI Dn), .int (jRework (upd te k (jTeeth ((jBest cd te ri pi (jWithout te ri K k pw Dn) K Dn k 1024).1) 5)) ri K pi mv Dn)])), (ad 1, .inl (cI, 8, .inl (upd cd k ((jBest cd te ri pi (jWithout te ri K k pw Dn) K Dn k 1024).1)))), (ad 2, .inl (cI, 8, .inl (upd te k (jTeeth ((jBest cd te ri pi (jWithout te ri K k pw Dn) K Dn k 1024).1) 5)))), (ad 3, .inl (cI, 8, .inl ri)), (ad 4, .inl (cI, 8, .inl (jRepin (upd te k (jTeeth ((jBest cd te ri pi (jWithout te ri K k pw Dn) K Dn k 1024).1) 5)) ri K pi Dn))), (ad 5, .inl (cI, 8, .inl (jWithout te ri K k pw Dn))), (ad 14, .inr (2, [.ref (ad 0), .ref (ad 6), .ref (ad 15), .ref (ad 16), .int dy])), (ad 15, .inl (cI, 8, .inl cl)), (ad 16, .inl (cI, 8, .inl dq))]) (ws1 := wKc ad cI (upd cd k ((jBest cd te ri pi (jWithout te ri K k pw Dn) K Dn k 1024).1)) (upd te k (jTeeth ((jBest cd te ri pi (jWithout te ri K k pw Dn) K Dn k 1024).1) 5)) ri (jRepin (upd te k (jTeeth ((jBest cd te ri pi (jWithout te ri K k pw Dn) K Dn k 1024).1) 5)) ri K pi Dn) (jWithout te ri K k pw Dn) K Dn (jRework (upd te k (jTeeth ((jBest cd te ri pi (jWithout te ri K k pw Dn) K Dn k 1024).1) 5)) ri K pi mv Dn) ko (jVoidSo ko (nI k) so C) tl lp lb ld (jVoidEnd ko (nI k) so le tn dy C) C cl dq dy) (As := [.int (nI k), .int dy]) (rest := []) ⟨hx, hb, hml, hown, hts⟩ (c_X0_voidCopiesOf l D ad cI ko so tl lp lb ld le C tn (nI k) dy H.size hC24 hok) (cwV 2 hts gX2_replace_X0_voidCopiesOf rfl rfl rfl (by decide +kernel) ⟨Nat.le_of_ble_eq_true rfl, Nat.le_of_ble_eq_true rfl⟩) hK hP hD hS hA [6, 7, 8, 9, 10, 11, 12, 13] [0, 1, 2, 3, 4, 5, 14, 15, 16] [0, 1, 2, 3, 4, 5, 9, 10, 11, 12, 13, 14, 15, 16, 6, 7, 8] [0] rfl rfl rfl rfl (by decide) rfl rfl rfl 6 rfl rfl rfl rfl hl.1 rfl (Nat.le_of_ble_eq_true rfl) dX2_replace_39 ⟨Nat.le_of_ble_eq_true rfl, Nat.le_of_ble_eq_true rfl⟩ (fun H locs hP hD hS => ?_)
    refine lv_iload_n hx hb dX2_replace_42 rfl (lv_at hl 0 rfl) ?_
    have eqw_cd : upd cd k (jBest cd te ri pi (jWithout te ri K k pw Dn) K Dn k 1024).1 = upd cd k ((jBest cd te ri pi (jWithout te ri K k pw Dn) K Dn k 1024).1) := by simp only [if_neg c_16]
    have eqw_te : upd te k (jTeeth (jBest cd te ri pi (jWithout te ri K k pw Dn) K Dn k 1024).1 5) = upd te k (jTeeth ((jBest cd te ri pi (jWithout te ri K k pw Dn) K Dn k 1024).1) 5) := by simp only [if_neg c_16]
    have eqw_pi : jRepin (upd te k (jTeeth (jBest cd te ri pi (jWithout te ri K k pw Dn) K Dn k 1024).1 5)) ri K pi Dn = jRepin (upd te k (jTeeth ((jBest cd te ri pi (jWithout te ri K k pw Dn) K Dn k 1024).1) 5)) ri K pi Dn := by simp only [if_neg c_16]
    have eqw_mv : jRework (upd te k (jTeeth (jBest cd te ri pi (jWithout te ri K k pw Dn) K Dn k 1024).1 5)) ri K pi mv Dn = jRework (upd te k (jTeeth ((jBest cd te ri pi (jWithout te ri K k pw Dn) K Dn k 1024).1) 5)) ri K pi mv Dn := by simp only [if_neg c_16]
    have hP : va_P D vwCl (wKc ad cI (upd cd k (jBest cd te ri pi (jWithout te ri K k pw Dn) K Dn k 1024).1) (upd te k (jTeeth (jBest cd te ri pi (jWithout te ri K k pw Dn) K Dn k 1024).1 5)) ri (jRepin (upd te k (jTeeth (jBest cd te ri pi (jWithout te ri K k pw Dn) K Dn k 1024).1 5)) ri K pi Dn) (jWithout te ri K k pw Dn) K Dn (jRework (upd te k (jTeeth (jBest cd te ri pi (jWithout te ri K k pw Dn) K Dn k 1024).1 5)) ri K pi mv Dn) ko (jVoidSo ko (nI k) so C) tl lp lb ld (jVoidEnd ko (nI k) so le tn dy C) C cl dq dy) H := by rw [eqw_cd, eqw_te, eqw_pi, eqw_mv]; exact hP
    have hD : va_D A (wKc ad cI (upd cd k (jBest cd te ri pi (jWithout te ri K k pw Dn) K Dn k 1024).1) (upd te k (jTeeth (jBest cd te ri pi (jWithout te ri K k pw Dn) K Dn k 1024).1 5)) ri (jRepin (upd te k (jTeeth (jBest cd te ri pi (jWithout te ri K k pw Dn) K Dn k 1024).1 5)) ri K pi Dn) (jWithout te ri K k pw Dn) K Dn (jRework (upd te k (jTeeth (jBest cd te ri pi (jWithout te ri K k pw Dn) K Dn k 1024).1 5)) ri K pi mv Dn) ko (jVoidSo ko (nI k) so C) tl lp lb ld (jVoidEnd ko (nI k) so le tn dy C) C cl dq dy) := by rw [eqw_cd, eqw_te, eqw_pi, eqw_mv]; exact hD
    exact W.iret (v := (jBest cd te ri pi (jWithout te ri K k pw Dn) K Dn k 1024).1) hx hb hr (fun tZ htZ hWZ => ⟨⟨_, (), rfl, rfl, by rw [htZ]; exact hP, by rw [hAe]; exact hD⟩, hS.F htZ⟩) hS.2.2 dX2_replace_43
  · exact absurd c_16 hne
set_option maxHeartbeats 4000000 in
set_option maxRecDepth 100000 in
theorem c_X2_cut_ok (l : Launch) (D : va_G) (ad : Nat → Nat) (cI : ClassId) (cd : Nat → Int32) (te : Nat → Int32) (ri : Nat → Int32) (pi : Nat → Int32) (pw : Nat → Int32) (K : Nat) (Dn : Nat) (mv : Int32) (ko : Nat → Int32) (so : Nat → Int32) (tl : Nat → Int32) (lp : Nat → Int32) (lb : Nat → Int32) (ld : Nat → Int32) (le : Nat → Int32) (C : Nat) (cl : Nat → Int32) (dq : Nat → Int32) (dy : Int32) (k : Nat) (sz : Nat) (hK8 : K ≤ 8) (hk : k < K) (hC23 : C < 24) : Met l yX2_cut wsX2_cut ({ frames := 1, cells := 0, slots := 0, locals := 22 } : Room) (wrP [.ref (ad 14), .int (nI k)] D sz (wKc ad cI cd te ri pi pw K Dn mv ko so tl lp lb ld le C cl dq dy) [(cI, .int)]) (va_Qi (fun rZ (_ : Unit) => rZ = nI C) (wrB D sz (wKc ad cI cd te ri pi pw K Dn mv ko so tl lp lb ld le C cl dq dy) (wKc ad cI cd te ri pi pw K Dn mv (upd ko C (nI k)) (upd so C 0) tl lp lb ld le (C + 1) cl dq dy)) (va_A (wKc ad cI cd te ri pi pw K Dn mv ko so tl lp lb ld le C cl dq dy) sz)) 0 0 (va_A (wKc ad cI cd te ri pi pw K Dn mv ko so tl lp lb ld le C cl dq dy) sz) := by
  refine Met.ofW (cc := cX2_cut) (maxL := 2) (ret := (some .int)) (by decide) rfl ?_
  intro p e s m args below meth c s₁ B hml hv
  obtain ⟨rfl, hsz, hP, hD0, hK⟩ := hv
  have hx := B.exec
  have hb := B.bytes
  have hr := B.returns
  have hts := atoms_spec (ws := wsX2_cut) B.pre
  have hown : s.vm.findClass RX2 = some m.cls := findClass_of_methodNamed B.named
  have hlocks := B.notSynchronized
  subst hsz
  have hD := hD0.self (sz := s.heap.size)
  generalize hAe : va_A (wKc ad cI cd te ri pi pw K Dn mv ko so tl lp lb ld le C cl dq dy) s.heap.size = A at hD ⊢
  have hA : ∀ q : Nat, s.heap.size ≤ q → A q := fun q h => by rw [← hAe]; exact Or.inr h
  have hinX0 : ∀ w ∈ u_ws RX0 TX0 8, w ∈ wsX2_cut := by decide +kernel
  have hinX2 : ∀ w ∈ u_ws RX2 TX2 5, w ∈ wsX2_cut := by decide +kernel
  have hf23 := hts (.fieldLink RX2 23 "KeyCabinet" "ledger" "LKeyCabinet$Ledger;") (by decide +kernel)
  have hf128 := hts (.fieldLink RX2 128 "KeyCabinet$Ledger" "copies" "I") (by decide +kernel)
  have hl := lv_entry ([.ref (ad 14), .int (nI k)]) (n := 2) (Nat.le_of_ble_eq_true rfl)
  rw [lg_entry_eq]
  generalize (lg_sl ([.ref (ad 14), .int (nI k)]) ++ List.replicate (2 - (lg_sl ([.ref (ad 14), .int (nI k)])).length) Slot.unset).toArray = ls at hl ⊢
  have hl : lv_has ls 2 [(0, .ref (ad 14)), (1, .int (nI k))] := hl
  refine W.genH (fun H locs eH eL => ?_)
  have hS : va_S A s.heap H locs := by rw [eH, eL]; exact va_S.rf
  have hP : va_P D vwCl (wKc ad cI cd te ri pi pw K Dn mv ko so tl lp lb ld le C cl dq dy) H := by rw [eH]; exact hP
  clear eH eL
  refine lv_aload_n hx hb dX2_cut_0 rfl (lv_at hl 0 rfl) ?_
  refine lv_iload_n hx hb dX2_cut_1 rfl (lv_at hl 1 rfl) ?_
  refine kc_rVv (As := [.int (nI k)]) (rest := []) ⟨hx, hb, hml, hown, hts⟩ (c_X2_needKey l D ad cI cd te ri pi pw K Dn mv ko so tl lp lb ld le C cl dq dy k hk hK8) (cwV 1 hts gX2_cut_X2_needKey rfl rfl rfl (by decide +kernel) ⟨Nat.le_of_ble_eq_true rfl, Nat.le_of_ble_eq_true rfl⟩) hK hP [0, 1, 2, 3, 4, 5, 6, 7, 8, 9, 10, 11, 12, 13, 14, 15, 16] [0] rfl rfl 14 rfl rfl rfl rfl hl.1 rfl (Nat.le_of_ble_eq_true rfl) dX2_cut_2 ⟨Nat.le_of_ble_eq_true rfl, Nat.le_of_ble_eq_true rfl⟩ ?_
  refine lv_aload_n hx hb dX2_cut_5 rfl (lv_at hl 0 rfl) ?_
  refine va_get (D := D) (ci := 2) (v := .ref (ad 6)) (C := RX2) (T := TX2) (N := 5) hx hb hts hinX2 hown hK.1 hP 14 rfl rfl 1 (by decide) hf23 (fun _ h9 => h9) rfl dX2_cut_6 ?_
  refine va_get (D := D) (ci := 0) (v := .int (nI C)) (C := RX0) (T := TX0) (N := 8) hx hb hts hinX0 hown hK.1 hP 6 rfl rfl 7 (by decide) hf128 (fun _ h9 => h9) rfl dX2_cut_9 ?_
  refine lv_bipush (v := 24) hx hb dX2_cut_12 (by decide) ?_
  refine lv_icmp_lt (tgt := 27) hx hb dX2_cut_14 (by decide) (fun c_14 => ?_) (fun c_14 => ?_)
  · refine lv_aload_n hx hb dX2_cut_27 rfl (lv_at hl 0 rfl) ?_
    refine va_get (D := D) (ci := 2) (v := .ref (ad 6)) (C := RX2) (T := TX2) (N := 5) hx hb hts hinX2 hown hK.1 hP 14 rfl rfl 1 (by decide) hf23 (fun _ h9 => h9) rfl dX2_cut_28 ?_
    refine lv_iload_n hx hb dX2_cut_31 rfl (lv_at hl 1 rfl) ?_
    refine kc_wVi (w1 := wLe ad cI (upd ko C (nI k)) (upd so C 0) tl lp lb ld le (C + 1)) (wr := [(ad 0, .inr (1, [.ref (ad 1), .ref (ad 2), .ref (ad 3), .ref (ad 4), .ref (ad 5), .int (nI K), .int (nI Dn), .int mv])), (ad 1, .inl (cI, 8, .inl cd)), (ad 2, .inl (cI, 8, .inl te)), (ad 3, .inl (cI, 8, .inl ri)), (ad 4, .inl (cI, 8, .inl pi)), (ad 5, .inl (cI, 8, .inl pw)), (ad 14, .inr (2, [.ref (ad 0), .ref (ad 6), .ref (ad 15), .ref (ad 16), .int dy])), (ad 15, .inl (cI, 8, .inl cl)), (ad 16, .inl (cI, 8, .inl dq))]) (ws1 := wKc ad cI cd te ri pi pw K Dn mv (upd ko C (nI k)) (upd so C 0) tl lp lb ld le (C + 1) cl dq dy) (As := [.int (nI k)]) (rest := []) ⟨hx, hb, hml, hown, hts⟩ (c_X0_takeCopy l D ad cI ko so tl lp lb ld le C (nI k) H.size hC23) (cwV 1 hts gX2_cut_X0_takeCopy rfl rfl rfl (by decide +kernel) ⟨Nat.le_of_ble_eq_true rfl, Nat.le_of_ble_eq_true rfl⟩) hK hP hD hS hA [6, 7, 8, 9, 10, 11, 12, 13] [0, 1, 2, 3, 4, 5, 14, 15, 16] [0, 1, 2, 3, 4, 5, 9, 10, 11, 12, 13, 14, 15, 16, 6, 7, 8] [0] rfl rfl rfl rfl (by decide) rfl rfl rfl 6 rfl rfl rfl rfl hl.1 rfl (Nat.le_of_ble_eq_true rfl) dX2_cut_32 ⟨Nat.le_of_ble_eq_true rfl, Nat.le_of_ble_eq_true rfl⟩ (fun H locs hP hD hS => ?_)
    exact W.iret (v := nI C) hx hb hr (fun tZ htZ hWZ => ⟨⟨_, (), rfl, rfl, by rw [htZ]; exact hP, by rw [hAe]; exact hD⟩, hS.F htZ⟩) hS.2.2 dX2_cut_35
  · exact absurd (nI_lt (b := 24) hC23 (by omega)) c_14
set_option maxHeartbeats 4000000 in
set_option maxRecDepth 100000 in
theorem c_X2_lend_ok (l : Launch) (D : va_G) (ad : Nat → Nat) (cI : ClassId) (cd : Nat → Int32) (te : Nat → Int32) (ri : Nat → Int32) (pi : Nat → Int32) (pw : Nat → Int32) (K : Nat) (Dn : Nat) (mv : Int32) (ko : Nat → Int32) (so : Nat → Int32) (tl : Nat → Int32) (lp : Nat → Int32) (lb : Nat → Int32) (ld : Nat → Int32) (le : Nat → Int32) (C : Nat) (cl : Nat → Int32) (dq : Nat → Int32) (dy : Int32) (cx : Nat) (pe : Int32) (dz : Int32) (tn : Nat → Nat) (sz : Nat) (hC24 : C ≤ 24) (hc : cx < C) (hp : jIn 8 pe = true) (hz1 : ¬ dz < 1) (hz2 : dz ≤ 99) (hcan : jCan so tl cx = true) (ht : tl cx = nI (tn cx)) (ht8 : tn cx < 9) : Met l yX2_lend wsX2_lend ({ frames := 2, cells := 0, slots := 0, locals := 46 } : Room) (wrP [.ref (ad 14), .int (nI cx), .int pe, .int dz] D sz (wKc ad cI cd te ri pi pw K Dn mv ko so tl lp lb ld le C cl dq dy) [(cI, .int)]) (va_Qi (fun rZ (_ : Unit) => rZ = dy + dz) (wrB D sz (wKc ad cI cd te ri pi pw K Dn mv ko so tl lp lb ld le C cl dq dy) (wKc ad cI cd te ri pi pw K Dn mv ko (upd so cx 1) (upd tl cx (nI (tn cx + 1))) (upd lp (cx * 9 + tn cx) pe) (upd lb (cx * 9 + tn cx) dy) (upd ld (cx * 9 + tn cx) (dy + dz)) (upd le (cx * 9 + tn cx) 10000) C cl dq dy)) (va_A (wKc ad cI cd te ri pi pw K Dn mv ko so tl lp lb ld le C cl dq dy) sz)) 0 0 (va_A (wKc ad cI cd te ri pi pw K Dn mv ko so tl lp lb ld le C cl dq dy) sz) := by
  refine Met.ofW (cc := cX2_lend) (maxL := 5) (ret := (some .int)) (by decide) rfl ?_
  intro p e s m args below meth c s₁ B hml hv
  obtain ⟨rfl, hsz, hP, hD0, hK⟩ := hv
  have hx := B.exec
  have hb := B.bytes
  have hr := B.returns
  have hts := atoms_spec (ws := wsX2_lend) B.pre
  have hown : s.vm.findClass RX2 = some m.cls := findClass_of_methodNamed B.named
  have hlocks := B.notSynchronized
  subst hsz
  have hD := hD0.self (sz := s.heap.size)
  generalize hAe : va_A (wKc ad cI cd te ri pi pw K Dn mv ko so tl lp lb ld le C cl dq dy) s.heap.size = A at hD ⊢
  have hA : ∀ q : Nat, s.heap.size ≤ q → A q := fun q h => by rw [← hAe]; exact Or.inr h
  have hinX2 : ∀ w ∈ u_ws RX2 TX2 5, w ∈ wsX2_lend := by decide +kernel
  have hf23 := hts (.fieldLink RX2 23 "KeyCabinet" "ledger" "LKeyCabinet$Ledger;") (by decide +kernel)
  have hf7 := hts (.fieldLink RX2 7 "KeyCabinet" "day" "I") (by decide +kernel)
  have hl := lv_entry ([.ref (ad 14), .int (nI cx), .int pe, .int dz]) (n := 5) (Nat.le_of_ble_eq_true rfl)
  rw [lg_entry_eq]
  generalize (lg_sl ([.ref (ad 14), .int (nI cx), .int pe, .int dz]) ++ List.replicate (5 - (lg_sl ([.ref (ad 14), .int (nI cx), .int pe, .int dz])).length) Slot.unset).toArray = ls at hl ⊢
  have hl : lv_has ls 5 [(0, .ref (ad 14)), (1, .int (nI cx)), (2, .int pe), (3, .int dz)] := hl
  refine W.genH (fun H locs eH eL => ?_)
  have hS : va_S A s.heap H locs := by rw [eH, eL]; exact va_S.rf
  have hP : va_P D vwCl (wKc ad cI cd te ri pi pw K Dn mv ko so tl lp lb ld le C cl dq dy) H := by rw [eH]; exact hP
  clear eH eL
  refine lv_aload_n hx hb dX2_lend_0 rfl (lv_at hl 0 rfl) ?_
  refine lv_iload_n hx hb dX2_lend_1 rfl (lv_at hl 1 rfl) ?_
  refine kc_rVv (As := [.int (nI cx)]) (rest := []) ⟨hx, hb, hml, hown, hts⟩ (c_X2_needCopy l D ad cI cd te ri pi pw K Dn mv ko so tl lp lb ld le C cl dq dy cx hc hC24) (cwV 1 hts gX2_lend_X2_needCopy rfl rfl rfl (by decide +kernel) ⟨Nat.le_of_ble_eq_true rfl, Nat.le_of_ble_eq_true rfl⟩) hK hP [0, 1, 2, 3, 4, 5, 6, 7, 8, 9, 10, 11, 12, 13, 14, 15, 16] [0] rfl rfl 14 rfl rfl rfl rfl hl.1 rfl (Nat.le_of_ble_eq_true rfl) dX2_lend_2 ⟨Nat.le_of_ble_eq_true rfl, Nat.le_of_ble_eq_true rfl⟩ ?_
  refine lv_aload_n hx hb dX2_lend_5 rfl (lv_at hl 0 rfl) ?_
  refine lv_iload_n hx hb dX2_lend_6 rfl (lv_at hl 2 rfl) ?_
  refine kc_rVv (As := [.int pe]) (rest := []) ⟨hx, hb, hml, hown, hts⟩ (c_X2_needPerson l D ad cI cd te ri pi pw K Dn mv ko so tl lp lb ld le C cl dq dy pe hp) (cwV 1 hts gX2_lend_X2_needPerson rfl rfl rfl (by decide +kernel) ⟨Nat.le_of_ble_eq_true rfl, Nat.le_of_ble_eq_true rfl⟩) hK hP [0, 1, 2, 3, 4, 5, 6, 7, 8, 9, 10, 11, 12, 13, 14, 15, 16] [0] rfl rfl 14 rfl rfl rfl rfl hl.1 rfl (Nat.le_of_ble_eq_true rfl) dX2_lend_7 ⟨Nat.le_of_ble_eq_true rfl, Nat.le_of_ble_eq_true rfl⟩ ?_
  refine lv_aload_n hx hb dX2_lend_10 rfl (lv_at hl 0 rfl) ?_
  refine lv_iload_n hx hb dX2_lend_11 rfl (lv_at hl 3 rfl) ?_
  refine kc_rVv (As := [.int dz]) (rest := []) ⟨hx, hb, hml, hown, hts⟩ (c_X2_needDays l D ad cI cd te ri pi pw K Dn mv ko so tl lp lb ld le C cl dq dy dz hz1 hz2) (cwV 1 hts gX2_lend_X2_needDays rfl rfl rfl (by decide +kernel) ⟨Nat.le_of_ble_eq_true rfl, Nat.le_of_ble_eq_true rfl⟩) hK hP [0, 1, 2, 3, 4, 5, 6, 7, 8, 9, 10, 11, 12, 13, 14, 15, 16] [0] rfl rfl 14 rfl rfl rfl rfl hl.1 rfl (Nat.le_of_ble_eq_true rfl) dX2_lend_12 ⟨Nat.le_of_ble_eq_true rfl, Nat.le_of_ble_eq_true rfl⟩ ?_
  refine lv_aload_n hx hb dX2_lend_15 rfl (lv_at hl 0 rfl) ?_
  refine va_get (D := D) (ci := 2) (v := .ref (ad 6)) (C := RX2) (T := TX2) (N := 5) hx hb hts hinX2 hown hK.1 hP 14 rfl rfl 1 (by decide) hf23 (fun _ h9 => h9) rfl dX2_lend_16 ?_
  refine lv_iload_n hx hb dX2_lend_19 rfl (lv_at hl 1 rfl) ?_
  refine kc_rVi (As := [.int (nI cx)]) (rest := []) ⟨hx, hb, hml, hown, hts⟩ (c_X0_canBeLent l D ad cI ko so tl lp lb ld le C cx (by first | assumption | omega)) (cwV 1 hts gX2_lend_X0_canBeLent rfl rfl rfl (by decide +kernel) ⟨Nat.le_of_ble_eq_true rfl, Nat.le_of_ble_eq_true rfl⟩) hK hP [6, 7, 8, 9, 10, 11, 12, 13] [0] rfl rfl 6 rfl rfl rfl rfl hl.1 rfl (Nat.le_of_ble_eq_true rfl) dX2_lend_20 ⟨Nat.le_of_ble_eq_true rfl, Nat.le_of_ble_eq_true rfl⟩ ?_
  refine kc_ifneB (tgt := 36) hx hb dX2_lend_23 (by decide) (fun c_23 => ?_) (fun c_23 => ?_)
  · refine lv_aload_n hx hb dX2_lend_36 rfl (lv_at hl 0 rfl) ?_
    refine va_get (D := D) (ci := 2) (v := .int dy) (C := RX2) (T := TX2) (N := 5) hx hb hts hinX2 hown hK.1 hP 14 rfl rfl 4 (by decide) hf7 (fun _ h9 => h9) rfl dX2_lend_37 ?_
    refine lv_iload_n hx hb dX2_lend_40 rfl (lv_at hl 3 rfl) ?_
    refine lv_iadd hx hb dX2_lend_41 ?_
    refine lv_istore (lv' := [(4, .int (dy + dz)), (0, .ref (ad 14)), (1, .int (nI cx)), (2, .int pe), (3, .int dz)]) hx hb dX2_lend_42 hl (by decide) rfl (fun ls hl => ?_)
    refine lv_aload_n hx hb dX2_lend_44 rfl (lv_at hl 1 rfl) ?_
    refine va_get (D := D) (ci := 2) (v := .ref (ad 6)) (C := RX2) (T := TX2) (N := 5) hx hb hts hinX2 hown hK.1 hP 14 rfl rfl 1 (by decide) hf23 (fun _ h9 => h9) rfl dX2_lend_45 ?_
    refine lv_iload_n hx hb dX2_lend_48 rfl (lv_at hl 2 rfl) ?_
    refine lv_iload_n hx hb dX2_lend_49 rfl (lv_at hl 3 rfl) ?_
    refine lv_aload_n hx hb dX2_lend_50 rfl (lv_at hl 1 rfl) ?_
    refine va_get (D := D) (ci := 2) (v := .int dy) (C := RX2) (T := TX2) (N := 5) hx hb hts hinX2 hown hK.1 hP 14 rfl rfl 4 (by decide) hf7 (fun _ h9 => h9) rfl dX2_lend_51 ?_
    refine lv_iload hx hb dX2_lend_54 (lv_at hl 0 rfl) ?_
    refine kc_wVv (w1 := wLe ad cI ko (upd so cx 1) (upd tl cx (nI (tn cx + 1))) (upd lp (cx * 9 + tn cx) pe) (upd lb (cx * 9 + tn cx) dy) (upd ld (cx * 9 + tn cx) (dy + dz)) (upd le (cx * 9 + tn cx) 10000) C) (wr := [(ad 0, .inr (1, [.ref (ad 1), .ref (ad 2), .ref (ad 3), .ref (ad 4), .ref (ad 5), .int (nI K), .int (nI Dn), .int mv])), (ad 1, .inl (cI, 8, .inl cd)), (ad 2, .inl (cI, 8, .inl te)), (ad 3, .inl (cI, 8, .inl ri)), (ad 4, .inl (cI, 8, .inl pi)), (ad 5, .inl (cI, 8, .inl pw)), (ad 14, .inr (2, [.ref (ad 0), .ref (ad 6), .ref (ad 15), .ref (ad 16), .int dy])), (ad 15, .inl (cI, 8, .inl cl)), (ad 16, .inl (cI, 8, .inl dq))]) (ws1 := wKc ad cI cd te ri pi pw K Dn mv ko (upd so cx 1) (upd tl cx (nI (tn cx + 1))) (upd lp (cx * 9 + tn cx) pe) (upd lb (cx * 9 + tn cx) dy) (upd ld (cx * 9 + tn cx) (dy + dz)) (upd le (cx * 9 + tn cx) 10000) C cl dq dy) (As := [.int (nI cx), .int pe, .int dy, .int (dy + dz)]) (rest := []) ⟨hx, hb, hml, hown, hts⟩ (c_X0_startLoan l D ad cI ko so tl lp lb ld le C tn cx pe dy (dy + dz) H.size (by first | assumption | omega) ht ht8) (cwV 4 hts gX2_lend_X0_startLoan rfl rfl rfl (by decide +kernel) ⟨Nat.le_of_ble_eq_true rfl, Nat.le_of_ble_eq_true rfl⟩) hK hP hD hS hA [6, 7, 8, 9, 10, 11, 12, 13] [0, 1, 2, 3, 4, 5, 14, 15, 16] [0, 1, 2, 3, 4, 5, 9, 10, 11, 12, 13, 14, 15, 16, 6, 7, 8] [0] rfl rfl rfl rfl (by decide) rfl rfl rfl 6 rfl rfl rfl rfl hl.1 rfl (Nat.le_of_ble_eq_true rfl) dX2_lend_56 ⟨Nat.le_of_ble_eq_true rfl, Nat.le_of_ble_eq_true rfl⟩ (fun H locs hP hD hS => ?_)
    refine lv_iload hx hb dX2_lend_59 (lv_at hl 0 rfl) ?_
    exact W.iret (v := dy + dz) hx hb hr (fun tZ htZ hWZ => ⟨⟨_, (), rfl, rfl, by rw [htZ]; exact hP, by rw [hAe]; exact hD⟩, hS.F htZ⟩) hS.2.2 dX2_lend_61
  · exact absurd hcan c_23
set_option maxHeartbeats 4000000 in
set_option maxRecDepth 100000 in
theorem c_X2_giveBack_ok (l : Launch) (D : va_G) (ad : Nat → Nat) (cI : ClassId) (cd : Nat → Int32) (te : Nat → Int32) (ri : Nat → Int32) (pi : Nat → Int32) (pw : Nat → Int32) (K : Nat) (Dn : Nat) (mv : Int32) (ko : Nat → Int32) (so : Nat → Int32) (tl : Nat → Int32) (lp : Nat → Int32) (lb : Nat → Int32) (ld : Nat → Int32) (le : Nat → Int32) (C : Nat) (cl : Nat → Int32) (dq : Nat → Int32) (dy : Int32) (cx : Nat) (tn : Nat → Nat) (sz : Nat) (hC24 : C ≤ 24) (hc : cx < C) (hok : okLe so tl tn) (h1 : so cx = 1) : Met l yX2_giveBack wsX2_giveBack ({ frames := 2, cells := 0, slots := 0, locals := 44 } : Room) (wrP [.ref (ad 14), .int (nI cx)] D sz (wKc ad cI cd te ri pi pw K Dn mv ko so tl lp lb ld le C cl dq dy) [(cI, .int)]) (va_Qi (fun rZ (_ : Unit) => rZ = if 0 < dy - jDue so ld tn cx then dy - jDue so ld tn cx else 0) (wrB D sz (wKc ad cI cd te ri pi pw K Dn mv ko so tl lp lb ld le C cl dq dy) (wKc ad cI cd te ri pi pw K Dn mv ko (upd so cx 0) tl lp lb ld (jMoveEnd so le tn cx dy) C cl dq dy)) (va_A (wKc ad cI cd te ri pi pw K Dn mv ko so tl lp lb ld le C cl dq dy) sz)) 0 0 (va_A (wKc ad cI cd te ri pi pw K Dn mv ko so tl lp lb ld le C cl dq dy) sz) := by
  refine Met.ofW (cc := cX2_giveBack) (maxL := 3) (ret := (some .int)) (by decide) rfl ?_
  intro p e s m args below meth c s₁ B hml hv
  obtain ⟨rfl, hsz, hP, hD0, hK⟩ := hv
  have hx := B.exec
  have hb := B.bytes
  have hr := B.returns
  have hts := atoms_spec (ws := wsX2_giveBack) B.pre
  have hown : s.vm.findClass RX2 = some m.cls := findClass_of_methodNamed B.named
  have hlocks := B.notSynchronized
  subst hsz
  have hD := hD0.self (sz := s.heap.size)
  generalize hAe : va_A (wKc ad cI cd te ri pi pw K Dn mv ko so tl lp lb ld le C cl dq dy) s.heap.size = A at hD ⊢
  have hA : ∀ q : Nat, s.heap.size ≤ q → A q := fun q h => by rw [← hAe]; exact Or.inr h
  have hinX0 : ∀ w ∈ u_ws RX0 TX0 8, w ∈ wsX2_giveBack := by decide +kernel
  have hinX2 : ∀ w ∈ u_ws RX2 TX2 5, w ∈ wsX2_giveBack := by decide +kernel
  have hf23 := hts (.fieldLink RX2 23 "KeyCabinet" "ledger" "LKeyCabinet$Ledger;") (by decide +kernel)
  have hf154 := hts (.fieldLink RX2 154 "KeyCabinet$Ledger" "stateOf" "[I") (by decide +kernel)
  have hf7 := hts (.fieldLink RX2 7 "KeyCabinet" "day" "I") (by decide +kernel)
  have hl := lv_entry ([.ref (ad 14), .int (nI cx)]) (n := 3) (Nat.le_of_ble_eq_true rfl)
  rw [lg_entry_eq]
  generalize (lg_sl ([.ref (ad 14), .int (nI cx)]) ++ List.replicate (3 - (lg_sl ([.ref (ad 14), .int (nI cx)])).length) Slot.unset).toArray = ls at hl ⊢
  have hl : lv_has ls 3 [(0, .ref (ad 14)), (1, .int (nI cx))] := hl
  refine W.genH (fun H locs eH eL => ?_)
  have hS : va_S A s.heap H locs := by rw [eH, eL]; exact va_S.rf
  have hP : va_P D vwCl (wKc ad cI cd te ri pi pw K Dn mv ko so tl lp lb ld le C cl dq dy) H := by rw [eH]; exact hP
  clear eH eL
  refine lv_aload_n hx hb dX2_giveBack_0 rfl (lv_at hl 0 rfl) ?_
  refine lv_iload_n hx hb dX2_giveBack_1 rfl (lv_at hl 1 rfl) ?_
  refine kc_rVv (As := [.int (nI cx)]) (rest := []) ⟨hx, hb, hml, hown, hts⟩ (c_X2_needCopy l D ad cI cd te ri pi pw K Dn mv ko so tl lp lb ld le C cl dq dy cx hc hC24) (cwV 1 hts gX2_giveBack_X2_needCopy rfl rfl rfl (by decide +kernel) ⟨Nat.le_of_ble_eq_true rfl, Nat.le_of_ble_eq_true rfl⟩) hK hP [0, 1, 2, 3, 4, 5, 6, 7, 8, 9, 10, 11, 12, 13, 14, 15, 16] [0] rfl rfl 14 rfl rfl rfl rfl hl.1 rfl (Nat.le_of_ble_eq_true rfl) dX2_giveBack_2 ⟨Nat.le_of_ble_eq_true rfl, Nat.le_of_ble_eq_true rfl⟩ ?_
  refine lv_aload_n hx hb dX2_giveBack_5 rfl (lv_at hl 0 rfl) ?_
  refine va_get (D := D) (ci := 2) (v := .ref (ad 6)) (C := RX2) (T := TX2) (N := 5) hx hb hts hinX2 hown hK.1 hP 14 rfl rfl 1 (by decide) hf23 (fun _ h9 => h9) rfl dX2_giveBack_6 ?_
  refine va_get (D := D) (ci := 0) (v := .ref (ad 8)) (C := RX0) (T := TX0) (N := 8) hx hb hts hinX0 hown hK.1 hP 6 rfl rfl 1 (by decide) hf154 (fun _ h9 => h9) rfl dX2_giveBack_9 ?_
  refine lv_iload_n hx hb dX2_giveBack_12 rfl (lv_at hl 1 rfl) ?_
  refine kc_ald (i := cx) (n := 24) hx hb hK hP 8 0 rfl rfl (by omega) (by decide) dX2_giveBack_13 ?_
  refine lv_iconst (v := 1) hx hb dX2_giveBack_14 (by decide) ?_
  refine lv_icmp_eq (tgt := 28) hx hb dX2_giveBack_15 (by decide) (fun c_15 => ?_) (fun c_15 => ?_)
  · refine lv_iconst (v := 0) hx hb dX2_giveBack_28 (by decide) ?_
    refine lv_aload_n hx hb dX2_giveBack_29 rfl (lv_at hl 0 rfl) ?_
    refine va_get (D := D) (ci := 2) (v := .int dy) (C := RX2) (T := TX2) (N := 5) hx hb hts hinX2 hown hK.1 hP 14 rfl rfl 4 (by decide) hf7 (fun _ h9 => h9) rfl dX2_giveBack_30 ?_
    refine lv_aload_n hx hb dX2_giveBack_33 rfl (lv_at hl 0 rfl) ?_
    refine va_get (D := D) (ci := 2) (v := .ref (ad 6)) (C := RX2) (T := TX2) (N := 5) hx hb hts hinX2 hown hK.1 hP 14 rfl rfl 1 (by decide) hf23 (fun _ h9 => h9) rfl dX2_giveBack_34 ?_
    refine lv_iload_n hx hb dX2_giveBack_37 rfl (lv_at hl 1 rfl) ?_
    refine kc_rVi (As := [.int (nI cx)]) (rest := [.int dy, .int 0]) ⟨hx, hb, hml, hown, hts⟩ (c_X0_dueOf l D ad cI ko so tl lp lb ld le C tn cx (by first | assumption | omega) hok) (cwV 1 hts gX2_giveBack_X0_dueOf rfl rfl rfl (by decide +kernel) ⟨Nat.le_of_ble_eq_true rfl, Nat.le_of_ble_eq_true rfl⟩) hK hP [6, 7, 8, 9, 10, 11, 12, 13] [0] rfl rfl 6 rfl rfl rfl rfl hl.1 rfl (Nat.le_of_ble_eq_true rfl) dX2_giveBack_38 ⟨Nat.le_of_ble_eq_true rfl, Nat.le_of_ble_eq_true rfl⟩ ?_
    refine lv_isub hx hb dX2_giveBack_41 ?_
    refine va_mmax hx hb (hml.trans hl.1.symm) hown (hts (.methodLink RX2 162 Lib.Math.max.name) (by decide +kernel)) (hts (.static Lib.Math.max.name) (by decide +kernel)) (hts (.initialized "java/lang/Math") (by decide +kernel)) (hts (.code Lib.Math.max.name Lib.Math.max.code 2 (some .int)) (by decide +kernel)) (Nat.le_of_ble_eq_true rfl) (Nat.le_of_ble_eq_true rfl) (Nat.le_of_ble_eq_true rfl) (Nat.le_of_ble_eq_true rfl) dX2_giveBack_42 ?_
    refine lv_istore_n (lv' := [(2, .int (if 0 < (dy - (jDue so ld tn cx)) then (dy - (jDue so ld tn cx)) else 0)), (0, .ref (ad 14)), (1, .int (nI cx))]) hx hb dX2_giveBack_45 rfl hl (by decide) rfl (fun ls hl => ?_)
    refine lv_aload_n hx hb dX2_giveBack_46 rfl (lv_at hl 1 rfl) ?_
    refine va_get (D := D) (ci := 2) (v := .ref (ad 6)) (C := RX2) (T := TX2) (N := 5) hx hb hts hinX2 hown hK.1 hP 14 rfl rfl 1 (by decide) hf23 (fun _ h9 => h9) rfl dX2_giveBack_47 ?_
    refine lv_iload_n hx hb dX2_giveBack_50 rfl (lv_at hl 2 rfl) ?_
    refine lv_iconst (v := 0) hx hb dX2_giveBack_51 (by decide) ?_
    refine lv_aload_n hx hb dX2_giveBack_52 rfl (lv_at hl 1 rfl) ?_
    refine va_get (D := D) (ci := 2) (v := .int dy) (C := RX2) (T := TX2) (N := 5) hx hb hts hinX2 hown hK.1 hP 14 rfl rfl 4 (by decide) hf7 (fun _ h9 => h9) rfl dX2_giveBack_53 ?_
    refine kc_wVv (w1 := wLe ad cI ko (upd so cx 0) tl lp lb ld (jMoveEnd so le tn cx dy) C) (wr := [(ad 0, .inr (1, [.ref (ad 1), .ref (ad 2), .ref (ad 3), .ref (ad 4), .ref (ad 5), .int (nI K), .int (nI Dn), .int mv])), (ad 1, .inl (cI, 8, .inl cd)), (ad 2, .inl (cI, 8, .inl te)), (ad 3, .inl (cI, 8, .inl ri)), (ad 4, .inl (cI, 8, .inl pi)), (ad 5, .inl (cI, 8, .inl pw)), (ad 14, .inr (2, [.ref (ad 0), .ref (ad 6), .ref (ad 15), .ref (ad 16), .int dy])), (ad 15, .inl (cI, 8, .inl cl)), (ad 16, .inl (cI, 8, .inl dq))]) (ws1 := wKc ad cI cd te ri pi pw K Dn mv ko (upd so cx 0) tl lp lb ld (jMoveEnd so le tn cx dy) C cl dq dy) (As := [.int (nI cx), .int 0, .int dy]) (rest := []) ⟨hx, hb, hml, hown, hts⟩ (c_X0_move l D ad cI ko so tl lp lb ld le C tn cx 0 dy H.size (by first | assumption | omega) hok) (cwV 3 hts gX2_giveBack_X0_move rfl rfl rfl (by decide +kernel) ⟨Nat.le_of_ble_eq_true rfl, Nat.le_of_ble_eq_true rfl⟩) hK hP hD hS hA [6, 7, 8, 9, 10, 11, 12, 13] [0, 1, 2, 3, 4, 5, 14, 15, 16] [0, 1, 2, 3, 4, 5, 9, 10, 11, 12, 13, 14, 15, 16, 6, 7, 8] [0] rfl rfl rfl rfl (by decide) rfl rfl rfl 6 rfl rfl rfl rfl hl.1 rfl (Nat.le_of_ble_eq_true rfl) dX2_giveBack_56 ⟨Nat.le_of_ble_eq_true rfl, Nat.le_of_ble_eq_true rfl⟩ (fun H locs hP hD hS => ?_)
    refine lv_iload_n hx hb dX2_giveBack_59 rfl (lv_at hl 0 rfl) ?_
    exact W.iret (v := if 0 < (dy - (jDue so ld tn cx)) then (dy - (jDue so ld tn cx)) else 0) hx hb hr (fun tZ htZ hWZ => ⟨⟨_, (), rfl, (by simp only [if_pos c_15]), by rw [htZ]; exact hP, by rw [hAe]; exact hD⟩, hS.F htZ⟩) hS.2.2 dX2_giveBack_60
  · exact absurd h1 c_15
set_option maxHeartbeats 4000000 in
set_option maxRecDepth 100000 in
theorem c_X2_lose_ok (l : Launch) (D : va_G) (ad : Nat → Nat) (cI : ClassId) (cd : Nat → Int32) (te : Nat → Int32) (ri : Nat → Int32) (pi : Nat → Int32) (pw : Nat → Int32) (K : Nat) (Dn : Nat) (mv : Int32) (ko : Nat → Int32) (so : Nat → Int32) (tl : Nat → Int32) (lp : Nat → Int32) (lb : Nat → Int32) (ld : Nat → Int32) (le : Nat → Int32) (C : Nat) (cl : Nat → Int32) (dq : Nat → Int32) (dy : Int32) (cx : Nat) (tn : Nat → Nat) (kn : Nat → Nat) (sz : Nat) (hK8 : K ≤ 8) (hD8 : Dn ≤ 8) (hC24 : C ≤ 24) (hc : cx < C) (hok : okLe so tl tn) (hkn : okKe C ko kn) (h2 : ¬ so cx = 2) (h3 : ¬ so cx = 3) : Met l yX2_lose wsX2_lose ({ frames := 3, cells := 0, slots := 0, locals := 66 } : Room) (wrP [.ref (ad 14), .int (nI cx)] D sz (wKc ad cI cd te ri pi pw K Dn mv ko so tl lp lb ld le C cl dq dy) [(cI, .int)]) (va_Qi (fun rZ (_ : Unit) => rZ = jDoors pi te (kn cx) Dn) (wrB D sz (wKc ad cI cd te ri pi pw K Dn mv ko so tl lp lb ld le C cl dq dy) (wKc ad cI cd te ri pi pw K Dn mv ko (upd so cx 2) tl lp lb ld (jMoveEnd so le tn cx dy) C cl dq dy)) (va_A (wKc ad cI cd te ri pi pw K Dn mv ko so tl lp lb ld le C cl dq dy) sz)) 0 0 (va_A (wKc ad cI cd te ri pi pw K Dn mv ko so tl lp lb ld le C cl dq dy) sz) := by
  refine Met.ofW (cc := cX2_lose) (maxL := 3) (ret := (some .int)) (by decide) rfl ?_
  intro p e s m args below meth c s₁ B hml hv
  obtain ⟨rfl, hsz, hP, hD0, hK⟩ := hv
  have hx := B.exec
  have hb := B.bytes
  have hr := B.returns
  have hts := atoms_spec (ws := wsX2_lose) B.pre
  have hown : s.vm.findClass RX2 = some m.cls := findClass_of_methodNamed B.named
  have hlocks := B.notSynchronized
  subst hsz
  have hD := hD0.self (sz := s.heap.size)
  generalize hAe : va_A (wKc ad cI cd te ri pi pw K Dn mv ko so tl lp lb ld le C cl dq dy) s.heap.size = A at hD ⊢
  have hA : ∀ q : Nat, s.heap.size ≤ q → A q := fun q h => by rw [← hAe]; exact Or.inr h
  have hinX0 : ∀ w ∈ u_ws RX0 TX0 8, w ∈ wsX2_lose := by decide +kernel
  have hinX2 : ∀ w ∈ u_ws RX2 TX2 5, w ∈ wsX2_lose := by decide +kernel
  have hf23 := hts (.fieldLink RX2 23 "KeyCabinet" "ledger" "LKeyCabinet$Ledger;") (by decide +kernel)
  have hf154 := hts (.fieldLink RX2 154 "KeyCabinet$Ledger" "stateOf" "[I") (by decide +kernel)
  have hf7 := hts (.fieldLink RX2 7 "KeyCabinet" "day" "I") (by decide +kernel)
  have hf16 := hts (.fieldLink RX2 16 "KeyCabinet" "plan" "LKeyCabinet$Plan;") (by decide +kernel)
  have hf173 := hts (.fieldLink RX2 173 "KeyCabinet$Ledger" "keyOf" "[I") (by decide +kernel)
  have hl := lv_entry ([.ref (ad 14), .int (nI cx)]) (n := 3) (Nat.le_of_ble_eq_true rfl)
  rw [lg_entry_eq]
  generalize (lg_sl ([.ref (ad 14), .int (nI cx)]) ++ List.replicate (3 - (lg_sl ([.ref (ad 14), .int (nI cx)])).length) Slot.unset).toArray = ls at hl ⊢
  have hl : lv_has ls 3 [(0, .ref (ad 14)), (1, .int (nI cx))] := hl
  refine W.genH (fun H locs eH eL => ?_)
  have hS : va_S A s.heap H locs := by rw [eH, eL]; exact va_S.rf
  have hP : va_P D vwCl (wKc ad cI cd te ri pi pw K Dn mv ko so tl lp lb ld le C cl dq dy) H := by rw [eH]; exact hP
  clear eH eL
  refine lv_aload_n hx hb dX2_lose_0 rfl (lv_at hl 0 rfl) ?_
  refine lv_iload_n hx hb dX2_lose_1 rfl (lv_at hl 1 rfl) ?_
  refine kc_rVv (As := [.int (nI cx)]) (rest := []) ⟨hx, hb, hml, hown, hts⟩ (c_X2_needCopy l D ad cI cd te ri pi pw K Dn mv ko so tl lp lb ld le C cl dq dy cx hc hC24) (cwV 1 hts gX2_lose_X2_needCopy rfl rfl rfl (by decide +kernel) ⟨Nat.le_of_ble_eq_true rfl, Nat.le_of_ble_eq_true rfl⟩) hK hP [0, 1, 2, 3, 4, 5, 6, 7, 8, 9, 10, 11, 12, 13, 14, 15, 16] [0] rfl rfl 14 rfl rfl rfl rfl hl.1 rfl (Nat.le_of_ble_eq_true rfl) dX2_lose_2 ⟨Nat.le_of_ble_eq_true rfl, Nat.le_of_ble_eq_true rfl⟩ ?_
  refine lv_aload_n hx hb dX2_lose_5 rfl (lv_at hl 0 rfl) ?_
  refine va_get (D := D) (ci := 2) (v := .ref (ad 6)) (C := RX2) (T := TX2) (N := 5) hx hb hts hinX2 hown hK.1 hP 14 rfl rfl 1 (by decide) hf23 (fun _ h9 => h9) rfl dX2_lose_6 ?_
  refine va_get (D := D) (ci := 0) (v := .ref (ad 8)) (C := RX0) (T := TX0) (N := 8) hx hb hts hinX0 hown hK.1 hP 6 rfl rfl 1 (by decide) hf154 (fun _ h9 => h9) rfl dX2_lose_9 ?_
  refine lv_iload_n hx hb dX2_lose_12 rfl (lv_at hl 1 rfl) ?_
  refine kc_ald (i := cx) (n := 24) hx hb hK hP 8 0 rfl rfl (by omega) (by decide) dX2_lose_13 ?_
  refine lv_istore_n (lv' := [(2, .int (so cx)), (0, .ref (ad 14)), (1, .int (nI cx))]) hx hb dX2_lose_14 rfl hl (by decide) rfl (fun ls hl => ?_)
  refine lv_iload_n hx hb dX2_lose_15 rfl (lv_at hl 0 rfl) ?_
  refine lv_iconst (v := 2) hx hb dX2_lose_16 (by decide) ?_
  refine lv_icmp_eq (tgt := 25) hx hb dX2_lose_17 (by decide) (fun c_17 => ?_) (fun c_17 => ?_)
  · exact absurd c_17 h2
  · refine lv_iload_n hx hb dX2_lose_20 rfl (lv_at hl 0 rfl) ?_
    refine lv_iconst (v := 3) hx hb dX2_lose_21 (by decide) ?_
    refine lv_icmp_ne (tgt := 35) hx hb dX2_lose_22 (by decide) (fun c_22 => ?_) (fun c_22 => ?_)
    · refine lv_aload_n hx hb dX2_lose_35 rfl (lv_at hl 1 rfl) ?_
      refine va_get (D := D) (ci := 2) (v := .ref (ad 6)) (C := RX2) (T := TX2) (N := 5) hx hb hts hinX2 hown hK.1 hP 14 rfl rfl 1 (by decide) hf23 (fun _ h9 => h9) rfl dX2_lose_36 ?_
      refine lv_iload_n hx hb dX2_lose_39 rfl (lv_at hl 2 rfl) ?_
      refine lv_iconst (v := 2) hx hb dX2_lose_40 (by decide) ?_
      refine lv_aload_n hx hb dX2_lose_41 rfl (lv_at hl 1 rfl) ?_
      refine va_get (D := D) (ci := 2) (v := .int dy) (C := RX2) (T := TX2) (N := 5) hx hb hts hinX2 hown hK.1 hP 14 rfl rfl 4 (by decide) hf7 (fun _ h9 => h9) rfl dX2_lose_42 ?_
      refine kc_wVv (w1 := wLe ad cI ko (upd so cx 2) tl lp lb ld (jMoveEnd so le tn cx dy) C) (wr := [(ad 0, .inr (1, [.ref (ad 1), .ref (ad 2), .ref (ad 3), .ref (ad 4), .ref (ad 5), .int (nI K), .int (nI Dn), .int mv])), (ad 1, .inl (cI, 8, .inl cd)), (ad 2, .inl (cI, 8, .inl te)), (ad 3, .inl (cI, 8, .inl ri)), (ad 4, .inl (cI, 8, .inl pi)), (ad 5, .inl (cI, 8, .inl pw)), (ad 14, .inr (2, [.ref (ad 0), .ref (ad 6), .ref (ad 15), .ref (ad 16), .int dy])), (ad 15, .inl (cI, 8, .inl cl)), (ad 16, .inl (cI, 8, .inl dq))]) (ws1 := wKc ad cI cd te ri pi pw K Dn mv ko (upd so cx 2) tl lp lb ld (jMoveEnd so le tn cx dy) C cl dq dy) (As := [.int (nI cx), .int 2, .int dy]) (rest := []) ⟨hx, hb, hml, hown, hts⟩ (c_X0_move l D ad cI ko so tl lp lb ld le C tn cx 2 dy H.size (by first | assumption | omega) hok) (cwV 3 hts gX2_lose_X0_move rfl rfl rfl (by decide +kernel) ⟨Nat.le_of_ble_eq_true rfl, Nat.le_of_ble_eq_true rfl⟩) hK hP hD hS hA [6, 7, 8, 9, 10, 11, 12, 13] [0, 1, 2, 3, 4, 5, 14, 15, 16] [0, 1, 2, 3, 4, 5, 9, 10, 11, 12, 13, 14, 15, 16, 6, 7, 8] [0] rfl rfl rfl rfl (by decide) rfl rfl rfl 6 rfl rfl rfl rfl hl.1 rfl (Nat.le_of_ble_eq_true rfl) dX2_lose_45 ⟨Nat.le_of_ble_eq_true rfl, Nat.le_of_ble_eq_true rfl⟩ (fun H locs hP hD hS => ?_)
      refine lv_aload_n hx hb dX2_lose_48 rfl (lv_at hl 1 rfl) ?_
      refine va_get (D := D) (ci := 2) (v := .ref (ad 0)) (C := RX2) (T := TX2) (N := 5) hx hb hts hinX2 hown hK.1 hP 14 rfl rfl 0 (by decide) hf16 (fun _ h9 => h9) rfl dX2_lose_49 ?_
      refine lv_aload_n hx hb dX2_lose_52 rfl (lv_at hl 1 rfl) ?_
      refine va_get (D := D) (ci := 2) (v := .ref (ad 6)) (C := RX2) (T := TX2) (N := 5) hx hb hts hinX2 hown hK.1 hP 14 rfl rfl 1 (by decide) hf23 (fun _ h9 => h9) rfl dX2_lose_53 ?_
      refine va_get (D := D) (ci := 0) (v := .ref (ad 7)) (C := RX0) (T := TX0) (N := 8) hx hb hts hinX0 hown hK.1 hP 6 rfl rfl 0 (by decide) hf173 (fun _ h9 => h9) rfl dX2_lose_56 ?_
      refine lv_iload_n hx hb dX2_lose_59 rfl (lv_at hl 2 rfl) ?_
      refine kc_ald (i := cx) (n := 24) hx hb hK hP 7 0 rfl rfl (by omega) (by decide) dX2_lose_60 ?_
      refine kc_top (show ko cx = nI (kn cx) from (hkn cx hc).1) ?_
      refine kc_rVi (As := [.int (nI (kn cx))]) (rest := []) ⟨hx, hb, hml, hown, hts⟩ (c_X1_doorsOf l D ad cI cd te ri pi pw K Dn mv (kn cx) hD8 ((hkn cx hc).2)) (cwV 1 hts gX2_lose_X1_doorsOf rfl rfl rfl (by decide +kernel) ⟨Nat.le_of_ble_eq_true rfl, Nat.le_of_ble_eq_true rfl⟩) hK hP [0, 1, 2, 3, 4, 5] [0] rfl rfl 0 rfl rfl rfl rfl hl.1 rfl (Nat.le_of_ble_eq_true rfl) dX2_lose_61 ⟨Nat.le_of_ble_eq_true rfl, Nat.le_of_ble_eq_true rfl⟩ ?_
      exact W.iret (v := jDoors pi te (kn cx) Dn) hx hb hr (fun tZ htZ hWZ => ⟨⟨_, (), rfl, rfl, by rw [htZ]; exact hP, by rw [hAe]; exact hD⟩, hS.F htZ⟩) hS.2.2 dX2_lose_64
    · exact absurd c_22 h3
set_option maxHeartbeats 4000000 in
set_option maxRecDepth 100000 in
theorem c_X2_find_ok (l : Launch) (D : va_G) (ad : Nat → Nat) (cI : ClassId) (cd : Nat → Int32) (te : Nat → Int32) (ri : Nat → Int32) (pi : Nat → Int32) (pw : Nat → Int32) (K : Nat) (Dn : Nat) (mv : Int32) (ko : Nat → Int32) (so : Nat → Int32) (tl : Nat → Int32) (lp : Nat → Int32) (lb : Nat → Int32) (ld : Nat → Int32) (le : Nat → Int32) (C : Nat) (cl : Nat → Int32) (dq : Nat → Int32) (dy : Int32) (cx : Nat) (tn : Nat → Nat) (sz : Nat) (hK8 : K ≤ 8) (hD8 : Dn ≤ 8) (hC24 : C ≤ 24) (hc : cx < C) (hok : okLe so tl tn) (h2 : so cx = 2) : Met l yX2_find wsX2_find ({ frames := 5, cells := 0, slots := 0, locals := 109 } : Room) (wrP [.ref (ad 14), .int (nI cx)] D sz (wKc ad cI cd te ri pi pw K Dn mv ko so tl lp lb ld le C cl dq dy) [(cI, .int)]) (va_Qi (fun rZ (_ : Unit) => rZ = jRisk pi te Dn K ko (upd so cx 0) C) (wrB D sz (wKc ad cI cd te ri pi pw K Dn mv ko so tl lp lb ld le C cl dq dy) (wKc ad cI cd te ri pi pw K Dn mv ko (upd so cx 0) tl lp lb ld le C cl dq dy)) (va_A (wKc ad cI cd te ri pi pw K Dn mv ko so tl lp lb ld le C cl dq dy) sz)) 0 0 (va_A (wKc ad cI cd te ri pi pw K Dn mv ko so tl lp lb ld le C cl dq dy) sz) := by
  refine Met.ofW (cc := cX2_find) (maxL := 2) (ret := (some .int)) (by decide) rfl ?_
  intro p e s m args below meth c s₁ B hml hv
  obtain ⟨rfl, hsz, hP, hD0, hK⟩ := hv
  have hx := B.exec
  have hb := B.bytes
  have hr := B.returns
  have hts := atoms_spec (ws := wsX2_find) B.pre
  have hown : s.vm.findClass RX2 = some m.cls := findClass_of_methodNamed B.named
  have hlocks := B.notSynchronized
  subst hsz
  have hD := hD0.self (sz := s.heap.size)
  generalize hAe : va_A (wKc ad cI cd te ri pi pw K Dn mv ko so tl lp lb ld le C cl dq dy) s.heap.size = A at hD ⊢
  have hA : ∀ q : Nat, s.heap.size ≤ q → A q := fun q h => by rw [← hAe]; exact Or.inr h
  have hinX0 : ∀ w ∈ u_ws RX0 TX0 8, w ∈ wsX2_find := by decide +kernel
  have hinX2 : ∀ w ∈ u_ws RX2 TX2 5, w ∈ wsX2_find := by decide +kernel
  have hf23 := hts (.fieldLink RX2 23 "KeyCabinet" "ledger" "LKeyCabinet$Ledger;") (by decide +kernel)
  have hf154 := hts (.fieldLink RX2 154 "KeyCabinet$Ledger" "stateOf" "[I") (by decide +kernel)
  have hf7 := hts (.fieldLink RX2 7 "KeyCabinet" "day" "I") (by decide +kernel)
  have hl := lv_entry ([.ref (ad 14), .int (nI cx)]) (n := 2) (Nat.le_of_ble_eq_true rfl)
  rw [lg_entry_eq]
  generalize (lg_sl ([.ref (ad 14), .int (nI cx)]) ++ List.replicate (2 - (lg_sl ([.ref (ad 14), .int (nI cx)])).length) Slot.unset).toArray = ls at hl ⊢
  have hl : lv_has ls 2 [(0, .ref (ad 14)), (1, .int (nI cx))] := hl
  refine W.genH (fun H locs eH eL => ?_)
  have hS : va_S A s.heap H locs := by rw [eH, eL]; exact va_S.rf
  have hP : va_P D vwCl (wKc ad cI cd te ri pi pw K Dn mv ko so tl lp lb ld le C cl dq dy) H := by rw [eH]; exact hP
  clear eH eL
  refine lv_aload_n hx hb dX2_find_0 rfl (lv_at hl 0 rfl) ?_
  refine lv_iload_n hx hb dX2_find_1 rfl (lv_at hl 1 rfl) ?_
  refine kc_rVv (As := [.int (nI cx)]) (rest := []) ⟨hx, hb, hml, hown, hts⟩ (c_X2_needCopy l D ad cI cd te ri pi pw K Dn mv ko so tl lp lb ld le C cl dq dy cx hc hC24) (cwV 1 hts gX2_find_X2_needCopy rfl rfl rfl (by decide +kernel) ⟨Nat.le_of_ble_eq_true rfl, Nat.le_of_ble_eq_true rfl⟩) hK hP [0, 1, 2, 3, 4, 5, 6, 7, 8, 9, 10, 11, 12, 13, 14, 15, 16] [0] rfl rfl 14 rfl rfl rfl rfl hl.1 rfl (Nat.le_of_ble_eq_true rfl) dX2_find_2 ⟨Nat.le_of_ble_eq_true rfl, Nat.le_of_ble_eq_true rfl⟩ ?_
  refine lv_aload_n hx hb dX2_find_5 rfl (lv_at hl 0 rfl) ?_
  refine va_get (D := D) (ci := 2) (v := .ref (ad 6)) (C := RX2) (T := TX2) (N := 5) hx hb hts hinX2 hown hK.1 hP 14 rfl rfl 1 (by decide) hf23 (fun _ h9 => h9) rfl dX2_find_6 ?_
  refine va_get (D := D) (ci := 0) (v := .ref (ad 8)) (C := RX0) (T := TX0) (N := 8) hx hb hts hinX0 hown hK.1 hP 6 rfl rfl 1 (by decide) hf154 (fun _ h9 => h9) rfl dX2_find_9 ?_
  refine lv_iload_n hx hb dX2_find_12 rfl (lv_at hl 1 rfl) ?_
  refine kc_ald (i := cx) (n := 24) hx hb hK hP 8 0 rfl rfl (by omega) (by decide) dX2_find_13 ?_
  refine lv_iconst (v := 2) hx hb dX2_find_14 (by decide) ?_
  refine lv_icmp_eq (tgt := 28) hx hb dX2_find_15 (by decide) (fun c_15 => ?_) (fun c_15 => ?_)
  · refine lv_aload_n hx hb dX2_find_28 rfl (lv_at hl 0 rfl) ?_
    refine va_get (D := D) (ci := 2) (v := .ref (ad 6)) (C := RX2) (T := TX2) (N := 5) hx hb hts hinX2 hown hK.1 hP 14 rfl rfl 1 (by decide) hf23 (fun _ h9 => h9) rfl dX2_find_29 ?_
    refine lv_iload_n hx hb dX2_find_32 rfl (lv_at hl 1 rfl) ?_
    refine lv_iconst (v := 0) hx hb dX2_find_33 (by decide) ?_
    refine lv_aload_n hx hb dX2_find_34 rfl (lv_at hl 0 rfl) ?_
    refine va_get (D := D) (ci := 2) (v := .int dy) (C := RX2) (T := TX2) (N := 5) hx hb hts hinX2 hown hK.1 hP 14 rfl rfl 4 (by decide) hf7 (fun _ h9 => h9) rfl dX2_find_35 ?_
    refine kc_wVv (w1 := wLe ad cI ko (upd so cx 0) tl lp lb ld (jMoveEnd so le tn cx dy) C) (wr := [(ad 0, .inr (1, [.ref (ad 1), .ref (ad 2), .ref (ad 3), .ref (ad 4), .ref (ad 5), .int (nI K), .int (nI Dn), .int mv])), (ad 1, .inl (cI, 8, .inl cd)), (ad 2, .inl (cI, 8, .inl te)), (ad 3, .inl (cI, 8, .inl ri)), (ad 4, .inl (cI, 8, .inl pi)), (ad 5, .inl (cI, 8, .inl pw)), (ad 14, .inr (2, [.ref (ad 0), .ref (ad 6), .ref (ad 15), .ref (ad 16), .int dy])), (ad 15, .inl (cI, 8, .inl cl)), (ad 16, .inl (cI, 8, .inl dq))]) (ws1 := wKc ad cI cd te ri pi pw K Dn mv ko (upd so cx 0) tl lp lb ld (jMoveEnd so le tn cx dy) C cl dq dy) (As := [.int (nI cx), .int 0, .int dy]) (rest := []) ⟨hx, hb, hml, hown, hts⟩ (c_X0_move l D ad cI ko so tl lp lb ld le C tn cx 0 dy H.size (by first | assumption | omega) hok) (cwV 3 hts gX2_find_X0_move rfl rfl rfl (by decide +kernel) ⟨Nat.le_of_ble_eq_true rfl, Nat.le_of_ble_eq_true rfl⟩) hK hP hD hS hA [6, 7, 8, 9, 10, 11, 12, 13] [0, 1, 2, 3, 4, 5, 14, 15, 16] [0, 1, 2, 3, 4, 5, 9, 10, 11, 12, 13, 14, 15, 16, 6, 7, 8] [0] rfl rfl rfl rfl (by decide) rfl rfl rfl 6 rfl rfl rfl rfl hl.1 rfl (Nat.le_of_ble_eq_true rfl) dX2_find_38 ⟨Nat.le_of_ble_eq_true rfl, Nat.le_of_ble_eq_true rfl⟩ (fun H locs hP hD hS => ?_)
    refine lv_aload_n hx hb dX2_find_41 rfl (lv_at hl 0 rfl) ?_
    refine kc_rVi (As := []) (rest := []) ⟨hx, hb, hml, hown, hts⟩ (c_X2_doorsAtRisk l D ad cI cd te ri pi pw K Dn mv ko (upd so cx 0) tl lp lb ld (jMoveEnd so le tn cx dy) C cl dq dy hK8 hD8 hC24) (cwV 0 hts gX2_find_X2_doorsAtRisk rfl rfl rfl (by decide +kernel) ⟨Nat.le_of_ble_eq_true rfl, Nat.le_of_ble_eq_true rfl⟩) hK hP [0, 1, 2, 3, 4, 5, 6, 7, 8, 9, 10, 11, 12, 13, 14, 15, 16] [0] rfl rfl 14 rfl rfl rfl rfl hl.1 rfl (Nat.le_of_ble_eq_true rfl) dX2_find_42 ⟨Nat.le_of_ble_eq_true rfl, Nat.le_of_ble_eq_true rfl⟩ ?_
    have eqw_le : le = jMoveEnd so le tn cx dy := (if_neg (by rw [h2]; decide)).symm
    have hP : va_P D vwCl (wKc ad cI cd te ri pi pw K Dn mv ko (upd so cx 0) tl lp lb ld le C cl dq dy) H := by rw [eqw_le]; exact hP
    have hD : va_D A (wKc ad cI cd te ri pi pw K Dn mv ko (upd so cx 0) tl lp lb ld le C cl dq dy) := by rw [eqw_le]; exact hD
    exact W.iret (v := jRisk pi te Dn K ko (upd so cx 0) C) hx hb hr (fun tZ htZ hWZ => ⟨⟨_, (), rfl, rfl, by rw [htZ]; exact hP, by rw [hAe]; exact hD⟩, hS.F htZ⟩) hS.2.2 dX2_find_45
  · exact absurd h2 c_15
set_option maxHeartbeats 4000000 in
set_option maxRecDepth 100000 in
theorem c_X2_pass_ok (l : Launch) (D : va_G) (ad : Nat → Nat) (cI : ClassId) (cd : Nat → Int32) (te : Nat → Int32) (ri : Nat → Int32) (pi : Nat → Int32) (pw : Nat → Int32) (K : Nat) (Dn : Nat) (mv : Int32) (ko : Nat → Int32) (so : Nat → Int32) (tl : Nat → Int32) (lp : Nat → Int32) (lb : Nat → Int32) (ld : Nat → Int32) (le : Nat → Int32) (C : Nat) (cl : Nat → Int32) (dq : Nat → Int32) (dy : Int32) (dz : Int32) (sz : Nat) (hz1 : ¬ dz < 1) (hz2 : dz ≤ 99) (h9 : dy + dz ≤ 9999) : Met l yX2_pass wsX2_pass ({ frames := 1, cells := 0, slots := 0, locals := 21 } : Room) (wrP [.ref (ad 14), .int dz] D sz (wKc ad cI cd te ri pi pw K Dn mv ko so tl lp lb ld le C cl dq dy) [(cI, .int)]) (va_Qi (fun rZ (_ : Unit) => rZ = dy + dz) (wrB D sz (wKc ad cI cd te ri pi pw K Dn mv ko so tl lp lb ld le C cl dq dy) (wKc ad cI cd te ri pi pw K Dn mv ko so tl lp lb ld le C cl dq (dy + dz))) (va_A (wKc ad cI cd te ri pi pw K Dn mv ko so tl lp lb ld le C cl dq dy) sz)) 0 0 (va_A (wKc ad cI cd te ri pi pw K Dn mv ko so tl lp lb ld le C cl dq dy) sz) := by
  refine Met.ofW (cc := cX2_pass) (maxL := 2) (ret := (some .int)) (by decide) rfl ?_
  intro p e s m args below meth c s₁ B hml hv
  obtain ⟨rfl, hsz, hP, hD0, hK⟩ := hv
  have hx := B.exec
  have hb := B.bytes
  have hr := B.returns
  have hts := atoms_spec (ws := wsX2_pass) B.pre
  have hown : s.vm.findClass RX2 = some m.cls := findClass_of_methodNamed B.named
  have hlocks := B.notSynchronized
  subst hsz
  have hD := hD0.self (sz := s.heap.size)
  generalize hAe : va_A (wKc ad cI cd te ri pi pw K Dn mv ko so tl lp lb ld le C cl dq dy) s.heap.size = A at hD ⊢
  have hA : ∀ q : Nat, s.heap.size ≤ q → A q := fun q h => by rw [← hAe]; exact Or.inr h
  have hinX2 : ∀ w ∈ u_ws RX2 TX2 5, w ∈ wsX2_pass := by decide +kernel
  have hf7 := hts (.fieldLink RX2 7 "KeyCabinet" "day" "I") (by decide +kernel)
  have hl := lv_entry ([.ref (ad 14), .int dz]) (n := 2) (Nat.le_of_ble_eq_true rfl)
  rw [lg_entry_eq]
  generalize (lg_sl ([.ref (ad 14), .int dz]) ++ List.replicate (2 - (lg_sl ([.ref (ad 14), .int dz])).length) Slot.unset).toArray = ls at hl ⊢
  have hl : lv_has ls 2 [(0, .ref (ad 14)), (1, .int dz)] := hl
  refine W.genH (fun H locs eH eL => ?_)
  have hS : va_S A s.heap H locs := by rw [eH, eL]; exact va_S.rf
  have hP : va_P D vwCl (wKc ad cI cd te ri pi pw K Dn mv ko so tl lp lb ld le C cl dq dy) H := by rw [eH]; exact hP
  clear eH eL
  refine lv_aload_n hx hb dX2_pass_0 rfl (lv_at hl 0 rfl) ?_
  refine lv_iload_n hx hb dX2_pass_1 rfl (lv_at hl 1 rfl) ?_
  refine kc_rVv (As := [.int dz]) (rest := []) ⟨hx, hb, hml, hown, hts⟩ (c_X2_needDays l D ad cI cd te ri pi pw K Dn mv ko so tl lp lb ld le C cl dq dy dz hz1 hz2) (cwV 1 hts gX2_pass_X2_needDays rfl rfl rfl (by decide +kernel) ⟨Nat.le_of_ble_eq_true rfl, Nat.le_of_ble_eq_true rfl⟩) hK hP [0, 1, 2, 3, 4, 5, 6, 7, 8, 9, 10, 11, 12, 13, 14, 15, 16] [0] rfl rfl 14 rfl rfl rfl rfl hl.1 rfl (Nat.le_of_ble_eq_true rfl) dX2_pass_2 ⟨Nat.le_of_ble_eq_true rfl, Nat.le_of_ble_eq_true rfl⟩ ?_
  refine lv_aload_n hx hb dX2_pass_5 rfl (lv_at hl 0 rfl) ?_
  refine va_get (D := D) (ci := 2) (v := .int dy) (C := RX2) (T := TX2) (N := 5) hx hb hts hinX2 hown hK.1 hP 14 rfl rfl 4 (by decide) hf7 (fun _ h9 => h9) rfl dX2_pass_6 ?_
  refine lv_iload_n hx hb dX2_pass_9 rfl (lv_at hl 1 rfl) ?_
  refine lv_iadd hx hb dX2_pass_10 ?_
  refine lv_sipush (v := 9999) hx hb dX2_pass_11 (by decide) ?_
  refine lv_icmp_le (tgt := 27) hx hb dX2_pass_14 (by decide) (fun c_14 => ?_) (fun c_14 => ?_)
  · refine lv_aload_n hx hb dX2_pass_27 rfl (lv_at hl 0 rfl) ?_
    refine lv_dup hx hb dX2_pass_28 rfl ?_
    refine va_get (D := D) (ci := 2) (v := .int dy) (C := RX2) (T := TX2) (N := 5) hx hb hts hinX2 hown hK.1 hP 14 rfl rfl 4 (by decide) hf7 (fun _ h9 => h9) rfl dX2_pass_29 ?_
    refine lv_iload_n hx hb dX2_pass_32 rfl (lv_at hl 1 rfl) ?_
    refine lv_iadd hx hb dX2_pass_33 ?_
    refine va_put (D := D) (ci := 2) (v := .int (dy + dz)) (ty := .int) (C := RX2) (T := TX2) (N := 5) hx hb hts hinX2 tyX2 tyX2_ok nmX2 hown hK.1 hP hD hS 14 rfl rfl 4 (by decide) hf7 (fun _ h9 => h9) rfl (by decide +kernel) rfl rfl (Nat.le_of_ble_eq_true rfl) dX2_pass_34 (fun H locs hP hD hS => ?_)
    have hP : va_P D vwCl (wKc ad cI cd te ri pi pw K Dn mv ko so tl lp lb ld le C cl dq (dy + dz)) H := hP
    have hD : va_D A (wKc ad cI cd te ri pi pw K Dn mv ko so tl lp lb ld le C cl dq (dy + dz)) := hD
    refine lv_aload_n hx hb dX2_pass_37 rfl (lv_at hl 0 rfl) ?_
    refine va_get (D := D) (ci := 2) (v := .int (dy + dz)) (C := RX2) (T := TX2) (N := 5) hx hb hts hinX2 hown hK.1 hP 14 rfl rfl 4 (by decide) hf7 (fun _ h9 => h9) rfl dX2_pass_38 ?_
    exact W.iret (v := (dy + dz)) hx hb hr (fun tZ htZ hWZ => ⟨⟨_, (), rfl, rfl, by rw [htZ]; exact hP, by rw [hAe]; exact hD⟩, hS.F htZ⟩) hS.2.2 dX2_pass_41
  · exact absurd h9 c_14
