abbrev wKc (ad : Nat → Nat) (cI : ClassId) (cd : Nat → Int32) (te : Nat → Int32) (ri : Nat → Int32) (pi : Nat → Int32) (pw : Nat → Int32) (K : Nat) (Dn : Nat) (mv : Int32) (ko : Nat → Int32) (so : Nat → Int32) (tl : Nat → Int32) (lp : Nat → Int32) (lb : Nat → Int32) (ld : Nat → Int32) (le : Nat → Int32) (C : Nat) (cl : Nat → Int32) (dq : Nat → Int32) (dy : Int32) : va_W := [(ad 0, .inr (1, [.ref (ad 1), .ref (ad 2), .ref (ad 3), .ref (ad 4), .ref (ad 5), .int (nI K), .int (nI Dn), .int mv])), (ad 1, .inl (cI, 8, .inl cd)), (ad 2, .inl (cI, 8, .inl te)), (ad 3, .inl (cI, 8, .inl ri)), (ad 4, .inl (cI, 8, .inl pi)), (ad 5, .inl (cI, 8, .inl pw)), (ad 6, .inr (0, [.ref (ad 7), .ref (ad 8), .ref (ad 9), .ref (ad 10), .ref (ad 11), .ref (ad 12), .ref (ad 13), .int (nI C)])), (ad 7, .inl (cI, 24, .inl ko)), (ad 8, .inl (cI, 24, .inl so)), (ad 9, .inl (cI, 24, .inl tl)), (ad 10, .inl (cI, 216, .inl lp)), (ad 11, .inl (cI, 216, .inl lb)), (ad 12, .inl (cI, 216, .inl ld)), (ad 13, .inl (cI, 216, .inl le)), (ad 14, .inr (2, [.ref (ad 0), .ref (ad 6), .ref (ad 15), .ref (ad 16), .int dy])), (ad 15, .inl (cI, 8, .inl cl)), (ad 16, .inl (cI, 8, .inl dq))]
set_option maxHeartbeats 4000000 in
set_option maxRecDepth 100000 in
theorem c_X2_isSetOf (l : Launch) (n : Nat) (sx : Int32)  : Met l yX2_isSetOf wsX2_isSetOf ({ frames := 0, cells := 0, slots := 0, locals := 0 } : Room) (stP [.int (nI n), .int sx]) (vp_Si (fun rZ => rZ = bI (jSetOf n sx))) 0 0 (fun _ => False) := by
  refine Met.ofW (cc := cX2_isSetOf) (maxL := 2) (ret := (some .boolean)) (by decide) rfl ?_
  intro p e s m args below meth c s₁ B hml hv
  obtain ⟨rfl, -⟩ := hv
  have hx := B.exec
  have hb := B.bytes
  have hr := B.returns
  have hts := atoms_spec (ws := wsX2_isSetOf) B.pre
  have hown : s.vm.findClass RX2 = some m.cls := findClass_of_methodNamed B.named
  have hlocks := B.notSynchronized
  have hS : va_S (fun _ => False) s.heap s.heap [] := va_S.rf
  have hl := lv_entry ([.int (nI n), .int sx]) (n := 2) (Nat.le_of_ble_eq_true rfl)
  rw [lg_entry_eq]
  generalize (lg_sl ([.int (nI n), .int sx]) ++ List.replicate (2 - (lg_sl ([.int (nI n), .int sx])).length) Slot.unset).toArray = ls at hl ⊢
  have hl : lv_has ls 2 [(0, .int (nI n)), (1, .int sx)] := hl
  refine lv_iload_n hx hb dX2_isSetOf_0 rfl (lv_at hl 1 rfl) ?_
  refine lv_iconst (v := 1) hx hb dX2_isSetOf_1 (by decide) ?_
  refine lv_iload_n hx hb dX2_isSetOf_2 rfl (lv_at hl 0 rfl) ?_
  refine lv_ishl hx hb dX2_isSetOf_3 ?_
  refine lv_ineg hx hb dX2_isSetOf_4 ?_
  refine lv_iand hx hb dX2_isSetOf_5 ?_
  refine lv_if_ne (tgt := 13) hx hb dX2_isSetOf_6 (by decide) (fun c_6 => ?_) (fun c_6 => ?_)
  · refine lv_iconst (v := 0) hx hb dX2_isSetOf_13 (by decide) ?_
    exact W.zret (v := 0) hx hb hr rfl (fun tZ htZ hWZ => ⟨_, rfl, (bI_n c_6).symm, htZ⟩) hS.2.2 dX2_isSetOf_14
  · refine lv_iconst (v := 1) hx hb dX2_isSetOf_9 (by decide) ?_
    refine lv_goto (tgt := 14) hx hb dX2_isSetOf_10 (by decide) ?_
    exact W.zret (v := 1) hx hb hr rfl (fun tZ htZ hWZ => ⟨_, rfl, (bI_d c_6).symm, htZ⟩) hS.2.2 dX2_isSetOf_14
set_option maxHeartbeats 4000000 in
set_option maxRecDepth 100000 in
theorem c_X2_needKey (l : Launch) (D : va_G) (ad : Nat → Nat) (cI : ClassId) (cd : Nat → Int32) (te : Nat → Int32) (ri : Nat → Int32) (pi : Nat → Int32) (pw : Nat → Int32) (K : Nat) (Dn : Nat) (mv : Int32) (ko : Nat → Int32) (so : Nat → Int32) (tl : Nat → Int32) (lp : Nat → Int32) (lb : Nat → Int32) (ld : Nat → Int32) (le : Nat → Int32) (C : Nat) (cl : Nat → Int32) (dq : Nat → Int32) (dy : Int32) (k : Nat) (hk : k < K) (hK8 : K ≤ 8) : Met l yX2_needKey wsX2_needKey ({ frames := 0, cells := 0, slots := 0, locals := 0 } : Room) (rdP [.ref (ad 14), .int (nI k)] D (wKc ad cI cd te ri pi pw K Dn mv ko so tl lp lb ld le C cl dq dy) [(cI, .int)]) (va_Sv (fun _ => True)) 0 0 (fun _ => False) := by
  refine Met.ofW (cc := cX2_needKey) (maxL := 2) (ret := none) (by decide) rfl ?_
  intro p e s m args below meth c s₁ B hml hv
  obtain ⟨rfl, hP, hK⟩ := hv
  have hx := B.exec
  have hb := B.bytes
  have hr := B.returns
  have hts := atoms_spec (ws := wsX2_needKey) B.pre
  have hown : s.vm.findClass RX2 = some m.cls := findClass_of_methodNamed B.named
  have hlocks := B.notSynchronized
  have hS : va_S (fun _ => False) s.heap s.heap [] := va_S.rf
  have hinX1 : ∀ w ∈ u_ws RX1 TX1 8, w ∈ wsX2_needKey := by decide +kernel
  have hinX2 : ∀ w ∈ u_ws RX2 TX2 5, w ∈ wsX2_needKey := by decide +kernel
  have hf16 := hts (.fieldLink RX2 16 "KeyCabinet" "plan" "LKeyCabinet$Plan;") (by decide +kernel)
  have hf41 := hts (.fieldLink RX2 41 "KeyCabinet$Plan" "keys" "I") (by decide +kernel)
  have hl := lv_entry ([.ref (ad 14), .int (nI k)]) (n := 2) (Nat.le_of_ble_eq_true rfl)
  rw [lg_entry_eq]
  generalize (lg_sl ([.ref (ad 14), .int (nI k)]) ++ List.replicate (2 - (lg_sl ([.ref (ad 14), .int (nI k)])).length) Slot.unset).toArray = ls at hl ⊢
  have hl : lv_has ls 2 [(0, .ref (ad 14)), (1, .int (nI k))] := hl
  refine lv_iload_n hx hb dX2_needKey_0 rfl (lv_at hl 1 rfl) ?_
  refine lv_if_lt (tgt := 15) hx hb dX2_needKey_1 (by decide) (fun c_1 => ?_) (fun c_1 => ?_)
  · exact absurd c_1 (nI_pos (by omega))
  · refine lv_iload_n hx hb dX2_needKey_4 rfl (lv_at hl 1 rfl) ?_
    refine lv_aload_n hx hb dX2_needKey_5 rfl (lv_at hl 0 rfl) ?_
    refine va_get (D := D) (ci := 2) (v := .ref (ad 0)) (C := RX2) (T := TX2) (N := 5) hx hb hts hinX2 hown hK.1 hP 14 rfl rfl 0 (by decide) hf16 (fun _ h9 => h9) rfl dX2_needKey_6 ?_
    refine va_get (D := D) (ci := 1) (v := .int (nI K)) (C := RX1) (T := TX1) (N := 8) hx hb hts hinX1 hown hK.1 hP 0 rfl rfl 5 (by decide) hf41 (fun _ h9 => h9) rfl dX2_needKey_9 ?_
    refine lv_icmp_lt (tgt := 25) hx hb dX2_needKey_12 (by decide) (fun c_12 => ?_) (fun c_12 => ?_)
    · exact W.vret hx hb hr (fun tZ htZ hWZ => ⟨rfl, trivial, htZ⟩) hS.2.2 dX2_needKey_25
    · exact absurd (nI_lt hk (by omega)) c_12
set_option maxHeartbeats 4000000 in
set_option maxRecDepth 100000 in
theorem c_X2_needDoor (l : Launch) (D : va_G) (ad : Nat → Nat) (cI : ClassId) (cd : Nat → Int32) (te : Nat → Int32) (ri : Nat → Int32) (pi : Nat → Int32) (pw : Nat → Int32) (K : Nat) (Dn : Nat) (mv : Int32) (ko : Nat → Int32) (so : Nat → Int32) (tl : Nat → Int32) (lp : Nat → Int32) (lb : Nat → Int32) (ld : Nat → Int32) (le : Nat → Int32) (C : Nat) (cl : Nat → Int32) (dq : Nat → Int32) (dy : Int32) (d : Nat) (hd : d < Dn) (hD8 : Dn ≤ 8) : Met l yX2_needDoor wsX2_needDoor ({ frames := 0, cells := 0, slots := 0, locals := 0 } : Room) (rdP [.ref (ad 14), .int (nI d)] D (wKc ad cI cd te ri pi pw K Dn mv ko so tl lp lb ld le C cl dq dy) [(cI, .int)]) (va_Sv (fun _ => True)) 0 0 (fun _ => False) := by
  refine Met.ofW (cc := cX2_needDoor) (maxL := 2) (ret := none) (by decide) rfl ?_
  intro p e s m args below meth c s₁ B hml hv
  obtain ⟨rfl, hP, hK⟩ := hv
  have hx := B.exec
  have hb := B.bytes
  have hr := B.returns
  have hts := atoms_spec (ws := wsX2_needDoor) B.pre
  have hown : s.vm.findClass RX2 = some m.cls := findClass_of_methodNamed B.named
  have hlocks := B.notSynchronized
  have hS : va_S (fun _ => False) s.heap s.heap [] := va_S.rf
  have hinX1 : ∀ w ∈ u_ws RX1 TX1 8, w ∈ wsX2_needDoor := by decide +kernel
  have hinX2 : ∀ w ∈ u_ws RX2 TX2 5, w ∈ wsX2_needDoor := by decide +kernel
  have hf16 := hts (.fieldLink RX2 16 "KeyCabinet" "plan" "LKeyCabinet$Plan;") (by decide +kernel)
  have hf63 := hts (.fieldLink RX2 63 "KeyCabinet$Plan" "doors" "I") (by decide +kernel)
  have hl := lv_entry ([.ref (ad 14), .int (nI d)]) (n := 2) (Nat.le_of_ble_eq_true rfl)
  rw [lg_entry_eq]
  generalize (lg_sl ([.ref (ad 14), .int (nI d)]) ++ List.replicate (2 - (lg_sl ([.ref (ad 14), .int (nI d)])).length) Slot.unset).toArray = ls at hl ⊢
  have hl : lv_has ls 2 [(0, .ref (ad 14)), (1, .int (nI d))] := hl
  refine lv_iload_n hx hb dX2_needDoor_0 rfl (lv_at hl 1 rfl) ?_
  refine lv_if_lt (tgt := 15) hx hb dX2_needDoor_1 (by decide) (fun c_1 => ?_) (fun c_1 => ?_)
  · exact absurd c_1 (nI_pos (by omega))
  · refine lv_iload_n hx hb dX2_needDoor_4 rfl (lv_at hl 1 rfl) ?_
    refine lv_aload_n hx hb dX2_needDoor_5 rfl (lv_at hl 0 rfl) ?_
    refine va_get (D := D) (ci := 2) (v := .ref (ad 0)) (C := RX2) (T := TX2) (N := 5) hx hb hts hinX2 hown hK.1 hP 14 rfl rfl 0 (by decide) hf16 (fun _ h9 => h9) rfl dX2_needDoor_6 ?_
    refine va_get (D := D) (ci := 1) (v := .int (nI Dn)) (C := RX1) (T := TX1) (N := 8) hx hb hts hinX1 hown hK.1 hP 0 rfl rfl 6 (by decide) hf63 (fun _ h9 => h9) rfl dX2_needDoor_9 ?_
    refine lv_icmp_lt (tgt := 25) hx hb dX2_needDoor_12 (by decide) (fun c_12 => ?_) (fun c_12 => ?_)
    · exact W.vret hx hb hr (fun tZ htZ hWZ => ⟨rfl, trivial, htZ⟩) hS.2.2 dX2_needDoor_25
    · exact absurd (nI_lt hd (by omega)) c_12
set_option maxHeartbeats 4000000 in
set_option maxRecDepth 100000 in
theorem c_X2_needRights (l : Launch) (D : va_G) (ad : Nat → Nat) (cI : ClassId) (cd : Nat → Int32) (te : Nat → Int32) (ri : Nat → Int32) (pi : Nat → Int32) (pw : Nat → Int32) (K : Nat) (Dn : Nat) (mv : Int32) (ko : Nat → Int32) (so : Nat → Int32) (tl : Nat → Int32) (lp : Nat → Int32) (lb : Nat → Int32) (ld : Nat → Int32) (le : Nat → Int32) (C : Nat) (cl : Nat → Int32) (dq : Nat → Int32) (dy : Int32) (sx : Int32) (hs : jSetOf K sx = true) : Met l yX2_needRights wsX2_needRights ({ frames := 1, cells := 0, slots := 0, locals := 21 } : Room) (rdP [.ref (ad 14), .int sx] D (wKc ad cI cd te ri pi pw K Dn mv ko so tl lp lb ld le C cl dq dy) [(cI, .int)]) (va_Sv (fun _ => True)) 0 0 (fun _ => False) := by
  refine Met.ofW (cc := cX2_needRights) (maxL := 2) (ret := none) (by decide) rfl ?_
  intro p e s m args below meth c s₁ B hml hv
  obtain ⟨rfl, hP, hK⟩ := hv
  have hx := B.exec
  have hb := B.bytes
  have hr := B.returns
  have hts := atoms_spec (ws := wsX2_needRights) B.pre
  have hown : s.vm.findClass RX2 = some m.cls := findClass_of_methodNamed B.named
  have hlocks := B.notSynchronized
  have hS : va_S (fun _ => False) s.heap s.heap [] := va_S.rf
  have hinX1 : ∀ w ∈ u_ws RX1 TX1 8, w ∈ wsX2_needRights := by decide +kernel
  have hinX2 : ∀ w ∈ u_ws RX2 TX2 5, w ∈ wsX2_needRights := by decide +kernel
  have hf16 := hts (.fieldLink RX2 16 "KeyCabinet" "plan" "LKeyCabinet$Plan;") (by decide +kernel)
  have hf41 := hts (.fieldLink RX2 41 "KeyCabinet$Plan" "keys" "I") (by decide +kernel)
  have hl := lv_entry ([.ref (ad 14), .int sx]) (n := 2) (Nat.le_of_ble_eq_true rfl)
  rw [lg_entry_eq]
  generalize (lg_sl ([.ref (ad 14), .int sx]) ++ List.replicate (2 - (lg_sl ([.ref (ad 14), .int sx])).length) Slot.unset).toArray = ls at hl ⊢
  have hl : lv_has ls 2 [(0, .ref (ad 14)), (1, .int sx)] := hl
  refine lv_aload_n hx hb dX2_needRights_0 rfl (lv_at hl 0 rfl) ?_
  refine va_get (D := D) (ci := 2) (v := .ref (ad 0)) (C := RX2) (T := TX2) (N := 5) hx hb hts hinX2 hown hK.1 hP 14 rfl rfl 0 (by decide) hf16 (fun _ h9 => h9) rfl dX2_needRights_1 ?_
  refine va_get (D := D) (ci := 1) (v := .int (nI K)) (C := RX1) (T := TX1) (N := 8) hx hb hts hinX1 hown hK.1 hP 0 rfl rfl 5 (by decide) hf41 (fun _ h9 => h9) rfl dX2_needRights_4 ?_
  refine lv_iload_n hx hb dX2_needRights_7 rfl (lv_at hl 1 rfl) ?_
  refine kc_rSi (As := [.int (nI K), .int sx]) (rest := []) ⟨hx, hb, hml, hown, hts⟩ (c_X2_isSetOf l K sx ) (va_cwS 2 hts gX2_needRights_X2_isSetOf rfl rfl rfl (by decide +kernel) ⟨Nat.le_of_ble_eq_true rfl, Nat.le_of_ble_eq_true rfl⟩) rfl hl.1 rfl (Nat.le_of_ble_eq_true rfl) dX2_needRights_8 ⟨Nat.le_of_ble_eq_true rfl, Nat.le_of_ble_eq_true rfl⟩ ?_
  refine kc_ifneB (tgt := 24) hx hb dX2_needRights_11 (by decide) (fun c_11 => ?_) (fun c_11 => ?_)
  · exact W.vret hx hb hr (fun tZ htZ hWZ => ⟨rfl, trivial, htZ⟩) hS.2.2 dX2_needRights_24
  · exact absurd hs c_11
set_option maxHeartbeats 4000000 in
set_option maxRecDepth 100000 in
theorem c_X2_keyCount (l : Launch) (D : va_G) (ad : Nat → Nat) (cI : ClassId) (cd : Nat → Int32) (te : Nat → Int32) (ri : Nat → Int32) (pi : Nat → Int32) (pw : Nat → Int32) (K : Nat) (Dn : Nat) (mv : Int32) (ko : Nat → Int32) (so : Nat → Int32) (tl : Nat → Int32) (lp : Nat → Int32) (lb : Nat → Int32) (ld : Nat → Int32) (le : Nat → Int32) (C : Nat) (cl : Nat → Int32) (dq : Nat → Int32) (dy : Int32)  : Met l yX2_keyCount wsX2_keyCount ({ frames := 0, cells := 0, slots := 0, locals := 0 } : Room) (rdP [.ref (ad 14)] D (wKc ad cI cd te ri pi pw K Dn mv ko so tl lp lb ld le C cl dq dy) [(cI, .int)]) (vp_Si (fun rZ => rZ = nI K)) 0 0 (fun _ => False) := by
  refine Met.ofW (cc := cX2_keyCount) (maxL := 1) (ret := (some .int)) (by decide) rfl ?_
  intro p e s m args below meth c s₁ B hml hv
  obtain ⟨rfl, hP, hK⟩ := hv
  have hx := B.exec
  have hb := B.bytes
  have hr := B.returns
  have hts := atoms_spec (ws := wsX2_keyCount) B.pre
  have hown : s.vm.findClass RX2 = some m.cls := findClass_of_methodNamed B.named
  have hlocks := B.notSynchronized
  have hS : va_S (fun _ => False) s.heap s.heap [] := va_S.rf
  have hinX1 : ∀ w ∈ u_ws RX1 TX1 8, w ∈ wsX2_keyCount := by decide +kernel
  have hinX2 : ∀ w ∈ u_ws RX2 TX2 5, w ∈ wsX2_keyCount := by decide +kernel
  have hf16 := hts (.fieldLink RX2 16 "KeyCabinet" "plan" "LKeyCabinet$Plan;") (by decide +kernel)
  have hf41 := hts (.fieldLink RX2 41 "KeyCabinet$Plan" "keys" "I") (by decide +kernel)
  have hl := lv_entry ([.ref (ad 14)]) (n := 1) (Nat.le_of_ble_eq_true rfl)
  rw [lg_entry_eq]
  generalize (lg_sl ([.ref (ad 14)]) ++ List.replicate (1 - (lg_sl ([.ref (ad 14)])).length) Slot.unset).toArray = ls at hl ⊢
  have hl : lv_has ls 1 [(0, .ref (ad 14))] := hl
  refine lv_aload_n hx hb dX2_keyCount_0 rfl (lv_at hl 0 rfl) ?_
  refine va_get (D := D) (ci := 2) (v := .ref (ad 0)) (C := RX2) (T := TX2) (N := 5) hx hb hts hinX2 hown hK.1 hP 14 rfl rfl 0 (by decide) hf16 (fun _ h9 => h9) rfl dX2_keyCount_1 ?_
  refine va_get (D := D) (ci := 1) (v := .int (nI K)) (C := RX1) (T := TX1) (N := 8) hx hb hts hinX1 hown hK.1 hP 0 rfl rfl 5 (by decide) hf41 (fun _ h9 => h9) rfl dX2_keyCount_4 ?_
  exact W.iret (v := nI K) hx hb hr (fun tZ htZ hWZ => ⟨_, rfl, rfl, htZ⟩) hS.2.2 dX2_keyCount_7
set_option maxHeartbeats 4000000 in
set_option maxRecDepth 100000 in
theorem c_X2_doorCount (l : Launch) (D : va_G) (ad : Nat → Nat) (cI : ClassId) (cd : Nat → Int32) (te : Nat → Int32) (ri : Nat → Int32) (pi : Nat → Int32) (pw : Nat → Int32) (K : Nat) (Dn : Nat) (mv : Int32) (ko : Nat → Int32) (so : Nat → Int32) (tl : Nat → Int32) (lp : Nat → Int32) (lb : Nat → Int32) (ld : Nat → Int32) (le : Nat → Int32) (C : Nat) (cl : Nat → Int32) (dq : Nat → Int32) (dy : Int32)  : Met l yX2_doorCount wsX2_doorCount ({ frames := 0, cells := 0, slots := 0, locals := 0 } : Room) (rdP [.ref (ad 14)] D (wKc ad cI cd te ri pi pw K Dn mv ko so tl lp lb ld le C cl dq dy) [(cI, .int)]) (vp_Si (fun rZ => rZ = nI Dn)) 0 0 (fun _ => False) := by
  refine Met.ofW (cc := cX2_doorCount) (maxL := 1) (ret := (some .int)) (by decide) rfl ?_
  intro p e s m args below meth c s₁ B hml hv
  obtain ⟨rfl, hP, hK⟩ := hv
  have hx := B.exec
  have hb := B.bytes
  have hr := B.returns
  have hts := atoms_spec (ws := wsX2_doorCount) B.pre
  have hown : s.vm.findClass RX2 = some m.cls := findClass_of_methodNamed B.named
  have hlocks := B.notSynchronized
  have hS : va_S (fun _ => False) s.heap s.heap [] := va_S.rf
  have hinX1 : ∀ w ∈ u_ws RX1 TX1 8, w ∈ wsX2_doorCount := by decide +kernel
  have hinX2 : ∀ w ∈ u_ws RX2 TX2 5, w ∈ wsX2_doorCount := by decide +kernel
  have hf16 := hts (.fieldLink RX2 16 "KeyCabinet" "plan" "LKeyCabinet$Plan;") (by decide +kernel)
  have hf63 := hts (.fieldLink RX2 63 "KeyCabinet$Plan" "doors" "I") (by decide +kernel)
  have hl := lv_entry ([.ref (ad 14)]) (n := 1) (Nat.le_of_ble_eq_true rfl)
  rw [lg_entry_eq]
  generalize (lg_sl ([.ref (ad 14)]) ++ List.replicate (1 - (lg_sl ([.ref (ad 14)])).length) Slot.unset).toArray = ls at hl ⊢
  have hl : lv_has ls 1 [(0, .ref (ad 14))] := hl
  refine lv_aload_n hx hb dX2_doorCount_0 rfl (lv_at hl 0 rfl) ?_
  refine va_get (D := D) (ci := 2) (v := .ref (ad 0)) (C := RX2) (T := TX2) (N := 5) hx hb hts hinX2 hown hK.1 hP 14 rfl rfl 0 (by decide) hf16 (fun _ h9 => h9) rfl dX2_doorCount_1 ?_
  refine va_get (D := D) (ci := 1) (v := .int (nI Dn)) (C := RX1) (T := TX1) (N := 8) hx hb hts hinX1 hown hK.1 hP 0 rfl rfl 6 (by decide) hf63 (fun _ h9 => h9) rfl dX2_doorCount_4 ?_
  exact W.iret (v := nI Dn) hx hb hr (fun tZ htZ hWZ => ⟨_, rfl, rfl, htZ⟩) hS.2.2 dX2_doorCount_7
set_option maxHeartbeats 4000000 in
set_option maxRecDepth 100000 in
theorem c_X2_work (l : Launch) (D : va_G) (ad : Nat → Nat) (cI : ClassId) (cd : Nat → Int32) (te : Nat → Int32) (ri : Nat → Int32) (pi : Nat → Int32) (pw : Nat → Int32) (K : Nat) (Dn : Nat) (mv : Int32) (ko : Nat → Int32) (so : Nat → Int32) (tl : Nat → Int32) (lp : Nat → Int32) (lb : Nat → Int32) (ld : Nat → Int32) (le : Nat → Int32) (C : Nat) (cl : Nat → Int32) (dq : Nat → Int32) (dy : Int32)  : Met l yX2_work wsX2_work ({ frames := 0, cells := 0, slots := 0, locals := 0 } : Room) (rdP [.ref (ad 14)] D (wKc ad cI cd te ri pi pw K Dn mv ko so tl lp lb ld le C cl dq dy) [(cI, .int)]) (vp_Si (fun rZ => rZ = mv)) 0 0 (fun _ => False) := by
  refine Met.ofW (cc := cX2_work) (maxL := 1) (ret := (some .int)) (by decide) rfl ?_
  intro p e s m args below meth c s₁ B hml hv
  obtain ⟨rfl, hP, hK⟩ := hv
  have hx := B.exec
  have hb := B.bytes
  have hr := B.returns
  have hts := atoms_spec (ws := wsX2_work) B.pre
  have hown : s.vm.findClass RX2 = some m.cls := findClass_of_methodNamed B.named
  have hlocks := B.notSynchronized
  have hS : va_S (fun _ => False) s.heap s.heap [] := va_S.rf
  have hinX1 : ∀ w ∈ u_ws RX1 TX1 8, w ∈ wsX2_work := by decide +kernel
  have hinX2 : ∀ w ∈ u_ws RX2 TX2 5, w ∈ wsX2_work := by decide +kernel
  have hf16 := hts (.fieldLink RX2 16 "KeyCabinet" "plan" "LKeyCabinet$Plan;") (by decide +kernel)
  have hf116 := hts (.fieldLink RX2 116 "KeyCabinet$Plan" "pinsMoved" "I") (by decide +kernel)
  have hl := lv_entry ([.ref (ad 14)]) (n := 1) (Nat.le_of_ble_eq_true rfl)
  rw [lg_entry_eq]
  generalize (lg_sl ([.ref (ad 14)]) ++ List.replicate (1 - (lg_sl ([.ref (ad 14)])).length) Slot.unset).toArray = ls at hl ⊢
  have hl : lv_has ls 1 [(0, .ref (ad 14))] := hl
  refine lv_aload_n hx hb dX2_work_0 rfl (lv_at hl 0 rfl) ?_
  refine va_get (D := D) (ci := 2) (v := .ref (ad 0)) (C := RX2) (T := TX2) (N := 5) hx hb hts hinX2 hown hK.1 hP 14 rfl rfl 0 (by decide) hf16 (fun _ h9 => h9) rfl dX2_work_1 ?_
  refine va_get (D := D) (ci := 1) (v := .int mv) (C := RX1) (T := TX1) (N := 8) hx hb hts hinX1 hown hK.1 hP 0 rfl rfl 7 (by decide) hf116 (fun _ h9 => h9) rfl dX2_work_4 ?_
  exact W.iret (v := mv) hx hb hr (fun tZ htZ hWZ => ⟨_, rfl, rfl, htZ⟩) hS.2.2 dX2_work_7
set_option maxHeartbeats 4000000 in
set_option maxRecDepth 100000 in
theorem c_X2_code_ok (l : Launch) (D : va_G) (ad : Nat → Nat) (cI : ClassId) (cd : Nat → Int32) (te : Nat → Int32) (ri : Nat → Int32) (pi : Nat → Int32) (pw : Nat → Int32) (K : Nat) (Dn : Nat) (mv : Int32) (ko : Nat → Int32) (so : Nat → Int32) (tl : Nat → Int32) (lp : Nat → Int32) (lb : Nat → Int32) (ld : Nat → Int32) (le : Nat → Int32) (C : Nat) (cl : Nat → Int32) (dq : Nat → Int32) (dy : Int32) (k : Nat) (hK8 : K ≤ 8) (hk : k < K) : Met l yX2_code wsX2_code ({ frames := 1, cells := 0, slots := 0, locals := 21 } : Room) (rdP [.ref (ad 14), .int (nI k)] D (wKc ad cI cd te ri pi pw K Dn mv ko so tl lp lb ld le C cl dq dy) [(cI, .int)]) (vp_Si (fun rZ => rZ = cd k)) 0 0 (fun _ => False) := by
  refine Met.ofW (cc := cX2_code) (maxL := 2) (ret := (some .int)) (by decide) rfl ?_
  intro p e s m args below meth c s₁ B hml hv
  obtain ⟨rfl, hP, hK⟩ := hv
  have hx := B.exec
  have hb := B.bytes
  have hr := B.returns
  have hts := atoms_spec (ws := wsX2_code) B.pre
  have hown : s.vm.findClass RX2 = some m.cls := findClass_of_methodNamed B.named
  have hlocks := B.notSynchronized
  have hS : va_S (fun _ => False) s.heap s.heap [] := va_S.rf
  have hinX1 : ∀ w ∈ u_ws RX1 TX1 8, w ∈ wsX2_code := by decide +kernel
  have hinX2 : ∀ w ∈ u_ws RX2 TX2 5, w ∈ wsX2_code := by decide +kernel
  have hf16 := hts (.fieldLink RX2 16 "KeyCabinet" "plan" "LKeyCabinet$Plan;") (by decide +kernel)
  have hf84 := hts (.fieldLink RX2 84 "KeyCabinet$Plan" "codeOf" "[I") (by decide +kernel)
  have hl := lv_entry ([.ref (ad 14), .int (nI k)]) (n := 2) (Nat.le_of_ble_eq_true rfl)
  rw [lg_entry_eq]
  generalize (lg_sl ([.ref (ad 14), .int (nI k)]) ++ List.replicate (2 - (lg_sl ([.ref (ad 14), .int (nI k)])).length) Slot.unset).toArray = ls at hl ⊢
  have hl : lv_has ls 2 [(0, .ref (ad 14)), (1, .int (nI k))] := hl
  refine lv_aload_n hx hb dX2_code_0 rfl (lv_at hl 0 rfl) ?_
  refine lv_iload_n hx hb dX2_code_1 rfl (lv_at hl 1 rfl) ?_
  refine kc_rVv (As := [.int (nI k)]) (rest := []) ⟨hx, hb, hml, hown, hts⟩ (c_X2_needKey l D ad cI cd te ri pi pw K Dn mv ko so tl lp lb ld le C cl dq dy k hk hK8) (cwV 1 hts gX2_code_X2_needKey rfl rfl rfl (by decide +kernel) ⟨Nat.le_of_ble_eq_true rfl, Nat.le_of_ble_eq_true rfl⟩) hK hP [0, 1, 2, 3, 4, 5, 6, 7, 8, 9, 10, 11, 12, 13, 14, 15, 16] [0] rfl rfl 14 rfl rfl rfl rfl hl.1 rfl (Nat.le_of_ble_eq_true rfl) dX2_code_2 ⟨Nat.le_of_ble_eq_true rfl, Nat.le_of_ble_eq_true rfl⟩ ?_
  refine lv_aload_n hx hb dX2_code_5 rfl (lv_at hl 0 rfl) ?_
  refine va_get (D := D) (ci := 2) (v := .ref (ad 0)) (C := RX2) (T := TX2) (N := 5) hx hb hts hinX2 hown hK.1 hP 14 rfl rfl 0 (by decide) hf16 (fun _ h9 => h9) rfl dX2_code_6 ?_
  refine va_get (D := D) (ci := 1) (v := .ref (ad 1)) (C := RX1) (T := TX1) (N := 8) hx hb hts hinX1 hown hK.1 hP 0 rfl rfl 0 (by decide) hf84 (fun _ h9 => h9) rfl dX2_code_9 ?_
  refine lv_iload_n hx hb dX2_code_12 rfl (lv_at hl 1 rfl) ?_
  refine kc_ald (i := k) (n := 8) hx hb hK hP 1 0 rfl rfl (by omega) (by decide) dX2_code_13 ?_
  exact W.iret (v := cd k) hx hb hr (fun tZ htZ hWZ => ⟨_, rfl, rfl, htZ⟩) hS.2.2 dX2_code_14
set_option maxHeartbeats 4000000 in
set_option maxRecDepth 100000 in
theorem c_X2_pins_ok (l : Launch) (D : va_G) (ad : Nat → Nat) (cI : ClassId) (cd : Nat → Int32) (te : Nat → Int32) (ri : Nat → Int32) (pi : Nat → Int32) (pw : Nat → Int32) (K : Nat) (Dn : Nat) (mv : Int32) (ko : Nat → Int32) (so : Nat → Int32) (tl : Nat → Int32) (lp : Nat → Int32) (lb : Nat → Int32) (ld : Nat → Int32) (le : Nat → Int32) (C : Nat) (cl : Nat → Int32) (dq : Nat → Int32) (dy : Int32) (d : Nat) (q : Nat) (hD8 : Dn ≤ 8) (hd : d < Dn) (hq : q < 5) : Met l yX2_pins wsX2_pins ({ frames := 1, cells := 0, slots := 0, locals := 22 } : Room) (rdP [.ref (ad 14), .int (nI d), .int (nI q)] D (wKc ad cI cd te ri pi pw K Dn mv ko so tl lp lb ld le C cl dq dy) [(cI, .int)]) (vp_Si (fun rZ => rZ = jPinsAt pi d (nI q))) 0 0 (fun _ => False) := by
  refine Met.ofW (cc := cX2_pins) (maxL := 3) (ret := (some .int)) (by decide) rfl ?_
  intro p e s m args below meth c s₁ B hml hv
  obtain ⟨rfl, hP, hK⟩ := hv
  have hx := B.exec
  have hb := B.bytes
  have hr := B.returns
  have hts := atoms_spec (ws := wsX2_pins) B.pre
  have hown : s.vm.findClass RX2 = some m.cls := findClass_of_methodNamed B.named
  have hlocks := B.notSynchronized
  have hS : va_S (fun _ => False) s.heap s.heap [] := va_S.rf
  have hinX2 : ∀ w ∈ u_ws RX2 TX2 5, w ∈ wsX2_pins := by decide +kernel
  have hf16 := hts (.fieldLink RX2 16 "KeyCabinet" "plan" "LKeyCabinet$Plan;") (by decide +kernel)
  have hl := lv_entry ([.ref (ad 14), .int (nI d), .int (nI q)]) (n := 3) (Nat.le_of_ble_eq_true rfl)
  rw [lg_entry_eq]
  generalize (lg_sl ([.ref (ad 14), .int (nI d), .int (nI q)]) ++ List.replicate (3 - (lg_sl ([.ref (ad 14), .int (nI d), .int (nI q)])).length) Slot.unset).toArray = ls at hl ⊢
  have hl : lv_has ls 3 [(0, .ref (ad 14)), (1, .int (nI d)), (2, .int (nI q))] := hl
  refine lv_aload_n hx hb dX2_pins_0 rfl (lv_at hl 0 rfl) ?_
  refine lv_iload_n hx hb dX2_pins_1 rfl (lv_at hl 1 rfl) ?_
  refine kc_rVv (As := [.int (nI d)]) (rest := []) ⟨hx, hb, hml, hown, hts⟩ (c_X2_needDoor l D ad cI cd te ri pi pw K Dn mv ko so tl lp lb ld le C cl dq dy d hd hD8) (cwV 1 hts gX2_pins_X2_needDoor rfl rfl rfl (by decide +kernel) ⟨Nat.le_of_ble_eq_true rfl, Nat.le_of_ble_eq_true rfl⟩) hK hP [0, 1, 2, 3, 4, 5, 6, 7, 8, 9, 10, 11, 12, 13, 14, 15, 16] [0] rfl rfl 14 rfl rfl rfl rfl hl.1 rfl (Nat.le_of_ble_eq_true rfl) dX2_pins_2 ⟨Nat.le_of_ble_eq_true rfl, Nat.le_of_ble_eq_true rfl⟩ ?_
  refine lv_iload_n hx hb dX2_pins_5 rfl (lv_at hl 2 rfl) ?_
  refine lv_if_lt (tgt := 14) hx hb dX2_pins_6 (by decide) (fun c_6 => ?_) (fun c_6 => ?_)
  · exact absurd c_6 (nI_pos (by omega))
  · refine lv_iload_n hx hb dX2_pins_9 rfl (lv_at hl 2 rfl) ?_
    refine lv_iconst (v := 5) hx hb dX2_pins_10 (by decide) ?_
    refine lv_icmp_lt (tgt := 24) hx hb dX2_pins_11 (by decide) (fun c_11 => ?_) (fun c_11 => ?_)
    · refine lv_aload_n hx hb dX2_pins_24 rfl (lv_at hl 0 rfl) ?_
      refine va_get (D := D) (ci := 2) (v := .ref (ad 0)) (C := RX2) (T := TX2) (N := 5) hx hb hts hinX2 hown hK.1 hP 14 rfl rfl 0 (by decide) hf16 (fun _ h9 => h9) rfl dX2_pins_25 ?_
      refine lv_iload_n hx hb dX2_pins_28 rfl (lv_at hl 1 rfl) ?_
      refine lv_iload_n hx hb dX2_pins_29 rfl (lv_at hl 2 rfl) ?_
      refine kc_rVi (As := [.int (nI d), .int (nI q)]) (rest := []) ⟨hx, hb, hml, hown, hts⟩ (c_X1_pinsAt l D ad cI cd te ri pi pw K Dn mv d (nI q) (by first | assumption | omega)) (cwV 2 hts gX2_pins_X1_pinsAt rfl rfl rfl (by decide +kernel) ⟨Nat.le_of_ble_eq_true rfl, Nat.le_of_ble_eq_true rfl⟩) hK hP [0, 1, 2, 3, 4, 5] [0] rfl rfl 0 rfl rfl rfl rfl hl.1 rfl (Nat.le_of_ble_eq_true rfl) dX2_pins_30 ⟨Nat.le_of_ble_eq_true rfl, Nat.le_of_ble_eq_true rfl⟩ ?_
      exact W.iret (v := jPinsAt pi d (nI q)) hx hb hr (fun tZ htZ hWZ => ⟨_, rfl, rfl, htZ⟩) hS.2.2 dX2_pins_33
    · exact absurd (nI_lt (b := 5) hq (by omega)) c_11
set_option maxHeartbeats 4000000 in
set_option maxRecDepth 100000 in
theorem c_X2_opens_ok (l : Launch) (D : va_G) (ad : Nat → Nat) (cI : ClassId) (cd : Nat → Int32) (te : Nat → Int32) (ri : Nat → Int32) (pi : Nat → Int32) (pw : Nat → Int32) (K : Nat) (Dn : Nat) (mv : Int32) (ko : Nat → Int32) (so : Nat → Int32) (tl : Nat → Int32) (lp : Nat → Int32) (lb : Nat → Int32) (ld : Nat → Int32) (le : Nat → Int32) (C : Nat) (cl : Nat → Int32) (dq : Nat → Int32) (dy : Int32) (k : Nat) (d : Nat) (hK8 : K ≤ 8) (hD8 : Dn ≤ 8) (hk : k < K) (hd : d < Dn) : Met l yX2_opens wsX2_opens ({ frames := 2, cells := 0, slots := 0, locals := 43 } : Room) (rdP [.ref (ad 14), .int (nI k), .int (nI d)] D (wKc ad cI cd te ri pi pw K Dn mv ko so tl lp lb ld le C cl dq dy) [(cI, .int)]) (vp_Si (fun rZ => rZ = bI (jContains (pi d) (te k)))) 0 0 (fun _ => False) := by
  refine Met.ofW (cc := cX2_opens) (maxL := 3) (ret := (some .boolean)) (by decide) rfl ?_
  intro p e s m args below meth c s₁ B hml hv
  obtain ⟨rfl, hP, hK⟩ := hv
  have hx := B.exec
  have hb := B.bytes
  have hr := B.returns
  have hts := atoms_spec (ws := wsX2_opens) B.pre
  have hown : s.vm.findClass RX2 = some m.cls := findClass_of_methodNamed B.named
  have hlocks := B.notSynchronized
  have hS : va_S (fun _ => False) s.heap s.heap [] := va_S.rf
  have hinX2 : ∀ w ∈ u_ws RX2 TX2 5, w ∈ wsX2_opens := by decide +kernel
  have hf16 := hts (.fieldLink RX2 16 "KeyCabinet" "plan" "LKeyCabinet$Plan;") (by decide +kernel)
  have hl := lv_entry ([.ref (ad 14), .int (nI k), .int (nI d)]) (n := 3) (Nat.le_of_ble_eq_true rfl)
  rw [lg_entry_eq]
  generalize (lg_sl ([.ref (ad 14), .int (nI k), .int (nI d)]) ++ List.replicate (3 - (lg_sl ([.ref (ad 14), .int (nI k), .int (nI d)])).length) Slot.unset).toArray = ls at hl ⊢
  have hl : lv_has ls 3 [(0, .ref (ad 14)), (1, .int (nI k)), (2, .int (nI d))] := hl
  refine lv_aload_n hx hb dX2_opens_0 rfl (lv_at hl 0 rfl) ?_
  refine lv_iload_n hx hb dX2_opens_1 rfl (lv_at hl 1 rfl) ?_
  refine kc_rVv (As := [.int (nI k)]) (rest := []) ⟨hx, hb, hml, hown, hts⟩ (c_X2_needKey l D ad cI cd te ri pi pw K Dn mv ko so tl lp lb ld le C cl dq dy k hk hK8) (cwV 1 hts gX2_opens_X2_needKey rfl rfl rfl (by decide +kernel) ⟨Nat.le_of_ble_eq_true rfl, Nat.le_of_ble_eq_true rfl⟩) hK hP [0, 1, 2, 3, 4, 5, 6, 7, 8, 9, 10, 11, 12, 13, 14, 15, 16] [0] rfl rfl 14 rfl rfl rfl rfl hl.1 rfl (Nat.le_of_ble_eq_true rfl) dX2_opens_2 ⟨Nat.le_of_ble_eq_true rfl, Nat.le_of_ble_eq_true rfl⟩ ?_
  refine lv_aload_n hx hb dX2_opens_5 rfl (lv_at hl 0 rfl) ?_
  refine lv_iload_n hx hb dX2_opens_6 rfl (lv_at hl 2 rfl) ?_
  refine kc_rVv (As := [.int (nI d)]) (rest := []) ⟨hx, hb, hml, hown, hts⟩ (c_X2_needDoor l D ad cI cd te ri pi pw K Dn mv ko so tl lp lb ld le C cl dq dy d hd hD8) (cwV 1 hts gX2_opens_X2_needDoor rfl rfl rfl (by decide +kernel) ⟨Nat.le_of_ble_eq_true rfl, Nat.le_of_ble_eq_true rfl⟩) hK hP [0, 1, 2, 3, 4, 5, 6, 7, 8, 9, 10, 11, 12, 13, 14, 15, 16] [0] rfl rfl 14 rfl rfl rfl rfl hl.1 rfl (Nat.le_of_ble_eq_true rfl) dX2_opens_7 ⟨Nat.le_of_ble_eq_true rfl, Nat.le_of_ble_eq_true rfl⟩ ?_
  refine lv_aload_n hx hb dX2_opens_10 rfl (lv_at hl 0 rfl) ?_
  refine va_get (D := D) (ci := 2) (v := .ref (ad 0)) (C := RX2) (T := TX2) (N := 5) hx hb hts hinX2 hown hK.1 hP 14 rfl rfl 0 (by decide) hf16 (fun _ h9 => h9) rfl dX2_opens_11 ?_
  refine lv_iload_n hx hb dX2_opens_14 rfl (lv_at hl 1 rfl) ?_
  refine lv_iload_n hx hb dX2_opens_15 rfl (lv_at hl 2 rfl) ?_
  refine kc_rVi (As := [.int (nI k), .int (nI d)]) (rest := []) ⟨hx, hb, hml, hown, hts⟩ (c_X1_keyOpens l D ad cI cd te ri pi pw K Dn mv k d (by first | assumption | omega) (by first | assumption | omega)) (cwV 2 hts gX2_opens_X1_keyOpens rfl rfl rfl (by decide +kernel) ⟨Nat.le_of_ble_eq_true rfl, Nat.le_of_ble_eq_true rfl⟩) hK hP [0, 1, 2, 3, 4, 5] [0] rfl rfl 0 rfl rfl rfl rfl hl.1 rfl (Nat.le_of_ble_eq_true rfl) dX2_opens_16 ⟨Nat.le_of_ble_eq_true rfl, Nat.le_of_ble_eq_true rfl⟩ ?_
  exact W.zret (v := bI (jContains (pi d) (te k))) hx hb hr (bI_nar _) (fun tZ htZ hWZ => ⟨_, rfl, rfl, htZ⟩) hS.2.2 dX2_opens_19
set_option maxHeartbeats 4000000 in
set_option maxRecDepth 100000 in
theorem c_X2_openers_ok (l : Launch) (D : va_G) (ad : Nat → Nat) (cI : ClassId) (cd : Nat → Int32) (te : Nat → Int32) (ri : Nat → Int32) (pi : Nat → Int32) (pw : Nat → Int32) (K : Nat) (Dn : Nat) (mv : Int32) (ko : Nat → Int32) (so : Nat → Int32) (tl : Nat → Int32) (lp : Nat → Int32) (lb : Nat → Int32) (ld : Nat → Int32) (le : Nat → Int32) (C : Nat) (cl : Nat → Int32) (dq : Nat → Int32) (dy : Int32) (d : Nat) (hK8 : K ≤ 8) (hD8 : Dn ≤ 8) (hd : d < Dn) : Met l yX2_openers wsX2_openers ({ frames := 3, cells := 0, slots := 0, locals := 66 } : Room) (rdP [.ref (ad 14), .int (nI d)] D (wKc ad cI cd te ri pi pw K Dn mv ko so tl lp lb ld le C cl dq dy) [(cI, .int)]) (vp_Si (fun rZ => rZ = jOpeners pi te d K)) 0 0 (fun _ => False) := by
  refine Met.ofW (cc := cX2_openers) (maxL := 2) (ret := (some .int)) (by decide) rfl ?_
  intro p e s m args below meth c s₁ B hml hv
  obtain ⟨rfl, hP, hK⟩ := hv
  have hx := B.exec
  have hb := B.bytes
  have hr := B.returns
  have hts := atoms_spec (ws := wsX2_openers) B.pre
  have hown : s.vm.findClass RX2 = some m.cls := findClass_of_methodNamed B.named
  have hlocks := B.notSynchronized
  have hS : va_S (fun _ => False) s.heap s.heap [] := va_S.rf
  have hinX2 : ∀ w ∈ u_ws RX2 TX2 5, w ∈ wsX2_openers := by decide +kernel
  have hf16 := hts (.fieldLink RX2 16 "KeyCabinet" "plan" "LKeyCabinet$Plan;") (by decide +kernel)
  have hl := lv_entry ([.ref (ad 14), .int (nI d)]) (n := 2) (Nat.le_of_ble_eq_true rfl)
  rw [lg_entry_eq]
  generalize (lg_sl ([.ref (ad 14), .int (nI d)]) ++ List.replicate (2 - (lg_sl ([.ref (ad 14), .int (nI d)])).length) Slot.unset).toArray = ls at hl ⊢
  have hl : lv_has ls 2 [(0, .ref (ad 14)), (1, .int (nI d))] := hl
  refine lv_aload_n hx hb dX2_openers_0 rfl (lv_at hl 0 rfl) ?_
  refine lv_iload_n hx hb dX2_openers_1 rfl (lv_at hl 1 rfl) ?_
  refine kc_rVv (As := [.int (nI d)]) (rest := []) ⟨hx, hb, hml, hown, hts⟩ (c_X2_needDoor l D ad cI cd te ri pi pw K Dn mv ko so tl lp lb ld le C cl dq dy d hd hD8) (cwV 1 hts gX2_openers_X2_needDoor rfl rfl rfl (by decide +kernel) ⟨Nat.le_of_ble_eq_true rfl, Nat.le_of_ble_eq_true rfl⟩) hK hP [0, 1, 2, 3, 4, 5, 6, 7, 8, 9, 10, 11, 12, 13, 14, 15, 16] [0] rfl rfl 14 rfl rfl rfl rfl hl.1 rfl (Nat.le_of_ble_eq_true rfl) dX2_openers_2 ⟨Nat.le_of_ble_eq_true rfl, Nat.le_of_ble_eq_true rfl⟩ ?_
  refine lv_aload_n hx hb dX2_openers_5 rfl (lv_at hl 0 rfl) ?_
  refine va_get (D := D) (ci := 2) (v := .ref (ad 0)) (C := RX2) (T := TX2) (N := 5) hx hb hts hinX2 hown hK.1 hP 14 rfl rfl 0 (by decide) hf16 (fun _ h9 => h9) rfl dX2_openers_6 ?_
  refine lv_iload_n hx hb dX2_openers_9 rfl (lv_at hl 1 rfl) ?_
  refine kc_rVi (As := [.int (nI d)]) (rest := []) ⟨hx, hb, hml, hown, hts⟩ (c_X1_openersOf l D ad cI cd te ri pi pw K Dn mv d hK8 (by first | assumption | omega)) (cwV 1 hts gX2_openers_X1_openersOf rfl rfl rfl (by decide +kernel) ⟨Nat.le_of_ble_eq_true rfl, Nat.le_of_ble_eq_true rfl⟩) hK hP [0, 1, 2, 3, 4, 5] [0] rfl rfl 0 rfl rfl rfl rfl hl.1 rfl (Nat.le_of_ble_eq_true rfl) dX2_openers_10 ⟨Nat.le_of_ble_eq_true rfl, Nat.le_of_ble_eq_true rfl⟩ ?_
  exact W.iret (v := jOpeners pi te d K) hx hb hr (fun tZ htZ hWZ => ⟨_, rfl, rfl, htZ⟩) hS.2.2 dX2_openers_13
set_option maxHeartbeats 4000000 in
set_option maxRecDepth 100000 in
theorem c_X2_doors_ok (l : Launch) (D : va_G) (ad : Nat → Nat) (cI : ClassId) (cd : Nat → Int32) (te : Nat → Int32) (ri : Nat → Int32) (pi : Nat → Int32) (pw : Nat → Int32) (K : Nat) (Dn : Nat) (mv : Int32) (ko : Nat → Int32) (so : Nat → Int32) (tl : Nat → Int32) (lp : Nat → Int32) (lb : Nat → Int32) (ld : Nat → Int32) (le : Nat → Int32) (C : Nat) (cl : Nat → Int32) (dq : Nat → Int32) (dy : Int32) (k : Nat) (hK8 : K ≤ 8) (hD8 : Dn ≤ 8) (hk : k < K) : Met l yX2_doors wsX2_doors ({ frames := 3, cells := 0, slots := 0, locals := 66 } : Room) (rdP [.ref (ad 14), .int (nI k)] D (wKc ad cI cd te ri pi pw K Dn mv ko so tl lp lb ld le C cl dq dy) [(cI, .int)]) (vp_Si (fun rZ => rZ = jDoors pi te k Dn)) 0 0 (fun _ => False) := by
  refine Met.ofW (cc := cX2_doors) (maxL := 2) (ret := (some .int)) (by decide) rfl ?_
  intro p e s m args below meth c s₁ B hml hv
  obtain ⟨rfl, hP, hK⟩ := hv
  have hx := B.exec
  have hb := B.bytes
  have hr := B.returns
  have hts := atoms_spec (ws := wsX2_doors) B.pre
  have hown : s.vm.findClass RX2 = some m.cls := findClass_of_methodNamed B.named
  have hlocks := B.notSynchronized
  have hS : va_S (fun _ => False) s.heap s.heap [] := va_S.rf
  have hinX2 : ∀ w ∈ u_ws RX2 TX2 5, w ∈ wsX2_doors := by decide +kernel
  have hf16 := hts (.fieldLink RX2 16 "KeyCabinet" "plan" "LKeyCabinet$Plan;") (by decide +kernel)
  have hl := lv_entry ([.ref (ad 14), .int (nI k)]) (n := 2) (Nat.le_of_ble_eq_true rfl)
  rw [lg_entry_eq]
  generalize (lg_sl ([.ref (ad 14), .int (nI k)]) ++ List.replicate (2 - (lg_sl ([.ref (ad 14), .int (nI k)])).length) Slot.unset).toArray = ls at hl ⊢
  have hl : lv_has ls 2 [(0, .ref (ad 14)), (1, .int (nI k))] := hl
  refine lv_aload_n hx hb dX2_doors_0 rfl (lv_at hl 0 rfl) ?_
  refine lv_iload_n hx hb dX2_doors_1 rfl (lv_at hl 1 rfl) ?_
  refine kc_rVv (As := [.int (nI k)]) (rest := []) ⟨hx, hb, hml, hown, hts⟩ (c_X2_needKey l D ad cI cd te ri pi pw K Dn mv ko so tl lp lb ld le C cl dq dy k hk hK8) (cwV 1 hts gX2_doors_X2_needKey rfl rfl rfl (by decide +kernel) ⟨Nat.le_of_ble_eq_true rfl, Nat.le_of_ble_eq_true rfl⟩) hK hP [0, 1, 2, 3, 4, 5, 6, 7, 8, 9, 10, 11, 12, 13, 14, 15, 16] [0] rfl rfl 14 rfl rfl rfl rfl hl.1 rfl (Nat.le_of_ble_eq_true rfl) dX2_doors_2 ⟨Nat.le_of_ble_eq_true rfl, Nat.le_of_ble_eq_true rfl⟩ ?_
  refine lv_aload_n hx hb dX2_doors_5 rfl (lv_at hl 0 rfl) ?_
  refine va_get (D := D) (ci := 2) (v := .ref (ad 0)) (C := RX2) (T := TX2) (N := 5) hx hb hts hinX2 hown hK.1 hP 14 rfl rfl 0 (by decide) hf16 (fun _ h9 => h9) rfl dX2_doors_6 ?_
  refine lv_iload_n hx hb dX2_doors_9 rfl (lv_at hl 1 rfl) ?_
  refine kc_rVi (As := [.int (nI k)]) (rest := []) ⟨hx, hb, hml, hown, hts⟩ (c_X1_doorsOf l D ad cI cd te ri pi pw K Dn mv k hD8 (by first | assumption | omega)) (cwV 1 hts gX2_doors_X1_doorsOf rfl rfl rfl (by decide +kernel) ⟨Nat.le_of_ble_eq_true rfl, Nat.le_of_ble_eq_true rfl⟩) hK hP [0, 1, 2, 3, 4, 5] [0] rfl rfl 0 rfl rfl rfl rfl hl.1 rfl (Nat.le_of_ble_eq_true rfl) dX2_doors_10 ⟨Nat.le_of_ble_eq_true rfl, Nat.le_of_ble_eq_true rfl⟩ ?_
  exact W.iret (v := jDoors pi te k Dn) hx hb hr (fun tZ htZ hWZ => ⟨_, rfl, rfl, htZ⟩) hS.2.2 dX2_doors_13
set_option maxHeartbeats 4000000 in
set_option maxRecDepth 100000 in
theorem c_X2_strays (l : Launch) (D : va_G) (ad : Nat → Nat) (cI : ClassId) (cd : Nat → Int32) (te : Nat → Int32) (ri : Nat → Int32) (pi : Nat → Int32) (pw : Nat → Int32) (K : Nat) (Dn : Nat) (mv : Int32) (ko : Nat → Int32) (so : Nat → Int32) (tl : Nat → Int32) (lp : Nat → Int32) (lb : Nat → Int32) (ld : Nat → Int32) (le : Nat → Int32) (C : Nat) (cl : Nat → Int32) (dq : Nat → Int32) (dy : Int32) (hK8 : K ≤ 8) (hD8 : Dn ≤ 8) : Met l yX2_strays wsX2_strays ({ frames := 4, cells := 0, slots := 0, locals := 88 } : Room) (rdP [.ref (ad 14)] D (wKc ad cI cd te ri pi pw K Dn mv ko so tl lp lb ld le C cl dq dy) [(cI, .int)]) (vp_Si (fun rZ => rZ = jStrays pi te ri K Dn)) 0 0 (fun _ => False) := by
  refine Met.ofW (cc := cX2_strays) (maxL := 1) (ret := (some .int)) (by decide) rfl ?_
  intro p e s m args below meth c s₁ B hml hv
  obtain ⟨rfl, hP, hK⟩ := hv
  have hx := B.exec
  have hb := B.bytes
  have hr := B.returns
  have hts := atoms_spec (ws := wsX2_strays) B.pre
  have hown : s.vm.findClass RX2 = some m.cls := findClass_of_methodNamed B.named
  have hlocks := B.notSynchronized
  have hS : va_S (fun _ => False) s.heap s.heap [] := va_S.rf
  have hinX2 : ∀ w ∈ u_ws RX2 TX2 5, w ∈ wsX2_strays := by decide +kernel
  have hf16 := hts (.fieldLink RX2 16 "KeyCabinet" "plan" "LKeyCabinet$Plan;") (by decide +kernel)
  have hl := lv_entry ([.ref (ad 14)]) (n := 1) (Nat.le_of_ble_eq_true rfl)
  rw [lg_entry_eq]
  generalize (lg_sl ([.ref (ad 14)]) ++ List.replicate (1 - (lg_sl ([.ref (ad 14)])).length) Slot.unset).toArray = ls at hl ⊢
  have hl : lv_has ls 1 [(0, .ref (ad 14))] := hl
  refine lv_aload_n hx hb dX2_strays_0 rfl (lv_at hl 0 rfl) ?_
  refine va_get (D := D) (ci := 2) (v := .ref (ad 0)) (C := RX2) (T := TX2) (N := 5) hx hb hts hinX2 hown hK.1 hP 14 rfl rfl 0 (by decide) hf16 (fun _ h9 => h9) rfl dX2_strays_1 ?_
  refine kc_rVi (As := []) (rest := []) ⟨hx, hb, hml, hown, hts⟩ (c_X1_countStrays l D ad cI cd te ri pi pw K Dn mv hK8 hD8) (cwV 0 hts gX2_strays_X1_countStrays rfl rfl rfl (by decide +kernel) ⟨Nat.le_of_ble_eq_true rfl, Nat.le_of_ble_eq_true rfl⟩) hK hP [0, 1, 2, 3, 4, 5] [0] rfl rfl 0 rfl rfl rfl rfl hl.1 rfl (Nat.le_of_ble_eq_true rfl) dX2_strays_4 ⟨Nat.le_of_ble_eq_true rfl, Nat.le_of_ble_eq_true rfl⟩ ?_
  exact W.iret (v := jStrays pi te ri K Dn) hx hb hr (fun tZ htZ hWZ => ⟨_, rfl, rfl, htZ⟩) hS.2.2 dX2_strays_7
set_option maxHeartbeats 4000000 in
set_option maxRecDepth 100000 in
theorem c_X2_codes_ok (l : Launch) (D : va_G) (ad : Nat → Nat) (cI : ClassId) (cd : Nat → Int32) (te : Nat → Int32) (ri : Nat → Int32) (pi : Nat → Int32) (pw : Nat → Int32) (K : Nat) (Dn : Nat) (mv : Int32) (ko : Nat → Int32) (so : Nat → Int32) (tl : Nat → Int32) (lp : Nat → Int32) (lb : Nat → Int32) (ld : Nat → Int32) (le : Nat → Int32) (C : Nat) (cl : Nat → Int32) (dq : Nat → Int32) (dy : Int32) (d : Nat) (hD8 : Dn ≤ 8) (hd : d < Dn) : Met l yX2_codes wsX2_codes ({ frames := 2, cells := 0, slots := 0, locals := 45 } : Room) (rdP [.ref (ad 14), .int (nI d)] D (wKc ad cI cd te ri pi pw K Dn mv ko so tl lp lb ld le C cl dq dy) [(cI, .int)]) (vp_Si (fun rZ => rZ = jCodes pi d 5)) 0 0 (fun _ => False) := by
  refine Met.ofW (cc := cX2_codes) (maxL := 2) (ret := (some .int)) (by decide) rfl ?_
  intro p e s m args below meth c s₁ B hml hv
  obtain ⟨rfl, hP, hK⟩ := hv
  have hx := B.exec
  have hb := B.bytes
  have hr := B.returns
  have hts := atoms_spec (ws := wsX2_codes) B.pre
  have hown : s.vm.findClass RX2 = some m.cls := findClass_of_methodNamed B.named
  have hlocks := B.notSynchronized
  have hS : va_S (fun _ => False) s.heap s.heap [] := va_S.rf
  have hinX2 : ∀ w ∈ u_ws RX2 TX2 5, w ∈ wsX2_codes := by decide +kernel
  have hf16 := hts (.fieldLink RX2 16 "KeyCabinet" "plan" "LKeyCabinet$Plan;") (by decide +kernel)
  have hl := lv_entry ([.ref (ad 14), .int (nI d)]) (n := 2) (Nat.le_of_ble_eq_true rfl)
  rw [lg_entry_eq]
  generalize (lg_sl ([.ref (ad 14), .int (nI d)]) ++ List.replicate (2 - (lg_sl ([.ref (ad 14), .int (nI d)])).length) Slot.unset).toArray = ls at hl ⊢
  have hl : lv_has ls 2 [(0, .ref (ad 14)), (1, .int (nI d))] := hl
  refine lv_aload_n hx hb dX2_codes_0 rfl (lv_at hl 0 rfl) ?_
  refine lv_iload_n hx hb dX2_codes_1 rfl (lv_at hl 1 rfl) ?_
  refine kc_rVv (As := [.int (nI d)]) (rest := []) ⟨hx, hb, hml, hown, hts⟩ (c_X2_needDoor l D ad cI cd te ri pi pw K Dn mv ko so tl lp lb ld le C cl dq dy d hd hD8) (cwV 1 hts gX2_codes_X2_needDoor rfl rfl rfl (by decide +kernel) ⟨Nat.le_of_ble_eq_true rfl, Nat.le_of_ble_eq_true rfl⟩) hK hP [0, 1, 2, 3, 4, 5, 6, 7, 8, 9, 10, 11, 12, 13, 14, 15, 16] [0] rfl rfl 14 rfl rfl rfl rfl hl.1 rfl (Nat.le_of_ble_eq_true rfl) dX2_codes_2 ⟨Nat.le_of_ble_eq_true rfl, Nat.le_of_ble_eq_true rfl⟩ ?_
  refine lv_aload_n hx hb dX2_codes_5 rfl (lv_at hl 0 rfl) ?_
  refine va_get (D := D) (ci := 2) (v := .ref (ad 0)) (C := RX2) (T := TX2) (N := 5) hx hb hts hinX2 hown hK.1 hP 14 rfl rfl 0 (by decide) hf16 (fun _ h9 => h9) rfl dX2_codes_6 ?_
  refine lv_iload_n hx hb dX2_codes_9 rfl (lv_at hl 1 rfl) ?_
  refine kc_rVi (As := [.int (nI d)]) (rest := []) ⟨hx, hb, hml, hown, hts⟩ (c_X1_countCodes l D ad cI cd te ri pi pw K Dn mv d (by first | assumption | omega)) (cwV 1 hts gX2_codes_X1_countCodes rfl rfl rfl (by decide +kernel) ⟨Nat.le_of_ble_eq_true rfl, Nat.le_of_ble_eq_true rfl⟩) hK hP [0, 1, 2, 3, 4, 5] [0] rfl rfl 0 rfl rfl rfl rfl hl.1 rfl (Nat.le_of_ble_eq_true rfl) dX2_codes_10 ⟨Nat.le_of_ble_eq_true rfl, Nat.le_of_ble_eq_true rfl⟩ ?_
  exact W.iret (v := jCodes pi d 5) hx hb hr (fun tZ htZ hWZ => ⟨_, rfl, rfl, htZ⟩) hS.2.2 dX2_codes_13
set_option maxHeartbeats 4000000 in
set_option maxRecDepth 100000 in
theorem c_X2_addKey_ok (l : Launch) (D : va_G) (ad : Nat → Nat) (cI : ClassId) (cd : Nat → Int32) (te : Nat → Int32) (ri : Nat → Int32) (pi : Nat → Int32) (pw : Nat → Int32) (K : Nat) (Dn : Nat) (mv : Int32) (ko : Nat → Int32) (so : Nat → Int32) (tl : Nat → Int32) (lp : Nat → Int32) (lb : Nat → Int32) (ld : Nat → Int32) (le : Nat → Int32) (C : Nat) (cl : Nat → Int32) (dq : Nat → Int32) (dy : Int32) (code : Int32) (sz : Nat) (h1 : ¬ code < 0) (h2 : code < 1024) (hK7 : K < 8) (hf : ¬ jTaken cd K code = true) : Met l yX2_addKey wsX2_addKey ({ frames := 2, cells := 0, slots := 0, locals := 45 } : Room) (wrP [.ref (ad 14), .int code] D sz (wKc ad cI cd te ri pi pw K Dn mv ko so tl lp lb ld le C cl dq dy) [(cI, .int)]) (va_Qi (fun rZ (_ : Unit) => rZ = nI K) (wrB D sz (wKc ad cI cd te ri pi pw K Dn mv ko so tl lp lb ld le C cl dq dy) (wKc ad cI (upd cd K code) (upd te K (jTeeth code 5)) ri pi pw (K + 1) Dn mv ko so tl lp lb ld le C cl dq dy)) (va_A (wKc ad cI cd te ri pi pw K Dn mv ko so tl lp lb ld le C cl dq dy) sz)) 0 0 (va_A (wKc ad cI cd te ri pi pw K Dn mv ko so tl lp lb ld le C cl dq dy) sz) := by
  refine Met.ofW (cc := cX2_addKey) (maxL := 2) (ret := (some .int)) (by decide) rfl ?_
  intro p e s m args below meth c s₁ B hml hv
  obtain ⟨rfl, hsz, hP, hD0, hK⟩ := hv
  have hx := B.exec
  have hb := B.bytes
  have hr := B.returns
  have hts := atoms_spec (ws := wsX2_addKey) B.pre
  have hown : s.vm.findClass RX2 = some m.cls := findClass_of_methodNamed B.named
  have hlocks := B.notSynchronized
  subst hsz
  have hD := hD0.self (sz := s.heap.size)
  generalize hAe : va_A (wKc ad cI cd te ri pi pw K Dn mv ko so tl lp lb ld le C cl dq dy) s.heap.size = A at hD ⊢
  have hA : ∀ q : Nat, s.heap.size ≤ q → A q := fun q h => by rw [← hAe]; exact Or.inr h
  have hinX1 : ∀ w ∈ u_ws RX1 TX1 8, w ∈ wsX2_addKey := by decide +kernel
  have hinX2 : ∀ w ∈ u_ws RX2 TX2 5, w ∈ wsX2_addKey := by decide +kernel
  have hf16 := hts (.fieldLink RX2 16 "KeyCabinet" "plan" "LKeyCabinet$Plan;") (by decide +kernel)
  have hf41 := hts (.fieldLink RX2 41 "KeyCabinet$Plan" "keys" "I") (by decide +kernel)
  have hl := lv_entry ([.ref (ad 14), .int code]) (n := 2) (Nat.le_of_ble_eq_true rfl)
  rw [lg_entry_eq]
  generalize (lg_sl ([.ref (ad 14), .int code]) ++ List.replicate (2 - (lg_sl ([.ref (ad 14), .int code])).length) Slot.unset).toArray = ls at hl ⊢
  have hl : lv_has ls 2 [(0, .ref (ad 14)), (1, .int code)] := hl
  refine W.genH (fun H locs eH eL => ?_)
  have hS : va_S A s.heap H locs := by rw [eH, eL]; exact va_S.rf
  have hP : va_P D vwCl (wKc ad cI cd te ri pi pw K Dn mv ko so tl lp lb ld le C cl dq dy) H := by rw [eH]; exact hP
  clear eH eL
  refine lv_iload_n hx hb dX2_addKey_0 rfl (lv_at hl 1 rfl) ?_
  refine lv_if_lt (tgt := 11) hx hb dX2_addKey_1 (by decide) (fun c_1 => ?_) (fun c_1 => ?_)
  · exact absurd c_1 h1
  · refine lv_iload_n hx hb dX2_addKey_4 rfl (lv_at hl 1 rfl) ?_
    refine lv_sipush (v := 1024) hx hb dX2_addKey_5 (by decide) ?_
    refine lv_icmp_lt (tgt := 21) hx hb dX2_addKey_8 (by decide) (fun c_8 => ?_) (fun c_8 => ?_)
    · refine lv_aload_n hx hb dX2_addKey_21 rfl (lv_at hl 0 rfl) ?_
      refine va_get (D := D) (ci := 2) (v := .ref (ad 0)) (C := RX2) (T := TX2) (N := 5) hx hb hts hinX2 hown hK.1 hP 14 rfl rfl 0 (by decide) hf16 (fun _ h9 => h9) rfl dX2_addKey_22 ?_
      refine va_get (D := D) (ci := 1) (v := .int (nI K)) (C := RX1) (T := TX1) (N := 8) hx hb hts hinX1 hown hK.1 hP 0 rfl rfl 5 (by decide) hf41 (fun _ h9 => h9) rfl dX2_addKey_25 ?_
      refine lv_bipush (v := 8) hx hb dX2_addKey_28 (by decide) ?_
      refine lv_icmp_lt (tgt := 43) hx hb dX2_addKey_30 (by decide) (fun c_30 => ?_) (fun c_30 => ?_)
      · refine lv_aload_n hx hb dX2_addKey_43 rfl (lv_at hl 0 rfl) ?_
        refine va_get (D := D) (ci := 2) (v := .ref (ad 0)) (C := RX2) (T := TX2) (N := 5) hx hb hts hinX2 hown hK.1 hP 14 rfl rfl 0 (by decide) hf16 (fun _ h9 => h9) rfl dX2_addKey_44 ?_
        refine lv_iload_n hx hb dX2_addKey_47 rfl (lv_at hl 1 rfl) ?_
        refine kc_rVi (As := [.int code]) (rest := []) ⟨hx, hb, hml, hown, hts⟩ (c_X1_isTaken l D ad cI cd te ri pi pw K Dn mv code (by first | assumption | omega)) (cwV 1 hts gX2_addKey_X1_isTaken rfl rfl rfl (by decide +kernel) ⟨Nat.le_of_ble_eq_true rfl, Nat.le_of_ble_eq_true rfl⟩) hK hP [0, 1, 2, 3, 4, 5] [0] rfl rfl 0 rfl rfl rfl rfl hl.1 rfl (Nat.le_of_ble_eq_true rfl) dX2_addKey_48 ⟨Nat.le_of_ble_eq_true rfl, Nat.le_of_ble_eq_true rfl⟩ ?_
        refine kc_ifeqB (tgt := 64) hx hb dX2_addKey_51 (by decide) (fun c_51 => ?_) (fun c_51 => ?_)
        · refine lv_aload_n hx hb dX2_addKey_64 rfl (lv_at hl 0 rfl) ?_
          refine va_get (D := D) (ci := 2) (v := .ref (ad 0)) (C := RX2) (T := TX2) (N := 5) hx hb hts hinX2 hown hK.1 hP 14 rfl rfl 0 (by decide) hf16 (fun _ h9 => h9) rfl dX2_addKey_65 ?_
          refine lv_iload_n hx hb dX2_addKey_68 rfl (lv_at hl 1 rfl) ?_
          refine kc_wVi (w1 := wPl ad cI (upd cd K code) (upd te K (jTeeth code 5)) ri pi pw (K + 1) Dn mv) (wr := [(ad 6, .inr (0, [.ref (ad 7), .ref (ad 8), .ref (ad 9), .ref (ad 10), .ref (ad 11), .ref (ad 12), .ref (ad 13), .int (nI C)])), (ad 7, .inl (cI, 24, .inl ko)), (ad 8, .inl (cI, 24, .inl so)), (ad 9, .inl (cI, 24, .inl tl)), (ad 10, .inl (cI, 216, .inl lp)), (ad 11, .inl (cI, 216, .inl lb)), (ad 12, .inl (cI, 216, .inl ld)), (ad 13, .inl (cI, 216, .inl le)), (ad 14, .inr (2, [.ref (ad 0), .ref (ad 6), .ref (ad 15), .ref (ad 16), .int dy])), (ad 15, .inl (cI, 8, .inl cl)), (ad 16, .inl (cI, 8, .inl dq))]) (ws1 := wKc ad cI (upd cd K code) (upd te K (jTeeth code 5)) ri pi pw (K + 1) Dn mv ko so tl lp lb ld le C cl dq dy) (As := [.int code]) (rest := []) ⟨hx, hb, hml, hown, hts⟩ (c_X1_takeKey l D ad cI cd te ri pi pw K Dn mv code H.size hK7) (cwV 1 hts gX2_addKey_X1_takeKey rfl rfl rfl (by decide +kernel) ⟨Nat.le_of_ble_eq_true rfl, Nat.le_of_ble_eq_true rfl⟩) hK hP hD hS hA [0, 1, 2, 3, 4, 5] [6, 7, 8, 9, 10, 11, 12, 13, 14, 15, 16] [11, 12, 13, 14, 15, 16, 0, 1, 2, 3, 4, 5, 6, 7, 8, 9, 10] [0] rfl rfl rfl rfl (by decide) rfl rfl rfl 0 rfl rfl rfl rfl hl.1 rfl (Nat.le_of_ble_eq_true rfl) dX2_addKey_69 ⟨Nat.le_of_ble_eq_true rfl, Nat.le_of_ble_eq_true rfl⟩ (fun H locs hP hD hS => ?_)
          exact W.iret (v := nI K) hx hb hr (fun tZ htZ hWZ => ⟨⟨_, (), rfl, rfl, by rw [htZ]; exact hP, by rw [hAe]; exact hD⟩, hS.F htZ⟩) hS.2.2 dX2_addKey_72
        · exact absurd c_51 hf
      · exact absurd (nI_lt (b := 8) hK7 (by omega)) c_30
    · exact absurd h2 c_8
set_option maxHeartbeats 4000000 in
set_option maxRecDepth 100000 in
theorem c_X2_addDoor_ok (l : Launch) (D : va_G) (ad : Nat → Nat) (cI : ClassId) (cd : Nat → Int32) (te : Nat → Int32) (ri : Nat → Int32) (pi : Nat → Int32) (pw : Nat → Int32) (K : Nat) (Dn : Nat) (mv : Int32) (ko : Nat → Int32) (so : Nat → Int32) (tl : Nat → Int32) (lp : Nat → Int32) (lb : Nat → Int32) (ld : Nat → Int32) (le : Nat → Int32) (C : Nat) (cl : Nat → Int32) (dq : Nat → Int32) (dy : Int32) (r : Int32) (sz : Nat) (hK8 : K ≤ 8) (hs : jSetOf K r = true) (hD7 : Dn < 8) : Met l yX2_addDoor wsX2_addDoor ({ frames := 4, cells := 0, slots := 0, locals := 89 } : Room) (wrP [.ref (ad 14), .int r] D sz (wKc ad cI cd te ri pi pw K Dn mv ko so tl lp lb ld le C cl dq dy) [(cI, .int)]) (va_Qi (fun rZ (_ : Unit) => rZ = nI Dn) (wrB D sz (wKc ad cI cd te ri pi pw K Dn mv ko so tl lp lb ld le C cl dq dy) (wKc ad cI cd te (upd ri Dn r) (upd pi Dn (jPinsFor te r K)) pw K (Dn + 1) (mv + jPop (pi Dn ^^^ jPinsFor te r K)) ko so tl lp lb ld le C cl dq dy)) (va_A (wKc ad cI cd te ri pi pw K Dn mv ko so tl lp lb ld le C cl dq dy) sz)) 0 0 (va_A (wKc ad cI cd te ri pi pw K Dn mv ko so tl lp lb ld le C cl dq dy) sz) := by
  refine Met.ofW (cc := cX2_addDoor) (maxL := 2) (ret := (some .int)) (by decide) rfl ?_
  intro p e s m args below meth c s₁ B hml hv
  obtain ⟨rfl, hsz, hP, hD0, hK⟩ := hv
  have hx := B.exec
  have hb := B.bytes
  have hr := B.returns
  have hts := atoms_spec (ws := wsX2_addDoor) B.pre
  have hown : s.vm.findClass RX2 = some m.cls := findClass_of_methodNamed B.named
  have hlocks := B.notSynchronized
  subst hsz
  have hD := hD0.self (sz := s.heap.size)
  generalize hAe : va_A (wKc ad cI cd te ri pi pw K Dn mv ko so tl lp lb ld le C cl dq dy) s.heap.size = A at hD ⊢
  have hA : ∀ q : Nat, s.heap.size ≤ q → A q := fun q h => by rw [← hAe]; exact Or.inr h
  have hinX1 : ∀ w ∈ u_ws RX1 TX1 8, w ∈ wsX2_addDoor := by decide +kernel
  have hinX2 : ∀ w ∈ u_ws RX2 TX2 5, w ∈ wsX2_addDoor := by decide +kernel
  have hf16 := hts (.fieldLink RX2 16 "KeyCabinet" "plan" "LKeyCabinet$Plan;") (by decide +kernel)
  have hf63 := hts (.fieldLink RX2 63 "KeyCabinet$Plan" "doors" "I") (by decide +kernel)
  have hl := lv_entry ([.ref (ad 14), .int r]) (n := 2) (Nat.le_of_ble_eq_true rfl)
  rw [lg_entry_eq]
  generalize (lg_sl ([.ref (ad 14), .int r]) ++ List.replicate (2 - (lg_sl ([.ref (ad 14), .int r])).length) Slot.unset).toArray = ls at hl ⊢
  have hl : lv_has ls 2 [(0, .ref (ad 14)), (1, .int r)] := hl
  refine W.genH (fun H locs eH eL => ?_)
  have hS : va_S A s.heap H locs := by rw [eH, eL]; exact va_S.rf
  have hP : va_P D vwCl (wKc ad cI cd te ri pi pw K Dn mv ko so tl lp lb ld le C cl dq dy) H := by rw [eH]; exact hP
  clear eH eL
  refine lv_aload_n hx hb dX2_addDoor_0 rfl (lv_at hl 0 rfl) ?_
  refine lv_iload_n hx hb dX2_addDoor_1 rfl (lv_at hl 1 rfl) ?_
  refine kc_rVv (As := [.int r]) (rest := []) ⟨hx, hb, hml, hown, hts⟩ (c_X2_needRights l D ad cI cd te ri pi pw K Dn mv ko so tl lp lb ld le C cl dq dy r hs) (cwV 1 hts gX2_addDoor_X2_needRights rfl rfl rfl (by decide +kernel) ⟨Nat.le_of_ble_eq_true rfl, Nat.le_of_ble_eq_true rfl⟩) hK hP [0, 1, 2, 3, 4, 5, 6, 7, 8, 9, 10, 11, 12, 13, 14, 15, 16] [0] rfl rfl 14 rfl rfl rfl rfl hl.1 rfl (Nat.le_of_ble_eq_true rfl) dX2_addDoor_2 ⟨Nat.le_of_ble_eq_true rfl, Nat.le_of_ble_eq_true rfl⟩ ?_
  refine lv_aload_n hx hb dX2_addDoor_5 rfl (lv_at hl 0 rfl) ?_
  refine va_get (D := D) (ci := 2) (v := .ref (ad 0)) (C := RX2) (T := TX2) (N := 5) hx hb hts hinX2 hown hK.1 hP 14 rfl rfl 0 (by decide) hf16 (fun _ h9 => h9) rfl dX2_addDoor_6 ?_
  refine va_get (D := D) (ci := 1) (v := .int (nI Dn)) (C := RX1) (T := TX1) (N := 8) hx hb hts hinX1 hown hK.1 hP 0 rfl rfl 6 (by decide) hf63 (fun _ h9 => h9) rfl dX2_addDoor_9 ?_
  refine lv_bipush (v := 8) hx hb dX2_addDoor_12 (by decide) ?_
  refine lv_icmp_lt (tgt := 27) hx hb dX2_addDoor_14 (by decide) (fun c_14 => ?_) (fun c_14 => ?_)
  · refine lv_aload_n hx hb dX2_addDoor_27 rfl (lv_at hl 0 rfl) ?_
    refine va_get (D := D) (ci := 2) (v := .ref (ad 0)) (C := RX2) (T := TX2) (N := 5) hx hb hts hinX2 hown hK.1 hP 14 rfl rfl 0 (by decide) hf16 (fun _ h9 => h9) rfl dX2_addDoor_28 ?_
    refine lv_iload_n hx hb dX2_addDoor_31 rfl (lv_at hl 1 rfl) ?_
    refine kc_wVi (w1 := wPl ad cI cd te (upd ri Dn r) (upd pi Dn (jPinsFor te r K)) pw K (Dn + 1) (mv + jPop (pi Dn ^^^ jPinsFor te r K))) (wr := [(ad 6, .inr (0, [.ref (ad 7), .ref (ad 8), .ref (ad 9), .ref (ad 10), .ref (ad 11), .ref (ad 12), .ref (ad 13), .int (nI C)])), (ad 7, .inl (cI, 24, .inl ko)), (ad 8, .inl (cI, 24, .inl so)), (ad 9, .inl (cI, 24, .inl tl)), (ad 10, .inl (cI, 216, .inl lp)), (ad 11, .inl (cI, 216, .inl lb)), (ad 12, .inl (cI, 216, .inl ld)), (ad 13, .inl (cI, 216, .inl le)), (ad 14, .inr (2, [.ref (ad 0), .ref (ad 6), .ref (ad 15), .ref (ad 16), .int dy])), (ad 15, .inl (cI, 8, .inl cl)), (ad 16, .inl (cI, 8, .inl dq))]) (ws1 := wKc ad cI cd te (upd ri Dn r) (upd pi Dn (jPinsFor te r K)) pw K (Dn + 1) (mv + jPop (pi Dn ^^^ jPinsFor te r K)) ko so tl lp lb ld le C cl dq dy) (As := [.int r]) (rest := []) ⟨hx, hb, hml, hown, hts⟩ (c_X1_takeDoor l D ad cI cd te ri pi pw K Dn mv r H.size hK8 hD7) (cwV 1 hts gX2_addDoor_X1_takeDoor rfl rfl rfl (by decide +kernel) ⟨Nat.le_of_ble_eq_true rfl, Nat.le_of_ble_eq_true rfl⟩) hK hP hD hS hA [0, 1, 2, 3, 4, 5] [6, 7, 8, 9, 10, 11, 12, 13, 14, 15, 16] [11, 12, 13, 14, 15, 16, 0, 1, 2, 3, 4, 5, 6, 7, 8, 9, 10] [0] rfl rfl rfl rfl (by decide) rfl rfl rfl 0 rfl rfl rfl rfl hl.1 rfl (Nat.le_of_ble_eq_true rfl) dX2_addDoor_32 ⟨Nat.le_of_ble_eq_true rfl, Nat.le_of_ble_eq_true rfl⟩ (fun H locs hP hD hS => ?_)
    exact W.iret (v := nI Dn) hx hb hr (fun tZ htZ hWZ => ⟨⟨_, (), rfl, rfl, by rw [htZ]; exact hP, by rw [hAe]; exact hD⟩, hS.F htZ⟩) hS.2.2 dX2_addDoor_35
  · exact absurd (nI_lt (b := 8) hD7 (by omega)) c_14
set_option maxHeartbeats 4000000 in
set_option maxRecDepth 100000 in
theorem c_X2_setRights_ok (l : Launch) (D : va_G) (ad : Nat → Nat) (cI : ClassId) (cd : Nat → Int32) (te : Nat → Int32) (ri : Nat → Int32) (pi : Nat → Int32) (pw : Nat → Int32) (K : Nat) (Dn : Nat) (mv : Int32) (ko : Nat → Int32) (so : Nat → Int32) (tl : Nat → Int32) (lp : Nat → Int32) (lb : Nat → Int32) (ld : Nat → Int32) (le : Nat → Int32) (C : Nat) (cl : Nat → Int32) (dq : Nat → Int32) (dy : Int32) (d : Nat) (r : Int32) (sz : Nat) (hK8 : K ≤ 8) (hD8 : Dn ≤ 8) (hd : d < Dn) (hs : jSetOf K r = true) : Met l yX2_setRights wsX2_setRights ({ frames := 3, cells := 0, slots := 0, locals := 67 } : Room) (wrP [.ref (ad 14), .int (nI d), .int r] D sz (wKc ad cI cd te ri pi pw K Dn mv ko so tl lp lb ld le C cl dq dy) [(cI, .int)]) (va_Qi (fun rZ (_ : Unit) => rZ = ri d) (wrB D sz (wKc ad cI cd te ri pi pw K Dn mv ko so tl lp lb ld le C cl dq dy) (wKc ad cI cd te (upd ri d r) (upd pi d (jPinsFor te r K)) pw K Dn (mv + jPop (pi d ^^^ jPinsFor te r K)) ko so tl lp lb ld le C cl dq dy)) (va_A (wKc ad cI cd te ri pi pw K Dn mv ko so tl lp lb ld le C cl dq dy) sz)) 0 0 (va_A (wKc ad cI cd te ri pi pw K Dn mv ko so tl lp lb ld le C cl dq dy) sz) := by
  refine Met.ofW (cc := cX2_setRights) (maxL := 4) (ret := (some .int)) (by decide) rfl ?_
  intro p e s m args below meth c s₁ B hml hv
  obtain ⟨rfl, hsz, hP, hD0, hK⟩ := hv
  have hx := B.exec
  have hb := B.bytes
  have hr := B.returns
  have hts := atoms_spec (ws := wsX2_setRights) B.pre
  have hown : s.vm.findClass RX2 = some m.cls := findClass_of_methodNamed B.named
  have hlocks := B.notSynchronized
  subst hsz
  have hD := hD0.self (sz := s.heap.size)
  generalize hAe : va_A (wKc ad cI cd te ri pi pw K Dn mv ko so tl lp lb ld le C cl dq dy) s.heap.size = A at hD ⊢
  have hA : ∀ q : Nat, s.heap.size ≤ q → A q := fun q h => by rw [← hAe]; exact Or.inr h
  have hinX1 : ∀ w ∈ u_ws RX1 TX1 8, w ∈ wsX2_setRights := by decide +kernel
  have hinX2 : ∀ w ∈ u_ws RX2 TX2 5, w ∈ wsX2_setRights := by decide +kernel
  have hf16 := hts (.fieldLink RX2 16 "KeyCabinet" "plan" "LKeyCabinet$Plan;") (by decide +kernel)
  have hf74 := hts (.fieldLink RX2 74 "KeyCabinet$Plan" "rightsOf" "[I") (by decide +kernel)
  have hl := lv_entry ([.ref (ad 14), .int (nI d), .int r]) (n := 4) (Nat.le_of_ble_eq_true rfl)
  rw [lg_entry_eq]
  generalize (lg_sl ([.ref (ad 14), .int (nI d), .int r]) ++ List.replicate (4 - (lg_sl ([.ref (ad 14), .int (nI d), .int r])).length) Slot.unset).toArray = ls at hl ⊢
  have hl : lv_has ls 4 [(0, .ref (ad 14)), (1, .int (nI d)), (2, .int r)] := hl
  refine W.genH (fun H locs eH eL => ?_)
  have hS : va_S A s.heap H locs := by rw [eH, eL]; exact va_S.rf
  have hP : va_P D vwCl (wKc ad cI cd te ri pi pw K Dn mv ko so tl lp lb ld le C cl dq dy) H := by rw [eH]; exact hP
  clear eH eL
  refine lv_aload_n hx hb dX2_setRights_0 rfl (lv_at hl 0 rfl) ?_
  refine lv_iload_n hx hb dX2_setRights_1 rfl (lv_at hl 1 rfl) ?_
  refine kc_rVv (As := [.int (nI d)]) (rest := []) ⟨hx, hb, hml, hown, hts⟩ (c_X2_needDoor l D ad cI cd te ri pi pw K Dn mv ko so tl lp lb ld le C cl dq dy d hd hD8) (cwV 1 hts gX2_setRights_X2_needDoor rfl rfl rfl (by decide +kernel) ⟨Nat.le_of_ble_eq_true rfl, Nat.le_of_ble_eq_true rfl⟩) hK hP [0, 1, 2, 3, 4, 5, 6, 7, 8, 9, 10, 11, 12, 13, 14, 15, 16] [0] rfl rfl 14 rfl rfl rfl rfl hl.1 rfl (Nat.le_of_ble_eq_true rfl) dX2_setRights_2 ⟨Nat.le_of_ble_eq_true rfl, Nat.le_of_ble_eq_true rfl⟩ ?_
  refine lv_aload_n hx hb dX2_setRights_5 rfl (lv_at hl 0 rfl) ?_
  refine lv_iload_n hx hb dX2_setRights_6 rfl (lv_at hl 2 rfl) ?_
  refine kc_rVv (As := [.int r]) (rest := []) ⟨hx, hb, hml, hown, hts⟩ (c_X2_needRights l D ad cI cd te ri pi pw K Dn mv ko so tl lp lb ld le C cl dq dy r hs) (cwV 1 hts gX2_setRights_X2_needRights rfl rfl rfl (by decide +kernel) ⟨Nat.le_of_ble_eq_true rfl, Nat.le_of_ble_eq_true rfl⟩) hK hP [0, 1, 2, 3, 4, 5, 6, 7, 8, 9, 10, 11, 12, 13, 14, 15, 16] [0] rfl rfl 14 rfl rfl rfl rfl hl.1 rfl (Nat.le_of_ble_eq_true rfl) dX2_setRights_7 ⟨Nat.le_of_ble_eq_true rfl, Nat.le_of_ble_eq_true rfl⟩ ?_
  refine lv_aload_n hx hb dX2_setRights_10 rfl (lv_at hl 0 rfl) ?_
  refine va_get (D := D) (ci := 2) (v := .ref (ad 0)) (C := RX2) (T := TX2) (N := 5) hx hb hts hinX2 hown hK.1 hP 14 rfl rfl 0 (by decide) hf16 (fun _ h9 => h9) rfl dX2_setRights_11 ?_
  refine va_get (D := D) (ci := 1) (v := .ref (ad 3)) (C := RX1) (T := TX1) (N := 8) hx hb hts hinX1 hown hK.1 hP 0 rfl rfl 2 (by decide) hf74 (fun _ h9 => h9) rfl dX2_setRights_14 ?_
  refine lv_iload_n hx hb dX2_setRights_17 rfl (lv_at hl 1 rfl) ?_
  refine kc_ald (i := d) (n := 8) hx hb hK hP 3 0 rfl rfl (by omega) (by decide) dX2_setRights_18 ?_
  refine lv_istore_n (lv' := [(3, .int (ri d)), (0, .ref (ad 14)), (1, .int (nI d)), (2, .int r)]) hx hb dX2_setRights_19 rfl hl (by decide) rfl (fun ls hl => ?_)
  refine lv_aload_n hx hb dX2_setRights_20 rfl (lv_at hl 1 rfl) ?_
  refine va_get (D := D) (ci := 2) (v := .ref (ad 0)) (C := RX2) (T := TX2) (N := 5) hx hb hts hinX2 hown hK.1 hP 14 rfl rfl 0 (by decide) hf16 (fun _ h9 => h9) rfl dX2_setRights_21 ?_
  refine lv_iload_n hx hb dX2_setRights_24 rfl (lv_at hl 2 rfl) ?_
  refine lv_iload_n hx hb dX2_setRights_25 rfl (lv_at hl 3 rfl) ?_
  refine kc_wVv (w1 := wPl ad cI cd te (upd ri d r) (upd pi d (jPinsFor te r K)) pw K Dn (mv + jPop (pi d ^^^ jPinsFor te r K))) (wr := [(ad 6, .inr (0, [.ref (ad 7), .ref (ad 8), .ref (ad 9), .ref (ad 10), .ref (ad 11), .ref (ad 12), .ref (ad 13), .int (nI C)])), (ad 7, .inl (cI, 24, .inl ko)), (ad 8, .inl (cI, 24, .inl so)), (ad 9, .inl (cI, 24, .inl tl)), (ad 10, .inl (cI, 216, .inl lp)), (ad 11, .inl (cI, 216, .inl lb)), (ad 12, .inl (cI, 216, .inl ld)), (ad 13, .inl (cI, 216, .inl le)), (ad 14, .inr (2, [.ref (ad 0), .ref (ad 6), .ref (ad 15), .ref (ad 16), .int dy])), (ad 15, .inl (cI, 8, .inl cl)), (ad 16, .inl (cI, 8, .inl dq))]) (ws1 := wKc ad cI cd te (upd ri d r) (upd pi d (jPinsFor te r K)) pw K Dn (mv + jPop (pi d ^^^ jPinsFor te r K)) ko so tl lp lb ld le C cl dq dy) (As := [.int (nI d), .int r]) (rest := []) ⟨hx, hb, hml, hown, hts⟩ (c_X1_giveRights l D ad cI cd te ri pi pw K Dn mv d r H.size hK8 (by first | assumption | omega)) (cwV 2 hts gX2_setRights_X1_giveRights rfl rfl rfl (by decide +kernel) ⟨Nat.le_of_ble_eq_true rfl, Nat.le_of_ble_eq_true rfl⟩) hK hP hD hS hA [0, 1, 2, 3, 4, 5] [6, 7, 8, 9, 10, 11, 12, 13, 14, 15, 16] [11, 12, 13, 14, 15, 16, 0, 1, 2, 3, 4, 5, 6, 7, 8, 9, 10] [0] rfl rfl rfl rfl (by decide) rfl rfl rfl 0 rfl rfl rfl rfl hl.1 rfl (Nat.le_of_ble_eq_true rfl) dX2_setRights_26 ⟨Nat.le_of_ble_eq_true rfl, Nat.le_of_ble_eq_true rfl⟩ (fun H locs hP hD hS => ?_)
  refine lv_iload_n hx hb dX2_setRights_29 rfl (lv_at hl 0 rfl) ?_
  exact W.iret (v := ri d) hx hb hr (fun tZ htZ hWZ => ⟨⟨_, (), rfl, rfl, by rw [htZ]; exact hP, by rw [hAe]; exact hD⟩, hS.F htZ⟩) hS.2.2 dX2_setRights_30
set_option maxHeartbeats 4000000 in
set_option maxRecDepth 100000 in
theorem c_X2_replace_none (l : Launch) (D : va_G) (ad : Nat → Nat) (cI : ClassId) (cd : Nat → Int32) (te : Nat → Int32) (ri : Nat → Int32) (pi : Nat → Int32) (pw : Nat → Int32) (K : Nat) (Dn : Nat) (mv : Int32) (ko : Nat → Int32) (so : Nat → Int32) (tl : Nat → Int32) (lp : Nat → Int32) (lb : Nat → Int32) (ld : Nat → Int32) (le : Nat → Int32) (C : Nat) (cl : Nat → Int32) (dq : Nat → Int32) (dy : Int32) (k : Nat) (sz : Nat) (hK8 : K ≤ 8) (hD8 : Dn ≤ 8) (hk : k < K) (hne : (jBest cd te ri pi (jWithout te ri K k pw Dn) K Dn k 1024).1 = (-1)) : Met l yX2_replace wsX2_replace ({ frames := 3, cells := 0, slots := 0, locals := 80 } : Room) (wrP [.ref (ad 14), .int (nI k)] D sz (wKc ad cI cd te ri pi pw K Dn mv ko so tl lp lb ld le C cl dq dy) [(cI, .int)]) (va_Qi (fun rZ (_ : Unit) => rZ = -1) (wrB D sz (wKc ad cI cd te ri pi pw K Dn mv ko so tl lp lb ld le C cl dq dy) (wKc ad cI cd te ri pi (jWithout te ri K k pw Dn) K Dn mv ko so tl lp lb ld le C cl dq dy)) (va_A (wKc ad cI cd te ri pi pw K Dn mv ko so tl lp lb ld le C cl dq dy) sz)) 0 0 (va_A (wKc ad cI cd te ri pi pw K Dn mv ko so tl lp lb ld le C cl dq dy) sz) := by
  refine Met.ofW (cc := cX2_replace) (maxL := 3) (ret := (some .int)) (by decide) rfl ?_
  intro p e s m args below meth c s₁ B hml hv
  obtain ⟨rfl, hsz, hP, hD0, hK⟩ := hv
  have hx := B.exec
  have hb := B.bytes
  have hr := B.returns
  have hts := atoms_spec (ws := wsX2_replace) B.pre
  have hown : s.vm.findClass RX2 = some m.cls := findClass_of_methodNamed B.named
  have hlocks := B.notSynchronized
  subst hsz
  have hD := hD0.self (sz := s.heap.size)
  generalize hAe : va_A (wKc ad cI cd te ri pi pw K Dn mv ko so tl lp lb ld le C cl dq dy) s.heap.size = A at hD ⊢
  have hA : ∀ q : Nat, s.heap.size ≤ q → A q := fun q h => by rw [← hAe]; exact Or.inr h
  have hinX2 : ∀ w ∈ u_ws RX2 TX2 5, w ∈ wsX2_replace := by decide +kernel
  have hf16 := hts (.fieldLink RX2 16 "KeyCabinet" "plan" "LKeyCabinet$Plan;") (by decide +kernel)
  have hl := lv_entry ([.ref (ad 14), .int (nI k)]) (n := 3) (Nat.le_of_ble_eq_true rfl)
  rw [lg_entry_eq]
  generalize (lg_sl ([.ref (ad 14), .int (nI k)]) ++ List.replicate (3 - (lg_sl ([.ref (ad 14), .int (nI k)])).length) Slot.unset).toArray = ls at hl ⊢
  have hl : lv_has ls 3 [(0, .ref (ad 14)), (1, .int (nI k))] := hl
  refine W.genH (fun H locs eH eL => ?_)
  have hS : va_S A s.heap H locs := by rw [eH, eL]; exact va_S.rf
  have hP : va_P D vwCl (wKc ad cI cd te ri pi pw K Dn mv ko so tl lp lb ld le C cl dq dy) H := by rw [eH]; exact hP
  clear eH eL
  refine lv_aload_n hx hb dX2_replace_0 rfl (lv_at hl 0 rfl) ?_
  refine lv_iload_n hx hb dX2_replace_1 rfl (lv_at hl 1 rfl) ?_
  refine kc_rVv (As := [.int (nI k)]) (rest := []) ⟨hx, hb, hml, hown, hts⟩ (c_X2_needKey l D ad cI cd te ri pi pw K Dn mv ko so tl lp lb ld le C cl dq dy k hk hK8) (cwV 1 hts gX2_replace_X2_needKey rfl rfl rfl (by decide +kernel) ⟨Nat.le_of_ble_eq_true rfl, Nat.le_of_ble_eq_true rfl⟩) hK hP [0, 1, 2, 3, 4, 5, 6, 7, 8, 9, 10, 11, 12, 13, 14, 15, 16] [0] rfl rfl 14 rfl rfl rfl rfl hl.1 rfl (Nat.le_of_ble_eq_true rfl) dX2_replace_2 ⟨Nat.le_of_ble_eq_true rfl, Nat.le_of_ble_eq_true rfl⟩ ?_
  refine lv_aload_n hx hb dX2_replace_5 rfl (lv_at hl 0 rfl) ?_
  refine va_get (D := D) (ci := 2) (v := .ref (ad 0)) (C := RX2) (T := TX2) (N := 5) hx hb hts hinX2 hown hK.1 hP 14 rfl rfl 0 (by decide) hf16 (fun _ h9 => h9) rfl dX2_replace_6 ?_
  refine lv_iload_n hx hb dX2_replace_9 rfl (lv_at hl 1 rfl) ?_
  refine kc_wVi (w1 := wPl ad cI cd te ri pi (jWithout te ri K k pw Dn) K Dn mv) (wr := [(ad 6, .inr (0, [.ref (ad 7), .ref (ad 8), .ref (ad 9), .ref (ad 10), .ref (ad 11), .ref (ad 12), .ref (ad 13), .int (nI C)])), (ad 7, .inl (cI, 24, .inl ko)), (ad 8, .inl (cI, 24, .inl so)), (ad 9, .inl (cI, 24, .inl tl)), (ad 10, .inl (cI, 216, .inl lp)), (ad 11, .inl (cI, 216, .inl lb)), (ad 12, .inl (cI, 216, .inl ld)), (ad 13, .inl (cI, 216, .inl le)), (ad 14, .inr (2, [.ref (ad 0), .ref (ad 6), .ref (ad 15), .ref (ad 16), .int dy])), (ad 15, .inl (cI, 8, .inl cl)), (ad 16, .inl (cI, 8, .inl dq))]) (ws1 := wKc ad cI cd te ri pi (jWithout te ri K k pw Dn) K Dn mv ko so tl lp lb ld le C cl dq dy) (As := [.int (nI k)]) (rest := []) ⟨hx, hb, hml, hown, hts⟩ (c_X1_bestCodeFor l D ad cI cd te ri pi pw K Dn mv k H.size hK8 hD8 (by first | assumption | omega)) (cwV 1 hts gX2_replace_X1_bestCodeFor rfl rfl rfl (by decide +kernel) ⟨Nat.le_of_ble_eq_true rfl, Nat.le_of_ble_eq_true rfl⟩) hK hP hD hS hA [0, 1, 2, 3, 4, 5] [6, 7, 8, 9, 10, 11, 12, 13, 14, 15, 16] [11, 12, 13, 14, 15, 16, 0, 1, 2, 3, 4, 5, 6, 7, 8, 9, 10] [0] rfl rfl rfl rfl (by decide) rfl rfl rfl 0 rfl rfl rfl rfl hl.1 rfl (Nat.le_of_ble_eq_true rfl) dX2_replace_10 ⟨Nat.le_of_ble_eq_true rfl, Nat.le_of_ble_eq_true rfl⟩ (fun H locs hP hD hS => ?_)
  refine lv_istore_n (lv' := [(2, .int ((jBest cd te ri pi (jWithout te ri K k pw Dn) K Dn k 1024).1)), (0, .ref (ad 14)), (1, .int (nI k))]) hx hb dX2_replace_13 rfl hl (by decide) rfl (fun ls hl => ?_)
  refine lv_iload_n hx hb dX2_replace_14 rfl (lv_at hl 0 rfl) ?_
  refine lv_iconst (v := (-1)) hx hb dX2_replace_15 (by decide) ?_
  refine lv_icmp_ne (tgt := 21) hx hb dX2_replace_16 (by decide) (fun c_16 => ?_) (fun c_16 => ?_)
  · exact absurd hne c_16
  · refine lv_iconst (v := (-1)) hx hb dX2_replace_19 (by decide) ?_
    exact W.iret (v := (-1)) hx hb hr (fun tZ htZ hWZ => ⟨⟨_, (), rfl, rfl, by rw [htZ]; exact hP, by rw [hAe]; exact hD⟩, hS.F htZ⟩) hS.2.2 dX2_replace_20
set_option maxHeartbeats 4000000 in
set_option maxRecDepth 100000 in
theorem c_X2_replace_ok (l : Launch) (D : va_G) (ad : Nat → Nat) (cI : ClassId) (cd : Nat → Int32) (te : Nat → Int32) (ri : Nat → Int32) (pi : Nat → Int32) (pw : Nat → Int32) (K : Nat) (Dn : Nat) (mv : Int32) (ko : Nat → Int32) (so : Nat → Int32) (tl : Nat → Int32) (lp : Nat → Int32) (lb : Nat → Int32) (ld : Nat → Int32) (le : Nat → Int32) (C : Nat) (cl : Nat → Int32) (dq : Nat → Int32) (dy : Int32) (k : Nat) (tn : Nat → Nat) (sz : Nat) (hK8 : K ≤ 8) (hD8 : Dn ≤ 8) (hC24 : C ≤ 24) (hk : k < K) (hok : okLe so tl tn) (hne : ¬ (jBest cd te ri pi (jWithout te ri K k pw Dn) K Dn k 1024).1 = (-1)) : Met l yX2_replace wsX2_replace ({ frames := 3, cells := 0, slots := 0, locals := 80 } : Room) (wrP [.ref (ad 14), .int (nI k)] D sz (wKc ad cI cd te ri pi pw K Dn mv ko so tl lp lb ld le C cl dq dy) [(cI, .int)]) (va_Qi (fun rZ (_ : Unit) => rZ = (jBest cd te ri pi (jWithout te ri K k pw Dn) K Dn k 1024).1) (wrB D sz (wKc ad cI cd te ri pi pw K Dn mv ko so tl lp lb ld le C cl dq dy) (wKc ad cI (upd cd k (jBest cd te ri pi (jWithout te ri K k pw Dn) K Dn k 1024).1) (upd te k (jTeeth (jBest cd te ri pi (jWithout te ri K k pw Dn) K Dn k 1024).1 5)) ri (jRepin (upd te k (jTeeth (jBest cd te ri pi (jWithout te ri K k pw Dn) K Dn k 1024).1 5)) ri K pi Dn) (jWithout te ri K k pw Dn) K Dn (jRework (upd te k (jTeeth (jBest cd te ri pi (jWithout te ri K k pw Dn) K Dn k 1024).1 5)) ri K pi mv Dn) ko (jVoidSo ko (nI k) so C) tl lp lb ld (jVoidEnd ko (nI k) so le tn dy C) C cl dq dy)) (va_A (wKc ad cI cd te ri pi pw K Dn mv ko so tl lp lb ld le C cl dq dy) sz)) 0 0 (va_A (wKc ad cI cd te ri pi pw K Dn mv ko so tl lp lb ld le C cl dq dy) sz) := by
  refine Met.ofW (cc := cX2_replace) (maxL := 3) (ret := (some .int)) (by decide) rfl ?_
  intro p e s m args below meth c s₁ B hml hv
  obtain ⟨rfl, hsz, hP, hD0, hK⟩ := hv
  have hx := B.exec
  have hb := B.bytes
  have hr := B.returns
  have hts := atoms_spec (ws := wsX2_replace) B.pre
  have hown : s.vm.findClass RX2 = some m.cls := findClass_of_methodNamed B.named
  have hlocks := B.notSynchronized
  subst hsz
  have hD := hD0.self (sz := s.heap.size)
  generalize hAe : va_A (wKc ad cI cd te ri pi pw K Dn mv ko so tl lp lb ld le C cl dq dy) s.heap.size = A at hD ⊢
  have hA : ∀ q : Nat, s.heap.size ≤ q → A q := fun q h => by rw [← hAe]; exact Or.inr h
  have hinX2 : ∀ w ∈ u_ws RX2 TX2 5, w ∈ wsX2_replace := by decide +kernel
  have hf16 := hts (.fieldLink RX2 16 "KeyCabinet" "plan" "LKeyCabinet$Plan;") (by decide +kernel)
  have hf23 := hts (.fieldLink RX2 23 "KeyCabinet" "ledger" "LKeyCabinet$Ledger;") (by decide +kernel)
  have hf7 := hts (.fieldLink RX2 7 "KeyCabinet" "day" "I") (by decide +kernel)
  have hl := lv_entry ([.ref (ad 14), .int (nI k)]) (n := 3) (Nat.le_of_ble_eq_true rfl)
  rw [lg_entry_eq]
  generalize (lg_sl ([.ref (ad 14), .int (nI k)]) ++ List.replicate (3 - (lg_sl ([.ref (ad 14), .int (nI k)])).length) Slot.unset).toArray = ls at hl ⊢
  have hl : lv_has ls 3 [(0, .ref (ad 14)), (1, .int (nI k))] := hl
  refine W.genH (fun H locs eH eL => ?_)
  have hS : va_S A s.heap H locs := by rw [eH, eL]; exact va_S.rf
  have hP : va_P D vwCl (wKc ad cI cd te ri pi pw K Dn mv ko so tl lp lb ld le C cl dq dy) H := by rw [eH]; exact hP
  clear eH eL
  refine lv_aload_n hx hb dX2_replace_0 rfl (lv_at hl 0 rfl) ?_
  refine lv_iload_n hx hb dX2_replace_1 rfl (lv_at hl 1 rfl) ?_
  refine kc_rVv (As := [.int (nI k)]) (rest := []) ⟨hx, hb, hml, hown, hts⟩ (c_X2_needKey l D ad cI cd te ri pi pw K Dn mv ko so tl lp lb ld le C cl dq dy k hk hK8) (cwV 1 hts gX2_replace_X2_needKey rfl rfl rfl (by decide +kernel) ⟨Nat.le_of_ble_eq_true rfl, Nat.le_of_ble_eq_true rfl⟩) hK hP [0, 1, 2, 3, 4, 5, 6, 7, 8, 9, 10, 11, 12, 13, 14, 15, 16] [0] rfl rfl 14 rfl rfl rfl rfl hl.1 rfl (Nat.le_of_ble_eq_true rfl) dX2_replace_2 ⟨Nat.le_of_ble_eq_true rfl, Nat.le_of_ble_eq_true rfl⟩ ?_
  refine lv_aload_n hx hb dX2_replace_5 rfl (lv_at hl 0 rfl) ?_
  refine va_get (D := D) (ci := 2) (v := .ref (ad 0)) (C := RX2) (T := TX2) (N := 5) hx hb hts hinX2 hown hK.1 hP 14 rfl rfl 0 (by decide) hf16 (fun _ h9 => h9) rfl dX2_replace_6 ?_
  refine lv_iload_n hx hb dX2_replace_9 rfl (lv_at hl 1 rfl) ?_
  refine kc_wVi (w1 := wPl ad cI cd te ri pi (jWithout te ri K k pw Dn) K Dn mv) (wr := [(ad 6, .inr (0, [.ref (ad 7), .ref (ad 8), .ref (ad 9), .ref (ad 10), .ref (ad 11), .ref (ad 12), .ref (ad 13), .int (nI C)])), (ad 7, .inl (cI, 24, .inl ko)), (ad 8, .inl (cI, 24, .inl so)), (ad 9, .inl (cI, 24, .inl tl)), (ad 10, .inl (cI, 216, .inl lp)), (ad 11, .inl (cI, 216, .inl lb)), (ad 12, .inl (cI, 216, .inl ld)), (ad 13, .inl (cI, 216, .inl le)), (ad 14, .inr (2, [.ref (ad 0), .ref (ad 6), .ref (ad 15), .ref (ad 16), .int dy])), (ad 15, .inl (cI, 8, .inl cl)), (ad 16, .inl (cI, 8, .inl dq))]) (ws1 := wKc ad cI cd te ri pi (jWithout te ri K k pw Dn) K Dn mv ko so tl lp lb ld le C cl dq dy) (As := [.int (nI k)]) (rest := []) ⟨hx, hb, hml, hown, hts⟩ (c_X1_bestCodeFor l D ad cI cd te ri pi pw K Dn mv k H.size hK8 hD8 (by first | assumption | omega)) (cwV 1 hts gX2_replace_X1_bestCodeFor rfl rfl rfl (by decide +kernel) ⟨Nat.le_of_ble_eq_true rfl, Nat.le_of_ble_eq_true rfl⟩) hK hP hD hS hA [0, 1, 2, 3, 4, 5] [6, 7, 8, 9, 10, 11, 12, 13, 14, 15, 16] [11, 12, 13, 14, 15, 16, 0, 1, 2, 3, 4, 5, 6, 7, 8, 9, 10] [0] rfl rfl rfl rfl (by decide) rfl rfl rfl 0 rfl rfl rfl rfl hl.1 rfl (Nat.le_of_ble_eq_true rfl) dX2_replace_10 ⟨Nat.le_of_ble_eq_true rfl, Nat.le_of_ble_eq_true rfl⟩ (fun H locs hP hD hS => ?_)
  refine lv_istore_n (lv' := [(2, .int ((jBest cd te ri pi (jWithout te ri K k pw Dn) K Dn k 1024).1)), (0, .ref (ad 14)), (1, .int (nI k))]) hx hb dX2_replace_13 rfl hl (by decide) rfl (fun ls hl => ?_)
  refine lv_iload_n hx hb dX2_replace_14 rfl (lv_at hl 0 rfl) ?_
  refine lv_iconst (v := (-1)) hx hb dX2_replace_15 (by decide) ?_
  refine lv_icmp_ne (tgt := 21) hx hb dX2_replace_16 (by decide) (fun c_16 => ?_) (fun c_16 => ?_)
  · refine lv_aload_n hx hb dX2_replace_21 rfl (lv_at hl 1 rfl) ?_
    refine va_get (D := D) (ci := 2) (v := .ref (ad 0)) (C := RX2) (T := TX2) (N := 5) hx hb hts hinX2 hown hK.1 hP 14 rfl rfl 0 (by decide) hf16 (fun _ h9 => h9) rfl dX2_replace_22 ?_
    refine lv_iload_n hx hb dX2_replace_25 rfl (lv_at hl 2 rfl) ?_
    refine lv_iload_n hx hb dX2_replace_26 rfl (lv_at hl 0 rfl) ?_
    refine kc_wVv (w1 := wPl ad cI (upd cd k ((jBest cd te ri pi (jWithout te ri K k pw Dn) K Dn k 1024).1)) (upd te k (jTeeth ((jBest cd te ri pi (jWithout te ri K k pw Dn) K Dn k 1024).1) 5)) ri (jRepin (upd te k (jTeeth ((jBest cd te ri pi (jWithout te ri K k pw Dn) K Dn k 1024).1) 5)) ri K pi Dn) (jWithout te ri K k pw Dn) K Dn (jRework (upd te k (jTeeth ((jBest cd te ri pi (jWithout te ri K k pw Dn) K Dn k 1024).1) 5)) ri K pi mv Dn)) (wr := [(ad 6, .inr (0, [.ref (ad 7), .ref (ad 8), .ref (ad 9), .ref (ad 10), .ref (ad 11), .ref (ad 12), .ref (ad 13), .int (nI C)])), (ad 7, .inl (cI, 24, .inl ko)), (ad 8, .inl (cI, 24, .inl so)), (ad 9, .inl (cI, 24, .inl tl)), (ad 10, .inl (cI, 216, .inl lp)), (ad 11, .inl (cI, 216, .inl lb)), (ad 12, .inl (cI, 216, .inl ld)), (ad 13, .inl (cI, 216, .inl le)), (ad 14, .inr (2, [.ref (ad 0), .ref (ad 6), .ref (ad 15), .ref (ad 16), .int dy])), (ad 15, .inl (cI, 8, .inl cl)), (ad 16, .inl (cI, 8, .inl dq))]) (ws1 := wKc ad cI (upd cd k ((jBest cd te ri pi (jWithout te ri K k pw Dn) K Dn k 1024).1)) (upd te k (jTeeth ((jBest cd te ri pi (jWithout te ri K k pw Dn) K Dn k 1024).1) 5)) ri (jRepin (upd te k (jTeeth ((jBest cd te ri pi (jWithout te ri K k pw Dn) K Dn k 1024).1) 5)) ri K pi Dn) (jWithout te ri K k pw Dn) K Dn (jRework (upd te k (jTeeth ((jBest cd te ri pi (jWithout te ri K k pw Dn) K Dn k 1024).1) 5)) ri K pi mv Dn) ko so tl lp lb ld le C cl dq dy) (As := [.int (nI k), .int ((jBest cd te ri pi (jWithout te ri K k pw Dn) K Dn k 1024).1)]) (rest := []) ⟨hx, hb, hml, hown, hts⟩ (c_X1_giveCode l D ad cI cd te ri pi (jWithout te ri K k pw Dn) K Dn mv k ((jBest cd te ri pi (jWithout te ri K k pw Dn) K Dn k 1024).1) H.size hK8 hD8 (by first | assumption | omega)) (cwV 2 hts gX2_replace_X1_giveCode rfl rfl rfl (by decide +kernel) ⟨Nat.le_of_ble_eq_true rfl, Nat.le_of_ble_eq_true rfl⟩) hK hP hD hS hA [0, 1, 2, 3, 4, 5] [6, 7, 8, 9, 10, 11, 12, 13, 14, 15, 16] [11, 12, 13, 14, 15, 16, 0, 1, 2, 3, 4, 5, 6, 7, 8, 9, 10] [0] rfl rfl rfl rfl (by decide) rfl rfl rfl 0 rfl rfl rfl rfl hl.1 rfl (Nat.le_of_ble_eq_true rfl) dX2_replace_27 ⟨Nat.le_of_ble_eq_true rfl, Nat.le_of_ble_eq_true rfl⟩ (fun H locs hP hD hS => ?_)
    refine lv_aload_n hx hb dX2_replace_30 rfl (lv_at hl 1 rfl) ?_
    refine va_get (D := D) (ci := 2) (v := .ref (ad 6)) (C := RX2) (T := TX2) (N := 5) hx hb hts hinX2 hown hK.1 hP 14 rfl rfl 1 (by decide) hf23 (fun _ h9 => h9) rfl dX2_replace_31 ?_
    refine lv_iload_n hx hb dX2_replace_34 rfl (lv_at hl 2 rfl) ?_
    refine lv_aload_n hx hb dX2_replace_35 rfl (lv_at hl 1 rfl) ?_
    refine va_get (D := D) (ci := 2) (v := .int dy) (C := RX2) (T := TX2) (N := 5) hx hb hts hinX2 hown hK.1 hP 14 rfl rfl 4 (by decide) hf7 (fun _ h9 => h9) rfl dX2_replace_36 ?_
    refine kc_wVv (w1 := wLe ad cI ko (jVoidSo ko (nI k) so C) tl lp lb ld (jVoidEnd ko (nI k) so le tn dy C) C) (wr := [(ad 0, .inr (1, [.ref (ad 1), .ref (ad 2), .ref (ad 3), .ref (ad 4), .ref (ad 5), .int (nI K), .int (nI Dn), .int (jRework (upd te k (jTeeth ((jBest cd te ri pi (jWithout te ri K k pw Dn) K Dn k 1024).1) 5)) ri K pi mv Dn)])), (ad 1, .inl (cI, 8, .inl (upd cd k ((jBest cd te ri pi (jWithout te ri K k pw Dn) K Dn k 1024).1)))), (ad 2, .inl (cI, 8, .inl (upd te k (jTeeth ((jBest cd te ri pi (jWithout te ri K k pw Dn) K Dn k 1024).1) 5)))), (ad 3, .inl (cI, 8, .inl ri)), (ad 4, .inl (cI, 8, .inl (jRepin (upd te k (jTeeth ((jBest cd te ri pi (jWithout te ri K k pw Dn) K Dn k 1024).1) 5)) ri K pi Dn))), (ad 5, .inl (cI, 8, .inl (jWithout te ri K k pw Dn))), (ad 14, .inr (2, [.ref (ad 0), .ref (ad 6), .ref (ad 15), .ref (ad 16), .int dy])), (ad 15, .inl (cI, 8, .inl cl)), (ad 16, .inl (cI, 8, .inl dq))]) (ws1 := wKc ad cI (upd cd k ((jBest cd te ri pi (jWithout te ri K k pw Dn) K Dn k 1024).1)) (upd te k (jTeeth ((jBest cd te ri pi (jWithout te ri K k pw Dn) K Dn k 1024).1) 5)) ri (jRepin (upd te k (jTeeth ((jBest cd te ri pi (jWithout te ri K k pw Dn) K Dn k 1024).1) 5)) ri K pi Dn) (jWithout te ri K k pw Dn) K Dn (jRework (upd te k (jTeeth ((jBest cd te ri pi (jWithout te ri K k pw Dn) K Dn k 1024).1) 5)) ri K pi mv Dn) ko (jVoidSo ko (nI k) so C) tl lp lb ld (jVoidEnd ko (nI k) so le tn dy C) C cl dq dy) (As := [.int (nI k), .int dy]) (rest := []) ⟨hx, hb, hml, hown, hts⟩ (c_X0_voidCopiesOf l D ad cI ko so tl lp lb ld le C tn (nI k) dy H.size hC24 hok) (cwV 2 hts gX2_replace_X0_voidCopiesOf rfl rfl rfl (by decide +kernel) ⟨Nat.le_of_ble_eq_true rfl, Nat.le_of_ble_eq_true rfl⟩) hK hP hD hS hA [6, 7, 8, 9, 10, 11, 12, 13] [0, 1, 2, 3, 4, 5, 14, 15, 16] [0, 1, 2, 3, 4, 5, 9, 10, 11, 12, 13, 14, 15, 16, 6, 7, 8] [0] rfl rfl rfl rfl (by decide) rfl rfl rfl 6 rfl rfl rfl rfl hl.1 rfl (Nat.le_of_ble_eq_true rfl) dX2_replace_39 ⟨Nat.le_of_ble_eq_true rfl, Nat.le_of_ble_eq_true rfl⟩ (fun H locs hP hD hS => ?_)
    refine lv_iload_n hx hb dX2_replace_42 rfl (lv_at hl 0 rfl) ?_
    have eqw_cd : upd cd k (jBest cd te ri pi (jWithout te ri K k pw Dn) K Dn k 1024).1 = upd cd k ((jBest cd te ri pi (jWithout te ri K k pw Dn) K Dn k 1024).1) := by simp only [if_neg c_16]
    have eqw_te : upd te k (jTeeth (jBest cd te ri pi (jWithout te ri K k pw Dn) K Dn k 1024).1 5) = upd te k (jTeeth ((jBest cd te ri pi (jWithout te ri K k pw Dn) K Dn k 1024).1) 5) := by simp only [if_neg c_16]
    have eqw_pi : jRepin (upd te k (jTeeth (jBest cd te ri pi (jWithout te ri K k pw Dn) K Dn k 1024).1 5)) ri K pi Dn = jRepin (upd te k (jTeeth ((jBest cd te ri pi (jWithout te ri K k pw Dn) K Dn k 1024).1) 5)) ri K pi Dn := by simp only [if_neg c_16]
    have eqw_mv : jRework (upd te k (jTeeth (jBest cd te ri pi (jWithout te ri K k pw Dn) K Dn k 1024).1 5)) ri K pi mv Dn = jRework (upd te k (jTeeth ((jBest cd te ri pi (jWithout te ri K k pw Dn) K Dn k 1024).1) 5)) ri K pi mv Dn := by simp only [if_neg c_16]
    have hP : va_P D vwCl (wKc ad cI (upd cd k (jBest cd te ri pi (jWithout te ri K k pw Dn) K Dn k 1024).1) (upd te k (jTeeth (jBest cd te ri pi (jWithout te ri K k pw Dn) K Dn k 1024).1 5)) ri (jRepin (upd te k (jTeeth (jBest cd te ri pi (jWithout te ri K k pw Dn) K Dn k 1024).1 5)) ri K pi Dn) (jWithout te ri K k pw Dn) K Dn (jRework (upd te k (jTeeth (jBest cd te ri pi (jWithout te ri K k pw Dn) K Dn k 1024).1 5)) ri K pi mv Dn) ko (jVoidSo ko (nI k) so C) tl lp lb ld (jVoidEnd ko (nI k) so le tn dy C) C cl dq dy) H := by rw [eqw_cd, eqw_te, eqw_pi, eqw_mv]; exact hP
    have hD : va_D A (wKc ad cI (upd cd k (jBest cd te ri pi (jWithout te ri K k pw Dn) K Dn k 1024).1) (upd te k (jTeeth (jBest cd te ri pi (jWithout te ri K k pw Dn) K Dn k 1024).1 5)) ri (jRepin (upd te k (jTeeth (jBest cd te ri pi (jWithout te ri K k pw Dn) K Dn k 1024).1 5)) ri K pi Dn) (jWithout te ri K k pw Dn) K Dn (jRework (upd te k (jTeeth (jBest cd te ri pi (jWithout te ri K k pw Dn) K Dn k 1024).1 5)) ri K pi mv Dn) ko (jVoidSo ko (nI k) so C) tl lp lb ld (jVoidEnd ko (nI k) so le tn dy C) C cl dq dy) := by rw [eqw_cd, eqw_te, eqw_pi, eqw_mv]; exact hD
    exact W.iret (v := (jBest cd te ri pi (jWithout te ri K k pw Dn) K Dn k 1024).1) hx hb hr (fun tZ htZ hWZ => ⟨⟨_, (), rfl, rfl, by rw [htZ]; exact hP, by rw [hAe]; exact hD⟩, hS.F htZ⟩) hS.2.2 dX2_replace_43
  · exact absurd c_16 hne
