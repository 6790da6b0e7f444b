abbrev wLh (ad : Nat → Nat) (cI : ClassId) (cd : Nat → Int32) (te : Nat → Int32) (ri : Nat → Int32) (pi : Nat → Int32) (pw : Nat → Int32) (K : Nat) (Dn : Nat) (mv : Int32) (ko : Nat → Int32) (so : Nat → Int32) (tl : Nat → Int32) (lp : Nat → Int32) (lb : Nat → Int32) (ld : Nat → Int32) (le : Nat → Int32) (C : Nat) (cl : Nat → Int32) (dq : Nat → Int32) (dy : Int32) (cL : ClassId) (ou : Nat → Int64) : va_W := [(ad 0, .inr (1, [.ref (ad 1), .ref (ad 2), .ref (ad 3), .ref (ad 4), .ref (ad 5), .int (nI K), .int (nI Dn), .int mv])), (ad 1, .inl (cI, 8, .inl cd)), (ad 2, .inl (cI, 8, .inl te)), (ad 3, .inl (cI, 8, .inl ri)), (ad 4, .inl (cI, 8, .inl pi)), (ad 5, .inl (cI, 8, .inl pw)), (ad 6, .inr (0, [.ref (ad 7), .ref (ad 8), .ref (ad 9), .ref (ad 10), .ref (ad 11), .ref (ad 12), .ref (ad 13), .int (nI C)])), (ad 7, .inl (cI, 24, .inl ko)), (ad 8, .inl (cI, 24, .inl so)), (ad 9, .inl (cI, 24, .inl tl)), (ad 10, .inl (cI, 216, .inl lp)), (ad 11, .inl (cI, 216, .inl lb)), (ad 12, .inl (cI, 216, .inl ld)), (ad 13, .inl (cI, 216, .inl le)), (ad 14, .inr (2, [.ref (ad 0), .ref (ad 6), .ref (ad 15), .ref (ad 16), .int dy])), (ad 15, .inl (cI, 8, .inl cl)), (ad 16, .inl (cI, 8, .inl dq)), (ad 17, .inl (cL, 1, .inr (.inl ou)))]
set_option maxHeartbeats 4000000 in
set_option maxRecDepth 100000 in
theorem c_L_code_ok (l : Launch) (D : va_G) (ad : Nat → Nat) (cI : ClassId) (cd : Nat → Int32) (te : Nat → Int32) (ri : Nat → Int32) (pi : Nat → Int32) (pw : Nat → Int32) (K : Nat) (Dn : Nat) (mv : Int32) (ko : Nat → Int32) (so : Nat → Int32) (tl : Nat → Int32) (lp : Nat → Int32) (lb : Nat → Int32) (ld : Nat → Int32) (le : Nat → Int32) (C : Nat) (cl : Nat → Int32) (dq : Nat → Int32) (dy : Int32) (cL : ClassId) (ou : Nat → Int64) (k : Nat) (sz : Nat) (hK8 : K ≤ 8) (hk : k < K) : Met l yL_code wsL_code ({ frames := 2, cells := 0, slots := 0, locals := 42 } : Room) (wrP [.ref (ad 14), .int (nI k), .ref (ad 17)] D sz (wLh ad cI cd te ri pi pw K Dn mv ko so tl lp lb ld le C cl dq dy cL ou) [(cI, .int), (cL, .long)]) (va_Qi (fun rZ (_ : Unit) => rZ = 0) (wrB D sz (wLh ad cI cd te ri pi pw K Dn mv ko so tl lp lb ld le C cl dq dy cL ou) (wLh ad cI cd te ri pi pw K Dn mv ko so tl lp lb ld le C cl dq dy cL (vp_updL ou 0 (Int32.toInt64 (cd k))))) (va_A (wLh ad cI cd te ri pi pw K Dn mv ko so tl lp lb ld le C cl dq dy cL ou) sz)) 0 0 (va_A (wLh ad cI cd te ri pi pw K Dn mv ko so tl lp lb ld le C cl dq dy cL ou) sz) := by
  refine va_MetW (cc := cL_code) (maxL := 4) (ret := (some .int)) (hh := [(0, 9, 12, 24)]) (by decide) rfl ?_
  intro p e s m args below meth c s₁ B hml hv
  obtain ⟨rfl, hsz, hP, hD0, hK⟩ := hv
  have hx := B.exec
  have hb := B.bytes
  have hr := B.returns
  have hts := atoms_spec (ws := wsL_code) B.pre
  have hown : s.vm.findClass RL = some m.cls := findClass_of_methodNamed B.named
  have hlocks := B.notSynchronized
  subst hsz
  have hD := hD0.self (sz := s.heap.size)
  generalize hAe : va_A (wLh ad cI cd te ri pi pw K Dn mv ko so tl lp lb ld le C cl dq dy cL ou) s.heap.size = A at hD ⊢
  have hA : ∀ q : Nat, s.heap.size ≤ q → A q := fun q h => by rw [← hAe]; exact Or.inr h
  have hl := lv_entry ([.ref (ad 14), .int (nI k), .ref (ad 17)]) (n := 4) (Nat.le_of_ble_eq_true rfl)
  rw [lg_entry_eq]
  generalize (lg_sl ([.ref (ad 14), .int (nI k), .ref (ad 17)]) ++ List.replicate (4 - (lg_sl ([.ref (ad 14), .int (nI k), .ref (ad 17)])).length) Slot.unset).toArray = ls at hl ⊢
  have hl : lv_has ls 4 [(0, .ref (ad 14)), (1, .int (nI k)), (2, .ref (ad 17))] := hl
  refine W.genH (fun H locs eH eL => ?_)
  have hS : va_S A s.heap H locs := by rw [eH, eL]; exact va_S.rf
  have hP : va_P D vwCl (wLh ad cI cd te ri pi pw K Dn mv ko so tl lp lb ld le C cl dq dy cL ou) H := by rw [eH]; exact hP
  clear eH eL
  refine lv_aload_n hx hb dL_code_0 rfl (lv_at hl 2 rfl) ?_
  refine lv_iconst (v := 0) hx hb dL_code_1 (by decide) ?_
  refine lv_aload_n hx hb dL_code_2 rfl (lv_at hl 0 rfl) ?_
  refine lv_iload_n hx hb dL_code_3 rfl (lv_at hl 1 rfl) ?_
  refine kc_rVi (As := [.int (nI k)]) (rest := [.int 0, .ref (ad 17)]) ⟨hx, hb, hml, hown, hts⟩ (c_X2_code_ok l D ad cI cd te ri pi pw K Dn mv ko so tl lp lb ld le C cl dq dy k hK8 hk) (cwV 1 hts gL_code_X2_code rfl rfl rfl (by decide +kernel) ⟨Nat.le_of_ble_eq_true rfl, Nat.le_of_ble_eq_true rfl⟩) hK hP [0, 1, 2, 3, 4, 5, 6, 7, 8, 9, 10, 11, 12, 13, 14, 15, 16] [0] rfl rfl 14 rfl rfl rfl rfl hl.1 rfl (Nat.le_of_ble_eq_true rfl) dL_code_4 ⟨Nat.le_of_ble_eq_true rfl, Nat.le_of_ble_eq_true rfl⟩ ?_
  refine lv_i2l (v := Int32.toInt64 (cd k)) hx hb dL_code_7 rfl ?_
  refine kc_lst (i := 0) (n := 1) hx hb hK hP hD hS 17 1 rfl rfl (by decide) (by decide) dL_code_8 (fun H locs hP hD hS => ?_)
  have hP : va_P D vwCl (wLh ad cI cd te ri pi pw K Dn mv ko so tl lp lb ld le C cl dq dy cL (vp_updL ou 0 (Int32.toInt64 (cd k)))) H := hP
  have hD : va_D A (wLh ad cI cd te ri pi pw K Dn mv ko so tl lp lb ld le C cl dq dy cL (vp_updL ou 0 (Int32.toInt64 (cd k)))) := hD
  refine lv_goto (tgt := 15) hx hb dL_code_9 (by decide) ?_
  refine lv_iconst (v := 0) hx hb dL_code_15 (by decide) ?_
  exact W.iret (v := 0) hx hb hr (fun tZ htZ hWZ => ⟨⟨_, (), rfl, rfl, by rw [htZ]; exact hP, by rw [hAe]; exact hD⟩, hS.F htZ⟩) hS.2.2 dL_code_16
set_option maxHeartbeats 4000000 in
set_option maxRecDepth 100000 in
theorem c_L_pins_ok (l : Launch) (D : va_G) (ad : Nat → Nat) (cI : ClassId) (cd : Nat → Int32) (te : Nat → Int32) (ri : Nat → Int32) (pi : Nat → Int32) (pw : Nat → Int32) (K : Nat) (Dn : Nat) (mv : Int32) (ko : Nat → Int32) (so : Nat → Int32) (tl : Nat → Int32) (lp : Nat → Int32) (lb : Nat → Int32) (ld : Nat → Int32) (le : Nat → Int32) (C : Nat) (cl : Nat → Int32) (dq : Nat → Int32) (dy : Int32) (cL : ClassId) (ou : Nat → Int64) (d : Nat) (q : Nat) (sz : Nat) (hD8 : Dn ≤ 8) (hd : d < Dn) (hq : q < 5) : Met l yL_pins wsL_pins ({ frames := 2, cells := 0, slots := 0, locals := 44 } : Room) (wrP [.ref (ad 14), .int (nI d), .int (nI q), .ref (ad 17)] D sz (wLh ad cI cd te ri pi pw K Dn mv ko so tl lp lb ld le C cl dq dy cL ou) [(cI, .int), (cL, .long)]) (va_Qi (fun rZ (_ : Unit) => rZ = 0) (wrB D sz (wLh ad cI cd te ri pi pw K Dn mv ko so tl lp lb ld le C cl dq dy cL ou) (wLh ad cI cd te ri pi pw K Dn mv ko so tl lp lb ld le C cl dq dy cL (vp_updL ou 0 (Int32.toInt64 (jPinsAt pi d (nI q)))))) (va_A (wLh ad cI cd te ri pi pw K Dn mv ko so tl lp lb ld le C cl dq dy cL ou) sz)) 0 0 (va_A (wLh ad cI cd te ri pi pw K Dn mv ko so tl lp lb ld le C cl dq dy cL ou) sz) := by
  refine va_MetW (cc := cL_pins) (maxL := 5) (ret := (some .int)) (hh := [(0, 10, 13, 24)]) (by decide) rfl ?_
  intro p e s m args below meth c s₁ B hml hv
  obtain ⟨rfl, hsz, hP, hD0, hK⟩ := hv
  have hx := B.exec
  have hb := B.bytes
  have hr := B.returns
  have hts := atoms_spec (ws := wsL_pins) B.pre
  have hown : s.vm.findClass RL = some m.cls := findClass_of_methodNamed B.named
  have hlocks := B.notSynchronized
  subst hsz
  have hD := hD0.self (sz := s.heap.size)
  generalize hAe : va_A (wLh ad cI cd te ri pi pw K Dn mv ko so tl lp lb ld le C cl dq dy cL ou) s.heap.size = A at hD ⊢
  have hA : ∀ q : Nat, s.heap.size ≤ q → A q := fun q h => by rw [← hAe]; exact Or.inr h
  have hl := lv_entry ([.ref (ad 14), .int (nI d), .int (nI q), .ref (ad 17)]) (n := 5) (Nat.le_of_ble_eq_true rfl)
  rw [lg_entry_eq]
  generalize (lg_sl ([.ref (ad 14), .int (nI d), .int (nI q), .ref (ad 17)]) ++ List.replicate (5 - (lg_sl ([.ref (ad 14), .int (nI d), .int (nI q), .ref (ad 17)])).length) Slot.unset).toArray = ls at hl ⊢
  have hl : lv_has ls 5 [(0, .ref (ad 14)), (1, .int (nI d)), (2, .int (nI q)), (3, .ref (ad 17))] := hl
  refine W.genH (fun H locs eH eL => ?_)
  have hS : va_S A s.heap H locs := by rw [eH, eL]; exact va_S.rf
  have hP : va_P D vwCl (wLh ad cI cd te ri pi pw K Dn mv ko so tl lp lb ld le C cl dq dy cL ou) H := by rw [eH]; exact hP
  clear eH eL
  refine lv_aload_n hx hb dL_pins_0 rfl (lv_at hl 3 rfl) ?_
  refine lv_iconst (v := 0) hx hb dL_pins_1 (by decide) ?_
  refine lv_aload_n hx hb dL_pins_2 rfl (lv_at hl 0 rfl) ?_
  refine lv_iload_n hx hb dL_pins_3 rfl (lv_at hl 1 rfl) ?_
  refine lv_iload_n hx hb dL_pins_4 rfl (lv_at hl 2 rfl) ?_
  refine kc_rVi (As := [.int (nI d), .int (nI q)]) (rest := [.int 0, .ref (ad 17)]) ⟨hx, hb, hml, hown, hts⟩ (c_X2_pins_ok l D ad cI cd te ri pi pw K Dn mv ko so tl lp lb ld le C cl dq dy d q hD8 hd hq) (cwV 2 hts gL_pins_X2_pins rfl rfl rfl (by decide +kernel) ⟨Nat.le_of_ble_eq_true rfl, Nat.le_of_ble_eq_true rfl⟩) hK hP [0, 1, 2, 3, 4, 5, 6, 7, 8, 9, 10, 11, 12, 13, 14, 15, 16] [0] rfl rfl 14 rfl rfl rfl rfl hl.1 rfl (Nat.le_of_ble_eq_true rfl) dL_pins_5 ⟨Nat.le_of_ble_eq_true rfl, Nat.le_of_ble_eq_true rfl⟩ ?_
  refine lv_i2l (v := Int32.toInt64 (jPinsAt pi d (nI q))) hx hb dL_pins_8 rfl ?_
  refine kc_lst (i := 0) (n := 1) hx hb hK hP hD hS 17 1 rfl rfl (by decide) (by decide) dL_pins_9 (fun H locs hP hD hS => ?_)
  have hP : va_P D vwCl (wLh ad cI cd te ri pi pw K Dn mv ko so tl lp lb ld le C cl dq dy cL (vp_updL ou 0 (Int32.toInt64 (jPinsAt pi d (nI q))))) H := hP
  have hD : va_D A (wLh ad cI cd te ri pi pw K Dn mv ko so tl lp lb ld le C cl dq dy cL (vp_updL ou 0 (Int32.toInt64 (jPinsAt pi d (nI q))))) := hD
  refine lv_goto (tgt := 17) hx hb dL_pins_10 (by decide) ?_
  refine lv_iconst (v := 0) hx hb dL_pins_17 (by decide) ?_
  exact W.iret (v := 0) hx hb hr (fun tZ htZ hWZ => ⟨⟨_, (), rfl, rfl, by rw [htZ]; exact hP, by rw [hAe]; exact hD⟩, hS.F htZ⟩) hS.2.2 dL_pins_18
set_option maxHeartbeats 4000000 in
set_option maxRecDepth 100000 in
theorem c_L_opens_ok (l : Launch) (D : va_G) (ad : Nat → Nat) (cI : ClassId) (cd : Nat → Int32) (te : Nat → Int32) (ri : Nat → Int32) (pi : Nat → Int32) (pw : Nat → Int32) (K : Nat) (Dn : Nat) (mv : Int32) (ko : Nat → Int32) (so : Nat → Int32) (tl : Nat → Int32) (lp : Nat → Int32) (lb : Nat → Int32) (ld : Nat → Int32) (le : Nat → Int32) (C : Nat) (cl : Nat → Int32) (dq : Nat → Int32) (dy : Int32) (cL : ClassId) (ou : Nat → Int64) (k : Nat) (d : Nat) (sz : Nat) (hK8 : K ≤ 8) (hD8 : Dn ≤ 8) (hk : k < K) (hd : d < Dn) : Met l yL_opens wsL_opens ({ frames := 3, cells := 0, slots := 0, locals := 65 } : Room) (wrP [.ref (ad 14), .int (nI k), .int (nI d), .ref (ad 17)] D sz (wLh ad cI cd te ri pi pw K Dn mv ko so tl lp lb ld le C cl dq dy cL ou) [(cI, .int), (cL, .long)]) (va_Qi (fun rZ (_ : Unit) => rZ = 0) (wrB D sz (wLh ad cI cd te ri pi pw K Dn mv ko so tl lp lb ld le C cl dq dy cL ou) (wLh ad cI cd te ri pi pw K Dn mv ko so tl lp lb ld le C cl dq dy cL (vp_updL ou 0 (if (jContains (pi d) (te k)) = true then 1 else 0)))) (va_A (wLh ad cI cd te ri pi pw K Dn mv ko so tl lp lb ld le C cl dq dy cL ou) sz)) 0 0 (va_A (wLh ad cI cd te ri pi pw K Dn mv ko so tl lp lb ld le C cl dq dy cL ou) sz) := by
  refine va_MetW (cc := cL_opens) (maxL := 5) (ret := (some .int)) (hh := [(0, 17, 20, 24)]) (by decide) rfl ?_
  intro p e s m args below meth c s₁ B hml hv
  obtain ⟨rfl, hsz, hP, hD0, hK⟩ := hv
  have hx := B.exec
  have hb := B.bytes
  have hr := B.returns
  have hts := atoms_spec (ws := wsL_opens) B.pre
  have hown : s.vm.findClass RL = some m.cls := findClass_of_methodNamed B.named
  have hlocks := B.notSynchronized
  subst hsz
  have hD := hD0.self (sz := s.heap.size)
  generalize hAe : va_A (wLh ad cI cd te ri pi pw K Dn mv ko so tl lp lb ld le C cl dq dy cL ou) s.heap.size = A at hD ⊢
  have hA : ∀ q : Nat, s.heap.size ≤ q → A q := fun q h => by rw [← hAe]; exact Or.inr h
  have hl := lv_entry ([.ref (ad 14), .int (nI k), .int (nI d), .ref (ad 17)]) (n := 5) (Nat.le_of_ble_eq_true rfl)
  rw [lg_entry_eq]
  generalize (lg_sl ([.ref (ad 14), .int (nI k), .int (nI d), .ref (ad 17)]) ++ List.replicate (5 - (lg_sl ([.ref (ad 14), .int (nI k), .int (nI d), .ref (ad 17)])).length) Slot.unset).toArray = ls at hl ⊢
  have hl : lv_has ls 5 [(0, .ref (ad 14)), (1, .int (nI k)), (2, .int (nI d)), (3, .ref (ad 17))] := hl
  refine W.genH (fun H locs eH eL => ?_)
  have hS : va_S A s.heap H locs := by rw [eH, eL]; exact va_S.rf
  have hP : va_P D vwCl (wLh ad cI cd te ri pi pw K Dn mv ko so tl lp lb ld le C cl dq dy cL ou) H := by rw [eH]; exact hP
  clear eH eL
  refine lv_aload_n hx hb dL_opens_0 rfl (lv_at hl 3 rfl) ?_
  refine lv_iconst (v := 0) hx hb dL_opens_1 (by decide) ?_
  refine lv_aload_n hx hb dL_opens_2 rfl (lv_at hl 0 rfl) ?_
  refine lv_iload_n hx hb dL_opens_3 rfl (lv_at hl 1 rfl) ?_
  refine lv_iload_n hx hb dL_opens_4 rfl (lv_at hl 2 rfl) ?_
  refine kc_rVi (As := [.int (nI k), .int (nI d)]) (rest := [.int 0, .ref (ad 17)]) ⟨hx, hb, hml, hown, hts⟩ (c_X2_opens_ok l D ad cI cd te ri pi pw K Dn mv ko so tl lp lb ld le C cl dq dy k d hK8 hD8 hk hd) (cwV 2 hts gL_opens_X2_opens rfl rfl rfl (by decide +kernel) ⟨Nat.le_of_ble_eq_true rfl, Nat.le_of_ble_eq_true rfl⟩) hK hP [0, 1, 2, 3, 4, 5, 6, 7, 8, 9, 10, 11, 12, 13, 14, 15, 16] [0] rfl rfl 14 rfl rfl rfl rfl hl.1 rfl (Nat.le_of_ble_eq_true rfl) dL_opens_5 ⟨Nat.le_of_ble_eq_true rfl, Nat.le_of_ble_eq_true rfl⟩ ?_
  refine kc_ifeqB (tgt := 15) hx hb dL_opens_8 (by decide) (fun c_8 => ?_) (fun c_8 => ?_)
  · refine lv_lconst (v := 0) hx hb dL_opens_15 (by decide) ?_
    refine kc_lst (i := 0) (n := 1) hx hb hK hP hD hS 17 1 rfl rfl (by decide) (by decide) dL_opens_16 (fun H locs hP hD hS => ?_)
    have hP : va_P D vwCl (wLh ad cI cd te ri pi pw K Dn mv ko so tl lp lb ld le C cl dq dy cL (vp_updL ou 0 0)) H := hP
    have hD : va_D A (wLh ad cI cd te ri pi pw K Dn mv ko so tl lp lb ld le C cl dq dy cL (vp_updL ou 0 0)) := hD
    refine lv_goto (tgt := 24) hx hb dL_opens_17 (by decide) ?_
    refine lv_iconst (v := 0) hx hb dL_opens_24 (by decide) ?_
    have eqw_ou : vp_updL ou 0 (if (jContains (pi d) (te k)) = true then 1 else 0) = vp_updL ou 0 0 := by simp only [if_neg c_8]
    have hP : va_P D vwCl (wLh ad cI cd te ri pi pw K Dn mv ko so tl lp lb ld le C cl dq dy cL (vp_updL ou 0 (if (jContains (pi d) (te k)) = true then 1 else 0))) H := by rw [eqw_ou]; exact hP
    have hD : va_D A (wLh ad cI cd te ri pi pw K Dn mv ko so tl lp lb ld le C cl dq dy cL (vp_updL ou 0 (if (jContains (pi d) (te k)) = true then 1 else 0))) := by rw [eqw_ou]; exact hD
    exact W.iret (v := 0) hx hb hr (fun tZ htZ hWZ => ⟨⟨_, (), rfl, rfl, by rw [htZ]; exact hP, by rw [hAe]; exact hD⟩, hS.F htZ⟩) hS.2.2 dL_opens_25
  · refine lv_lconst (v := 1) hx hb dL_opens_11 (by decide) ?_
    refine lv_goto (tgt := 16) hx hb dL_opens_12 (by decide) ?_
    refine kc_lst (i := 0) (n := 1) hx hb hK hP hD hS 17 1 rfl rfl (by decide) (by decide) dL_opens_16 (fun H locs hP hD hS => ?_)
    have hP : va_P D vwCl (wLh ad cI cd te ri pi pw K Dn mv ko so tl lp lb ld le C cl dq dy cL (vp_updL ou 0 1)) H := hP
    have hD : va_D A (wLh ad cI cd te ri pi pw K Dn mv ko so tl lp lb ld le C cl dq dy cL (vp_updL ou 0 1)) := hD
    refine lv_goto (tgt := 24) hx hb dL_opens_17 (by decide) ?_
    refine lv_iconst (v := 0) hx hb dL_opens_24 (by decide) ?_
    have eqw_ou : vp_updL ou 0 (if (jContains (pi d) (te k)) = true then 1 else 0) = vp_updL ou 0 1 := by simp only [if_pos c_8]
    have hP : va_P D vwCl (wLh ad cI cd te ri pi pw K Dn mv ko so tl lp lb ld le C cl dq dy cL (vp_updL ou 0 (if (jContains (pi d) (te k)) = true then 1 else 0))) H := by rw [eqw_ou]; exact hP
    have hD : va_D A (wLh ad cI cd te ri pi pw K Dn mv ko so tl lp lb ld le C cl dq dy cL (vp_updL ou 0 (if (jContains (pi d) (te k)) = true then 1 else 0))) := by rw [eqw_ou]; exact hD
    exact W.iret (v := 0) hx hb hr (fun tZ htZ hWZ => ⟨⟨_, (), rfl, rfl, by rw [htZ]; exact hP, by rw [hAe]; exact hD⟩, hS.F htZ⟩) hS.2.2 dL_opens_25
set_option maxHeartbeats 4000000 in
set_option maxRecDepth 100000 in
theorem c_L_openers_ok (l : Launch) (D : va_G) (ad : Nat → Nat) (cI : ClassId) (cd : Nat → Int32) (te : Nat → Int32) (ri : Nat → Int32) (pi : Nat → Int32) (pw : Nat → Int32) (K : Nat) (Dn : Nat) (mv : Int32) (ko : Nat → Int32) (so : Nat → Int32) (tl : Nat → Int32) (lp : Nat → Int32) (lb : Nat → Int32) (ld : Nat → Int32) (le : Nat → Int32) (C : Nat) (cl : Nat → Int32) (dq : Nat → Int32) (dy : Int32) (cL : ClassId) (ou : Nat → Int64) (d : Nat) (sz : Nat) (hK8 : K ≤ 8) (hD8 : Dn ≤ 8) (hd : d < Dn) : Met l yL_openers wsL_openers ({ frames := 4, cells := 0, slots := 0, locals := 87 } : Room) (wrP [.ref (ad 14), .int (nI d), .ref (ad 17)] D sz (wLh ad cI cd te ri pi pw K Dn mv ko so tl lp lb ld le C cl dq dy cL ou) [(cI, .int), (cL, .long)]) (va_Qi (fun rZ (_ : Unit) => rZ = 0) (wrB D sz (wLh ad cI cd te ri pi pw K Dn mv ko so tl lp lb ld le C cl dq dy cL ou) (wLh ad cI cd te ri pi pw K Dn mv ko so tl lp lb ld le C cl dq dy cL (vp_updL ou 0 (Int32.toInt64 (jOpeners pi te d K))))) (va_A (wLh ad cI cd te ri pi pw K Dn mv ko so tl lp lb ld le C cl dq dy cL ou) sz)) 0 0 (va_A (wLh ad cI cd te ri pi pw K Dn mv ko so tl lp lb ld le C cl dq dy cL ou) sz) := by
  refine va_MetW (cc := cL_openers) (maxL := 4) (ret := (some .int)) (hh := [(0, 9, 12, 24)]) (by decide) rfl ?_
  intro p e s m args below meth c s₁ B hml hv
  obtain ⟨rfl, hsz, hP, hD0, hK⟩ := hv
  have hx := B.exec
  have hb := B.bytes
  have hr := B.returns
  have hts := atoms_spec (ws := wsL_openers) B.pre
  have hown : s.vm.findClass RL = some m.cls := findClass_of_methodNamed B.named
  have hlocks := B.notSynchronized
  subst hsz
  have hD := hD0.self (sz := s.heap.size)
  generalize hAe : va_A (wLh ad cI cd te ri pi pw K Dn mv ko so tl lp lb ld le C cl dq dy cL ou) s.heap.size = A at hD ⊢
  have hA : ∀ q : Nat, s.heap.size ≤ q → A q := fun q h => by rw [← hAe]; exact Or.inr h
  have hl := lv_entry ([.ref (ad 14), .int (nI d), .ref (ad 17)]) (n := 4) (Nat.le_of_ble_eq_true rfl)
  rw [lg_entry_eq]
  generalize (lg_sl ([.ref (ad 14), .int (nI d), .ref (ad 17)]) ++ List.replicate (4 - (lg_sl ([.ref (ad 14), .int (nI d), .ref (ad 17)])).length) Slot.unset).toArray = ls at hl ⊢
  have hl : lv_has ls 4 [(0, .ref (ad 14)), (1, .int (nI d)), (2, .ref (ad 17))] := hl
  refine W.genH (fun H locs eH eL => ?_)
  have hS : va_S A s.heap H locs := by rw [eH, eL]; exact va_S.rf
  have hP : va_P D vwCl (wLh ad cI cd te ri pi pw K Dn mv ko so tl lp lb ld le C cl dq dy cL ou) H := by rw [eH]; exact hP
  clear eH eL
  refine lv_aload_n hx hb dL_openers_0 rfl (lv_at hl 2 rfl) ?_
  refine lv_iconst (v := 0) hx hb dL_openers_1 (by decide) ?_
  refine lv_aload_n hx hb dL_openers_2 rfl (lv_at hl 0 rfl) ?_
  refine lv_iload_n hx hb dL_openers_3 rfl (lv_at hl 1 rfl) ?_
  refine kc_rVi (As := [.int (nI d)]) (rest := [.int 0, .ref (ad 17)]) ⟨hx, hb, hml, hown, hts⟩ (c_X2_openers_ok l D ad cI cd te ri pi pw K Dn mv ko so tl lp lb ld le C cl dq dy d hK8 hD8 hd) (cwV 1 hts gL_openers_X2_openers rfl rfl rfl (by decide +kernel) ⟨Nat.le_of_ble_eq_true rfl, Nat.le_of_ble_eq_true rfl⟩) hK hP [0, 1, 2, 3, 4, 5, 6, 7, 8, 9, 10, 11, 12, 13, 14, 15, 16] [0] rfl rfl 14 rfl rfl rfl rfl hl.1 rfl (Nat.le_of_ble_eq_true rfl) dL_openers_4 ⟨Nat.le_of_ble_eq_true rfl, Nat.le_of_ble_eq_true rfl⟩ ?_
  refine lv_i2l (v := Int32.toInt64 (jOpeners pi te d K)) hx hb dL_openers_7 rfl ?_
  refine kc_lst (i := 0) (n := 1) hx hb hK hP hD hS 17 1 rfl rfl (by decide) (by decide) dL_openers_8 (fun H locs hP hD hS => ?_)
  have hP : va_P D vwCl (wLh ad cI cd te ri pi pw K Dn mv ko so tl lp lb ld le C cl dq dy cL (vp_updL ou 0 (Int32.toInt64 (jOpeners pi te d K)))) H := hP
  have hD : va_D A (wLh ad cI cd te ri pi pw K Dn mv ko so tl lp lb ld le C cl dq dy cL (vp_updL ou 0 (Int32.toInt64 (jOpeners pi te d K)))) := hD
  refine lv_goto (tgt := 15) hx hb dL_openers_9 (by decide) ?_
  refine lv_iconst (v := 0) hx hb dL_openers_15 (by decide) ?_
  exact W.iret (v := 0) hx hb hr (fun tZ htZ hWZ => ⟨⟨_, (), rfl, rfl, by rw [htZ]; exact hP, by rw [hAe]; exact hD⟩, hS.F htZ⟩) hS.2.2 dL_openers_16
set_option maxHeartbeats 4000000 in
set_option maxRecDepth 100000 in
theorem c_L_doors_ok (l : Launch) (D : va_G) (ad : Nat → Nat) (cI : ClassId) (cd : Nat → Int32) (te : Nat → Int32) (ri : Nat → Int32) (pi : Nat → Int32) (pw : Nat → Int32) (K : Nat) (Dn : Nat) (mv : Int32) (ko : Nat → Int32) (so : Nat → Int32) (tl : Nat → Int32) (lp : Nat → Int32) (lb : Nat → Int32) (ld : Nat → Int32) (le : Nat → Int32) (C : Nat) (cl : Nat → Int32) (dq : Nat → Int32) (dy : Int32) (cL : ClassId) (ou : Nat → Int64) (k : Nat) (sz : Nat) (hK8 : K ≤ 8) (hD8 : Dn ≤ 8) (hk : k < K) : Met l yL_doors wsL_doors ({ frames := 4, cells := 0, slots := 0, locals := 87 } : Room) (wrP [.ref (ad 14), .int (nI k), .ref (ad 17)] D sz (wLh ad cI cd te ri pi pw K Dn mv ko so tl lp lb ld le C cl dq dy cL ou) [(cI, .int), (cL, .long)]) (va_Qi (fun rZ (_ : Unit) => rZ = 0) (wrB D sz (wLh ad cI cd te ri pi pw K Dn mv ko so tl lp lb ld le C cl dq dy cL ou) (wLh ad cI cd te ri pi pw K Dn mv ko so tl lp lb ld le C cl dq dy cL (vp_updL ou 0 (Int32.toInt64 (jDoors pi te k Dn))))) (va_A (wLh ad cI cd te ri pi pw K Dn mv ko so tl lp lb ld le C cl dq dy cL ou) sz)) 0 0 (va_A (wLh ad cI cd te ri pi pw K Dn mv ko so tl lp lb ld le C cl dq dy cL ou) sz) := by
  refine va_MetW (cc := cL_doors) (maxL := 4) (ret := (some .int)) (hh := [(0, 9, 12, 24)]) (by decide) rfl ?_
  intro p e s m args below meth c s₁ B hml hv
  obtain ⟨rfl, hsz, hP, hD0, hK⟩ := hv
  have hx := B.exec
  have hb := B.bytes
  have hr := B.returns
  have hts := atoms_spec (ws := wsL_doors) B.pre
  have hown : s.vm.findClass RL = some m.cls := findClass_of_methodNamed B.named
  have hlocks := B.notSynchronized
  subst hsz
  have hD := hD0.self (sz := s.heap.size)
  generalize hAe : va_A (wLh ad cI cd te ri pi pw K Dn mv ko so tl lp lb ld le C cl dq dy cL ou) s.heap.size = A at hD ⊢
  have hA : ∀ q : Nat, s.heap.size ≤ q → A q := fun q h => by rw [← hAe]; exact Or.inr h
  have hl := lv_entry ([.ref (ad 14), .int (nI k), .ref (ad 17)]) (n := 4) (Nat.le_of_ble_eq_true rfl)
  rw [lg_entry_eq]
  generalize (lg_sl ([.ref (ad 14), .int (nI k), .ref (ad 17)]) ++ List.replicate (4 - (lg_sl ([.ref (ad 14), .int (nI k), .ref (ad 17)])).length) Slot.unset).toArray = ls at hl ⊢
  have hl : lv_has ls 4 [(0, .ref (ad 14)), (1, .int (nI k)), (2, .ref (ad 17))] := hl
  refine W.genH (fun H locs eH eL => ?_)
  have hS : va_S A s.heap H locs := by rw [eH, eL]; exact va_S.rf
  have hP : va_P D vwCl (wLh ad cI cd te ri pi pw K Dn mv ko so tl lp lb ld le C cl dq dy cL ou) H := by rw [eH]; exact hP
  clear eH eL
  refine lv_aload_n hx hb dL_doors_0 rfl (lv_at hl 2 rfl) ?_
  refine lv_iconst (v := 0) hx hb dL_doors_1 (by decide) ?_
  refine lv_aload_n hx hb dL_doors_2 rfl (lv_at hl 0 rfl) ?_
  refine lv_iload_n hx hb dL_doors_3 rfl (lv_at hl 1 rfl) ?_
  refine kc_rVi (As := [.int (nI k)]) (rest := [.int 0, .ref (ad 17)]) ⟨hx, hb, hml, hown, hts⟩ (c_X2_doors_ok l D ad cI cd te ri pi pw K Dn mv ko so tl lp lb ld le C cl dq dy k hK8 hD8 hk) (cwV 1 hts gL_doors_X2_doors rfl rfl rfl (by decide +kernel) ⟨Nat.le_of_ble_eq_true rfl, Nat.le_of_ble_eq_true rfl⟩) hK hP [0, 1, 2, 3, 4, 5, 6, 7, 8, 9, 10, 11, 12, 13, 14, 15, 16] [0] rfl rfl 14 rfl rfl rfl rfl hl.1 rfl (Nat.le_of_ble_eq_true rfl) dL_doors_4 ⟨Nat.le_of_ble_eq_true rfl, Nat.le_of_ble_eq_true rfl⟩ ?_
  refine lv_i2l (v := Int32.toInt64 (jDoors pi te k Dn)) hx hb dL_doors_7 rfl ?_
  refine kc_lst (i := 0) (n := 1) hx hb hK hP hD hS 17 1 rfl rfl (by decide) (by decide) dL_doors_8 (fun H locs hP hD hS => ?_)
  have hP : va_P D vwCl (wLh ad cI cd te ri pi pw K Dn mv ko so tl lp lb ld le C cl dq dy cL (vp_updL ou 0 (Int32.toInt64 (jDoors pi te k Dn)))) H := hP
  have hD : va_D A (wLh ad cI cd te ri pi pw K Dn mv ko so tl lp lb ld le C cl dq dy cL (vp_updL ou 0 (Int32.toInt64 (jDoors pi te k Dn)))) := hD
  refine lv_goto (tgt := 15) hx hb dL_doors_9 (by decide) ?_
  refine lv_iconst (v := 0) hx hb dL_doors_15 (by decide) ?_
  exact W.iret (v := 0) hx hb hr (fun tZ htZ hWZ => ⟨⟨_, (), rfl, rfl, by rw [htZ]; exact hP, by rw [hAe]; exact hD⟩, hS.F htZ⟩) hS.2.2 dL_doors_16
set_option maxHeartbeats 4000000 in
set_option maxRecDepth 100000 in
theorem c_L_codes_ok (l : Launch) (D : va_G) (ad : Nat → Nat) (cI : ClassId) (cd : Nat → Int32) (te : Nat → Int32) (ri : Nat → Int32) (pi : Nat → Int32) (pw : Nat → Int32) (K : Nat) (Dn : Nat) (mv : Int32) (ko : Nat → Int32) (so : Nat → Int32) (tl : Nat → Int32) (lp : Nat → Int32) (lb : Nat → Int32) (ld : Nat → Int32) (le : Nat → Int32) (C : Nat) (cl : Nat → Int32) (dq : Nat → Int32) (dy : Int32) (cL : ClassId) (ou : Nat → Int64) (d : Nat) (sz : Nat) (hD8 : Dn ≤ 8) (hd : d < Dn) : Met l yL_codes wsL_codes ({ frames := 3, cells := 0, slots := 0, locals := 66 } : Room) (wrP [.ref (ad 14), .int (nI d), .ref (ad 17)] D sz (wLh ad cI cd te ri pi pw K Dn mv ko so tl lp lb ld le C cl dq dy cL ou) [(cI, .int), (cL, .long)]) (va_Qi (fun rZ (_ : Unit) => rZ = 0) (wrB D sz (wLh ad cI cd te ri pi pw K Dn mv ko so tl lp lb ld le C cl dq dy cL ou) (wLh ad cI cd te ri pi pw K Dn mv ko so tl lp lb ld le C cl dq dy cL (vp_updL ou 0 (Int32.toInt64 (jCodes pi d 5))))) (va_A (wLh ad cI cd te ri pi pw K Dn mv ko so tl lp lb ld le C cl dq dy cL ou) sz)) 0 0 (va_A (wLh ad cI cd te ri pi pw K Dn mv ko so tl lp lb ld le C cl dq dy cL ou) sz) := by
  refine va_MetW (cc := cL_codes) (maxL := 4) (ret := (some .int)) (hh := [(0, 9, 12, 24)]) (by decide) rfl ?_
  intro p e s m args below meth c s₁ B hml hv
  obtain ⟨rfl, hsz, hP, hD0, hK⟩ := hv
  have hx := B.exec
  have hb := B.bytes
  have hr := B.returns
  have hts := atoms_spec (ws := wsL_codes) B.pre
  have hown : s.vm.findClass RL = some m.cls := findClass_of_methodNamed B.named
  have hlocks := B.notSynchronized
  subst hsz
  have hD := hD0.self (sz := s.heap.size)
  generalize hAe : va_A (wLh ad cI cd te ri pi pw K Dn mv ko so tl lp lb ld le C cl dq dy cL ou) s.heap.size = A at hD ⊢
  have hA : ∀ q : Nat, s.heap.size ≤ q → A q := fun q h => by rw [← hAe]; exact Or.inr h
  have hl := lv_entry ([.ref (ad 14), .int (nI d), .ref (ad 17)]) (n := 4) (Nat.le_of_ble_eq_true rfl)
  rw [lg_entry_eq]
  generalize (lg_sl ([.ref (ad 14), .int (nI d), .ref (ad 17)]) ++ List.replicate (4 - (lg_sl ([.ref (ad 14), .int (nI d), .ref (ad 17)])).length) Slot.unset).toArray = ls at hl ⊢
  have hl : lv_has ls 4 [(0, .ref (ad 14)), (1, .int (nI d)), (2, .ref (ad 17))] := hl
  refine W.genH (fun H locs eH eL => ?_)
  have hS : va_S A s.heap H locs := by rw [eH, eL]; exact va_S.rf
  have hP : va_P D vwCl (wLh ad cI cd te ri pi pw K Dn mv ko so tl lp lb ld le C cl dq dy cL ou) H := by rw [eH]; exact hP
  clear eH eL
  refine lv_aload_n hx hb dL_codes_0 rfl (lv_at hl 2 rfl) ?_
  refine lv_iconst (v := 0) hx hb dL_codes_1 (by decide) ?_
  refine lv_aload_n hx hb dL_codes_2 rfl (lv_at hl 0 rfl) ?_
  refine lv_iload_n hx hb dL_codes_3 rfl (lv_at hl 1 rfl) ?_
  refine kc_rVi (As := [.int (nI d)]) (rest := [.int 0, .ref (ad 17)]) ⟨hx, hb, hml, hown, hts⟩ (c_X2_codes_ok l D ad cI cd te ri pi pw K Dn mv ko so tl lp lb ld le C cl dq dy d hD8 hd) (cwV 1 hts gL_codes_X2_codes rfl rfl rfl (by decide +kernel) ⟨Nat.le_of_ble_eq_true rfl, Nat.le_of_ble_eq_true rfl⟩) hK hP [0, 1, 2, 3, 4, 5, 6, 7, 8, 9, 10, 11, 12, 13, 14, 15, 16] [0] rfl rfl 14 rfl rfl rfl rfl hl.1 rfl (Nat.le_of_ble_eq_true rfl) dL_codes_4 ⟨Nat.le_of_ble_eq_true rfl, Nat.le_of_ble_eq_true rfl⟩ ?_
  refine lv_i2l (v := Int32.toInt64 (jCodes pi d 5)) hx hb dL_codes_7 rfl ?_
  refine kc_lst (i := 0) (n := 1) hx hb hK hP hD hS 17 1 rfl rfl (by decide) (by decide) dL_codes_8 (fun H locs hP hD hS => ?_)
  have hP : va_P D vwCl (wLh ad cI cd te ri pi pw K Dn mv ko so tl lp lb ld le C cl dq dy cL (vp_updL ou 0 (Int32.toInt64 (jCodes pi d 5)))) H := hP
  have hD : va_D A (wLh ad cI cd te ri pi pw K Dn mv ko so tl lp lb ld le C cl dq dy cL (vp_updL ou 0 (Int32.toInt64 (jCodes pi d 5)))) := hD
  refine lv_goto (tgt := 15) hx hb dL_codes_9 (by decide) ?_
  refine lv_iconst (v := 0) hx hb dL_codes_15 (by decide) ?_
  exact W.iret (v := 0) hx hb hr (fun tZ htZ hWZ => ⟨⟨_, (), rfl, rfl, by rw [htZ]; exact hP, by rw [hAe]; exact hD⟩, hS.F htZ⟩) hS.2.2 dL_codes_16
set_option maxHeartbeats 4000000 in
set_option maxRecDepth 100000 in
theorem c_L_isAbove_ok (l : Launch) (D : va_G) (ad : Nat → Nat) (cI : ClassId) (cd : Nat → Int32) (te : Nat → Int32) (ri : Nat → Int32) (pi : Nat → Int32) (pw : Nat → Int32) (K : Nat) (Dn : Nat) (mv : Int32) (ko : Nat → Int32) (so : Nat → Int32) (tl : Nat → Int32) (lp : Nat → Int32) (lb : Nat → Int32) (ld : Nat → Int32) (le : Nat → Int32) (C : Nat) (cl : Nat → Int32) (dq : Nat → Int32) (dy : Int32) (cL : ClassId) (ou : Nat → Int64) (k : Nat) (k2 : Nat) (sz : Nat) (hK8 : K ≤ 8) (hD8 : Dn ≤ 8) (hk : k < K) (hk2 : k2 < K) : Met l yL_isAbove wsL_isAbove ({ frames := 4, cells := 0, slots := 0, locals := 90 } : Room) (wrP [.ref (ad 14), .int (nI k), .int (nI k2), .ref (ad 17)] D sz (wLh ad cI cd te ri pi pw K Dn mv ko so tl lp lb ld le C cl dq dy cL ou) [(cI, .int), (cL, .long)]) (va_Qi (fun rZ (_ : Unit) => rZ = 0) (wrB D sz (wLh ad cI cd te ri pi pw K Dn mv ko so tl lp lb ld le C cl dq dy cL ou) (wLh ad cI cd te ri pi pw K Dn mv ko so tl lp lb ld le C cl dq dy cL (vp_updL ou 0 (if (jAbove (jDoors pi te k Dn) (jDoors pi te k2 Dn)) = true then 1 else 0)))) (va_A (wLh ad cI cd te ri pi pw K Dn mv ko so tl lp lb ld le C cl dq dy cL ou) sz)) 0 0 (va_A (wLh ad cI cd te ri pi pw K Dn mv ko so tl lp lb ld le C cl dq dy cL ou) sz) := by
  refine va_MetW (cc := cL_isAbove) (maxL := 5) (ret := (some .int)) (hh := [(0, 17, 20, 24)]) (by decide) rfl ?_
  intro p e s m args below meth c s₁ B hml hv
  obtain ⟨rfl, hsz, hP, hD0, hK⟩ := hv
  have hx := B.exec
  have hb := B.bytes
  have hr := B.returns
  have hts := atoms_spec (ws := wsL_isAbove) B.pre
  have hown : s.vm.findClass RL = some m.cls := findClass_of_methodNamed B.named
  have hlocks := B.notSynchronized
  subst hsz
  have hD := hD0.self (sz := s.heap.size)
  generalize hAe : va_A (wLh ad cI cd te ri pi pw K Dn mv ko so tl lp lb ld le C cl dq dy cL ou) s.heap.size = A at hD ⊢
  have hA : ∀ q : Nat, s.heap.size ≤ q → A q := fun q h => by rw [← hAe]; exact Or.inr h
  have hl := lv_entry ([.ref (ad 14), .int (nI k), .int (nI k2), .ref (ad 17)]) (n := 5) (Nat.le_of_ble_eq_true rfl)
  rw [lg_entry_eq]
  generalize (lg_sl ([.ref (ad 14), .int (nI k), .int (nI k2), .ref (ad 17)]) ++ List.replicate (5 - (lg_sl ([.ref (ad 14), .int (nI k), .int (nI k2), .ref (ad 17)])).length) Slot.unset).toArray = ls at hl ⊢
  have hl : lv_has ls 5 [(0, .ref (ad 14)), (1, .int (nI k)), (2, .int (nI k2)), (3, .ref (ad 17))] := hl
  refine W.genH (fun H locs eH eL => ?_)
  have hS : va_S A s.heap H locs := by rw [eH, eL]; exact va_S.rf
  have hP : va_P D vwCl (wLh ad cI cd te ri pi pw K Dn mv ko so tl lp lb ld le C cl dq dy cL ou) H := by rw [eH]; exact hP
  clear eH eL
  refine lv_aload_n hx hb dL_isAbove_0 rfl (lv_at hl 3 rfl) ?_
  refine lv_iconst (v := 0) hx hb dL_isAbove_1 (by decide) ?_
  refine lv_aload_n hx hb dL_isAbove_2 rfl (lv_at hl 0 rfl) ?_
  refine lv_iload_n hx hb dL_isAbove_3 rfl (lv_at hl 1 rfl) ?_
  refine lv_iload_n hx hb dL_isAbove_4 rfl (lv_at hl 2 rfl) ?_
  refine kc_rVi (As := [.int (nI k), .int (nI k2)]) (rest := [.int 0, .ref (ad 17)]) ⟨hx, hb, hml, hown, hts⟩ (c_X2_isAbove_ok l D ad cI cd te ri pi pw K Dn mv ko so tl lp lb ld le C cl dq dy k k2 hK8 hD8 hk hk2) (cwV 2 hts gL_isAbove_X2_isAbove rfl rfl rfl (by decide +kernel) ⟨Nat.le_of_ble_eq_true rfl, Nat.le_of_ble_eq_true rfl⟩) hK hP [0, 1, 2, 3, 4, 5, 6, 7, 8, 9, 10, 11, 12, 13, 14, 15, 16] [0] rfl rfl 14 rfl rfl rfl rfl hl.1 rfl (Nat.le_of_ble_eq_true rfl) dL_isAbove_5 ⟨Nat.le_of_ble_eq_true rfl, Nat.le_of_ble_eq_true rfl⟩ ?_
  refine kc_ifeqB (tgt := 15) hx hb dL_isAbove_8 (by decide) (fun c_8 => ?_) (fun c_8 => ?_)
  · refine lv_lconst (v := 0) hx hb dL_isAbove_15 (by decide) ?_
    refine kc_lst (i := 0) (n := 1) hx hb hK hP hD hS 17 1 rfl rfl (by decide) (by decide) dL_isAbove_16 (fun H locs hP hD hS => ?_)
    have hP : va_P D vwCl (wLh ad cI cd te ri pi pw K Dn mv ko so tl lp lb ld le C cl dq dy cL (vp_updL ou 0 0)) H := hP
    have hD : va_D A (wLh ad cI cd te ri pi pw K Dn mv ko so tl lp lb ld le C cl dq dy cL (vp_updL ou 0 0)) := hD
    refine lv_goto (tgt := 24) hx hb dL_isAbove_17 (by decide) ?_
    refine lv_iconst (v := 0) hx hb dL_isAbove_24 (by decide) ?_
    have eqw_ou : vp_updL ou 0 (if (jAbove (jDoors pi te k Dn) (jDoors pi te k2 Dn)) = true then 1 else 0) = vp_updL ou 0 0 := by simp only [if_neg c_8]
    have hP : va_P D vwCl (wLh ad cI cd te ri pi pw K Dn mv ko so tl lp lb ld le C cl dq dy cL (vp_updL ou 0 (if (jAbove (jDoors pi te k Dn) (jDoors pi te k2 Dn)) = true then 1 else 0))) H := by rw [eqw_ou]; exact hP
    have hD : va_D A (wLh ad cI cd te ri pi pw K Dn mv ko so tl lp lb ld le C cl dq dy cL (vp_updL ou 0 (if (jAbove (jDoors pi te k Dn) (jDoors pi te k2 Dn)) = true then 1 else 0))) := by rw [eqw_ou]; exact hD
    exact W.iret (v := 0) hx hb hr (fun tZ htZ hWZ => ⟨⟨_, (), rfl, rfl, by rw [htZ]; exact hP, by rw [hAe]; exact hD⟩, hS.F htZ⟩) hS.2.2 dL_isAbove_25
  · refine lv_lconst (v := 1) hx hb dL_isAbove_11 (by decide) ?_
    refine lv_goto (tgt := 16) hx hb dL_isAbove_12 (by decide) ?_
    refine kc_lst (i := 0) (n := 1) hx hb hK hP hD hS 17 1 rfl rfl (by decide) (by decide) dL_isAbove_16 (fun H locs hP hD hS => ?_)
    have hP : va_P D vwCl (wLh ad cI cd te ri pi pw K Dn mv ko so tl lp lb ld le C cl dq dy cL (vp_updL ou 0 1)) H := hP
    have hD : va_D A (wLh ad cI cd te ri pi pw K Dn mv ko so tl lp lb ld le C cl dq dy cL (vp_updL ou 0 1)) := hD
    refine lv_goto (tgt := 24) hx hb dL_isAbove_17 (by decide) ?_
    refine lv_iconst (v := 0) hx hb dL_isAbove_24 (by decide) ?_
    have eqw_ou : vp_updL ou 0 (if (jAbove (jDoors pi te k Dn) (jDoors pi te k2 Dn)) = true then 1 else 0) = vp_updL ou 0 1 := by simp only [if_pos c_8]
    have hP : va_P D vwCl (wLh ad cI cd te ri pi pw K Dn mv ko so tl lp lb ld le C cl dq dy cL (vp_updL ou 0 (if (jAbove (jDoors pi te k Dn) (jDoors pi te k2 Dn)) = true then 1 else 0))) H := by rw [eqw_ou]; exact hP
    have hD : va_D A (wLh ad cI cd te ri pi pw K Dn mv ko so tl lp lb ld le C cl dq dy cL (vp_updL ou 0 (if (jAbove (jDoors pi te k Dn) (jDoors pi te k2 Dn)) = true then 1 else 0))) := by rw [eqw_ou]; exact hD
    exact W.iret (v := 0) hx hb hr (fun tZ htZ hWZ => ⟨⟨_, (), rfl, rfl, by rw [htZ]; exact hP, by rw [hAe]; exact hD⟩, hS.F htZ⟩) hS.2.2 dL_isAbove_25
set_option maxHeartbeats 4000000 in
set_option maxRecDepth 100000 in
theorem c_L_copy_ok (l : Launch) (D : va_G) (ad : Nat → Nat) (cI : ClassId) (cd : Nat → Int32) (te : Nat → Int32) (ri : Nat → Int32) (pi : Nat → Int32) (pw : Nat → Int32) (K : Nat) (Dn : Nat) (mv : Int32) (ko : Nat → Int32) (so : Nat → Int32) (tl : Nat → Int32) (lp : Nat → Int32) (lb : Nat → Int32) (ld : Nat → Int32) (le : Nat → Int32) (C : Nat) (cl : Nat → Int32) (dq : Nat → Int32) (dy : Int32) (cL : ClassId) (ou : Nat → Int64) (cx : Nat) (q : Nat) (tn : Nat → Nat) (sz : Nat) (hC24 : C ≤ 24) (hc : cx < C) (hok : okLe so tl tn) (hq : q < 5) : Met l yL_copy wsL_copy ({ frames := 3, cells := 0, slots := 0, locals := 64 } : Room) (wrP [.ref (ad 14), .int (nI cx), .int (nI q), .ref (ad 17)] D sz (wLh ad cI cd te ri pi pw K Dn mv ko so tl lp lb ld le C cl dq dy cL ou) [(cI, .int), (cL, .long)]) (va_Qi (fun rZ (_ : Unit) => rZ = 0) (wrB D sz (wLh ad cI cd te ri pi pw K Dn mv ko so tl lp lb ld le C cl dq dy cL ou) (wLh ad cI cd te ri pi pw K Dn mv ko so tl lp lb ld le C cl dq dy cL (vp_updL ou 0 (Int32.toInt64 (jTold ko so tl lp ld tn cx (nI q)))))) (va_A (wLh ad cI cd te ri pi pw K Dn mv ko so tl lp lb ld le C cl dq dy cL ou) sz)) 0 0 (va_A (wLh ad cI cd te ri pi pw K Dn mv ko so tl lp lb ld le C cl dq dy cL ou) sz) := by
  refine va_MetW (cc := cL_copy) (maxL := 5) (ret := (some .int)) (hh := [(0, 10, 13, 24)]) (by decide) rfl ?_
  intro p e s m args below meth c s₁ B hml hv
  obtain ⟨rfl, hsz, hP, hD0, hK⟩ := hv
  have hx := B.exec
  have hb := B.bytes
  have hr := B.returns
  have hts := atoms_spec (ws := wsL_copy) B.pre
  have hown : s.vm.findClass RL = some m.cls := findClass_of_methodNamed B.named
  have hlocks := B.notSynchronized
  subst hsz
  have hD := hD0.self (sz := s.heap.size)
  generalize hAe : va_A (wLh ad cI cd te ri pi pw K Dn mv ko so tl lp lb ld le C cl dq dy cL ou) s.heap.size = A at hD ⊢
  have hA : ∀ q : Nat, s.heap.size ≤ q → A q := fun q h => by rw [← hAe]; exact Or.inr h
  have hl := lv_entry ([.ref (ad 14), .int (nI cx), .int (nI q), .ref (ad 17)]) (n := 5) (Nat.le_of_ble_eq_true rfl)
  rw [lg_entry_eq]
  generalize (lg_sl ([.ref (ad 14), .int (nI cx), .int (nI q), .ref (ad 17)]) ++ List.replicate (5 - (lg_sl ([.ref (ad 14), .int (nI cx), .int (nI q), .ref (ad 17)])).length) Slot.unset).toArray = ls at hl ⊢
  have hl : lv_has ls 5 [(0, .ref (ad 14)), (1, .int (nI cx)), (2, .int (nI q)), (3, .ref (ad 17))] := hl
  refine W.genH (fun H locs eH eL => ?_)
  have hS : va_S A s.heap H locs := by rw [eH, eL]; exact va_S.rf
  have hP : va_P D vwCl (wLh ad cI cd te ri pi pw K Dn mv ko so tl lp lb ld le C cl dq dy cL ou) H := by rw [eH]; exact hP
  clear eH eL
  refine lv_aload_n hx hb dL_copy_0 rfl (lv_at hl 3 rfl) ?_
  refine lv_iconst (v := 0) hx hb dL_copy_1 (by decide) ?_
  refine lv_aload_n hx hb dL_copy_2 rfl (lv_at hl 0 rfl) ?_
  refine lv_iload_n hx hb dL_copy_3 rfl (lv_at hl 1 rfl) ?_
  refine lv_iload_n hx hb dL_copy_4 rfl (lv_at hl 2 rfl) ?_
  refine kc_rVi (As := [.int (nI cx), .int (nI q)]) (rest := [.int 0, .ref (ad 17)]) ⟨hx, hb, hml, hown, hts⟩ (c_X2_copy_ok l D ad cI cd te ri pi pw K Dn mv ko so tl lp lb ld le C cl dq dy cx q tn hC24 hc hok hq) (cwV 2 hts gL_copy_X2_copy rfl rfl rfl (by decide +kernel) ⟨Nat.le_of_ble_eq_true rfl, Nat.le_of_ble_eq_true rfl⟩) hK hP [0, 1, 2, 3, 4, 5, 6, 7, 8, 9, 10, 11, 12, 13, 14, 15, 16] [0] rfl rfl 14 rfl rfl rfl rfl hl.1 rfl (Nat.le_of_ble_eq_true rfl) dL_copy_5 ⟨Nat.le_of_ble_eq_true rfl, Nat.le_of_ble_eq_true rfl⟩ ?_
  refine lv_i2l (v := Int32.toInt64 (jTold ko so tl lp ld tn cx (nI q))) hx hb dL_copy_8 rfl ?_
  refine kc_lst (i := 0) (n := 1) hx hb hK hP hD hS 17 1 rfl rfl (by decide) (by decide) dL_copy_9 (fun H locs hP hD hS => ?_)
  have hP : va_P D vwCl (wLh ad cI cd te ri pi pw K Dn mv ko so tl lp lb ld le C cl dq dy cL (vp_updL ou 0 (Int32.toInt64 (jTold ko so tl lp ld tn cx (nI q))))) H := hP
  have hD : va_D A (wLh ad cI cd te ri pi pw K Dn mv ko so tl lp lb ld le C cl dq dy cL (vp_updL ou 0 (Int32.toInt64 (jTold ko so tl lp ld tn cx (nI q))))) := hD
  refine lv_goto (tgt := 17) hx hb dL_copy_10 (by decide) ?_
  refine lv_iconst (v := 0) hx hb dL_copy_17 (by decide) ?_
  exact W.iret (v := 0) hx hb hr (fun tZ htZ hWZ => ⟨⟨_, (), rfl, rfl, by rw [htZ]; exact hP, by rw [hAe]; exact hD⟩, hS.F htZ⟩) hS.2.2 dL_copy_18
set_option maxHeartbeats 4000000 in
set_option maxRecDepth 100000 in
theorem c_L_holderAt_ok (l : Launch) (D : va_G) (ad : Nat → Nat) (cI : ClassId) (cd : Nat → Int32) (te : Nat → Int32) (ri : Nat → Int32) (pi : Nat → Int32) (pw : Nat → Int32) (K : Nat) (Dn : Nat) (mv : Int32) (ko : Nat → Int32) (so : Nat → Int32) (tl : Nat → Int32) (lp : Nat → Int32) (lb : Nat → Int32) (ld : Nat → Int32) (le : Nat → Int32) (C : Nat) (cl : Nat → Int32) (dq : Nat → Int32) (dy : Int32) (cL : ClassId) (ou : Nat → Int64) (cx : Nat) (da : Int32) (tn : Nat → Nat) (sz : Nat) (hC24 : C ≤ 24) (hc : cx < C) (hok : okLe so tl tn) (hz1 : ¬ da < 0) (hz2 : da ≤ dy) : Met l yL_holderAt wsL_holderAt ({ frames := 2, cells := 0, slots := 0, locals := 46 } : Room) (wrP [.ref (ad 14), .int (nI cx), .int da, .ref (ad 17)] D sz (wLh ad cI cd te ri pi pw K Dn mv ko so tl lp lb ld le C cl dq dy cL ou) [(cI, .int), (cL, .long)]) (va_Qi (fun rZ (_ : Unit) => rZ = 0) (wrB D sz (wLh ad cI cd te ri pi pw K Dn mv ko so tl lp lb ld le C cl dq dy cL ou) (wLh ad cI cd te ri pi pw K Dn mv ko so tl lp lb ld le C cl dq dy cL (vp_updL ou 0 (Int32.toInt64 (jHolderOn lp lb le cx (tn cx) da))))) (va_A (wLh ad cI cd te ri pi pw K Dn mv ko so tl lp lb ld le C cl dq dy cL ou) sz)) 0 0 (va_A (wLh ad cI cd te ri pi pw K Dn mv ko so tl lp lb ld le C cl dq dy cL ou) sz) := by
  refine va_MetW (cc := cL_holderAt) (maxL := 5) (ret := (some .int)) (hh := [(0, 10, 13, 24), (0, 10, 17, 13)]) (by decide) rfl ?_
  intro p e s m args below meth c s₁ B hml hv
  obtain ⟨rfl, hsz, hP, hD0, hK⟩ := hv
  have hx := B.exec
  have hb := B.bytes
  have hr := B.returns
  have hts := atoms_spec (ws := wsL_holderAt) B.pre
  have hown : s.vm.findClass RL = some m.cls := findClass_of_methodNamed B.named
  have hlocks := B.notSynchronized
  subst hsz
  have hD := hD0.self (sz := s.heap.size)
  generalize hAe : va_A (wLh ad cI cd te ri pi pw K Dn mv ko so tl lp lb ld le C cl dq dy cL ou) s.heap.size = A at hD ⊢
  have hA : ∀ q : Nat, s.heap.size ≤ q → A q := fun q h => by rw [← hAe]; exact Or.inr h
  have hl := lv_entry ([.ref (ad 14), .int (nI cx), .int da, .ref (ad 17)]) (n := 5) (Nat.le_of_ble_eq_true rfl)
  rw [lg_entry_eq]
  generalize (lg_sl ([.ref (ad 14), .int (nI cx), .int da, .ref (ad 17)]) ++ List.replicate (5 - (lg_sl ([.ref (ad 14), .int (nI cx), .int da, .ref (ad 17)])).length) Slot.unset).toArray = ls at hl ⊢
  have hl : lv_has ls 5 [(0, .ref (ad 14)), (1, .int (nI cx)), (2, .int da), (3, .ref (ad 17))] := hl
  refine W.genH (fun H locs eH eL => ?_)
  have hS : va_S A s.heap H locs := by rw [eH, eL]; exact va_S.rf
  have hP : va_P D vwCl (wLh ad cI cd te ri pi pw K Dn mv ko so tl lp lb ld le C cl dq dy cL ou) H := by rw [eH]; exact hP
  clear eH eL
  refine lv_aload_n hx hb dL_holderAt_0 rfl (lv_at hl 3 rfl) ?_
  refine lv_iconst (v := 0) hx hb dL_holderAt_1 (by decide) ?_
  refine lv_aload_n hx hb dL_holderAt_2 rfl (lv_at hl 0 rfl) ?_
  refine lv_iload_n hx hb dL_holderAt_3 rfl (lv_at hl 1 rfl) ?_
  refine lv_iload_n hx hb dL_holderAt_4 rfl (lv_at hl 2 rfl) ?_
  refine kc_rVi (As := [.int (nI cx), .int da]) (rest := [.int 0, .ref (ad 17)]) ⟨hx, hb, hml, hown, hts⟩ (c_X2_holderAt_ok l D ad cI cd te ri pi pw K Dn mv ko so tl lp lb ld le C cl dq dy cx da tn hC24 hc hok hz1 hz2) (cwV 2 hts gL_holderAt_X2_holderAt rfl rfl rfl (by decide +kernel) ⟨Nat.le_of_ble_eq_true rfl, Nat.le_of_ble_eq_true rfl⟩) hK hP [0, 1, 2, 3, 4, 5, 6, 7, 8, 9, 10, 11, 12, 13, 14, 15, 16] [0] rfl rfl 14 rfl rfl rfl rfl hl.1 rfl (Nat.le_of_ble_eq_true rfl) dL_holderAt_5 ⟨Nat.le_of_ble_eq_true rfl, Nat.le_of_ble_eq_true rfl⟩ ?_
  refine lv_i2l (v := Int32.toInt64 (jHolderOn lp lb le cx (tn cx) da)) hx hb dL_holderAt_8 rfl ?_
  refine kc_lst (i := 0) (n := 1) hx hb hK hP hD hS 17 1 rfl rfl (by decide) (by decide) dL_holderAt_9 (fun H locs hP hD hS => ?_)
  have hP : va_P D vwCl (wLh ad cI cd te ri pi pw K Dn mv ko so tl lp lb ld le C cl dq dy cL (vp_updL ou 0 (Int32.toInt64 (jHolderOn lp lb le cx (tn cx) da)))) H := hP
  have hD : va_D A (wLh ad cI cd te ri pi pw K Dn mv ko so tl lp lb ld le C cl dq dy cL (vp_updL ou 0 (Int32.toInt64 (jHolderOn lp lb le cx (tn cx) da)))) := hD
  refine lv_goto (tgt := 21) hx hb dL_holderAt_10 (by decide) ?_
  refine lv_iconst (v := 0) hx hb dL_holderAt_21 (by decide) ?_
  exact W.iret (v := 0) hx hb hr (fun tZ htZ hWZ => ⟨⟨_, (), rfl, rfl, by rw [htZ]; exact hP, by rw [hAe]; exact hD⟩, hS.F htZ⟩) hS.2.2 dL_holderAt_22
set_option maxHeartbeats 4000000 in
set_option maxRecDepth 100000 in
theorem c_L_reach_ok (l : Launch) (D : va_G) (ad : Nat → Nat) (cI : ClassId) (cd : Nat → Int32) (te : Nat → Int32) (ri : Nat → Int32) (pi : Nat → Int32) (pw : Nat → Int32) (K : Nat) (Dn : Nat) (mv : Int32) (ko : Nat → Int32) (so : Nat → Int32) (tl : Nat → Int32) (lp : Nat → Int32) (lb : Nat → Int32) (ld : Nat → Int32) (le : Nat → Int32) (C : Nat) (cl : Nat → Int32) (dq : Nat → Int32) (dy : Int32) (cL : ClassId) (ou : Nat → Int64) (pe : Int32) (tn : Nat → Nat) (sz : Nat) (hK8 : K ≤ 8) (hD8 : Dn ≤ 8) (hC24 : C ≤ 24) (hok : okLe so tl tn) (hp : jIn 8 pe = true) : Met l yL_reach wsL_reach ({ frames := 6, cells := 0, slots := 0, locals := 131 } : Room) (wrP [.ref (ad 14), .int pe, .ref (ad 17)] D sz (wLh ad cI cd te ri pi pw K Dn mv ko so tl lp lb ld le C cl dq dy cL ou) [(cI, .int), (cL, .long)]) (va_Qi (fun rZ (_ : Unit) => rZ = 0) (wrB D sz (wLh ad cI cd te ri pi pw K Dn mv ko so tl lp lb ld le C cl dq dy cL ou) (wLh ad cI cd te ri pi pw K Dn mv ko so tl lp lb ld le C cl dq dy cL (vp_updL ou 0 (Int32.toInt64 (jReach pi te Dn K ko so lp tn C pe))))) (va_A (wLh ad cI cd te ri pi pw K Dn mv ko so tl lp lb ld le C cl dq dy cL ou) sz)) 0 0 (va_A (wLh ad cI cd te ri pi pw K Dn mv ko so tl lp lb ld le C cl dq dy cL ou) sz) := by
  refine va_MetW (cc := cL_reach) (maxL := 4) (ret := (some .int)) (hh := [(0, 9, 12, 24)]) (by decide) rfl ?_
  intro p e s m args below meth c s₁ B hml hv
  obtain ⟨rfl, hsz, hP, hD0, hK⟩ := hv
  have hx := B.exec
  have hb := B.bytes
  have hr := B.returns
  have hts := atoms_spec (ws := wsL_reach) B.pre
  have hown : s.vm.findClass RL = some m.cls := findClass_of_methodNamed B.named
  have hlocks := B.notSynchronized
  subst hsz
  have hD := hD0.self (sz := s.heap.size)
  generalize hAe : va_A (wLh ad cI cd te ri pi pw K Dn mv ko so tl lp lb ld le C cl dq dy cL ou) s.heap.size = A at hD ⊢
  have hA : ∀ q : Nat, s.heap.size ≤ q → A q := fun q h => by rw [← hAe]; exact Or.inr h
  have hl := lv_entry ([.ref (ad 14), .int pe, .ref (ad 17)]) (n := 4) (Nat.le_of_ble_eq_true rfl)
  rw [lg_entry_eq]
  generalize (lg_sl ([.ref (ad 14), .int pe, .ref (ad 17)]) ++ List.replicate (4 - (lg_sl ([.ref (ad 14), .int pe, .ref (ad 17)])).length) Slot.unset).toArray = ls at hl ⊢
  have hl : lv_has ls 4 [(0, .ref (ad 14)), (1, .int pe), (2, .ref (ad 17))] := hl
  refine W.genH (fun H locs eH eL => ?_)
  have hS : va_S A s.heap H locs := by rw [eH, eL]; exact va_S.rf
  have hP : va_P D vwCl (wLh ad cI cd te ri pi pw K Dn mv ko so tl lp lb ld le C cl dq dy cL ou) H := by rw [eH]; exact hP
  clear eH eL
  refine lv_aload_n hx hb dL_reach_0 rfl (lv_at hl 2 rfl) ?_
  refine lv_iconst (v := 0) hx hb dL_reach_1 (by decide) ?_
  refine lv_aload_n hx hb dL_reach_2 rfl (lv_at hl 0 rfl) ?_
  refine lv_iload_n hx hb dL_reach_3 rfl (lv_at hl 1 rfl) ?_
  refine kc_rVi (As := [.int pe]) (rest := [.int 0, .ref (ad 17)]) ⟨hx, hb, hml, hown, hts⟩ (c_X2_reach_ok l D ad cI cd te ri pi pw K Dn mv ko so tl lp lb ld le C cl dq dy pe tn hK8 hD8 hC24 hok hp) (cwV 1 hts gL_reach_X2_reach rfl rfl rfl (by decide +kernel) ⟨Nat.le_of_ble_eq_true rfl, Nat.le_of_ble_eq_true rfl⟩) hK hP [0, 1, 2, 3, 4, 5, 6, 7, 8, 9, 10, 11, 12, 13, 14, 15, 16] [0] rfl rfl 14 rfl rfl rfl rfl hl.1 rfl (Nat.le_of_ble_eq_true rfl) dL_reach_4 ⟨Nat.le_of_ble_eq_true rfl, Nat.le_of_ble_eq_true rfl⟩ ?_
  refine lv_i2l (v := Int32.toInt64 (jReach pi te Dn K ko so lp tn C pe)) hx hb dL_reach_7 rfl ?_
  refine kc_lst (i := 0) (n := 1) hx hb hK hP hD hS 17 1 rfl rfl (by decide) (by decide) dL_reach_8 (fun H locs hP hD hS => ?_)
  have hP : va_P D vwCl (wLh ad cI cd te ri pi pw K Dn mv ko so tl lp lb ld le C cl dq dy cL (vp_updL ou 0 (Int32.toInt64 (jReach pi te Dn K ko so lp tn C pe)))) H := hP
  have hD : va_D A (wLh ad cI cd te ri pi pw K Dn mv ko so tl lp lb ld le C cl dq dy cL (vp_updL ou 0 (Int32.toInt64 (jReach pi te Dn K ko so lp tn C pe)))) := hD
  refine lv_goto (tgt := 15) hx hb dL_reach_9 (by decide) ?_
  refine lv_iconst (v := 0) hx hb dL_reach_15 (by decide) ?_
  exact W.iret (v := 0) hx hb hr (fun tZ htZ hWZ => ⟨⟨_, (), rfl, rfl, by rw [htZ]; exact hP, by rw [hAe]; exact hD⟩, hS.F htZ⟩) hS.2.2 dL_reach_16
set_option maxHeartbeats 4000000 in
set_option maxRecDepth 100000 in
theorem c_L_suggest_ok (l : Launch) (D : va_G) (ad : Nat → Nat) (cI : ClassId) (cd : Nat → Int32) (te : Nat → Int32) (ri : Nat → Int32) (pi : Nat → Int32) (pw : Nat → Int32) (K : Nat) (Dn : Nat) (mv : Int32) (ko : Nat → Int32) (so : Nat → Int32) (tl : Nat → Int32) (lp : Nat → Int32) (lb : Nat → Int32) (ld : Nat → Int32) (le : Nat → Int32) (C : Nat) (cl : Nat → Int32) (dq : Nat → Int32) (dy : Int32) (cL : ClassId) (ou : Nat → Int64) (pe : Int32) (wa : Int32) (tn : Nat → Nat) (sz : Nat) (hK8 : K ≤ 8) (hD8 : Dn ≤ 8) (hC24 : C ≤ 24) (hok : okLe so tl tn) (hp : jIn 8 pe = true) (hs : jSetOf Dn wa = true) : Met l yL_suggest wsL_suggest ({ frames := 6, cells := 0, slots := 0, locals := 133 } : Room) (wrP [.ref (ad 14), .int pe, .int wa, .ref (ad 17)] D sz (wLh ad cI cd te ri pi pw K Dn mv ko so tl lp lb ld le C cl dq dy cL ou) [(cI, .int), (cL, .long)]) (va_Qi (fun rZ (_ : Unit) => rZ = 0) (wrB D sz (wLh ad cI cd te ri pi pw K Dn mv ko so tl lp lb ld le C cl dq dy cL ou) (wLh ad cI cd te ri pi pw K Dn mv ko so tl lp lb ld le C (jToLend ko so tl C cl K) (jOpened pi te Dn dq K) dy cL (vp_updL ou 0 (Int32.toInt64 ((jSug (jToLend ko so tl C cl K) (jOpened pi te Dn dq K) K (jReach pi te Dn K ko so lp tn C pe) wa (2 ^ K)).1))))) (va_A (wLh ad cI cd te ri pi pw K Dn mv ko so tl lp lb ld le C cl dq dy cL ou) sz)) 0 0 (va_A (wLh ad cI cd te ri pi pw K Dn mv ko so tl lp lb ld le C cl dq dy cL ou) sz) := by
  refine va_MetW (cc := cL_suggest) (maxL := 5) (ret := (some .int)) (hh := [(0, 10, 13, 24), (0, 10, 17, 13)]) (by decide) rfl ?_
  intro p e s m args below meth c s₁ B hml hv
  obtain ⟨rfl, hsz, hP, hD0, hK⟩ := hv
  have hx := B.exec
  have hb := B.bytes
  have hr := B.returns
  have hts := atoms_spec (ws := wsL_suggest) B.pre
  have hown : s.vm.findClass RL = some m.cls := findClass_of_methodNamed B.named
  have hlocks := B.notSynchronized
  subst hsz
  have hD := hD0.self (sz := s.heap.size)
  generalize hAe : va_A (wLh ad cI cd te ri pi pw K Dn mv ko so tl lp lb ld le C cl dq dy cL ou) s.heap.size = A at hD ⊢
  have hA : ∀ q : Nat, s.heap.size ≤ q → A q := fun q h => by rw [← hAe]; exact Or.inr h
  have hl := lv_entry ([.ref (ad 14), .int pe, .int wa, .ref (ad 17)]) (n := 5) (Nat.le_of_ble_eq_true rfl)
  rw [lg_entry_eq]
  generalize (lg_sl ([.ref (ad 14), .int pe, .int wa, .ref (ad 17)]) ++ List.replicate (5 - (lg_sl ([.ref (ad 14), .int pe, .int wa, .ref (ad 17)])).length) Slot.unset).toArray = ls at hl ⊢
  have hl : lv_has ls 5 [(0, .ref (ad 14)), (1, .int pe), (2, .int wa), (3, .ref (ad 17))] := hl
  refine W.genH (fun H locs eH eL => ?_)
  have hS : va_S A s.heap H locs := by rw [eH, eL]; exact va_S.rf
  have hP : va_P D vwCl (wLh ad cI cd te ri pi pw K Dn mv ko so tl lp lb ld le C cl dq dy cL ou) H := by rw [eH]; exact hP
  clear eH eL
  refine lv_aload_n hx hb dL_suggest_0 rfl (lv_at hl 3 rfl) ?_
  refine lv_iconst (v := 0) hx hb dL_suggest_1 (by decide) ?_
  refine lv_aload_n hx hb dL_suggest_2 rfl (lv_at hl 0 rfl) ?_
  refine lv_iload_n hx hb dL_suggest_3 rfl (lv_at hl 1 rfl) ?_
  refine lv_iload_n hx hb dL_suggest_4 rfl (lv_at hl 2 rfl) ?_
  refine kc_wVi (w1 := wKc ad cI cd te ri pi pw K Dn mv ko so tl lp lb ld le C (jToLend ko so tl C cl K) (jOpened pi te Dn dq K) dy) (wr := [(ad 17, .inl (cL, 1, .inr (.inl ou)))]) (ws1 := wLh ad cI cd te ri pi pw K Dn mv ko so tl lp lb ld le C (jToLend ko so tl C cl K) (jOpened pi te Dn dq K) dy cL ou) (As := [.int pe, .int wa]) (rest := [.int 0, .ref (ad 17)]) ⟨hx, hb, hml, hown, hts⟩ (c_X2_suggest_ok l D ad cI cd te ri pi pw K Dn mv ko so tl lp lb ld le C cl dq dy pe wa tn H.size hK8 hD8 hC24 hok hp hs) (cwV 2 hts gL_suggest_X2_suggest rfl rfl rfl (by decide +kernel) ⟨Nat.le_of_ble_eq_true rfl, Nat.le_of_ble_eq_true rfl⟩) hK hP hD hS hA [0, 1, 2, 3, 4, 5, 6, 7, 8, 9, 10, 11, 12, 13, 14, 15, 16] [17] [1, 2, 3, 4, 5, 6, 7, 8, 9, 10, 11, 12, 13, 14, 15, 16, 17, 0] [0] rfl rfl rfl rfl (by decide) rfl rfl rfl 14 rfl rfl rfl rfl hl.1 rfl (Nat.le_of_ble_eq_true rfl) dL_suggest_5 ⟨Nat.le_of_ble_eq_true rfl, Nat.le_of_ble_eq_true rfl⟩ (fun H locs hP hD hS => ?_)
  refine lv_i2l (v := Int32.toInt64 ((jSug (jToLend ko so tl C cl K) (jOpened pi te Dn dq K) K (jReach pi te Dn K ko so lp tn C pe) wa (2 ^ K)).1)) hx hb dL_suggest_8 rfl ?_
  refine kc_lst (i := 0) (n := 1) hx hb hK hP hD hS 17 1 rfl rfl (by decide) (by decide) dL_suggest_9 (fun H locs hP hD hS => ?_)
  have hP : va_P D vwCl (wLh ad cI cd te ri pi pw K Dn mv ko so tl lp lb ld le C (jToLend ko so tl C cl K) (jOpened pi te Dn dq K) dy cL (vp_updL ou 0 (Int32.toInt64 ((jSug (jToLend ko so tl C cl K) (jOpened pi te Dn dq K) K (jReach pi te Dn K ko so lp tn C pe) wa (2 ^ K)).1)))) H := hP
  have hD : va_D A (wLh ad cI cd te ri pi pw K Dn mv ko so tl lp lb ld le C (jToLend ko so tl C cl K) (jOpened pi te Dn dq K) dy cL (vp_updL ou 0 (Int32.toInt64 ((jSug (jToLend ko so tl C cl K) (jOpened pi te Dn dq K) K (jReach pi te Dn K ko so lp tn C pe) wa (2 ^ K)).1)))) := hD
  refine lv_goto (tgt := 21) hx hb dL_suggest_10 (by decide) ?_
  refine lv_iconst (v := 0) hx hb dL_suggest_21 (by decide) ?_
  exact W.iret (v := 0) hx hb hr (fun tZ htZ hWZ => ⟨⟨_, (), rfl, rfl, by rw [htZ]; exact hP, by rw [hAe]; exact hD⟩, hS.F htZ⟩) hS.2.2 dL_suggest_22
set_option maxHeartbeats 4000000 in
set_option maxRecDepth 100000 in
theorem c_L_addKey_ok (l : Launch) (D : va_G) (ad : Nat → Nat) (cI : ClassId) (cd : Nat → Int32) (te : Nat → Int32) (ri : Nat → Int32) (pi : Nat → Int32) (pw : Nat → Int32) (K : Nat) (Dn : Nat) (mv : Int32) (ko : Nat → Int32) (so : Nat → Int32) (tl : Nat → Int32) (lp : Nat → Int32) (lb : Nat → Int32) (ld : Nat → Int32) (le : Nat → Int32) (C : Nat) (cl : Nat → Int32) (dq : Nat → Int32) (dy : Int32) (cL : ClassId) (ou : Nat → Int64) (code : Int32) (sz : Nat) (h1 : ¬ code < 0) (h2 : code < 1024) (hK7 : K < 8) (hf : ¬ jTaken cd K code = true) : Met l yL_addKey wsL_addKey ({ frames := 3, cells := 0, slots := 0, locals := 66 } : Room) (wrP [.ref (ad 14), .int code, .ref (ad 17)] D sz (wLh ad cI cd te ri pi pw K Dn mv ko so tl lp lb ld le C cl dq dy cL ou) [(cI, .int), (cL, .long)]) (va_Qi (fun rZ (_ : Unit) => rZ = 0) (wrB D sz (wLh ad cI cd te ri pi pw K Dn mv ko so tl lp lb ld le C cl dq dy cL ou) (wLh ad cI (upd cd K code) (upd te K (jTeeth code 5)) ri pi pw (K + 1) Dn mv ko so tl lp lb ld le C cl dq dy cL (vp_updL ou 0 (Int32.toInt64 (nI K))))) (va_A (wLh ad cI cd te ri pi pw K Dn mv ko so tl lp lb ld le C cl dq dy cL ou) sz)) 0 0 (va_A (wLh ad cI cd te ri pi pw K Dn mv ko so tl lp lb ld le C cl dq dy cL ou) sz) := by
  refine va_MetW (cc := cL_addKey) (maxL := 4) (ret := (some .int)) (hh := [(0, 9, 12, 13), (0, 9, 15, 15)]) (by decide) rfl ?_
  intro p e s m args below meth c s₁ B hml hv
  obtain ⟨rfl, hsz, hP, hD0, hK⟩ := hv
  have hx := B.exec
  have hb := B.bytes
  have hr := B.returns
  have hts := atoms_spec (ws := wsL_addKey) B.pre
  have hown : s.vm.findClass RL = some m.cls := findClass_of_methodNamed B.named
  have hlocks := B.notSynchronized
  subst hsz
  have hD := hD0.self (sz := s.heap.size)
  generalize hAe : va_A (wLh ad cI cd te ri pi pw K Dn mv ko so tl lp lb ld le C cl dq dy cL ou) s.heap.size = A at hD ⊢
  have hA : ∀ q : Nat, s.heap.size ≤ q → A q := fun q h => by rw [← hAe]; exact Or.inr h
  have hl := lv_entry ([.ref (ad 14), .int code, .ref (ad 17)]) (n := 4) (Nat.le_of_ble_eq_true rfl)
  rw [lg_entry_eq]
  generalize (lg_sl ([.ref (ad 14), .int code, .ref (ad 17)]) ++ List.replicate (4 - (lg_sl ([.ref (ad 14), .int code, .ref (ad 17)])).length) Slot.unset).toArray = ls at hl ⊢
  have hl : lv_has ls 4 [(0, .ref (ad 14)), (1, .int code), (2, .ref (ad 17))] := hl
  refine W.genH (fun H locs eH eL => ?_)
  have hS : va_S A s.heap H locs := by rw [eH, eL]; exact va_S.rf
  have hP : va_P D vwCl (wLh ad cI cd te ri pi pw K Dn mv ko so tl lp lb ld le C cl dq dy cL ou) H := by rw [eH]; exact hP
  clear eH eL
  refine lv_aload_n hx hb dL_addKey_0 rfl (lv_at hl 2 rfl) ?_
  refine lv_iconst (v := 0) hx hb dL_addKey_1 (by decide) ?_
  refine lv_aload_n hx hb dL_addKey_2 rfl (lv_at hl 0 rfl) ?_
  refine lv_iload_n hx hb dL_addKey_3 rfl (lv_at hl 1 rfl) ?_
  refine kc_wVi (w1 := wKc ad cI (upd cd K code) (upd te K (jTeeth code 5)) ri pi pw (K + 1) Dn mv ko so tl lp lb ld le C cl dq dy) (wr := [(ad 17, .inl (cL, 1, .inr (.inl ou)))]) (ws1 := wLh ad cI (upd cd K code) (upd te K (jTeeth code 5)) ri pi pw (K + 1) Dn mv ko so tl lp lb ld le C cl dq dy cL ou) (As := [.int code]) (rest := [.int 0, .ref (ad 17)]) ⟨hx, hb, hml, hown, hts⟩ (c_X2_addKey_ok l D ad cI cd te ri pi pw K Dn mv ko so tl lp lb ld le C cl dq dy code H.size h1 h2 hK7 hf) (cwV 1 hts gL_addKey_X2_addKey rfl rfl rfl (by decide +kernel) ⟨Nat.le_of_ble_eq_true rfl, Nat.le_of_ble_eq_true rfl⟩) hK hP hD hS hA [0, 1, 2, 3, 4, 5, 6, 7, 8, 9, 10, 11, 12, 13, 14, 15, 16] [17] [1, 2, 3, 4, 5, 6, 7, 8, 9, 10, 11, 12, 13, 14, 15, 16, 17, 0] [0] rfl rfl rfl rfl (by decide) rfl rfl rfl 14 rfl rfl rfl rfl hl.1 rfl (Nat.le_of_ble_eq_true rfl) dL_addKey_4 ⟨Nat.le_of_ble_eq_true rfl, Nat.le_of_ble_eq_true rfl⟩ (fun H locs hP hD hS => ?_)
  refine lv_i2l (v := Int32.toInt64 (nI K)) hx hb dL_addKey_7 rfl ?_
  refine kc_lst (i := 0) (n := 1) hx hb hK hP hD hS 17 1 rfl rfl (by decide) (by decide) dL_addKey_8 (fun H locs hP hD hS => ?_)
  have hP : va_P D vwCl (wLh ad cI (upd cd K code) (upd te K (jTeeth code 5)) ri pi pw (K + 1) Dn mv ko so tl lp lb ld le C cl dq dy cL (vp_updL ou 0 (Int32.toInt64 (nI K)))) H := hP
  have hD : va_D A (wLh ad cI (upd cd K code) (upd te K (jTeeth code 5)) ri pi pw (K + 1) Dn mv ko so tl lp lb ld le C cl dq dy cL (vp_updL ou 0 (Int32.toInt64 (nI K)))) := hD
  refine lv_goto (tgt := 18) hx hb dL_addKey_9 (by decide) ?_
  refine lv_iconst (v := 0) hx hb dL_addKey_18 (by decide) ?_
  exact W.iret (v := 0) hx hb hr (fun tZ htZ hWZ => ⟨⟨_, (), rfl, rfl, by rw [htZ]; exact hP, by rw [hAe]; exact hD⟩, hS.F htZ⟩) hS.2.2 dL_addKey_19
set_option maxHeartbeats 4000000 in
set_option maxRecDepth 100000 in
theorem c_L_addDoor_ok (l : Launch) (D : va_G) (ad : Nat → Nat) (cI : ClassId) (cd : Nat → Int32) (te : Nat → Int32) (ri : Nat → Int32) (pi : Nat → Int32) (pw : Nat → Int32) (K : Nat) (Dn : Nat) (mv : Int32) (ko : Nat → Int32) (so : Nat → Int32) (tl : Nat → Int32) (lp : Nat → Int32) (lb : Nat → Int32) (ld : Nat → Int32) (le : Nat → Int32) (C : Nat) (cl : Nat → Int32) (dq : Nat → Int32) (dy : Int32) (cL : ClassId) (ou : Nat → Int64) (r : Int32) (sz : Nat) (hK8 : K ≤ 8) (hs : jSetOf K r = true) (hD7 : Dn < 8) : Met l yL_addDoor wsL_addDoor ({ frames := 5, cells := 0, slots := 0, locals := 110 } : Room) (wrP [.ref (ad 14), .int r, .ref (ad 17)] D sz (wLh ad cI cd te ri pi pw K Dn mv ko so tl lp lb ld le C cl dq dy cL ou) [(cI, .int), (cL, .long)]) (va_Qi (fun rZ (_ : Unit) => rZ = 0) (wrB D sz (wLh ad cI cd te ri pi pw K Dn mv ko so tl lp lb ld le C cl dq dy cL ou) (wLh ad cI cd te (upd ri Dn r) (upd pi Dn (jPinsFor te r K)) pw K (Dn + 1) (mv + jPop (pi Dn ^^^ jPinsFor te r K)) ko so tl lp lb ld le C cl dq dy cL (vp_updL ou 0 (Int32.toInt64 (nI Dn))))) (va_A (wLh ad cI cd te ri pi pw K Dn mv ko so tl lp lb ld le C cl dq dy cL ou) sz)) 0 0 (va_A (wLh ad cI cd te ri pi pw K Dn mv ko so tl lp lb ld le C cl dq dy cL ou) sz) := by
  refine va_MetW (cc := cL_addDoor) (maxL := 4) (ret := (some .int)) (hh := [(0, 9, 12, 13), (0, 9, 15, 15)]) (by decide) rfl ?_
  intro p e s m args below meth c s₁ B hml hv
  obtain ⟨rfl, hsz, hP, hD0, hK⟩ := hv
  have hx := B.exec
  have hb := B.bytes
  have hr := B.returns
  have hts := atoms_spec (ws := wsL_addDoor) B.pre
  have hown : s.vm.findClass RL = some m.cls := findClass_of_methodNamed B.named
  have hlocks := B.notSynchronized
  subst hsz
  have hD := hD0.self (sz := s.heap.size)
  generalize hAe : va_A (wLh ad cI cd te ri pi pw K Dn mv ko so tl lp lb ld le C cl dq dy cL ou) s.heap.size = A at hD ⊢
  have hA : ∀ q : Nat, s.heap.size ≤ q → A q := fun q h => by rw [← hAe]; exact Or.inr h
  have hl := lv_entry ([.ref (ad 14), .int r, .ref (ad 17)]) (n := 4) (Nat.le_of_ble_eq_true rfl)
  rw [lg_entry_eq]
  generalize (lg_sl ([.ref (ad 14), .int r, .ref (ad 17)]) ++ List.replicate (4 - (lg_sl ([.ref (ad 14), .int r, .ref (ad 17)])).length) Slot.unset).toArray = ls at hl ⊢
  have hl : lv_has ls 4 [(0, .ref (ad 14)), (1, .int r), (2, .ref (ad 17))] := hl
  refine W.genH (fun H locs eH eL => ?_)
  have hS : va_S A s.heap H locs := by rw [eH, eL]; exact va_S.rf
  have hP : va_P D vwCl (wLh ad cI cd te ri pi pw K Dn mv ko so tl lp lb ld le C cl dq dy cL ou) H := by rw [eH]; exact hP
  clear eH eL
  refine lv_aload_n hx hb dL_addDoor_0 rfl (lv_at hl 2 rfl) ?_
  refine lv_iconst (v := 0) hx hb dL_addDoor_1 (by decide) ?_
  refine lv_aload_n hx hb dL_addDoor_2 rfl (lv_at hl 0 rfl) ?_
  refine lv_iload_n hx hb dL_addDoor_3 rfl (lv_at hl 1 rfl) ?_
  refine kc_wVi (w1 := wKc ad cI cd te (upd ri Dn r) (upd pi Dn (jPinsFor te r K)) pw K (Dn + 1) (mv + jPop (pi Dn ^^^ jPinsFor te r K)) ko so tl lp lb ld le C cl dq dy) (wr := [(ad 17, .inl (cL, 1, .inr (.inl ou)))]) (ws1 := wLh ad cI cd te (upd ri Dn r) (upd pi Dn (jPinsFor te r K)) pw K (Dn + 1) (mv + jPop (pi Dn ^^^ jPinsFor te r K)) ko so tl lp lb ld le C cl dq dy cL ou) (As := [.int r]) (rest := [.int 0, .ref (ad 17)]) ⟨hx, hb, hml, hown, hts⟩ (c_X2_addDoor_ok l D ad cI cd te ri pi pw K Dn mv ko so tl lp lb ld le C cl dq dy r H.size hK8 hs hD7) (cwV 1 hts gL_addDoor_X2_addDoor rfl rfl rfl (by decide +kernel) ⟨Nat.le_of_ble_eq_true rfl, Nat.le_of_ble_eq_true rfl⟩) hK hP hD hS hA [0, 1, 2, 3, 4, 5, 6, 7, 8, 9, 10, 11, 12, 13, 14, 15, 16] [17] [1, 2, 3, 4, 5, 6, 7, 8, 9, 10, 11, 12, 13, 14, 15, 16, 17, 0] [0] rfl rfl rfl rfl (by decide) rfl rfl rfl 14 rfl rfl rfl rfl hl.1 rfl (Nat.le_of_ble_eq_true rfl) dL_addDoor_4 ⟨Nat.le_of_ble_eq_true rfl, Nat.le_of_ble_eq_true rfl⟩ (fun H locs hP hD hS => ?_)
  refine lv_i2l (v := Int32.toInt64 (nI Dn)) hx hb dL_addDoor_7 rfl ?_
  refine kc_lst (i := 0) (n := 1) hx hb hK hP hD hS 17 1 rfl rfl (by decide) (by decide) dL_addDoor_8 (fun H locs hP hD hS => ?_)
  have hP : va_P D vwCl (wLh ad cI cd te (upd ri Dn r) (upd pi Dn (jPinsFor te r K)) pw K (Dn + 1) (mv + jPop (pi Dn ^^^ jPinsFor te r K)) ko so tl lp lb ld le C cl dq dy cL (vp_updL ou 0 (Int32.toInt64 (nI Dn)))) H := hP
  have hD : va_D A (wLh ad cI cd te (upd ri Dn r) (upd pi Dn (jPinsFor te r K)) pw K (Dn + 1) (mv + jPop (pi Dn ^^^ jPinsFor te r K)) ko so tl lp lb ld le C cl dq dy cL (vp_updL ou 0 (Int32.toInt64 (nI Dn)))) := hD
  refine lv_goto (tgt := 18) hx hb dL_addDoor_9 (by decide) ?_
  refine lv_iconst (v := 0) hx hb dL_addDoor_18 (by decide) ?_
  exact W.iret (v := 0) hx hb hr (fun tZ htZ hWZ => ⟨⟨_, (), rfl, rfl, by rw [htZ]; exact hP, by rw [hAe]; exact hD⟩, hS.F htZ⟩) hS.2.2 dL_addDoor_19
set_option maxHeartbeats 4000000 in
set_option maxRecDepth 100000 in
theorem c_L_setRights_ok (l : Launch) (D : va_G) (ad : Nat → Nat) (cI : ClassId) (cd : Nat → Int32) (te : Nat → Int32) (ri : Nat → Int32) (pi : Nat → Int32) (pw : Nat → Int32) (K : Nat) (Dn : Nat) (mv : Int32) (ko : Nat → Int32) (so : Nat → Int32) (tl : Nat → Int32) (lp : Nat → Int32) (lb : Nat → Int32) (ld : Nat → Int32) (le : Nat → Int32) (C : Nat) (cl : Nat → Int32) (dq : Nat → Int32) (dy : Int32) (cL : ClassId) (ou : Nat → Int64) (d : Nat) (r : Int32) (sz : Nat) (hK8 : K ≤ 8) (hD8 : Dn ≤ 8) (hd : d < Dn) (hs : jSetOf K r = true) : Met l yL_setRights wsL_setRights ({ frames := 4, cells := 0, slots := 0, locals := 90 } : Room) (wrP [.ref (ad 14), .int (nI d), .int r, .ref (ad 17)] D sz (wLh ad cI cd te ri pi pw K Dn mv ko so tl lp lb ld le C cl dq dy cL ou) [(cI, .int), (cL, .long)]) (va_Qi (fun rZ (_ : Unit) => rZ = 0) (wrB D sz (wLh ad cI cd te ri pi pw K Dn mv ko so tl lp lb ld le C cl dq dy cL ou) (wLh ad cI cd te (upd ri d r) (upd pi d (jPinsFor te r K)) pw K Dn (mv + jPop (pi d ^^^ jPinsFor te r K)) ko so tl lp lb ld le C cl dq dy cL (vp_updL ou 0 (Int32.toInt64 (ri d))))) (va_A (wLh ad cI cd te ri pi pw K Dn mv ko so tl lp lb ld le C cl dq dy cL ou) sz)) 0 0 (va_A (wLh ad cI cd te ri pi pw K Dn mv ko so tl lp lb ld le C cl dq dy cL ou) sz) := by
  refine va_MetW (cc := cL_setRights) (maxL := 5) (ret := (some .int)) (hh := [(0, 10, 13, 24), (0, 10, 17, 13)]) (by decide) rfl ?_
  intro p e s m args below meth c s₁ B hml hv
  obtain ⟨rfl, hsz, hP, hD0, hK⟩ := hv
  have hx := B.exec
  have hb := B.bytes
  have hr := B.returns
  have hts := atoms_spec (ws := wsL_setRights) B.pre
  have hown : s.vm.findClass RL = some m.cls := findClass_of_methodNamed B.named
  have hlocks := B.notSynchronized
  subst hsz
  have hD := hD0.self (sz := s.heap.size)
  generalize hAe : va_A (wLh ad cI cd te ri pi pw K Dn mv ko so tl lp lb ld le C cl dq dy cL ou) s.heap.size = A at hD ⊢
  have hA : ∀ q : Nat, s.heap.size ≤ q → A q := fun q h => by rw [← hAe]; exact Or.inr h
  have hl := lv_entry ([.ref (ad 14), .int (nI d), .int r, .ref (ad 17)]) (n := 5) (Nat.le_of_ble_eq_true rfl)
  rw [lg_entry_eq]
  generalize (lg_sl ([.ref (ad 14), .int (nI d), .int r, .ref (ad 17)]) ++ List.replicate (5 - (lg_sl ([.ref (ad 14), .int (nI d), .int r, .ref (ad 17)])).length) Slot.unset).toArray = ls at hl ⊢
  have hl : lv_has ls 5 [(0, .ref (ad 14)), (1, .int (nI d)), (2, .int r), (3, .ref (ad 17))] := hl
  refine W.genH (fun H locs eH eL => ?_)
  have hS : va_S A s.heap H locs := by rw [eH, eL]; exact va_S.rf
  have hP : va_P D vwCl (wLh ad cI cd te ri pi pw K Dn mv ko so tl lp lb ld le C cl dq dy cL ou) H := by rw [eH]; exact hP
  clear eH eL
  refine lv_aload_n hx hb dL_setRights_0 rfl (lv_at hl 3 rfl) ?_
  refine lv_iconst (v := 0) hx hb dL_setRights_1 (by decide) ?_
  refine lv_aload_n hx hb dL_setRights_2 rfl (lv_at hl 0 rfl) ?_
  refine lv_iload_n hx hb dL_setRights_3 rfl (lv_at hl 1 rfl) ?_
  refine lv_iload_n hx hb dL_setRights_4 rfl (lv_at hl 2 rfl) ?_
  refine kc_wVi (w1 := wKc ad cI cd te (upd ri d r) (upd pi d (jPinsFor te r K)) pw K Dn (mv + jPop (pi d ^^^ jPinsFor te r K)) ko so tl lp lb ld le C cl dq dy) (wr := [(ad 17, .inl (cL, 1, .inr (.inl ou)))]) (ws1 := wLh ad cI cd te (upd ri d r) (upd pi d (jPinsFor te r K)) pw K Dn (mv + jPop (pi d ^^^ jPinsFor te r K)) ko so tl lp lb ld le C cl dq dy cL ou) (As := [.int (nI d), .int r]) (rest := [.int 0, .ref (ad 17)]) ⟨hx, hb, hml, hown, hts⟩ (c_X2_setRights_ok l D ad cI cd te ri pi pw K Dn mv ko so tl lp lb ld le C cl dq dy d r H.size hK8 hD8 hd hs) (cwV 2 hts gL_setRights_X2_setRights rfl rfl rfl (by decide +kernel) ⟨Nat.le_of_ble_eq_true rfl, Nat.le_of_ble_eq_true rfl⟩) hK hP hD hS hA [0, 1, 2, 3, 4, 5, 6, 7, 8, 9, 10, 11, 12, 13, 14, 15, 16] [17] [1, 2, 3, 4, 5, 6, 7, 8, 9, 10, 11, 12, 13, 14, 15, 16, 17, 0] [0] rfl rfl rfl rfl (by decide) rfl rfl rfl 14 rfl rfl rfl rfl hl.1 rfl (Nat.le_of_ble_eq_true rfl) dL_setRights_5 ⟨Nat.le_of_ble_eq_true rfl, Nat.le_of_ble_eq_true rfl⟩ (fun H locs hP hD hS => ?_)
  refine lv_i2l (v := Int32.toInt64 (ri d)) hx hb dL_setRights_8 rfl ?_
  refine kc_lst (i := 0) (n := 1) hx hb hK hP hD hS 17 1 rfl rfl (by decide) (by decide) dL_setRights_9 (fun H locs hP hD hS => ?_)
  have hP : va_P D vwCl (wLh ad cI cd te (upd ri d r) (upd pi d (jPinsFor te r K)) pw K Dn (mv + jPop (pi d ^^^ jPinsFor te r K)) ko so tl lp lb ld le C cl dq dy cL (vp_updL ou 0 (Int32.toInt64 (ri d)))) H := hP
  have hD : va_D A (wLh ad cI cd te (upd ri d r) (upd pi d (jPinsFor te r K)) pw K Dn (mv + jPop (pi d ^^^ jPinsFor te r K)) ko so tl lp lb ld le C cl dq dy cL (vp_updL ou 0 (Int32.toInt64 (ri d)))) := hD
  refine lv_goto (tgt := 21) hx hb dL_setRights_10 (by decide) ?_
  refine lv_iconst (v := 0) hx hb dL_setRights_21 (by decide) ?_
  exact W.iret (v := 0) hx hb hr (fun tZ htZ hWZ => ⟨⟨_, (), rfl, rfl, by rw [htZ]; exact hP, by rw [hAe]; exact hD⟩, hS.F htZ⟩) hS.2.2 dL_setRights_22
set_option maxHeartbeats 4000000 in
set_option maxRecDepth 100000 in
theorem c_L_replace_none (l : Launch) (D : va_G) (ad : Nat → Nat) (cI : ClassId) (cd : Nat → Int32) (te : Nat → Int32) (ri : Nat → Int32) (pi : Nat → Int32) (pw : Nat → Int32) (K : Nat) (Dn : Nat) (mv : Int32) (ko : Nat → Int32) (so : Nat → Int32) (tl : Nat → Int32) (lp : Nat → Int32) (lb : Nat → Int32) (ld : Nat → Int32) (le : Nat → Int32) (C : Nat) (cl : Nat → Int32) (dq : Nat → Int32) (dy : Int32) (cL : ClassId) (ou : Nat → Int64) (k : Nat) (sz : Nat) (hK8 : K ≤ 8) (hD8 : Dn ≤ 8) (hk : k < K) (hne : (jBest cd te ri pi (jWithout te ri K k pw Dn) K Dn k 1024).1 = (-1)) : Met l yL_replace wsL_replace ({ frames := 4, cells := 0, slots := 0, locals := 102 } : Room) (wrP [.ref (ad 14), .int (nI k), .ref (ad 17)] D sz (wLh ad cI cd te ri pi pw K Dn mv ko so tl lp lb ld le C cl dq dy cL ou) [(cI, .int), (cL, .long)]) (va_Qi (fun rZ (_ : Unit) => rZ = 0) (wrB D sz (wLh ad cI cd te ri pi pw K Dn mv ko so tl lp lb ld le C cl dq dy cL ou) (wLh ad cI cd te ri pi (jWithout te ri K k pw Dn) K Dn mv ko so tl lp lb ld le C cl dq dy cL (vp_updL ou 0 (Int32.toInt64 (-1))))) (va_A (wLh ad cI cd te ri pi pw K Dn mv ko so tl lp lb ld le C cl dq dy cL ou) sz)) 0 0 (va_A (wLh ad cI cd te ri pi pw K Dn mv ko so tl lp lb ld le C cl dq dy cL ou) sz) := by
  refine va_MetW (cc := cL_replace) (maxL := 4) (ret := (some .int)) (hh := [(0, 9, 12, 24)]) (by decide) rfl ?_
  intro p e s m args below meth c s₁ B hml hv
  obtain ⟨rfl, hsz, hP, hD0, hK⟩ := hv
  have hx := B.exec
  have hb := B.bytes
  have hr := B.returns
  have hts := atoms_spec (ws := wsL_replace) B.pre
  have hown : s.vm.findClass RL = some m.cls := findClass_of_methodNamed B.named
  have hlocks := B.notSynchronized
  subst hsz
  have hD := hD0.self (sz := s.heap.size)
  generalize hAe : va_A (wLh ad cI cd te ri pi pw K Dn mv ko so tl lp lb ld le C cl dq dy cL ou) s.heap.size = A at hD ⊢
  have hA : ∀ q : Nat, s.heap.size ≤ q → A q := fun q h => by rw [← hAe]; exact Or.inr h
  have hl := lv_entry ([.ref (ad 14), .int (nI k), .ref (ad 17)]) (n := 4) (Nat.le_of_ble_eq_true rfl)
  rw [lg_entry_eq]
  generalize (lg_sl ([.ref (ad 14), .int (nI k), .ref (ad 17)]) ++ List.replicate (4 - (lg_sl ([.ref (ad 14), .int (nI k), .ref (ad 17)])).length) Slot.unset).toArray = ls at hl ⊢
  have hl : lv_has ls 4 [(0, .ref (ad 14)), (1, .int (nI k)), (2, .ref (ad 17))] := hl
  refine W.genH (fun H locs eH eL => ?_)
  have hS : va_S A s.heap H locs := by rw [eH, eL]; exact va_S.rf
  have hP : va_P D vwCl (wLh ad cI cd te ri pi pw K Dn mv ko so tl lp lb ld le C cl dq dy cL ou) H := by rw [eH]; exact hP
  clear eH eL
  refine lv_aload_n hx hb dL_replace_0 rfl (lv_at hl 2 rfl) ?_
  refine lv_iconst (v := 0) hx hb dL_replace_1 (by decide) ?_
  refine lv_aload_n hx hb dL_replace_2 rfl (lv_at hl 0 rfl) ?_
  refine lv_iload_n hx hb dL_replace_3 rfl (lv_at hl 1 rfl) ?_
  refine kc_wVi (w1 := wKc ad cI cd te ri pi (jWithout te ri K k pw Dn) K Dn mv ko so tl lp lb ld le C cl dq dy) (wr := [(ad 17, .inl (cL, 1, .inr (.inl ou)))]) (ws1 := wLh ad cI cd te ri pi (jWithout te ri K k pw Dn) K Dn mv ko so tl lp lb ld le C cl dq dy cL ou) (As := [.int (nI k)]) (rest := [.int 0, .ref (ad 17)]) ⟨hx, hb, hml, hown, hts⟩ (c_X2_replace_none l D ad cI cd te ri pi pw K Dn mv ko so tl lp lb ld le C cl dq dy k H.size hK8 hD8 hk hne) (cwV 1 hts gL_replace_X2_replace rfl rfl rfl (by decide +kernel) ⟨Nat.le_of_ble_eq_true rfl, Nat.le_of_ble_eq_true rfl⟩) hK hP hD hS hA [0, 1, 2, 3, 4, 5, 6, 7, 8, 9, 10, 11, 12, 13, 14, 15, 16] [17] [1, 2, 3, 4, 5, 6, 7, 8, 9, 10, 11, 12, 13, 14, 15, 16, 17, 0] [0] rfl rfl rfl rfl (by decide) rfl rfl rfl 14 rfl rfl rfl rfl hl.1 rfl (Nat.le_of_ble_eq_true rfl) dL_replace_4 ⟨Nat.le_of_ble_eq_true rfl, Nat.le_of_ble_eq_true rfl⟩ (fun H locs hP hD hS => ?_)
  refine lv_i2l (v := Int32.toInt64 (-1)) hx hb dL_replace_7 rfl ?_
  refine kc_lst (i := 0) (n := 1) hx hb hK hP hD hS 17 1 rfl rfl (by decide) (by decide) dL_replace_8 (fun H locs hP hD hS => ?_)
  have hP : va_P D vwCl (wLh ad cI cd te ri pi (jWithout te ri K k pw Dn) K Dn mv ko so tl lp lb ld le C cl dq dy cL (vp_updL ou 0 (Int32.toInt64 (-1)))) H := hP
  have hD : va_D A (wLh ad cI cd te ri pi (jWithout te ri K k pw Dn) K Dn mv ko so tl lp lb ld le C cl dq dy cL (vp_updL ou 0 (Int32.toInt64 (-1)))) := hD
  refine lv_goto (tgt := 15) hx hb dL_replace_9 (by decide) ?_
  refine lv_iconst (v := 0) hx hb dL_replace_15 (by decide) ?_
  exact W.iret (v := 0) hx hb hr (fun tZ htZ hWZ => ⟨⟨_, (), rfl, rfl, by rw [htZ]; exact hP, by rw [hAe]; exact hD⟩, hS.F htZ⟩) hS.2.2 dL_replace_16
set_option maxHeartbeats 4000000 in
set_option maxRecDepth 100000 in
theorem c_L_replace_ok (l : Launch) (D : va_G) (ad : Nat → Nat) (cI : ClassId) (cd : Nat → Int32) (te : Nat → Int32) (ri : Nat → Int32) (pi : Nat → Int32) (pw : Nat → Int32) (K : Nat) (Dn : Nat) (mv : Int32) (ko : Nat → Int32) (so : Nat → Int32) (tl : Nat → Int32) (lp : Nat → Int32) (lb : Nat → Int32) (ld : Nat → Int32) (le : Nat → Int32) (C : Nat) (cl : Nat → Int32) (dq : Nat → Int32) (dy : Int32) (cL : ClassId) (ou : Nat → Int64) (k : Nat) (tn : Nat → Nat) (sz : Nat) (hK8 : K ≤ 8) (hD8 : Dn ≤ 8) (hC24 : C ≤ 24) (hk : k < K) (hok : okLe so tl tn) (hne : ¬ (jBest cd te ri pi (jWithout te ri K k pw Dn) K Dn k 1024).1 = (-1)) : Met l yL_replace wsL_replace ({ frames := 4, cells := 0, slots := 0, locals := 102 } : Room) (wrP [.ref (ad 14), .int (nI k), .ref (ad 17)] D sz (wLh ad cI cd te ri pi pw K Dn mv ko so tl lp lb ld le C cl dq dy cL ou) [(cI, .int), (cL, .long)]) (va_Qi (fun rZ (_ : Unit) => rZ = 0) (wrB D sz (wLh ad cI cd te ri pi pw K Dn mv ko so tl lp lb ld le C cl dq dy cL ou) (wLh ad cI (upd cd k (jBest cd te ri pi (jWithout te ri K k pw Dn) K Dn k 1024).1) (upd te k (jTeeth (jBest cd te ri pi (jWithout te ri K k pw Dn) K Dn k 1024).1 5)) ri (jRepin (upd te k (jTeeth (jBest cd te ri pi (jWithout te ri K k pw Dn) K Dn k 1024).1 5)) ri K pi Dn) (jWithout te ri K k pw Dn) K Dn (jRework (upd te k (jTeeth (jBest cd te ri pi (jWithout te ri K k pw Dn) K Dn k 1024).1 5)) ri K pi mv Dn) ko (jVoidSo ko (nI k) so C) tl lp lb ld (jVoidEnd ko (nI k) so le tn dy C) C cl dq dy cL (vp_updL ou 0 (Int32.toInt64 ((jBest cd te ri pi (jWithout te ri K k pw Dn) K Dn k 1024).1))))) (va_A (wLh ad cI cd te ri pi pw K Dn mv ko so tl lp lb ld le C cl dq dy cL ou) sz)) 0 0 (va_A (wLh ad cI cd te ri pi pw K Dn mv ko so tl lp lb ld le C cl dq dy cL ou) sz) := by
  refine va_MetW (cc := cL_replace) (maxL := 4) (ret := (some .int)) (hh := [(0, 9, 12, 24)]) (by decide) rfl ?_
  intro p e s m args below meth c s₁ B hml hv
  obtain ⟨rfl, hsz, hP, hD0, hK⟩ := hv
  have hx := B.exec
  have hb := B.bytes
  have hr := B.returns
  have hts := atoms_spec (ws := wsL_replace) B.pre
  have hown : s.vm.findClass RL = some m.cls := findClass_of_methodNamed B.named
  have hlocks := B.notSynchronized
  subst hsz
  have hD := hD0.self (sz := s.heap.size)
  generalize hAe : va_A (wLh ad cI cd te ri pi pw K Dn mv ko so tl lp lb ld le C cl dq dy cL ou) s.heap.size = A at hD ⊢
  have hA : ∀ q : Nat, s.heap.size ≤ q → A q := fun q h => by rw [← hAe]; exact Or.inr h
  have hl := lv_entry ([.ref (ad 14), .int (nI k), .ref (ad 17)]) (n := 4) (Nat.le_of_ble_eq_true rfl)
  rw [lg_entry_eq]
  generalize (lg_sl ([.ref (ad 14), .int (nI k), .ref (ad 17)]) ++ List.replicate (4 - (lg_sl ([.ref (ad 14), .int (nI k), .ref (ad 17)])).length) Slot.unset).toArray = ls at hl ⊢
  have hl : lv_has ls 4 [(0, .ref (ad 14)), (1, .int (nI k)), (2, .ref (ad 17))] := hl
  refine W.genH (fun H locs eH eL => ?_)
  have hS : va_S A s.heap H locs := by rw [eH, eL]; exact va_S.rf
  have hP : va_P D vwCl (wLh ad cI cd te ri pi pw K Dn mv ko so tl lp lb ld le C cl dq dy cL ou) H := by rw [eH]; exact hP
  clear eH eL
  refine lv_aload_n hx hb dL_replace_0 rfl (lv_at hl 2 rfl) ?_
  refine lv_iconst (v := 0) hx hb dL_replace_1 (by decide) ?_
  refine lv_aload_n hx hb dL_replace_2 rfl (lv_at hl 0 rfl) ?_
  refine lv_iload_n hx hb dL_replace_3 rfl (lv_at hl 1 rfl) ?_
  refine kc_wVi (w1 := wKc ad cI (upd cd k (jBest cd te ri pi (jWithout te ri K k pw Dn) K Dn k 1024).1) (upd te k (jTeeth (jBest cd te ri pi (jWithout te ri K k pw Dn) K Dn k 1024).1 5)) ri (jRepin (upd te k (jTeeth (jBest cd te ri pi (jWithout te ri K k pw Dn) K Dn k 1024).1 5)) ri K pi Dn) (jWithout te ri K k pw Dn) K Dn (jRework (upd te k (jTeeth (jBest cd te ri pi (jWithout te ri K k pw Dn) K Dn k 1024).1 5)) ri K pi mv Dn) ko (jVoidSo ko (nI k) so C) tl lp lb ld (jVoidEnd ko (nI k) so le tn dy C) C cl dq dy) (wr := [(ad 17, .inl (cL, 1, .inr (.inl ou)))]) (ws1 := wLh ad cI (upd cd k (jBest cd te ri pi (jWithout te ri K k pw Dn) K Dn k 1024).1) (upd te k (jTeeth (jBest cd te ri pi (jWithout te ri K k pw Dn) K Dn k 1024).1 5)) ri (jRepin (upd te k (jTeeth (jBest cd te ri pi (jWithout te ri K k pw Dn) K Dn k 1024).1 5)) ri K pi Dn) (jWithout te ri K k pw Dn) K Dn (jRework (upd te k (jTeeth (jBest cd te ri pi (jWithout te ri K k pw Dn) K Dn k 1024).1 5)) ri K pi mv Dn) ko (jVoidSo ko (nI k) so C) tl lp lb ld (jVoidEnd ko (nI k) so le tn dy C) C cl dq dy cL ou) (As := [.int (nI k)]) (rest := [.int 0, .ref (ad 17)]) ⟨hx, hb, hml, hown, hts⟩ (c_X2_replace_ok l D ad cI cd te ri pi pw K Dn mv ko so tl lp lb ld le C cl dq dy k tn H.size hK8 hD8 hC24 hk hok hne) (cwV 1 hts gL_replace_X2_replace rfl rfl rfl (by decide +kernel) ⟨Nat.le_of_ble_eq_true rfl, Nat.le_of_ble_eq_true rfl⟩) hK hP hD hS hA [0, 1, 2, 3, 4, 5, 6, 7, 8, 9, 10, 11, 12, 13, 14, 15, 16] [17] [1, 2, 3, 4, 5, 6, 7, 8, 9, 10, 11, 12, 13, 14, 15, 16, 17, 0] [0] rfl rfl rfl rfl (by decide) rfl rfl rfl 14 rfl rfl rfl rfl hl.1 rfl (Nat.le_of_ble_eq_true rfl) dL_replace_4 ⟨Nat.le_of_ble_eq_true rfl, Nat.le_of_ble_eq_true rfl⟩ (fun H locs hP hD hS => ?_)
  refine lv_i2l (v := Int32.toInt64 ((jBest cd te ri pi (jWithout te ri K k pw Dn) K Dn k 1024).1)) hx hb dL_replace_7 rfl ?_
  refine kc_lst (i := 0) (n := 1) hx hb hK hP hD hS 17 1 rfl rfl (by decide) (by decide) dL_replace_8 (fun H locs hP hD hS => ?_)
  have hP : va_P D vwCl (wLh ad cI (upd cd k (jBest cd te ri pi (jWithout te ri K k pw Dn) K Dn k 1024).1) (upd te k (jTeeth (jBest cd te ri pi (jWithout te ri K k pw Dn) K Dn k 1024).1 5)) ri (jRepin (upd te k (jTeeth (jBest cd te ri pi (jWithout te ri K k pw Dn) K Dn k 1024).1 5)) ri K pi Dn) (jWithout te ri K k pw Dn) K Dn (jRework (upd te k (jTeeth (jBest cd te ri pi (jWithout te ri K k pw Dn) K Dn k 1024).1 5)) ri K pi mv Dn) ko (jVoidSo ko (nI k) so C) tl lp lb ld (jVoidEnd ko (nI k) so le tn dy C) C cl dq dy cL (vp_updL ou 0 (Int32.toInt64 ((jBest cd te ri pi (jWithout te ri K k pw Dn) K Dn k 1024).1)))) H := hP
  have hD : va_D A (wLh ad cI (upd cd k (jBest cd te ri pi (jWithout te ri K k pw Dn) K Dn k 1024).1) (upd te k (jTeeth (jBest cd te ri pi (jWithout te ri K k pw Dn) K Dn k 1024).1 5)) ri (jRepin (upd te k (jTeeth (jBest cd te ri pi (jWithout te ri K k pw Dn) K Dn k 1024).1 5)) ri K pi Dn) (jWithout te ri K k pw Dn) K Dn (jRework (upd te k (jTeeth (jBest cd te ri pi (jWithout te ri K k pw Dn) K Dn k 1024).1 5)) ri K pi mv Dn) ko (jVoidSo ko (nI k) so C) tl lp lb ld (jVoidEnd ko (nI k) so le tn dy C) C cl dq dy cL (vp_updL ou 0 (Int32.toInt64 ((jBest cd te ri pi (jWithout te ri K k pw Dn) K Dn k 1024).1)))) := hD
  refine lv_goto (tgt := 15) hx hb dL_replace_9 (by decide) ?_
  refine lv_iconst (v := 0) hx hb dL_replace_15 (by decide) ?_
  exact W.iret (v := 0) hx hb hr (fun tZ htZ hWZ => ⟨⟨_, (), rfl, rfl, by rw [htZ]; exact hP, by rw [hAe]; exact hD⟩, hS.F htZ⟩) hS.2.2 dL_replace_16
set_option maxHeartbeats 4000000 in
set_option maxRecDepth 100000 in
theorem c_L_cut_ok (l : Launch) (D : va_G) (ad : Nat → Nat) (cI : ClassId) (cd : Nat → Int32) (te : Nat → Int32) (ri : Nat → Int32) (pi : Nat → Int32) (pw : Nat → Int32) (K : Nat) (Dn : Nat) (mv : Int32) (ko : Nat → Int32) (so : Nat → Int32) (tl : Nat → Int32) (lp : Nat → Int32) (lb : Nat → Int32) (ld : Nat → Int32) (le : Nat → Int32) (C : Nat) (cl : Nat → Int32) (dq : Nat → Int32) (dy : Int32) (cL : ClassId) (ou : Nat → Int64) (k : Nat) (sz : Nat) (hK8 : K ≤ 8) (hk : k < K) (hC23 : C < 24) : Met l yL_cut wsL_cut ({ frames := 2, cells := 0, slots := 0, locals := 43 } : Room) (wrP [.ref (ad 14), .int (nI k), .ref (ad 17)] D sz (wLh ad cI cd te ri pi pw K Dn mv ko so tl lp lb ld le C cl dq dy cL ou) [(cI, .int), (cL, .long)]) (va_Qi (fun rZ (_ : Unit) => rZ = 0) (wrB D sz (wLh ad cI cd te ri pi pw K Dn mv ko so tl lp lb ld le C cl dq dy cL ou) (wLh ad cI cd te ri pi pw K Dn mv (upd ko C (nI k)) (upd so C 0) tl lp lb ld le (C + 1) cl dq dy cL (vp_updL ou 0 (Int32.toInt64 (nI C))))) (va_A (wLh ad cI cd te ri pi pw K Dn mv ko so tl lp lb ld le C cl dq dy cL ou) sz)) 0 0 (va_A (wLh ad cI cd te ri pi pw K Dn mv ko so tl lp lb ld le C cl dq dy cL ou) sz) := by
  refine va_MetW (cc := cL_cut) (maxL := 4) (ret := (some .int)) (hh := [(0, 9, 12, 24), (0, 9, 15, 15)]) (by decide) rfl ?_
  intro p e s m args below meth c s₁ B hml hv
  obtain ⟨rfl, hsz, hP, hD0, hK⟩ := hv
  have hx := B.exec
  have hb := B.bytes
  have hr := B.returns
  have hts := atoms_spec (ws := wsL_cut) B.pre
  have hown : s.vm.findClass RL = some m.cls := findClass_of_methodNamed B.named
  have hlocks := B.notSynchronized
  subst hsz
  have hD := hD0.self (sz := s.heap.size)
  generalize hAe : va_A (wLh ad cI cd te ri pi pw K Dn mv ko so tl lp lb ld le C cl dq dy cL ou) s.heap.size = A at hD ⊢
  have hA : ∀ q : Nat, s.heap.size ≤ q → A q := fun q h => by rw [← hAe]; exact Or.inr h
  have hl := lv_entry ([.ref (ad 14), .int (nI k), .ref (ad 17)]) (n := 4) (Nat.le_of_ble_eq_true rfl)
  rw [lg_entry_eq]
  generalize (lg_sl ([.ref (ad 14), .int (nI k), .ref (ad 17)]) ++ List.replicate (4 - (lg_sl ([.ref (ad 14), .int (nI k), .ref (ad 17)])).length) Slot.unset).toArray = ls at hl ⊢
  have hl : lv_has ls 4 [(0, .ref (ad 14)), (1, .int (nI k)), (2, .ref (ad 17))] := hl
  refine W.genH (fun H locs eH eL => ?_)
  have hS : va_S A s.heap H locs := by rw [eH, eL]; exact va_S.rf
  have hP : va_P D vwCl (wLh ad cI cd te ri pi pw K Dn mv ko so tl lp lb ld le C cl dq dy cL ou) H := by rw [eH]; exact hP
  clear eH eL
  refine lv_aload_n hx hb dL_cut_0 rfl (lv_at hl 2 rfl) ?_
  refine lv_iconst (v := 0) hx hb dL_cut_1 (by decide) ?_
  refine lv_aload_n hx hb dL_cut_2 rfl (lv_at hl 0 rfl) ?_
  refine lv_iload_n hx hb dL_cut_3 rfl (lv_at hl 1 rfl) ?_
  refine kc_wVi (w1 := wKc ad cI cd te ri pi pw K Dn mv (upd ko C (nI k)) (upd so C 0) tl lp lb ld le (C + 1) cl dq dy) (wr := [(ad 17, .inl (cL, 1, .inr (.inl ou)))]) (ws1 := wLh ad cI cd te ri pi pw K Dn mv (upd ko C (nI k)) (upd so C 0) tl lp lb ld le (C + 1) cl dq dy cL ou) (As := [.int (nI k)]) (rest := [.int 0, .ref (ad 17)]) ⟨hx, hb, hml, hown, hts⟩ (c_X2_cut_ok l D ad cI cd te ri pi pw K Dn mv ko so tl lp lb ld le C cl dq dy k H.size hK8 hk hC23) (cwV 1 hts gL_cut_X2_cut rfl rfl rfl (by decide +kernel) ⟨Nat.le_of_ble_eq_true rfl, Nat.le_of_ble_eq_true rfl⟩) hK hP hD hS hA [0, 1, 2, 3, 4, 5, 6, 7, 8, 9, 10, 11, 12, 13, 14, 15, 16] [17] [1, 2, 3, 4, 5, 6, 7, 8, 9, 10, 11, 12, 13, 14, 15, 16, 17, 0] [0] rfl rfl rfl rfl (by decide) rfl rfl rfl 14 rfl rfl rfl rfl hl.1 rfl (Nat.le_of_ble_eq_true rfl) dL_cut_4 ⟨Nat.le_of_ble_eq_true rfl, Nat.le_of_ble_eq_true rfl⟩ (fun H locs hP hD hS => ?_)
  refine lv_i2l (v := Int32.toInt64 (nI C)) hx hb dL_cut_7 rfl ?_
  refine kc_lst (i := 0) (n := 1) hx hb hK hP hD hS 17 1 rfl rfl (by decide) (by decide) dL_cut_8 (fun H locs hP hD hS => ?_)
  have hP : va_P D vwCl (wLh ad cI cd te ri pi pw K Dn mv (upd ko C (nI k)) (upd so C 0) tl lp lb ld le (C + 1) cl dq dy cL (vp_updL ou 0 (Int32.toInt64 (nI C)))) H := hP
  have hD : va_D A (wLh ad cI cd te ri pi pw K Dn mv (upd ko C (nI k)) (upd so C 0) tl lp lb ld le (C + 1) cl dq dy cL (vp_updL ou 0 (Int32.toInt64 (nI C)))) := hD
  refine lv_goto (tgt := 18) hx hb dL_cut_9 (by decide) ?_
  refine lv_iconst (v := 0) hx hb dL_cut_18 (by decide) ?_
  exact W.iret (v := 0) hx hb hr (fun tZ htZ hWZ => ⟨⟨_, (), rfl, rfl, by rw [htZ]; exact hP, by rw [hAe]; exact hD⟩, hS.F htZ⟩) hS.2.2 dL_cut_19
set_option maxHeartbeats 4000000 in
set_option maxRecDepth 100000 in
theorem c_L_lend_ok (l : Launch) (D : va_G) (ad : Nat → Nat) (cI : ClassId) (cd : Nat → Int32) (te : Nat → Int32) (ri : Nat → Int32) (pi : Nat → Int32) (pw : Nat → Int32) (K : Nat) (Dn : Nat) (mv : Int32) (ko : Nat → Int32) (so : Nat → Int32) (tl : Nat → Int32) (lp : Nat → Int32) (lb : Nat → Int32) (ld : Nat → Int32) (le : Nat → Int32) (C : Nat) (cl : Nat → Int32) (dq : Nat → Int32) (dy : Int32) (cL : ClassId) (ou : Nat → Int64) (cx : Nat) (pe : Int32) (dz : Int32) (tn : Nat → Nat) (sz : Nat) (hC24 : C ≤ 24) (hc : cx < C) (hp : jIn 8 pe = true) (hz1 : ¬ dz < 1) (hz2 : dz ≤ 99) (hcan : jCan so tl cx = true) (ht : tl cx = nI (tn cx)) (ht8 : tn cx < 9) : Met l yL_lend wsL_lend ({ frames := 3, cells := 0, slots := 0, locals := 70 } : Room) (wrP [.ref (ad 14), .int (nI cx), .int pe, .int dz, .ref (ad 17)] D sz (wLh ad cI cd te ri pi pw K Dn mv ko so tl lp lb ld le C cl dq dy cL ou) [(cI, .int), (cL, .long)]) (va_Qi (fun rZ (_ : Unit) => rZ = 0) (wrB D sz (wLh ad cI cd te ri pi pw K Dn mv ko so tl lp lb ld le C cl dq dy cL ou) (wLh ad cI cd te ri pi pw K Dn mv ko (upd so cx 1) (upd tl cx (nI (tn cx + 1))) (upd lp (cx * 9 + tn cx) pe) (upd lb (cx * 9 + tn cx) dy) (upd ld (cx * 9 + tn cx) (dy + dz)) (upd le (cx * 9 + tn cx) 10000) C cl dq dy cL (vp_updL ou 0 (Int32.toInt64 (dy + dz))))) (va_A (wLh ad cI cd te ri pi pw K Dn mv ko so tl lp lb ld le C cl dq dy cL ou) sz)) 0 0 (va_A (wLh ad cI cd te ri pi pw K Dn mv ko so tl lp lb ld le C cl dq dy cL ou) sz) := by
  refine va_MetW (cc := cL_lend) (maxL := 6) (ret := (some .int)) (hh := [(0, 12, 15, 24), (0, 12, 19, 13), (0, 12, 23, 15)]) (by decide) rfl ?_
  intro p e s m args below meth c s₁ B hml hv
  obtain ⟨rfl, hsz, hP, hD0, hK⟩ := hv
  have hx := B.exec
  have hb := B.bytes
  have hr := B.returns
  have hts := atoms_spec (ws := wsL_lend) B.pre
  have hown : s.vm.findClass RL = some m.cls := findClass_of_methodNamed B.named
  have hlocks := B.notSynchronized
  subst hsz
  have hD := hD0.self (sz := s.heap.size)
  generalize hAe : va_A (wLh ad cI cd te ri pi pw K Dn mv ko so tl lp lb ld le C cl dq dy cL ou) s.heap.size = A at hD ⊢
  have hA : ∀ q : Nat, s.heap.size ≤ q → A q := fun q h => by rw [← hAe]; exact Or.inr h
  have hl := lv_entry ([.ref (ad 14), .int (nI cx), .int pe, .int dz, .ref (ad 17)]) (n := 6) (Nat.le_of_ble_eq_true rfl)
  rw [lg_entry_eq]
  generalize (lg_sl ([.ref (ad 14), .int (nI cx), .int pe, .int dz, .ref (ad 17)]) ++ List.replicate (6 - (lg_sl ([.ref (ad 14), .int (nI cx), .int pe, .int dz, .ref (ad 17)])).length) Slot.unset).toArray = ls at hl ⊢
  have hl : lv_has ls 6 [(0, .ref (ad 14)), (1, .int (nI cx)), (2, .int pe), (3, .int dz), (4, .ref (ad 17))] := hl
  refine W.genH (fun H locs eH eL => ?_)
  have hS : va_S A s.heap H locs := by rw [eH, eL]; exact va_S.rf
  have hP : va_P D vwCl (wLh ad cI cd te ri pi pw K Dn mv ko so tl lp lb ld le C cl dq dy cL ou) H := by rw [eH]; exact hP
  clear eH eL
  refine lv_aload hx hb dL_lend_0 (lv_at hl 4 rfl) ?_
  refine lv_iconst (v := 0) hx hb dL_lend_2 (by decide) ?_
  refine lv_aload_n hx hb dL_lend_3 rfl (lv_at hl 0 rfl) ?_
  refine lv_iload_n hx hb dL_lend_4 rfl (lv_at hl 1 rfl) ?_
  refine lv_iload_n hx hb dL_lend_5 rfl (lv_at hl 2 rfl) ?_
  refine lv_iload_n hx hb dL_lend_6 rfl (lv_at hl 3 rfl) ?_
  refine kc_wVi (w1 := wKc ad cI cd te ri pi pw K Dn mv ko (upd so cx 1) (upd tl cx (nI (tn cx + 1))) (upd lp (cx * 9 + tn cx) pe) (upd lb (cx * 9 + tn cx) dy) (upd ld (cx * 9 + tn cx) (dy + dz)) (upd le (cx * 9 + tn cx) 10000) C cl dq dy) (wr := [(ad 17, .inl (cL, 1, .inr (.inl ou)))]) (ws1 := wLh ad cI cd te ri pi pw K Dn mv ko (upd so cx 1) (upd tl cx (nI (tn cx + 1))) (upd lp (cx * 9 + tn cx) pe) (upd lb (cx * 9 + tn cx) dy) (upd ld (cx * 9 + tn cx) (dy + dz)) (upd le (cx * 9 + tn cx) 10000) C cl dq dy cL ou) (As := [.int (nI cx), .int pe, .int dz]) (rest := [.int 0, .ref (ad 17)]) ⟨hx, hb, hml, hown, hts⟩ (c_X2_lend_ok l D ad cI cd te ri pi pw K Dn mv ko so tl lp lb ld le C cl dq dy cx pe dz tn H.size hC24 hc hp hz1 hz2 hcan ht ht8) (cwV 3 hts gL_lend_X2_lend rfl rfl rfl (by decide +kernel) ⟨Nat.le_of_ble_eq_true rfl, Nat.le_of_ble_eq_true rfl⟩) hK hP hD hS hA [0, 1, 2, 3, 4, 5, 6, 7, 8, 9, 10, 11, 12, 13, 14, 15, 16] [17] [1, 2, 3, 4, 5, 6, 7, 8, 9, 10, 11, 12, 13, 14, 15, 16, 17, 0] [0] rfl rfl rfl rfl (by decide) rfl rfl rfl 14 rfl rfl rfl rfl hl.1 rfl (Nat.le_of_ble_eq_true rfl) dL_lend_7 ⟨Nat.le_of_ble_eq_true rfl, Nat.le_of_ble_eq_true rfl⟩ (fun H locs hP hD hS => ?_)
  refine lv_i2l (v := Int32.toInt64 (dy + dz)) hx hb dL_lend_10 rfl ?_
  refine kc_lst (i := 0) (n := 1) hx hb hK hP hD hS 17 1 rfl rfl (by decide) (by decide) dL_lend_11 (fun H locs hP hD hS => ?_)
  have hP : va_P D vwCl (wLh ad cI cd te ri pi pw K Dn mv ko (upd so cx 1) (upd tl cx (nI (tn cx + 1))) (upd lp (cx * 9 + tn cx) pe) (upd lb (cx * 9 + tn cx) dy) (upd ld (cx * 9 + tn cx) (dy + dz)) (upd le (cx * 9 + tn cx) 10000) C cl dq dy cL (vp_updL ou 0 (Int32.toInt64 (dy + dz)))) H := hP
  have hD : va_D A (wLh ad cI cd te ri pi pw K Dn mv ko (upd so cx 1) (upd tl cx (nI (tn cx + 1))) (upd lp (cx * 9 + tn cx) pe) (upd lb (cx * 9 + tn cx) dy) (upd ld (cx * 9 + tn cx) (dy + dz)) (upd le (cx * 9 + tn cx) 10000) C cl dq dy cL (vp_updL ou 0 (Int32.toInt64 (dy + dz)))) := hD
  refine lv_goto (tgt := 27) hx hb dL_lend_12 (by decide) ?_
  refine lv_iconst (v := 0) hx hb dL_lend_27 (by decide) ?_
  exact W.iret (v := 0) hx hb hr (fun tZ htZ hWZ => ⟨⟨_, (), rfl, rfl, by rw [htZ]; exact hP, by rw [hAe]; exact hD⟩, hS.F htZ⟩) hS.2.2 dL_lend_28
set_option maxHeartbeats 4000000 in
set_option maxRecDepth 100000 in
theorem c_L_giveBack_ok (l : Launch) (D : va_G) (ad : Nat → Nat) (cI : ClassId) (cd : Nat → Int32) (te : Nat → Int32) (ri : Nat → Int32) (pi : Nat → Int32) (pw : Nat → Int32) (K : Nat) (Dn : Nat) (mv : Int32) (ko : Nat → Int32) (so : Nat → Int32) (tl : Nat → Int32) (lp : Nat → Int32) (lb : Nat → Int32) (ld : Nat → Int32) (le : Nat → Int32) (C : Nat) (cl : Nat → Int32) (dq : Nat → Int32) (dy : Int32) (cL : ClassId) (ou : Nat → Int64) (cx : Nat) (tn : Nat → Nat) (sz : Nat) (hC24 : C ≤ 24) (hc : cx < C) (hok : okLe so tl tn) (h1 : so cx = 1) : Met l yL_giveBack wsL_giveBack ({ frames := 3, cells := 0, slots := 0, locals := 66 } : Room) (wrP [.ref (ad 14), .int (nI cx), .ref (ad 17)] D sz (wLh ad cI cd te ri pi pw K Dn mv ko so tl lp lb ld le C cl dq dy cL ou) [(cI, .int), (cL, .long)]) (va_Qi (fun rZ (_ : Unit) => rZ = 0) (wrB D sz (wLh ad cI cd te ri pi pw K Dn mv ko so tl lp lb ld le C cl dq dy cL ou) (wLh ad cI cd te ri pi pw K Dn mv ko (upd so cx 0) tl lp lb ld (jMoveEnd so le tn cx dy) C cl dq dy cL (vp_updL ou 0 (Int32.toInt64 (if 0 < dy - jDue so ld tn cx then dy - jDue so ld tn cx else 0))))) (va_A (wLh ad cI cd te ri pi pw K Dn mv ko so tl lp lb ld le C cl dq dy cL ou) sz)) 0 0 (va_A (wLh ad cI cd te ri pi pw K Dn mv ko so tl lp lb ld le C cl dq dy cL ou) sz) := by
  refine va_MetW (cc := cL_giveBack) (maxL := 4) (ret := (some .int)) (hh := [(0, 9, 12, 24), (0, 9, 15, 15)]) (by decide) rfl ?_
  intro p e s m args below meth c s₁ B hml hv
  obtain ⟨rfl, hsz, hP, hD0, hK⟩ := hv
  have hx := B.exec
  have hb := B.bytes
  have hr := B.returns
  have hts := atoms_spec (ws := wsL_giveBack) B.pre
  have hown : s.vm.findClass RL = some m.cls := findClass_of_methodNamed B.named
  have hlocks := B.notSynchronized
  subst hsz
  have hD := hD0.self (sz := s.heap.size)
  generalize hAe : va_A (wLh ad cI cd te ri pi pw K Dn mv ko so tl lp lb ld le C cl dq dy cL ou) s.heap.size = A at hD ⊢
  have hA : ∀ q : Nat, s.heap.size ≤ q → A q := fun q h => by rw [← hAe]; exact Or.inr h
  have hl := lv_entry ([.ref (ad 14), .int (nI cx), .ref (ad 17)]) (n := 4) (Nat.le_of_ble_eq_true rfl)
  rw [lg_entry_eq]
  generalize (lg_sl ([.ref (ad 14), .int (nI cx), .ref (ad 17)]) ++ List.replicate (4 - (lg_sl ([.ref (ad 14), .int (nI cx), .ref (ad 17)])).length) Slot.unset).toArray = ls at hl ⊢
  have hl : lv_has ls 4 [(0, .ref (ad 14)), (1, .int (nI cx)), (2, .ref (ad 17))] := hl
  refine W.genH (fun H locs eH eL => ?_)
  have hS : va_S A s.heap H locs := by rw [eH, eL]; exact va_S.rf
  have hP : va_P D vwCl (wLh ad cI cd te ri pi pw K Dn mv ko so tl lp lb ld le C cl dq dy cL ou) H := by rw [eH]; exact hP
  clear eH eL
  refine lv_aload_n hx hb dL_giveBack_0 rfl (lv_at hl 2 rfl) ?_
  refine lv_iconst (v := 0) hx hb dL_giveBack_1 (by decide) ?_
  refine lv_aload_n hx hb dL_giveBack_2 rfl (lv_at hl 0 rfl) ?_
  refine lv_iload_n hx hb dL_giveBack_3 rfl (lv_at hl 1 rfl) ?_
  refine kc_wVi (w1 := wKc ad cI cd te ri pi pw K Dn mv ko (upd so cx 0) tl lp lb ld (jMoveEnd so le tn cx dy) C cl dq dy) (wr := [(ad 17, .inl (cL, 1, .inr (.inl ou)))]) (ws1 := wLh ad cI cd te ri pi pw K Dn mv ko (upd so cx 0) tl lp lb ld (jMoveEnd so le tn cx dy) C cl dq dy cL ou) (As := [.int (nI cx)]) (rest := [.int 0, .ref (ad 17)]) ⟨hx, hb, hml, hown, hts⟩ (c_X2_giveBack_ok l D ad cI cd te ri pi pw K Dn mv ko so tl lp lb ld le C cl dq dy cx tn H.size hC24 hc hok h1) (cwV 1 hts gL_giveBack_X2_giveBack rfl rfl rfl (by decide +kernel) ⟨Nat.le_of_ble_eq_true rfl, Nat.le_of_ble_eq_true rfl⟩) hK hP hD hS hA [0, 1, 2, 3, 4, 5, 6, 7, 8, 9, 10, 11, 12, 13, 14, 15, 16] [17] [1, 2, 3, 4, 5, 6, 7, 8, 9, 10, 11, 12, 13, 14, 15, 16, 17, 0] [0] rfl rfl rfl rfl (by decide) rfl rfl rfl 14 rfl rfl rfl rfl hl.1 rfl (Nat.le_of_ble_eq_true rfl) dL_giveBack_4 ⟨Nat.le_of_ble_eq_true rfl, Nat.le_of_ble_eq_true rfl⟩ (fun H locs hP hD hS => ?_)
  refine lv_i2l (v := Int32.toInt64 (if 0 < dy - jDue so ld tn cx then dy - jDue so ld tn cx else 0)) hx hb dL_giveBack_7 rfl ?_
  refine kc_lst (i := 0) (n := 1) hx hb hK hP hD hS 17 1 rfl rfl (by decide) (by decide) dL_giveBack_8 (fun H locs hP hD hS => ?_)
  have hP : va_P D vwCl (wLh ad cI cd te ri pi pw K Dn mv ko (upd so cx 0) tl lp lb ld (jMoveEnd so le tn cx dy) C cl dq dy cL (vp_updL ou 0 (Int32.toInt64 (if 0 < dy - jDue so ld tn cx then dy - jDue so ld tn cx else 0)))) H := hP
  have hD : va_D A (wLh ad cI cd te ri pi pw K Dn mv ko (upd so cx 0) tl lp lb ld (jMoveEnd so le tn cx dy) C cl dq dy cL (vp_updL ou 0 (Int32.toInt64 (if 0 < dy - jDue so ld tn cx then dy - jDue so ld tn cx else 0)))) := hD
  refine lv_goto (tgt := 18) hx hb dL_giveBack_9 (by decide) ?_
  refine lv_iconst (v := 0) hx hb dL_giveBack_18 (by decide) ?_
  exact W.iret (v := 0) hx hb hr (fun tZ htZ hWZ => ⟨⟨_, (), rfl, rfl, by rw [htZ]; exact hP, by rw [hAe]; exact hD⟩, hS.F htZ⟩) hS.2.2 dL_giveBack_19
set_option maxHeartbeats 4000000 in
set_option maxRecDepth 100000 in
theorem c_L_lose_ok (l : Launch) (D : va_G) (ad : Nat → Nat) (cI : ClassId) (cd : Nat → Int32) (te : Nat → Int32) (ri : Nat → Int32) (pi : Nat → Int32) (pw : Nat → Int32) (K : Nat) (Dn : Nat) (mv : Int32) (ko : Nat → Int32) (so : Nat → Int32) (tl : Nat → Int32) (lp : Nat → Int32) (lb : Nat → Int32) (ld : Nat → Int32) (le : Nat → Int32) (C : Nat) (cl : Nat → Int32) (dq : Nat → Int32) (dy : Int32) (cL : ClassId) (ou : Nat → Int64) (cx : Nat) (tn : Nat → Nat) (kn : Nat → Nat) (sz : Nat) (hK8 : K ≤ 8) (hD8 : Dn ≤ 8) (hC24 : C ≤ 24) (hc : cx < C) (hok : okLe so tl tn) (hkn : okKe C ko kn) (h2 : ¬ so cx = 2) (h3 : ¬ so cx = 3) : Met l yL_lose wsL_lose ({ frames := 4, cells := 0, slots := 0, locals := 88 } : Room) (wrP [.ref (ad 14), .int (nI cx), .ref (ad 17)] D sz (wLh ad cI cd te ri pi pw K Dn mv ko so tl lp lb ld le C cl dq dy cL ou) [(cI, .int), (cL, .long)]) (va_Qi (fun rZ (_ : Unit) => rZ = 0) (wrB D sz (wLh ad cI cd te ri pi pw K Dn mv ko so tl lp lb ld le C cl dq dy cL ou) (wLh ad cI cd te ri pi pw K Dn mv ko (upd so cx 2) tl lp lb ld (jMoveEnd so le tn cx dy) C cl dq dy cL (vp_updL ou 0 (Int32.toInt64 (jDoors pi te (kn cx) Dn))))) (va_A (wLh ad cI cd te ri pi pw K Dn mv ko so tl lp lb ld le C cl dq dy cL ou) sz)) 0 0 (va_A (wLh ad cI cd te ri pi pw K Dn mv ko so tl lp lb ld le C cl dq dy cL ou) sz) := by
  refine va_MetW (cc := cL_lose) (maxL := 4) (ret := (some .int)) (hh := [(0, 9, 12, 24), (0, 9, 15, 15)]) (by decide) rfl ?_
  intro p e s m args below meth c s₁ B hml hv
  obtain ⟨rfl, hsz, hP, hD0, hK⟩ := hv
  have hx := B.exec
  have hb := B.bytes
  have hr := B.returns
  have hts := atoms_spec (ws := wsL_lose) B.pre
  have hown : s.vm.findClass RL = some m.cls := findClass_of_methodNamed B.named
  have hlocks := B.notSynchronized
  subst hsz
  have hD := hD0.self (sz := s.heap.size)
  generalize hAe : va_A (wLh ad cI cd te ri pi pw K Dn mv ko so tl lp lb ld le C cl dq dy cL ou) s.heap.size = A at hD ⊢
  have hA : ∀ q : Nat, s.heap.size ≤ q → A q := fun q h => by rw [← hAe]; exact Or.inr h
  have hl := lv_entry ([.ref (ad 14), .int (nI cx), .ref (ad 17)]) (n := 4) (Nat.le_of_ble_eq_true rfl)
  rw [lg_entry_eq]
  generalize (lg_sl ([.ref (ad 14), .int (nI cx), .ref (ad 17)]) ++ List.replicate (4 - (lg_sl ([.ref (ad 14), .int (nI cx), .ref (ad 17)])).length) Slot.unset).toArray = ls at hl ⊢
  have hl : lv_has ls 4 [(0, .ref (ad 14)), (1, .int (nI cx)), (2, .ref (ad 17))] := hl
  refine W.genH (fun H locs eH eL => ?_)
  have hS : va_S A s.heap H locs := by rw [eH, eL]; exact va_S.rf
  have hP : va_P D vwCl (wLh ad cI cd te ri pi pw K Dn mv ko so tl lp lb ld le C cl dq dy cL ou) H := by rw [eH]; exact hP
  clear eH eL
  refine lv_aload_n hx hb dL_lose_0 rfl (lv_at hl 2 rfl) ?_
  refine lv_iconst (v := 0) hx hb dL_lose_1 (by decide) ?_
  refine lv_aload_n hx hb dL_lose_2 rfl (lv_at hl 0 rfl) ?_
  refine lv_iload_n hx hb dL_lose_3 rfl (lv_at hl 1 rfl) ?_
  refine kc_wVi (w1 := wKc ad cI cd te ri pi pw K Dn mv ko (upd so cx 2) tl lp lb ld (jMoveEnd so le tn cx dy) C cl dq dy) (wr := [(ad 17, .inl (cL, 1, .inr (.inl ou)))]) (ws1 := wLh ad cI cd te ri pi pw K Dn mv ko (upd so cx 2) tl lp lb ld (jMoveEnd so le tn cx dy) C cl dq dy cL ou) (As := [.int (nI cx)]) (rest := [.int 0, .ref (ad 17)]) ⟨hx, hb, hml, hown, hts⟩ (c_X2_lose_ok l D ad cI cd te ri pi pw K Dn mv ko so tl lp lb ld le C cl dq dy cx tn kn H.size hK8 hD8 hC24 hc hok hkn h2 h3) (cwV 1 hts gL_lose_X2_lose rfl rfl rfl (by decide +kernel) ⟨Nat.le_of_ble_eq_true rfl, Nat.le_of_ble_eq_true rfl⟩) hK hP hD hS hA [0, 1, 2, 3, 4, 5, 6, 7, 8, 9, 10, 11, 12, 13, 14, 15, 16] [17] [1, 2, 3, 4, 5, 6, 7, 8, 9, 10, 11, 12, 13, 14, 15, 16, 17, 0] [0] rfl rfl rfl rfl (by decide) rfl rfl rfl 14 rfl rfl rfl rfl hl.1 rfl (Nat.le_of_ble_eq_true rfl) dL_lose_4 ⟨Nat.le_of_ble_eq_true rfl, Nat.le_of_ble_eq_true rfl⟩ (fun H locs hP hD hS => ?_)
  refine lv_i2l (v := Int32.toInt64 (jDoors pi te (kn cx) Dn)) hx hb dL_lose_7 rfl ?_
  refine kc_lst (i := 0) (n := 1) hx hb hK hP hD hS 17 1 rfl rfl (by decide) (by decide) dL_lose_8 (fun H locs hP hD hS => ?_)
  have hP : va_P D vwCl (wLh ad cI cd te ri pi pw K Dn mv ko (upd so cx 2) tl lp lb ld (jMoveEnd so le tn cx dy) C cl dq dy cL (vp_updL ou 0 (Int32.toInt64 (jDoors pi te (kn cx) Dn)))) H := hP
  have hD : va_D A (wLh ad cI cd te ri pi pw K Dn mv ko (upd so cx 2) tl lp lb ld (jMoveEnd so le tn cx dy) C cl dq dy cL (vp_updL ou 0 (Int32.toInt64 (jDoors pi te (kn cx) Dn)))) := hD
  refine lv_goto (tgt := 18) hx hb dL_lose_9 (by decide) ?_
  refine lv_iconst (v := 0) hx hb dL_lose_18 (by decide) ?_
  exact W.iret (v := 0) hx hb hr (fun tZ htZ hWZ => ⟨⟨_, (), rfl, rfl, by rw [htZ]; exact hP, by rw [hAe]; exact hD⟩, hS.F htZ⟩) hS.2.2 dL_lose_19
set_option maxHeartbeats 4000000 in
set_option maxRecDepth 100000 in
theorem c_L_find_ok (l : Launch) (D : va_G) (ad : Nat → Nat) (cI : ClassId) (cd : Nat → Int32) (te : Nat → Int32) (ri : Nat → Int32) (pi : Nat → Int32) (pw : Nat → Int32) (K : Nat) (Dn : Nat) (mv : Int32) (ko : Nat → Int32) (so : Nat → Int32) (tl : Nat → Int32) (lp : Nat → Int32) (lb : Nat → Int32) (ld : Nat → Int32) (le : Nat → Int32) (C : Nat) (cl : Nat → Int32) (dq : Nat → Int32) (dy : Int32) (cL : ClassId) (ou : Nat → Int64) (cx : Nat) (tn : Nat → Nat) (sz : Nat) (hK8 : K ≤ 8) (hD8 : Dn ≤ 8) (hC24 : C ≤ 24) (hc : cx < C) (hok : okLe so tl tn) (h2 : so cx = 2) : Met l yL_find wsL_find ({ frames := 6, cells := 0, slots := 0, locals := 130 } : Room) (wrP [.ref (ad 14), .int (nI cx), .ref (ad 17)] D sz (wLh ad cI cd te ri pi pw K Dn mv ko so tl lp lb ld le C cl dq dy cL ou) [(cI, .int), (cL, .long)]) (va_Qi (fun rZ (_ : Unit) => rZ = 0) (wrB D sz (wLh ad cI cd te ri pi pw K Dn mv ko so tl lp lb ld le C cl dq dy cL ou) (wLh ad cI cd te ri pi pw K Dn mv ko (upd so cx 0) tl lp lb ld le C cl dq dy cL (vp_updL ou 0 (Int32.toInt64 (jRisk pi te Dn K ko (upd so cx 0) C))))) (va_A (wLh ad cI cd te ri pi pw K Dn mv ko so tl lp lb ld le C cl dq dy cL ou) sz)) 0 0 (va_A (wLh ad cI cd te ri pi pw K Dn mv ko so tl lp lb ld le C cl dq dy cL ou) sz) := by
  refine va_MetW (cc := cL_find) (maxL := 4) (ret := (some .int)) (hh := [(0, 9, 12, 24), (0, 9, 15, 15)]) (by decide) rfl ?_
  intro p e s m args below meth c s₁ B hml hv
  obtain ⟨rfl, hsz, hP, hD0, hK⟩ := hv
  have hx := B.exec
  have hb := B.bytes
  have hr := B.returns
  have hts := atoms_spec (ws := wsL_find) B.pre
  have hown : s.vm.findClass RL = some m.cls := findClass_of_methodNamed B.named
  have hlocks := B.notSynchronized
  subst hsz
  have hD := hD0.self (sz := s.heap.size)
  generalize hAe : va_A (wLh ad cI cd te ri pi pw K Dn mv ko so tl lp lb ld le C cl dq dy cL ou) s.heap.size = A at hD ⊢
  have hA : ∀ q : Nat, s.heap.size ≤ q → A q := fun q h => by rw [← hAe]; exact Or.inr h
  have hl := lv_entry ([.ref (ad 14), .int (nI cx), .ref (ad 17)]) (n := 4) (Nat.le_of_ble_eq_true rfl)
  rw [lg_entry_eq]
  generalize (lg_sl ([.ref (ad 14), .int (nI cx), .ref (ad 17)]) ++ List.replicate (4 - (lg_sl ([.ref (ad 14), .int (nI cx), .ref (ad 17)])).length) Slot.unset).toArray = ls at hl ⊢
  have hl : lv_has ls 4 [(0, .ref (ad 14)), (1, .int (nI cx)), (2, .ref (ad 17))] := hl
  refine W.genH (fun H locs eH eL => ?_)
  have hS : va_S A s.heap H locs := by rw [eH, eL]; exact va_S.rf
  have hP : va_P D vwCl (wLh ad cI cd te ri pi pw K Dn mv ko so tl lp lb ld le C cl dq dy cL ou) H := by rw [eH]; exact hP
  clear eH eL
  refine lv_aload_n hx hb dL_find_0 rfl (lv_at hl 2 rfl) ?_
  refine lv_iconst (v := 0) hx hb dL_find_1 (by decide) ?_
  refine lv_aload_n hx hb dL_find_2 rfl (lv_at hl 0 rfl) ?_
  refine lv_iload_n hx hb dL_find_3 rfl (lv_at hl 1 rfl) ?_
  refine kc_wVi (w1 := wKc ad cI cd te ri pi pw K Dn mv ko (upd so cx 0) tl lp lb ld le C cl dq dy) (wr := [(ad 17, .inl (cL, 1, .inr (.inl ou)))]) (ws1 := wLh ad cI cd te ri pi pw K Dn mv ko (upd so cx 0) tl lp lb ld le C cl dq dy cL ou) (As := [.int (nI cx)]) (rest := [.int 0, .ref (ad 17)]) ⟨hx, hb, hml, hown, hts⟩ (c_X2_find_ok l D ad cI cd te ri pi pw K Dn mv ko so tl lp lb ld le C cl dq dy cx tn H.size hK8 hD8 hC24 hc hok h2) (cwV 1 hts gL_find_X2_find rfl rfl rfl (by decide +kernel) ⟨Nat.le_of_ble_eq_true rfl, Nat.le_of_ble_eq_true rfl⟩) hK hP hD hS hA [0, 1, 2, 3, 4, 5, 6, 7, 8, 9, 10, 11, 12, 13, 14, 15, 16] [17] [1, 2, 3, 4, 5, 6, 7, 8, 9, 10, 11, 12, 13, 14, 15, 16, 17, 0] [0] rfl rfl rfl rfl (by decide) rfl rfl rfl 14 rfl rfl rfl rfl hl.1 rfl (Nat.le_of_ble_eq_true rfl) dL_find_4 ⟨Nat.le_of_ble_eq_true rfl, Nat.le_of_ble_eq_true rfl⟩ (fun H locs hP hD hS => ?_)
  refine lv_i2l (v := Int32.toInt64 (jRisk pi te Dn K ko (upd so cx 0) C)) hx hb dL_find_7 rfl ?_
  refine kc_lst (i := 0) (n := 1) hx hb hK hP hD hS 17 1 rfl rfl (by decide) (by decide) dL_find_8 (fun H locs hP hD hS => ?_)
  have hP : va_P D vwCl (wLh ad cI cd te ri pi pw K Dn mv ko (upd so cx 0) tl lp lb ld le C cl dq dy cL (vp_updL ou 0 (Int32.toInt64 (jRisk pi te Dn K ko (upd so cx 0) C)))) H := hP
  have hD : va_D A (wLh ad cI cd te ri pi pw K Dn mv ko (upd so cx 0) tl lp lb ld le C cl dq dy cL (vp_updL ou 0 (Int32.toInt64 (jRisk pi te Dn K ko (upd so cx 0) C)))) := hD
  refine lv_goto (tgt := 18) hx hb dL_find_9 (by decide) ?_
  refine lv_iconst (v := 0) hx hb dL_find_18 (by decide) ?_
  exact W.iret (v := 0) hx hb hr (fun tZ htZ hWZ => ⟨⟨_, (), rfl, rfl, by rw [htZ]; exact hP, by rw [hAe]; exact hD⟩, hS.F htZ⟩) hS.2.2 dL_find_19
set_option maxHeartbeats 4000000 in
set_option maxRecDepth 100000 in
theorem c_L_pass_ok (l : Launch) (D : va_G) (ad : Nat → Nat) (cI : ClassId) (cd : Nat → Int32) (te : Nat → Int32) (ri : Nat → Int32) (pi : Nat → Int32) (pw : Nat → Int32) (K : Nat) (Dn : Nat) (mv : Int32) (ko : Nat → Int32) (so : Nat → Int32) (tl : Nat → Int32) (lp : Nat → Int32) (lb : Nat → Int32) (ld : Nat → Int32) (le : Nat → Int32) (C : Nat) (cl : Nat → Int32) (dq : Nat → Int32) (dy : Int32) (cL : ClassId) (ou : Nat → Int64) (dz : Int32) (sz : Nat) (hz1 : ¬ dz < 1) (hz2 : dz ≤ 99) (h9 : dy + dz ≤ 9999) : Met l yL_pass wsL_pass ({ frames := 2, cells := 0, slots := 0, locals := 42 } : Room) (wrP [.ref (ad 14), .int dz, .ref (ad 17)] D sz (wLh ad cI cd te ri pi pw K Dn mv ko so tl lp lb ld le C cl dq dy cL ou) [(cI, .int), (cL, .long)]) (va_Qi (fun rZ (_ : Unit) => rZ = 0) (wrB D sz (wLh ad cI cd te ri pi pw K Dn mv ko so tl lp lb ld le C cl dq dy cL ou) (wLh ad cI cd te ri pi pw K Dn mv ko so tl lp lb ld le C cl dq (dy + dz) cL (vp_updL ou 0 (Int32.toInt64 (dy + dz))))) (va_A (wLh ad cI cd te ri pi pw K Dn mv ko so tl lp lb ld le C cl dq dy cL ou) sz)) 0 0 (va_A (wLh ad cI cd te ri pi pw K Dn mv ko so tl lp lb ld le C cl dq dy cL ou) sz) := by
  refine va_MetW (cc := cL_pass) (maxL := 4) (ret := (some .int)) (hh := [(0, 9, 12, 13), (0, 9, 15, 15)]) (by decide) rfl ?_
  intro p e s m args below meth c s₁ B hml hv
  obtain ⟨rfl, hsz, hP, hD0, hK⟩ := hv
  have hx := B.exec
  have hb := B.bytes
  have hr := B.returns
  have hts := atoms_spec (ws := wsL_pass) B.pre
  have hown : s.vm.findClass RL = some m.cls := findClass_of_methodNamed B.named
  have hlocks := B.notSynchronized
  subst hsz
  have hD := hD0.self (sz := s.heap.size)
  generalize hAe : va_A (wLh ad cI cd te ri pi pw K Dn mv ko so tl lp lb ld le C cl dq dy cL ou) s.heap.size = A at hD ⊢
  have hA : ∀ q : Nat, s.heap.size ≤ q → A q := fun q h => by rw [← hAe]; exact Or.inr h
  have hl := lv_entry ([.ref (ad 14), .int dz, .ref (ad 17)]) (n := 4) (Nat.le_of_ble_eq_true rfl)
  rw [lg_entry_eq]
  generalize (lg_sl ([.ref (ad 14), .int dz, .ref (ad 17)]) ++ List.replicate (4 - (lg_sl ([.ref (ad 14), .int dz, .ref (ad 17)])).length) Slot.unset).toArray = ls at hl ⊢
  have hl : lv_has ls 4 [(0, .ref (ad 14)), (1, .int dz), (2, .ref (ad 17))] := hl
  refine W.genH (fun H locs eH eL => ?_)
  have hS : va_S A s.heap H locs := by rw [eH, eL]; exact va_S.rf
  have hP : va_P D vwCl (wLh ad cI cd te ri pi pw K Dn mv ko so tl lp lb ld le C cl dq dy cL ou) H := by rw [eH]; exact hP
  clear eH eL
  refine lv_aload_n hx hb dL_pass_0 rfl (lv_at hl 2 rfl) ?_
  refine lv_iconst (v := 0) hx hb dL_pass_1 (by decide) ?_
  refine lv_aload_n hx hb dL_pass_2 rfl (lv_at hl 0 rfl) ?_
  refine lv_iload_n hx hb dL_pass_3 rfl (lv_at hl 1 rfl) ?_
  refine kc_wVi (w1 := wKc ad cI cd te ri pi pw K Dn mv ko so tl lp lb ld le C cl dq (dy + dz)) (wr := [(ad 17, .inl (cL, 1, .inr (.inl ou)))]) (ws1 := wLh ad cI cd te ri pi pw K Dn mv ko so tl lp lb ld le C cl dq (dy + dz) cL ou) (As := [.int dz]) (rest := [.int 0, .ref (ad 17)]) ⟨hx, hb, hml, hown, hts⟩ (c_X2_pass_ok l D ad cI cd te ri pi pw K Dn mv ko so tl lp lb ld le C cl dq dy dz H.size hz1 hz2 h9) (cwV 1 hts gL_pass_X2_pass rfl rfl rfl (by decide +kernel) ⟨Nat.le_of_ble_eq_true rfl, Nat.le_of_ble_eq_true rfl⟩) hK hP hD hS hA [0, 1, 2, 3, 4, 5, 6, 7, 8, 9, 10, 11, 12, 13, 14, 15, 16] [17] [1, 2, 3, 4, 5, 6, 7, 8, 9, 10, 11, 12, 13, 14, 15, 16, 17, 0] [0] rfl rfl rfl rfl (by decide) rfl rfl rfl 14 rfl rfl rfl rfl hl.1 rfl (Nat.le_of_ble_eq_true rfl) dL_pass_4 ⟨Nat.le_of_ble_eq_true rfl, Nat.le_of_ble_eq_true rfl⟩ (fun H locs hP hD hS => ?_)
  refine lv_i2l (v := Int32.toInt64 (dy + dz)) hx hb dL_pass_7 rfl ?_
  refine kc_lst (i := 0) (n := 1) hx hb hK hP hD hS 17 1 rfl rfl (by decide) (by decide) dL_pass_8 (fun H locs hP hD hS => ?_)
  have hP : va_P D vwCl (wLh ad cI cd te ri pi pw K Dn mv ko so tl lp lb ld le C cl dq (dy + dz) cL (vp_updL ou 0 (Int32.toInt64 (dy + dz)))) H := hP
  have hD : va_D A (wLh ad cI cd te ri pi pw K Dn mv ko so tl lp lb ld le C cl dq (dy + dz) cL (vp_updL ou 0 (Int32.toInt64 (dy + dz)))) := hD
  refine lv_goto (tgt := 18) hx hb dL_pass_9 (by decide) ?_
  refine lv_iconst (v := 0) hx hb dL_pass_18 (by decide) ?_
  exact W.iret (v := 0) hx hb hr (fun tZ htZ hWZ => ⟨⟨_, (), rfl, rfl, by rw [htZ]; exact hP, by rw [hAe]; exact hD⟩, hS.F htZ⟩) hS.2.2 dL_pass_19
set_option maxHeartbeats 4000000 in
set_option maxRecDepth 100000 in
theorem c_L_code_f1 (l : Launch) (hlf : l.stackTraces = false) (D : va_G) (ad : Nat → Nat) (cI : ClassId) (cd : Nat → Int32) (te : Nat → Int32) (ri : Nat → Int32) (pi : Nat → Int32) (pw : Nat → Int32) (K : Nat) (Dn : Nat) (mv : Int32) (ko : Nat → Int32) (so : Nat → Int32) (tl : Nat → Int32) (lp : Nat → Int32) (lb : Nat → Int32) (ld : Nat → Int32) (le : Nat → Int32) (C : Nat) (cl : Nat → Int32) (dq : Nat → Int32) (dy : Int32) (cL : ClassId) (ou : Nat → Int64) (x : Int32) (sz : Nat) (hBad : ¬ jIn K x = true) : Met l yL_code wsL_code ({ frames := 8, cells := 1, slots := 6, locals := 132 } : Room) (hxP [.ref (ad 14), .int x, .ref (ad 17)] D sz (wLh ad cI cd te ri pi pw K Dn mv ko so tl lp lb ld le C cl dq dy cL ou) [(cI, .int), (cL, .long)]) (va_Qi (fun rZ (_ : Unit) => rZ = 1) (wrB D sz (wLh ad cI cd te ri pi pw K Dn mv ko so tl lp lb ld le C cl dq dy cL ou) (wLh ad cI cd te ri pi pw K Dn mv ko so tl lp lb ld le C cl dq dy cL ou)) (va_A (wLh ad cI cd te ri pi pw K Dn mv ko so tl lp lb ld le C cl dq dy cL ou) sz)) 1 6 (va_A (wLh ad cI cd te ri pi pw K Dn mv ko so tl lp lb ld le C cl dq dy cL ou) sz) := by
  refine va_MetW (cc := cL_code) (maxL := 4) (ret := (some .int)) (hh := [(0, 9, 12, 24)]) (by decide) rfl ?_
  intro p e s m args below meth c s₁ B hml hv
  obtain ⟨rfl, hsz, hP, hD0, hK, hX⟩ := hv
  have hx := B.exec
  have hb := B.bytes
  have hr := B.returns
  have hts := atoms_spec (ws := wsL_code) B.pre
  have hown : s.vm.findClass RL = some m.cls := findClass_of_methodNamed B.named
  have hlocks := B.notSynchronized
  subst hsz
  have hD := hD0.self (sz := s.heap.size)
  generalize hAe : va_A (wLh ad cI cd te ri pi pw K Dn mv ko so tl lp lb ld le C cl dq dy cL ou) s.heap.size = A at hD ⊢
  have hA : ∀ q : Nat, s.heap.size ≤ q → A q := fun q h => by rw [← hAe]; exact Or.inr h
  have hl := lv_entry ([.ref (ad 14), .int x, .ref (ad 17)]) (n := 4) (Nat.le_of_ble_eq_true rfl)
  rw [lg_entry_eq]
  generalize (lg_sl ([.ref (ad 14), .int x, .ref (ad 17)]) ++ List.replicate (4 - (lg_sl ([.ref (ad 14), .int x, .ref (ad 17)])).length) Slot.unset).toArray = ls at hl ⊢
  have hl : lv_has ls 4 [(0, .ref (ad 14)), (1, .int x), (2, .ref (ad 17))] := hl
  refine W.genH (fun H locs eH eL => ?_)
  have hS : va_S A s.heap H locs := by rw [eH, eL]; exact va_S.rf
  have hP : va_P D vwCl (wLh ad cI cd te ri pi pw K Dn mv ko so tl lp lb ld le C cl dq dy cL ou) H := by rw [eH]; exact hP
  have hX : kcX (fun q => H.size ≤ q) s H := by rw [eH]; exact hX
  have htb := vx_table (x := yL_code) B (hts _ List.mem_cons_self)
  clear eH eL
  refine lv_aload_n hx hb dL_code_0 rfl (lv_at hl 2 rfl) ?_
  refine lv_iconst (v := 0) hx hb dL_code_1 (by decide) ?_
  refine lv_aload_n hx hb dL_code_2 rfl (lv_at hl 0 rfl) ?_
  refine lv_iload_n hx hb dL_code_3 rfl (lv_at hl 1 rfl) ?_
  refine kc_xV (E := "java/lang/IndexOutOfBoundsException") (As := [.int x]) (rest := [.int 0, .ref (ad 17)]) ⟨hx, hb, hml, hown, hts⟩ (c_X2_code_f1 l hlf D ad cI cd te ri pi pw K Dn mv ko so tl lp lb ld le C cl dq dy x H.size hBad) (cwV 1 hts gL_code_X2_code rfl rfl rfl (by decide +kernel) ⟨Nat.le_of_ble_eq_true rfl, Nat.le_of_ble_eq_true rfl⟩) hK hP hX [0, 1, 2, 3, 4, 5, 6, 7, 8, 9, 10, 11, 12, 13, 14, 15, 16] [0] rfl rfl 14 rfl rfl rfl rfl hl.1 rfl (Nat.le_of_ble_eq_true rfl) dL_code_4 ⟨Nat.le_of_ble_eq_true rfl, Nat.le_of_ble_eq_true rfl⟩ hS hA (fun ce q9 H1 locs1 hz hk9 hS1 hce hcv hcl => ?_)
  refine vx_catch (name := "java/lang/IndexOutOfBoundsException") hown [] ⟨0, 9, 12, 24⟩ [] (htb.trans rfl) (fun z hz => nomatch hz) (by decide) (by decide) (hts (.classLink RL 24 "java/lang/IndexOutOfBoundsException") (by decide +kernel)) (va_Nw.use rfl (hX.2.2.1 (.castable "java/lang/IndexOutOfBoundsException" "java/lang/IndexOutOfBoundsException") (by decide +kernel))) hce hcv hcl ?_
  have hP : va_P D vwCl (wLh ad cI cd te ri pi pw K Dn mv ko so tl lp lb ld le C cl dq dy cL ou) H1 := hP.kept (fun k q h => hk9 q.1 ((hP k q h).lt))
  generalize H1 = H at hP hS1 ⊢
  generalize locs1 = locs at hS1 ⊢
  have hS := hS1
  clear hX
  refine lv_astore_n (lv' := [(3, .ref q9), (0, .ref (ad 14)), (1, .int x), (2, .ref (ad 17))]) hx hb dL_code_12 rfl hl (by decide) rfl (fun ls hl => ?_)
  refine lv_iconst (v := 1) hx hb dL_code_13 (by decide) ?_
  exact W.iret (v := 1) hx hb hr (fun tZ htZ hWZ => ⟨⟨_, (), rfl, rfl, by rw [htZ]; exact hP, by rw [hAe]; exact hD⟩, hS.F htZ⟩) hS.2.2 dL_code_14
set_option maxHeartbeats 4000000 in
set_option maxRecDepth 100000 in
theorem c_L_openers_f1 (l : Launch) (hlf : l.stackTraces = false) (D : va_G) (ad : Nat → Nat) (cI : ClassId) (cd : Nat → Int32) (te : Nat → Int32) (ri : Nat → Int32) (pi : Nat → Int32) (pw : Nat → Int32) (K : Nat) (Dn : Nat) (mv : Int32) (ko : Nat → Int32) (so : Nat → Int32) (tl : Nat → Int32) (lp : Nat → Int32) (lb : Nat → Int32) (ld : Nat → Int32) (le : Nat → Int32) (C : Nat) (cl : Nat → Int32) (dq : Nat → Int32) (dy : Int32) (cL : ClassId) (ou : Nat → Int64) (x : Int32) (sz : Nat) (hBad : ¬ jIn Dn x = true) : Met l yL_openers wsL_openers ({ frames := 8, cells := 1, slots := 6, locals := 132 } : Room) (hxP [.ref (ad 14), .int x, .ref (ad 17)] D sz (wLh ad cI cd te ri pi pw K Dn mv ko so tl lp lb ld le C cl dq dy cL ou) [(cI, .int), (cL, .long)]) (va_Qi (fun rZ (_ : Unit) => rZ = 1) (wrB D sz (wLh ad cI cd te ri pi pw K Dn mv ko so tl lp lb ld le C cl dq dy cL ou) (wLh ad cI cd te ri pi pw K Dn mv ko so tl lp lb ld le C cl dq dy cL ou)) (va_A (wLh ad cI cd te ri pi pw K Dn mv ko so tl lp lb ld le C cl dq dy cL ou) sz)) 1 6 (va_A (wLh ad cI cd te ri pi pw K Dn mv ko so tl lp lb ld le C cl dq dy cL ou) sz) := by
  refine va_MetW (cc := cL_openers) (maxL := 4) (ret := (some .int)) (hh := [(0, 9, 12, 24)]) (by decide) rfl ?_
  intro p e s m args below meth c s₁ B hml hv
  obtain ⟨rfl, hsz, hP, hD0, hK, hX⟩ := hv
  have hx := B.exec
  have hb := B.bytes
  have hr := B.returns
  have hts := atoms_spec (ws := wsL_openers) B.pre
  have hown : s.vm.findClass RL = some m.cls := findClass_of_methodNamed B.named
  have hlocks := B.notSynchronized
  subst hsz
  have hD := hD0.self (sz := s.heap.size)
  generalize hAe : va_A (wLh ad cI cd te ri pi pw K Dn mv ko so tl lp lb ld le C cl dq dy cL ou) s.heap.size = A at hD ⊢
  have hA : ∀ q : Nat, s.heap.size ≤ q → A q := fun q h => by rw [← hAe]; exact Or.inr h
  have hl := lv_entry ([.ref (ad 14), .int x, .ref (ad 17)]) (n := 4) (Nat.le_of_ble_eq_true rfl)
  rw [lg_entry_eq]
  generalize (lg_sl ([.ref (ad 14), .int x, .ref (ad 17)]) ++ List.replicate (4 - (lg_sl ([.ref (ad 14), .int x, .ref (ad 17)])).length) Slot.unset).toArray = ls at hl ⊢
  have hl : lv_has ls 4 [(0, .ref (ad 14)), (1, .int x), (2, .ref (ad 17))] := hl
  refine W.genH (fun H locs eH eL => ?_)
  have hS : va_S A s.heap H locs := by rw [eH, eL]; exact va_S.rf
  have hP : va_P D vwCl (wLh ad cI cd te ri pi pw K Dn mv ko so tl lp lb ld le C cl dq dy cL ou) H := by rw [eH]; exact hP
  have hX : kcX (fun q => H.size ≤ q) s H := by rw [eH]; exact hX
  have htb := vx_table (x := yL_openers) B (hts _ List.mem_cons_self)
  clear eH eL
  refine lv_aload_n hx hb dL_openers_0 rfl (lv_at hl 2 rfl) ?_
  refine lv_iconst (v := 0) hx hb dL_openers_1 (by decide) ?_
  refine lv_aload_n hx hb dL_openers_2 rfl (lv_at hl 0 rfl) ?_
  refine lv_iload_n hx hb dL_openers_3 rfl (lv_at hl 1 rfl) ?_
  refine kc_xV (E := "java/lang/IndexOutOfBoundsException") (As := [.int x]) (rest := [.int 0, .ref (ad 17)]) ⟨hx, hb, hml, hown, hts⟩ (c_X2_openers_f1 l hlf D ad cI cd te ri pi pw K Dn mv ko so tl lp lb ld le C cl dq dy x H.size hBad) (cwV 1 hts gL_openers_X2_openers rfl rfl rfl (by decide +kernel) ⟨Nat.le_of_ble_eq_true rfl, Nat.le_of_ble_eq_true rfl⟩) hK hP hX [0, 1, 2, 3, 4, 5, 6, 7, 8, 9, 10, 11, 12, 13, 14, 15, 16] [0] rfl rfl 14 rfl rfl rfl rfl hl.1 rfl (Nat.le_of_ble_eq_true rfl) dL_openers_4 ⟨Nat.le_of_ble_eq_true rfl, Nat.le_of_ble_eq_true rfl⟩ hS hA (fun ce q9 H1 locs1 hz hk9 hS1 hce hcv hcl => ?_)
  refine vx_catch (name := "java/lang/IndexOutOfBoundsException") hown [] ⟨0, 9, 12, 24⟩ [] (htb.trans rfl) (fun z hz => nomatch hz) (by decide) (by decide) (hts (.classLink RL 24 "java/lang/IndexOutOfBoundsException") (by decide +kernel)) (va_Nw.use rfl (hX.2.2.1 (.castable "java/lang/IndexOutOfBoundsException" "java/lang/IndexOutOfBoundsException") (by decide +kernel))) hce hcv hcl ?_
  have hP : va_P D vwCl (wLh ad cI cd te ri pi pw K Dn mv ko so tl lp lb ld le C cl dq dy cL ou) H1 := hP.kept (fun k q h => hk9 q.1 ((hP k q h).lt))
  generalize H1 = H at hP hS1 ⊢
  generalize locs1 = locs at hS1 ⊢
  have hS := hS1
  clear hX
  refine lv_astore_n (lv' := [(3, .ref q9), (0, .ref (ad 14)), (1, .int x), (2, .ref (ad 17))]) hx hb dL_openers_12 rfl hl (by decide) rfl (fun ls hl => ?_)
  refine lv_iconst (v := 1) hx hb dL_openers_13 (by decide) ?_
  exact W.iret (v := 1) hx hb hr (fun tZ htZ hWZ => ⟨⟨_, (), rfl, rfl, by rw [htZ]; exact hP, by rw [hAe]; exact hD⟩, hS.F htZ⟩) hS.2.2 dL_openers_14
set_option maxHeartbeats 4000000 in
set_option maxRecDepth 100000 in
theorem c_L_doors_f1 (l : Launch) (hlf : l.stackTraces = false) (D : va_G) (ad : Nat → Nat) (cI : ClassId) (cd : Nat → Int32) (te : Nat → Int32) (ri : Nat → Int32) (pi : Nat → Int32) (pw : Nat → Int32) (K : Nat) (Dn : Nat) (mv : Int32) (ko : Nat → Int32) (so : Nat → Int32) (tl : Nat → Int32) (lp : Nat → Int32) (lb : Nat → Int32) (ld : Nat → Int32) (le : Nat → Int32) (C : Nat) (cl : Nat → Int32) (dq : Nat → Int32) (dy : Int32) (cL : ClassId) (ou : Nat → Int64) (x : Int32) (sz : Nat) (hBad : ¬ jIn K x = true) : Met l yL_doors wsL_doors ({ frames := 8, cells := 1, slots := 6, locals := 132 } : Room) (hxP [.ref (ad 14), .int x, .ref (ad 17)] D sz (wLh ad cI cd te ri pi pw K Dn mv ko so tl lp lb ld le C cl dq dy cL ou) [(cI, .int), (cL, .long)]) (va_Qi (fun rZ (_ : Unit) => rZ = 1) (wrB D sz (wLh ad cI cd te ri pi pw K Dn mv ko so tl lp lb ld le C cl dq dy cL ou) (wLh ad cI cd te ri pi pw K Dn mv ko so tl lp lb ld le C cl dq dy cL ou)) (va_A (wLh ad cI cd te ri pi pw K Dn mv ko so tl lp lb ld le C cl dq dy cL ou) sz)) 1 6 (va_A (wLh ad cI cd te ri pi pw K Dn mv ko so tl lp lb ld le C cl dq dy cL ou) sz) := by
  refine va_MetW (cc := cL_doors) (maxL := 4) (ret := (some .int)) (hh := [(0, 9, 12, 24)]) (by decide) rfl ?_
  intro p e s m args below meth c s₁ B hml hv
  obtain ⟨rfl, hsz, hP, hD0, hK, hX⟩ := hv
  have hx := B.exec
  have hb := B.bytes
  have hr := B.returns
  have hts := atoms_spec (ws := wsL_doors) B.pre
  have hown : s.vm.findClass RL = some m.cls := findClass_of_methodNamed B.named
  have hlocks := B.notSynchronized
  subst hsz
  have hD := hD0.self (sz := s.heap.size)
  generalize hAe : va_A (wLh ad cI cd te ri pi pw K Dn mv ko so tl lp lb ld le C cl dq dy cL ou) s.heap.size = A at hD ⊢
  have hA : ∀ q : Nat, s.heap.size ≤ q → A q := fun q h => by rw [← hAe]; exact Or.inr h
  have hl := lv_entry ([.ref (ad 14), .int x, .ref (ad 17)]) (n := 4) (Nat.le_of_ble_eq_true rfl)
  rw [lg_entry_eq]
  generalize (lg_sl ([.ref (ad 14), .int x, .ref (ad 17)]) ++ List.replicate (4 - (lg_sl ([.ref (ad 14), .int x, .ref (ad 17)])).length) Slot.unset).toArray = ls at hl ⊢
  have hl : lv_has ls 4 [(0, .ref (ad 14)), (1, .int x), (2, .ref (ad 17))] := hl
  refine W.genH (fun H locs eH eL => ?_)
  have hS : va_S A s.heap H locs := by rw [eH, eL]; exact va_S.rf
  have hP : va_P D vwCl (wLh ad cI cd te ri pi pw K Dn mv ko so tl lp lb ld le C cl dq dy cL ou) H := by rw [eH]; exact hP
  have hX : kcX (fun q => H.size ≤ q) s H := by rw [eH]; exact hX
  have htb := vx_table (x := yL_doors) B (hts _ List.mem_cons_self)
  clear eH eL
  refine lv_aload_n hx hb dL_doors_0 rfl (lv_at hl 2 rfl) ?_
  refine lv_iconst (v := 0) hx hb dL_doors_1 (by decide) ?_
  refine lv_aload_n hx hb dL_doors_2 rfl (lv_at hl 0 rfl) ?_
  refine lv_iload_n hx hb dL_doors_3 rfl (lv_at hl 1 rfl) ?_
  refine kc_xV (E := "java/lang/IndexOutOfBoundsException") (As := [.int x]) (rest := [.int 0, .ref (ad 17)]) ⟨hx, hb, hml, hown, hts⟩ (c_X2_doors_f1 l hlf D ad cI cd te ri pi pw K Dn mv ko so tl lp lb ld le C cl dq dy x H.size hBad) (cwV 1 hts gL_doors_X2_doors rfl rfl rfl (by decide +kernel) ⟨Nat.le_of_ble_eq_true rfl, Nat.le_of_ble_eq_true rfl⟩) hK hP hX [0, 1, 2, 3, 4, 5, 6, 7, 8, 9, 10, 11, 12, 13, 14, 15, 16] [0] rfl rfl 14 rfl rfl rfl rfl hl.1 rfl (Nat.le_of_ble_eq_true rfl) dL_doors_4 ⟨Nat.le_of_ble_eq_true rfl, Nat.le_of_ble_eq_true rfl⟩ hS hA (fun ce q9 H1 locs1 hz hk9 hS1 hce hcv hcl => ?_)
  refine vx_catch (name := "java/lang/IndexOutOfBoundsException") hown [] ⟨0, 9, 12, 24⟩ [] (htb.trans rfl) (fun z hz => nomatch hz) (by decide) (by decide) (hts (.classLink RL 24 "java/lang/IndexOutOfBoundsException") (by decide +kernel)) (va_Nw.use rfl (hX.2.2.1 (.castable "java/lang/IndexOutOfBoundsException" "java/lang/IndexOutOfBoundsException") (by decide +kernel))) hce hcv hcl ?_
  have hP : va_P D vwCl (wLh ad cI cd te ri pi pw K Dn mv ko so tl lp lb ld le C cl dq dy cL ou) H1 := hP.kept (fun k q h => hk9 q.1 ((hP k q h).lt))
  generalize H1 = H at hP hS1 ⊢
  generalize locs1 = locs at hS1 ⊢
  have hS := hS1
  clear hX
  refine lv_astore_n (lv' := [(3, .ref q9), (0, .ref (ad 14)), (1, .int x), (2, .ref (ad 17))]) hx hb dL_doors_12 rfl hl (by decide) rfl (fun ls hl => ?_)
  refine lv_iconst (v := 1) hx hb dL_doors_13 (by decide) ?_
  exact W.iret (v := 1) hx hb hr (fun tZ htZ hWZ => ⟨⟨_, (), rfl, rfl, by rw [htZ]; exact hP, by rw [hAe]; exact hD⟩, hS.F htZ⟩) hS.2.2 dL_doors_14
set_option maxHeartbeats 4000000 in
set_option maxRecDepth 100000 in
theorem c_L_codes_f1 (l : Launch) (hlf : l.stackTraces = false) (D : va_G) (ad : Nat → Nat) (cI : ClassId) (cd : Nat → Int32) (te : Nat → Int32) (ri : Nat → Int32) (pi : Nat → Int32) (pw : Nat → Int32) (K : Nat) (Dn : Nat) (mv : Int32) (ko : Nat → Int32) (so : Nat → Int32) (tl : Nat → Int32) (lp : Nat → Int32) (lb : Nat → Int32) (ld : Nat → Int32) (le : Nat → Int32) (C : Nat) (cl : Nat → Int32) (dq : Nat → Int32) (dy : Int32) (cL : ClassId) (ou : Nat → Int64) (x : Int32) (sz : Nat) (hBad : ¬ jIn Dn x = true) : Met l yL_codes wsL_codes ({ frames := 8, cells := 1, slots := 6, locals := 132 } : Room) (hxP [.ref (ad 14), .int x, .ref (ad 17)] D sz (wLh ad cI cd te ri pi pw K Dn mv ko so tl lp lb ld le C cl dq dy cL ou) [(cI, .int), (cL, .long)]) (va_Qi (fun rZ (_ : Unit) => rZ = 1) (wrB D sz (wLh ad cI cd te ri pi pw K Dn mv ko so tl lp lb ld le C cl dq dy cL ou) (wLh ad cI cd te ri pi pw K Dn mv ko so tl lp lb ld le C cl dq dy cL ou)) (va_A (wLh ad cI cd te ri pi pw K Dn mv ko so tl lp lb ld le C cl dq dy cL ou) sz)) 1 6 (va_A (wLh ad cI cd te ri pi pw K Dn mv ko so tl lp lb ld le C cl dq dy cL ou) sz) := by
  refine va_MetW (cc := cL_codes) (maxL := 4) (ret := (some .int)) (hh := [(0, 9, 12, 24)]) (by decide) rfl ?_
  intro p e s m args below meth c s₁ B hml hv
  obtain ⟨rfl, hsz, hP, hD0, hK, hX⟩ := hv
  have hx := B.exec
  have hb := B.bytes
  have hr := B.returns
  have hts := atoms_spec (ws := wsL_codes) B.pre
  have hown : s.vm.findClass RL = some m.cls := findClass_of_methodNamed B.named
  have hlocks := B.notSynchronized
  subst hsz
  have hD := hD0.self (sz := s.heap.size)
  generalize hAe : va_A (wLh ad cI cd te ri pi pw K Dn mv ko so tl lp lb ld le C cl dq dy cL ou) s.heap.size = A at hD ⊢
  have hA : ∀ q : Nat, s.heap.size ≤ q → A q := fun q h => by rw [← hAe]; exact Or.inr h
  have hl := lv_entry ([.ref (ad 14), .int x, .ref (ad 17)]) (n := 4) (Nat.le_of_ble_eq_true rfl)
  rw [lg_entry_eq]
  generalize (lg_sl ([.ref (ad 14), .int x, .ref (ad 17)]) ++ List.replicate (4 - (lg_sl ([.ref (ad 14), .int x, .ref (ad 17)])).length) Slot.unset).toArray = ls at hl ⊢
  have hl : lv_has ls 4 [(0, .ref (ad 14)), (1, .int x), (2, .ref (ad 17))] := hl
  refine W.genH (fun H locs eH eL => ?_)
  have hS : va_S A s.heap H locs := by rw [eH, eL]; exact va_S.rf
  have hP : va_P D vwCl (wLh ad cI cd te ri pi pw K Dn mv ko so tl lp lb ld le C cl dq dy cL ou) H := by rw [eH]; exact hP
  have hX : kcX (fun q => H.size ≤ q) s H := by rw [eH]; exact hX
  have htb := vx_table (x := yL_codes) B (hts _ List.mem_cons_self)
  clear eH eL
  refine lv_aload_n hx hb dL_codes_0 rfl (lv_at hl 2 rfl) ?_
  refine lv_iconst (v := 0) hx hb dL_codes_1 (by decide) ?_
  refine lv_aload_n hx hb dL_codes_2 rfl (lv_at hl 0 rfl) ?_
  refine lv_iload_n hx hb dL_codes_3 rfl (lv_at hl 1 rfl) ?_
  refine kc_xV (E := "java/lang/IndexOutOfBoundsException") (As := [.int x]) (rest := [.int 0, .ref (ad 17)]) ⟨hx, hb, hml, hown, hts⟩ (c_X2_codes_f1 l hlf D ad cI cd te ri pi pw K Dn mv ko so tl lp lb ld le C cl dq dy x H.size hBad) (cwV 1 hts gL_codes_X2_codes rfl rfl rfl (by decide +kernel) ⟨Nat.le_of_ble_eq_true rfl, Nat.le_of_ble_eq_true rfl⟩) hK hP hX [0, 1, 2, 3, 4, 5, 6, 7, 8, 9, 10, 11, 12, 13, 14, 15, 16] [0] rfl rfl 14 rfl rfl rfl rfl hl.1 rfl (Nat.le_of_ble_eq_true rfl) dL_codes_4 ⟨Nat.le_of_ble_eq_true rfl, Nat.le_of_ble_eq_true rfl⟩ hS hA (fun ce q9 H1 locs1 hz hk9 hS1 hce hcv hcl => ?_)
  refine vx_catch (name := "java/lang/IndexOutOfBoundsException") hown [] ⟨0, 9, 12, 24⟩ [] (htb.trans rfl) (fun z hz => nomatch hz) (by decide) (by decide) (hts (.classLink RL 24 "java/lang/IndexOutOfBoundsException") (by decide +kernel)) (va_Nw.use rfl (hX.2.2.1 (.castable "java/lang/IndexOutOfBoundsException" "java/lang/IndexOutOfBoundsException") (by decide +kernel))) hce hcv hcl ?_
  have hP : va_P D vwCl (wLh ad cI cd te ri pi pw K Dn mv ko so tl lp lb ld le C cl dq dy cL ou) H1 := hP.kept (fun k q h => hk9 q.1 ((hP k q h).lt))
  generalize H1 = H at hP hS1 ⊢
  generalize locs1 = locs at hS1 ⊢
  have hS := hS1
  clear hX
  refine lv_astore_n (lv' := [(3, .ref q9), (0, .ref (ad 14)), (1, .int x), (2, .ref (ad 17))]) hx hb dL_codes_12 rfl hl (by decide) rfl (fun ls hl => ?_)
  refine lv_iconst (v := 1) hx hb dL_codes_13 (by decide) ?_
  exact W.iret (v := 1) hx hb hr (fun tZ htZ hWZ => ⟨⟨_, (), rfl, rfl, by rw [htZ]; exact hP, by rw [hAe]; exact hD⟩, hS.F htZ⟩) hS.2.2 dL_codes_14
set_option maxHeartbeats 4000000 in
set_option maxRecDepth 100000 in
theorem c_L_replace_f1 (l : Launch) (hlf : l.stackTraces = false) (D : va_G) (ad : Nat → Nat) (cI : ClassId) (cd : Nat → Int32) (te : Nat → Int32) (ri : Nat → Int32) (pi : Nat → Int32) (pw : Nat → Int32) (K : Nat) (Dn : Nat) (mv : Int32) (ko : Nat → Int32) (so : Nat → Int32) (tl : Nat → Int32) (lp : Nat → Int32) (lb : Nat → Int32) (ld : Nat → Int32) (le : Nat → Int32) (C : Nat) (cl : Nat → Int32) (dq : Nat → Int32) (dy : Int32) (cL : ClassId) (ou : Nat → Int64) (x : Int32) (sz : Nat) (hBad : ¬ jIn K x = true) : Met l yL_replace wsL_replace ({ frames := 8, cells := 1, slots := 6, locals := 133 } : Room) (hxP [.ref (ad 14), .int x, .ref (ad 17)] D sz (wLh ad cI cd te ri pi pw K Dn mv ko so tl lp lb ld le C cl dq dy cL ou) [(cI, .int), (cL, .long)]) (va_Qi (fun rZ (_ : Unit) => rZ = 1) (wrB D sz (wLh ad cI cd te ri pi pw K Dn mv ko so tl lp lb ld le C cl dq dy cL ou) (wLh ad cI cd te ri pi pw K Dn mv ko so tl lp lb ld le C cl dq dy cL ou)) (va_A (wLh ad cI cd te ri pi pw K Dn mv ko so tl lp lb ld le C cl dq dy cL ou) sz)) 1 6 (va_A (wLh ad cI cd te ri pi pw K Dn mv ko so tl lp lb ld le C cl dq dy cL ou) sz) := by
  refine va_MetW (cc := cL_replace) (maxL := 4) (ret := (some .int)) (hh := [(0, 9, 12, 24)]) (by decide) rfl ?_
  intro p e s m args below meth c s₁ B hml hv
  obtain ⟨rfl, hsz, hP, hD0, hK, hX⟩ := hv
  have hx := B.exec
  have hb := B.bytes
  have hr := B.returns
  have hts := atoms_spec (ws := wsL_replace) B.pre
  have hown : s.vm.findClass RL = some m.cls := findClass_of_methodNamed B.named
  have hlocks := B.notSynchronized
  subst hsz
  have hD := hD0.self (sz := s.heap.size)
  generalize hAe : va_A (wLh ad cI cd te ri pi pw K Dn mv ko so tl lp lb ld le C cl dq dy cL ou) s.heap.size = A at hD ⊢
  have hA : ∀ q : Nat, s.heap.size ≤ q → A q := fun q h => by rw [← hAe]; exact Or.inr h
  have hl := lv_entry ([.ref (ad 14), .int x, .ref (ad 17)]) (n := 4) (Nat.le_of_ble_eq_true rfl)
  rw [lg_entry_eq]
  generalize (lg_sl ([.ref (ad 14), .int x, .ref (ad 17)]) ++ List.replicate (4 - (lg_sl ([.ref (ad 14), .int x, .ref (ad 17)])).length) Slot.unset).toArray = ls at hl ⊢
  have hl : lv_has ls 4 [(0, .ref (ad 14)), (1, .int x), (2, .ref (ad 17))] := hl
  refine W.genH (fun H locs eH eL => ?_)
  have hS : va_S A s.heap H locs := by rw [eH, eL]; exact va_S.rf
  have hP : va_P D vwCl (wLh ad cI cd te ri pi pw K Dn mv ko so tl lp lb ld le C cl dq dy cL ou) H := by rw [eH]; exact hP
  have hX : kcX (fun q => H.size ≤ q) s H := by rw [eH]; exact hX
  have htb := vx_table (x := yL_replace) B (hts _ List.mem_cons_self)
  clear eH eL
  refine lv_aload_n hx hb dL_replace_0 rfl (lv_at hl 2 rfl) ?_
  refine lv_iconst (v := 0) hx hb dL_replace_1 (by decide) ?_
  refine lv_aload_n hx hb dL_replace_2 rfl (lv_at hl 0 rfl) ?_
  refine lv_iload_n hx hb dL_replace_3 rfl (lv_at hl 1 rfl) ?_
  refine kc_xV (E := "java/lang/IndexOutOfBoundsException") (As := [.int x]) (rest := [.int 0, .ref (ad 17)]) ⟨hx, hb, hml, hown, hts⟩ (c_X2_replace_f1 l hlf D ad cI cd te ri pi pw K Dn mv ko so tl lp lb ld le C cl dq dy x H.size hBad) (cwV 1 hts gL_replace_X2_replace rfl rfl rfl (by decide +kernel) ⟨Nat.le_of_ble_eq_true rfl, Nat.le_of_ble_eq_true rfl⟩) hK hP hX [0, 1, 2, 3, 4, 5, 6, 7, 8, 9, 10, 11, 12, 13, 14, 15, 16] [0] rfl rfl 14 rfl rfl rfl rfl hl.1 rfl (Nat.le_of_ble_eq_true rfl) dL_replace_4 ⟨Nat.le_of_ble_eq_true rfl, Nat.le_of_ble_eq_true rfl⟩ hS hA (fun ce q9 H1 locs1 hz hk9 hS1 hce hcv hcl => ?_)
  refine vx_catch (name := "java/lang/IndexOutOfBoundsException") hown [] ⟨0, 9, 12, 24⟩ [] (htb.trans rfl) (fun z hz => nomatch hz) (by decide) (by decide) (hts (.classLink RL 24 "java/lang/IndexOutOfBoundsException") (by decide +kernel)) (va_Nw.use rfl (hX.2.2.1 (.castable "java/lang/IndexOutOfBoundsException" "java/lang/IndexOutOfBoundsException") (by decide +kernel))) hce hcv hcl ?_
  have hP : va_P D vwCl (wLh ad cI cd te ri pi pw K Dn mv ko so tl lp lb ld le C cl dq dy cL ou) H1 := hP.kept (fun k q h => hk9 q.1 ((hP k q h).lt))
  generalize H1 = H at hP hS1 ⊢
  generalize locs1 = locs at hS1 ⊢
  have hS := hS1
  clear hX
  refine lv_astore_n (lv' := [(3, .ref q9), (0, .ref (ad 14)), (1, .int x), (2, .ref (ad 17))]) hx hb dL_replace_12 rfl hl (by decide) rfl (fun ls hl => ?_)
  refine lv_iconst (v := 1) hx hb dL_replace_13 (by decide) ?_
  exact W.iret (v := 1) hx hb hr (fun tZ htZ hWZ => ⟨⟨_, (), rfl, rfl, by rw [htZ]; exact hP, by rw [hAe]; exact hD⟩, hS.F htZ⟩) hS.2.2 dL_replace_14
set_option maxHeartbeats 4000000 in
set_option maxRecDepth 100000 in
theorem c_L_cut_f1 (l : Launch) (hlf : l.stackTraces = false) (D : va_G) (ad : Nat → Nat) (cI : ClassId) (cd : Nat → Int32) (te : Nat → Int32) (ri : Nat → Int32) (pi : Nat → Int32) (pw : Nat → Int32) (K : Nat) (Dn : Nat) (mv : Int32) (ko : Nat → Int32) (so : Nat → Int32) (tl : Nat → Int32) (lp : Nat → Int32) (lb : Nat → Int32) (ld : Nat → Int32) (le : Nat → Int32) (C : Nat) (cl : Nat → Int32) (dq : Nat → Int32) (dy : Int32) (cL : ClassId) (ou : Nat → Int64) (x : Int32) (sz : Nat) (hBad : ¬ jIn K x = true) : Met l yL_cut wsL_cut ({ frames := 8, cells := 1, slots := 6, locals := 132 } : Room) (hxP [.ref (ad 14), .int x, .ref (ad 17)] D sz (wLh ad cI cd te ri pi pw K Dn mv ko so tl lp lb ld le C cl dq dy cL ou) [(cI, .int), (cL, .long)]) (va_Qi (fun rZ (_ : Unit) => rZ = 1) (wrB D sz (wLh ad cI cd te ri pi pw K Dn mv ko so tl lp lb ld le C cl dq dy cL ou) (wLh ad cI cd te ri pi pw K Dn mv ko so tl lp lb ld le C cl dq dy cL ou)) (va_A (wLh ad cI cd te ri pi pw K Dn mv ko so tl lp lb ld le C cl dq dy cL ou) sz)) 1 6 (va_A (wLh ad cI cd te ri pi pw K Dn mv ko so tl lp lb ld le C cl dq dy cL ou) sz) := by
  refine va_MetW (cc := cL_cut) (maxL := 4) (ret := (some .int)) (hh := [(0, 9, 12, 24), (0, 9, 15, 15)]) (by decide) rfl ?_
  intro p e s m args below meth c s₁ B hml hv
  obtain ⟨rfl, hsz, hP, hD0, hK, hX⟩ := hv
  have hx := B.exec
  have hb := B.bytes
  have hr := B.returns
  have hts := atoms_spec (ws := wsL_cut) B.pre
  have hown : s.vm.findClass RL = some m.cls := findClass_of_methodNamed B.named
  have hlocks := B.notSynchronized
  subst hsz
  have hD := hD0.self (sz := s.heap.size)
  generalize hAe : va_A (wLh ad cI cd te ri pi pw K Dn mv ko so tl lp lb ld le C cl dq dy cL ou) s.heap.size = A at hD ⊢
  have hA : ∀ q : Nat, s.heap.size ≤ q → A q := fun q h => by rw [← hAe]; exact Or.inr h
  have hl := lv_entry ([.ref (ad 14), .int x, .ref (ad 17)]) (n := 4) (Nat.le_of_ble_eq_true rfl)
  rw [lg_entry_eq]
  generalize (lg_sl ([.ref (ad 14), .int x, .ref (ad 17)]) ++ List.replicate (4 - (lg_sl ([.ref (ad 14), .int x, .ref (ad 17)])).length) Slot.unset).toArray = ls at hl ⊢
  have hl : lv_has ls 4 [(0, .ref (ad 14)), (1, .int x), (2, .ref (ad 17))] := hl
  refine W.genH (fun H locs eH eL => ?_)
  have hS : va_S A s.heap H locs := by rw [eH, eL]; exact va_S.rf
  have hP : va_P D vwCl (wLh ad cI cd te ri pi pw K Dn mv ko so tl lp lb ld le C cl dq dy cL ou) H := by rw [eH]; exact hP
  have hX : kcX (fun q => H.size ≤ q) s H := by rw [eH]; exact hX
  have htb := vx_table (x := yL_cut) B (hts _ List.mem_cons_self)
  clear eH eL
  refine lv_aload_n hx hb dL_cut_0 rfl (lv_at hl 2 rfl) ?_
  refine lv_iconst (v := 0) hx hb dL_cut_1 (by decide) ?_
  refine lv_aload_n hx hb dL_cut_2 rfl (lv_at hl 0 rfl) ?_
  refine lv_iload_n hx hb dL_cut_3 rfl (lv_at hl 1 rfl) ?_
  refine kc_xV (E := "java/lang/IndexOutOfBoundsException") (As := [.int x]) (rest := [.int 0, .ref (ad 17)]) ⟨hx, hb, hml, hown, hts⟩ (c_X2_cut_f1 l hlf D ad cI cd te ri pi pw K Dn mv ko so tl lp lb ld le C cl dq dy x H.size hBad) (cwV 1 hts gL_cut_X2_cut rfl rfl rfl (by decide +kernel) ⟨Nat.le_of_ble_eq_true rfl, Nat.le_of_ble_eq_true rfl⟩) hK hP hX [0, 1, 2, 3, 4, 5, 6, 7, 8, 9, 10, 11, 12, 13, 14, 15, 16] [0] rfl rfl 14 rfl rfl rfl rfl hl.1 rfl (Nat.le_of_ble_eq_true rfl) dL_cut_4 ⟨Nat.le_of_ble_eq_true rfl, Nat.le_of_ble_eq_true rfl⟩ hS hA (fun ce q9 H1 locs1 hz hk9 hS1 hce hcv hcl => ?_)
  refine vx_catch (name := "java/lang/IndexOutOfBoundsException") hown [] ⟨0, 9, 12, 24⟩ [⟨0, 9, 15, 15⟩] (htb.trans rfl) (fun z hz => nomatch hz) (by decide) (by decide) (hts (.classLink RL 24 "java/lang/IndexOutOfBoundsException") (by decide +kernel)) (va_Nw.use rfl (hX.2.2.1 (.castable "java/lang/IndexOutOfBoundsException" "java/lang/IndexOutOfBoundsException") (by decide +kernel))) hce hcv hcl ?_
  have hP : va_P D vwCl (wLh ad cI cd te ri pi pw K Dn mv ko so tl lp lb ld le C cl dq dy cL ou) H1 := hP.kept (fun k q h => hk9 q.1 ((hP k q h).lt))
  generalize H1 = H at hP hS1 ⊢
  generalize locs1 = locs at hS1 ⊢
  have hS := hS1
  clear hX
  refine lv_astore_n (lv' := [(3, .ref q9), (0, .ref (ad 14)), (1, .int x), (2, .ref (ad 17))]) hx hb dL_cut_12 rfl hl (by decide) rfl (fun ls hl => ?_)
  refine lv_iconst (v := 1) hx hb dL_cut_13 (by decide) ?_
  exact W.iret (v := 1) hx hb hr (fun tZ htZ hWZ => ⟨⟨_, (), rfl, rfl, by rw [htZ]; exact hP, by rw [hAe]; exact hD⟩, hS.F htZ⟩) hS.2.2 dL_cut_14
set_option maxHeartbeats 4000000 in
set_option maxRecDepth 100000 in
theorem c_L_giveBack_f1 (l : Launch) (hlf : l.stackTraces = false) (D : va_G) (ad : Nat → Nat) (cI : ClassId) (cd : Nat → Int32) (te : Nat → Int32) (ri : Nat → Int32) (pi : Nat → Int32) (pw : Nat → Int32) (K : Nat) (Dn : Nat) (mv : Int32) (ko : Nat → Int32) (so : Nat → Int32) (tl : Nat → Int32) (lp : Nat → Int32) (lb : Nat → Int32) (ld : Nat → Int32) (le : Nat → Int32) (C : Nat) (cl : Nat → Int32) (dq : Nat → Int32) (dy : Int32) (cL : ClassId) (ou : Nat → Int64) (x : Int32) (sz : Nat) (hBad : ¬ jIn C x = true) : Met l yL_giveBack wsL_giveBack ({ frames := 8, cells := 1, slots := 6, locals := 133 } : Room) (hxP [.ref (ad 14), .int x, .ref (ad 17)] D sz (wLh ad cI cd te ri pi pw K Dn mv ko so tl lp lb ld le C cl dq dy cL ou) [(cI, .int), (cL, .long)]) (va_Qi (fun rZ (_ : Unit) => rZ = 1) (wrB D sz (wLh ad cI cd te ri pi pw K Dn mv ko so tl lp lb ld le C cl dq dy cL ou) (wLh ad cI cd te ri pi pw K Dn mv ko so tl lp lb ld le C cl dq dy cL ou)) (va_A (wLh ad cI cd te ri pi pw K Dn mv ko so tl lp lb ld le C cl dq dy cL ou) sz)) 1 6 (va_A (wLh ad cI cd te ri pi pw K Dn mv ko so tl lp lb ld le C cl dq dy cL ou) sz) := by
  refine va_MetW (cc := cL_giveBack) (maxL := 4) (ret := (some .int)) (hh := [(0, 9, 12, 24), (0, 9, 15, 15)]) (by decide) rfl ?_
  intro p e s m args below meth c s₁ B hml hv
  obtain ⟨rfl, hsz, hP, hD0, hK, hX⟩ := hv
  have hx := B.exec
  have hb := B.bytes
  have hr := B.returns
  have hts := atoms_spec (ws := wsL_giveBack) B.pre
  have hown : s.vm.findClass RL = some m.cls := findClass_of_methodNamed B.named
  have hlocks := B.notSynchronized
  subst hsz
  have hD := hD0.self (sz := s.heap.size)
  generalize hAe : va_A (wLh ad cI cd te ri pi pw K Dn mv ko so tl lp lb ld le C cl dq dy cL ou) s.heap.size = A at hD ⊢
  have hA : ∀ q : Nat, s.heap.size ≤ q → A q := fun q h => by rw [← hAe]; exact Or.inr h
  have hl := lv_entry ([.ref (ad 14), .int x, .ref (ad 17)]) (n := 4) (Nat.le_of_ble_eq_true rfl)
  rw [lg_entry_eq]
  generalize (lg_sl ([.ref (ad 14), .int x, .ref (ad 17)]) ++ List.replicate (4 - (lg_sl ([.ref (ad 14), .int x, .ref (ad 17)])).length) Slot.unset).toArray = ls at hl ⊢
  have hl : lv_has ls 4 [(0, .ref (ad 14)), (1, .int x), (2, .ref (ad 17))] := hl
  refine W.genH (fun H locs eH eL => ?_)
  have hS : va_S A s.heap H locs := by rw [eH, eL]; exact va_S.rf
  have hP : va_P D vwCl (wLh ad cI cd te ri pi pw K Dn mv ko so tl lp lb ld le C cl dq dy cL ou) H := by rw [eH]; exact hP
  have hX : kcX (fun q => H.size ≤ q) s H := by rw [eH]; exact hX
  have htb := vx_table (x := yL_giveBack) B (hts _ List.mem_cons_self)
  clear eH eL
  refine lv_aload_n hx hb dL_giveBack_0 rfl (lv_at hl 2 rfl) ?_
  refine lv_iconst (v := 0) hx hb dL_giveBack_1 (by decide) ?_
  refine lv_aload_n hx hb dL_giveBack_2 rfl (lv_at hl 0 rfl) ?_
  refine lv_iload_n hx hb dL_giveBack_3 rfl (lv_at hl 1 rfl) ?_
  refine kc_xV (E := "java/lang/IndexOutOfBoundsException") (As := [.int x]) (rest := [.int 0, .ref (ad 17)]) ⟨hx, hb, hml, hown, hts⟩ (c_X2_giveBack_f1 l hlf D ad cI cd te ri pi pw K Dn mv ko so tl lp lb ld le C cl dq dy x H.size hBad) (cwV 1 hts gL_giveBack_X2_giveBack rfl rfl rfl (by decide +kernel) ⟨Nat.le_of_ble_eq_true rfl, Nat.le_of_ble_eq_true rfl⟩) hK hP hX [0, 1, 2, 3, 4, 5, 6, 7, 8, 9, 10, 11, 12, 13, 14, 15, 16] [0] rfl rfl 14 rfl rfl rfl rfl hl.1 rfl (Nat.le_of_ble_eq_true rfl) dL_giveBack_4 ⟨Nat.le_of_ble_eq_true rfl, Nat.le_of_ble_eq_true rfl⟩ hS hA (fun ce q9 H1 locs1 hz hk9 hS1 hce hcv hcl => ?_)
  refine vx_catch (name := "java/lang/IndexOutOfBoundsException") hown [] ⟨0, 9, 12, 24⟩ [⟨0, 9, 15, 15⟩] (htb.trans rfl) (fun z hz => nomatch hz) (by decide) (by decide) (hts (.classLink RL 24 "java/lang/IndexOutOfBoundsException") (by decide +kernel)) (va_Nw.use rfl (hX.2.2.1 (.castable "java/lang/IndexOutOfBoundsException" "java/lang/IndexOutOfBoundsException") (by decide +kernel))) hce hcv hcl ?_
  have hP : va_P D vwCl (wLh ad cI cd te ri pi pw K Dn mv ko so tl lp lb ld le C cl dq dy cL ou) H1 := hP.kept (fun k q h => hk9 q.1 ((hP k q h).lt))
  generalize H1 = H at hP hS1 ⊢
  generalize locs1 = locs at hS1 ⊢
  have hS := hS1
  clear hX
  refine lv_astore_n (lv' := [(3, .ref q9), (0, .ref (ad 14)), (1, .int x), (2, .ref (ad 17))]) hx hb dL_giveBack_12 rfl hl (by decide) rfl (fun ls hl => ?_)
  refine lv_iconst (v := 1) hx hb dL_giveBack_13 (by decide) ?_
  exact W.iret (v := 1) hx hb hr (fun tZ htZ hWZ => ⟨⟨_, (), rfl, rfl, by rw [htZ]; exact hP, by rw [hAe]; exact hD⟩, hS.F htZ⟩) hS.2.2 dL_giveBack_14
set_option maxHeartbeats 4000000 in
set_option maxRecDepth 100000 in
theorem c_L_lose_f1 (l : Launch) (hlf : l.stackTraces = false) (D : va_G) (ad : Nat → Nat) (cI : ClassId) (cd : Nat → Int32) (te : Nat → Int32) (ri : Nat → Int32) (pi : Nat → Int32) (pw : Nat → Int32) (K : Nat) (Dn : Nat) (mv : Int32) (ko : Nat → Int32) (so : Nat → Int32) (tl : Nat → Int32) (lp : Nat → Int32) (lb : Nat → Int32) (ld : Nat → Int32) (le : Nat → Int32) (C : Nat) (cl : Nat → Int32) (dq : Nat → Int32) (dy : Int32) (cL : ClassId) (ou : Nat → Int64) (x : Int32) (sz : Nat) (hBad : ¬ jIn C x = true) : Met l yL_lose wsL_lose ({ frames := 8, cells := 1, slots := 6, locals := 133 } : Room) (hxP [.ref (ad 14), .int x, .ref (ad 17)] D sz (wLh ad cI cd te ri pi pw K Dn mv ko so tl lp lb ld le C cl dq dy cL ou) [(cI, .int), (cL, .long)]) (va_Qi (fun rZ (_ : Unit) => rZ = 1) (wrB D sz (wLh ad cI cd te ri pi pw K Dn mv ko so tl lp lb ld le C cl dq dy cL ou) (wLh ad cI cd te ri pi pw K Dn mv ko so tl lp lb ld le C cl dq dy cL ou)) (va_A (wLh ad cI cd te ri pi pw K Dn mv ko so tl lp lb ld le C cl dq dy cL ou) sz)) 1 6 (va_A (wLh ad cI cd te ri pi pw K Dn mv ko so tl lp lb ld le C cl dq dy cL ou) sz) := by
  refine va_MetW (cc := cL_lose) (maxL := 4) (ret := (some .int)) (hh := [(0, 9, 12, 24), (0, 9, 15, 15)]) (by decide) rfl ?_
  intro p e s m args below meth c s₁ B hml hv
  obtain ⟨rfl, hsz, hP, hD0, hK, hX⟩ := hv
  have hx := B.exec
  have hb := B.bytes
  have hr := B.returns
  have hts := atoms_spec (ws := wsL_lose) B.pre
  have hown : s.vm.findClass RL = some m.cls := findClass_of_methodNamed B.named
  have hlocks := B.notSynchronized
  subst hsz
  have hD := hD0.self (sz := s.heap.size)
  generalize hAe : va_A (wLh ad cI cd te ri pi pw K Dn mv ko so tl lp lb ld le C cl dq dy cL ou) s.heap.size = A at hD ⊢
  have hA : ∀ q : Nat, s.heap.size ≤ q → A q := fun q h => by rw [← hAe]; exact Or.inr h
  have hl := lv_entry ([.ref (ad 14), .int x, .ref (ad 17)]) (n := 4) (Nat.le_of_ble_eq_true rfl)
  rw [lg_entry_eq]
  generalize (lg_sl ([.ref (ad 14), .int x, .ref (ad 17)]) ++ List.replicate (4 - (lg_sl ([.ref (ad 14), .int x, .ref (ad 17)])).length) Slot.unset).toArray = ls at hl ⊢
  have hl : lv_has ls 4 [(0, .ref (ad 14)), (1, .int x), (2, .ref (ad 17))] := hl
  refine W.genH (fun H locs eH eL => ?_)
  have hS : va_S A s.heap H locs := by rw [eH, eL]; exact va_S.rf
  have hP : va_P D vwCl (wLh ad cI cd te ri pi pw K Dn mv ko so tl lp lb ld le C cl dq dy cL ou) H := by rw [eH]; exact hP
  have hX : kcX (fun q => H.size ≤ q) s H := by rw [eH]; exact hX
  have htb := vx_table (x := yL_lose) B (hts _ List.mem_cons_self)
  clear eH eL
  refine lv_aload_n hx hb dL_lose_0 rfl (lv_at hl 2 rfl) ?_
  refine lv_iconst (v := 0) hx hb dL_lose_1 (by decide) ?_
  refine lv_aload_n hx hb dL_lose_2 rfl (lv_at hl 0 rfl) ?_
  refine lv_iload_n hx hb dL_lose_3 rfl (lv_at hl 1 rfl) ?_
  refine kc_xV (E := "java/lang/IndexOutOfBoundsException") (As := [.int x]) (rest := [.int 0, .ref (ad 17)]) ⟨hx, hb, hml, hown, hts⟩ (c_X2_lose_f1 l hlf D ad cI cd te ri pi pw K Dn mv ko so tl lp lb ld le C cl dq dy x H.size hBad) (cwV 1 hts gL_lose_X2_lose rfl rfl rfl (by decide +kernel) ⟨Nat.le_of_ble_eq_true rfl, Nat.le_of_ble_eq_true rfl⟩) hK hP hX [0, 1, 2, 3, 4, 5, 6, 7, 8, 9, 10, 11, 12, 13, 14, 15, 16] [0] rfl rfl 14 rfl rfl rfl rfl hl.1 rfl (Nat.le_of_ble_eq_true rfl) dL_lose_4 ⟨Nat.le_of_ble_eq_true rfl, Nat.le_of_ble_eq_true rfl⟩ hS hA (fun ce q9 H1 locs1 hz hk9 hS1 hce hcv hcl => ?_)
  refine vx_catch (name := "java/lang/IndexOutOfBoundsException") hown [] ⟨0, 9, 12, 24⟩ [⟨0, 9, 15, 15⟩] (htb.trans rfl) (fun z hz => nomatch hz) (by decide) (by decide) (hts (.classLink RL 24 "java/lang/IndexOutOfBoundsException") (by decide +kernel)) (va_Nw.use rfl (hX.2.2.1 (.castable "java/lang/IndexOutOfBoundsException" "java/lang/IndexOutOfBoundsException") (by decide +kernel))) hce hcv hcl ?_
  have hP : va_P D vwCl (wLh ad cI cd te ri pi pw K Dn mv ko so tl lp lb ld le C cl dq dy cL ou) H1 := hP.kept (fun k q h => hk9 q.1 ((hP k q h).lt))
  generalize H1 = H at hP hS1 ⊢
  generalize locs1 = locs at hS1 ⊢
  have hS := hS1
  clear hX
  refine lv_astore_n (lv' := [(3, .ref q9), (0, .ref (ad 14)), (1, .int x), (2, .ref (ad 17))]) hx hb dL_lose_12 rfl hl (by decide) rfl (fun ls hl => ?_)
  refine lv_iconst (v := 1) hx hb dL_lose_13 (by decide) ?_
  exact W.iret (v := 1) hx hb hr (fun tZ htZ hWZ => ⟨⟨_, (), rfl, rfl, by rw [htZ]; exact hP, by rw [hAe]; exact hD⟩, hS.F htZ⟩) hS.2.2 dL_lose_14
set_option maxHeartbeats 4000000 in
set_option maxRecDepth 100000 in
theorem c_L_find_f1 (l : Launch) (hlf : l.stackTraces = false) (D : va_G) (ad : Nat → Nat) (cI : ClassId) (cd : Nat → Int32) (te : Nat → Int32) (ri : Nat → Int32) (pi : Nat → Int32) (pw : Nat → Int32) (K : Nat) (Dn : Nat) (mv : Int32) (ko : Nat → Int32) (so : Nat → Int32) (tl : Nat → Int32) (lp : Nat → Int32) (lb : Nat → Int32) (ld : Nat → Int32) (le : Nat → Int32) (C : Nat) (cl : Nat → Int32) (dq : Nat → Int32) (dy : Int32) (cL : ClassId) (ou : Nat → Int64) (x : Int32) (sz : Nat) (hBad : ¬ jIn C x = true) : Met l yL_find wsL_find ({ frames := 8, cells := 1, slots := 6, locals := 132 } : Room) (hxP [.ref (ad 14), .int x, .ref (ad 17)] D sz (wLh ad cI cd te ri pi pw K Dn mv ko so tl lp lb ld le C cl dq dy cL ou) [(cI, .int), (cL, .long)]) (va_Qi (fun rZ (_ : Unit) => rZ = 1) (wrB D sz (wLh ad cI cd te ri pi pw K Dn mv ko so tl lp lb ld le C cl dq dy cL ou) (wLh ad cI cd te ri pi pw K Dn mv ko so tl lp lb ld le C cl dq dy cL ou)) (va_A (wLh ad cI cd te ri pi pw K Dn mv ko so tl lp lb ld le C cl dq dy cL ou) sz)) 1 6 (va_A (wLh ad cI cd te ri pi pw K Dn mv ko so tl lp lb ld le C cl dq dy cL ou) sz) := by
  refine va_MetW (cc := cL_find) (maxL := 4) (ret := (some .int)) (hh := [(0, 9, 12, 24), (0, 9, 15, 15)]) (by decide) rfl ?_
  intro p e s m args below meth c s₁ B hml hv
  obtain ⟨rfl, hsz, hP, hD0, hK, hX⟩ := hv
  have hx := B.exec
  have hb := B.bytes
  have hr := B.returns
  have hts := atoms_spec (ws := wsL_find) B.pre
  have hown : s.vm.findClass RL = some m.cls := findClass_of_methodNamed B.named
  have hlocks := B.notSynchronized
  subst hsz
  have hD := hD0.self (sz := s.heap.size)
  generalize hAe : va_A (wLh ad cI cd te ri pi pw K Dn mv ko so tl lp lb ld le C cl dq dy cL ou) s.heap.size = A at hD ⊢
  have hA : ∀ q : Nat, s.heap.size ≤ q → A q := fun q h => by rw [← hAe]; exact Or.inr h
  have hl := lv_entry ([.ref (ad 14), .int x, .ref (ad 17)]) (n := 4) (Nat.le_of_ble_eq_true rfl)
  rw [lg_entry_eq]
  generalize (lg_sl ([.ref (ad 14), .int x, .ref (ad 17)]) ++ List.replicate (4 - (lg_sl ([.ref (ad 14), .int x, .ref (ad 17)])).length) Slot.unset).toArray = ls at hl ⊢
  have hl : lv_has ls 4 [(0, .ref (ad 14)), (1, .int x), (2, .ref (ad 17))] := hl
  refine W.genH (fun H locs eH eL => ?_)
  have hS : va_S A s.heap H locs := by rw [eH, eL]; exact va_S.rf
  have hP : va_P D vwCl (wLh ad cI cd te ri pi pw K Dn mv ko so tl lp lb ld le C cl dq dy cL ou) H := by rw [eH]; exact hP
  have hX : kcX (fun q => H.size ≤ q) s H := by rw [eH]; exact hX
  have htb := vx_table (x := yL_find) B (hts _ List.mem_cons_self)
  clear eH eL
  refine lv_aload_n hx hb dL_find_0 rfl (lv_at hl 2 rfl) ?_
  refine lv_iconst (v := 0) hx hb dL_find_1 (by decide) ?_
  refine lv_aload_n hx hb dL_find_2 rfl (lv_at hl 0 rfl) ?_
  refine lv_iload_n hx hb dL_find_3 rfl (lv_at hl 1 rfl) ?_
  refine kc_xV (E := "java/lang/IndexOutOfBoundsException") (As := [.int x]) (rest := [.int 0, .ref (ad 17)]) ⟨hx, hb, hml, hown, hts⟩ (c_X2_find_f1 l hlf D ad cI cd te ri pi pw K Dn mv ko so tl lp lb ld le C cl dq dy x H.size hBad) (cwV 1 hts gL_find_X2_find rfl rfl rfl (by decide +kernel) ⟨Nat.le_of_ble_eq_true rfl, Nat.le_of_ble_eq_true rfl⟩) hK hP hX [0, 1, 2, 3, 4, 5, 6, 7, 8, 9, 10, 11, 12, 13, 14, 15, 16] [0] rfl rfl 14 rfl rfl rfl rfl hl.1 rfl (Nat.le_of_ble_eq_true rfl) dL_find_4 ⟨Nat.le_of_ble_eq_true rfl, Nat.le_of_ble_eq_true rfl⟩ hS hA (fun ce q9 H1 locs1 hz hk9 hS1 hce hcv hcl => ?_)
  refine vx_catch (name := "java/lang/IndexOutOfBoundsException") hown [] ⟨0, 9, 12, 24⟩ [⟨0, 9, 15, 15⟩] (htb.trans rfl) (fun z hz => nomatch hz) (by decide) (by decide) (hts (.classLink RL 24 "java/lang/IndexOutOfBoundsException") (by decide +kernel)) (va_Nw.use rfl (hX.2.2.1 (.castable "java/lang/IndexOutOfBoundsException" "java/lang/IndexOutOfBoundsException") (by decide +kernel))) hce hcv hcl ?_
  have hP : va_P D vwCl (wLh ad cI cd te ri pi pw K Dn mv ko so tl lp lb ld le C cl dq dy cL ou) H1 := hP.kept (fun k q h => hk9 q.1 ((hP k q h).lt))
  generalize H1 = H at hP hS1 ⊢
  generalize locs1 = locs at hS1 ⊢
  have hS := hS1
  clear hX
  refine lv_astore_n (lv' := [(3, .ref q9), (0, .ref (ad 14)), (1, .int x), (2, .ref (ad 17))]) hx hb dL_find_12 rfl hl (by decide) rfl (fun ls hl => ?_)
  refine lv_iconst (v := 1) hx hb dL_find_13 (by decide) ?_
  exact W.iret (v := 1) hx hb hr (fun tZ htZ hWZ => ⟨⟨_, (), rfl, rfl, by rw [htZ]; exact hP, by rw [hAe]; exact hD⟩, hS.F htZ⟩) hS.2.2 dL_find_14
set_option maxHeartbeats 4000000 in
set_option maxRecDepth 100000 in
theorem c_L_setRights_f1 (l : Launch) (hlf : l.stackTraces = false) (D : va_G) (ad : Nat → Nat) (cI : ClassId) (cd : Nat → Int32) (te : Nat → Int32) (ri : Nat → Int32) (pi : Nat → Int32) (pw : Nat → Int32) (K : Nat) (Dn : Nat) (mv : Int32) (ko : Nat → Int32) (so : Nat → Int32) (tl : Nat → Int32) (lp : Nat → Int32) (lb : Nat → Int32) (ld : Nat → Int32) (le : Nat → Int32) (C : Nat) (cl : Nat → Int32) (dq : Nat → Int32) (dy : Int32) (cL : ClassId) (ou : Nat → Int64) (x : Int32) (r : Int32) (sz : Nat) (hBad : ¬ jIn Dn x = true) : Met l yL_setRights wsL_setRights ({ frames := 8, cells := 1, slots := 6, locals := 134 } : Room) (hxP [.ref (ad 14), .int x, .int r, .ref (ad 17)] D sz (wLh ad cI cd te ri pi pw K Dn mv ko so tl lp lb ld le C cl dq dy cL ou) [(cI, .int), (cL, .long)]) (va_Qi (fun rZ (_ : Unit) => rZ = 1) (wrB D sz (wLh ad cI cd te ri pi pw K Dn mv ko so tl lp lb ld le C cl dq dy cL ou) (wLh ad cI cd te ri pi pw K Dn mv ko so tl lp lb ld le C cl dq dy cL ou)) (va_A (wLh ad cI cd te ri pi pw K Dn mv ko so tl lp lb ld le C cl dq dy cL ou) sz)) 1 6 (va_A (wLh ad cI cd te ri pi pw K Dn mv ko so tl lp lb ld le C cl dq dy cL ou) sz) := by
  refine va_MetW (cc := cL_setRights) (maxL := 5) (ret := (some .int)) (hh := [(0, 10, 13, 24), (0, 10, 17, 13)]) (by decide) rfl ?_
  intro p e s m args below meth c s₁ B hml hv
  obtain ⟨rfl, hsz, hP, hD0, hK, hX⟩ := hv
  have hx := B.exec
  have hb := B.bytes
  have hr := B.returns
  have hts := atoms_spec (ws := wsL_setRights) B.pre
  have hown : s.vm.findClass RL = some m.cls := findClass_of_methodNamed B.named
  have hlocks := B.notSynchronized
  subst hsz
  have hD := hD0.self (sz := s.heap.size)
  generalize hAe : va_A (wLh ad cI cd te ri pi pw K Dn mv ko so tl lp lb ld le C cl dq dy cL ou) s.heap.size = A at hD ⊢
  have hA : ∀ q : Nat, s.heap.size ≤ q → A q := fun q h => by rw [← hAe]; exact Or.inr h
  have hl := lv_entry ([.ref (ad 14), .int x, .int r, .ref (ad 17)]) (n := 5) (Nat.le_of_ble_eq_true rfl)
  rw [lg_entry_eq]
  generalize (lg_sl ([.ref (ad 14), .int x, .int r, .ref (ad 17)]) ++ List.replicate (5 - (lg_sl ([.ref (ad 14), .int x, .int r, .ref (ad 17)])).length) Slot.unset).toArray = ls at hl ⊢
  have hl : lv_has ls 5 [(0, .ref (ad 14)), (1, .int x), (2, .int r), (3, .ref (ad 17))] := hl
  refine W.genH (fun H locs eH eL => ?_)
  have hS : va_S A s.heap H locs := by rw [eH, eL]; exact va_S.rf
  have hP : va_P D vwCl (wLh ad cI cd te ri pi pw K Dn mv ko so tl lp lb ld le C cl dq dy cL ou) H := by rw [eH]; exact hP
  have hX : kcX (fun q => H.size ≤ q) s H := by rw [eH]; exact hX
  have htb := vx_table (x := yL_setRights) B (hts _ List.mem_cons_self)
  clear eH eL
  refine lv_aload_n hx hb dL_setRights_0 rfl (lv_at hl 3 rfl) ?_
  refine lv_iconst (v := 0) hx hb dL_setRights_1 (by decide) ?_
  refine lv_aload_n hx hb dL_setRights_2 rfl (lv_at hl 0 rfl) ?_
  refine lv_iload_n hx hb dL_setRights_3 rfl (lv_at hl 1 rfl) ?_
  refine lv_iload_n hx hb dL_setRights_4 rfl (lv_at hl 2 rfl) ?_
  refine kc_xV (E := "java/lang/IndexOutOfBoundsException") (As := [.int x, .int r]) (rest := [.int 0, .ref (ad 17)]) ⟨hx, hb, hml, hown, hts⟩ (c_X2_setRights_f1 l hlf D ad cI cd te ri pi pw K Dn mv ko so tl lp lb ld le C cl dq dy x r H.size hBad) (cwV 2 hts gL_setRights_X2_setRights rfl rfl rfl (by decide +kernel) ⟨Nat.le_of_ble_eq_true rfl, Nat.le_of_ble_eq_true rfl⟩) hK hP hX [0, 1, 2, 3, 4, 5, 6, 7, 8, 9, 10, 11, 12, 13, 14, 15, 16] [0] rfl rfl 14 rfl rfl rfl rfl hl.1 rfl (Nat.le_of_ble_eq_true rfl) dL_setRights_5 ⟨Nat.le_of_ble_eq_true rfl, Nat.le_of_ble_eq_true rfl⟩ hS hA (fun ce q9 H1 locs1 hz hk9 hS1 hce hcv hcl => ?_)
  refine vx_catch (name := "java/lang/IndexOutOfBoundsException") hown [] ⟨0, 10, 13, 24⟩ [⟨0, 10, 17, 13⟩] (htb.trans rfl) (fun z hz => nomatch hz) (by decide) (by decide) (hts (.classLink RL 24 "java/lang/IndexOutOfBoundsException") (by decide +kernel)) (va_Nw.use rfl (hX.2.2.1 (.castable "java/lang/IndexOutOfBoundsException" "java/lang/IndexOutOfBoundsException") (by decide +kernel))) hce hcv hcl ?_
  have hP : va_P D vwCl (wLh ad cI cd te ri pi pw K Dn mv ko so tl lp lb ld le C cl dq dy cL ou) H1 := hP.kept (fun k q h => hk9 q.1 ((hP k q h).lt))
  generalize H1 = H at hP hS1 ⊢
  generalize locs1 = locs at hS1 ⊢
  have hS := hS1
  clear hX
  refine lv_astore (lv' := [(4, .ref q9), (0, .ref (ad 14)), (1, .int x), (2, .int r), (3, .ref (ad 17))]) hx hb dL_setRights_13 hl (by decide) rfl (fun ls hl => ?_)
  refine lv_iconst (v := 1) hx hb dL_setRights_15 (by decide) ?_
  exact W.iret (v := 1) hx hb hr (fun tZ htZ hWZ => ⟨⟨_, (), rfl, rfl, by rw [htZ]; exact hP, by rw [hAe]; exact hD⟩, hS.F htZ⟩) hS.2.2 dL_setRights_16
set_option maxHeartbeats 4000000 in
set_option maxRecDepth 100000 in
theorem c_L_setRights_f2 (l : Launch) (hlf : l.stackTraces = false) (D : va_G) (ad : Nat → Nat) (cI : ClassId) (cd : Nat → Int32) (te : Nat → Int32) (ri : Nat → Int32) (pi : Nat → Int32) (pw : Nat → Int32) (K : Nat) (Dn : Nat) (mv : Int32) (ko : Nat → Int32) (so : Nat → Int32) (tl : Nat → Int32) (lp : Nat → Int32) (lb : Nat → Int32) (ld : Nat → Int32) (le : Nat → Int32) (C : Nat) (cl : Nat → Int32) (dq : Nat → Int32) (dy : Int32) (cL : ClassId) (ou : Nat → Int64) (d : Nat) (r : Int32) (sz : Nat) (hD8 : Dn ≤ 8) (hd : d < Dn) (hBad : ¬ jSetOf K r = true) : Met l yL_setRights wsL_setRights ({ frames := 8, cells := 1, slots := 6, locals := 134 } : Room) (hxP [.ref (ad 14), .int (nI d), .int r, .ref (ad 17)] D sz (wLh ad cI cd te ri pi pw K Dn mv ko so tl lp lb ld le C cl dq dy cL ou) [(cI, .int), (cL, .long)]) (va_Qi (fun rZ (_ : Unit) => rZ = 2) (wrB D sz (wLh ad cI cd te ri pi pw K Dn mv ko so tl lp lb ld le C cl dq dy cL ou) (wLh ad cI cd te ri pi pw K Dn mv ko so tl lp lb ld le C cl dq dy cL ou)) (va_A (wLh ad cI cd te ri pi pw K Dn mv ko so tl lp lb ld le C cl dq dy cL ou) sz)) 1 6 (va_A (wLh ad cI cd te ri pi pw K Dn mv ko so tl lp lb ld le C cl dq dy cL ou) sz) := by
  refine va_MetW (cc := cL_setRights) (maxL := 5) (ret := (some .int)) (hh := [(0, 10, 13, 24), (0, 10, 17, 13)]) (by decide) rfl ?_
  intro p e s m args below meth c s₁ B hml hv
  obtain ⟨rfl, hsz, hP, hD0, hK, hX⟩ := hv
  have hx := B.exec
  have hb := B.bytes
  have hr := B.returns
  have hts := atoms_spec (ws := wsL_setRights) B.pre
  have hown : s.vm.findClass RL = some m.cls := findClass_of_methodNamed B.named
  have hlocks := B.notSynchronized
  subst hsz
  have hD := hD0.self (sz := s.heap.size)
  generalize hAe : va_A (wLh ad cI cd te ri pi pw K Dn mv ko so tl lp lb ld le C cl dq dy cL ou) s.heap.size = A at hD ⊢
  have hA : ∀ q : Nat, s.heap.size ≤ q → A q := fun q h => by rw [← hAe]; exact Or.inr h
  have hl := lv_entry ([.ref (ad 14), .int (nI d), .int r, .ref (ad 17)]) (n := 5) (Nat.le_of_ble_eq_true rfl)
  rw [lg_entry_eq]
  generalize (lg_sl ([.ref (ad 14), .int (nI d), .int r, .ref (ad 17)]) ++ List.replicate (5 - (lg_sl ([.ref (ad 14), .int (nI d), .int r, .ref (ad 17)])).length) Slot.unset).toArray = ls at hl ⊢
  have hl : lv_has ls 5 [(0, .ref (ad 14)), (1, .int (nI d)), (2, .int r), (3, .ref (ad 17))] := hl
  refine W.genH (fun H locs eH eL => ?_)
  have hS : va_S A s.heap H locs := by rw [eH, eL]; exact va_S.rf
  have hP : va_P D vwCl (wLh ad cI cd te ri pi pw K Dn mv ko so tl lp lb ld le C cl dq dy cL ou) H := by rw [eH]; exact hP
  have hX : kcX (fun q => H.size ≤ q) s H := by rw [eH]; exact hX
  have htb := vx_table (x := yL_setRights) B (hts _ List.mem_cons_self)
  clear eH eL
  refine lv_aload_n hx hb dL_setRights_0 rfl (lv_at hl 3 rfl) ?_
  refine lv_iconst (v := 0) hx hb dL_setRights_1 (by decide) ?_
  refine lv_aload_n hx hb dL_setRights_2 rfl (lv_at hl 0 rfl) ?_
  refine lv_iload_n hx hb dL_setRights_3 rfl (lv_at hl 1 rfl) ?_
  refine lv_iload_n hx hb dL_setRights_4 rfl (lv_at hl 2 rfl) ?_
  refine kc_xV (E := "java/lang/IllegalArgumentException") (As := [.int (nI d), .int r]) (rest := [.int 0, .ref (ad 17)]) ⟨hx, hb, hml, hown, hts⟩ (c_X2_setRights_f2 l hlf D ad cI cd te ri pi pw K Dn mv ko so tl lp lb ld le C cl dq dy d r H.size hD8 hd hBad) (cwV 2 hts gL_setRights_X2_setRights rfl rfl rfl (by decide +kernel) ⟨Nat.le_of_ble_eq_true rfl, Nat.le_of_ble_eq_true rfl⟩) hK hP hX [0, 1, 2, 3, 4, 5, 6, 7, 8, 9, 10, 11, 12, 13, 14, 15, 16] [0] rfl rfl 14 rfl rfl rfl rfl hl.1 rfl (Nat.le_of_ble_eq_true rfl) dL_setRights_5 ⟨Nat.le_of_ble_eq_true rfl, Nat.le_of_ble_eq_true rfl⟩ hS hA (fun ce q9 H1 locs1 hz hk9 hS1 hce hcv hcl => ?_)
  refine vx_catch (name := "java/lang/IllegalArgumentException") hown [⟨0, 10, 13, 24⟩] ⟨0, 10, 17, 13⟩ [] (htb.trans rfl) (fun z hz => by cases List.mem_singleton.mp hz; exact Or.inr ⟨by decide, "java/lang/IndexOutOfBoundsException", hts (.classLink RL 24 "java/lang/IndexOutOfBoundsException") (by decide +kernel), hX.2.2.2.2 ("java/lang/IllegalArgumentException", "java/lang/IndexOutOfBoundsException") (by decide +kernel)⟩) (by decide) (by decide) (hts (.classLink RL 13 "java/lang/IllegalArgumentException") (by decide +kernel)) (va_Nw.use rfl (hX.2.2.1 (.castable "java/lang/IllegalArgumentException" "java/lang/IllegalArgumentException") (by decide +kernel))) hce hcv hcl ?_
  have hP : va_P D vwCl (wLh ad cI cd te ri pi pw K Dn mv ko so tl lp lb ld le C cl dq dy cL ou) H1 := hP.kept (fun k q h => hk9 q.1 ((hP k q h).lt))
  generalize H1 = H at hP hS1 ⊢
  generalize locs1 = locs at hS1 ⊢
  have hS := hS1
  clear hX
  refine lv_astore (lv' := [(4, .ref q9), (0, .ref (ad 14)), (1, .int (nI d)), (2, .int r), (3, .ref (ad 17))]) hx hb dL_setRights_17 hl (by decide) rfl (fun ls hl => ?_)
  refine lv_iconst (v := 2) hx hb dL_setRights_19 (by decide) ?_
  exact W.iret (v := 2) hx hb hr (fun tZ htZ hWZ => ⟨⟨_, (), rfl, rfl, by rw [htZ]; exact hP, by rw [hAe]; exact hD⟩, hS.F htZ⟩) hS.2.2 dL_setRights_20
set_option maxHeartbeats 4000000 in
set_option maxRecDepth 100000 in
theorem c_L_pins_f1 (l : Launch) (hlf : l.stackTraces = false) (D : va_G) (ad : Nat → Nat) (cI : ClassId) (cd : Nat → Int32) (te : Nat → Int32) (ri : Nat → Int32) (pi : Nat → Int32) (pw : Nat → Int32) (K : Nat) (Dn : Nat) (mv : Int32) (ko : Nat → Int32) (so : Nat → Int32) (tl : Nat → Int32) (lp : Nat → Int32) (lb : Nat → Int32) (ld : Nat → Int32) (le : Nat → Int32) (C : Nat) (cl : Nat → Int32) (dq : Nat → Int32) (dy : Int32) (cL : ClassId) (ou : Nat → Int64) (x : Int32) (po : Int32) (sz : Nat) (hBad : ¬ jIn Dn x = true) : Met l yL_pins wsL_pins ({ frames := 8, cells := 1, slots := 6, locals := 133 } : Room) (hxP [.ref (ad 14), .int x, .int po, .ref (ad 17)] D sz (wLh ad cI cd te ri pi pw K Dn mv ko so tl lp lb ld le C cl dq dy cL ou) [(cI, .int), (cL, .long)]) (va_Qi (fun rZ (_ : Unit) => rZ = 1) (wrB D sz (wLh ad cI cd te ri pi pw K Dn mv ko so tl lp lb ld le C cl dq dy cL ou) (wLh ad cI cd te ri pi pw K Dn mv ko so tl lp lb ld le C cl dq dy cL ou)) (va_A (wLh ad cI cd te ri pi pw K Dn mv ko so tl lp lb ld le C cl dq dy cL ou) sz)) 1 6 (va_A (wLh ad cI cd te ri pi pw K Dn mv ko so tl lp lb ld le C cl dq dy cL ou) sz) := by
  refine va_MetW (cc := cL_pins) (maxL := 5) (ret := (some .int)) (hh := [(0, 10, 13, 24)]) (by decide) rfl ?_
  intro p e s m args below meth c s₁ B hml hv
  obtain ⟨rfl, hsz, hP, hD0, hK, hX⟩ := hv
  have hx := B.exec
  have hb := B.bytes
  have hr := B.returns
  have hts := atoms_spec (ws := wsL_pins) B.pre
  have hown : s.vm.findClass RL = some m.cls := findClass_of_methodNamed B.named
  have hlocks := B.notSynchronized
  subst hsz
  have hD := hD0.self (sz := s.heap.size)
  generalize hAe : va_A (wLh ad cI cd te ri pi pw K Dn mv ko so tl lp lb ld le C cl dq dy cL ou) s.heap.size = A at hD ⊢
  have hA : ∀ q : Nat, s.heap.size ≤ q → A q := fun q h => by rw [← hAe]; exact Or.inr h
  have hl := lv_entry ([.ref (ad 14), .int x, .int po, .ref (ad 17)]) (n := 5) (Nat.le_of_ble_eq_true rfl)
  rw [lg_entry_eq]
  generalize (lg_sl ([.ref (ad 14), .int x, .int po, .ref (ad 17)]) ++ List.replicate (5 - (lg_sl ([.ref (ad 14), .int x, .int po, .ref (ad 17)])).length) Slot.unset).toArray = ls at hl ⊢
  have hl : lv_has ls 5 [(0, .ref (ad 14)), (1, .int x), (2, .int po), (3, .ref (ad 17))] := hl
  refine W.genH (fun H locs eH eL => ?_)
  have hS : va_S A s.heap H locs := by rw [eH, eL]; exact va_S.rf
  have hP : va_P D vwCl (wLh ad cI cd te ri pi pw K Dn mv ko so tl lp lb ld le C cl dq dy cL ou) H := by rw [eH]; exact hP
  have hX : kcX (fun q => H.size ≤ q) s H := by rw [eH]; exact hX
  have htb := vx_table (x := yL_pins) B (hts _ List.mem_cons_self)
  clear eH eL
  refine lv_aload_n hx hb dL_pins_0 rfl (lv_at hl 3 rfl) ?_
  refine lv_iconst (v := 0) hx hb dL_pins_1 (by decide) ?_
  refine lv_aload_n hx hb dL_pins_2 rfl (lv_at hl 0 rfl) ?_
  refine lv_iload_n hx hb dL_pins_3 rfl (lv_at hl 1 rfl) ?_
  refine lv_iload_n hx hb dL_pins_4 rfl (lv_at hl 2 rfl) ?_
  refine kc_xV (E := "java/lang/IndexOutOfBoundsException") (As := [.int x, .int po]) (rest := [.int 0, .ref (ad 17)]) ⟨hx, hb, hml, hown, hts⟩ (c_X2_pins_f1 l hlf D ad cI cd te ri pi pw K Dn mv ko so tl lp lb ld le C cl dq dy x po H.size hBad) (cwV 2 hts gL_pins_X2_pins rfl rfl rfl (by decide +kernel) ⟨Nat.le_of_ble_eq_true rfl, Nat.le_of_ble_eq_true rfl⟩) hK hP hX [0, 1, 2, 3, 4, 5, 6, 7, 8, 9, 10, 11, 12, 13, 14, 15, 16] [0] rfl rfl 14 rfl rfl rfl rfl hl.1 rfl (Nat.le_of_ble_eq_true rfl) dL_pins_5 ⟨Nat.le_of_ble_eq_true rfl, Nat.le_of_ble_eq_true rfl⟩ hS hA (fun ce q9 H1 locs1 hz hk9 hS1 hce hcv hcl => ?_)
  refine vx_catch (name := "java/lang/IndexOutOfBoundsException") hown [] ⟨0, 10, 13, 24⟩ [] (htb.trans rfl) (fun z hz => nomatch hz) (by decide) (by decide) (hts (.classLink RL 24 "java/lang/IndexOutOfBoundsException") (by decide +kernel)) (va_Nw.use rfl (hX.2.2.1 (.castable "java/lang/IndexOutOfBoundsException" "java/lang/IndexOutOfBoundsException") (by decide +kernel))) hce hcv hcl ?_
  have hP : va_P D vwCl (wLh ad cI cd te ri pi pw K Dn mv ko so tl lp lb ld le C cl dq dy cL ou) H1 := hP.kept (fun k q h => hk9 q.1 ((hP k q h).lt))
  generalize H1 = H at hP hS1 ⊢
  generalize locs1 = locs at hS1 ⊢
  have hS := hS1
  clear hX
  refine lv_astore (lv' := [(4, .ref q9), (0, .ref (ad 14)), (1, .int x), (2, .int po), (3, .ref (ad 17))]) hx hb dL_pins_13 hl (by decide) rfl (fun ls hl => ?_)
  refine lv_iconst (v := 1) hx hb dL_pins_15 (by decide) ?_
  exact W.iret (v := 1) hx hb hr (fun tZ htZ hWZ => ⟨⟨_, (), rfl, rfl, by rw [htZ]; exact hP, by rw [hAe]; exact hD⟩, hS.F htZ⟩) hS.2.2 dL_pins_16
set_option maxHeartbeats 4000000 in
set_option maxRecDepth 100000 in
theorem c_L_pins_f2 (l : Launch) (hlf : l.stackTraces = false) (D : va_G) (ad : Nat → Nat) (cI : ClassId) (cd : Nat → Int32) (te : Nat → Int32) (ri : Nat → Int32) (pi : Nat → Int32) (pw : Nat → Int32) (K : Nat) (Dn : Nat) (mv : Int32) (ko : Nat → Int32) (so : Nat → Int32) (tl : Nat → Int32) (lp : Nat → Int32) (lb : Nat → Int32) (ld : Nat → Int32) (le : Nat → Int32) (C : Nat) (cl : Nat → Int32) (dq : Nat → Int32) (dy : Int32) (cL : ClassId) (ou : Nat → Int64) (d : Nat) (po : Int32) (sz : Nat) (hD8 : Dn ≤ 8) (hd : d < Dn) (hBad : ¬ jIn 5 po = true) : Met l yL_pins wsL_pins ({ frames := 7, cells := 1, slots := 6, locals := 112 } : Room) (hxP [.ref (ad 14), .int (nI d), .int po, .ref (ad 17)] D sz (wLh ad cI cd te ri pi pw K Dn mv ko so tl lp lb ld le C cl dq dy cL ou) [(cI, .int), (cL, .long)]) (va_Qi (fun rZ (_ : Unit) => rZ = 1) (wrB D sz (wLh ad cI cd te ri pi pw K Dn mv ko so tl lp lb ld le C cl dq dy cL ou) (wLh ad cI cd te ri pi pw K Dn mv ko so tl lp lb ld le C cl dq dy cL ou)) (va_A (wLh ad cI cd te ri pi pw K Dn mv ko so tl lp lb ld le C cl dq dy cL ou) sz)) 1 6 (va_A (wLh ad cI cd te ri pi pw K Dn mv ko so tl lp lb ld le C cl dq dy cL ou) sz) := by
  refine va_MetW (cc := cL_pins) (maxL := 5) (ret := (some .int)) (hh := [(0, 10, 13, 24)]) (by decide) rfl ?_
  intro p e s m args below meth c s₁ B hml hv
  obtain ⟨rfl, hsz, hP, hD0, hK, hX⟩ := hv
  have hx := B.exec
  have hb := B.bytes
  have hr := B.returns
  have hts := atoms_spec (ws := wsL_pins) B.pre
  have hown : s.vm.findClass RL = some m.cls := findClass_of_methodNamed B.named
  have hlocks := B.notSynchronized
  subst hsz
  have hD := hD0.self (sz := s.heap.size)
  generalize hAe : va_A (wLh ad cI cd te ri pi pw K Dn mv ko so tl lp lb ld le C cl dq dy cL ou) s.heap.size = A at hD ⊢
  have hA : ∀ q : Nat, s.heap.size ≤ q → A q := fun q h => by rw [← hAe]; exact Or.inr h
  have hl := lv_entry ([.ref (ad 14), .int (nI d), .int po, .ref (ad 17)]) (n := 5) (Nat.le_of_ble_eq_true rfl)
  rw [lg_entry_eq]
  generalize (lg_sl ([.ref (ad 14), .int (nI d), .int po, .ref (ad 17)]) ++ List.replicate (5 - (lg_sl ([.ref (ad 14), .int (nI d), .int po, .ref (ad 17)])).length) Slot.unset).toArray = ls at hl ⊢
  have hl : lv_has ls 5 [(0, .ref (ad 14)), (1, .int (nI d)), (2, .int po), (3, .ref (ad 17))] := hl
  refine W.genH (fun H locs eH eL => ?_)
  have hS : va_S A s.heap H locs := by rw [eH, eL]; exact va_S.rf
  have hP : va_P D vwCl (wLh ad cI cd te ri pi pw K Dn mv ko so tl lp lb ld le C cl dq dy cL ou) H := by rw [eH]; exact hP
  have hX : kcX (fun q => H.size ≤ q) s H := by rw [eH]; exact hX
  have htb := vx_table (x := yL_pins) B (hts _ List.mem_cons_self)
  clear eH eL
  refine lv_aload_n hx hb dL_pins_0 rfl (lv_at hl 3 rfl) ?_
  refine lv_iconst (v := 0) hx hb dL_pins_1 (by decide) ?_
  refine lv_aload_n hx hb dL_pins_2 rfl (lv_at hl 0 rfl) ?_
  refine lv_iload_n hx hb dL_pins_3 rfl (lv_at hl 1 rfl) ?_
  refine lv_iload_n hx hb dL_pins_4 rfl (lv_at hl 2 rfl) ?_
  refine kc_xV (E := "java/lang/IndexOutOfBoundsException") (As := [.int (nI d), .int po]) (rest := [.int 0, .ref (ad 17)]) ⟨hx, hb, hml, hown, hts⟩ (c_X2_pins_f2 l hlf D ad cI cd te ri pi pw K Dn mv ko so tl lp lb ld le C cl dq dy d po H.size hD8 hd hBad) (cwV 2 hts gL_pins_X2_pins rfl rfl rfl (by decide +kernel) ⟨Nat.le_of_ble_eq_true rfl, Nat.le_of_ble_eq_true rfl⟩) hK hP hX [0, 1, 2, 3, 4, 5, 6, 7, 8, 9, 10, 11, 12, 13, 14, 15, 16] [0] rfl rfl 14 rfl rfl rfl rfl hl.1 rfl (Nat.le_of_ble_eq_true rfl) dL_pins_5 ⟨Nat.le_of_ble_eq_true rfl, Nat.le_of_ble_eq_true rfl⟩ hS hA (fun ce q9 H1 locs1 hz hk9 hS1 hce hcv hcl => ?_)
  refine vx_catch (name := "java/lang/IndexOutOfBoundsException") hown [] ⟨0, 10, 13, 24⟩ [] (htb.trans rfl) (fun z hz => nomatch hz) (by decide) (by decide) (hts (.classLink RL 24 "java/lang/IndexOutOfBoundsException") (by decide +kernel)) (va_Nw.use rfl (hX.2.2.1 (.castable "java/lang/IndexOutOfBoundsException" "java/lang/IndexOutOfBoundsException") (by decide +kernel))) hce hcv hcl ?_
  have hP : va_P D vwCl (wLh ad cI cd te ri pi pw K Dn mv ko so tl lp lb ld le C cl dq dy cL ou) H1 := hP.kept (fun k q h => hk9 q.1 ((hP k q h).lt))
  generalize H1 = H at hP hS1 ⊢
  generalize locs1 = locs at hS1 ⊢
  have hS := hS1
  clear hX
  refine lv_astore (lv' := [(4, .ref q9), (0, .ref (ad 14)), (1, .int (nI d)), (2, .int po), (3, .ref (ad 17))]) hx hb dL_pins_13 hl (by decide) rfl (fun ls hl => ?_)
  refine lv_iconst (v := 1) hx hb dL_pins_15 (by decide) ?_
  exact W.iret (v := 1) hx hb hr (fun tZ htZ hWZ => ⟨⟨_, (), rfl, rfl, by rw [htZ]; exact hP, by rw [hAe]; exact hD⟩, hS.F htZ⟩) hS.2.2 dL_pins_16
set_option maxHeartbeats 4000000 in
set_option maxRecDepth 100000 in
theorem c_L_opens_f1 (l : Launch) (hlf : l.stackTraces = false) (D : va_G) (ad : Nat → Nat) (cI : ClassId) (cd : Nat → Int32) (te : Nat → Int32) (ri : Nat → Int32) (pi : Nat → Int32) (pw : Nat → Int32) (K : Nat) (Dn : Nat) (mv : Int32) (ko : Nat → Int32) (so : Nat → Int32) (tl : Nat → Int32) (lp : Nat → Int32) (lb : Nat → Int32) (ld : Nat → Int32) (le : Nat → Int32) (C : Nat) (cl : Nat → Int32) (dq : Nat → Int32) (dy : Int32) (cL : ClassId) (ou : Nat → Int64) (x : Int32) (y : Int32) (sz : Nat) (hBad : ¬ jIn K x = true) : Met l yL_opens wsL_opens ({ frames := 8, cells := 1, slots := 6, locals := 133 } : Room) (hxP [.ref (ad 14), .int x, .int y, .ref (ad 17)] D sz (wLh ad cI cd te ri pi pw K Dn mv ko so tl lp lb ld le C cl dq dy cL ou) [(cI, .int), (cL, .long)]) (va_Qi (fun rZ (_ : Unit) => rZ = 1) (wrB D sz (wLh ad cI cd te ri pi pw K Dn mv ko so tl lp lb ld le C cl dq dy cL ou) (wLh ad cI cd te ri pi pw K Dn mv ko so tl lp lb ld le C cl dq dy cL ou)) (va_A (wLh ad cI cd te ri pi pw K Dn mv ko so tl lp lb ld le C cl dq dy cL ou) sz)) 1 6 (va_A (wLh ad cI cd te ri pi pw K Dn mv ko so tl lp lb ld le C cl dq dy cL ou) sz) := by
  refine va_MetW (cc := cL_opens) (maxL := 5) (ret := (some .int)) (hh := [(0, 17, 20, 24)]) (by decide) rfl ?_
  intro p e s m args below meth c s₁ B hml hv
  obtain ⟨rfl, hsz, hP, hD0, hK, hX⟩ := hv
  have hx := B.exec
  have hb := B.bytes
  have hr := B.returns
  have hts := atoms_spec (ws := wsL_opens) B.pre
  have hown : s.vm.findClass RL = some m.cls := findClass_of_methodNamed B.named
  have hlocks := B.notSynchronized
  subst hsz
  have hD := hD0.self (sz := s.heap.size)
  generalize hAe : va_A (wLh ad cI cd te ri pi pw K Dn mv ko so tl lp lb ld le C cl dq dy cL ou) s.heap.size = A at hD ⊢
  have hA : ∀ q : Nat, s.heap.size ≤ q → A q := fun q h => by rw [← hAe]; exact Or.inr h
  have hl := lv_entry ([.ref (ad 14), .int x, .int y, .ref (ad 17)]) (n := 5) (Nat.le_of_ble_eq_true rfl)
  rw [lg_entry_eq]
  generalize (lg_sl ([.ref (ad 14), .int x, .int y, .ref (ad 17)]) ++ List.replicate (5 - (lg_sl ([.ref (ad 14), .int x, .int y, .ref (ad 17)])).length) Slot.unset).toArray = ls at hl ⊢
  have hl : lv_has ls 5 [(0, .ref (ad 14)), (1, .int x), (2, .int y), (3, .ref (ad 17))] := hl
  refine W.genH (fun H locs eH eL => ?_)
  have hS : va_S A s.heap H locs := by rw [eH, eL]; exact va_S.rf
  have hP : va_P D vwCl (wLh ad cI cd te ri pi pw K Dn mv ko so tl lp lb ld le C cl dq dy cL ou) H := by rw [eH]; exact hP
  have hX : kcX (fun q => H.size ≤ q) s H := by rw [eH]; exact hX
  have htb := vx_table (x := yL_opens) B (hts _ List.mem_cons_self)
  clear eH eL
  refine lv_aload_n hx hb dL_opens_0 rfl (lv_at hl 3 rfl) ?_
  refine lv_iconst (v := 0) hx hb dL_opens_1 (by decide) ?_
  refine lv_aload_n hx hb dL_opens_2 rfl (lv_at hl 0 rfl) ?_
  refine lv_iload_n hx hb dL_opens_3 rfl (lv_at hl 1 rfl) ?_
  refine lv_iload_n hx hb dL_opens_4 rfl (lv_at hl 2 rfl) ?_
  refine kc_xV (E := "java/lang/IndexOutOfBoundsException") (As := [.int x, .int y]) (rest := [.int 0, .ref (ad 17)]) ⟨hx, hb, hml, hown, hts⟩ (c_X2_opens_f1 l hlf D ad cI cd te ri pi pw K Dn mv ko so tl lp lb ld le C cl dq dy x y H.size hBad) (cwV 2 hts gL_opens_X2_opens rfl rfl rfl (by decide +kernel) ⟨Nat.le_of_ble_eq_true rfl, Nat.le_of_ble_eq_true rfl⟩) hK hP hX [0, 1, 2, 3, 4, 5, 6, 7, 8, 9, 10, 11, 12, 13, 14, 15, 16] [0] rfl rfl 14 rfl rfl rfl rfl hl.1 rfl (Nat.le_of_ble_eq_true rfl) dL_opens_5 ⟨Nat.le_of_ble_eq_true rfl, Nat.le_of_ble_eq_true rfl⟩ hS hA (fun ce q9 H1 locs1 hz hk9 hS1 hce hcv hcl => ?_)
  refine vx_catch (name := "java/lang/IndexOutOfBoundsException") hown [] ⟨0, 17, 20, 24⟩ [] (htb.trans rfl) (fun z hz => nomatch hz) (by decide) (by decide) (hts (.classLink RL 24 "java/lang/IndexOutOfBoundsException") (by decide +kernel)) (va_Nw.use rfl (hX.2.2.1 (.castable "java/lang/IndexOutOfBoundsException" "java/lang/IndexOutOfBoundsException") (by decide +kernel))) hce hcv hcl ?_
  have hP : va_P D vwCl (wLh ad cI cd te ri pi pw K Dn mv ko so tl lp lb ld le C cl dq dy cL ou) H1 := hP.kept (fun k q h => hk9 q.1 ((hP k q h).lt))
  generalize H1 = H at hP hS1 ⊢
  generalize locs1 = locs at hS1 ⊢
  have hS := hS1
  clear hX
  refine lv_astore (lv' := [(4, .ref q9), (0, .ref (ad 14)), (1, .int x), (2, .int y), (3, .ref (ad 17))]) hx hb dL_opens_20 hl (by decide) rfl (fun ls hl => ?_)
  refine lv_iconst (v := 1) hx hb dL_opens_22 (by decide) ?_
  exact W.iret (v := 1) hx hb hr (fun tZ htZ hWZ => ⟨⟨_, (), rfl, rfl, by rw [htZ]; exact hP, by rw [hAe]; exact hD⟩, hS.F htZ⟩) hS.2.2 dL_opens_23
set_option maxHeartbeats 4000000 in
set_option maxRecDepth 100000 in
theorem c_L_opens_f2 (l : Launch) (hlf : l.stackTraces = false) (D : va_G) (ad : Nat → Nat) (cI : ClassId) (cd : Nat → Int32) (te : Nat → Int32) (ri : Nat → Int32) (pi : Nat → Int32) (pw : Nat → Int32) (K : Nat) (Dn : Nat) (mv : Int32) (ko : Nat → Int32) (so : Nat → Int32) (tl : Nat → Int32) (lp : Nat → Int32) (lb : Nat → Int32) (ld : Nat → Int32) (le : Nat → Int32) (C : Nat) (cl : Nat → Int32) (dq : Nat → Int32) (dy : Int32) (cL : ClassId) (ou : Nat → Int64) (k : Nat) (y : Int32) (sz : Nat) (hK8 : K ≤ 8) (hk : k < K) (hBad : ¬ jIn Dn y = true) : Met l yL_opens wsL_opens ({ frames := 8, cells := 1, slots := 6, locals := 133 } : Room) (hxP [.ref (ad 14), .int (nI k), .int y, .ref (ad 17)] D sz (wLh ad cI cd te ri pi pw K Dn mv ko so tl lp lb ld le C cl dq dy cL ou) [(cI, .int), (cL, .long)]) (va_Qi (fun rZ (_ : Unit) => rZ = 1) (wrB D sz (wLh ad cI cd te ri pi pw K Dn mv ko so tl lp lb ld le C cl dq dy cL ou) (wLh ad cI cd te ri pi pw K Dn mv ko so tl lp lb ld le C cl dq dy cL ou)) (va_A (wLh ad cI cd te ri pi pw K Dn mv ko so tl lp lb ld le C cl dq dy cL ou) sz)) 1 6 (va_A (wLh ad cI cd te ri pi pw K Dn mv ko so tl lp lb ld le C cl dq dy cL ou) sz) := by
  refine va_MetW (cc := cL_opens) (maxL := 5) (ret := (some .int)) (hh := [(0, 17, 20, 24)]) (by decide) rfl ?_
  intro p e s m args below meth c s₁ B hml hv
  obtain ⟨rfl, hsz, hP, hD0, hK, hX⟩ := hv
  have hx := B.exec
  have hb := B.bytes
  have hr := B.returns
  have hts := atoms_spec (ws := wsL_opens) B.pre
  have hown : s.vm.findClass RL = some m.cls := findClass_of_methodNamed B.named
  have hlocks := B.notSynchronized
  subst hsz
  have hD := hD0.self (sz := s.heap.size)
  generalize hAe : va_A (wLh ad cI cd te ri pi pw K Dn mv ko so tl lp lb ld le C cl dq dy cL ou) s.heap.size = A at hD ⊢
  have hA : ∀ q : Nat, s.heap.size ≤ q → A q := fun q h => by rw [← hAe]; exact Or.inr h
  have hl := lv_entry ([.ref (ad 14), .int (nI k), .int y, .ref (ad 17)]) (n := 5) (Nat.le_of_ble_eq_true rfl)
  rw [lg_entry_eq]
  generalize (lg_sl ([.ref (ad 14), .int (nI k), .int y, .ref (ad 17)]) ++ List.replicate (5 - (lg_sl ([.ref (ad 14), .int (nI k), .int y, .ref (ad 17)])).length) Slot.unset).toArray = ls at hl ⊢
  have hl : lv_has ls 5 [(0, .ref (ad 14)), (1, .int (nI k)), (2, .int y), (3, .ref (ad 17))] := hl
  refine W.genH (fun H locs eH eL => ?_)
  have hS : va_S A s.heap H locs := by rw [eH, eL]; exact va_S.rf
  have hP : va_P D vwCl (wLh ad cI cd te ri pi pw K Dn mv ko so tl lp lb ld le C cl dq dy cL ou) H := by rw [eH]; exact hP
  have hX : kcX (fun q => H.size ≤ q) s H := by rw [eH]; exact hX
  have htb := vx_table (x := yL_opens) B (hts _ List.mem_cons_self)
  clear eH eL
  refine lv_aload_n hx hb dL_opens_0 rfl (lv_at hl 3 rfl) ?_
  refine lv_iconst (v := 0) hx hb dL_opens_1 (by decide) ?_
  refine lv_aload_n hx hb dL_opens_2 rfl (lv_at hl 0 rfl) ?_
  refine lv_iload_n hx hb dL_opens_3 rfl (lv_at hl 1 rfl) ?_
  refine lv_iload_n hx hb dL_opens_4 rfl (lv_at hl 2 rfl) ?_
  refine kc_xV (E := "java/lang/IndexOutOfBoundsException") (As := [.int (nI k), .int y]) (rest := [.int 0, .ref (ad 17)]) ⟨hx, hb, hml, hown, hts⟩ (c_X2_opens_f2 l hlf D ad cI cd te ri pi pw K Dn mv ko so tl lp lb ld le C cl dq dy k y H.size hK8 hk hBad) (cwV 2 hts gL_opens_X2_opens rfl rfl rfl (by decide +kernel) ⟨Nat.le_of_ble_eq_true rfl, Nat.le_of_ble_eq_true rfl⟩) hK hP hX [0, 1, 2, 3, 4, 5, 6, 7, 8, 9, 10, 11, 12, 13, 14, 15, 16] [0] rfl rfl 14 rfl rfl rfl rfl hl.1 rfl (Nat.le_of_ble_eq_true rfl) dL_opens_5 ⟨Nat.le_of_ble_eq_true rfl, Nat.le_of_ble_eq_true rfl⟩ hS hA (fun ce q9 H1 locs1 hz hk9 hS1 hce hcv hcl => ?_)
  refine vx_catch (name := "java/lang/IndexOutOfBoundsException") hown [] ⟨0, 17, 20, 24⟩ [] (htb.trans rfl) (fun z hz => nomatch hz) (by decide) (by decide) (hts (.classLink RL 24 "java/lang/IndexOutOfBoundsException") (by decide +kernel)) (va_Nw.use rfl (hX.2.2.1 (.castable "java/lang/IndexOutOfBoundsException" "java/lang/IndexOutOfBoundsException") (by decide +kernel))) hce hcv hcl ?_
  have hP : va_P D vwCl (wLh ad cI cd te ri pi pw K Dn mv ko so tl lp lb ld le C cl dq dy cL ou) H1 := hP.kept (fun k q h => hk9 q.1 ((hP k q h).lt))
  generalize H1 = H at hP hS1 ⊢
  generalize locs1 = locs at hS1 ⊢
  have hS := hS1
  clear hX
  refine lv_astore (lv' := [(4, .ref q9), (0, .ref (ad 14)), (1, .int (nI k)), (2, .int y), (3, .ref (ad 17))]) hx hb dL_opens_20 hl (by decide) rfl (fun ls hl => ?_)
  refine lv_iconst (v := 1) hx hb dL_opens_22 (by decide) ?_
  exact W.iret (v := 1) hx hb hr (fun tZ htZ hWZ => ⟨⟨_, (), rfl, rfl, by rw [htZ]; exact hP, by rw [hAe]; exact hD⟩, hS.F htZ⟩) hS.2.2 dL_opens_23
set_option maxHeartbeats 4000000 in
set_option maxRecDepth 100000 in
theorem c_L_isAbove_f1 (l : Launch) (hlf : l.stackTraces = false) (D : va_G) (ad : Nat → Nat) (cI : ClassId) (cd : Nat → Int32) (te : Nat → Int32) (ri : Nat → Int32) (pi : Nat → Int32) (pw : Nat → Int32) (K : Nat) (Dn : Nat) (mv : Int32) (ko : Nat → Int32) (so : Nat → Int32) (tl : Nat → Int32) (lp : Nat → Int32) (lb : Nat → Int32) (ld : Nat → Int32) (le : Nat → Int32) (C : Nat) (cl : Nat → Int32) (dq : Nat → Int32) (dy : Int32) (cL : ClassId) (ou : Nat → Int64) (x : Int32) (y : Int32) (sz : Nat) (hBad : ¬ jIn K x = true) : Met l yL_isAbove wsL_isAbove ({ frames := 8, cells := 1, slots := 6, locals := 135 } : Room) (hxP [.ref (ad 14), .int x, .int y, .ref (ad 17)] D sz (wLh ad cI cd te ri pi pw K Dn mv ko so tl lp lb ld le C cl dq dy cL ou) [(cI, .int), (cL, .long)]) (va_Qi (fun rZ (_ : Unit) => rZ = 1) (wrB D sz (wLh ad cI cd te ri pi pw K Dn mv ko so tl lp lb ld le C cl dq dy cL ou) (wLh ad cI cd te ri pi pw K Dn mv ko so tl lp lb ld le C cl dq dy cL ou)) (va_A (wLh ad cI cd te ri pi pw K Dn mv ko so tl lp lb ld le C cl dq dy cL ou) sz)) 1 6 (va_A (wLh ad cI cd te ri pi pw K Dn mv ko so tl lp lb ld le C cl dq dy cL ou) sz) := by
  refine va_MetW (cc := cL_isAbove) (maxL := 5) (ret := (some .int)) (hh := [(0, 17, 20, 24)]) (by decide) rfl ?_
  intro p e s m args below meth c s₁ B hml hv
  obtain ⟨rfl, hsz, hP, hD0, hK, hX⟩ := hv
  have hx := B.exec
  have hb := B.bytes
  have hr := B.returns
  have hts := atoms_spec (ws := wsL_isAbove) B.pre
  have hown : s.vm.findClass RL = some m.cls := findClass_of_methodNamed B.named
  have hlocks := B.notSynchronized
  subst hsz
  have hD := hD0.self (sz := s.heap.size)
  generalize hAe : va_A (wLh ad cI cd te ri pi pw K Dn mv ko so tl lp lb ld le C cl dq dy cL ou) s.heap.size = A at hD ⊢
  have hA : ∀ q : Nat, s.heap.size ≤ q → A q := fun q h => by rw [← hAe]; exact Or.inr h
  have hl := lv_entry ([.ref (ad 14), .int x, .int y, .ref (ad 17)]) (n := 5) (Nat.le_of_ble_eq_true rfl)
  rw [lg_entry_eq]
  generalize (lg_sl ([.ref (ad 14), .int x, .int y, .ref (ad 17)]) ++ List.replicate (5 - (lg_sl ([.ref (ad 14), .int x, .int y, .ref (ad 17)])).length) Slot.unset).toArray = ls at hl ⊢
  have hl : lv_has ls 5 [(0, .ref (ad 14)), (1, .int x), (2, .int y), (3, .ref (ad 17))] := hl
  refine W.genH (fun H locs eH eL => ?_)
  have hS : va_S A s.heap H locs := by rw [eH, eL]; exact va_S.rf
  have hP : va_P D vwCl (wLh ad cI cd te ri pi pw K Dn mv ko so tl lp lb ld le C cl dq dy cL ou) H := by rw [eH]; exact hP
  have hX : kcX (fun q => H.size ≤ q) s H := by rw [eH]; exact hX
  have htb := vx_table (x := yL_isAbove) B (hts _ List.mem_cons_self)
  clear eH eL
  refine lv_aload_n hx hb dL_isAbove_0 rfl (lv_at hl 3 rfl) ?_
  refine lv_iconst (v := 0) hx hb dL_isAbove_1 (by decide) ?_
  refine lv_aload_n hx hb dL_isAbove_2 rfl (lv_at hl 0 rfl) ?_
  refine lv_iload_n hx hb dL_isAbove_3 rfl (lv_at hl 1 rfl) ?_
  refine lv_iload_n hx hb dL_isAbove_4 rfl (lv_at hl 2 rfl) ?_
  refine kc_xV (E := "java/lang/IndexOutOfBoundsException") (As := [.int x, .int y]) (rest := [.int 0, .ref (ad 17)]) ⟨hx, hb, hml, hown, hts⟩ (c_X2_isAbove_f1 l hlf D ad cI cd te ri pi pw K Dn mv ko so tl lp lb ld le C cl dq dy x y H.size hBad) (cwV 2 hts gL_isAbove_X2_isAbove rfl rfl rfl (by decide +kernel) ⟨Nat.le_of_ble_eq_true rfl, Nat.le_of_ble_eq_true rfl⟩) hK hP hX [0, 1, 2, 3, 4, 5, 6, 7, 8, 9, 10, 11, 12, 13, 14, 15, 16] [0] rfl rfl 14 rfl rfl rfl rfl hl.1 rfl (Nat.le_of_ble_eq_true rfl) dL_isAbove_5 ⟨Nat.le_of_ble_eq_true rfl, Nat.le_of_ble_eq_true rfl⟩ hS hA (fun ce q9 H1 locs1 hz hk9 hS1 hce hcv hcl => ?_)
  refine vx_catch (name := "java/lang/IndexOutOfBoundsException") hown [] ⟨0, 17, 20, 24⟩ [] (htb.trans rfl) (fun z hz => nomatch hz) (by decide) (by decide) (hts (.classLink RL 24 "java/lang/IndexOutOfBoundsException") (by decide +kernel)) (va_Nw.use rfl (hX.2.2.1 (.castable "java/lang/IndexOutOfBoundsException" "java/lang/IndexOutOfBoundsException") (by decide +kernel))) hce hcv hcl ?_
  have hP : va_P D vwCl (wLh ad cI cd te ri pi pw K Dn mv ko so tl lp lb ld le C cl dq dy cL ou) H1 := hP.kept (fun k q h => hk9 q.1 ((hP k q h).lt))
  generalize H1 = H at hP hS1 ⊢
  generalize locs1 = locs at hS1 ⊢
  have hS := hS1
  clear hX
  refine lv_astore (lv' := [(4, .ref q9), (0, .ref (ad 14)), (1, .int x), (2, .int y), (3, .ref (ad 17))]) hx hb dL_isAbove_20 hl (by decide) rfl (fun ls hl => ?_)
  refine lv_iconst (v := 1) hx hb dL_isAbove_22 (by decide) ?_
  exact W.iret (v := 1) hx hb hr (fun tZ htZ hWZ => ⟨⟨_, (), rfl, rfl, by rw [htZ]; exact hP, by rw [hAe]; exact hD⟩, hS.F htZ⟩) hS.2.2 dL_isAbove_23
set_option maxHeartbeats 4000000 in
set_option maxRecDepth 100000 in
theorem c_L_isAbove_f2 (l : Launch) (hlf : l.stackTraces = false) (D : va_G) (ad : Nat → Nat) (cI : ClassId) (cd : Nat → Int32) (te : Nat → Int32) (ri : Nat → Int32) (pi : Nat → Int32) (pw : Nat → Int32) (K : Nat) (Dn : Nat) (mv : Int32) (ko : Nat → Int32) (so : Nat → Int32) (tl : Nat → Int32) (lp : Nat → Int32) (lb : Nat → Int32) (ld : Nat → Int32) (le : Nat → Int32) (C : Nat) (cl : Nat → Int32) (dq : Nat → Int32) (dy : Int32) (cL : ClassId) (ou : Nat → Int64) (k : Nat) (y : Int32) (sz : Nat) (hK8 : K ≤ 8) (hk : k < K) (hBad : ¬ jIn K y = true) : Met l yL_isAbove wsL_isAbove ({ frames := 8, cells := 1, slots := 6, locals := 135 } : Room) (hxP [.ref (ad 14), .int (nI k), .int y, .ref (ad 17)] D sz (wLh ad cI cd te ri pi pw K Dn mv ko so tl lp lb ld le C cl dq dy cL ou) [(cI, .int), (cL, .long)]) (va_Qi (fun rZ (_ : Unit) => rZ = 1) (wrB D sz (wLh ad cI cd te ri pi pw K Dn mv ko so tl lp lb ld le C cl dq dy cL ou) (wLh ad cI cd te ri pi pw K Dn mv ko so tl lp lb ld le C cl dq dy cL ou)) (va_A (wLh ad cI cd te ri pi pw K Dn mv ko so tl lp lb ld le C cl dq dy cL ou) sz)) 1 6 (va_A (wLh ad cI cd te ri pi pw K Dn mv ko so tl lp lb ld le C cl dq dy cL ou) sz) := by
  refine va_MetW (cc := cL_isAbove) (maxL := 5) (ret := (some .int)) (hh := [(0, 17, 20, 24)]) (by decide) rfl ?_
  intro p e s m args below meth c s₁ B hml hv
  obtain ⟨rfl, hsz, hP, hD0, hK, hX⟩ := hv
  have hx := B.exec
  have hb := B.bytes
  have hr := B.returns
  have hts := atoms_spec (ws := wsL_isAbove) B.pre
  have hown : s.vm.findClass RL = some m.cls := findClass_of_methodNamed B.named
  have hlocks := B.notSynchronized
  subst hsz
  have hD := hD0.self (sz := s.heap.size)
  generalize hAe : va_A (wLh ad cI cd te ri pi pw K Dn mv ko so tl lp lb ld le C cl dq dy cL ou) s.heap.size = A at hD ⊢
  have hA : ∀ q : Nat, s.heap.size ≤ q → A q := fun q h => by rw [← hAe]; exact Or.inr h
  have hl := lv_entry ([.ref (ad 14), .int (nI k), .int y, .ref (ad 17)]) (n := 5) (Nat.le_of_ble_eq_true rfl)
  rw [lg_entry_eq]
  generalize (lg_sl ([.ref (ad 14), .int (nI k), .int y, .ref (ad 17)]) ++ List.replicate (5 - (lg_sl ([.ref (ad 14), .int (nI k), .int y, .ref (ad 17)])).length) Slot.unset).toArray = ls at hl ⊢
  have hl : lv_has ls 5 [(0, .ref (ad 14)), (1, .int (nI k)), (2, .int y), (3, .ref (ad 17))] := hl
  refine W.genH (fun H locs eH eL => ?_)
  have hS : va_S A s.heap H locs := by rw [eH, eL]; exact va_S.rf
  have hP : va_P D vwCl (wLh ad cI cd te ri pi pw K Dn mv ko so tl lp lb ld le C cl dq dy cL ou) H := by rw [eH]; exact hP
  have hX : kcX (fun q => H.size ≤ q) s H := by rw [eH]; exact hX
  have htb := vx_table (x := yL_isAbove) B (hts _ List.mem_cons_self)
  clear eH eL
  refine lv_aload_n hx hb dL_isAbove_0 rfl (lv_at hl 3 rfl) ?_
  refine lv_iconst (v := 0) hx hb dL_isAbove_1 (by decide) ?_
  refine lv_aload_n hx hb dL_isAbove_2 rfl (lv_at hl 0 rfl) ?_
  refine lv_iload_n hx hb dL_isAbove_3 rfl (lv_at hl 1 rfl) ?_
  refine lv_iload_n hx hb dL_isAbove_4 rfl (lv_at hl 2 rfl) ?_
  refine kc_xV (E := "java/lang/IndexOutOfBoundsException") (As := [.int (nI k), .int y]) (rest := [.int 0, .ref (ad 17)]) ⟨hx, hb, hml, hown, hts⟩ (c_X2_isAbove_f2 l hlf D ad cI cd te ri pi pw K Dn mv ko so tl lp lb ld le C cl dq dy k y H.size hK8 hk hBad) (cwV 2 hts gL_isAbove_X2_isAbove rfl rfl rfl (by decide +kernel) ⟨Nat.le_of_ble_eq_true rfl, Nat.le_of_ble_eq_true rfl⟩) hK hP hX [0, 1, 2, 3, 4, 5, 6, 7, 8, 9, 10, 11, 12, 13, 14, 15, 16] [0] rfl rfl 14 rfl rfl rfl rfl hl.1 rfl (Nat.le_of_ble_eq_true rfl) dL_isAbove_5 ⟨Nat.le_of_ble_eq_true rfl, Nat.le_of_ble_eq_true rfl⟩ hS hA (fun ce q9 H1 locs1 hz hk9 hS1 hce hcv hcl => ?_)
  refine vx_catch (name := "java/lang/IndexOutOfBoundsException") hown [] ⟨0, 17, 20, 24⟩ [] (htb.trans rfl) (fun z hz => nomatch hz) (by decide) (by decide) (hts (.classLink RL 24 "java/lang/IndexOutOfBoundsException") (by decide +kernel)) (va_Nw.use rfl (hX.2.2.1 (.castable "java/lang/IndexOutOfBoundsException" "java/lang/IndexOutOfBoundsException") (by decide +kernel))) hce hcv hcl ?_
  have hP : va_P D vwCl (wLh ad cI cd te ri pi pw K Dn mv ko so tl lp lb ld le C cl dq dy cL ou) H1 := hP.kept (fun k q h => hk9 q.1 ((hP k q h).lt))
  generalize H1 = H at hP hS1 ⊢
  generalize locs1 = locs at hS1 ⊢
  have hS := hS1
  clear hX
  refine lv_astore (lv' := [(4, .ref q9), (0, .ref (ad 14)), (1, .int (nI k)), (2, .int y), (3, .ref (ad 17))]) hx hb dL_isAbove_20 hl (by decide) rfl (fun ls hl => ?_)
  refine lv_iconst (v := 1) hx hb dL_isAbove_22 (by decide) ?_
  exact W.iret (v := 1) hx hb hr (fun tZ htZ hWZ => ⟨⟨_, (), rfl, rfl, by rw [htZ]; exact hP, by rw [hAe]; exact hD⟩, hS.F htZ⟩) hS.2.2 dL_isAbove_23
set_option maxHeartbeats 4000000 in
set_option maxRecDepth 100000 in
theorem c_L_addKey_f1 (l : Launch) (hlf : l.stackTraces = false) (D : va_G) (ad : Nat → Nat) (cI : ClassId) (cd : Nat → Int32) (te : Nat → Int32) (ri : Nat → Int32) (pi : Nat → Int32) (pw : Nat → Int32) (K : Nat) (Dn : Nat) (mv : Int32) (ko : Nat → Int32) (so : Nat → Int32) (tl : Nat → Int32) (lp : Nat → Int32) (lb : Nat → Int32) (ld : Nat → Int32) (le : Nat → Int32) (C : Nat) (cl : Nat → Int32) (dq : Nat → Int32) (dy : Int32) (cL : ClassId) (ou : Nat → Int64) (code : Int32) (sz : Nat) (hBad : code < 0 ∨ (1024 : Int32) ≤ code) : Met l yL_addKey wsL_addKey ({ frames := 7, cells := 1, slots := 6, locals := 111 } : Room) (hxP [.ref (ad 14), .int code, .ref (ad 17)] D sz (wLh ad cI cd te ri pi pw K Dn mv ko so tl lp lb ld le C cl dq dy cL ou) [(cI, .int), (cL, .long)]) (va_Qi (fun rZ (_ : Unit) => rZ = 1) (wrB D sz (wLh ad cI cd te ri pi pw K Dn mv ko so tl lp lb ld le C cl dq dy cL ou) (wLh ad cI cd te ri pi pw K Dn mv ko so tl lp lb ld le C cl dq dy cL ou)) (va_A (wLh ad cI cd te ri pi pw K Dn mv ko so tl lp lb ld le C cl dq dy cL ou) sz)) 1 6 (va_A (wLh ad cI cd te ri pi pw K Dn mv ko so tl lp lb ld le C cl dq dy cL ou) sz) := by
  refine va_MetW (cc := cL_addKey) (maxL := 4) (ret := (some .int)) (hh := [(0, 9, 12, 13), (0, 9, 15, 15)]) (by decide) rfl ?_
  intro p e s m args below meth c s₁ B hml hv
  obtain ⟨rfl, hsz, hP, hD0, hK, hX⟩ := hv
  have hx := B.exec
  have hb := B.bytes
  have hr := B.returns
  have hts := atoms_spec (ws := wsL_addKey) B.pre
  have hown : s.vm.findClass RL = some m.cls := findClass_of_methodNamed B.named
  have hlocks := B.notSynchronized
  subst hsz
  have hD := hD0.self (sz := s.heap.size)
  generalize hAe : va_A (wLh ad cI cd te ri pi pw K Dn mv ko so tl lp lb ld le C cl dq dy cL ou) s.heap.size = A at hD ⊢
  have hA : ∀ q : Nat, s.heap.size ≤ q → A q := fun q h => by rw [← hAe]; exact Or.inr h
  have hl := lv_entry ([.ref (ad 14), .int code, .ref (ad 17)]) (n := 4) (Nat.le_of_ble_eq_true rfl)
  rw [lg_entry_eq]
  generalize (lg_sl ([.ref (ad 14), .int code, .ref (ad 17)]) ++ List.replicate (4 - (lg_sl ([.ref (ad 14), .int code, .ref (ad 17)])).length) Slot.unset).toArray = ls at hl ⊢
  have hl : lv_has ls 4 [(0, .ref (ad 14)), (1, .int code), (2, .ref (ad 17))] := hl
  refine W.genH (fun H locs eH eL => ?_)
  have hS : va_S A s.heap H locs := by rw [eH, eL]; exact va_S.rf
  have hP : va_P D vwCl (wLh ad cI cd te ri pi pw K Dn mv ko so tl lp lb ld le C cl dq dy cL ou) H := by rw [eH]; exact hP
  have hX : kcX (fun q => H.size ≤ q) s H := by rw [eH]; exact hX
  have htb := vx_table (x := yL_addKey) B (hts _ List.mem_cons_self)
  clear eH eL
  refine lv_aload_n hx hb dL_addKey_0 rfl (lv_at hl 2 rfl) ?_
  refine lv_iconst (v := 0) hx hb dL_addKey_1 (by decide) ?_
  refine lv_aload_n hx hb dL_addKey_2 rfl (lv_at hl 0 rfl) ?_
  refine lv_iload_n hx hb dL_addKey_3 rfl (lv_at hl 1 rfl) ?_
  refine kc_xV (E := "java/lang/IllegalArgumentException") (As := [.int code]) (rest := [.int 0, .ref (ad 17)]) ⟨hx, hb, hml, hown, hts⟩ (c_X2_addKey_f1 l hlf D ad cI cd te ri pi pw K Dn mv ko so tl lp lb ld le C cl dq dy code H.size hBad) (cwV 1 hts gL_addKey_X2_addKey rfl rfl rfl (by decide +kernel) ⟨Nat.le_of_ble_eq_true rfl, Nat.le_of_ble_eq_true rfl⟩) hK hP hX [0, 1, 2, 3, 4, 5, 6, 7, 8, 9, 10, 11, 12, 13, 14, 15, 16] [0] rfl rfl 14 rfl rfl rfl rfl hl.1 rfl (Nat.le_of_ble_eq_true rfl) dL_addKey_4 ⟨Nat.le_of_ble_eq_true rfl, Nat.le_of_ble_eq_true rfl⟩ hS hA (fun ce q9 H1 locs1 hz hk9 hS1 hce hcv hcl => ?_)
  refine vx_catch (name := "java/lang/IllegalArgumentException") hown [] ⟨0, 9, 12, 13⟩ [⟨0, 9, 15, 15⟩] (htb.trans rfl) (fun z hz => nomatch hz) (by decide) (by decide) (hts (.classLink RL 13 "java/lang/IllegalArgumentException") (by decide +kernel)) (va_Nw.use rfl (hX.2.2.1 (.castable "java/lang/IllegalArgumentException" "java/lang/IllegalArgumentException") (by decide +kernel))) hce hcv hcl ?_
  have hP : va_P D vwCl (wLh ad cI cd te ri pi pw K Dn mv ko so tl lp lb ld le C cl dq dy cL ou) H1 := hP.kept (fun k q h => hk9 q.1 ((hP k q h).lt))
  generalize H1 = H at hP hS1 ⊢
  generalize locs1 = locs at hS1 ⊢
  have hS := hS1
  clear hX
  refine lv_astore_n (lv' := [(3, .ref q9), (0, .ref (ad 14)), (1, .int code), (2, .ref (ad 17))]) hx hb dL_addKey_12 rfl hl (by decide) rfl (fun ls hl => ?_)
  refine lv_iconst (v := 1) hx hb dL_addKey_13 (by decide) ?_
  exact W.iret (v := 1) hx hb hr (fun tZ htZ hWZ => ⟨⟨_, (), rfl, rfl, by rw [htZ]; exact hP, by rw [hAe]; exact hD⟩, hS.F htZ⟩) hS.2.2 dL_addKey_14
set_option maxHeartbeats 4000000 in
set_option maxRecDepth 100000 in
theorem c_L_addKey_f2a (l : Launch) (hlf : l.stackTraces = false) (D : va_G) (ad : Nat → Nat) (cI : ClassId) (cd : Nat → Int32) (te : Nat → Int32) (ri : Nat → Int32) (pi : Nat → Int32) (pw : Nat → Int32) (K : Nat) (Dn : Nat) (mv : Int32) (ko : Nat → Int32) (so : Nat → Int32) (tl : Nat → Int32) (lp : Nat → Int32) (lb : Nat → Int32) (ld : Nat → Int32) (le : Nat → Int32) (C : Nat) (cl : Nat → Int32) (dq : Nat → Int32) (dy : Int32) (cL : ClassId) (ou : Nat → Int64) (code : Int32) (sz : Nat) (h1 : ¬ code < 0) (h2 : code < 1024) (hKe : K = 8) : Met l yL_addKey wsL_addKey ({ frames := 7, cells := 1, slots := 6, locals := 111 } : Room) (hxP [.ref (ad 14), .int code, .ref (ad 17)] D sz (wLh ad cI cd te ri pi pw K Dn mv ko so tl lp lb ld le C cl dq dy cL ou) [(cI, .int), (cL, .long)]) (va_Qi (fun rZ (_ : Unit) => rZ = 2) (wrB D sz (wLh ad cI cd te ri pi pw K Dn mv ko so tl lp lb ld le C cl dq dy cL ou) (wLh ad cI cd te ri pi pw K Dn mv ko so tl lp lb ld le C cl dq dy cL ou)) (va_A (wLh ad cI cd te ri pi pw K Dn mv ko so tl lp lb ld le C cl dq dy cL ou) sz)) 1 6 (va_A (wLh ad cI cd te ri pi pw K Dn mv ko so tl lp lb ld le C cl dq dy cL ou) sz) := by
  refine va_MetW (cc := cL_addKey) (maxL := 4) (ret := (some .int)) (hh := [(0, 9, 12, 13), (0, 9, 15, 15)]) (by decide) rfl ?_
  intro p e s m args below meth c s₁ B hml hv
  obtain ⟨rfl, hsz, hP, hD0, hK, hX⟩ := hv
  have hx := B.exec
  have hb := B.bytes
  have hr := B.returns
  have hts := atoms_spec (ws := wsL_addKey) B.pre
  have hown : s.vm.findClass RL = some m.cls := findClass_of_methodNamed B.named
  have hlocks := B.notSynchronized
  subst hsz
  have hD := hD0.self (sz := s.heap.size)
  generalize hAe : va_A (wLh ad cI cd te ri pi pw K Dn mv ko so tl lp lb ld le C cl dq dy cL ou) s.heap.size = A at hD ⊢
  have hA : ∀ q : Nat, s.heap.size ≤ q → A q := fun q h => by rw [← hAe]; exact Or.inr h
  have hl := lv_entry ([.ref (ad 14), .int code, .ref (ad 17)]) (n := 4) (Nat.le_of_ble_eq_true rfl)
  rw [lg_entry_eq]
  generalize (lg_sl ([.ref (ad 14), .int code, .ref (ad 17)]) ++ List.replicate (4 - (lg_sl ([.ref (ad 14), .int code, .ref (ad 17)])).length) Slot.unset).toArray = ls at hl ⊢
  have hl : lv_has ls 4 [(0, .ref (ad 14)), (1, .int code), (2, .ref (ad 17))] := hl
  refine W.genH (fun H locs eH eL => ?_)
  have hS : va_S A s.heap H locs := by rw [eH, eL]; exact va_S.rf
  have hP : va_P D vwCl (wLh ad cI cd te ri pi pw K Dn mv ko so tl lp lb ld le C cl dq dy cL ou) H := by rw [eH]; exact hP
  have hX : kcX (fun q => H.size ≤ q) s H := by rw [eH]; exact hX
  have htb := vx_table (x := yL_addKey) B (hts _ List.mem_cons_self)
  clear eH eL
  refine lv_aload_n hx hb dL_addKey_0 rfl (lv_at hl 2 rfl) ?_
  refine lv_iconst (v := 0) hx hb dL_addKey_1 (by decide) ?_
  refine lv_aload_n hx hb dL_addKey_2 rfl (lv_at hl 0 rfl) ?_
  refine lv_iload_n hx hb dL_addKey_3 rfl (lv_at hl 1 rfl) ?_
  refine kc_xV (E := "java/lang/IllegalStateException") (As := [.int code]) (rest := [.int 0, .ref (ad 17)]) ⟨hx, hb, hml, hown, hts⟩ (c_X2_addKey_f2a l hlf D ad cI cd te ri pi pw K Dn mv ko so tl lp lb ld le C cl dq dy code H.size h1 h2 hKe) (cwV 1 hts gL_addKey_X2_addKey rfl rfl rfl (by decide +kernel) ⟨Nat.le_of_ble_eq_true rfl, Nat.le_of_ble_eq_true rfl⟩) hK hP hX [0, 1, 2, 3, 4, 5, 6, 7, 8, 9, 10, 11, 12, 13, 14, 15, 16] [0] rfl rfl 14 rfl rfl rfl rfl hl.1 rfl (Nat.le_of_ble_eq_true rfl) dL_addKey_4 ⟨Nat.le_of_ble_eq_true rfl, Nat.le_of_ble_eq_true rfl⟩ hS hA (fun ce q9 H1 locs1 hz hk9 hS1 hce hcv hcl => ?_)
  refine vx_catch (name := "java/lang/IllegalStateException") hown [⟨0, 9, 12, 13⟩] ⟨0, 9, 15, 15⟩ [] (htb.trans rfl) (fun z hz => by cases List.mem_singleton.mp hz; exact Or.inr ⟨by decide, "java/lang/IllegalArgumentException", hts (.classLink RL 13 "java/lang/IllegalArgumentException") (by decide +kernel), hX.2.2.2.2 ("java/lang/IllegalStateException", "java/lang/IllegalArgumentException") (by decide +kernel)⟩) (by decide) (by decide) (hts (.classLink RL 15 "java/lang/IllegalStateException") (by decide +kernel)) (va_Nw.use rfl (hX.2.2.1 (.castable "java/lang/IllegalStateException" "java/lang/IllegalStateException") (by decide +kernel))) hce hcv hcl ?_
  have hP : va_P D vwCl (wLh ad cI cd te ri pi pw K Dn mv ko so tl lp lb ld le C cl dq dy cL ou) H1 := hP.kept (fun k q h => hk9 q.1 ((hP k q h).lt))
  generalize H1 = H at hP hS1 ⊢
  generalize locs1 = locs at hS1 ⊢
  have hS := hS1
  clear hX
  refine lv_astore_n (lv' := [(3, .ref q9), (0, .ref (ad 14)), (1, .int code), (2, .ref (ad 17))]) hx hb dL_addKey_15 rfl hl (by decide) rfl (fun ls hl => ?_)
  refine lv_iconst (v := 2) hx hb dL_addKey_16 (by decide) ?_
  exact W.iret (v := 2) hx hb hr (fun tZ htZ hWZ => ⟨⟨_, (), rfl, rfl, by rw [htZ]; exact hP, by rw [hAe]; exact hD⟩, hS.F htZ⟩) hS.2.2 dL_addKey_17
set_option maxHeartbeats 4000000 in
set_option maxRecDepth 100000 in
theorem c_L_addKey_f2b (l : Launch) (hlf : l.stackTraces = false) (D : va_G) (ad : Nat → Nat) (cI : ClassId) (cd : Nat → Int32) (te : Nat → Int32) (ri : Nat → Int32) (pi : Nat → Int32) (pw : Nat → Int32) (K : Nat) (Dn : Nat) (mv : Int32) (ko : Nat → Int32) (so : Nat → Int32) (tl : Nat → Int32) (lp : Nat → Int32) (lb : Nat → Int32) (ld : Nat → Int32) (le : Nat → Int32) (C : Nat) (cl : Nat → Int32) (dq : Nat → Int32) (dy : Int32) (cL : ClassId) (ou : Nat → Int64) (code : Int32) (sz : Nat) (h1 : ¬ code < 0) (h2 : code < 1024) (hK7 : K < 8) (hf : jTaken cd K code = true) : Met l yL_addKey wsL_addKey ({ frames := 7, cells := 1, slots := 6, locals := 111 } : Room) (hxP [.ref (ad 14), .int code, .ref (ad 17)] D sz (wLh ad cI cd te ri pi pw K Dn mv ko so tl lp lb ld le C cl dq dy cL ou) [(cI, .int), (cL, .long)]) (va_Qi (fun rZ (_ : Unit) => rZ = 2) (wrB D sz (wLh ad cI cd te ri pi pw K Dn mv ko so tl lp lb ld le C cl dq dy cL ou) (wLh ad cI cd te ri pi pw K Dn mv ko so tl lp lb ld le C cl dq dy cL ou)) (va_A (wLh ad cI cd te ri pi pw K Dn mv ko so tl lp lb ld le C cl dq dy cL ou) sz)) 1 6 (va_A (wLh ad cI cd te ri pi pw K Dn mv ko so tl lp lb ld le C cl dq dy cL ou) sz) := by
  refine va_MetW (cc := cL_addKey) (maxL := 4) (ret := (some .int)) (hh := [(0, 9, 12, 13), (0, 9, 15, 15)]) (by decide) rfl ?_
  intro p e s m args below meth c s₁ B hml hv
  obtain ⟨rfl, hsz, hP, hD0, hK, hX⟩ := hv
  have hx := B.exec
  have hb := B.bytes
  have hr := B.returns
  have hts := atoms_spec (ws := wsL_addKey) B.pre
  have hown : s.vm.findClass RL = some m.cls := findClass_of_methodNamed B.named
  have hlocks := B.notSynchronized
  subst hsz
  have hD := hD0.self (sz := s.heap.size)
  generalize hAe : va_A (wLh ad cI cd te ri pi pw K Dn mv ko so tl lp lb ld le C cl dq dy cL ou) s.heap.size = A at hD ⊢
  have hA : ∀ q : Nat, s.heap.size ≤ q → A q := fun q h => by rw [← hAe]; exact Or.inr h
  have hl := lv_entry ([.ref (ad 14), .int code, .ref (ad 17)]) (n := 4) (Nat.le_of_ble_eq_true rfl)
  rw [lg_entry_eq]
  generalize (lg_sl ([.ref (ad 14), .int code, .ref (ad 17)]) ++ List.replicate (4 - (lg_sl ([.ref (ad 14), .int code, .ref (ad 17)])).length) Slot.unset).toArray = ls at hl ⊢
  have hl : lv_has ls 4 [(0, .ref (ad 14)), (1, .int code), (2, .ref (ad 17))] := hl
  refine W.genH (fun H locs eH eL => ?_)
  have hS : va_S A s.heap H locs := by rw [eH, eL]; exact va_S.rf
  have hP : va_P D vwCl (wLh ad cI cd te ri pi pw K Dn mv ko so tl lp lb ld le C cl dq dy cL ou) H := by rw [eH]; exact hP
  have hX : kcX (fun q => H.size ≤ q) s H := by rw [eH]; exact hX
  have htb := vx_table (x := yL_addKey) B (hts _ List.mem_cons_self)
  clear eH eL
  refine lv_aload_n hx hb dL_addKey_0 rfl (lv_at hl 2 rfl) ?_
  refine lv_iconst (v := 0) hx hb dL_addKey_1 (by decide) ?_
  refine lv_aload_n hx hb dL_addKey_2 rfl (lv_at hl 0 rfl) ?_
  refine lv_iload_n hx hb dL_addKey_3 rfl (lv_at hl 1 rfl) ?_
  refine kc_xV (E := "java/lang/IllegalStateException") (As := [.int code]) (rest := [.int 0, .ref (ad 17)]) ⟨hx, hb, hml, hown, hts⟩ (c_X2_addKey_f2b l hlf D ad cI cd te ri pi pw K Dn mv ko so tl lp lb ld le C cl dq dy code H.size h1 h2 hK7 hf) (cwV 1 hts gL_addKey_X2_addKey rfl rfl rfl (by decide +kernel) ⟨Nat.le_of_ble_eq_true rfl, Nat.le_of_ble_eq_true rfl⟩) hK hP hX [0, 1, 2, 3, 4, 5, 6, 7, 8, 9, 10, 11, 12, 13, 14, 15, 16] [0] rfl rfl 14 rfl rfl rfl rfl hl.1 rfl (Nat.le_of_ble_eq_true rfl) dL_addKey_4 ⟨Nat.le_of_ble_eq_true rfl, Nat.le_of_ble_eq_true rfl⟩ hS hA (fun ce q9 H1 locs1 hz hk9 hS1 hce hcv hcl => ?_)
  refine vx_catch (name := "java/lang/IllegalStateException") hown [⟨0, 9, 12, 13⟩] ⟨0, 9, 15, 15⟩ [] (htb.trans rfl) (fun z hz => by cases List.mem_singleton.mp hz; exact Or.inr ⟨by decide, "java/lang/IllegalArgumentException", hts (.classLink RL 13 "java/lang/IllegalArgumentException") (by decide +kernel), hX.2.2.2.2 ("java/lang/IllegalStateException", "java/lang/IllegalArgumentException") (by decide +kernel)⟩) (by decide) (by decide) (hts (.classLink RL 15 "java/lang/IllegalStateException") (by decide +kernel)) (va_Nw.use rfl (hX.2.2.1 (.castable "java/lang/IllegalStateException" "java/lang/IllegalStateException") (by decide +kernel))) hce hcv hcl ?_
  have hP : va_P D vwCl (wLh ad cI cd te ri pi pw K Dn mv ko so tl lp lb ld le C cl dq dy cL ou) H1 := hP.kept (fun k q h => hk9 q.1 ((hP k q h).lt))
  generalize H1 = H at hP hS1 ⊢
  generalize locs1 = locs at hS1 ⊢
  have hS := hS1
  clear hX
  refine lv_astore_n (lv' := [(3, .ref q9), (0, .ref (ad 14)), (1, .int code), (2, .ref (ad 17))]) hx hb dL_addKey_15 rfl hl (by decide) rfl (fun ls hl => ?_)
  refine lv_iconst (v := 2) hx hb dL_addKey_16 (by decide) ?_
  exact W.iret (v := 2) hx hb hr (fun tZ htZ hWZ => ⟨⟨_, (), rfl, rfl, by rw [htZ]; exact hP, by rw [hAe]; exact hD⟩, hS.F htZ⟩) hS.2.2 dL_addKey_17
set_option maxHeartbeats 4000000 in
set_option maxRecDepth 100000 in
theorem c_L_addDoor_f1 (l : Launch) (hlf : l.stackTraces = false) (D : va_G) (ad : Nat → Nat) (cI : ClassId) (cd : Nat → Int32) (te : Nat → Int32) (ri : Nat → Int32) (pi : Nat → Int32) (pw : Nat → Int32) (K : Nat) (Dn : Nat) (mv : Int32) (ko : Nat → Int32) (so : Nat → Int32) (tl : Nat → Int32) (lp : Nat → Int32) (lb : Nat → Int32) (ld : Nat → Int32) (le : Nat → Int32) (C : Nat) (cl : Nat → Int32) (dq : Nat → Int32) (dy : Int32) (cL : ClassId) (ou : Nat → Int64) (r : Int32) (sz : Nat) (hBad : ¬ jSetOf K r = true) : Met l yL_addDoor wsL_addDoor ({ frames := 8, cells := 1, slots := 6, locals := 132 } : Room) (hxP [.ref (ad 14), .int r, .ref (ad 17)] D sz (wLh ad cI cd te ri pi pw K Dn mv ko so tl lp lb ld le C cl dq dy cL ou) [(cI, .int), (cL, .long)]) (va_Qi (fun rZ (_ : Unit) => rZ = 1) (wrB D sz (wLh ad cI cd te ri pi pw K Dn mv ko so tl lp lb ld le C cl dq dy cL ou) (wLh ad cI cd te ri pi pw K Dn mv ko so tl lp lb ld le C cl dq dy cL ou)) (va_A (wLh ad cI cd te ri pi pw K Dn mv ko so tl lp lb ld le C cl dq dy cL ou) sz)) 1 6 (va_A (wLh ad cI cd te ri pi pw K Dn mv ko so tl lp lb ld le C cl dq dy cL ou) sz) := by
  refine va_MetW (cc := cL_addDoor) (maxL := 4) (ret := (some .int)) (hh := [(0, 9, 12, 13), (0, 9, 15, 15)]) (by decide) rfl ?_
  intro p e s m args below meth c s₁ B hml hv
  obtain ⟨rfl, hsz, hP, hD0, hK, hX⟩ := hv
  have hx := B.exec
  have hb := B.bytes
  have hr := B.returns
  have hts := atoms_spec (ws := wsL_addDoor) B.pre
  have hown : s.vm.findClass RL = some m.cls := findClass_of_methodNamed B.named
  have hlocks := B.notSynchronized
  subst hsz
  have hD := hD0.self (sz := s.heap.size)
  generalize hAe : va_A (wLh ad cI cd te ri pi pw K Dn mv ko so tl lp lb ld le C cl dq dy cL ou) s.heap.size = A at hD ⊢
  have hA : ∀ q : Nat, s.heap.size ≤ q → A q := fun q h => by rw [← hAe]; exact Or.inr h
  have hl := lv_entry ([.ref (ad 14), .int r, .ref (ad 17)]) (n := 4) (Nat.le_of_ble_eq_true rfl)
  rw [lg_entry_eq]
  generalize (lg_sl ([.ref (ad 14), .int r, .ref (ad 17)]) ++ List.replicate (4 - (lg_sl ([.ref (ad 14), .int r, .ref (ad 17)])).length) Slot.unset).toArray = ls at hl ⊢
  have hl : lv_has ls 4 [(0, .ref (ad 14)), (1, .int r), (2, .ref (ad 17))] := hl
  refine W.genH (fun H locs eH eL => ?_)
  have hS : va_S A s.heap H locs := by rw [eH, eL]; exact va_S.rf
  have hP : va_P D vwCl (wLh ad cI cd te ri pi pw K Dn mv ko so tl lp lb ld le C cl dq dy cL ou) H := by rw [eH]; exact hP
  have hX : kcX (fun q => H.size ≤ q) s H := by rw [eH]; exact hX
  have htb := vx_table (x := yL_addDoor) B (hts _ List.mem_cons_self)
  clear eH eL
  refine lv_aload_n hx hb dL_addDoor_0 rfl (lv_at hl 2 rfl) ?_
  refine lv_iconst (v := 0) hx hb dL_addDoor_1 (by decide) ?_
  refine lv_aload_n hx hb dL_addDoor_2 rfl (lv_at hl 0 rfl) ?_
  refine lv_iload_n hx hb dL_addDoor_3 rfl (lv_at hl 1 rfl) ?_
  refine kc_xV (E := "java/lang/IllegalArgumentException") (As := [.int r]) (rest := [.int 0, .ref (ad 17)]) ⟨hx, hb, hml, hown, hts⟩ (c_X2_addDoor_f1 l hlf D ad cI cd te ri pi pw K Dn mv ko so tl lp lb ld le C cl dq dy r H.size hBad) (cwV 1 hts gL_addDoor_X2_addDoor rfl rfl rfl (by decide +kernel) ⟨Nat.le_of_ble_eq_true rfl, Nat.le_of_ble_eq_true rfl⟩) hK hP hX [0, 1, 2, 3, 4, 5, 6, 7, 8, 9, 10, 11, 12, 13, 14, 15, 16] [0] rfl rfl 14 rfl rfl rfl rfl hl.1 rfl (Nat.le_of_ble_eq_true rfl) dL_addDoor_4 ⟨Nat.le_of_ble_eq_true rfl, Nat.le_of_ble_eq_true rfl⟩ hS hA (fun ce q9 H1 locs1 hz hk9 hS1 hce hcv hcl => ?_)
  refine vx_catch (name := "java/lang/IllegalArgumentException") hown [] ⟨0, 9, 12, 13⟩ [⟨0, 9, 15, 15⟩] (htb.trans rfl) (fun z hz => nomatch hz) (by decide) (by decide) (hts (.classLink RL 13 "java/lang/IllegalArgumentException") (by decide +kernel)) (va_Nw.use rfl (hX.2.2.1 (.castable "java/lang/IllegalArgumentException" "java/lang/IllegalArgumentException") (by decide +kernel))) hce hcv hcl ?_
  have hP : va_P D vwCl (wLh ad cI cd te ri pi pw K Dn mv ko so tl lp lb ld le C cl dq dy cL ou) H1 := hP.kept (fun k q h => hk9 q.1 ((hP k q h).lt))
  generalize H1 = H at hP hS1 ⊢
  generalize locs1 = locs at hS1 ⊢
  have hS := hS1
  clear hX
  refine lv_astore_n (lv' := [(3, .ref q9), (0, .ref (ad 14)), (1, .int r), (2, .ref (ad 17))]) hx hb dL_addDoor_12 rfl hl (by decide) rfl (fun ls hl => ?_)
  refine lv_iconst (v := 1) hx hb dL_addDoor_13 (by decide) ?_
  exact W.iret (v := 1) hx hb hr (fun tZ htZ hWZ => ⟨⟨_, (), rfl, rfl, by rw [htZ]; exact hP, by rw [hAe]; exact hD⟩, hS.F htZ⟩) hS.2.2 dL_addDoor_14
set_option maxHeartbeats 4000000 in
set_option maxRecDepth 100000 in
theorem c_L_addDoor_f2 (l : Launch) (hlf : l.stackTraces = false) (D : va_G) (ad : Nat → Nat) (cI : ClassId) (cd : Nat → Int32) (te : Nat → Int32) (ri : Nat → Int32) (pi : Nat → Int32) (pw : Nat → Int32) (K : Nat) (Dn : Nat) (mv : Int32) (ko : Nat → Int32) (so : Nat → Int32) (tl : Nat → Int32) (lp : Nat → Int32) (lb : Nat → Int32) (ld : Nat → Int32) (le : Nat → Int32) (C : Nat) (cl : Nat → Int32) (dq : Nat → Int32) (dy : Int32) (cL : ClassId) (ou : Nat → Int64) (r : Int32) (sz : Nat) (hs : jSetOf K r = true) (hDe : Dn = 8) : Met l yL_addDoor wsL_addDoor ({ frames := 7, cells := 1, slots := 6, locals := 111 } : Room) (hxP [.ref (ad 14), .int r, .ref (ad 17)] D sz (wLh ad cI cd te ri pi pw K Dn mv ko so tl lp lb ld le C cl dq dy cL ou) [(cI, .int), (cL, .long)]) (va_Qi (fun rZ (_ : Unit) => rZ = 2) (wrB D sz (wLh ad cI cd te ri pi pw K Dn mv ko so tl lp lb ld le C cl dq dy cL ou) (wLh ad cI cd te ri pi pw K Dn mv ko so tl lp lb ld le C cl dq dy cL ou)) (va_A (wLh ad cI cd te ri pi pw K Dn mv ko so tl lp lb ld le C cl dq dy cL ou) sz)) 1 6 (va_A (wLh ad cI cd te ri pi pw K Dn mv ko so tl lp lb ld le C cl dq dy cL ou) sz) := by
  refine va_MetW (cc := cL_addDoor) (maxL := 4) (ret := (some .int)) (hh := [(0, 9, 12, 13), (0, 9, 15, 15)]) (by decide) rfl ?_
  intro p e s m args below meth c s₁ B hml hv
  obtain ⟨rfl, hsz, hP, hD0, hK, hX⟩ := hv
  have hx := B.exec
  have hb := B.bytes
  have hr := B.returns
  have hts := atoms_spec (ws := wsL_addDoor) B.pre
  have hown : s.vm.findClass RL = some m.cls := findClass_of_methodNamed B.named
  have hlocks := B.notSynchronized
  subst hsz
  have hD := hD0.self (sz := s.heap.size)
  generalize hAe : va_A (wLh ad cI cd te ri pi pw K Dn mv ko so tl lp lb ld le C cl dq dy cL ou) s.heap.size = A at hD ⊢
  have hA : ∀ q : Nat, s.heap.size ≤ q → A q := fun q h => by rw [← hAe]; exact Or.inr h
  have hl := lv_entry ([.ref (ad 14), .int r, .ref (ad 17)]) (n := 4) (Nat.le_of_ble_eq_true rfl)
  rw [lg_entry_eq]
  generalize (lg_sl ([.ref (ad 14), .int r, .ref (ad 17)]) ++ List.replicate (4 - (lg_sl ([.ref (ad 14), .int r, .ref (ad 17)])).length) Slot.unset).toArray = ls at hl ⊢
  have hl : lv_has ls 4 [(0, .ref (ad 14)), (1, .int r), (2, .ref (ad 17))] := hl
  refine W.genH (fun H locs eH eL => ?_)
  have hS : va_S A s.heap H locs := by rw [eH, eL]; exact va_S.rf
  have hP : va_P D vwCl (wLh ad cI cd te ri pi pw K Dn mv ko so tl lp lb ld le C cl dq dy cL ou) H := by rw [eH]; exact hP
  have hX : kcX (fun q => H.size ≤ q) s H := by rw [eH]; exact hX
  have htb := vx_table (x := yL_addDoor) B (hts _ List.mem_cons_self)
  clear eH eL
  refine lv_aload_n hx hb dL_addDoor_0 rfl (lv_at hl 2 rfl) ?_
  refine lv_iconst (v := 0) hx hb dL_addDoor_1 (by decide) ?_
  refine lv_aload_n hx hb dL_addDoor_2 rfl (lv_at hl 0 rfl) ?_
  refine lv_iload_n hx hb dL_addDoor_3 rfl (lv_at hl 1 rfl) ?_
  refine kc_xV (E := "java/lang/IllegalStateException") (As := [.int r]) (rest := [.int 0, .ref (ad 17)]) ⟨hx, hb, hml, hown, hts⟩ (c_X2_addDoor_f2 l hlf D ad cI cd te ri pi pw K Dn mv ko so tl lp lb ld le C cl dq dy r H.size hs hDe) (cwV 1 hts gL_addDoor_X2_addDoor rfl rfl rfl (by decide +kernel) ⟨Nat.le_of_ble_eq_true rfl, Nat.le_of_ble_eq_true rfl⟩) hK hP hX [0, 1, 2, 3, 4, 5, 6, 7, 8, 9, 10, 11, 12, 13, 14, 15, 16] [0] rfl rfl 14 rfl rfl rfl rfl hl.1 rfl (Nat.le_of_ble_eq_true rfl) dL_addDoor_4 ⟨Nat.le_of_ble_eq_true rfl, Nat.le_of_ble_eq_true rfl⟩ hS hA (fun ce q9 H1 locs1 hz hk9 hS1 hce hcv hcl => ?_)
  refine vx_catch (name := "java/lang/IllegalStateException") hown [⟨0, 9, 12, 13⟩] ⟨0, 9, 15, 15⟩ [] (htb.trans rfl) (fun z hz => by cases List.mem_singleton.mp hz; exact Or.inr ⟨by decide, "java/lang/IllegalArgumentException", hts (.classLink RL 13 "java/lang/IllegalArgumentException") (by decide +kernel), hX.2.2.2.2 ("java/lang/IllegalStateException", "java/lang/IllegalArgumentException") (by decide +kernel)⟩) (by decide) (by decide) (hts (.classLink RL 15 "java/lang/IllegalStateException") (by decide +kernel)) (va_Nw.use rfl (hX.2.2.1 (.castable "java/lang/IllegalStateException" "java/lang/IllegalStateException") (by decide +kernel))) hce hcv hcl ?_
  have hP : va_P D vwCl (wLh ad cI cd te ri pi pw K Dn mv ko so tl lp lb ld le C cl dq dy cL ou) H1 := hP.kept (fun k q h => hk9 q.1 ((hP k q h).lt))
  generalize H1 = H at hP hS1 ⊢
  generalize locs1 = locs at hS1 ⊢
  have hS := hS1
  clear hX
  refine lv_astore_n (lv' := [(3, .ref q9), (0, .ref (ad 14)), (1, .int r), (2, .ref (ad 17))]) hx hb dL_addDoor_15 rfl hl (by decide) rfl (fun ls hl => ?_)
  refine lv_iconst (v := 2) hx hb dL_addDoor_16 (by decide) ?_
  exact W.iret (v := 2) hx hb hr (fun tZ htZ hWZ => ⟨⟨_, (), rfl, rfl, by rw [htZ]; exact hP, by rw [hAe]; exact hD⟩, hS.F htZ⟩) hS.2.2 dL_addDoor_17
set_option maxHeartbeats 4000000 in
set_option maxRecDepth 100000 in
theorem c_L_cut_f2 (l : Launch) (hlf : l.stackTraces = false) (D : va_G) (ad : Nat → Nat) (cI : ClassId) (cd : Nat → Int32) (te : Nat → Int32) (ri : Nat → Int32) (pi : Nat → Int32) (pw : Nat → Int32) (K : Nat) (Dn : Nat) (mv : Int32) (ko : Nat → Int32) (so : Nat → Int32) (tl : Nat → Int32) (lp : Nat → Int32) (lb : Nat → Int32) (ld : Nat → Int32) (le : Nat → Int32) (C : Nat) (cl : Nat → Int32) (dq : Nat → Int32) (dy : Int32) (cL : ClassId) (ou : Nat → Int64) (k : Nat) (sz : Nat) (hK8 : K ≤ 8) (hk : k < K) (hCe : C = 24) : Met l yL_cut wsL_cut ({ frames := 7, cells := 1, slots := 6, locals := 111 } : Room) (hxP [.ref (ad 14), .int (nI k), .ref (ad 17)] D sz (wLh ad cI cd te ri pi pw K Dn mv ko so tl lp lb ld le C cl dq dy cL ou) [(cI, .int), (cL, .long)]) (va_Qi (fun rZ (_ : Unit) => rZ = 2) (wrB D sz (wLh ad cI cd te ri pi pw K Dn mv ko so tl lp lb ld le C cl dq dy cL ou) (wLh ad cI cd te ri pi pw K Dn mv ko so tl lp lb ld le C cl dq dy cL ou)) (va_A (wLh ad cI cd te ri pi pw K Dn mv ko so tl lp lb ld le C cl dq dy cL ou) sz)) 1 6 (va_A (wLh ad cI cd te ri pi pw K Dn mv ko so tl lp lb ld le C cl dq dy cL ou) sz) := by
  refine va_MetW (cc := cL_cut) (maxL := 4) (ret := (some .int)) (hh := [(0, 9, 12, 24), (0, 9, 15, 15)]) (by decide) rfl ?_
  intro p e s m args below meth c s₁ B hml hv
  obtain ⟨rfl, hsz, hP, hD0, hK, hX⟩ := hv
  have hx := B.exec
  have hb := B.bytes
  have hr := B.returns
  have hts := atoms_spec (ws := wsL_cut) B.pre
  have hown : s.vm.findClass RL = some m.cls := findClass_of_methodNamed B.named
  have hlocks := B.notSynchronized
  subst hsz
  have hD := hD0.self (sz := s.heap.size)
  generalize hAe : va_A (wLh ad cI cd te ri pi pw K Dn mv ko so tl lp lb ld le C cl dq dy cL ou) s.heap.size = A at hD ⊢
  have hA : ∀ q : Nat, s.heap.size ≤ q → A q := fun q h => by rw [← hAe]; exact Or.inr h
  have hl := lv_entry ([.ref (ad 14), .int (nI k), .ref (ad 17)]) (n := 4) (Nat.le_of_ble_eq_true rfl)
  rw [lg_entry_eq]
  generalize (lg_sl ([.ref (ad 14), .int (nI k), .ref (ad 17)]) ++ List.replicate (4 - (lg_sl ([.ref (ad 14), .int (nI k), .ref (ad 17)])).length) Slot.unset).toArray = ls at hl ⊢
  have hl : lv_has ls 4 [(0, .ref (ad 14)), (1, .int (nI k)), (2, .ref (ad 17))] := hl
  refine W.genH (fun H locs eH eL => ?_)
  have hS : va_S A s.heap H locs := by rw [eH, eL]; exact va_S.rf
  have hP : va_P D vwCl (wLh ad cI cd te ri pi pw K Dn mv ko so tl lp lb ld le C cl dq dy cL ou) H := by rw [eH]; exact hP
  have hX : kcX (fun q => H.size ≤ q) s H := by rw [eH]; exact hX
  have htb := vx_table (x := yL_cut) B (hts _ List.mem_cons_self)
  clear eH eL
  refine lv_aload_n hx hb dL_cut_0 rfl (lv_at hl 2 rfl) ?_
  refine lv_iconst (v := 0) hx hb dL_cut_1 (by decide) ?_
  refine lv_aload_n hx hb dL_cut_2 rfl (lv_at hl 0 rfl) ?_
  refine lv_iload_n hx hb dL_cut_3 rfl (lv_at hl 1 rfl) ?_
  refine kc_xV (E := "java/lang/IllegalStateException") (As := [.int (nI k)]) (rest := [.int 0, .ref (ad 17)]) ⟨hx, hb, hml, hown, hts⟩ (c_X2_cut_f2 l hlf D ad cI cd te ri pi pw K Dn mv ko so tl lp lb ld le C cl dq dy k H.size hK8 hk hCe) (cwV 1 hts gL_cut_X2_cut rfl rfl rfl (by decide +kernel) ⟨Nat.le_of_ble_eq_true rfl, Nat.le_of_ble_eq_true rfl⟩) hK hP hX [0, 1, 2, 3, 4, 5, 6, 7, 8, 9, 10, 11, 12, 13, 14, 15, 16] [0] rfl rfl 14 rfl rfl rfl rfl hl.1 rfl (Nat.le_of_ble_eq_true rfl) dL_cut_4 ⟨Nat.le_of_ble_eq_true rfl, Nat.le_of_ble_eq_true rfl⟩ hS hA (fun ce q9 H1 locs1 hz hk9 hS1 hce hcv hcl => ?_)
  refine vx_catch (name := "java/lang/IllegalStateException") hown [⟨0, 9, 12, 24⟩] ⟨0, 9, 15, 15⟩ [] (htb.trans rfl) (fun z hz => by cases List.mem_singleton.mp hz; exact Or.inr ⟨by decide, "java/lang/IndexOutOfBoundsException", hts (.classLink RL 24 "java/lang/IndexOutOfBoundsException") (by decide +kernel), hX.2.2.2.2 ("java/lang/IllegalStateException", "java/lang/IndexOutOfBoundsException") (by decide +kernel)⟩) (by decide) (by decide) (hts (.classLink RL 15 "java/lang/IllegalStateException") (by decide +kernel)) (va_Nw.use rfl (hX.2.2.1 (.castable "java/lang/IllegalStateException" "java/lang/IllegalStateException") (by decide +kernel))) hce hcv hcl ?_
  have hP : va_P D vwCl (wLh ad cI cd te ri pi pw K Dn mv ko so tl lp lb ld le C cl dq dy cL ou) H1 := hP.kept (fun k q h => hk9 q.1 ((hP k q h).lt))
  generalize H1 = H at hP hS1 ⊢
  generalize locs1 = locs at hS1 ⊢
  have hS := hS1
  clear hX
  refine lv_astore_n (lv' := [(3, .ref q9), (0, .ref (ad 14)), (1, .int (nI k)), (2, .ref (ad 17))]) hx hb dL_cut_15 rfl hl (by decide) rfl (fun ls hl => ?_)
  refine lv_iconst (v := 2) hx hb dL_cut_16 (by decide) ?_
  exact W.iret (v := 2) hx hb hr (fun tZ htZ hWZ => ⟨⟨_, (), rfl, rfl, by rw [htZ]; exact hP, by rw [hAe]; exact hD⟩, hS.F htZ⟩) hS.2.2 dL_cut_17
set_option maxHeartbeats 4000000 in
set_option maxRecDepth 100000 in
theorem c_L_lend_f1 (l : Launch) (hlf : l.stackTraces = false) (D : va_G) (ad : Nat → Nat) (cI : ClassId) (cd : Nat → Int32) (te : Nat → Int32) (ri : Nat → Int32) (pi : Nat → Int32) (pw : Nat → Int32) (K : Nat) (Dn : Nat) (mv : Int32) (ko : Nat → Int32) (so : Nat → Int32) (tl : Nat → Int32) (lp : Nat → Int32) (lb : Nat → Int32) (ld : Nat → Int32) (le : Nat → Int32) (C : Nat) (cl : Nat → Int32) (dq : Nat → Int32) (dy : Int32) (cL : ClassId) (ou : Nat → Int64) (x : Int32) (pe : Int32) (dz : Int32) (sz : Nat) (hBad : ¬ jIn C x = true) : Met l yL_lend wsL_lend ({ frames := 8, cells := 1, slots := 6, locals := 135 } : Room) (hxP [.ref (ad 14), .int x, .int pe, .int dz, .ref (ad 17)] D sz (wLh ad cI cd te ri pi pw K Dn mv ko so tl lp lb ld le C cl dq dy cL ou) [(cI, .int), (cL, .long)]) (va_Qi (fun rZ (_ : Unit) => rZ = 1) (wrB D sz (wLh ad cI cd te ri pi pw K Dn mv ko so tl lp lb ld le C cl dq dy cL ou) (wLh ad cI cd te ri pi pw K Dn mv ko so tl lp lb ld le C cl dq dy cL ou)) (va_A (wLh ad cI cd te ri pi pw K Dn mv ko so tl lp lb ld le C cl dq dy cL ou) sz)) 1 6 (va_A (wLh ad cI cd te ri pi pw K Dn mv ko so tl lp lb ld le C cl dq dy cL ou) sz) := by
  refine va_MetW (cc := cL_lend) (maxL := 6) (ret := (some .int)) (hh := [(0, 12, 15, 24), (0, 12, 19, 13), (0, 12, 23, 15)]) (by decide) rfl ?_
  intro p e s m args below meth c s₁ B hml hv
  obtain ⟨rfl, hsz, hP, hD0, hK, hX⟩ := hv
  have hx := B.exec
  have hb := B.bytes
  have hr := B.returns
  have hts := atoms_spec (ws := wsL_lend) B.pre
  have hown : s.vm.findClass RL = some m.cls := findClass_of_methodNamed B.named
  have hlocks := B.notSynchronized
  subst hsz
  have hD := hD0.self (sz := s.heap.size)
  generalize hAe : va_A (wLh ad cI cd te ri pi pw K Dn mv ko so tl lp lb ld le C cl dq dy cL ou) s.heap.size = A at hD ⊢
  have hA : ∀ q : Nat, s.heap.size ≤ q → A q := fun q h => by rw [← hAe]; exact Or.inr h
  have hl := lv_entry ([.ref (ad 14), .int x, .int pe, .int dz, .ref (ad 17)]) (n := 6) (Nat.le_of_ble_eq_true rfl)
  rw [lg_entry_eq]
  generalize (lg_sl ([.ref (ad 14), .int x, .int pe, .int dz, .ref (ad 17)]) ++ List.replicate (6 - (lg_sl ([.ref (ad 14), .int x, .int pe, .int dz, .ref (ad 17)])).length) Slot.unset).toArray = ls at hl ⊢
  have hl : lv_has ls 6 [(0, .ref (ad 14)), (1, .int x), (2, .int pe), (3, .int dz), (4, .ref (ad 17))] := hl
  refine W.genH (fun H locs eH eL => ?_)
  have hS : va_S A s.heap H locs := by rw [eH, eL]; exact va_S.rf
  have hP : va_P D vwCl (wLh ad cI cd te ri pi pw K Dn mv ko so tl lp lb ld le C cl dq dy cL ou) H := by rw [eH]; exact hP
  have hX : kcX (fun q => H.size ≤ q) s H := by rw [eH]; exact hX
  have htb := vx_table (x := yL_lend) B (hts _ List.mem_cons_self)
  clear eH eL
  refine lv_aload hx hb dL_lend_0 (lv_at hl 4 rfl) ?_
  refine lv_iconst (v := 0) hx hb dL_lend_2 (by decide) ?_
  refine lv_aload_n hx hb dL_lend_3 rfl (lv_at hl 0 rfl) ?_
  refine lv_iload_n hx hb dL_lend_4 rfl (lv_at hl 1 rfl) ?_
  refine lv_iload_n hx hb dL_lend_5 rfl (lv_at hl 2 rfl) ?_
  refine lv_iload_n hx hb dL_lend_6 rfl (lv_at hl 3 rfl) ?_
  refine kc_xV (E := "java/lang/IndexOutOfBoundsException") (As := [.int x, .int pe, .int dz]) (rest := [.int 0, .ref (ad 17)]) ⟨hx, hb, hml, hown, hts⟩ (c_X2_lend_f1 l hlf D ad cI cd te ri pi pw K Dn mv ko so tl lp lb ld le C cl dq dy x pe dz H.size hBad) (cwV 3 hts gL_lend_X2_lend rfl rfl rfl (by decide +kernel) ⟨Nat.le_of_ble_eq_true rfl, Nat.le_of_ble_eq_true rfl⟩) hK hP hX [0, 1, 2, 3, 4, 5, 6, 7, 8, 9, 10, 11, 12, 13, 14, 15, 16] [0] rfl rfl 14 rfl rfl rfl rfl hl.1 rfl (Nat.le_of_ble_eq_true rfl) dL_lend_7 ⟨Nat.le_of_ble_eq_true rfl, Nat.le_of_ble_eq_true rfl⟩ hS hA (fun ce q9 H1 locs1 hz hk9 hS1 hce hcv hcl => ?_)
  refine vx_catch (name := "java/lang/IndexOutOfBoundsException") hown [] ⟨0, 12, 15, 24⟩ [⟨0, 12, 19, 13⟩, ⟨0, 12, 23, 15⟩] (htb.trans rfl) (fun z hz => nomatch hz) (by decide) (by decide) (hts (.classLink RL 24 "java/lang/IndexOutOfBoundsException") (by decide +kernel)) (va_Nw.use rfl (hX.2.2.1 (.castable "java/lang/IndexOutOfBoundsException" "java/lang/IndexOutOfBoundsException") (by decide +kernel))) hce hcv hcl ?_
  have hP : va_P D vwCl (wLh ad cI cd te ri pi pw K Dn mv ko so tl lp lb ld le C cl dq dy cL ou) H1 := hP.kept (fun k q h => hk9 q.1 ((hP k q h).lt))
  generalize H1 = H at hP hS1 ⊢
  generalize locs1 = locs at hS1 ⊢
  have hS := hS1
  clear hX
  refine lv_astore (lv' := [(5, .ref q9), (0, .ref (ad 14)), (1, .int x), (2, .int pe), (3, .int dz), (4, .ref (ad 17))]) hx hb dL_lend_15 hl (by decide) rfl (fun ls hl => ?_)
  refine lv_iconst (v := 1) hx hb dL_lend_17 (by decide) ?_
  exact W.iret (v := 1) hx hb hr (fun tZ htZ hWZ => ⟨⟨_, (), rfl, rfl, by rw [htZ]; exact hP, by rw [hAe]; exact hD⟩, hS.F htZ⟩) hS.2.2 dL_lend_18
set_option maxHeartbeats 4000000 in
set_option maxRecDepth 100000 in
theorem c_L_lend_f1b (l : Launch) (hlf : l.stackTraces = false) (D : va_G) (ad : Nat → Nat) (cI : ClassId) (cd : Nat → Int32) (te : Nat → Int32) (ri : Nat → Int32) (pi : Nat → Int32) (pw : Nat → Int32) (K : Nat) (Dn : Nat) (mv : Int32) (ko : Nat → Int32) (so : Nat → Int32) (tl : Nat → Int32) (lp : Nat → Int32) (lb : Nat → Int32) (ld : Nat → Int32) (le : Nat → Int32) (C : Nat) (cl : Nat → Int32) (dq : Nat → Int32) (dy : Int32) (cL : ClassId) (ou : Nat → Int64) (cx : Nat) (pe : Int32) (dz : Int32) (sz : Nat) (hC24 : C ≤ 24) (hc : cx < C) (hBad : ¬ jIn 8 pe = true) : Met l yL_lend wsL_lend ({ frames := 8, cells := 1, slots := 6, locals := 135 } : Room) (hxP [.ref (ad 14), .int (nI cx), .int pe, .int dz, .ref (ad 17)] D sz (wLh ad cI cd te ri pi pw K Dn mv ko so tl lp lb ld le C cl dq dy cL ou) [(cI, .int), (cL, .long)]) (va_Qi (fun rZ (_ : Unit) => rZ = 1) (wrB D sz (wLh ad cI cd te ri pi pw K Dn mv ko so tl lp lb ld le C cl dq dy cL ou) (wLh ad cI cd te ri pi pw K Dn mv ko so tl lp lb ld le C cl dq dy cL ou)) (va_A (wLh ad cI cd te ri pi pw K Dn mv ko so tl lp lb ld le C cl dq dy cL ou) sz)) 1 6 (va_A (wLh ad cI cd te ri pi pw K Dn mv ko so tl lp lb ld le C cl dq dy cL ou) sz) := by
  refine va_MetW (cc := cL_lend) (maxL := 6) (ret := (some .int)) (hh := [(0, 12, 15, 24), (0, 12, 19, 13), (0, 12, 23, 15)]) (by decide) rfl ?_
  intro p e s m args below meth c s₁ B hml hv
  obtain ⟨rfl, hsz, hP, hD0, hK, hX⟩ := hv
  have hx := B.exec
  have hb := B.bytes
  have hr := B.returns
  have hts := atoms_spec (ws := wsL_lend) B.pre
  have hown : s.vm.findClass RL = some m.cls := findClass_of_methodNamed B.named
  have hlocks := B.notSynchronized
  subst hsz
  have hD := hD0.self (sz := s.heap.size)
  generalize hAe : va_A (wLh ad cI cd te ri pi pw K Dn mv ko so tl lp lb ld le C cl dq dy cL ou) s.heap.size = A at hD ⊢
  have hA : ∀ q : Nat, s.heap.size ≤ q → A q := fun q h => by rw [← hAe]; exact Or.inr h
  have hl := lv_entry ([.ref (ad 14), .int (nI cx), .int pe, .int dz, .ref (ad 17)]) (n := 6) (Nat.le_of_ble_eq_true rfl)
  rw [lg_entry_eq]
  generalize (lg_sl ([.ref (ad 14), .int (nI cx), .int pe, .int dz, .ref (ad 17)]) ++ List.replicate (6 - (lg_sl ([.ref (ad 14), .int (nI cx), .int pe, .int dz, .ref (ad 17)])).length) Slot.unset).toArray = ls at hl ⊢
  have hl : lv_has ls 6 [(0, .ref (ad 14)), (1, .int (nI cx)), (2, .int pe), (3, .int dz), (4, .ref (ad 17))] := hl
  refine W.genH (fun H locs eH eL => ?_)
  have hS : va_S A s.heap H locs := by rw [eH, eL]; exact va_S.rf
  have hP : va_P D vwCl (wLh ad cI cd te ri pi pw K Dn mv ko so tl lp lb ld le C cl dq dy cL ou) H := by rw [eH]; exact hP
  have hX : kcX (fun q => H.size ≤ q) s H := by rw [eH]; exact hX
  have htb := vx_table (x := yL_lend) B (hts _ List.mem_cons_self)
  clear eH eL
  refine lv_aload hx hb dL_lend_0 (lv_at hl 4 rfl) ?_
  refine lv_iconst (v := 0) hx hb dL_lend_2 (by decide) ?_
  refine lv_aload_n hx hb dL_lend_3 rfl (lv_at hl 0 rfl) ?_
  refine lv_iload_n hx hb dL_lend_4 rfl (lv_at hl 1 rfl) ?_
  refine lv_iload_n hx hb dL_lend_5 rfl (lv_at hl 2 rfl) ?_
  refine lv_iload_n hx hb dL_lend_6 rfl (lv_at hl 3 rfl) ?_
  refine kc_xV (E := "java/lang/IndexOutOfBoundsException") (As := [.int (nI cx), .int pe, .int dz]) (rest := [.int 0, .ref (ad 17)]) ⟨hx, hb, hml, hown, hts⟩ (c_X2_lend_f1b l hlf D ad cI cd te ri pi pw K Dn mv ko so tl lp lb ld le C cl dq dy cx pe dz H.size hC24 hc hBad) (cwV 3 hts gL_lend_X2_lend rfl rfl rfl (by decide +kernel) ⟨Nat.le_of_ble_eq_true rfl, Nat.le_of_ble_eq_true rfl⟩) hK hP hX [0, 1, 2, 3, 4, 5, 6, 7, 8, 9, 10, 11, 12, 13, 14, 15, 16] [0] rfl rfl 14 rfl rfl rfl rfl hl.1 rfl (Nat.le_of_ble_eq_true rfl) dL_lend_7 ⟨Nat.le_of_ble_eq_true rfl, Nat.le_of_ble_eq_true rfl⟩ hS hA (fun ce q9 H1 locs1 hz hk9 hS1 hce hcv hcl => ?_)
  refine vx_catch (name := "java/lang/IndexOutOfBoundsException") hown [] ⟨0, 12, 15, 24⟩ [⟨0, 12, 19, 13⟩, ⟨0, 12, 23, 15⟩] (htb.trans rfl) (fun z hz => nomatch hz) (by decide) (by decide) (hts (.classLink RL 24 "java/lang/IndexOutOfBoundsException") (by decide +kernel)) (va_Nw.use rfl (hX.2.2.1 (.castable "java/lang/IndexOutOfBoundsException" "java/lang/IndexOutOfBoundsException") (by decide +kernel))) hce hcv hcl ?_
  have hP : va_P D vwCl (wLh ad cI cd te ri pi pw K Dn mv ko so tl lp lb ld le C cl dq dy cL ou) H1 := hP.kept (fun k q h => hk9 q.1 ((hP k q h).lt))
  generalize H1 = H at hP hS1 ⊢
  generalize locs1 = locs at hS1 ⊢
  have hS := hS1
  clear hX
  refine lv_astore (lv' := [(5, .ref q9), (0, .ref (ad 14)), (1, .int (nI cx)), (2, .int pe), (3, .int dz), (4, .ref (ad 17))]) hx hb dL_lend_15 hl (by decide) rfl (fun ls hl => ?_)
  refine lv_iconst (v := 1) hx hb dL_lend_17 (by decide) ?_
  exact W.iret (v := 1) hx hb hr (fun tZ htZ hWZ => ⟨⟨_, (), rfl, rfl, by rw [htZ]; exact hP, by rw [hAe]; exact hD⟩, hS.F htZ⟩) hS.2.2 dL_lend_18
set_option maxHeartbeats 4000000 in
set_option maxRecDepth 100000 in
theorem c_L_lend_f2 (l : Launch) (hlf : l.stackTraces = false) (D : va_G) (ad : Nat → Nat) (cI : ClassId) (cd : Nat → Int32) (te : Nat → Int32) (ri : Nat → Int32) (pi : Nat → Int32) (pw : Nat → Int32) (K : Nat) (Dn : Nat) (mv : Int32) (ko : Nat → Int32) (so : Nat → Int32) (tl : Nat → Int32) (lp : Nat → Int32) (lb : Nat → Int32) (ld : Nat → Int32) (le : Nat → Int32) (C : Nat) (cl : Nat → Int32) (dq : Nat → Int32) (dy : Int32) (cL : ClassId) (ou : Nat → Int64) (cx : Nat) (pe : Int32) (dz : Int32) (sz : Nat) (hC24 : C ≤ 24) (hc : cx < C) (hp : jIn 8 pe = true) (hz : dz < 1 ∨ (99 : Int32) < dz) : Met l yL_lend wsL_lend ({ frames := 8, cells := 1, slots := 6, locals := 135 } : Room) (hxP [.ref (ad 14), .int (nI cx), .int pe, .int dz, .ref (ad 17)] D sz (wLh ad cI cd te ri pi pw K Dn mv ko so tl lp lb ld le C cl dq dy cL ou) [(cI, .int), (cL, .long)]) (va_Qi (fun rZ (_ : Unit) => rZ = 2) (wrB D sz (wLh ad cI cd te ri pi pw K Dn mv ko so tl lp lb ld le C cl dq dy cL ou) (wLh ad cI cd te ri pi pw K Dn mv ko so tl lp lb ld le C cl dq dy cL ou)) (va_A (wLh ad cI cd te ri pi pw K Dn mv ko so tl lp lb ld le C cl dq dy cL ou) sz)) 1 6 (va_A (wLh ad cI cd te ri pi pw K Dn mv ko so tl lp lb ld le C cl dq dy cL ou) sz) := by
  refine va_MetW (cc := cL_lend) (maxL := 6) (ret := (some .int)) (hh := [(0, 12, 15, 24), (0, 12, 19, 13), (0, 12, 23, 15)]) (by decide) rfl ?_
  intro p e s m args below meth c s₁ B hml hv
  obtain ⟨rfl, hsz, hP, hD0, hK, hX⟩ := hv
  have hx := B.exec
  have hb := B.bytes
  have hr := B.returns
  have hts := atoms_spec (ws := wsL_lend) B.pre
  have hown : s.vm.findClass RL = some m.cls := findClass_of_methodNamed B.named
  have hlocks := B.notSynchronized
  subst hsz
  have hD := hD0.self (sz := s.heap.size)
  generalize hAe : va_A (wLh ad cI cd te ri pi pw K Dn mv ko so tl lp lb ld le C cl dq dy cL ou) s.heap.size = A at hD ⊢
  have hA : ∀ q : Nat, s.heap.size ≤ q → A q := fun q h => by rw [← hAe]; exact Or.inr h
  have hl := lv_entry ([.ref (ad 14), .int (nI cx), .int pe, .int dz, .ref (ad 17)]) (n := 6) (Nat.le_of_ble_eq_true rfl)
  rw [lg_entry_eq]
  generalize (lg_sl ([.ref (ad 14), .int (nI cx), .int pe, .int dz, .ref (ad 17)]) ++ List.replicate (6 - (lg_sl ([.ref (ad 14), .int (nI cx), .int pe, .int dz, .ref (ad 17)])).length) Slot.unset).toArray = ls at hl ⊢
  have hl : lv_has ls 6 [(0, .ref (ad 14)), (1, .int (nI cx)), (2, .int pe), (3, .int dz), (4, .ref (ad 17))] := hl
  refine W.genH (fun H locs eH eL => ?_)
  have hS : va_S A s.heap H locs := by rw [eH, eL]; exact va_S.rf
  have hP : va_P D vwCl (wLh ad cI cd te ri pi pw K Dn mv ko so tl lp lb ld le C cl dq dy cL ou) H := by rw [eH]; exact hP
  have hX : kcX (fun q => H.size ≤ q) s H := by rw [eH]; exact hX
  have htb := vx_table (x := yL_lend) B (hts _ List.mem_cons_self)
  clear eH eL
  refine lv_aload hx hb dL_lend_0 (lv_at hl 4 rfl) ?_
  refine lv_iconst (v := 0) hx hb dL_lend_2 (by decide) ?_
  refine lv_aload_n hx hb dL_lend_3 rfl (lv_at hl 0 rfl) ?_
  refine lv_iload_n hx hb dL_lend_4 rfl (lv_at hl 1 rfl) ?_
  refine lv_iload_n hx hb dL_lend_5 rfl (lv_at hl 2 rfl) ?_
  refine lv_iload_n hx hb dL_lend_6 rfl (lv_at hl 3 rfl) ?_
  refine kc_xV (E := "java/lang/IllegalArgumentException") (As := [.int (nI cx), .int pe, .int dz]) (rest := [.int 0, .ref (ad 17)]) ⟨hx, hb, hml, hown, hts⟩ (c_X2_lend_f2 l hlf D ad cI cd te ri pi pw K Dn mv ko so tl lp lb ld le C cl dq dy cx pe dz H.size hC24 hc hp hz) (cwV 3 hts gL_lend_X2_lend rfl rfl rfl (by decide +kernel) ⟨Nat.le_of_ble_eq_true rfl, Nat.le_of_ble_eq_true rfl⟩) hK hP hX [0, 1, 2, 3, 4, 5, 6, 7, 8, 9, 10, 11, 12, 13, 14, 15, 16] [0] rfl rfl 14 rfl rfl rfl rfl hl.1 rfl (Nat.le_of_ble_eq_true rfl) dL_lend_7 ⟨Nat.le_of_ble_eq_true rfl, Nat.le_of_ble_eq_true rfl⟩ hS hA (fun ce q9 H1 locs1 hz hk9 hS1 hce hcv hcl => ?_)
  refine vx_catch (name := "java/lang/IllegalArgumentException") hown [⟨0, 12, 15, 24⟩] ⟨0, 12, 19, 13⟩ [⟨0, 12, 23, 15⟩] (htb.trans rfl) (fun z hz => by cases List.mem_singleton.mp hz; exact Or.inr ⟨by decide, "java/lang/IndexOutOfBoundsException", hts (.classLink RL 24 "java/lang/IndexOutOfBoundsException") (by decide +kernel), hX.2.2.2.2 ("java/lang/IllegalArgumentException", "java/lang/IndexOutOfBoundsException") (by decide +kernel)⟩) (by decide) (by decide) (hts (.classLink RL 13 "java/lang/IllegalArgumentException") (by decide +kernel)) (va_Nw.use rfl (hX.2.2.1 (.castable "java/lang/IllegalArgumentException" "java/lang/IllegalArgumentException") (by decide +kernel))) hce hcv hcl ?_
  have hP : va_P D vwCl (wLh ad cI cd te ri pi pw K Dn mv ko so tl lp lb ld le C cl dq dy cL ou) H1 := hP.kept (fun k q h => hk9 q.1 ((hP k q h).lt))
  generalize H1 = H at hP hS1 ⊢
  generalize locs1 = locs at hS1 ⊢
  have hS := hS1
  clear hX
  refine lv_astore (lv' := [(5, .ref q9), (0, .ref (ad 14)), (1, .int (nI cx)), (2, .int pe), (3, .int dz), (4, .ref (ad 17))]) hx hb dL_lend_19 hl (by decide) rfl (fun ls hl => ?_)
  refine lv_iconst (v := 2) hx hb dL_lend_21 (by decide) ?_
  exact W.iret (v := 2) hx hb hr (fun tZ htZ hWZ => ⟨⟨_, (), rfl, rfl, by rw [htZ]; exact hP, by rw [hAe]; exact hD⟩, hS.F htZ⟩) hS.2.2 dL_lend_22
set_option maxHeartbeats 4000000 in
set_option maxRecDepth 100000 in
theorem c_L_lend_f3 (l : Launch) (hlf : l.stackTraces = false) (D : va_G) (ad : Nat → Nat) (cI : ClassId) (cd : Nat → Int32) (te : Nat → Int32) (ri : Nat → Int32) (pi : Nat → Int32) (pw : Nat → Int32) (K : Nat) (Dn : Nat) (mv : Int32) (ko : Nat → Int32) (so : Nat → Int32) (tl : Nat → Int32) (lp : Nat → Int32) (lb : Nat → Int32) (ld : Nat → Int32) (le : Nat → Int32) (C : Nat) (cl : Nat → Int32) (dq : Nat → Int32) (dy : Int32) (cL : ClassId) (ou : Nat → Int64) (cx : Nat) (pe : Int32) (dz : Int32) (sz : Nat) (hC24 : C ≤ 24) (hc : cx < C) (hp : jIn 8 pe = true) (hz1 : ¬ dz < 1) (hz2 : dz ≤ 99) (hcan : ¬ jCan so tl cx = true) : Met l yL_lend wsL_lend ({ frames := 7, cells := 1, slots := 6, locals := 114 } : Room) (hxP [.ref (ad 14), .int (nI cx), .int pe, .int dz, .ref (ad 17)] D sz (wLh ad cI cd te ri pi pw K Dn mv ko so tl lp lb ld le C cl dq dy cL ou) [(cI, .int), (cL, .long)]) (va_Qi (fun rZ (_ : Unit) => rZ = 3) (wrB D sz (wLh ad cI cd te ri pi pw K Dn mv ko so tl lp lb ld le C cl dq dy cL ou) (wLh ad cI cd te ri pi pw K Dn mv ko so tl lp lb ld le C cl dq dy cL ou)) (va_A (wLh ad cI cd te ri pi pw K Dn mv ko so tl lp lb ld le C cl dq dy cL ou) sz)) 1 6 (va_A (wLh ad cI cd te ri pi pw K Dn mv ko so tl lp lb ld le C cl dq dy cL ou) sz) := by
  refine va_MetW (cc := cL_lend) (maxL := 6) (ret := (some .int)) (hh := [(0, 12, 15, 24), (0, 12, 19, 13), (0, 12, 23, 15)]) (by decide) rfl ?_
  intro p e s m args below meth c s₁ B hml hv
  obtain ⟨rfl, hsz, hP, hD0, hK, hX⟩ := hv
  have hx := B.exec
  have hb := B.bytes
  have hr := B.returns
  have hts := atoms_spec (ws := wsL_lend) B.pre
  have hown : s.vm.findClass RL = some m.cls := findClass_of_methodNamed B.named
  have hlocks := B.notSynchronized
  subst hsz
  have hD := hD0.self (sz := s.heap.size)
  generalize hAe : va_A (wLh ad cI cd te ri pi pw K Dn mv ko so tl lp lb ld le C cl dq dy cL ou) s.heap.size = A at hD ⊢
  have hA : ∀ q : Nat, s.heap.size ≤ q → A q := fun q h => by rw [← hAe]; exact Or.inr h
  have hl := lv_entry ([.ref (ad 14), .int (nI cx), .int pe, .int dz, .ref (ad 17)]) (n := 6) (Nat.le_of_ble_eq_true rfl)
  rw [lg_entry_eq]
  generalize (lg_sl ([.ref (ad 14), .int (nI cx), .int pe, .int dz, .ref (ad 17)]) ++ List.replicate (6 - (lg_sl ([.ref (ad 14), .int (nI cx), .int pe, .int dz, .ref (ad 17)])).length) Slot.unset).toArray = ls at hl ⊢
  have hl : lv_has ls 6 [(0, .ref (ad 14)), (1, .int (nI cx)), (2, .int pe), (3, .int dz), (4, .ref (ad 17))] := hl
  refine W.genH (fun H locs eH eL => ?_)
  have hS : va_S A s.heap H locs := by rw [eH, eL]; exact va_S.rf
  have hP : va_P D vwCl (wLh ad cI cd te ri pi pw K Dn mv ko so tl lp lb ld le C cl dq dy cL ou) H := by rw [eH]; exact hP
  have hX : kcX (fun q => H.size ≤ q) s H := by rw [eH]; exact hX
  have htb := vx_table (x := yL_lend) B (hts _ List.mem_cons_self)
  clear eH eL
  refine lv_aload hx hb dL_lend_0 (lv_at hl 4 rfl) ?_
  refine lv_iconst (v := 0) hx hb dL_lend_2 (by decide) ?_
  refine lv_aload_n hx hb dL_lend_3 rfl (lv_at hl 0 rfl) ?_
  refine lv_iload_n hx hb dL_lend_4 rfl (lv_at hl 1 rfl) ?_
  refine lv_iload_n hx hb dL_lend_5 rfl (lv_at hl 2 rfl) ?_
  refine lv_iload_n hx hb dL_lend_6 rfl (lv_at hl 3 rfl) ?_
  refine kc_xV (E := "java/lang/IllegalStateException") (As := [.int (nI cx), .int pe, .int dz]) (rest := [.int 0, .ref (ad 17)]) ⟨hx, hb, hml, hown, hts⟩ (c_X2_lend_f3 l hlf D ad cI cd te ri pi pw K Dn mv ko so tl lp lb ld le C cl dq dy cx pe dz H.size hC24 hc hp hz1 hz2 hcan) (cwV 3 hts gL_lend_X2_lend rfl rfl rfl (by decide +kernel) ⟨Nat.le_of_ble_eq_true rfl, Nat.le_of_ble_eq_true rfl⟩) hK hP hX [0, 1, 2, 3, 4, 5, 6, 7, 8, 9, 10, 11, 12, 13, 14, 15, 16] [0] rfl rfl 14 rfl rfl rfl rfl hl.1 rfl (Nat.le_of_ble_eq_true rfl) dL_lend_7 ⟨Nat.le_of_ble_eq_true rfl, Nat.le_of_ble_eq_true rfl⟩ hS hA (fun ce q9 H1 locs1 hz hk9 hS1 hce hcv hcl => ?_)
  refine vx_catch (name := "java/lang/IllegalStateException") hown [⟨0, 12, 15, 24⟩, ⟨0, 12, 19, 13⟩] ⟨0, 12, 23, 15⟩ [] (htb.trans rfl) (fun z hz => by rcases List.mem_cons.mp hz with h | h; (cases h; exact Or.inr ⟨by decide, "java/lang/IndexOutOfBoundsException", hts (.classLink RL 24 "java/lang/IndexOutOfBoundsException") (by decide +kernel), hX.2.2.2.2 ("java/lang/IllegalStateException", "java/lang/IndexOutOfBoundsException") (by decide +kernel)⟩); (cases List.mem_singleton.mp h; exact Or.inr ⟨by decide, "java/lang/IllegalArgumentException", hts (.classLink RL 13 "java/lang/IllegalArgumentException") (by decide +kernel), hX.2.2.2.2 ("java/lang/IllegalStateException", "java/lang/IllegalArgumentException") (by decide +kernel)⟩)) (by decide) (by decide) (hts (.classLink RL 15 "java/lang/IllegalStateException") (by decide +kernel)) (va_Nw.use rfl (hX.2.2.1 (.castable "java/lang/IllegalStateException" "java/lang/IllegalStateException") (by decide +kernel))) hce hcv hcl ?_
  have hP : va_P D vwCl (wLh ad cI cd te ri pi pw K Dn mv ko so tl lp lb ld le C cl dq dy cL ou) H1 := hP.kept (fun k q h => hk9 q.1 ((hP k q h).lt))
  generalize H1 = H at hP hS1 ⊢
  generalize locs1 = locs at hS1 ⊢
  have hS := hS1
  clear hX
  refine lv_astore (lv' := [(5, .ref q9), (0, .ref (ad 14)), (1, .int (nI cx)), (2, .int pe), (3, .int dz), (4, .ref (ad 17))]) hx hb dL_lend_23 hl (by decide) rfl (fun ls hl => ?_)
  refine lv_iconst (v := 3) hx hb dL_lend_25 (by decide) ?_
  exact W.iret (v := 3) hx hb hr (fun tZ htZ hWZ => ⟨⟨_, (), rfl, rfl, by rw [htZ]; exact hP, by rw [hAe]; exact hD⟩, hS.F htZ⟩) hS.2.2 dL_lend_26
set_option maxHeartbeats 4000000 in
set_option maxRecDepth 100000 in
theorem c_L_giveBack_f2 (l : Launch) (hlf : l.stackTraces = false) (D : va_G) (ad : Nat → Nat) (cI : ClassId) (cd : Nat → Int32) (te : Nat → Int32) (ri : Nat → Int32) (pi : Nat → Int32) (pw : Nat → Int32) (K : Nat) (Dn : Nat) (mv : Int32) (ko : Nat → Int32) (so : Nat → Int32) (tl : Nat → Int32) (lp : Nat → Int32) (lb : Nat → Int32) (ld : Nat → Int32) (le : Nat → Int32) (C : Nat) (cl : Nat → Int32) (dq : Nat → Int32) (dy : Int32) (cL : ClassId) (ou : Nat → Int64) (cx : Nat) (sz : Nat) (hC24 : C ≤ 24) (hc : cx < C) (hn : ¬ so cx = 1) : Met l yL_giveBack wsL_giveBack ({ frames := 7, cells := 1, slots := 6, locals := 112 } : Room) (hxP [.ref (ad 14), .int (nI cx), .ref (ad 17)] D sz (wLh ad cI cd te ri pi pw K Dn mv ko so tl lp lb ld le C cl dq dy cL ou) [(cI, .int), (cL, .long)]) (va_Qi (fun rZ (_ : Unit) => rZ = 2) (wrB D sz (wLh ad cI cd te ri pi pw K Dn mv ko so tl lp lb ld le C cl dq dy cL ou) (wLh ad cI cd te ri pi pw K Dn mv ko so tl lp lb ld le C cl dq dy cL ou)) (va_A (wLh ad cI cd te ri pi pw K Dn mv ko so tl lp lb ld le C cl dq dy cL ou) sz)) 1 6 (va_A (wLh ad cI cd te ri pi pw K Dn mv ko so tl lp lb ld le C cl dq dy cL ou) sz) := by
  refine va_MetW (cc := cL_giveBack) (maxL := 4) (ret := (some .int)) (hh := [(0, 9, 12, 24), (0, 9, 15, 15)]) (by decide) rfl ?_
  intro p e s m args below meth c s₁ B hml hv
  obtain ⟨rfl, hsz, hP, hD0, hK, hX⟩ := hv
  have hx := B.exec
  have hb := B.bytes
  have hr := B.returns
  have hts := atoms_spec (ws := wsL_giveBack) B.pre
  have hown : s.vm.findClass RL = some m.cls := findClass_of_methodNamed B.named
  have hlocks := B.notSynchronized
  subst hsz
  have hD := hD0.self (sz := s.heap.size)
  generalize hAe : va_A (wLh ad cI cd te ri pi pw K Dn mv ko so tl lp lb ld le C cl dq dy cL ou) s.heap.size = A at hD ⊢
  have hA : ∀ q : Nat, s.heap.size ≤ q → A q := fun q h => by rw [← hAe]; exact Or.inr h
  have hl := lv_entry ([.ref (ad 14), .int (nI cx), .ref (ad 17)]) (n := 4) (Nat.le_of_ble_eq_true rfl)
  rw [lg_entry_eq]
  generalize (lg_sl ([.ref (ad 14), .int (nI cx), .ref (ad 17)]) ++ List.replicate (4 - (lg_sl ([.ref (ad 14), .int (nI cx), .ref (ad 17)])).length) Slot.unset).toArray = ls at hl ⊢
  have hl : lv_has ls 4 [(0, .ref (ad 14)), (1, .int (nI cx)), (2, .ref (ad 17))] := hl
  refine W.genH (fun H locs eH eL => ?_)
  have hS : va_S A s.heap H locs := by rw [eH, eL]; exact va_S.rf
  have hP : va_P D vwCl (wLh ad cI cd te ri pi pw K Dn mv ko so tl lp lb ld le C cl dq dy cL ou) H := by rw [eH]; exact hP
  have hX : kcX (fun q => H.size ≤ q) s H := by rw [eH]; exact hX
  have htb := vx_table (x := yL_giveBack) B (hts _ List.mem_cons_self)
  clear eH eL
  refine lv_aload_n hx hb dL_giveBack_0 rfl (lv_at hl 2 rfl) ?_
  refine lv_iconst (v := 0) hx hb dL_giveBack_1 (by decide) ?_
  refine lv_aload_n hx hb dL_giveBack_2 rfl (lv_at hl 0 rfl) ?_
  refine lv_iload_n hx hb dL_giveBack_3 rfl (lv_at hl 1 rfl) ?_
  refine kc_xV (E := "java/lang/IllegalStateException") (As := [.int (nI cx)]) (rest := [.int 0, .ref (ad 17)]) ⟨hx, hb, hml, hown, hts⟩ (c_X2_giveBack_f2 l hlf D ad cI cd te ri pi pw K Dn mv ko so tl lp lb ld le C cl dq dy cx H.size hC24 hc hn) (cwV 1 hts gL_giveBack_X2_giveBack rfl rfl rfl (by decide +kernel) ⟨Nat.le_of_ble_eq_true rfl, Nat.le_of_ble_eq_true rfl⟩) hK hP hX [0, 1, 2, 3, 4, 5, 6, 7, 8, 9, 10, 11, 12, 13, 14, 15, 16] [0] rfl rfl 14 rfl rfl rfl rfl hl.1 rfl (Nat.le_of_ble_eq_true rfl) dL_giveBack_4 ⟨Nat.le_of_ble_eq_true rfl, Nat.le_of_ble_eq_true rfl⟩ hS hA (fun ce q9 H1 locs1 hz hk9 hS1 hce hcv hcl => ?_)
  refine vx_catch (name := "java/lang/IllegalStateException") hown [⟨0, 9, 12, 24⟩] ⟨0, 9, 15, 15⟩ [] (htb.trans rfl) (fun z hz => by cases List.mem_singleton.mp hz; exact Or.inr ⟨by decide, "java/lang/IndexOutOfBoundsException", hts (.classLink RL 24 "java/lang/IndexOutOfBoundsException") (by decide +kernel), hX.2.2.2.2 ("java/lang/IllegalStateException", "java/lang/IndexOutOfBoundsException") (by decide +kernel)⟩) (by decide) (by decide) (hts (.classLink RL 15 "java/lang/IllegalStateException") (by decide +kernel)) (va_Nw.use rfl (hX.2.2.1 (.castable "java/lang/IllegalStateException" "java/lang/IllegalStateException") (by decide +kernel))) hce hcv hcl ?_
  have hP : va_P D vwCl (wLh ad cI cd te ri pi pw K Dn mv ko so tl lp lb ld le C cl dq dy cL ou) H1 := hP.kept (fun k q h => hk9 q.1 ((hP k q h).lt))
  generalize H1 = H at hP hS1 ⊢
  generalize locs1 = locs at hS1 ⊢
  have hS := hS1
  clear hX
  refine lv_astore_n (lv' := [(3, .ref q9), (0, .ref (ad 14)), (1, .int (nI cx)), (2, .ref (ad 17))]) hx hb dL_giveBack_15 rfl hl (by decide) rfl (fun ls hl => ?_)
  refine lv_iconst (v := 2) hx hb dL_giveBack_16 (by decide) ?_
  exact W.iret (v := 2) hx hb hr (fun tZ htZ hWZ => ⟨⟨_, (), rfl, rfl, by rw [htZ]; exact hP, by rw [hAe]; exact hD⟩, hS.F htZ⟩) hS.2.2 dL_giveBack_17
set_option maxHeartbeats 4000000 in
set_option maxRecDepth 100000 in
theorem c_L_lose_f2 (l : Launch) (hlf : l.stackTraces = false) (D : va_G) (ad : Nat → Nat) (cI : ClassId) (cd : Nat → Int32) (te : Nat → Int32) (ri : Nat → Int32) (pi : Nat → Int32) (pw : Nat → Int32) (K : Nat) (Dn : Nat) (mv : Int32) (ko : Nat → Int32) (so : Nat → Int32) (tl : Nat → Int32) (lp : Nat → Int32) (lb : Nat → Int32) (ld : Nat → Int32) (le : Nat → Int32) (C : Nat) (cl : Nat → Int32) (dq : Nat → Int32) (dy : Int32) (cL : ClassId) (ou : Nat → Int64) (cx : Nat) (sz : Nat) (hC24 : C ≤ 24) (hc : cx < C) (hn : so cx = 2 ∨ so cx = 3) : Met l yL_lose wsL_lose ({ frames := 7, cells := 1, slots := 6, locals := 112 } : Room) (hxP [.ref (ad 14), .int (nI cx), .ref (ad 17)] D sz (wLh ad cI cd te ri pi pw K Dn mv ko so tl lp lb ld le C cl dq dy cL ou) [(cI, .int), (cL, .long)]) (va_Qi (fun rZ (_ : Unit) => rZ = 2) (wrB D sz (wLh ad cI cd te ri pi pw K Dn mv ko so tl lp lb ld le C cl dq dy cL ou) (wLh ad cI cd te ri pi pw K Dn mv ko so tl lp lb ld le C cl dq dy cL ou)) (va_A (wLh ad cI cd te ri pi pw K Dn mv ko so tl lp lb ld le C cl dq dy cL ou) sz)) 1 6 (va_A (wLh ad cI cd te ri pi pw K Dn mv ko so tl lp lb ld le C cl dq dy cL ou) sz) := by
  refine va_MetW (cc := cL_lose) (maxL := 4) (ret := (some .int)) (hh := [(0, 9, 12, 24), (0, 9, 15, 15)]) (by decide) rfl ?_
  intro p e s m args below meth c s₁ B hml hv
  obtain ⟨rfl, hsz, hP, hD0, hK, hX⟩ := hv
  have hx := B.exec
  have hb := B.bytes
  have hr := B.returns
  have hts := atoms_spec (ws := wsL_lose) B.pre
  have hown : s.vm.findClass RL = some m.cls := findClass_of_methodNamed B.named
  have hlocks := B.notSynchronized
  subst hsz
  have hD := hD0.self (sz := s.heap.size)
  generalize hAe : va_A (wLh ad cI cd te ri pi pw K Dn mv ko so tl lp lb ld le C cl dq dy cL ou) s.heap.size = A at hD ⊢
  have hA : ∀ q : Nat, s.heap.size ≤ q → A q := fun q h => by rw [← hAe]; exact Or.inr h
  have hl := lv_entry ([.ref (ad 14), .int (nI cx), .ref (ad 17)]) (n := 4) (Nat.le_of_ble_eq_true rfl)
  rw [lg_entry_eq]
  generalize (lg_sl ([.ref (ad 14), .int (nI cx), .ref (ad 17)]) ++ List.replicate (4 - (lg_sl ([.ref (ad 14), .int (nI cx), .ref (ad 17)])).length) Slot.unset).toArray = ls at hl ⊢
  have hl : lv_has ls 4 [(0, .ref (ad 14)), (1, .int (nI cx)), (2, .ref (ad 17))] := hl
  refine W.genH (fun H locs eH eL => ?_)
  have hS : va_S A s.heap H locs := by rw [eH, eL]; exact va_S.rf
  have hP : va_P D vwCl (wLh ad cI cd te ri pi pw K Dn mv ko so tl lp lb ld le C cl dq dy cL ou) H := by rw [eH]; exact hP
  have hX : kcX (fun q => H.size ≤ q) s H := by rw [eH]; exact hX
  have htb := vx_table (x := yL_lose) B (hts _ List.mem_cons_self)
  clear eH eL
  refine lv_aload_n hx hb dL_lose_0 rfl (lv_at hl 2 rfl) ?_
  refine lv_iconst (v := 0) hx hb dL_lose_1 (by decide) ?_
  refine lv_aload_n hx hb dL_lose_2 rfl (lv_at hl 0 rfl) ?_
  refine lv_iload_n hx hb dL_lose_3 rfl (lv_at hl 1 rfl) ?_
  refine kc_xV (E := "java/lang/IllegalStateException") (As := [.int (nI cx)]) (rest := [.int 0, .ref (ad 17)]) ⟨hx, hb, hml, hown, hts⟩ (c_X2_lose_f2 l hlf D ad cI cd te ri pi pw K Dn mv ko so tl lp lb ld le C cl dq dy cx H.size hC24 hc hn) (cwV 1 hts gL_lose_X2_lose rfl rfl rfl (by decide +kernel) ⟨Nat.le_of_ble_eq_true rfl, Nat.le_of_ble_eq_true rfl⟩) hK hP hX [0, 1, 2, 3, 4, 5, 6, 7, 8, 9, 10, 11, 12, 13, 14, 15, 16] [0] rfl rfl 14 rfl rfl rfl rfl hl.1 rfl (Nat.le_of_ble_eq_true rfl) dL_lose_4 ⟨Nat.le_of_ble_eq_true rfl, Nat.le_of_ble_eq_true rfl⟩ hS hA (fun ce q9 H1 locs1 hz hk9 hS1 hce hcv hcl => ?_)
  refine vx_catch (name := "java/lang/IllegalStateException") hown [⟨0, 9, 12, 24⟩] ⟨0, 9, 15, 15⟩ [] (htb.trans rfl) (fun z hz => by cases List.mem_singleton.mp hz; exact Or.inr ⟨by decide, "java/lang/IndexOutOfBoundsException", hts (.classLink RL 24 "java/lang/IndexOutOfBoundsException") (by decide +kernel), hX.2.2.2.2 ("java/lang/IllegalStateException", "java/lang/IndexOutOfBoundsException") (by decide +kernel)⟩) (by decide) (by decide) (hts (.classLink RL 15 "java/lang/IllegalStateException") (by decide +kernel)) (va_Nw.use rfl (hX.2.2.1 (.castable "java/lang/IllegalStateException" "java/lang/IllegalStateException") (by decide +kernel))) hce hcv hcl ?_
  have hP : va_P D vwCl (wLh ad cI cd te ri pi pw K Dn mv ko so tl lp lb ld le C cl dq dy cL ou) H1 := hP.kept (fun k q h => hk9 q.1 ((hP k q h).lt))
  generalize H1 = H at hP hS1 ⊢
  generalize locs1 = locs at hS1 ⊢
  have hS := hS1
  clear hX
  refine lv_astore_n (lv' := [(3, .ref q9), (0, .ref (ad 14)), (1, .int (nI cx)), (2, .ref (ad 17))]) hx hb dL_lose_15 rfl hl (by decide) rfl (fun ls hl => ?_)
  refine lv_iconst (v := 2) hx hb dL_lose_16 (by decide) ?_
  exact W.iret (v := 2) hx hb hr (fun tZ htZ hWZ => ⟨⟨_, (), rfl, rfl, by rw [htZ]; exact hP, by rw [hAe]; exact hD⟩, hS.F htZ⟩) hS.2.2 dL_lose_17
set_option maxHeartbeats 4000000 in
set_option maxRecDepth 100000 in
theorem c_L_find_f2 (l : Launch) (hlf : l.stackTraces = false) (D : va_G) (ad : Nat → Nat) (cI : ClassId) (cd : Nat → Int32) (te : Nat → Int32) (ri : Nat → Int32) (pi : Nat → Int32) (pw : Nat → Int32) (K : Nat) (Dn : Nat) (mv : Int32) (ko : Nat → Int32) (so : Nat → Int32) (tl : Nat → Int32) (lp : Nat → Int32) (lb : Nat → Int32) (ld : Nat → Int32) (le : Nat → Int32) (C : Nat) (cl : Nat → Int32) (dq : Nat → Int32) (dy : Int32) (cL : ClassId) (ou : Nat → Int64) (cx : Nat) (sz : Nat) (hC24 : C ≤ 24) (hc : cx < C) (hn : ¬ so cx = 2) : Met l yL_find wsL_find ({ frames := 7, cells := 1, slots := 6, locals := 111 } : Room) (hxP [.ref (ad 14), .int (nI cx), .ref (ad 17)] D sz (wLh ad cI cd te ri pi pw K Dn mv ko so tl lp lb ld le C cl dq dy cL ou) [(cI, .int), (cL, .long)]) (va_Qi (fun rZ (_ : Unit) => rZ = 2) (wrB D sz (wLh ad cI cd te ri pi pw K Dn mv ko so tl lp lb ld le C cl dq dy cL ou) (wLh ad cI cd te ri pi pw K Dn mv ko so tl lp lb ld le C cl dq dy cL ou)) (va_A (wLh ad cI cd te ri pi pw K Dn mv ko so tl lp lb ld le C cl dq dy cL ou) sz)) 1 6 (va_A (wLh ad cI cd te ri pi pw K Dn mv ko so tl lp lb ld le C cl dq dy cL ou) sz) := by
  refine va_MetW (cc := cL_find) (maxL := 4) (ret := (some .int)) (hh := [(0, 9, 12, 24), (0, 9, 15, 15)]) (by decide) rfl ?_
  intro p e s m args below meth c s₁ B hml hv
  obtain ⟨rfl, hsz, hP, hD0, hK, hX⟩ := hv
  have hx := B.exec
  have hb := B.bytes
  have hr := B.returns
  have hts := atoms_spec (ws := wsL_find) B.pre
  have hown : s.vm.findClass RL = some m.cls := findClass_of_methodNamed B.named
  have hlocks := B.notSynchronized
  subst hsz
  have hD := hD0.self (sz := s.heap.size)
  generalize hAe : va_A (wLh ad cI cd te ri pi pw K Dn mv ko so tl lp lb ld le C cl dq dy cL ou) s.heap.size = A at hD ⊢
  have hA : ∀ q : Nat, s.heap.size ≤ q → A q := fun q h => by rw [← hAe]; exact Or.inr h
  have hl := lv_entry ([.ref (ad 14), .int (nI cx), .ref (ad 17)]) (n := 4) (Nat.le_of_ble_eq_true rfl)
  rw [lg_entry_eq]
  generalize (lg_sl ([.ref (ad 14), .int (nI cx), .ref (ad 17)]) ++ List.replicate (4 - (lg_sl ([.ref (ad 14), .int (nI cx), .ref (ad 17)])).length) Slot.unset).toArray = ls at hl ⊢
  have hl : lv_has ls 4 [(0, .ref (ad 14)), (1, .int (nI cx)), (2, .ref (ad 17))] := hl
  refine W.genH (fun H locs eH eL => ?_)
  have hS : va_S A s.heap H locs := by rw [eH, eL]; exact va_S.rf
  have hP : va_P D vwCl (wLh ad cI cd te ri pi pw K Dn mv ko so tl lp lb ld le C cl dq dy cL ou) H := by rw [eH]; exact hP
  have hX : kcX (fun q => H.size ≤ q) s H := by rw [eH]; exact hX
  have htb := vx_table (x := yL_find) B (hts _ List.mem_cons_self)
  clear eH eL
  refine lv_aload_n hx hb dL_find_0 rfl (lv_at hl 2 rfl) ?_
  refine lv_iconst (v := 0) hx hb dL_find_1 (by decide) ?_
  refine lv_aload_n hx hb dL_find_2 rfl (lv_at hl 0 rfl) ?_
  refine lv_iload_n hx hb dL_find_3 rfl (lv_at hl 1 rfl) ?_
  refine kc_xV (E := "java/lang/IllegalStateException") (As := [.int (nI cx)]) (rest := [.int 0, .ref (ad 17)]) ⟨hx, hb, hml, hown, hts⟩ (c_X2_find_f2 l hlf D ad cI cd te ri pi pw K Dn mv ko so tl lp lb ld le C cl dq dy cx H.size hC24 hc hn) (cwV 1 hts gL_find_X2_find rfl rfl rfl (by decide +kernel) ⟨Nat.le_of_ble_eq_true rfl, Nat.le_of_ble_eq_true rfl⟩) hK hP hX [0, 1, 2, 3, 4, 5, 6, 7, 8, 9, 10, 11, 12, 13, 14, 15, 16] [0] rfl rfl 14 rfl rfl rfl rfl hl.1 rfl (Nat.le_of_ble_eq_true rfl) dL_find_4 ⟨Nat.le_of_ble_eq_true rfl, Nat.le_of_ble_eq_true rfl⟩ hS hA (fun ce q9 H1 locs1 hz hk9 hS1 hce hcv hcl => ?_)
  refine vx_catch (name := "java/lang/IllegalStateException") hown [⟨0, 9, 12, 24⟩] ⟨0, 9, 15, 15⟩ [] (htb.trans rfl) (fun z hz => by cases List.mem_singleton.mp hz; exact Or.inr ⟨by decide, "java/lang/IndexOutOfBoundsException", hts (.classLink RL 24 "java/lang/IndexOutOfBoundsException") (by decide +kernel), hX.2.2.2.2 ("java/lang/IllegalStateException", "java/lang/IndexOutOfBoundsException") (by decide +kernel)⟩) (by decide) (by decide) (hts (.classLink RL 15 "java/lang/IllegalStateException") (by decide +kernel)) (va_Nw.use rfl (hX.2.2.1 (.castable "java/lang/IllegalStateException" "java/lang/IllegalStateException") (by decide +kernel))) hce hcv hcl ?_
  have hP : va_P D vwCl (wLh ad cI cd te ri pi pw K Dn mv ko so tl lp lb ld le C cl dq dy cL ou) H1 := hP.kept (fun k q h => hk9 q.1 ((hP k q h).lt))
  generalize H1 = H at hP hS1 ⊢
  generalize locs1 = locs at hS1 ⊢
  have hS := hS1
  clear hX
  refine lv_astore_n (lv' := [(3, .ref q9), (0, .ref (ad 14)), (1, .int (nI cx)), (2, .ref (ad 17))]) hx hb dL_find_15 rfl hl (by decide) rfl (fun ls hl => ?_)
  refine lv_iconst (v := 2) hx hb dL_find_16 (by decide) ?_
  exact W.iret (v := 2) hx hb hr (fun tZ htZ hWZ => ⟨⟨_, (), rfl, rfl, by rw [htZ]; exact hP, by rw [hAe]; exact hD⟩, hS.F htZ⟩) hS.2.2 dL_find_17
set_option maxHeartbeats 4000000 in
set_option maxRecDepth 100000 in
theorem c_L_pass_f1 (l : Launch) (hlf : l.stackTraces = false) (D : va_G) (ad : Nat → Nat) (cI : ClassId) (cd : Nat → Int32) (te : Nat → Int32) (ri : Nat → Int32) (pi : Nat → Int32) (pw : Nat → Int32) (K : Nat) (Dn : Nat) (mv : Int32) (ko : Nat → Int32) (so : Nat → Int32) (tl : Nat → Int32) (lp : Nat → Int32) (lb : Nat → Int32) (ld : Nat → Int32) (le : Nat → Int32) (C : Nat) (cl : Nat → Int32) (dq : Nat → Int32) (dy : Int32) (cL : ClassId) (ou : Nat → Int64) (dz : Int32) (sz : Nat) (hz : dz < 1 ∨ (99 : Int32) < dz) : Met l yL_pass wsL_pass ({ frames := 8, cells := 1, slots := 6, locals := 132 } : Room) (hxP [.ref (ad 14), .int dz, .ref (ad 17)] D sz (wLh ad cI cd te ri pi pw K Dn mv ko so tl lp lb ld le C cl dq dy cL ou) [(cI, .int), (cL, .long)]) (va_Qi (fun rZ (_ : Unit) => rZ = 1) (wrB D sz (wLh ad cI cd te ri pi pw K Dn mv ko so tl lp lb ld le C cl dq dy cL ou) (wLh ad cI cd te ri pi pw K Dn mv ko so tl lp lb ld le C cl dq dy cL ou)) (va_A (wLh ad cI cd te ri pi pw K Dn mv ko so tl lp lb ld le C cl dq dy cL ou) sz)) 1 6 (va_A (wLh ad cI cd te ri pi pw K Dn mv ko so tl lp lb ld le C cl dq dy cL ou) sz) := by
  refine va_MetW (cc := cL_pass) (maxL := 4) (ret := (some .int)) (hh := [(0, 9, 12, 13), (0, 9, 15, 15)]) (by decide) rfl ?_
  intro p e s m args below meth c s₁ B hml hv
  obtain ⟨rfl, hsz, hP, hD0, hK, hX⟩ := hv
  have hx := B.exec
  have hb := B.bytes
  have hr := B.returns
  have hts := atoms_spec (ws := wsL_pass) B.pre
  have hown : s.vm.findClass RL = some m.cls := findClass_of_methodNamed B.named
  have hlocks := B.notSynchronized
  subst hsz
  have hD := hD0.self (sz := s.heap.size)
  generalize hAe : va_A (wLh ad cI cd te ri pi pw K Dn mv ko so tl lp lb ld le C cl dq dy cL ou) s.heap.size = A at hD ⊢
  have hA : ∀ q : Nat, s.heap.size ≤ q → A q := fun q h => by rw [← hAe]; exact Or.inr h
  have hl := lv_entry ([.ref (ad 14), .int dz, .ref (ad 17)]) (n := 4) (Nat.le_of_ble_eq_true rfl)
  rw [lg_entry_eq]
  generalize (lg_sl ([.ref (ad 14), .int dz, .ref (ad 17)]) ++ List.replicate (4 - (lg_sl ([.ref (ad 14), .int dz, .ref (ad 17)])).length) Slot.unset).toArray = ls at hl ⊢
  have hl : lv_has ls 4 [(0, .ref (ad 14)), (1, .int dz), (2, .ref (ad 17))] := hl
  refine W.genH (fun H locs eH eL => ?_)
  have hS : va_S A s.heap H locs := by rw [eH, eL]; exact va_S.rf
  have hP : va_P D vwCl (wLh ad cI cd te ri pi pw K Dn mv ko so tl lp lb ld le C cl dq dy cL ou) H := by rw [eH]; exact hP
  have hX : kcX (fun q => H.size ≤ q) s H := by rw [eH]; exact hX
  have htb := vx_table (x := yL_pass) B (hts _ List.mem_cons_self)
  clear eH eL
  refine lv_aload_n hx hb dL_pass_0 rfl (lv_at hl 2 rfl) ?_
  refine lv_iconst (v := 0) hx hb dL_pass_1 (by decide) ?_
  refine lv_aload_n hx hb dL_pass_2 rfl (lv_at hl 0 rfl) ?_
  refine lv_iload_n hx hb dL_pass_3 rfl (lv_at hl 1 rfl) ?_
  refine kc_xV (E := "java/lang/IllegalArgumentException") (As := [.int dz]) (rest := [.int 0, .ref (ad 17)]) ⟨hx, hb, hml, hown, hts⟩ (c_X2_pass_f1 l hlf D ad cI cd te ri pi pw K Dn mv ko so tl lp lb ld le C cl dq dy dz H.size hz) (cwV 1 hts gL_pass_X2_pass rfl rfl rfl (by decide +kernel) ⟨Nat.le_of_ble_eq_true rfl, Nat.le_of_ble_eq_true rfl⟩) hK hP hX [0, 1, 2, 3, 4, 5, 6, 7, 8, 9, 10, 11, 12, 13, 14, 15, 16] [0] rfl rfl 14 rfl rfl rfl rfl hl.1 rfl (Nat.le_of_ble_eq_true rfl) dL_pass_4 ⟨Nat.le_of_ble_eq_true rfl, Nat.le_of_ble_eq_true rfl⟩ hS hA (fun ce q9 H1 locs1 hz hk9 hS1 hce hcv hcl => ?_)
  refine vx_catch (name := "java/lang/IllegalArgumentException") hown [] ⟨0, 9, 12, 13⟩ [⟨0, 9, 15, 15⟩] (htb.trans rfl) (fun z hz => nomatch hz) (by decide) (by decide) (hts (.classLink RL 13 "java/lang/IllegalArgumentException") (by decide +kernel)) (va_Nw.use rfl (hX.2.2.1 (.castable "java/lang/IllegalArgumentException" "java/lang/IllegalArgumentException") (by decide +kernel))) hce hcv hcl ?_
  have hP : va_P D vwCl (wLh ad cI cd te ri pi pw K Dn mv ko so tl lp lb ld le C cl dq dy cL ou) H1 := hP.kept (fun k q h => hk9 q.1 ((hP k q h).lt))
  generalize H1 = H at hP hS1 ⊢
  generalize locs1 = locs at hS1 ⊢
  have hS := hS1
  clear hX
  refine lv_astore_n (lv' := [(3, .ref q9), (0, .ref (ad 14)), (1, .int dz), (2, .ref (ad 17))]) hx hb dL_pass_12 rfl hl (by decide) rfl (fun ls hl => ?_)
  refine lv_iconst (v := 1) hx hb dL_pass_13 (by decide) ?_
  exact W.iret (v := 1) hx hb hr (fun tZ htZ hWZ => ⟨⟨_, (), rfl, rfl, by rw [htZ]; exact hP, by rw [hAe]; exact hD⟩, hS.F htZ⟩) hS.2.2 dL_pass_14
set_option maxHeartbeats 4000000 in
set_option maxRecDepth 100000 in
theorem c_L_pass_f2 (l : Launch) (hlf : l.stackTraces = false) (D : va_G) (ad : Nat → Nat) (cI : ClassId) (cd : Nat → Int32) (te : Nat → Int32) (ri : Nat → Int32) (pi : Nat → Int32) (pw : Nat → Int32) (K : Nat) (Dn : Nat) (mv : Int32) (ko : Nat → Int32) (so : Nat → Int32) (tl : Nat → Int32) (lp : Nat → Int32) (lb : Nat → Int32) (ld : Nat → Int32) (le : Nat → Int32) (C : Nat) (cl : Nat → Int32) (dq : Nat → Int32) (dy : Int32) (cL : ClassId) (ou : Nat → Int64) (dz : Int32) (sz : Nat) (hz1 : ¬ dz < 1) (hz2 : dz ≤ 99) (hn : ¬ dy + dz ≤ 9999) : Met l yL_pass wsL_pass ({ frames := 7, cells := 1, slots := 6, locals := 111 } : Room) (hxP [.ref (ad 14), .int dz, .ref (ad 17)] D sz (wLh ad cI cd te ri pi pw K Dn mv ko so tl lp lb ld le C cl dq dy cL ou) [(cI, .int), (cL, .long)]) (va_Qi (fun rZ (_ : Unit) => rZ = 2) (wrB D sz (wLh ad cI cd te ri pi pw K Dn mv ko so tl lp lb ld le C cl dq dy cL ou) (wLh ad cI cd te ri pi pw K Dn mv ko so tl lp lb ld le C cl dq dy cL ou)) (va_A (wLh ad cI cd te ri pi pw K Dn mv ko so tl lp lb ld le C cl dq dy cL ou) sz)) 1 6 (va_A (wLh ad cI cd te ri pi pw K Dn mv ko so tl lp lb ld le C cl dq dy cL ou) sz) := by
  refine va_MetW (cc := cL_pass) (maxL := 4) (ret := (some .int)) (hh := [(0, 9, 12, 13), (0, 9, 15, 15)]) (by decide) rfl ?_
  intro p e s m args below meth c s₁ B hml hv
  obtain ⟨rfl, hsz, hP, hD0, hK, hX⟩ := hv
  have hx := B.exec
  have hb := B.bytes
  have hr := B.returns
  have hts := atoms_spec (ws := wsL_pass) B.pre
  have hown : s.vm.findClass RL = some m.cls := findClass_of_methodNamed B.named
  have hlocks := B.notSynchronized
  subst hsz
  have hD := hD0.self (sz := s.heap.size)
  generalize hAe : va_A (wLh ad cI cd te ri pi pw K Dn mv ko so tl lp lb ld le C cl dq dy cL ou) s.heap.size = A at hD ⊢
  have hA : ∀ q : Nat, s.heap.size ≤ q → A q := fun q h => by rw [← hAe]; exact Or.inr h
  have hl := lv_entry ([.ref (ad 14), .int dz, .ref (ad 17)]) (n := 4) (Nat.le_of_ble_eq_true rfl)
  rw [lg_entry_eq]
  generalize (lg_sl ([.ref (ad 14), .int dz, .ref (ad 17)]) ++ List.replicate (4 - (lg_sl ([.ref (ad 14), .int dz, .ref (ad 17)])).length) Slot.unset).toArray = ls at hl ⊢
  have hl : lv_has ls 4 [(0, .ref (ad 14)), (1, .int dz), (2, .ref (ad 17))] := hl
  refine W.genH (fun H locs eH eL => ?_)
  have hS : va_S A s.heap H locs := by rw [eH, eL]; exact va_S.rf
  have hP : va_P D vwCl (wLh ad cI cd te ri pi pw K Dn mv ko so tl lp lb ld le C cl dq dy cL ou) H := by rw [eH]; exact hP
  have hX : kcX (fun q => H.size ≤ q) s H := by rw [eH]; exact hX
  have htb := vx_table (x := yL_pass) B (hts _ List.mem_cons_self)
  clear eH eL
  refine lv_aload_n hx hb dL_pass_0 rfl (lv_at hl 2 rfl) ?_
  refine lv_iconst (v := 0) hx hb dL_pass_1 (by decide) ?_
  refine lv_aload_n hx hb dL_pass_2 rfl (lv_at hl 0 rfl) ?_
  refine lv_iload_n hx hb dL_pass_3 rfl (lv_at hl 1 rfl) ?_
  refine kc_xV (E := "java/lang/IllegalStateException") (As := [.int dz]) (rest := [.int 0, .ref (ad 17)]) ⟨hx, hb, hml, hown, hts⟩ (c_X2_pass_f2 l hlf D ad cI cd te ri pi pw K Dn mv ko so tl lp lb ld le C cl dq dy dz H.size hz1 hz2 hn) (cwV 1 hts gL_pass_X2_pass rfl rfl rfl (by decide +kernel) ⟨Nat.le_of_ble_eq_true rfl, Nat.le_of_ble_eq_true rfl⟩) hK hP hX [0, 1, 2, 3, 4, 5, 6, 7, 8, 9, 10, 11, 12, 13, 14, 15, 16] [0] rfl rfl 14 rfl rfl rfl rfl hl.1 rfl (Nat.le_of_ble_eq_true rfl) dL_pass_4 ⟨Nat.le_of_ble_eq_true rfl, Nat.le_of_ble_eq_true rfl⟩ hS hA (fun ce q9 H1 locs1 hz hk9 hS1 hce hcv hcl => ?_)
  refine vx_catch (name := "java/lang/IllegalStateException") hown [⟨0, 9, 12, 13⟩] ⟨0, 9, 15, 15⟩ [] (htb.trans rfl) (fun z hz => by cases List.mem_singleton.mp hz; exact Or.inr ⟨by decide, "java/lang/IllegalArgumentException", hts (.classLink RL 13 "java/lang/IllegalArgumentException") (by decide +kernel), hX.2.2.2.2 ("java/lang/IllegalStateException", "java/lang/IllegalArgumentException") (by decide +kernel)⟩) (by decide) (by decide) (hts (.classLink RL 15 "java/lang/IllegalStateException") (by decide +kernel)) (va_Nw.use rfl (hX.2.2.1 (.castable "java/lang/IllegalStateException" "java/lang/IllegalStateException") (by decide +kernel))) hce hcv hcl ?_
  have hP : va_P D vwCl (wLh ad cI cd te ri pi pw K Dn mv ko so tl lp lb ld le C cl dq dy cL ou) H1 := hP.kept (fun k q h => hk9 q.1 ((hP k q h).lt))
  generalize H1 = H at hP hS1 ⊢
  generalize locs1 = locs at hS1 ⊢
  have hS := hS1
  clear hX
  refine lv_astore_n (lv' := [(3, .ref q9), (0, .ref (ad 14)), (1, .int dz), (2, .ref (ad 17))]) hx hb dL_pass_15 rfl hl (by decide) rfl (fun ls hl => ?_)
  refine lv_iconst (v := 2) hx hb dL_pass_16 (by decide) ?_
  exact W.iret (v := 2) hx hb hr (fun tZ htZ hWZ => ⟨⟨_, (), rfl, rfl, by rw [htZ]; exact hP, by rw [hAe]; exact hD⟩, hS.F htZ⟩) hS.2.2 dL_pass_17
set_option maxHeartbeats 4000000 in
set_option maxRecDepth 100000 in
theorem c_L_copy_f1 (l : Launch) (hlf : l.stackTraces = false) (D : va_G) (ad : Nat → Nat) (cI : ClassId) (cd : Nat → Int32) (te : Nat → Int32) (ri : Nat → Int32) (pi : Nat → Int32) (pw : Nat → Int32) (K : Nat) (Dn : Nat) (mv : Int32) (ko : Nat → Int32) (so : Nat → Int32) (tl : Nat → Int32) (lp : Nat → Int32) (lb : Nat → Int32) (ld : Nat → Int32) (le : Nat → Int32) (C : Nat) (cl : Nat → Int32) (dq : Nat → Int32) (dy : Int32) (cL : ClassId) (ou : Nat → Int64) (x : Int32) (wh : Int32) (sz : Nat) (hBad : ¬ jIn C x = true) : Met l yL_copy wsL_copy ({ frames := 8, cells := 1, slots := 6, locals := 133 } : Room) (hxP [.ref (ad 14), .int x, .int wh, .ref (ad 17)] D sz (wLh ad cI cd te ri pi pw K Dn mv ko so tl lp lb ld le C cl dq dy cL ou) [(cI, .int), (cL, .long)]) (va_Qi (fun rZ (_ : Unit) => rZ = 1) (wrB D sz (wLh ad cI cd te ri pi pw K Dn mv ko so tl lp lb ld le C cl dq dy cL ou) (wLh ad cI cd te ri pi pw K Dn mv ko so tl lp lb ld le C cl dq dy cL ou)) (va_A (wLh ad cI cd te ri pi pw K Dn mv ko so tl lp lb ld le C cl dq dy cL ou) sz)) 1 6 (va_A (wLh ad cI cd te ri pi pw K Dn mv ko so tl lp lb ld le C cl dq dy cL ou) sz) := by
  refine va_MetW (cc := cL_copy) (maxL := 5) (ret := (some .int)) (hh := [(0, 10, 13, 24)]) (by decide) rfl ?_
  intro p e s m args below meth c s₁ B hml hv
  obtain ⟨rfl, hsz, hP, hD0, hK, hX⟩ := hv
  have hx := B.exec
  have hb := B.bytes
  have hr := B.returns
  have hts := atoms_spec (ws := wsL_copy) B.pre
  have hown : s.vm.findClass RL = some m.cls := findClass_of_methodNamed B.named
  have hlocks := B.notSynchronized
  subst hsz
  have hD := hD0.self (sz := s.heap.size)
  generalize hAe : va_A (wLh ad cI cd te ri pi pw K Dn mv ko so tl lp lb ld le C cl dq dy cL ou) s.heap.size = A at hD ⊢
  have hA : ∀ q : Nat, s.heap.size ≤ q → A q := fun q h => by rw [← hAe]; exact Or.inr h
  have hl := lv_entry ([.ref (ad 14), .int x, .int wh, .ref (ad 17)]) (n := 5) (Nat.le_of_ble_eq_true rfl)
  rw [lg_entry_eq]
  generalize (lg_sl ([.ref (ad 14), .int x, .int wh, .ref (ad 17)]) ++ List.replicate (5 - (lg_sl ([.ref (ad 14), .int x, .int wh, .ref (ad 17)])).length) Slot.unset).toArray = ls at hl ⊢
  have hl : lv_has ls 5 [(0, .ref (ad 14)), (1, .int x), (2, .int wh), (3, .ref (ad 17))] := hl
  refine W.genH (fun H locs eH eL => ?_)
  have hS : va_S A s.heap H locs := by rw [eH, eL]; exact va_S.rf
  have hP : va_P D vwCl (wLh ad cI cd te ri pi pw K Dn mv ko so tl lp lb ld le C cl dq dy cL ou) H := by rw [eH]; exact hP
  have hX : kcX (fun q => H.size ≤ q) s H := by rw [eH]; exact hX
  have htb := vx_table (x := yL_copy) B (hts _ List.mem_cons_self)
  clear eH eL
  refine lv_aload_n hx hb dL_copy_0 rfl (lv_at hl 3 rfl) ?_
  refine lv_iconst (v := 0) hx hb dL_copy_1 (by decide) ?_
  refine lv_aload_n hx hb dL_copy_2 rfl (lv_at hl 0 rfl) ?_
  refine lv_iload_n hx hb dL_copy_3 rfl (lv_at hl 1 rfl) ?_
  refine lv_iload_n hx hb dL_copy_4 rfl (lv_at hl 2 rfl) ?_
  refine kc_xV (E := "java/lang/IndexOutOfBoundsException") (As := [.int x, .int wh]) (rest := [.int 0, .ref (ad 17)]) ⟨hx, hb, hml, hown, hts⟩ (c_X2_copy_f1 l hlf D ad cI cd te ri pi pw K Dn mv ko so tl lp lb ld le C cl dq dy x wh H.size hBad) (cwV 2 hts gL_copy_X2_copy rfl rfl rfl (by decide +kernel) ⟨Nat.le_of_ble_eq_true rfl, Nat.le_of_ble_eq_true rfl⟩) hK hP hX [0, 1, 2, 3, 4, 5, 6, 7, 8, 9, 10, 11, 12, 13, 14, 15, 16] [0] rfl rfl 14 rfl rfl rfl rfl hl.1 rfl (Nat.le_of_ble_eq_true rfl) dL_copy_5 ⟨Nat.le_of_ble_eq_true rfl, Nat.le_of_ble_eq_true rfl⟩ hS hA (fun ce q9 H1 locs1 hz hk9 hS1 hce hcv hcl => ?_)
  refine vx_catch (name := "java/lang/IndexOutOfBoundsException") hown [] ⟨0, 10, 13, 24⟩ [] (htb.trans rfl) (fun z hz => nomatch hz) (by decide) (by decide) (hts (.classLink RL 24 "java/lang/IndexOutOfBoundsException") (by decide +kernel)) (va_Nw.use rfl (hX.2.2.1 (.castable "java/lang/IndexOutOfBoundsException" "java/lang/IndexOutOfBoundsException") (by decide +kernel))) hce hcv hcl ?_
  have hP : va_P D vwCl (wLh ad cI cd te ri pi pw K Dn mv ko so tl lp lb ld le C cl dq dy cL ou) H1 := hP.kept (fun k q h => hk9 q.1 ((hP k q h).lt))
  generalize H1 = H at hP hS1 ⊢
  generalize locs1 = locs at hS1 ⊢
  have hS := hS1
  clear hX
  refine lv_astore (lv' := [(4, .ref q9), (0, .ref (ad 14)), (1, .int x), (2, .int wh), (3, .ref (ad 17))]) hx hb dL_copy_13 hl (by decide) rfl (fun ls hl => ?_)
  refine lv_iconst (v := 1) hx hb dL_copy_15 (by decide) ?_
  exact W.iret (v := 1) hx hb hr (fun tZ htZ hWZ => ⟨⟨_, (), rfl, rfl, by rw [htZ]; exact hP, by rw [hAe]; exact hD⟩, hS.F htZ⟩) hS.2.2 dL_copy_16
set_option maxHeartbeats 4000000 in
set_option maxRecDepth 100000 in
theorem c_L_copy_f2 (l : Launch) (hlf : l.stackTraces = false) (D : va_G) (ad : Nat → Nat) (cI : ClassId) (cd : Nat → Int32) (te : Nat → Int32) (ri : Nat → Int32) (pi : Nat → Int32) (pw : Nat → Int32) (K : Nat) (Dn : Nat) (mv : Int32) (ko : Nat → Int32) (so : Nat → Int32) (tl : Nat → Int32) (lp : Nat → Int32) (lb : Nat → Int32) (ld : Nat → Int32) (le : Nat → Int32) (C : Nat) (cl : Nat → Int32) (dq : Nat → Int32) (dy : Int32) (cL : ClassId) (ou : Nat → Int64) (cx : Nat) (wh : Int32) (sz : Nat) (hC24 : C ≤ 24) (hc : cx < C) (hBad : ¬ jIn 5 wh = true) : Met l yL_copy wsL_copy ({ frames := 7, cells := 1, slots := 6, locals := 112 } : Room) (hxP [.ref (ad 14), .int (nI cx), .int wh, .ref (ad 17)] D sz (wLh ad cI cd te ri pi pw K Dn mv ko so tl lp lb ld le C cl dq dy cL ou) [(cI, .int), (cL, .long)]) (va_Qi (fun rZ (_ : Unit) => rZ = 1) (wrB D sz (wLh ad cI cd te ri pi pw K Dn mv ko so tl lp lb ld le C cl dq dy cL ou) (wLh ad cI cd te ri pi pw K Dn mv ko so tl lp lb ld le C cl dq dy cL ou)) (va_A (wLh ad cI cd te ri pi pw K Dn mv ko so tl lp lb ld le C cl dq dy cL ou) sz)) 1 6 (va_A (wLh ad cI cd te ri pi pw K Dn mv ko so tl lp lb ld le C cl dq dy cL ou) sz) := by
  refine va_MetW (cc := cL_copy) (maxL := 5) (ret := (some .int)) (hh := [(0, 10, 13, 24)]) (by decide) rfl ?_
  intro p e s m args below meth c s₁ B hml hv
  obtain ⟨rfl, hsz, hP, hD0, hK, hX⟩ := hv
  have hx := B.exec
  have hb := B.bytes
  have hr := B.returns
  have hts := atoms_spec (ws := wsL_copy) B.pre
  have hown : s.vm.findClass RL = some m.cls := findClass_of_methodNamed B.named
  have hlocks := B.notSynchronized
  subst hsz
  have hD := hD0.self (sz := s.heap.size)
  generalize hAe : va_A (wLh ad cI cd te ri pi pw K Dn mv ko so tl lp lb ld le C cl dq dy cL ou) s.heap.size = A at hD ⊢
  have hA : ∀ q : Nat, s.heap.size ≤ q → A q := fun q h => by rw [← hAe]; exact Or.inr h
  have hl := lv_entry ([.ref (ad 14), .int (nI cx), .int wh, .ref (ad 17)]) (n := 5) (Nat.le_of_ble_eq_true rfl)
  rw [lg_entry_eq]
  generalize (lg_sl ([.ref (ad 14), .int (nI cx), .int wh, .ref (ad 17)]) ++ List.replicate (5 - (lg_sl ([.ref (ad 14), .int (nI cx), .int wh, .ref (ad 17)])).length) Slot.unset).toArray = ls at hl ⊢
  have hl : lv_has ls 5 [(0, .ref (ad 14)), (1, .int (nI cx)), (2, .int wh), (3, .ref (ad 17))] := hl
  refine W.genH (fun H locs eH eL => ?_)
  have hS : va_S A s.heap H locs := by rw [eH, eL]; exact va_S.rf
  have hP : va_P D vwCl (wLh ad cI cd te ri pi pw K Dn mv ko so tl lp lb ld le C cl dq dy cL ou) H := by rw [eH]; exact hP
  have hX : kcX (fun q => H.size ≤ q) s H := by rw [eH]; exact hX
  have htb := vx_table (x := yL_copy) B (hts _ List.mem_cons_self)
  clear eH eL
  refine lv_aload_n hx hb dL_copy_0 rfl (lv_at hl 3 rfl) ?_
  refine lv_iconst (v := 0) hx hb dL_copy_1 (by decide) ?_
  refine lv_aload_n hx hb dL_copy_2 rfl (lv_at hl 0 rfl) ?_
  refine lv_iload_n hx hb dL_copy_3 rfl (lv_at hl 1 rfl) ?_
  refine lv_iload_n hx hb dL_copy_4 rfl (lv_at hl 2 rfl) ?_
  refine kc_xV (E := "java/lang/IndexOutOfBoundsException") (As := [.int (nI cx), .int wh]) (rest := [.int 0, .ref (ad 17)]) ⟨hx, hb, hml, hown, hts⟩ (c_X2_copy_f2 l hlf D ad cI cd te ri pi pw K Dn mv ko so tl lp lb ld le C cl dq dy cx wh H.size hC24 hc hBad) (cwV 2 hts gL_copy_X2_copy rfl rfl rfl (by decide +kernel) ⟨Nat.le_of_ble_eq_true rfl, Nat.le_of_ble_eq_true rfl⟩) hK hP hX [0, 1, 2, 3, 4, 5, 6, 7, 8, 9, 10, 11, 12, 13, 14, 15, 16] [0] rfl rfl 14 rfl rfl rfl rfl hl.1 rfl (Nat.le_of_ble_eq_true rfl) dL_copy_5 ⟨Nat.le_of_ble_eq_true rfl, Nat.le_of_ble_eq_true rfl⟩ hS hA (fun ce q9 H1 locs1 hz hk9 hS1 hce hcv hcl => ?_)
  refine vx_catch (name := "java/lang/IndexOutOfBoundsException") hown [] ⟨0, 10, 13, 24⟩ [] (htb.trans rfl) (fun z hz => nomatch hz) (by decide) (by decide) (hts (.classLink RL 24 "java/lang/IndexOutOfBoundsException") (by decide +kernel)) (va_Nw.use rfl (hX.2.2.1 (.castable "java/lang/IndexOutOfBoundsException" "java/lang/IndexOutOfBoundsException") (by decide +kernel))) hce hcv hcl ?_
  have hP : va_P D vwCl (wLh ad cI cd te ri pi pw K Dn mv ko so tl lp lb ld le C cl dq dy cL ou) H1 := hP.kept (fun k q h => hk9 q.1 ((hP k q h).lt))
  generalize H1 = H at hP hS1 ⊢
  generalize locs1 = locs at hS1 ⊢
  have hS := hS1
  clear hX
  refine lv_astore (lv' := [(4, .ref q9), (0, .ref (ad 14)), (1, .int (nI cx)), (2, .int wh), (3, .ref (ad 17))]) hx hb dL_copy_13 hl (by decide) rfl (fun ls hl => ?_)
  refine lv_iconst (v := 1) hx hb dL_copy_15 (by decide) ?_
  exact W.iret (v := 1) hx hb hr (fun tZ htZ hWZ => ⟨⟨_, (), rfl, rfl, by rw [htZ]; exact hP, by rw [hAe]; exact hD⟩, hS.F htZ⟩) hS.2.2 dL_copy_16
set_option maxHeartbeats 4000000 in
set_option maxRecDepth 100000 in
theorem c_L_holderAt_f1 (l : Launch) (hlf : l.stackTraces = false) (D : va_G) (ad : Nat → Nat) (cI : ClassId) (cd : Nat → Int32) (te : Nat → Int32) (ri : Nat → Int32) (pi : Nat → Int32) (pw : Nat → Int32) (K : Nat) (Dn : Nat) (mv : Int32) (ko : Nat → Int32) (so : Nat → Int32) (tl : Nat → Int32) (lp : Nat → Int32) (lb : Nat → Int32) (ld : Nat → Int32) (le : Nat → Int32) (C : Nat) (cl : Nat → Int32) (dq : Nat → Int32) (dy : Int32) (cL : ClassId) (ou : Nat → Int64) (x : Int32) (da : Int32) (sz : Nat) (hBad : ¬ jIn C x = true) : Met l yL_holderAt wsL_holderAt ({ frames := 8, cells := 1, slots := 6, locals := 133 } : Room) (hxP [.ref (ad 14), .int x, .int da, .ref (ad 17)] D sz (wLh ad cI cd te ri pi pw K Dn mv ko so tl lp lb ld le C cl dq dy cL ou) [(cI, .int), (cL, .long)]) (va_Qi (fun rZ (_ : Unit) => rZ = 1) (wrB D sz (wLh ad cI cd te ri pi pw K Dn mv ko so tl lp lb ld le C cl dq dy cL ou) (wLh ad cI cd te ri pi pw K Dn mv ko so tl lp lb ld le C cl dq dy cL ou)) (va_A (wLh ad cI cd te ri pi pw K Dn mv ko so tl lp lb ld le C cl dq dy cL ou) sz)) 1 6 (va_A (wLh ad cI cd te ri pi pw K Dn mv ko so tl lp lb ld le C cl dq dy cL ou) sz) := by
  refine va_MetW (cc := cL_holderAt) (maxL := 5) (ret := (some .int)) (hh := [(0, 10, 13, 24), (0, 10, 17, 13)]) (by decide) rfl ?_
  intro p e s m args below meth c s₁ B hml hv
  obtain ⟨rfl, hsz, hP, hD0, hK, hX⟩ := hv
  have hx := B.exec
  have hb := B.bytes
  have hr := B.returns
  have hts := atoms_spec (ws := wsL_holderAt) B.pre
  have hown : s.vm.findClass RL = some m.cls := findClass_of_methodNamed B.named
  have hlocks := B.notSynchronized
  subst hsz
  have hD := hD0.self (sz := s.heap.size)
  generalize hAe : va_A (wLh ad cI cd te ri pi pw K Dn mv ko so tl lp lb ld le C cl dq dy cL ou) s.heap.size = A at hD ⊢
  have hA : ∀ q : Nat, s.heap.size ≤ q → A q := fun q h => by rw [← hAe]; exact Or.inr h
  have hl := lv_entry ([.ref (ad 14), .int x, .int da, .ref (ad 17)]) (n := 5) (Nat.le_of_ble_eq_true rfl)
  rw [lg_entry_eq]
  generalize (lg_sl ([.ref (ad 14), .int x, .int da, .ref (ad 17)]) ++ List.replicate (5 - (lg_sl ([.ref (ad 14), .int x, .int da, .ref (ad 17)])).length) Slot.unset).toArray = ls at hl ⊢
  have hl : lv_has ls 5 [(0, .ref (ad 14)), (1, .int x), (2, .int da), (3, .ref (ad 17))] := hl
  refine W.genH (fun H locs eH eL => ?_)
  have hS : va_S A s.heap H locs := by rw [eH, eL]; exact va_S.rf
  have hP : va_P D vwCl (wLh ad cI cd te ri pi pw K Dn mv ko so tl lp lb ld le C cl dq dy cL ou) H := by rw [eH]; exact hP
  have hX : kcX (fun q => H.size ≤ q) s H := by rw [eH]; exact hX
  have htb := vx_table (x := yL_holderAt) B (hts _ List.mem_cons_self)
  clear eH eL
  refine lv_aload_n hx hb dL_holderAt_0 rfl (lv_at hl 3 rfl) ?_
  refine lv_iconst (v := 0) hx hb dL_holderAt_1 (by decide) ?_
  refine lv_aload_n hx hb dL_holderAt_2 rfl (lv_at hl 0 rfl) ?_
  refine lv_iload_n hx hb dL_holderAt_3 rfl (lv_at hl 1 rfl) ?_
  refine lv_iload_n hx hb dL_holderAt_4 rfl (lv_at hl 2 rfl) ?_
  refine kc_xV (E := "java/lang/IndexOutOfBoundsException") (As := [.int x, .int da]) (rest := [.int 0, .ref (ad 17)]) ⟨hx, hb, hml, hown, hts⟩ (c_X2_holderAt_f1 l hlf D ad cI cd te ri pi pw K Dn mv ko so tl lp lb ld le C cl dq dy x da H.size hBad) (cwV 2 hts gL_holderAt_X2_holderAt rfl rfl rfl (by decide +kernel) ⟨Nat.le_of_ble_eq_true rfl, Nat.le_of_ble_eq_true rfl⟩) hK hP hX [0, 1, 2, 3, 4, 5, 6, 7, 8, 9, 10, 11, 12, 13, 14, 15, 16] [0] rfl rfl 14 rfl rfl rfl rfl hl.1 rfl (Nat.le_of_ble_eq_true rfl) dL_holderAt_5 ⟨Nat.le_of_ble_eq_true rfl, Nat.le_of_ble_eq_true rfl⟩ hS hA (fun ce q9 H1 locs1 hz hk9 hS1 hce hcv hcl => ?_)
  refine vx_catch (name := "java/lang/IndexOutOfBoundsException") hown [] ⟨0, 10, 13, 24⟩ [⟨0, 10, 17, 13⟩] (htb.trans rfl) (fun z hz => nomatch hz) (by decide) (by decide) (hts (.classLink RL 24 "java/lang/IndexOutOfBoundsException") (by decide +kernel)) (va_Nw.use rfl (hX.2.2.1 (.castable "java/lang/IndexOutOfBoundsException" "java/lang/IndexOutOfBoundsException") (by decide +kernel))) hce hcv hcl ?_
  have hP : va_P D vwCl (wLh ad cI cd te ri pi pw K Dn mv ko so tl lp lb ld le C cl dq dy cL ou) H1 := hP.kept (fun k q h => hk9 q.1 ((hP k q h).lt))
  generalize H1 = H at hP hS1 ⊢
  generalize locs1 = locs at hS1 ⊢
  have hS := hS1
  clear hX
  refine lv_astore (lv' := [(4, .ref q9), (0, .ref (ad 14)), (1, .int x), (2, .int da), (3, .ref (ad 17))]) hx hb dL_holderAt_13 hl (by decide) rfl (fun ls hl => ?_)
  refine lv_iconst (v := 1) hx hb dL_holderAt_15 (by decide) ?_
  exact W.iret (v := 1) hx hb hr (fun tZ htZ hWZ => ⟨⟨_, (), rfl, rfl, by rw [htZ]; exact hP, by rw [hAe]; exact hD⟩, hS.F htZ⟩) hS.2.2 dL_holderAt_16
set_option maxHeartbeats 4000000 in
set_option maxRecDepth 100000 in
theorem c_L_holderAt_f2 (l : Launch) (hlf : l.stackTraces = false) (D : va_G) (ad : Nat → Nat) (cI : ClassId) (cd : Nat → Int32) (te : Nat → Int32) (ri : Nat → Int32) (pi : Nat → Int32) (pw : Nat → Int32) (K : Nat) (Dn : Nat) (mv : Int32) (ko : Nat → Int32) (so : Nat → Int32) (tl : Nat → Int32) (lp : Nat → Int32) (lb : Nat → Int32) (ld : Nat → Int32) (le : Nat → Int32) (C : Nat) (cl : Nat → Int32) (dq : Nat → Int32) (dy : Int32) (cL : ClassId) (ou : Nat → Int64) (cx : Nat) (da : Int32) (sz : Nat) (hC24 : C ≤ 24) (hc : cx < C) (hz : da < 0 ∨ dy < da) : Met l yL_holderAt wsL_holderAt ({ frames := 7, cells := 1, slots := 6, locals := 112 } : Room) (hxP [.ref (ad 14), .int (nI cx), .int da, .ref (ad 17)] D sz (wLh ad cI cd te ri pi pw K Dn mv ko so tl lp lb ld le C cl dq dy cL ou) [(cI, .int), (cL, .long)]) (va_Qi (fun rZ (_ : Unit) => rZ = 2) (wrB D sz (wLh ad cI cd te ri pi pw K Dn mv ko so tl lp lb ld le C cl dq dy cL ou) (wLh ad cI cd te ri pi pw K Dn mv ko so tl lp lb ld le C cl dq dy cL ou)) (va_A (wLh ad cI cd te ri pi pw K Dn mv ko so tl lp lb ld le C cl dq dy cL ou) sz)) 1 6 (va_A (wLh ad cI cd te ri pi pw K Dn mv ko so tl lp lb ld le C cl dq dy cL ou) sz) := by
  refine va_MetW (cc := cL_holderAt) (maxL := 5) (ret := (some .int)) (hh := [(0, 10, 13, 24), (0, 10, 17, 13)]) (by decide) rfl ?_
  intro p e s m args below meth c s₁ B hml hv
  obtain ⟨rfl, hsz, hP, hD0, hK, hX⟩ := hv
  have hx := B.exec
  have hb := B.bytes
  have hr := B.returns
  have hts := atoms_spec (ws := wsL_holderAt) B.pre
  have hown : s.vm.findClass RL = some m.cls := findClass_of_methodNamed B.named
  have hlocks := B.notSynchronized
  subst hsz
  have hD := hD0.self (sz := s.heap.size)
  generalize hAe : va_A (wLh ad cI cd te ri pi pw K Dn mv ko so tl lp lb ld le C cl dq dy cL ou) s.heap.size = A at hD ⊢
  have hA : ∀ q : Nat, s.heap.size ≤ q → A q := fun q h => by rw [← hAe]; exact Or.inr h
  have hl := lv_entry ([.ref (ad 14), .int (nI cx), .int da, .ref (ad 17)]) (n := 5) (Nat.le_of_ble_eq_true rfl)
  rw [lg_entry_eq]
  generalize (lg_sl ([.ref (ad 14), .int (nI cx), .int da, .ref (ad 17)]) ++ List.replicate (5 - (lg_sl ([.ref (ad 14), .int (nI cx), .int da, .ref (ad 17)])).length) Slot.unset).toArray = ls at hl ⊢
  have hl : lv_has ls 5 [(0, .ref (ad 14)), (1, .int (nI cx)), (2, .int da), (3, .ref (ad 17))] := hl
  refine W.genH (fun H locs eH eL => ?_)
  have hS : va_S A s.heap H locs := by rw [eH, eL]; exact va_S.rf
  have hP : va_P D vwCl (wLh ad cI cd te ri pi pw K Dn mv ko so tl lp lb ld le C cl dq dy cL ou) H := by rw [eH]; exact hP
  have hX : kcX (fun q => H.size ≤ q) s H := by rw [eH]; exact hX
  have htb := vx_table (x := yL_holderAt) B (hts _ List.mem_cons_self)
  clear eH eL
  refine lv_aload_n hx hb dL_holderAt_0 rfl (lv_at hl 3 rfl) ?_
  refine lv_iconst (v := 0) hx hb dL_holderAt_1 (by decide) ?_
  refine lv_aload_n hx hb dL_holderAt_2 rfl (lv_at hl 0 rfl) ?_
  refine lv_iload_n hx hb dL_holderAt_3 rfl (lv_at hl 1 rfl) ?_
  refine lv_iload_n hx hb dL_holderAt_4 rfl (lv_at hl 2 rfl) ?_
  refine kc_xV (E := "java/lang/IllegalArgumentException") (As := [.int (nI cx), .int da]) (rest := [.int 0, .ref (ad 17)]) ⟨hx, hb, hml, hown, hts⟩ (c_X2_holderAt_f2 l hlf D ad cI cd te ri pi pw K Dn mv ko so tl lp lb ld le C cl dq dy cx da H.size hC24 hc hz) (cwV 2 hts gL_holderAt_X2_holderAt rfl rfl rfl (by decide +kernel) ⟨Nat.le_of_ble_eq_true rfl, Nat.le_of_ble_eq_true rfl⟩) hK hP hX [0, 1, 2, 3, 4, 5, 6, 7, 8, 9, 10, 11, 12, 13, 14, 15, 16] [0] rfl rfl 14 rfl rfl rfl rfl hl.1 rfl (Nat.le_of_ble_eq_true rfl) dL_holderAt_5 ⟨Nat.le_of_ble_eq_true rfl, Nat.le_of_ble_eq_true rfl⟩ hS hA (fun ce q9 H1 locs1 hz hk9 hS1 hce hcv hcl => ?_)
  refine vx_catch (name := "java/lang/IllegalArgumentException") hown [⟨0, 10, 13, 24⟩] ⟨0, 10, 17, 13⟩ [] (htb.trans rfl) (fun z hz => by cases List.mem_singleton.mp hz; exact Or.inr ⟨by decide, "java/lang/IndexOutOfBoundsException", hts (.classLink RL 24 "java/lang/IndexOutOfBoundsException") (by decide +kernel), hX.2.2.2.2 ("java/lang/IllegalArgumentException", "java/lang/IndexOutOfBoundsException") (by decide +kernel)⟩) (by decide) (by decide) (hts (.classLink RL 13 "java/lang/IllegalArgumentException") (by decide +kernel)) (va_Nw.use rfl (hX.2.2.1 (.castable "java/lang/IllegalArgumentException" "java/lang/IllegalArgumentException") (by decide +kernel))) hce hcv hcl ?_
  have hP : va_P D vwCl (wLh ad cI cd te ri pi pw K Dn mv ko so tl lp lb ld le C cl dq dy cL ou) H1 := hP.kept (fun k q h => hk9 q.1 ((hP k q h).lt))
  generalize H1 = H at hP hS1 ⊢
  generalize locs1 = locs at hS1 ⊢
  have hS := hS1
  clear hX
  refine lv_astore (lv' := [(4, .ref q9), (0, .ref (ad 14)), (1, .int (nI cx)), (2, .int da), (3, .ref (ad 17))]) hx hb dL_holderAt_17 hl (by decide) rfl (fun ls hl => ?_)
  refine lv_iconst (v := 2) hx hb dL_holderAt_19 (by decide) ?_
  exact W.iret (v := 2) hx hb hr (fun tZ htZ hWZ => ⟨⟨_, (), rfl, rfl, by rw [htZ]; exact hP, by rw [hAe]; exact hD⟩, hS.F htZ⟩) hS.2.2 dL_holderAt_20
set_option maxHeartbeats 4000000 in
set_option maxRecDepth 100000 in
theorem c_L_reach_f1 (l : Launch) (hlf : l.stackTraces = false) (D : va_G) (ad : Nat → Nat) (cI : ClassId) (cd : Nat → Int32) (te : Nat → Int32) (ri : Nat → Int32) (pi : Nat → Int32) (pw : Nat → Int32) (K : Nat) (Dn : Nat) (mv : Int32) (ko : Nat → Int32) (so : Nat → Int32) (tl : Nat → Int32) (lp : Nat → Int32) (lb : Nat → Int32) (ld : Nat → Int32) (le : Nat → Int32) (C : Nat) (cl : Nat → Int32) (dq : Nat → Int32) (dy : Int32) (cL : ClassId) (ou : Nat → Int64) (pe : Int32) (sz : Nat) (hBad : ¬ jIn 8 pe = true) : Met l yL_reach wsL_reach ({ frames := 8, cells := 1, slots := 6, locals := 132 } : Room) (hxP [.ref (ad 14), .int pe, .ref (ad 17)] D sz (wLh ad cI cd te ri pi pw K Dn mv ko so tl lp lb ld le C cl dq dy cL ou) [(cI, .int), (cL, .long)]) (va_Qi (fun rZ (_ : Unit) => rZ = 1) (wrB D sz (wLh ad cI cd te ri pi pw K Dn mv ko so tl lp lb ld le C cl dq dy cL ou) (wLh ad cI cd te ri pi pw K Dn mv ko so tl lp lb ld le C cl dq dy cL ou)) (va_A (wLh ad cI cd te ri pi pw K Dn mv ko so tl lp lb ld le C cl dq dy cL ou) sz)) 1 6 (va_A (wLh ad cI cd te ri pi pw K Dn mv ko so tl lp lb ld le C cl dq dy cL ou) sz) := by
  refine va_MetW (cc := cL_reach) (maxL := 4) (ret := (some .int)) (hh := [(0, 9, 12, 24)]) (by decide) rfl ?_
  intro p e s m args below meth c s₁ B hml hv
  obtain ⟨rfl, hsz, hP, hD0, hK, hX⟩ := hv
  have hx := B.exec
  have hb := B.bytes
  have hr := B.returns
  have hts := atoms_spec (ws := wsL_reach) B.pre
  have hown : s.vm.findClass RL = some m.cls := findClass_of_methodNamed B.named
  have hlocks := B.notSynchronized
  subst hsz
  have hD := hD0.self (sz := s.heap.size)
  generalize hAe : va_A (wLh ad cI cd te ri pi pw K Dn mv ko so tl lp lb ld le C cl dq dy cL ou) s.heap.size = A at hD ⊢
  have hA : ∀ q : Nat, s.heap.size ≤ q → A q := fun q h => by rw [← hAe]; exact Or.inr h
  have hl := lv_entry ([.ref (ad 14), .int pe, .ref (ad 17)]) (n := 4) (Nat.le_of_ble_eq_true rfl)
  rw [lg_entry_eq]
  generalize (lg_sl ([.ref (ad 14), .int pe, .ref (ad 17)]) ++ List.replicate (4 - (lg_sl ([.ref (ad 14), .int pe, .ref (ad 17)])).length) Slot.unset).toArray = ls at hl ⊢
  have hl : lv_has ls 4 [(0, .ref (ad 14)), (1, .int pe), (2, .ref (ad 17))] := hl
  refine W.genH (fun H locs eH eL => ?_)
  have hS : va_S A s.heap H locs := by rw [eH, eL]; exact va_S.rf
  have hP : va_P D vwCl (wLh ad cI cd te ri pi pw K Dn mv ko so tl lp lb ld le C cl dq dy cL ou) H := by rw [eH]; exact hP
  have hX : kcX (fun q => H.size ≤ q) s H := by rw [eH]; exact hX
  have htb := vx_table (x := yL_reach) B (hts _ List.mem_cons_self)
  clear eH eL
  refine lv_aload_n hx hb dL_reach_0 rfl (lv_at hl 2 rfl) ?_
  refine lv_iconst (v := 0) hx hb dL_reach_1 (by decide) ?_
  refine lv_aload_n hx hb dL_reach_2 rfl (lv_at hl 0 rfl) ?_
  refine lv_iload_n hx hb dL_reach_3 rfl (lv_at hl 1 rfl) ?_
  refine kc_xV (E := "java/lang/IndexOutOfBoundsException") (As := [.int pe]) (rest := [.int 0, .ref (ad 17)]) ⟨hx, hb, hml, hown, hts⟩ (c_X2_reach_f1 l hlf D ad cI cd te ri pi pw K Dn mv ko so tl lp lb ld le C cl dq dy pe H.size hBad) (cwV 1 hts gL_reach_X2_reach rfl rfl rfl (by decide +kernel) ⟨Nat.le_of_ble_eq_true rfl, Nat.le_of_ble_eq_true rfl⟩) hK hP hX [0, 1, 2, 3, 4, 5, 6, 7, 8, 9, 10, 11, 12, 13, 14, 15, 16] [0] rfl rfl 14 rfl rfl rfl rfl hl.1 rfl (Nat.le_of_ble_eq_true rfl) dL_reach_4 ⟨Nat.le_of_ble_eq_true rfl, Nat.le_of_ble_eq_true rfl⟩ hS hA (fun ce q9 H1 locs1 hz hk9 hS1 hce hcv hcl => ?_)
  refine vx_catch (name := "java/lang/IndexOutOfBoundsException") hown [] ⟨0, 9, 12, 24⟩ [] (htb.trans rfl) (fun z hz => nomatch hz) (by decide) (by decide) (hts (.classLink RL 24 "java/lang/IndexOutOfBoundsException") (by decide +kernel)) (va_Nw.use rfl (hX.2.2.1 (.castable "java/lang/IndexOutOfBoundsException" "java/lang/IndexOutOfBoundsException") (by decide +kernel))) hce hcv hcl ?_
  have hP : va_P D vwCl (wLh ad cI cd te ri pi pw K Dn mv ko so tl lp lb ld le C cl dq dy cL ou) H1 := hP.kept (fun k q h => hk9 q.1 ((hP k q h).lt))
  generalize H1 = H at hP hS1 ⊢
  generalize locs1 = locs at hS1 ⊢
  have hS := hS1
  clear hX
  refine lv_astore_n (lv' := [(3, .ref q9), (0, .ref (ad 14)), (1, .int pe), (2, .ref (ad 17))]) hx hb dL_reach_12 rfl hl (by decide) rfl (fun ls hl => ?_)
  refine lv_iconst (v := 1) hx hb dL_reach_13 (by decide) ?_
  exact W.iret (v := 1) hx hb hr (fun tZ htZ hWZ => ⟨⟨_, (), rfl, rfl, by rw [htZ]; exact hP, by rw [hAe]; exact hD⟩, hS.F htZ⟩) hS.2.2 dL_reach_14
set_option maxHeartbeats 4000000 in
set_option maxRecDepth 100000 in
theorem c_L_suggest_f1 (l : Launch) (hlf : l.stackTraces = false) (D : va_G) (ad : Nat → Nat) (cI : ClassId) (cd : Nat → Int32) (te : Nat → Int32) (ri : Nat → Int32) (pi : Nat → Int32) (pw : Nat → Int32) (K : Nat) (Dn : Nat) (mv : Int32) (ko : Nat → Int32) (so : Nat → Int32) (tl : Nat → Int32) (lp : Nat → Int32) (lb : Nat → Int32) (ld : Nat → Int32) (le : Nat → Int32) (C : Nat) (cl : Nat → Int32) (dq : Nat → Int32) (dy : Int32) (cL : ClassId) (ou : Nat → Int64) (pe : Int32) (wa : Int32) (sz : Nat) (hBad : ¬ jIn 8 pe = true) : Met l yL_suggest wsL_suggest ({ frames := 8, cells := 1, slots := 6, locals := 134 } : Room) (hxP [.ref (ad 14), .int pe, .int wa, .ref (ad 17)] D sz (wLh ad cI cd te ri pi pw K Dn mv ko so tl lp lb ld le C cl dq dy cL ou) [(cI, .int), (cL, .long)]) (va_Qi (fun rZ (_ : Unit) => rZ = 1) (wrB D sz (wLh ad cI cd te ri pi pw K Dn mv ko so tl lp lb ld le C cl dq dy cL ou) (wLh ad cI cd te ri pi pw K Dn mv ko so tl lp lb ld le C cl dq dy cL ou)) (va_A (wLh ad cI cd te ri pi pw K Dn mv ko so tl lp lb ld le C cl dq dy cL ou) sz)) 1 6 (va_A (wLh ad cI cd te ri pi pw K Dn mv ko so tl lp lb ld le C cl dq dy cL ou) sz) := by
  refine va_MetW (cc := cL_suggest) (maxL := 5) (ret := (some .int)) (hh := [(0, 10, 13, 24), (0, 10, 17, 13)]) (by decide) rfl ?_
  intro p e s m args below meth c s₁ B hml hv
  obtain ⟨rfl, hsz, hP, hD0, hK, hX⟩ := hv
  have hx := B.exec
  have hb := B.bytes
  have hr := B.returns
  have hts := atoms_spec (ws := wsL_suggest) B.pre
  have hown : s.vm.findClass RL = some m.cls := findClass_of_methodNamed B.named
  have hlocks := B.notSynchronized
  subst hsz
  have hD := hD0.self (sz := s.heap.size)
  generalize hAe : va_A (wLh ad cI cd te ri pi pw K Dn mv ko so tl lp lb ld le C cl dq dy cL ou) s.heap.size = A at hD ⊢
  have hA : ∀ q : Nat, s.heap.size ≤ q → A q := fun q h => by rw [← hAe]; exact Or.inr h
  have hl := lv_entry ([.ref (ad 14), .int pe, .int wa, .ref (ad 17)]) (n := 5) (Nat.le_of_ble_eq_true rfl)
  rw [lg_entry_eq]
  generalize (lg_sl ([.ref (ad 14), .int pe, .int wa, .ref (ad 17)]) ++ List.replicate (5 - (lg_sl ([.ref (ad 14), .int pe, .int wa, .ref (ad 17)])).length) Slot.unset).toArray = ls at hl ⊢
  have hl : lv_has ls 5 [(0, .ref (ad 14)), (1, .int pe), (2, .int wa), (3, .ref (ad 17))] := hl
  refine W.genH (fun H locs eH eL => ?_)
  have hS : va_S A s.heap H locs := by rw [eH, eL]; exact va_S.rf
  have hP : va_P D vwCl (wLh ad cI cd te ri pi pw K Dn mv ko so tl lp lb ld le C cl dq dy cL ou) H := by rw [eH]; exact hP
  have hX : kcX (fun q => H.size ≤ q) s H := by rw [eH]; exact hX
  have htb := vx_table (x := yL_suggest) B (hts _ List.mem_cons_self)
  clear eH eL
  refine lv_aload_n hx hb dL_suggest_0 rfl (lv_at hl 3 rfl) ?_
  refine lv_iconst (v := 0) hx hb dL_suggest_1 (by decide) ?_
  refine lv_aload_n hx hb dL_suggest_2 rfl (lv_at hl 0 rfl) ?_
  refine lv_iload_n hx hb dL_suggest_3 rfl (lv_at hl 1 rfl) ?_
  refine lv_iload_n hx hb dL_suggest_4 rfl (lv_at hl 2 rfl) ?_
  refine kc_xV (E := "java/lang/IndexOutOfBoundsException") (As := [.int pe, .int wa]) (rest := [.int 0, .ref (ad 17)]) ⟨hx, hb, hml, hown, hts⟩ (c_X2_suggest_f1 l hlf D ad cI cd te ri pi pw K Dn mv ko so tl lp lb ld le C cl dq dy pe wa H.size hBad) (cwV 2 hts gL_suggest_X2_suggest rfl rfl rfl (by decide +kernel) ⟨Nat.le_of_ble_eq_true rfl, Nat.le_of_ble_eq_true rfl⟩) hK hP hX [0, 1, 2, 3, 4, 5, 6, 7, 8, 9, 10, 11, 12, 13, 14, 15, 16] [0] rfl rfl 14 rfl rfl rfl rfl hl.1 rfl (Nat.le_of_ble_eq_true rfl) dL_suggest_5 ⟨Nat.le_of_ble_eq_true rfl, Nat.le_of_ble_eq_true rfl⟩ hS hA (fun ce q9 H1 locs1 hz hk9 hS1 hce hcv hcl => ?_)
  refine vx_catch (name := "java/lang/IndexOutOfBoundsException") hown [] ⟨0, 10, 13, 24⟩ [⟨0, 10, 17, 13⟩] (htb.trans rfl) (fun z hz => nomatch hz) (by decide) (by decide) (hts (.classLink RL 24 "java/lang/IndexOutOfBoundsException") (by decide +kernel)) (va_Nw.use rfl (hX.2.2.1 (.castable "java/lang/IndexOutOfBoundsException" "java/lang/IndexOutOfBoundsException") (by decide +kernel))) hce hcv hcl ?_
  have hP : va_P D vwCl (wLh ad cI cd te ri pi pw K Dn mv ko so tl lp lb ld le C cl dq dy cL ou) H1 := hP.kept (fun k q h => hk9 q.1 ((hP k q h).lt))
  generalize H1 = H at hP hS1 ⊢
  generalize locs1 = locs at hS1 ⊢
  have hS := hS1
  clear hX
  refine lv_astore (lv' := [(4, .ref q9), (0, .ref (ad 14)), (1, .int pe), (2, .int wa), (3, .ref (ad 17))]) hx hb dL_suggest_13 hl (by decide) rfl (fun ls hl => ?_)
  refine lv_iconst (v := 1) hx hb dL_suggest_15 (by decide) ?_
  exact W.iret (v := 1) hx hb hr (fun tZ htZ hWZ => ⟨⟨_, (), rfl, rfl, by rw [htZ]; exact hP, by rw [hAe]; exact hD⟩, hS.F htZ⟩) hS.2.2 dL_suggest_16
set_option maxHeartbeats 4000000 in
set_option maxRecDepth 100000 in
theorem c_L_suggest_f2 (l : Launch) (hlf : l.stackTraces = false) (D : va_G) (ad : Nat → Nat) (cI : ClassId) (cd : Nat → Int32) (te : Nat → Int32) (ri : Nat → Int32) (pi : Nat → Int32) (pw : Nat → Int32) (K : Nat) (Dn : Nat) (mv : Int32) (ko : Nat → Int32) (so : Nat → Int32) (tl : Nat → Int32) (lp : Nat → Int32) (lb : Nat → Int32) (ld : Nat → Int32) (le : Nat → Int32) (C : Nat) (cl : Nat → Int32) (dq : Nat → Int32) (dy : Int32) (cL : ClassId) (ou : Nat → Int64) (pe : Int32) (wa : Int32) (sz : Nat) (hD8 : Dn ≤ 8) (hp : jIn 8 pe = true) (hBad : ¬ jSetOf Dn wa = true) : Met l yL_suggest wsL_suggest ({ frames := 7, cells := 1, slots := 6, locals := 113 } : Room) (hxP [.ref (ad 14), .int pe, .int wa, .ref (ad 17)] D sz (wLh ad cI cd te ri pi pw K Dn mv ko so tl lp lb ld le C cl dq dy cL ou) [(cI, .int), (cL, .long)]) (va_Qi (fun rZ (_ : Unit) => rZ = 2) (wrB D sz (wLh ad cI cd te ri pi pw K Dn mv ko so tl lp lb ld le C cl dq dy cL ou) (wLh ad cI cd te ri pi pw K Dn mv ko so tl lp lb ld le C cl dq dy cL ou)) (va_A (wLh ad cI cd te ri pi pw K Dn mv ko so tl lp lb ld le C cl dq dy cL ou) sz)) 1 6 (va_A (wLh ad cI cd te ri pi pw K Dn mv ko so tl lp lb ld le C cl dq dy cL ou) sz) := by
  refine va_MetW (cc := cL_suggest) (maxL := 5) (ret := (some .int)) (hh := [(0, 10, 13, 24), (0, 10, 17, 13)]) (by decide) rfl ?_
  intro p e s m args below meth c s₁ B hml hv
  obtain ⟨rfl, hsz, hP, hD0, hK, hX⟩ := hv
  have hx := B.exec
  have hb := B.bytes
  have hr := B.returns
  have hts := atoms_spec (ws := wsL_suggest) B.pre
  have hown : s.vm.findClass RL = some m.cls := findClass_of_methodNamed B.named
  have hlocks := B.notSynchronized
  subst hsz
  have hD := hD0.self (sz := s.heap.size)
  generalize hAe : va_A (wLh ad cI cd te ri pi pw K Dn mv ko so tl lp lb ld le C cl dq dy cL ou) s.heap.size = A at hD ⊢
  have hA : ∀ q : Nat, s.heap.size ≤ q → A q := fun q h => by rw [← hAe]; exact Or.inr h
  have hl := lv_entry ([.ref (ad 14), .int pe, .int wa, .ref (ad 17)]) (n := 5) (Nat.le_of_ble_eq_true rfl)
  rw [lg_entry_eq]
  generalize (lg_sl ([.ref (ad 14), .int pe, .int wa, .ref (ad 17)]) ++ List.replicate (5 - (lg_sl ([.ref (ad 14), .int pe, .int wa, .ref (ad 17)])).length) Slot.unset).toArray = ls at hl ⊢
  have hl : lv_has ls 5 [(0, .ref (ad 14)), (1, .int pe), (2, .int wa), (3, .ref (ad 17))] := hl
  refine W.genH (fun H locs eH eL => ?_)
  have hS : va_S A s.heap H locs := by rw [eH, eL]; exact va_S.rf
  have hP : va_P D vwCl (wLh ad cI cd te ri pi pw K Dn mv ko so tl lp lb ld le C cl dq dy cL ou) H := by rw [eH]; exact hP
  have hX : kcX (fun q => H.size ≤ q) s H := by rw [eH]; exact hX
  have htb := vx_table (x := yL_suggest) B (hts _ List.mem_cons_self)
  clear eH eL
  refine lv_aload_n hx hb dL_suggest_0 rfl (lv_at hl 3 rfl) ?_
  refine lv_iconst (v := 0) hx hb dL_suggest_1 (by decide) ?_
  refine lv_aload_n hx hb dL_suggest_2 rfl (lv_at hl 0 rfl) ?_
  refine lv_iload_n hx hb dL_suggest_3 rfl (lv_at hl 1 rfl) ?_
  refine lv_iload_n hx hb dL_suggest_4 rfl (lv_at hl 2 rfl) ?_
  refine kc_xV (E := "java/lang/IllegalArgumentException") (As := [.int pe, .int wa]) (rest := [.int 0, .ref (ad 17)]) ⟨hx, hb, hml, hown, hts⟩ (c_X2_suggest_f2 l hlf D ad cI cd te ri pi pw K Dn mv ko so tl lp lb ld le C cl dq dy pe wa H.size hD8 hp hBad) (cwV 2 hts gL_suggest_X2_suggest rfl rfl rfl (by decide +kernel) ⟨Nat.le_of_ble_eq_true rfl, Nat.le_of_ble_eq_true rfl⟩) hK hP hX [0, 1, 2, 3, 4, 5, 6, 7, 8, 9, 10, 11, 12, 13, 14, 15, 16] [0] rfl rfl 14 rfl rfl rfl rfl hl.1 rfl (Nat.le_of_ble_eq_true rfl) dL_suggest_5 ⟨Nat.le_of_ble_eq_true rfl, Nat.le_of_ble_eq_true rfl⟩ hS hA (fun ce q9 H1 locs1 hz hk9 hS1 hce hcv hcl => ?_)
  refine vx_catch (name := "java/lang/IllegalArgumentException") hown [⟨0, 10, 13, 24⟩] ⟨0, 10, 17, 13⟩ [] (htb.trans rfl) (fun z hz => by cases List.mem_singleton.mp hz; exact Or.inr ⟨by decide, "java/lang/IndexOutOfBoundsException", hts (.classLink RL 24 "java/lang/IndexOutOfBoundsException") (by decide +kernel), hX.2.2.2.2 ("java/lang/IllegalArgumentException", "java/lang/IndexOutOfBoundsException") (by decide +kernel)⟩) (by decide) (by decide) (hts (.classLink RL 13 "java/lang/IllegalArgumentException") (by decide +kernel)) (va_Nw.use rfl (hX.2.2.1 (.castable "java/lang/IllegalArgumentException" "java/lang/IllegalArgumentException") (by decide +kernel))) hce hcv hcl ?_
  have hP : va_P D vwCl (wLh ad cI cd te ri pi pw K Dn mv ko so tl lp lb ld le C cl dq dy cL ou) H1 := hP.kept (fun k q h => hk9 q.1 ((hP k q h).lt))
  generalize H1 = H at hP hS1 ⊢
  generalize locs1 = locs at hS1 ⊢
  have hS := hS1
  clear hX
  refine lv_astore (lv' := [(4, .ref q9), (0, .ref (ad 14)), (1, .int pe), (2, .int wa), (3, .ref (ad 17))]) hx hb dL_suggest_17 hl (by decide) rfl (fun ls hl => ?_)
  refine lv_iconst (v := 2) hx hb dL_suggest_19 (by decide) ?_
  exact W.iret (v := 2) hx hb hr (fun tZ htZ hWZ => ⟨⟨_, (), rfl, rfl, by rw [htZ]; exact hP, by rw [hAe]; exact hD⟩, hS.F htZ⟩) hS.2.2 dL_suggest_20
