set_option maxHeartbeats 4000000 in
set_option maxRecDepth 100000 in
theorem c_X1_takeKey (l : Launch) (D : va_G) (ad : Nat → Nat) (cI : ClassId) (cd : Nat → Int32) (te : Nat → Int32) (ri : Nat → Int32) (pi : Nat → Int32) (pw : Nat → Int32) (K : Nat) (Dn : Nat) (mv : Int32) (code : Int32) (sz : Nat) (hK7 : K < 8) : Met l yX1_takeKey wsX1_takeKey ({ frames := 1, cells := 0, slots := 0, locals := 23 } : Room) (wrP [.ref (ad 0), .int code] D sz (wPl ad cI cd te ri pi pw K Dn mv) [(cI, .int)]) (va_Qi (fun rZ (_ : Unit) => rZ = nI K) (wrB D sz (wPl ad cI cd te ri pi pw K Dn mv) (wPl ad cI (upd cd K code) (upd te K (jTeeth code 5)) ri pi pw (K + 1) Dn mv)) (va_A (wPl ad cI cd te ri pi pw K Dn mv) sz)) 0 0 (va_A (wPl ad cI cd te ri pi pw K Dn mv) sz) := by
  refine Met.ofW (cc := cX1_takeKey) (maxL := 3) (ret := (some .int)) (by decide) rfl ?_
  intro p e s m args below meth c s₁ B hml hv
  obtain ⟨rfl, hsz, hP, hD0, hK⟩ := hv
  have hx := B.exec
  have hb := B.bytes
  have hr := B.returns
  have hts := atoms_spec (ws := wsX1_takeKey) B.pre
  have hown : s.vm.findClass RX1 = some m.cls := findClass_of_methodNamed B.named
  have hlocks := B.notSynchronized
  subst hsz
  have hD := hD0.self (sz := s.heap.size)
  generalize hAe : va_A (wPl ad cI cd te ri pi pw K Dn mv) s.heap.size = A at hD ⊢
  have hA : ∀ q : Nat, s.heap.size ≤ q → A q := fun q h => by rw [← hAe]; exact Or.inr h
  have hinX1 : ∀ w ∈ u_ws RX1 TX1 8, w ∈ wsX1_takeKey := by decide +kernel
  have hf27 := hts (.fieldLink RX1 27 "KeyCabinet$Plan" "keys" "I") (by decide +kernel)
  have hf11 := hts (.fieldLink RX1 11 "KeyCabinet$Plan" "codeOf" "[I") (by decide +kernel)
  have hf15 := hts (.fieldLink RX1 15 "KeyCabinet$Plan" "teethOf" "[I") (by decide +kernel)
  have hl := lv_entry ([.ref (ad 0), .int code]) (n := 3) (Nat.le_of_ble_eq_true rfl)
  rw [lg_entry_eq]
  generalize (lg_sl ([.ref (ad 0), .int code]) ++ List.replicate (3 - (lg_sl ([.ref (ad 0), .int code])).length) Slot.unset).toArray = ls at hl ⊢
  have hl : lv_has ls 3 [(0, .ref (ad 0)), (1, .int code)] := hl
  refine W.genH (fun H locs eH eL => ?_)
  have hS : va_S A s.heap H locs := by rw [eH, eL]; exact va_S.rf
  have hP : va_P D vwCl (wPl ad cI cd te ri pi pw K Dn mv) H := by rw [eH]; exact hP
  clear eH eL
  refine lv_aload_n hx hb dX1_takeKey_0 rfl (lv_at hl 0 rfl) ?_
  refine va_get (D := D) (ci := 1) (v := .int (nI K)) (C := RX1) (T := TX1) (N := 8) hx hb hts hinX1 hown hK.1 hP 0 rfl rfl 5 (by decide) hf27 (fun _ h9 => h9) rfl dX1_takeKey_1 ?_
  refine lv_istore_n (lv' := [(2, .int (nI K)), (0, .ref (ad 0)), (1, .int code)]) hx hb dX1_takeKey_4 rfl hl (by decide) rfl (fun ls hl => ?_)
  refine lv_aload_n hx hb dX1_takeKey_5 rfl (lv_at hl 1 rfl) ?_
  refine va_get (D := D) (ci := 1) (v := .ref (ad 1)) (C := RX1) (T := TX1) (N := 8) hx hb hts hinX1 hown hK.1 hP 0 rfl rfl 0 (by decide) hf11 (fun _ h9 => h9) rfl dX1_takeKey_6 ?_
  refine lv_iload_n hx hb dX1_takeKey_9 rfl (lv_at hl 0 rfl) ?_
  refine lv_iload_n hx hb dX1_takeKey_10 rfl (lv_at hl 2 rfl) ?_
  refine kc_ast (i := K) (n := 8) hx hb hK hP hD hS 1 0 rfl rfl (by omega) (by decide) dX1_takeKey_11 (fun H locs hP hD hS => ?_)
  have hP : va_P D vwCl (wPl ad cI (upd cd K code) te ri pi pw K Dn mv) H := hP
  have hD : va_D A (wPl ad cI (upd cd K code) te ri pi pw K Dn mv) := hD
  refine lv_aload_n hx hb dX1_takeKey_12 rfl (lv_at hl 1 rfl) ?_
  refine va_get (D := D) (ci := 1) (v := .ref (ad 2)) (C := RX1) (T := TX1) (N := 8) hx hb hts hinX1 hown hK.1 hP 0 rfl rfl 1 (by decide) hf15 (fun _ h9 => h9) rfl dX1_takeKey_13 ?_
  refine lv_iload_n hx hb dX1_takeKey_16 rfl (lv_at hl 0 rfl) ?_
  refine lv_iload_n hx hb dX1_takeKey_17 rfl (lv_at hl 2 rfl) ?_
  refine kc_rSi (As := [.int code]) (rest := [.int (nI K), .ref (ad 2)]) ⟨hx, hb, hml, hown, hts⟩ (c_X1_teeth l code ) (va_cwS 1 hts gX1_takeKey_X1_teeth rfl rfl rfl (by decide +kernel) ⟨Nat.le_of_ble_eq_true rfl, Nat.le_of_ble_eq_true rfl⟩) rfl hl.1 rfl (Nat.le_of_ble_eq_true rfl) dX1_takeKey_18 ⟨Nat.le_of_ble_eq_true rfl, Nat.le_of_ble_eq_true rfl⟩ ?_
  refine kc_ast (i := K) (n := 8) hx hb hK hP hD hS 2 0 rfl rfl (by omega) (by decide) dX1_takeKey_21 (fun H locs hP hD hS => ?_)
  have hP : va_P D vwCl (wPl ad cI (upd cd K code) (upd te K (jTeeth code 5)) ri pi pw K Dn mv) H := hP
  have hD : va_D A (wPl ad cI (upd cd K code) (upd te K (jTeeth code 5)) ri pi pw K Dn mv) := hD
  refine lv_aload_n hx hb dX1_takeKey_22 rfl (lv_at hl 1 rfl) ?_
  refine lv_dup hx hb dX1_takeKey_23 rfl ?_
  refine va_get (D := D) (ci := 1) (v := .int (nI K)) (C := RX1) (T := TX1) (N := 8) hx hb hts hinX1 hown hK.1 hP 0 rfl rfl 5 (by decide) hf27 (fun _ h9 => h9) rfl dX1_takeKey_24 ?_
  refine lv_iconst (v := 1) hx hb dX1_takeKey_27 (by decide) ?_
  refine lv_iadd hx hb dX1_takeKey_28 ?_
  refine kc_top (show (nI K) + 1 = nI (K + 1) from nI_add _ _) ?_
  refine va_put (D := D) (ci := 1) (v := .int (nI (K + 1))) (ty := .int) (C := RX1) (T := TX1) (N := 8) hx hb hts hinX1 tyX1 tyX1_ok nmX1 hown hK.1 hP hD hS 0 rfl rfl 5 (by decide) hf27 (fun _ h9 => h9) rfl (by decide +kernel) rfl rfl (Nat.le_of_ble_eq_true rfl) dX1_takeKey_29 (fun H locs hP hD hS => ?_)
  have hP : va_P D vwCl (wPl ad cI (upd cd K code) (upd te K (jTeeth code 5)) ri pi pw (K + 1) Dn mv) H := hP
  have hD : va_D A (wPl ad cI (upd cd K code) (upd te K (jTeeth code 5)) ri pi pw (K + 1) Dn mv) := hD
  refine lv_iload_n hx hb dX1_takeKey_32 rfl (lv_at hl 0 rfl) ?_
  exact W.iret (v := nI K) hx hb hr (fun tZ htZ hWZ => ⟨⟨_, (), rfl, rfl, by rw [htZ]; exact hP, by rw [hAe]; exact hD⟩, hS.F htZ⟩) hS.2.2 dX1_takeKey_33
set_option maxHeartbeats 4000000 in
set_option maxRecDepth 100000 in
theorem c_X1_changePins (l : Launch) (D : va_G) (ad : Nat → Nat) (cI : ClassId) (cd : Nat → Int32) (te : Nat → Int32) (ri : Nat → Int32) (pi : Nat → Int32) (pw : Nat → Int32) (K : Nat) (Dn : Nat) (mv : Int32) (d : Nat) (sz : Nat) (hK8 : K ≤ 8) (hd : d < 8) : Met l yX1_changePins wsX1_changePins ({ frames := 1, cells := 0, slots := 0, locals := 23 } : Room) (wrP [.ref (ad 0), .int (nI d)] D sz (wPl ad cI cd te ri pi pw K Dn mv) [(cI, .int)]) (va_Qv (fun (_ : Unit) => True) (wrB D sz (wPl ad cI cd te ri pi pw K Dn mv) (wPl ad cI cd te ri (upd pi d (jPinsFor te (ri d) K)) pw K Dn (mv + jPop (pi d ^^^ jPinsFor te (ri d) K)))) (va_A (wPl ad cI cd te ri pi pw K Dn mv) sz)) 0 0 (va_A (wPl ad cI cd te ri pi pw K Dn mv) sz) := by
  refine Met.ofW (cc := cX1_changePins) (maxL := 3) (ret := none) (by decide) rfl ?_
  intro p e s m args below meth c s₁ B hml hv
  obtain ⟨rfl, hsz, hP, hD0, hK⟩ := hv
  have hx := B.exec
  have hb := B.bytes
  have hr := B.returns
  have hts := atoms_spec (ws := wsX1_changePins) B.pre
  have hown : s.vm.findClass RX1 = some m.cls := findClass_of_methodNamed B.named
  have hlocks := B.notSynchronized
  subst hsz
  have hD := hD0.self (sz := s.heap.size)
  generalize hAe : va_A (wPl ad cI cd te ri pi pw K Dn mv) s.heap.size = A at hD ⊢
  have hA : ∀ q : Nat, s.heap.size ≤ q → A q := fun q h => by rw [← hAe]; exact Or.inr h
  have hinX1 : ∀ w ∈ u_ws RX1 TX1 8, w ∈ wsX1_changePins := by decide +kernel
  have hf21 := hts (.fieldLink RX1 21 "KeyCabinet$Plan" "pinsOf" "[I") (by decide +kernel)
  have hf18 := hts (.fieldLink RX1 18 "KeyCabinet$Plan" "rightsOf" "[I") (by decide +kernel)
  have hf34 := hts (.fieldLink RX1 34 "KeyCabinet$Plan" "pinsMoved" "I") (by decide +kernel)
  have hl := lv_entry ([.ref (ad 0), .int (nI d)]) (n := 3) (Nat.le_of_ble_eq_true rfl)
  rw [lg_entry_eq]
  generalize (lg_sl ([.ref (ad 0), .int (nI d)]) ++ List.replicate (3 - (lg_sl ([.ref (ad 0), .int (nI d)])).length) Slot.unset).toArray = ls at hl ⊢
  have hl : lv_has ls 3 [(0, .ref (ad 0)), (1, .int (nI d))] := hl
  refine W.genH (fun H locs eH eL => ?_)
  have hS : va_S A s.heap H locs := by rw [eH, eL]; exact va_S.rf
  have hP : va_P D vwCl (wPl ad cI cd te ri pi pw K Dn mv) H := by rw [eH]; exact hP
  clear eH eL
  refine lv_aload_n hx hb dX1_changePins_0 rfl (lv_at hl 0 rfl) ?_
  refine va_get (D := D) (ci := 1) (v := .ref (ad 4)) (C := RX1) (T := TX1) (N := 8) hx hb hts hinX1 hown hK.1 hP 0 rfl rfl 3 (by decide) hf21 (fun _ h9 => h9) rfl dX1_changePins_1 ?_
  refine lv_iload_n hx hb dX1_changePins_4 rfl (lv_at hl 1 rfl) ?_
  refine kc_ald (i := d) (n := 8) hx hb hK hP 4 0 rfl rfl (by omega) (by decide) dX1_changePins_5 ?_
  refine lv_istore_n (lv' := [(2, .int (pi d)), (0, .ref (ad 0)), (1, .int (nI d))]) hx hb dX1_changePins_6 rfl hl (by decide) rfl (fun ls hl => ?_)
  refine lv_aload_n hx hb dX1_changePins_7 rfl (lv_at hl 1 rfl) ?_
  refine va_get (D := D) (ci := 1) (v := .ref (ad 4)) (C := RX1) (T := TX1) (N := 8) hx hb hts hinX1 hown hK.1 hP 0 rfl rfl 3 (by decide) hf21 (fun _ h9 => h9) rfl dX1_changePins_8 ?_
  refine lv_iload_n hx hb dX1_changePins_11 rfl (lv_at hl 2 rfl) ?_
  refine lv_aload_n hx hb dX1_changePins_12 rfl (lv_at hl 1 rfl) ?_
  refine lv_aload_n hx hb dX1_changePins_13 rfl (lv_at hl 1 rfl) ?_
  refine va_get (D := D) (ci := 1) (v := .ref (ad 3)) (C := RX1) (T := TX1) (N := 8) hx hb hts hinX1 hown hK.1 hP 0 rfl rfl 2 (by decide) hf18 (fun _ h9 => h9) rfl dX1_changePins_14 ?_
  refine lv_iload_n hx hb dX1_changePins_17 rfl (lv_at hl 2 rfl) ?_
  refine kc_ald (i := d) (n := 8) hx hb hK hP 3 0 rfl rfl (by omega) (by decide) dX1_changePins_18 ?_
  refine kc_rVi (As := [.int (ri d)]) (rest := [.int (nI d), .ref (ad 4)]) ⟨hx, hb, hml, hown, hts⟩ (c_X1_pinsFor l D ad cI cd te ri pi pw K Dn mv (ri d) hK8) (cwV 1 hts gX1_changePins_X1_pinsFor rfl rfl rfl (by decide +kernel) ⟨Nat.le_of_ble_eq_true rfl, Nat.le_of_ble_eq_true rfl⟩) hK hP [0, 1, 2, 3, 4, 5] [0] rfl rfl 0 rfl rfl rfl rfl hl.1 rfl (Nat.le_of_ble_eq_true rfl) dX1_changePins_19 ⟨Nat.le_of_ble_eq_true rfl, Nat.le_of_ble_eq_true rfl⟩ ?_
  refine kc_ast (i := d) (n := 8) hx hb hK hP hD hS 4 0 rfl rfl (by omega) (by decide) dX1_changePins_22 (fun H locs hP hD hS => ?_)
  have hP : va_P D vwCl (wPl ad cI cd te ri (upd pi d (jPinsFor te (ri d) K)) pw K Dn mv) H := hP
  have hD : va_D A (wPl ad cI cd te ri (upd pi d (jPinsFor te (ri d) K)) pw K Dn mv) := hD
  refine lv_aload_n hx hb dX1_changePins_23 rfl (lv_at hl 1 rfl) ?_
  refine lv_dup hx hb dX1_changePins_24 rfl ?_
  refine va_get (D := D) (ci := 1) (v := .int mv) (C := RX1) (T := TX1) (N := 8) hx hb hts hinX1 hown hK.1 hP 0 rfl rfl 7 (by decide) hf34 (fun _ h9 => h9) rfl dX1_changePins_25 ?_
  refine lv_iload_n hx hb dX1_changePins_28 rfl (lv_at hl 0 rfl) ?_
  refine lv_aload_n hx hb dX1_changePins_29 rfl (lv_at hl 1 rfl) ?_
  refine va_get (D := D) (ci := 1) (v := .ref (ad 4)) (C := RX1) (T := TX1) (N := 8) hx hb hts hinX1 hown hK.1 hP 0 rfl rfl 3 (by decide) hf21 (fun _ h9 => h9) rfl dX1_changePins_30 ?_
  refine lv_iload_n hx hb dX1_changePins_33 rfl (lv_at hl 2 rfl) ?_
  refine kc_ald (i := d) (n := 8) hx hb hK hP 4 0 rfl rfl (by omega) (by decide) dX1_changePins_34 ?_
  refine kc_top (show (upd pi d (jPinsFor te (ri d) K)) d = jPinsFor te (ri d) K from pk_us) ?_
  refine lv_ixor hx hb dX1_changePins_35 ?_
  refine kc_rSi (As := [.int ((pi d) ^^^ (jPinsFor te (ri d) K))]) (rest := [.int mv, .ref (ad 0)]) ⟨hx, hb, hml, hown, hts⟩ (c_J6_bitCount_0f7a4 l ((pi d) ^^^ (jPinsFor te (ri d) K)) ) (va_cwS 1 hts gX1_changePins_J6_bitCount_0f7a4 rfl rfl rfl (by decide +kernel) ⟨Nat.le_of_ble_eq_true rfl, Nat.le_of_ble_eq_true rfl⟩) rfl hl.1 rfl (Nat.le_of_ble_eq_true rfl) dX1_changePins_36 ⟨Nat.le_of_ble_eq_true rfl, Nat.le_of_ble_eq_true rfl⟩ ?_
  refine lv_iadd hx hb dX1_changePins_39 ?_
  refine va_put (D := D) (ci := 1) (v := .int (mv + (jPop ((pi d) ^^^ (jPinsFor te (ri d) K))))) (ty := .int) (C := RX1) (T := TX1) (N := 8) hx hb hts hinX1 tyX1 tyX1_ok nmX1 hown hK.1 hP hD hS 0 rfl rfl 7 (by decide) hf34 (fun _ h9 => h9) rfl (by decide +kernel) rfl rfl (Nat.le_of_ble_eq_true rfl) dX1_changePins_40 (fun H locs hP hD hS => ?_)
  have hP : va_P D vwCl (wPl ad cI cd te ri (upd pi d (jPinsFor te (ri d) K)) pw K Dn (mv + (jPop ((pi d) ^^^ (jPinsFor te (ri d) K))))) H := hP
  have hD : va_D A (wPl ad cI cd te ri (upd pi d (jPinsFor te (ri d) K)) pw K Dn (mv + (jPop ((pi d) ^^^ (jPinsFor te (ri d) K))))) := hD
  have eqw_mv : mv + jPop (pi d ^^^ jPinsFor te (ri d) K) = mv + (jPop ((pi d) ^^^ (jPinsFor te (ri d) K))) := rfl
  have hP : va_P D vwCl (wPl ad cI cd te ri (upd pi d (jPinsFor te (ri d) K)) pw K Dn (mv + jPop (pi d ^^^ jPinsFor te (ri d) K))) H := by rw [eqw_mv]; exact hP
  have hD : va_D A (wPl ad cI cd te ri (upd pi d (jPinsFor te (ri d) K)) pw K Dn (mv + jPop (pi d ^^^ jPinsFor te (ri d) K))) := by rw [eqw_mv]; exact hD
  exact W.vret hx hb hr (fun tZ htZ hWZ => ⟨⟨(), rfl, trivial, by rw [htZ]; exact hP, by rw [hAe]; exact hD⟩, hS.F htZ⟩) hS.2.2 dX1_changePins_43
set_option maxHeartbeats 4000000 in
set_option maxRecDepth 100000 in
theorem c_X1_giveRights (l : Launch) (D : va_G) (ad : Nat → Nat) (cI : ClassId) (cd : Nat → Int32) (te : Nat → Int32) (ri : Nat → Int32) (pi : Nat → Int32) (pw : Nat → Int32) (K : Nat) (Dn : Nat) (mv : Int32) (d : Nat) (r : Int32) (sz : Nat) (hK8 : K ≤ 8) (hd : d < 8) : Met l yX1_giveRights wsX1_giveRights ({ frames := 2, cells := 0, slots := 0, locals := 45 } : Room) (wrP [.ref (ad 0), .int (nI d), .int r] D sz (wPl ad cI cd te ri pi pw K Dn mv) [(cI, .int)]) (va_Qv (fun (_ : Unit) => True) (wrB D sz (wPl ad cI cd te ri pi pw K Dn mv) (wPl ad cI cd te (upd ri d r) (upd pi d (jPinsFor te r K)) pw K Dn (mv + jPop (pi d ^^^ jPinsFor te r K)))) (va_A (wPl ad cI cd te ri pi pw K Dn mv) sz)) 0 0 (va_A (wPl ad cI cd te ri pi pw K Dn mv) sz) := by
  refine Met.ofW (cc := cX1_giveRights) (maxL := 3) (ret := none) (by decide) rfl ?_
  intro p e s m args below meth c s₁ B hml hv
  obtain ⟨rfl, hsz, hP, hD0, hK⟩ := hv
  have hx := B.exec
  have hb := B.bytes
  have hr := B.returns
  have hts := atoms_spec (ws := wsX1_giveRights) B.pre
  have hown : s.vm.findClass RX1 = some m.cls := findClass_of_methodNamed B.named
  have hlocks := B.notSynchronized
  subst hsz
  have hD := hD0.self (sz := s.heap.size)
  generalize hAe : va_A (wPl ad cI cd te ri pi pw K Dn mv) s.heap.size = A at hD ⊢
  have hA : ∀ q : Nat, s.heap.size ≤ q → A q := fun q h => by rw [← hAe]; exact Or.inr h
  have hinX1 : ∀ w ∈ u_ws RX1 TX1 8, w ∈ wsX1_giveRights := by decide +kernel
  have hf18 := hts (.fieldLink RX1 18 "KeyCabinet$Plan" "rightsOf" "[I") (by decide +kernel)
  have hl := lv_entry ([.ref (ad 0), .int (nI d), .int r]) (n := 3) (Nat.le_of_ble_eq_true rfl)
  rw [lg_entry_eq]
  generalize (lg_sl ([.ref (ad 0), .int (nI d), .int r]) ++ List.replicate (3 - (lg_sl ([.ref (ad 0), .int (nI d), .int r])).length) Slot.unset).toArray = ls at hl ⊢
  have hl : lv_has ls 3 [(0, .ref (ad 0)), (1, .int (nI d)), (2, .int r)] := hl
  refine W.genH (fun H locs eH eL => ?_)
  have hS : va_S A s.heap H locs := by rw [eH, eL]; exact va_S.rf
  have hP : va_P D vwCl (wPl ad cI cd te ri pi pw K Dn mv) H := by rw [eH]; exact hP
  clear eH eL
  refine lv_aload_n hx hb dX1_giveRights_0 rfl (lv_at hl 0 rfl) ?_
  refine va_get (D := D) (ci := 1) (v := .ref (ad 3)) (C := RX1) (T := TX1) (N := 8) hx hb hts hinX1 hown hK.1 hP 0 rfl rfl 2 (by decide) hf18 (fun _ h9 => h9) rfl dX1_giveRights_1 ?_
  refine lv_iload_n hx hb dX1_giveRights_4 rfl (lv_at hl 1 rfl) ?_
  refine lv_iload_n hx hb dX1_giveRights_5 rfl (lv_at hl 2 rfl) ?_
  refine kc_ast (i := d) (n := 8) hx hb hK hP hD hS 3 0 rfl rfl (by omega) (by decide) dX1_giveRights_6 (fun H locs hP hD hS => ?_)
  have hP : va_P D vwCl (wPl ad cI cd te (upd ri d r) pi pw K Dn mv) H := hP
  have hD : va_D A (wPl ad cI cd te (upd ri d r) pi pw K Dn mv) := hD
  refine lv_aload_n hx hb dX1_giveRights_7 rfl (lv_at hl 0 rfl) ?_
  refine lv_iload_n hx hb dX1_giveRights_8 rfl (lv_at hl 1 rfl) ?_
  refine kc_wVv (w1 := wPl ad cI cd te (upd ri d r) (upd pi d (jPinsFor te ((upd ri d r) d) K)) pw K Dn (mv + jPop (pi d ^^^ jPinsFor te ((upd ri d r) d) K))) (wr := []) (ws1 := wPl ad cI cd te (upd ri d r) (upd pi d (jPinsFor te ((upd ri d r) d) K)) pw K Dn (mv + jPop (pi d ^^^ jPinsFor te ((upd ri d r) d) K))) (As := [.int (nI d)]) (rest := []) ⟨hx, hb, hml, hown, hts⟩ (c_X1_changePins l D ad cI cd te (upd ri d r) pi pw K Dn mv d H.size hK8 hd) (cwV 1 hts gX1_giveRights_X1_changePins rfl rfl rfl (by decide +kernel) ⟨Nat.le_of_ble_eq_true rfl, Nat.le_of_ble_eq_true rfl⟩) hK hP hD hS hA [0, 1, 2, 3, 4, 5] [] [0, 1, 2, 3, 4, 5] [0] rfl rfl rfl rfl (by decide) rfl rfl rfl 0 rfl rfl rfl rfl hl.1 rfl (Nat.le_of_ble_eq_true rfl) dX1_giveRights_9 ⟨Nat.le_of_ble_eq_true rfl, Nat.le_of_ble_eq_true rfl⟩ (fun H locs hP hD hS => ?_)
  have eqw_pi : upd pi d (jPinsFor te r K) = upd pi d (jPinsFor te ((upd ri d r) d) K) := by rw [pk_us]
  have eqw_mv : mv + jPop (pi d ^^^ jPinsFor te r K) = mv + jPop (pi d ^^^ jPinsFor te ((upd ri d r) d) K) := by rw [pk_us]
  have hP : va_P D vwCl (wPl ad cI cd te (upd ri d r) (upd pi d (jPinsFor te r K)) pw K Dn (mv + jPop (pi d ^^^ jPinsFor te r K))) H := by rw [eqw_pi, eqw_mv]; exact hP
  have hD : va_D A (wPl ad cI cd te (upd ri d r) (upd pi d (jPinsFor te r K)) pw K Dn (mv + jPop (pi d ^^^ jPinsFor te r K))) := by rw [eqw_pi, eqw_mv]; exact hD
  exact W.vret hx hb hr (fun tZ htZ hWZ => ⟨⟨(), rfl, trivial, by rw [htZ]; exact hP, by rw [hAe]; exact hD⟩, hS.F htZ⟩) hS.2.2 dX1_giveRights_12
set_option maxHeartbeats 4000000 in
set_option maxRecDepth 100000 in
theorem c_X1_takeDoor (l : Launch) (D : va_G) (ad : Nat → Nat) (cI : ClassId) (cd : Nat → Int32) (te : Nat → Int32) (ri : Nat → Int32) (pi : Nat → Int32) (pw : Nat → Int32) (K : Nat) (Dn : Nat) (mv : Int32) (r : Int32) (sz : Nat) (hK8 : K ≤ 8) (hD7 : Dn < 8) : Met l yX1_takeDoor wsX1_takeDoor ({ frames := 3, cells := 0, slots := 0, locals := 67 } : Room) (wrP [.ref (ad 0), .int r] D sz (wPl ad cI cd te ri pi pw K Dn mv) [(cI, .int)]) (va_Qi (fun rZ (_ : Unit) => rZ = nI Dn) (wrB D sz (wPl ad cI cd te ri pi pw K Dn mv) (wPl ad cI cd te (upd ri Dn r) (upd pi Dn (jPinsFor te r K)) pw K (Dn + 1) (mv + jPop (pi Dn ^^^ jPinsFor te r K)))) (va_A (wPl ad cI cd te ri pi pw K Dn mv) sz)) 0 0 (va_A (wPl ad cI cd te ri pi pw K Dn mv) sz) := by
  refine Met.ofW (cc := cX1_takeDoor) (maxL := 3) (ret := (some .int)) (by decide) rfl ?_
  intro p e s m args below meth c s₁ B hml hv
  obtain ⟨rfl, hsz, hP, hD0, hK⟩ := hv
  have hx := B.exec
  have hb := B.bytes
  have hr := B.returns
  have hts := atoms_spec (ws := wsX1_takeDoor) B.pre
  have hown : s.vm.findClass RX1 = some m.cls := findClass_of_methodNamed B.named
  have hlocks := B.notSynchronized
  subst hsz
  have hD := hD0.self (sz := s.heap.size)
  generalize hAe : va_A (wPl ad cI cd te ri pi pw K Dn mv) s.heap.size = A at hD ⊢
  have hA : ∀ q : Nat, s.heap.size ≤ q → A q := fun q h => by rw [← hAe]; exact Or.inr h
  have hinX1 : ∀ w ∈ u_ws RX1 TX1 8, w ∈ wsX1_takeDoor := by decide +kernel
  have hf31 := hts (.fieldLink RX1 31 "KeyCabinet$Plan" "doors" "I") (by decide +kernel)
  have hl := lv_entry ([.ref (ad 0), .int r]) (n := 3) (Nat.le_of_ble_eq_true rfl)
  rw [lg_entry_eq]
  generalize (lg_sl ([.ref (ad 0), .int r]) ++ List.replicate (3 - (lg_sl ([.ref (ad 0), .int r])).length) Slot.unset).toArray = ls at hl ⊢
  have hl : lv_has ls 3 [(0, .ref (ad 0)), (1, .int r)] := hl
  refine W.genH (fun H locs eH eL => ?_)
  have hS : va_S A s.heap H locs := by rw [eH, eL]; exact va_S.rf
  have hP : va_P D vwCl (wPl ad cI cd te ri pi pw K Dn mv) H := by rw [eH]; exact hP
  clear eH eL
  refine lv_aload_n hx hb dX1_takeDoor_0 rfl (lv_at hl 0 rfl) ?_
  refine va_get (D := D) (ci := 1) (v := .int (nI Dn)) (C := RX1) (T := TX1) (N := 8) hx hb hts hinX1 hown hK.1 hP 0 rfl rfl 6 (by decide) hf31 (fun _ h9 => h9) rfl dX1_takeDoor_1 ?_
  refine lv_istore_n (lv' := [(2, .int (nI Dn)), (0, .ref (ad 0)), (1, .int r)]) hx hb dX1_takeDoor_4 rfl hl (by decide) rfl (fun ls hl => ?_)
  refine lv_aload_n hx hb dX1_takeDoor_5 rfl (lv_at hl 1 rfl) ?_
  refine lv_dup hx hb dX1_takeDoor_6 rfl ?_
  refine va_get (D := D) (ci := 1) (v := .int (nI Dn)) (C := RX1) (T := TX1) (N := 8) hx hb hts hinX1 hown hK.1 hP 0 rfl rfl 6 (by decide) hf31 (fun _ h9 => h9) rfl dX1_takeDoor_7 ?_
  refine lv_iconst (v := 1) hx hb dX1_takeDoor_10 (by decide) ?_
  refine lv_iadd hx hb dX1_takeDoor_11 ?_
  refine kc_top (show (nI Dn) + 1 = nI (Dn + 1) from nI_add _ _) ?_
  refine va_put (D := D) (ci := 1) (v := .int (nI (Dn + 1))) (ty := .int) (C := RX1) (T := TX1) (N := 8) hx hb hts hinX1 tyX1 tyX1_ok nmX1 hown hK.1 hP hD hS 0 rfl rfl 6 (by decide) hf31 (fun _ h9 => h9) rfl (by decide +kernel) rfl rfl (Nat.le_of_ble_eq_true rfl) dX1_takeDoor_12 (fun H locs hP hD hS => ?_)
  have hP : va_P D vwCl (wPl ad cI cd te ri pi pw K (Dn + 1) mv) H := hP
  have hD : va_D A (wPl ad cI cd te ri pi pw K (Dn + 1) mv) := hD
  refine lv_aload_n hx hb dX1_takeDoor_15 rfl (lv_at hl 1 rfl) ?_
  refine lv_iload_n hx hb dX1_takeDoor_16 rfl (lv_at hl 0 rfl) ?_
  refine lv_iload_n hx hb dX1_takeDoor_17 rfl (lv_at hl 2 rfl) ?_
  refine kc_wVv (w1 := wPl ad cI cd te (upd ri Dn r) (upd pi Dn (jPinsFor te r K)) pw K (Dn + 1) (mv + jPop (pi Dn ^^^ jPinsFor te r K))) (wr := []) (ws1 := wPl ad cI cd te (upd ri Dn r) (upd pi Dn (jPinsFor te r K)) pw K (Dn + 1) (mv + jPop (pi Dn ^^^ jPinsFor te r K))) (As := [.int (nI Dn), .int r]) (rest := []) ⟨hx, hb, hml, hown, hts⟩ (c_X1_giveRights l D ad cI cd te ri pi pw K (Dn + 1) mv Dn r H.size hK8 (by first | assumption | omega)) (cwV 2 hts gX1_takeDoor_X1_giveRights rfl rfl rfl (by decide +kernel) ⟨Nat.le_of_ble_eq_true rfl, Nat.le_of_ble_eq_true rfl⟩) hK hP hD hS hA [0, 1, 2, 3, 4, 5] [] [0, 1, 2, 3, 4, 5] [0] rfl rfl rfl rfl (by decide) rfl rfl rfl 0 rfl rfl rfl rfl hl.1 rfl (Nat.le_of_ble_eq_true rfl) dX1_takeDoor_18 ⟨Nat.le_of_ble_eq_true rfl, Nat.le_of_ble_eq_true rfl⟩ (fun H locs hP hD hS => ?_)
  refine lv_iload_n hx hb dX1_takeDoor_21 rfl (lv_at hl 0 rfl) ?_
  exact W.iret (v := nI Dn) hx hb hr (fun tZ htZ hWZ => ⟨⟨_, (), rfl, rfl, by rw [htZ]; exact hP, by rw [hAe]; exact hD⟩, hS.F htZ⟩) hS.2.2 dX1_takeDoor_22
set_option maxHeartbeats 4000000 in
set_option maxRecDepth 100000 in
theorem c_X1_giveCode (l : Launch) (D : va_G) (ad : Nat → Nat) (cI : ClassId) (cd : Nat → Int32) (te : Nat → Int32) (ri : Nat → Int32) (pi : Nat → Int32) (pw : Nat → Int32) (K : Nat) (Dn : Nat) (mv : Int32) (k : Nat) (code : Int32) (sz : Nat) (hK8 : K ≤ 8) (hD8 : Dn ≤ 8) (hk : k < 8) : Met l yX1_giveCode wsX1_giveCode ({ frames := 2, cells := 0, slots := 0, locals := 45 } : Room) (wrP [.ref (ad 0), .int (nI k), .int code] D sz (wPl ad cI cd te ri pi pw K Dn mv) [(cI, .int)]) (va_Qv (fun (_ : Unit) => True) (wrB D sz (wPl ad cI cd te ri pi pw K Dn mv) (wPl ad cI (upd cd k code) (upd te k (jTeeth code 5)) ri (jRepin (upd te k (jTeeth code 5)) ri K pi Dn) pw K Dn (jRework (upd te k (jTeeth code 5)) ri K pi mv Dn))) (va_A (wPl ad cI cd te ri pi pw K Dn mv) sz)) 0 0 (va_A (wPl ad cI cd te ri pi pw K Dn mv) sz) := by
  refine Met.ofW (cc := cX1_giveCode) (maxL := 4) (ret := none) (by decide) rfl ?_
  intro p e s m args below meth c s₁ B hml hv
  obtain ⟨rfl, hsz, hP, hD0, hK⟩ := hv
  have hx := B.exec
  have hb := B.bytes
  have hr := B.returns
  have hts := atoms_spec (ws := wsX1_giveCode) B.pre
  have hown : s.vm.findClass RX1 = some m.cls := findClass_of_methodNamed B.named
  have hlocks := B.notSynchronized
  subst hsz
  have hD := hD0.self (sz := s.heap.size)
  generalize hAe : va_A (wPl ad cI cd te ri pi pw K Dn mv) s.heap.size = A at hD ⊢
  have hA : ∀ q : Nat, s.heap.size ≤ q → A q := fun q h => by rw [← hAe]; exact Or.inr h
  have hinX1 : ∀ w ∈ u_ws RX1 TX1 8, w ∈ wsX1_giveCode := by decide +kernel
  have hf11 := hts (.fieldLink RX1 11 "KeyCabinet$Plan" "codeOf" "[I") (by decide +kernel)
  have hf15 := hts (.fieldLink RX1 15 "KeyCabinet$Plan" "teethOf" "[I") (by decide +kernel)
  have hf31 := hts (.fieldLink RX1 31 "KeyCabinet$Plan" "doors" "I") (by decide +kernel)
  have hl := lv_entry ([.ref (ad 0), .int (nI k), .int code]) (n := 4) (Nat.le_of_ble_eq_true rfl)
  rw [lg_entry_eq]
  generalize (lg_sl ([.ref (ad 0), .int (nI k), .int code]) ++ List.replicate (4 - (lg_sl ([.ref (ad 0), .int (nI k), .int code])).length) Slot.unset).toArray = ls at hl ⊢
  have hl : lv_has ls 4 [(0, .ref (ad 0)), (1, .int (nI k)), (2, .int code)] := hl
  refine W.genH (fun H locs eH eL => ?_)
  have hS : va_S A s.heap H locs := by rw [eH, eL]; exact va_S.rf
  have hP : va_P D vwCl (wPl ad cI cd te ri pi pw K Dn mv) H := by rw [eH]; exact hP
  clear eH eL
  refine lv_aload_n hx hb dX1_giveCode_0 rfl (lv_at hl 0 rfl) ?_
  refine va_get (D := D) (ci := 1) (v := .ref (ad 1)) (C := RX1) (T := TX1) (N := 8) hx hb hts hinX1 hown hK.1 hP 0 rfl rfl 0 (by decide) hf11 (fun _ h9 => h9) rfl dX1_giveCode_1 ?_
  refine lv_iload_n hx hb dX1_giveCode_4 rfl (lv_at hl 1 rfl) ?_
  refine lv_iload_n hx hb dX1_giveCode_5 rfl (lv_at hl 2 rfl) ?_
  refine kc_ast (i := k) (n := 8) hx hb hK hP hD hS 1 0 rfl rfl (by omega) (by decide) dX1_giveCode_6 (fun H locs hP hD hS => ?_)
  have hP : va_P D vwCl (wPl ad cI (upd cd k code) te ri pi pw K Dn mv) H := hP
  have hD : va_D A (wPl ad cI (upd cd k code) te ri pi pw K Dn mv) := hD
  refine lv_aload_n hx hb dX1_giveCode_7 rfl (lv_at hl 0 rfl) ?_
  refine va_get (D := D) (ci := 1) (v := .ref (ad 2)) (C := RX1) (T := TX1) (N := 8) hx hb hts hinX1 hown hK.1 hP 0 rfl rfl 1 (by decide) hf15 (fun _ h9 => h9) rfl dX1_giveCode_8 ?_
  refine lv_iload_n hx hb dX1_giveCode_11 rfl (lv_at hl 1 rfl) ?_
  refine lv_iload_n hx hb dX1_giveCode_12 rfl (lv_at hl 2 rfl) ?_
  refine kc_rSi (As := [.int code]) (rest := [.int (nI k), .ref (ad 2)]) ⟨hx, hb, hml, hown, hts⟩ (c_X1_teeth l code ) (va_cwS 1 hts gX1_giveCode_X1_teeth rfl rfl rfl (by decide +kernel) ⟨Nat.le_of_ble_eq_true rfl, Nat.le_of_ble_eq_true rfl⟩) rfl hl.1 rfl (Nat.le_of_ble_eq_true rfl) dX1_giveCode_13 ⟨Nat.le_of_ble_eq_true rfl, Nat.le_of_ble_eq_true rfl⟩ ?_
  refine kc_ast (i := k) (n := 8) hx hb hK hP hD hS 2 0 rfl rfl (by omega) (by decide) dX1_giveCode_16 (fun H locs hP hD hS => ?_)
  have hP : va_P D vwCl (wPl ad cI (upd cd k code) (upd te k (jTeeth code 5)) ri pi pw K Dn mv) H := hP
  have hD : va_D A (wPl ad cI (upd cd k code) (upd te k (jTeeth code 5)) ri pi pw K Dn mv) := hD
  refine lv_iconst (v := 0) hx hb dX1_giveCode_17 (by decide) ?_
  refine lv_istore_n (lv' := [(3, .int 0), (0, .ref (ad 0)), (1, .int (nI k)), (2, .int code)]) hx hb dX1_giveCode_18 rfl hl (by decide) rfl (fun ls hl => ?_)
  refine kc_forHW (pc := 19) (N := Dn) (P := fun j H locs ls => va_P D vwCl (wPl ad cI (upd cd k code) (upd te k (jTeeth code 5)) ri (jRepin (upd te k (jTeeth code 5)) ri K pi j) pw K Dn (jRework (upd te k (jTeeth code 5)) ri K pi mv j)) H ∧ va_D A (wPl ad cI (upd cd k code) (upd te k (jTeeth code 5)) ri (jRepin (upd te k (jTeeth code 5)) ri K pi j) pw K Dn (jRework (upd te k (jTeeth code 5)) ri K pi mv j)) ∧ va_S A s.heap H locs ∧ lv_has ls 4 [(3, .int (nI j)), (0, .ref (ad 0)), (1, .int (nI k)), (2, .int code)]) (fun j H locs ls hj_19 hp ih_19 => ?_) H locs ls ?_
  · obtain ⟨hP, hD, hS, hl⟩ := hp
    refine lv_iload_n hx hb dX1_giveCode_19 rfl (lv_at hl 0 rfl) ?_
    refine lv_aload_n hx hb dX1_giveCode_20 rfl (lv_at hl 1 rfl) ?_
    refine va_get (D := D) (ci := 1) (v := .int (nI Dn)) (C := RX1) (T := TX1) (N := 8) hx hb hts hinX1 hown hK.1 hP 0 rfl rfl 6 (by decide) hf31 (fun _ h9 => h9) rfl dX1_giveCode_21 ?_
    refine kc_tst (j := j) (N := Dn) (tgt := 38) hx hb dX1_giveCode_24 (by decide) hj_19 (by omega) (fun hN => ?_) (fun hlt_19 => ?_)
    · subst hN
      exact W.vret hx hb hr (fun tZ htZ hWZ => ⟨⟨(), rfl, trivial, by rw [htZ]; exact hP, by rw [hAe]; exact hD⟩, hS.F htZ⟩) hS.2.2 dX1_giveCode_38
    · refine lv_aload_n hx hb dX1_giveCode_27 rfl (lv_at hl 1 rfl) ?_
      refine lv_iload_n hx hb dX1_giveCode_28 rfl (lv_at hl 0 rfl) ?_
      refine kc_wVv (w1 := wPl ad cI (upd cd k code) (upd te k (jTeeth code 5)) ri (upd (jRepin (upd te k (jTeeth code 5)) ri K pi j) j (jPinsFor (upd te k (jTeeth code 5)) (ri j) K)) pw K Dn ((jRework (upd te k (jTeeth code 5)) ri K pi mv j) + jPop ((jRepin (upd te k (jTeeth code 5)) ri K pi j) j ^^^ jPinsFor (upd te k (jTeeth code 5)) (ri j) K))) (wr := []) (ws1 := wPl ad cI (upd cd k code) (upd te k (jTeeth code 5)) ri (upd (jRepin (upd te k (jTeeth code 5)) ri K pi j) j (jPinsFor (upd te k (jTeeth code 5)) (ri j) K)) pw K Dn ((jRework (upd te k (jTeeth code 5)) ri K pi mv j) + jPop ((jRepin (upd te k (jTeeth code 5)) ri K pi j) j ^^^ jPinsFor (upd te k (jTeeth code 5)) (ri j) K))) (As := [.int (nI j)]) (rest := []) ⟨hx, hb, hml, hown, hts⟩ (c_X1_changePins l D ad cI (upd cd k code) (upd te k (jTeeth code 5)) ri (jRepin (upd te k (jTeeth code 5)) ri K pi j) pw K Dn (jRework (upd te k (jTeeth code 5)) ri K pi mv j) j H.size hK8 (by first | assumption | omega)) (cwV 1 hts gX1_giveCode_X1_changePins rfl rfl rfl (by decide +kernel) ⟨Nat.le_of_ble_eq_true rfl, Nat.le_of_ble_eq_true rfl⟩) hK hP hD hS hA [0, 1, 2, 3, 4, 5] [] [0, 1, 2, 3, 4, 5] [0] rfl rfl rfl rfl (by decide) rfl rfl rfl 0 rfl rfl rfl rfl hl.1 rfl (Nat.le_of_ble_eq_true rfl) dX1_giveCode_29 ⟨Nat.le_of_ble_eq_true rfl, Nat.le_of_ble_eq_true rfl⟩ (fun H locs hP hD hS => ?_)
      refine lv_iinc (v := nI (j + 1)) (lv' := [(3, .int (nI (j + 1))), (0, .ref (ad 0)), (1, .int (nI k)), (2, .int code)]) hx hb dX1_giveCode_32 hl (k := 0) rfl (kc_inc j) (by decide) rfl (fun ls hl => ?_)
      refine lv_goto (tgt := 19) hx hb dX1_giveCode_35 (by decide) ?_
      refine ih_19 _ _ _ hlt_19 ?_
      have eqw_pi : jRepin (upd te k (jTeeth code 5)) ri K pi (j + 1) = upd (jRepin (upd te k (jTeeth code 5)) ri K pi j) j (jPinsFor (upd te k (jTeeth code 5)) (ri j) K) := rfl
      have eqw_mv : jRework (upd te k (jTeeth code 5)) ri K pi mv (j + 1) = (jRework (upd te k (jTeeth code 5)) ri K pi mv j) + jPop ((jRepin (upd te k (jTeeth code 5)) ri K pi j) j ^^^ jPinsFor (upd te k (jTeeth code 5)) (ri j) K) := rfl
      show va_P D vwCl (wPl ad cI (upd cd k code) (upd te k (jTeeth code 5)) ri (jRepin (upd te k (jTeeth code 5)) ri K pi (j + 1)) pw K Dn (jRework (upd te k (jTeeth code 5)) ri K pi mv (j + 1))) _ ∧ va_D A (wPl ad cI (upd cd k code) (upd te k (jTeeth code 5)) ri (jRepin (upd te k (jTeeth code 5)) ri K pi (j + 1)) pw K Dn (jRework (upd te k (jTeeth code 5)) ri K pi mv (j + 1))) ∧ va_S A s.heap _ _ ∧ lv_has _ 4 [(3, .int (nI (j + 1))), (0, .ref (ad 0)), (1, .int (nI k)), (2, .int code)]
      rw [eqw_pi, eqw_mv]
      exact ⟨hP, hD, hS, lv_sub hl [0, 1, 2, 3] rfl⟩
  · exact ⟨hP, hD, hS, lv_sub hl [0, 1, 2, 3] rfl⟩
set_option maxHeartbeats 4000000 in
set_option maxRecDepth 100000 in
theorem c_X1_bestCodeFor (l : Launch) (D : va_G) (ad : Nat → Nat) (cI : ClassId) (cd : Nat → Int32) (te : Nat → Int32) (ri : Nat → Int32) (pi : Nat → Int32) (pw : Nat → Int32) (K : Nat) (Dn : Nat) (mv : Int32) (k : Nat) (sz : Nat) (hK8 : K ≤ 8) (hD8 : Dn ≤ 8) (hk : k < 8) : Met l yX1_bestCodeFor wsX1_bestCodeFor ({ frames := 2, cells := 0, slots := 0, locals := 52 } : Room) (wrP [.ref (ad 0), .int (nI k)] D sz (wPl ad cI cd te ri pi pw K Dn mv) [(cI, .int)]) (va_Qi (fun rZ (_ : Unit) => rZ = (jBest cd te ri pi (jWithout te ri K k pw Dn) K Dn k 1024).1) (wrB D sz (wPl ad cI cd te ri pi pw K Dn mv) (wPl ad cI cd te ri pi (jWithout te ri K k pw Dn) K Dn mv)) (va_A (wPl ad cI cd te ri pi pw K Dn mv) sz)) 0 0 (va_A (wPl ad cI cd te ri pi pw K Dn mv) sz) := by
  refine Met.ofW (cc := cX1_bestCodeFor) (maxL := 9) (ret := (some .int)) (by decide) rfl ?_
  intro p e s m args below meth c s₁ B hml hv
  obtain ⟨rfl, hsz, hP, hD0, hK⟩ := hv
  have hx := B.exec
  have hb := B.bytes
  have hr := B.returns
  have hts := atoms_spec (ws := wsX1_bestCodeFor) B.pre
  have hown : s.vm.findClass RX1 = some m.cls := findClass_of_methodNamed B.named
  have hlocks := B.notSynchronized
  subst hsz
  have hD := hD0.self (sz := s.heap.size)
  generalize hAe : va_A (wPl ad cI cd te ri pi pw K Dn mv) s.heap.size = A at hD ⊢
  have hA : ∀ q : Nat, s.heap.size ≤ q → A q := fun q h => by rw [← hAe]; exact Or.inr h
  have hinX1 : ∀ w ∈ u_ws RX1 TX1 8, w ∈ wsX1_bestCodeFor := by decide +kernel
  have hf31 := hts (.fieldLink RX1 31 "KeyCabinet$Plan" "doors" "I") (by decide +kernel)
  have hf24 := hts (.fieldLink RX1 24 "KeyCabinet$Plan" "pinsWithout" "[I") (by decide +kernel)
  have hf18 := hts (.fieldLink RX1 18 "KeyCabinet$Plan" "rightsOf" "[I") (by decide +kernel)
  have hl := lv_entry ([.ref (ad 0), .int (nI k)]) (n := 9) (Nat.le_of_ble_eq_true rfl)
  rw [lg_entry_eq]
  generalize (lg_sl ([.ref (ad 0), .int (nI k)]) ++ List.replicate (9 - (lg_sl ([.ref (ad 0), .int (nI k)])).length) Slot.unset).toArray = ls at hl ⊢
  have hl : lv_has ls 9 [(0, .ref (ad 0)), (1, .int (nI k))] := hl
  refine W.genH (fun H locs eH eL => ?_)
  have hS : va_S A s.heap H locs := by rw [eH, eL]; exact va_S.rf
  have hP : va_P D vwCl (wPl ad cI cd te ri pi pw K Dn mv) H := by rw [eH]; exact hP
  clear eH eL
  refine lv_iconst (v := 0) hx hb dX1_bestCodeFor_0 (by decide) ?_
  refine lv_istore_n (lv' := [(2, .int 0), (0, .ref (ad 0)), (1, .int (nI k))]) hx hb dX1_bestCodeFor_1 rfl hl (by decide) rfl (fun ls hl => ?_)
  refine kc_forHW (pc := 2) (N := Dn) (P := fun j H locs ls => va_P D vwCl (wPl ad cI cd te ri pi (jWithout te ri K k pw j) K Dn mv) H ∧ va_D A (wPl ad cI cd te ri pi (jWithout te ri K k pw j) K Dn mv) ∧ va_S A s.heap H locs ∧ lv_has ls 9 [(2, .int (nI j)), (0, .ref (ad 0)), (1, .int (nI k))]) (fun j H locs ls hj_2 hp ih_2 => ?_) H locs ls ?_
  · obtain ⟨hP, hD, hS, hl⟩ := hp
    refine lv_iload_n hx hb dX1_bestCodeFor_2 rfl (lv_at hl 0 rfl) ?_
    refine lv_aload_n hx hb dX1_bestCodeFor_3 rfl (lv_at hl 1 rfl) ?_
    refine va_get (D := D) (ci := 1) (v := .int (nI Dn)) (C := RX1) (T := TX1) (N := 8) hx hb hts hinX1 hown hK.1 hP 0 rfl rfl 6 (by decide) hf31 (fun _ h9 => h9) rfl dX1_bestCodeFor_4 ?_
    refine kc_tst (j := j) (N := Dn) (tgt := 38) hx hb dX1_bestCodeFor_7 (by decide) hj_2 (by omega) (fun hN => ?_) (fun hlt_2 => ?_)
    · subst hN
      refine lv_iconst (v := (-1)) hx hb dX1_bestCodeFor_38 (by decide) ?_
      refine lv_istore_n (lv' := [(2, .int (-1)), (0, .ref (ad 0)), (1, .int (nI k))]) hx hb dX1_bestCodeFor_39 rfl hl (by decide) rfl (fun ls hl => ?_)
      refine lv_bipush (v := 64) hx hb dX1_bestCodeFor_40 (by decide) ?_
      refine lv_istore_n (lv' := [(3, .int 64), (2, .int (-1)), (0, .ref (ad 0)), (1, .int (nI k))]) hx hb dX1_bestCodeFor_42 rfl hl (by decide) rfl (fun ls hl => ?_)
      refine lv_iconst (v := 0) hx hb dX1_bestCodeFor_43 (by decide) ?_
      refine lv_istore (lv' := [(4, .int 0), (3, .int 64), (2, .int (-1)), (0, .ref (ad 0)), (1, .int (nI k))]) hx hb dX1_bestCodeFor_44 hl (by decide) rfl (fun ls hl => ?_)
      refine lv_iconst (v := 0) hx hb dX1_bestCodeFor_46 (by decide) ?_
      refine lv_istore (lv' := [(5, .int 0), (4, .int 0), (3, .int 64), (2, .int (-1)), (0, .ref (ad 0)), (1, .int (nI k))]) hx hb dX1_bestCodeFor_47 hl (by decide) rfl (fun ls hl => ?_)
      refine kc_forW (pc := 49) (N := 1024) (P := fun j ls => lv_has ls 9 [(5, .int (nI j)), (4, .int ((jBest cd te ri pi (jWithout te ri K k pw Dn) K Dn k j).2.2)), (3, .int ((jBest cd te ri pi (jWithout te ri K k pw Dn) K Dn k j).2.1)), (2, .int ((jBest cd te ri pi (jWithout te ri K k pw Dn) K Dn k j).1)), (0, .ref (ad 0)), (1, .int (nI k))]) (fun j ls hj_49 hp ih_49 => ?_) ls ?_
      · have hl := hp
        refine lv_iload hx hb dX1_bestCodeFor_49 (lv_at hl 0 rfl) ?_
        refine lv_sipush (v := 1024) hx hb dX1_bestCodeFor_51 (by decide) ?_
        refine kc_tst (j := j) (N := 1024) (tgt := 148) hx hb dX1_bestCodeFor_54 (by decide) hj_49 (by omega) (fun hN => ?_) (fun hlt_49 => ?_)
        · subst hN
          refine lv_iload_n hx hb dX1_bestCodeFor_148 rfl (lv_at hl 3 rfl) ?_
          exact W.iret (v := (jBest cd te ri pi (jWithout te ri K k pw Dn) K Dn k 1024).1) hx hb hr (fun tZ htZ hWZ => ⟨⟨_, (), rfl, rfl, by rw [htZ]; exact hP, by rw [hAe]; exact hD⟩, hS.F htZ⟩) hS.2.2 dX1_bestCodeFor_149
        · refine lv_iload hx hb dX1_bestCodeFor_57 (lv_at hl 0 rfl) ?_
          refine kc_rSi (As := [.int (nI j)]) (rest := []) ⟨hx, hb, hml, hown, hts⟩ (c_X1_teeth l (nI j) ) (va_cwS 1 hts gX1_bestCodeFor_X1_teeth rfl rfl rfl (by decide +kernel) ⟨Nat.le_of_ble_eq_true rfl, Nat.le_of_ble_eq_true rfl⟩) rfl hl.1 rfl (Nat.le_of_ble_eq_true rfl) dX1_bestCodeFor_59 ⟨Nat.le_of_ble_eq_true rfl, Nat.le_of_ble_eq_true rfl⟩ ?_
          refine lv_istore (lv' := [(6, .int (jTeeth (nI j) 5)), (5, .int (nI j)), (4, .int ((jBest cd te ri pi (jWithout te ri K k pw Dn) K Dn k j).2.2)), (3, .int ((jBest cd te ri pi (jWithout te ri K k pw Dn) K Dn k j).2.1)), (2, .int ((jBest cd te ri pi (jWithout te ri K k pw Dn) K Dn k j).1)), (0, .ref (ad 0)), (1, .int (nI k))]) hx hb dX1_bestCodeFor_62 hl (by decide) rfl (fun ls hl => ?_)
          refine lv_aload_n hx hb dX1_bestCodeFor_64 rfl (lv_at hl 5 rfl) ?_
          refine lv_iload hx hb dX1_bestCodeFor_65 (lv_at hl 1 rfl) ?_
          refine kc_rVi (As := [.int (nI j)]) (rest := []) ⟨hx, hb, hml, hown, hts⟩ (c_X1_isTaken l D ad cI cd te ri pi (jWithout te ri K k pw Dn) K Dn mv (nI j) hK8) (cwV 1 hts gX1_bestCodeFor_X1_isTaken rfl rfl rfl (by decide +kernel) ⟨Nat.le_of_ble_eq_true rfl, Nat.le_of_ble_eq_true rfl⟩) hK hP [0, 1, 2, 3, 4, 5] [0] rfl rfl 0 rfl rfl rfl rfl hl.1 rfl (Nat.le_of_ble_eq_true rfl) dX1_bestCodeFor_67 ⟨Nat.le_of_ble_eq_true rfl, Nat.le_of_ble_eq_true rfl⟩ ?_
          refine kc_ifneB (tgt := 142) hx hb dX1_bestCodeFor_70 (by decide) (fun c_70 => ?_) (fun c_70 => ?_)
          · refine lv_iinc (v := nI (j + 1)) (lv' := [(5, .int (nI (j + 1))), (6, .int (jTeeth (nI j) 5)), (4, .int ((jBest cd te ri pi (jWithout te ri K k pw Dn) K Dn k j).2.2)), (3, .int ((jBest cd te ri pi (jWithout te ri K k pw Dn) K Dn k j).2.1)), (2, .int ((jBest cd te ri pi (jWithout te ri K k pw Dn) K Dn k j).1)), (0, .ref (ad 0)), (1, .int (nI k))]) hx hb dX1_bestCodeFor_142 hl (k := 1) rfl (kc_inc j) (by decide) rfl (fun ls hl => ?_)
            refine lv_goto (tgt := 49) hx hb dX1_bestCodeFor_145 (by decide) ?_
            refine ih_49 _ hlt_49 ?_
            have eq_4 : (jBest cd te ri pi (jWithout te ri K k pw Dn) K Dn k (j + 1)).2.2 = (jBest cd te ri pi (jWithout te ri K k pw Dn) K Dn k j).2.2 := by rw [jBest_s]; simp only [jBStep, if_pos c_70]
            have eq_3 : (jBest cd te ri pi (jWithout te ri K k pw Dn) K Dn k (j + 1)).2.1 = (jBest cd te ri pi (jWithout te ri K k pw Dn) K Dn k j).2.1 := by rw [jBest_s]; simp only [jBStep, if_pos c_70]
            have eq_2 : (jBest cd te ri pi (jWithout te ri K k pw Dn) K Dn k (j + 1)).1 = (jBest cd te ri pi (jWithout te ri K k pw Dn) K Dn k j).1 := by rw [jBest_s]; simp only [jBStep, if_pos c_70]
            show lv_has _ 9 [(5, .int (nI (j + 1))), (4, .int ((jBest cd te ri pi (jWithout te ri K k pw Dn) K Dn k (j + 1)).2.2)), (3, .int ((jBest cd te ri pi (jWithout te ri K k pw Dn) K Dn k (j + 1)).2.1)), (2, .int ((jBest cd te ri pi (jWithout te ri K k pw Dn) K Dn k (j + 1)).1)), (0, .ref (ad 0)), (1, .int (nI k))]
            rw [eq_4, eq_3, eq_2]
            exact lv_sub hl [0, 2, 3, 4, 5, 6] rfl
          · refine lv_aload_n hx hb dX1_bestCodeFor_73 rfl (lv_at hl 5 rfl) ?_
            refine lv_iload_n hx hb dX1_bestCodeFor_74 rfl (lv_at hl 6 rfl) ?_
            refine lv_iload hx hb dX1_bestCodeFor_75 (lv_at hl 0 rfl) ?_
            refine kc_rVi (As := [.int (nI k), .int (jTeeth (nI j) 5)]) (rest := []) ⟨hx, hb, hml, hown, hts⟩ (c_X1_oldCodeOpens l D ad cI cd te ri pi (jWithout te ri K k pw Dn) K Dn mv k (jTeeth (nI j) 5) hD8 hk) (cwV 2 hts gX1_bestCodeFor_X1_oldCodeOpens rfl rfl rfl (by decide +kernel) ⟨Nat.le_of_ble_eq_true rfl, Nat.le_of_ble_eq_true rfl⟩) hK hP [0, 1, 2, 3, 4, 5] [0] rfl rfl 0 rfl rfl rfl rfl hl.1 rfl (Nat.le_of_ble_eq_true rfl) dX1_bestCodeFor_77 ⟨Nat.le_of_ble_eq_true rfl, Nat.le_of_ble_eq_true rfl⟩ ?_
            refine kc_ifeqB (tgt := 86) hx hb dX1_bestCodeFor_80 (by decide) (fun c_80 => ?_) (fun c_80 => ?_)
            · refine lv_aload_n hx hb dX1_bestCodeFor_86 rfl (lv_at hl 5 rfl) ?_
              refine lv_iload_n hx hb dX1_bestCodeFor_87 rfl (lv_at hl 6 rfl) ?_
              refine lv_iload hx hb dX1_bestCodeFor_88 (lv_at hl 0 rfl) ?_
              refine lv_iload_n hx hb dX1_bestCodeFor_90 rfl (lv_at hl 3 rfl) ?_
              refine kc_rVi (As := [.int (nI k), .int (jTeeth (nI j) 5), .int ((jBest cd te ri pi (jWithout te ri K k pw Dn) K Dn k j).2.1)]) (rest := []) ⟨hx, hb, hml, hown, hts⟩ (c_X1_straysWith l D ad cI cd te ri pi (jWithout te ri K k pw Dn) K Dn mv k (jTeeth (nI j) 5) ((jBest cd te ri pi (jWithout te ri K k pw Dn) K Dn k j).2.1) hK8 hD8) (cwV 3 hts gX1_bestCodeFor_X1_straysWith rfl rfl rfl (by decide +kernel) ⟨Nat.le_of_ble_eq_true rfl, Nat.le_of_ble_eq_true rfl⟩) hK hP [0, 1, 2, 3, 4, 5] [0] rfl rfl 0 rfl rfl rfl rfl hl.1 rfl (Nat.le_of_ble_eq_true rfl) dX1_bestCodeFor_91 ⟨Nat.le_of_ble_eq_true rfl, Nat.le_of_ble_eq_true rfl⟩ ?_
              refine lv_istore (lv' := [(7, .int (jStraysWith ri (jWithout te ri K k pw Dn) te k (jTeeth (nI j) 5) ((jBest cd te ri pi (jWithout te ri K k pw Dn) K Dn k j).2.1) K Dn)), (6, .int (jTeeth (nI j) 5)), (5, .int (nI j)), (4, .int ((jBest cd te ri pi (jWithout te ri K k pw Dn) K Dn k j).2.2)), (3, .int ((jBest cd te ri pi (jWithout te ri K k pw Dn) K Dn k j).2.1)), (2, .int ((jBest cd te ri pi (jWithout te ri K k pw Dn) K Dn k j).1)), (0, .ref (ad 0)), (1, .int (nI k))]) hx hb dX1_bestCodeFor_94 hl (by decide) rfl (fun ls hl => ?_)
              refine lv_iload hx hb dX1_bestCodeFor_96 (lv_at hl 0 rfl) ?_
              refine lv_iload_n hx hb dX1_bestCodeFor_98 rfl (lv_at hl 4 rfl) ?_
              refine lv_icmp_le (tgt := 105) hx hb dX1_bestCodeFor_99 (by decide) (fun c_99 => ?_) (fun c_99 => ?_)
              · refine lv_aload_n hx hb dX1_bestCodeFor_105 rfl (lv_at hl 6 rfl) ?_
                refine lv_iload_n hx hb dX1_bestCodeFor_106 rfl (lv_at hl 7 rfl) ?_
                refine lv_iload hx hb dX1_bestCodeFor_107 (lv_at hl 1 rfl) ?_
                refine kc_rVi (As := [.int (nI k), .int (jTeeth (nI j) 5)]) (rest := []) ⟨hx, hb, hml, hown, hts⟩ (c_X1_workWith l D ad cI cd te ri pi (jWithout te ri K k pw Dn) K Dn mv k (jTeeth (nI j) 5) hD8) (cwV 2 hts gX1_bestCodeFor_X1_workWith rfl rfl rfl (by decide +kernel) ⟨Nat.le_of_ble_eq_true rfl, Nat.le_of_ble_eq_true rfl⟩) hK hP [0, 1, 2, 3, 4, 5] [0] rfl rfl 0 rfl rfl rfl rfl hl.1 rfl (Nat.le_of_ble_eq_true rfl) dX1_bestCodeFor_109 ⟨Nat.le_of_ble_eq_true rfl, Nat.le_of_ble_eq_true rfl⟩ ?_
                refine lv_istore (lv' := [(8, .int (jWorkWith ri pi (jWithout te ri K k pw Dn) k (jTeeth (nI j) 5) Dn)), (7, .int (jStraysWith ri (jWithout te ri K k pw Dn) te k (jTeeth (nI j) 5) ((jBest cd te ri pi (jWithout te ri K k pw Dn) K Dn k j).2.1) K Dn)), (6, .int (jTeeth (nI j) 5)), (5, .int (nI j)), (4, .int ((jBest cd te ri pi (jWithout te ri K k pw Dn) K Dn k j).2.2)), (3, .int ((jBest cd te ri pi (jWithout te ri K k pw Dn) K Dn k j).2.1)), (2, .int ((jBest cd te ri pi (jWithout te ri K k pw Dn) K Dn k j).1)), (0, .ref (ad 0)), (1, .int (nI k))]) hx hb dX1_bestCodeFor_112 hl (by decide) rfl (fun ls hl => ?_)
                refine lv_iload_n hx hb dX1_bestCodeFor_114 rfl (lv_at hl 6 rfl) ?_
                refine lv_iconst (v := (-1)) hx hb dX1_bestCodeFor_115 (by decide) ?_
                refine lv_icmp_eq (tgt := 132) hx hb dX1_bestCodeFor_116 (by decide) (fun c_116 => ?_) (fun c_116 => ?_)
                · refine lv_iload hx hb dX1_bestCodeFor_132 (lv_at hl 3 rfl) ?_
                  refine lv_istore_n (lv' := [(2, .int (nI j)), (8, .int (jWorkWith ri pi (jWithout te ri K k pw Dn) k (jTeeth (nI j) 5) Dn)), (7, .int (jStraysWith ri (jWithout te ri K k pw Dn) te k (jTeeth (nI j) 5) ((jBest cd te ri pi (jWithout te ri K k pw Dn) K Dn k j).2.1) K Dn)), (6, .int (jTeeth (nI j) 5)), (5, .int (nI j)), (4, .int ((jBest cd te ri pi (jWithout te ri K k pw Dn) K Dn k j).2.2)), (3, .int ((jBest cd te ri pi (jWithout te ri K k pw Dn) K Dn k j).2.1)), (0, .ref (ad 0)), (1, .int (nI k))]) hx hb dX1_bestCodeFor_134 rfl hl (by decide) rfl (fun ls hl => ?_)
                  refine lv_iload hx hb dX1_bestCodeFor_135 (lv_at hl 2 rfl) ?_
                  refine lv_istore_n (lv' := [(3, .int (jStraysWith ri (jWithout te ri K k pw Dn) te k (jTeeth (nI j) 5) ((jBest cd te ri pi (jWithout te ri K k pw Dn) K Dn k j).2.1) K Dn)), (2, .int (nI j)), (8, .int (jWorkWith ri pi (jWithout te ri K k pw Dn) k (jTeeth (nI j) 5) Dn)), (7, .int (jStraysWith ri (jWithout te ri K k pw Dn) te k (jTeeth (nI j) 5) ((jBest cd te ri pi (jWithout te ri K k pw Dn) K Dn k j).2.1) K Dn)), (6, .int (jTeeth (nI j) 5)), (5, .int (nI j)), (4, .int ((jBest cd te ri pi (jWithout te ri K k pw Dn) K Dn k j).2.2)), (0, .ref (ad 0)), (1, .int (nI k))]) hx hb dX1_bestCodeFor_137 rfl hl (by decide) rfl (fun ls hl => ?_)
                  refine lv_iload hx hb dX1_bestCodeFor_138 (lv_at hl 2 rfl) ?_
                  refine lv_istore (lv' := [(4, .int (jWorkWith ri pi (jWithout te ri K k pw Dn) k (jTeeth (nI j) 5) Dn)), (3, .int (jStraysWith ri (jWithout te ri K k pw Dn) te k (jTeeth (nI j) 5) ((jBest cd te ri pi (jWithout te ri K k pw Dn) K Dn k j).2.1) K Dn)), (2, .int (nI j)), (8, .int (jWorkWith ri pi (jWithout te ri K k pw Dn) k (jTeeth (nI j) 5) Dn)), (7, .int (jStraysWith ri (jWithout te ri K k pw Dn) te k (jTeeth (nI j) 5) ((jBest cd te ri pi (jWithout te ri K k pw Dn) K Dn k j).2.1) K Dn)), (6, .int (jTeeth (nI j) 5)), (5, .int (nI j)), (0, .ref (ad 0)), (1, .int (nI k))]) hx hb dX1_bestCodeFor_140 hl (by decide) rfl (fun ls hl => ?_)
                  refine lv_iinc (v := nI (j + 1)) (lv' := [(5, .int (nI (j + 1))), (4, .int (jWorkWith ri pi (jWithout te ri K k pw Dn) k (jTeeth (nI j) 5) Dn)), (3, .int (jStraysWith ri (jWithout te ri K k pw Dn) te k (jTeeth (nI j) 5) ((jBest cd te ri pi (jWithout te ri K k pw Dn) K Dn k j).2.1) K Dn)), (2, .int (nI j)), (8, .int (jWorkWith ri pi (jWithout te ri K k pw Dn) k (jTeeth (nI j) 5) Dn)), (7, .int (jStraysWith ri (jWithout te ri K k pw Dn) te k (jTeeth (nI j) 5) ((jBest cd te ri pi (jWithout te ri K k pw Dn) K Dn k j).2.1) K Dn)), (6, .int (jTeeth (nI j) 5)), (0, .ref (ad 0)), (1, .int (nI k))]) hx hb dX1_bestCodeFor_142 hl (k := 6) rfl (kc_inc j) (by decide) rfl (fun ls hl => ?_)
                  refine lv_goto (tgt := 49) hx hb dX1_bestCodeFor_145 (by decide) ?_
                  refine ih_49 _ hlt_49 ?_
                  have eq_4 : (jBest cd te ri pi (jWithout te ri K k pw Dn) K Dn k (j + 1)).2.2 = jWorkWith ri pi (jWithout te ri K k pw Dn) k (jTeeth (nI j) 5) Dn := by rw [jBest_s]; simp only [jBStep, if_neg c_70, if_neg c_80, if_pos c_99, if_pos c_116]
                  have eq_3 : (jBest cd te ri pi (jWithout te ri K k pw Dn) K Dn k (j + 1)).2.1 = jStraysWith ri (jWithout te ri K k pw Dn) te k (jTeeth (nI j) 5) ((jBest cd te ri pi (jWithout te ri K k pw Dn) K Dn k j).2.1) K Dn := by rw [jBest_s]; simp only [jBStep, if_neg c_70, if_neg c_80, if_pos c_99, if_pos c_116]
                  have eq_2 : (jBest cd te ri pi (jWithout te ri K k pw Dn) K Dn k (j + 1)).1 = nI j := by rw [jBest_s]; simp only [jBStep, if_neg c_70, if_neg c_80, if_pos c_99, if_pos c_116]
                  show lv_has _ 9 [(5, .int (nI (j + 1))), (4, .int ((jBest cd te ri pi (jWithout te ri K k pw Dn) K Dn k (j + 1)).2.2)), (3, .int ((jBest cd te ri pi (jWithout te ri K k pw Dn) K Dn k (j + 1)).2.1)), (2, .int ((jBest cd te ri pi (jWithout te ri K k pw Dn) K Dn k (j + 1)).1)), (0, .ref (ad 0)), (1, .int (nI k))]
                  rw [eq_4, eq_3, eq_2]
                  exact lv_sub hl [0, 1, 2, 3, 7, 8] rfl
                · refine lv_iload hx hb dX1_bestCodeFor_119 (lv_at hl 1 rfl) ?_
                  refine lv_iload_n hx hb dX1_bestCodeFor_121 rfl (lv_at hl 5 rfl) ?_
                  refine lv_icmp_lt (tgt := 132) hx hb dX1_bestCodeFor_122 (by decide) (fun c_122 => ?_) (fun c_122 => ?_)
                  · refine lv_iload hx hb dX1_bestCodeFor_132 (lv_at hl 3 rfl) ?_
                    refine lv_istore_n (lv' := [(2, .int (nI j)), (8, .int (jWorkWith ri pi (jWithout te ri K k pw Dn) k (jTeeth (nI j) 5) Dn)), (7, .int (jStraysWith ri (jWithout te ri K k pw Dn) te k (jTeeth (nI j) 5) ((jBest cd te ri pi (jWithout te ri K k pw Dn) K Dn k j).2.1) K Dn)), (6, .int (jTeeth (nI j) 5)), (5, .int (nI j)), (4, .int ((jBest cd te ri pi (jWithout te ri K k pw Dn) K Dn k j).2.2)), (3, .int ((jBest cd te ri pi (jWithout te ri K k pw Dn) K Dn k j).2.1)), (0, .ref (ad 0)), (1, .int (nI k))]) hx hb dX1_bestCodeFor_134 rfl hl (by decide) rfl (fun ls hl => ?_)
                    refine lv_iload hx hb dX1_bestCodeFor_135 (lv_at hl 2 rfl) ?_
                    refine lv_istore_n (lv' := [(3, .int (jStraysWith ri (jWithout te ri K k pw Dn) te k (jTeeth (nI j) 5) ((jBest cd te ri pi (jWithout te ri K k pw Dn) K Dn k j).2.1) K Dn)), (2, .int (nI j)), (8, .int (jWorkWith ri pi (jWithout te ri K k pw Dn) k (jTeeth (nI j) 5) Dn)), (7, .int (jStraysWith ri (jWithout te ri K k pw Dn) te k (jTeeth (nI j) 5) ((jBest cd te ri pi (jWithout te ri K k pw Dn) K Dn k j).2.1) K Dn)), (6, .int (jTeeth (nI j) 5)), (5, .int (nI j)), (4, .int ((jBest cd te ri pi (jWithout te ri K k pw Dn) K Dn k j).2.2)), (0, .ref (ad 0)), (1, .int (nI k))]) hx hb dX1_bestCodeFor_137 rfl hl (by decide) rfl (fun ls hl => ?_)
                    refine lv_iload hx hb dX1_bestCodeFor_138 (lv_at hl 2 rfl) ?_
                    refine lv_istore (lv' := [(4, .int (jWorkWith ri pi (jWithout te ri K k pw Dn) k (jTeeth (nI j) 5) Dn)), (3, .int (jStraysWith ri (jWithout te ri K k pw Dn) te k (jTeeth (nI j) 5) ((jBest cd te ri pi (jWithout te ri K k pw Dn) K Dn k j).2.1) K Dn)), (2, .int (nI j)), (8, .int (jWorkWith ri pi (jWithout te ri K k pw Dn) k (jTeeth (nI j) 5) Dn)), (7, .int (jStraysWith ri (jWithout te ri K k pw Dn) te k (jTeeth (nI j) 5) ((jBest cd te ri pi (jWithout te ri K k pw Dn) K Dn k j).2.1) K Dn)), (6, .int (jTeeth (nI j) 5)), (5, .int (nI j)), (0, .ref (ad 0)), (1, .int (nI k))]) hx hb dX1_bestCodeFor_140 hl (by decide) rfl (fun ls hl => ?_)
                    refine lv_iinc (v := nI (j + 1)) (lv' := [(5, .int (nI (j + 1))), (4, .int (jWorkWith ri pi (jWithout te ri K k pw Dn) k (jTeeth (nI j) 5) Dn)), (3, .int (jStraysWith ri (jWithout te ri K k pw Dn) te k (jTeeth (nI j) 5) ((jBest cd te ri pi (jWithout te ri K k pw Dn) K Dn k j).2.1) K Dn)), (2, .int (nI j)), (8, .int (jWorkWith ri pi (jWithout te ri K k pw Dn) k (jTeeth (nI j) 5) Dn)), (7, .int (jStraysWith ri (jWithout te ri K k pw Dn) te k (jTeeth (nI j) 5) ((jBest cd te ri pi (jWithout te ri K k pw Dn) K Dn k j).2.1) K Dn)), (6, .int (jTeeth (nI j) 5)), (0, .ref (ad 0)), (1, .int (nI k))]) hx hb dX1_bestCodeFor_142 hl (k := 6) rfl (kc_inc j) (by decide) rfl (fun ls hl => ?_)
                    refine lv_goto (tgt := 49) hx hb dX1_bestCodeFor_145 (by decide) ?_
                    refine ih_49 _ hlt_49 ?_
                    have eq_4 : (jBest cd te ri pi (jWithout te ri K k pw Dn) K Dn k (j + 1)).2.2 = jWorkWith ri pi (jWithout te ri K k pw Dn) k (jTeeth (nI j) 5) Dn := by rw [jBest_s]; simp only [jBStep, if_neg c_70, if_neg c_80, if_pos c_99, if_neg c_116, if_pos c_122]
                    have eq_3 : (jBest cd te ri pi (jWithout te ri K k pw Dn) K Dn k (j + 1)).2.1 = jStraysWith ri (jWithout te ri K k pw Dn) te k (jTeeth (nI j) 5) ((jBest cd te ri pi (jWithout te ri K k pw Dn) K Dn k j).2.1) K Dn := by rw [jBest_s]; simp only [jBStep, if_neg c_70, if_neg c_80, if_pos c_99, if_neg c_116, if_pos c_122]
                    have eq_2 : (jBest cd te ri pi (jWithout te ri K k pw Dn) K Dn k (j + 1)).1 = nI j := by rw [jBest_s]; simp only [jBStep, if_neg c_70, if_neg c_80, if_pos c_99, if_neg c_116, if_pos c_122]
                    show lv_has _ 9 [(5, .int (nI (j + 1))), (4, .int ((jBest cd te ri pi (jWithout te ri K k pw Dn) K Dn k (j + 1)).2.2)), (3, .int ((jBest cd te ri pi (jWithout te ri K k pw Dn) K Dn k (j + 1)).2.1)), (2, .int ((jBest cd te ri pi (jWithout te ri K k pw Dn) K Dn k (j + 1)).1)), (0, .ref (ad 0)), (1, .int (nI k))]
                    rw [eq_4, eq_3, eq_2]
                    exact lv_sub hl [0, 1, 2, 3, 7, 8] rfl
                  · refine lv_iload hx hb dX1_bestCodeFor_125 (lv_at hl 0 rfl) ?_
                    refine lv_iload hx hb dX1_bestCodeFor_127 (lv_at hl 4 rfl) ?_
                    refine lv_icmp_ge (tgt := 142) hx hb dX1_bestCodeFor_129 (by decide) (fun c_129 => ?_) (fun c_129 => ?_)
                    · refine lv_iinc (v := nI (j + 1)) (lv' := [(5, .int (nI (j + 1))), (8, .int (jWorkWith ri pi (jWithout te ri K k pw Dn) k (jTeeth (nI j) 5) Dn)), (7, .int (jStraysWith ri (jWithout te ri K k pw Dn) te k (jTeeth (nI j) 5) ((jBest cd te ri pi (jWithout te ri K k pw Dn) K Dn k j).2.1) K Dn)), (6, .int (jTeeth (nI j) 5)), (4, .int ((jBest cd te ri pi (jWithout te ri K k pw Dn) K Dn k j).2.2)), (3, .int ((jBest cd te ri pi (jWithout te ri K k pw Dn) K Dn k j).2.1)), (2, .int ((jBest cd te ri pi (jWithout te ri K k pw Dn) K Dn k j).1)), (0, .ref (ad 0)), (1, .int (nI k))]) hx hb dX1_bestCodeFor_142 hl (k := 3) rfl (kc_inc j) (by decide) rfl (fun ls hl => ?_)
                      refine lv_goto (tgt := 49) hx hb dX1_bestCodeFor_145 (by decide) ?_
                      refine ih_49 _ hlt_49 ?_
                      have eq_4 : (jBest cd te ri pi (jWithout te ri K k pw Dn) K Dn k (j + 1)).2.2 = (jBest cd te ri pi (jWithout te ri K k pw Dn) K Dn k j).2.2 := by rw [jBest_s]; simp only [jBStep, if_neg c_70, if_neg c_80, if_pos c_99, if_neg c_116, if_neg c_122, if_pos c_129]
                      have eq_3 : (jBest cd te ri pi (jWithout te ri K k pw Dn) K Dn k (j + 1)).2.1 = (jBest cd te ri pi (jWithout te ri K k pw Dn) K Dn k j).2.1 := by rw [jBest_s]; simp only [jBStep, if_neg c_70, if_neg c_80, if_pos c_99, if_neg c_116, if_neg c_122, if_pos c_129]
                      have eq_2 : (jBest cd te ri pi (jWithout te ri K k pw Dn) K Dn k (j + 1)).1 = (jBest cd te ri pi (jWithout te ri K k pw Dn) K Dn k j).1 := by rw [jBest_s]; simp only [jBStep, if_neg c_70, if_neg c_80, if_pos c_99, if_neg c_116, if_neg c_122, if_pos c_129]
                      show lv_has _ 9 [(5, .int (nI (j + 1))), (4, .int ((jBest cd te ri pi (jWithout te ri K k pw Dn) K Dn k (j + 1)).2.2)), (3, .int ((jBest cd te ri pi (jWithout te ri K k pw Dn) K Dn k (j + 1)).2.1)), (2, .int ((jBest cd te ri pi (jWithout te ri K k pw Dn) K Dn k (j + 1)).1)), (0, .ref (ad 0)), (1, .int (nI k))]
                      rw [eq_4, eq_3, eq_2]
                      exact lv_sub hl [0, 4, 5, 6, 7, 8] rfl
                    · refine lv_iload hx hb dX1_bestCodeFor_132 (lv_at hl 3 rfl) ?_
                      refine lv_istore_n (lv' := [(2, .int (nI j)), (8, .int (jWorkWith ri pi (jWithout te ri K k pw Dn) k (jTeeth (nI j) 5) Dn)), (7, .int (jStraysWith ri (jWithout te ri K k pw Dn) te k (jTeeth (nI j) 5) ((jBest cd te ri pi (jWithout te ri K k pw Dn) K Dn k j).2.1) K Dn)), (6, .int (jTeeth (nI j) 5)), (5, .int (nI j)), (4, .int ((jBest cd te ri pi (jWithout te ri K k pw Dn) K Dn k j).2.2)), (3, .int ((jBest cd te ri pi (jWithout te ri K k pw Dn) K Dn k j).2.1)), (0, .ref (ad 0)), (1, .int (nI k))]) hx hb dX1_bestCodeFor_134 rfl hl (by decide) rfl (fun ls hl => ?_)
                      refine lv_iload hx hb dX1_bestCodeFor_135 (lv_at hl 2 rfl) ?_
                      refine lv_istore_n (lv' := [(3, .int (jStraysWith ri (jWithout te ri K k pw Dn) te k (jTeeth (nI j) 5) ((jBest cd te ri pi (jWithout te ri K k pw Dn) K Dn k j).2.1) K Dn)), (2, .int (nI j)), (8, .int (jWorkWith ri pi (jWithout te ri K k pw Dn) k (jTeeth (nI j) 5) Dn)), (7, .int (jStraysWith ri (jWithout te ri K k pw Dn) te k (jTeeth (nI j) 5) ((jBest cd te ri pi (jWithout te ri K k pw Dn) K Dn k j).2.1) K Dn)), (6, .int (jTeeth (nI j) 5)), (5, .int (nI j)), (4, .int ((jBest cd te ri pi (jWithout te ri K k pw Dn) K Dn k j).2.2)), (0, .ref (ad 0)), (1, .int (nI k))]) hx hb dX1_bestCodeFor_137 rfl hl (by decide) rfl (fun ls hl => ?_)
                      refine lv_iload hx hb dX1_bestCodeFor_138 (lv_at hl 2 rfl) ?_
                      refine lv_istore (lv' := [(4, .int (jWorkWith ri pi (jWithout te ri K k pw Dn) k (jTeeth (nI j) 5) Dn)), (3, .int (jStraysWith ri (jWithout te ri K k pw Dn) te k (jTeeth (nI j) 5) ((jBest cd te ri pi (jWithout te ri K k pw Dn) K Dn k j).2.1) K Dn)), (2, .int (nI j)), (8, .int (jWorkWith ri pi (jWithout te ri K k pw Dn) k (jTeeth (nI j) 5) Dn)), (7, .int (jStraysWith ri (jWithout te ri K k pw Dn) te k (jTeeth (nI j) 5) ((jBest cd te ri pi (jWithout te ri K k pw Dn) K Dn k j).2.1) K Dn)), (6, .int (jTeeth (nI j) 5)), (5, .int (nI j)), (0, .ref (ad 0)), (1, .int (nI k))]) hx hb dX1_bestCodeFor_140 hl (by decide) rfl (fun ls hl => ?_)
                      refine lv_iinc (v := nI (j + 1)) (lv' := [(5, .int (nI (j + 1))), (4, .int (jWorkWith ri pi (jWithout te ri K k pw Dn) k (jTeeth (nI j) 5) Dn)), (3, .int (jStraysWith ri (jWithout te ri K k pw Dn) te k (jTeeth (nI j) 5) ((jBest cd te ri pi (jWithout te ri K k pw Dn) K Dn k j).2.1) K Dn)), (2, .int (nI j)), (8, .int (jWorkWith ri pi (jWithout te ri K k pw Dn) k (jTeeth (nI j) 5) Dn)), (7, .int (jStraysWith ri (jWithout te ri K k pw Dn) te k (jTeeth (nI j) 5) ((jBest cd te ri pi (jWithout te ri K k pw Dn) K Dn k j).2.1) K Dn)), (6, .int (jTeeth (nI j) 5)), (0, .ref (ad 0)), (1, .int (nI k))]) hx hb dX1_bestCodeFor_142 hl (k := 6) rfl (kc_inc j) (by decide) rfl (fun ls hl => ?_)
                      refine lv_goto (tgt := 49) hx hb dX1_bestCodeFor_145 (by decide) ?_
                      refine ih_49 _ hlt_49 ?_
                      have eq_4 : (jBest cd te ri pi (jWithout te ri K k pw Dn) K Dn k (j + 1)).2.2 = jWorkWith ri pi (jWithout te ri K k pw Dn) k (jTeeth (nI j) 5) Dn := by rw [jBest_s]; simp only [jBStep, if_neg c_70, if_neg c_80, if_pos c_99, if_neg c_116, if_neg c_122, if_neg c_129]
                      have eq_3 : (jBest cd te ri pi (jWithout te ri K k pw Dn) K Dn k (j + 1)).2.1 = jStraysWith ri (jWithout te ri K k pw Dn) te k (jTeeth (nI j) 5) ((jBest cd te ri pi (jWithout te ri K k pw Dn) K Dn k j).2.1) K Dn := by rw [jBest_s]; simp only [jBStep, if_neg c_70, if_neg c_80, if_pos c_99, if_neg c_116, if_neg c_122, if_neg c_129]
                      have eq_2 : (jBest cd te ri pi (jWithout te ri K k pw Dn) K Dn k (j + 1)).1 = nI j := by rw [jBest_s]; simp only [jBStep, if_neg c_70, if_neg c_80, if_pos c_99, if_neg c_116, if_neg c_122, if_neg c_129]
                      show lv_has _ 9 [(5, .int (nI (j + 1))), (4, .int ((jBest cd te ri pi (jWithout te ri K k pw Dn) K Dn k (j + 1)).2.2)), (3, .int ((jBest cd te ri pi (jWithout te ri K k pw Dn) K Dn k (j + 1)).2.1)), (2, .int ((jBest cd te ri pi (jWithout te ri K k pw Dn) K Dn k (j + 1)).1)), (0, .ref (ad 0)), (1, .int (nI k))]
                      rw [eq_4, eq_3, eq_2]
                      exact lv_sub hl [0, 1, 2, 3, 7, 8] rfl
              · refine lv_goto (tgt := 142) hx hb dX1_bestCodeFor_102 (by decide) ?_
                refine lv_iinc (v := nI (j + 1)) (lv' := [(5, .int (nI (j + 1))), (7, .int (jStraysWith ri (jWithout te ri K k pw Dn) te k (jTeeth (nI j) 5) ((jBest cd te ri pi (jWithout te ri K k pw Dn) K Dn k j).2.1) K Dn)), (6, .int (jTeeth (nI j) 5)), (4, .int ((jBest cd te ri pi (jWithout te ri K k pw Dn) K Dn k j).2.2)), (3, .int ((jBest cd te ri pi (jWithout te ri K k pw Dn) K Dn k j).2.1)), (2, .int ((jBest cd te ri pi (jWithout te ri K k pw Dn) K Dn k j).1)), (0, .ref (ad 0)), (1, .int (nI k))]) hx hb dX1_bestCodeFor_142 hl (k := 2) rfl (kc_inc j) (by decide) rfl (fun ls hl => ?_)
                refine lv_goto (tgt := 49) hx hb dX1_bestCodeFor_145 (by decide) ?_
                refine ih_49 _ hlt_49 ?_
                have eq_4 : (jBest cd te ri pi (jWithout te ri K k pw Dn) K Dn k (j + 1)).2.2 = (jBest cd te ri pi (jWithout te ri K k pw Dn) K Dn k j).2.2 := by rw [jBest_s]; simp only [jBStep, if_neg c_70, if_neg c_80, if_neg c_99]
                have eq_3 : (jBest cd te ri pi (jWithout te ri K k pw Dn) K Dn k (j + 1)).2.1 = (jBest cd te ri pi (jWithout te ri K k pw Dn) K Dn k j).2.1 := by rw [jBest_s]; simp only [jBStep, if_neg c_70, if_neg c_80, if_neg c_99]
                have eq_2 : (jBest cd te ri pi (jWithout te ri K k pw Dn) K Dn k (j + 1)).1 = (jBest cd te ri pi (jWithout te ri K k pw Dn) K Dn k j).1 := by rw [jBest_s]; simp only [jBStep, if_neg c_70, if_neg c_80, if_neg c_99]
                show lv_has _ 9 [(5, .int (nI (j + 1))), (4, .int ((jBest cd te ri pi (jWithout te ri K k pw Dn) K Dn k (j + 1)).2.2)), (3, .int ((jBest cd te ri pi (jWithout te ri K k pw Dn) K Dn k (j + 1)).2.1)), (2, .int ((jBest cd te ri pi (jWithout te ri K k pw Dn) K Dn k (j + 1)).1)), (0, .ref (ad 0)), (1, .int (nI k))]
                rw [eq_4, eq_3, eq_2]
                exact lv_sub hl [0, 3, 4, 5, 6, 7] rfl
            · refine lv_goto (tgt := 142) hx hb dX1_bestCodeFor_83 (by decide) ?_
              refine lv_iinc (v := nI (j + 1)) (lv' := [(5, .int (nI (j + 1))), (6, .int (jTeeth (nI j) 5)), (4, .int ((jBest cd te ri pi (jWithout te ri K k pw Dn) K Dn k j).2.2)), (3, .int ((jBest cd te ri pi (jWithout te ri K k pw Dn) K Dn k j).2.1)), (2, .int ((jBest cd te ri pi (jWithout te ri K k pw Dn) K Dn k j).1)), (0, .ref (ad 0)), (1, .int (nI k))]) hx hb dX1_bestCodeFor_142 hl (k := 1) rfl (kc_inc j) (by decide) rfl (fun ls hl => ?_)
              refine lv_goto (tgt := 49) hx hb dX1_bestCodeFor_145 (by decide) ?_
              refine ih_49 _ hlt_49 ?_
              have eq_4 : (jBest cd te ri pi (jWithout te ri K k pw Dn) K Dn k (j + 1)).2.2 = (jBest cd te ri pi (jWithout te ri K k pw Dn) K Dn k j).2.2 := by rw [jBest_s]; simp only [jBStep, if_neg c_70, if_pos c_80]
              have eq_3 : (jBest cd te ri pi (jWithout te ri K k pw Dn) K Dn k (j + 1)).2.1 = (jBest cd te ri pi (jWithout te ri K k pw Dn) K Dn k j).2.1 := by rw [jBest_s]; simp only [jBStep, if_neg c_70, if_pos c_80]
              have eq_2 : (jBest cd te ri pi (jWithout te ri K k pw Dn) K Dn k (j + 1)).1 = (jBest cd te ri pi (jWithout te ri K k pw Dn) K Dn k j).1 := by rw [jBest_s]; simp only [jBStep, if_neg c_70, if_pos c_80]
              show lv_has _ 9 [(5, .int (nI (j + 1))), (4, .int ((jBest cd te ri pi (jWithout te ri K k pw Dn) K Dn k (j + 1)).2.2)), (3, .int ((jBest cd te ri pi (jWithout te ri K k pw Dn) K Dn k (j + 1)).2.1)), (2, .int ((jBest cd te ri pi (jWithout te ri K k pw Dn) K Dn k (j + 1)).1)), (0, .ref (ad 0)), (1, .int (nI k))]
              rw [eq_4, eq_3, eq_2]
              exact lv_sub hl [0, 2, 3, 4, 5, 6] rfl
      · exact lv_sub hl [0, 1, 2, 3, 4, 5] rfl
    · refine lv_aload_n hx hb dX1_bestCodeFor_10 rfl (lv_at hl 1 rfl) ?_
      refine va_get (D := D) (ci := 1) (v := .ref (ad 5)) (C := RX1) (T := TX1) (N := 8) hx hb hts hinX1 hown hK.1 hP 0 rfl rfl 4 (by decide) hf24 (fun _ h9 => h9) rfl dX1_bestCodeFor_11 ?_
      refine lv_iload_n hx hb dX1_bestCodeFor_14 rfl (lv_at hl 0 rfl) ?_
      refine lv_aload_n hx hb dX1_bestCodeFor_15 rfl (lv_at hl 1 rfl) ?_
      refine lv_aload_n hx hb dX1_bestCodeFor_16 rfl (lv_at hl 1 rfl) ?_
      refine va_get (D := D) (ci := 1) (v := .ref (ad 3)) (C := RX1) (T := TX1) (N := 8) hx hb hts hinX1 hown hK.1 hP 0 rfl rfl 2 (by decide) hf18 (fun _ h9 => h9) rfl dX1_bestCodeFor_17 ?_
      refine lv_iload_n hx hb dX1_bestCodeFor_20 rfl (lv_at hl 0 rfl) ?_
      refine kc_ald (i := j) (n := 8) hx hb hK hP 3 0 rfl rfl (by omega) (by decide) dX1_bestCodeFor_21 ?_
      refine lv_iconst (v := 1) hx hb dX1_bestCodeFor_22 (by decide) ?_
      refine lv_iload_n hx hb dX1_bestCodeFor_23 rfl (lv_at hl 2 rfl) ?_
      refine lv_ishl hx hb dX1_bestCodeFor_24 ?_
      refine lv_iconst (v := (-1)) hx hb dX1_bestCodeFor_25 (by decide) ?_
      refine lv_ixor hx hb dX1_bestCodeFor_26 ?_
      refine lv_iand hx hb dX1_bestCodeFor_27 ?_
      refine kc_rVi (As := [.int ((ri j) &&& ((1 <<< ((nI k) &&& 31)) ^^^ (-1)))]) (rest := [.int (nI j), .ref (ad 5)]) ⟨hx, hb, hml, hown, hts⟩ (c_X1_pinsFor l D ad cI cd te ri pi (jWithout te ri K k pw j) K Dn mv ((ri j) &&& ((1 <<< ((nI k) &&& 31)) ^^^ (-1))) hK8) (cwV 1 hts gX1_bestCodeFor_X1_pinsFor rfl rfl rfl (by decide +kernel) ⟨Nat.le_of_ble_eq_true rfl, Nat.le_of_ble_eq_true rfl⟩) hK hP [0, 1, 2, 3, 4, 5] [0] rfl rfl 0 rfl rfl rfl rfl hl.1 rfl (Nat.le_of_ble_eq_true rfl) dX1_bestCodeFor_28 ⟨Nat.le_of_ble_eq_true rfl, Nat.le_of_ble_eq_true rfl⟩ ?_
      refine kc_ast (i := j) (n := 8) hx hb hK hP hD hS 5 0 rfl rfl (by omega) (by decide) dX1_bestCodeFor_31 (fun H locs hP hD hS => ?_)
      have hP : va_P D vwCl (wPl ad cI cd te ri pi (upd (jWithout te ri K k pw j) j (jPinsFor te ((ri j) &&& ((1 <<< ((nI k) &&& 31)) ^^^ (-1))) K)) K Dn mv) H := hP
      have hD : va_D A (wPl ad cI cd te ri pi (upd (jWithout te ri K k pw j) j (jPinsFor te ((ri j) &&& ((1 <<< ((nI k) &&& 31)) ^^^ (-1))) K)) K Dn mv) := hD
      refine lv_iinc (v := nI (j + 1)) (lv' := [(2, .int (nI (j + 1))), (0, .ref (ad 0)), (1, .int (nI k))]) hx hb dX1_bestCodeFor_32 hl (k := 0) rfl (kc_inc j) (by decide) rfl (fun ls hl => ?_)
      refine lv_goto (tgt := 2) hx hb dX1_bestCodeFor_35 (by decide) ?_
      refine ih_2 _ _ _ hlt_2 ?_
      have eqw_pw : jWithout te ri K k pw (j + 1) = upd (jWithout te ri K k pw j) j (jPinsFor te ((ri j) &&& ((1 <<< ((nI k) &&& 31)) ^^^ (-1))) K) := rfl
      show va_P D vwCl (wPl ad cI cd te ri pi (jWithout te ri K k pw (j + 1)) K Dn mv) _ ∧ va_D A (wPl ad cI cd te ri pi (jWithout te ri K k pw (j + 1)) K Dn mv) ∧ va_S A s.heap _ _ ∧ lv_has _ 9 [(2, .int (nI (j + 1))), (0, .ref (ad 0)), (1, .int (nI k))]
      rw [eqw_pw]
      exact ⟨hP, hD, hS, lv_sub hl [0, 1, 2] rfl⟩
  · exact ⟨hP, hD, hS, lv_sub hl [0, 1, 2] rfl⟩
abbrev wLe (ad : Nat → Nat) (cI : ClassId) (ko : Nat → Int32) (so : Nat → Int32) (tl : Nat → Int32) (lp : Nat → Int32) (lb : Nat → Int32) (ld : Nat → Int32) (le : Nat → Int32) (C : Nat) : va_W := [(ad 6, .inr (0, [.ref (ad 7), .ref (ad 8), .ref (ad 9), .ref (ad 10), .ref (ad 11), .ref (ad 12), .ref (ad 13), .int (nI C)])), (ad 7, .inl (cI, 24, .inl ko)), (ad 8, .inl (cI, 24, .inl so)), (ad 9, .inl (cI, 24, .inl tl)), (ad 10, .inl (cI, 216, .inl lp)), (ad 11, .inl (cI, 216, .inl lb)), (ad 12, .inl (cI, 216, .inl ld)), (ad 13, .inl (cI, 216, .inl le))]
set_option maxHeartbeats 4000000 in
set_option maxRecDepth 100000 in
theorem c_X0_lastLoan (l : Launch) (D : va_G) (ad : Nat → Nat) (cI : ClassId) (ko : Nat → Int32) (so : Nat → Int32) (tl : Nat → Int32) (lp : Nat → Int32) (lb : Nat → Int32) (ld : Nat → Int32) (le : Nat → Int32) (C : Nat) (cx : Nat) (hc : cx < 24) : Met l yX0_lastLoan wsX0_lastLoan ({ frames := 0, cells := 0, slots := 0, locals := 0 } : Room) (rdP [.ref (ad 6), .int (nI cx)] D (wLe ad cI ko so tl lp lb ld le C) [(cI, .int)]) (vp_Si (fun rZ => rZ = nI cx * 9 + tl cx - 1)) 0 0 (fun _ => False) := by
  refine Met.ofW (cc := cX0_lastLoan) (maxL := 2) (ret := (some .int)) (by decide) rfl ?_
  intro p e s m args below meth c s₁ B hml hv
  obtain ⟨rfl, hP, hK⟩ := hv
  have hx := B.exec
  have hb := B.bytes
  have hr := B.returns
  have hts := atoms_spec (ws := wsX0_lastLoan) B.pre
  have hown : s.vm.findClass RX0 = some m.cls := findClass_of_methodNamed B.named
  have hlocks := B.notSynchronized
  have hS : va_S (fun _ => False) s.heap s.heap [] := va_S.rf
  have hinX0 : ∀ w ∈ u_ws RX0 TX0 8, w ∈ wsX0_lastLoan := by decide +kernel
  have hf18 := hts (.fieldLink RX0 18 "KeyCabinet$Ledger" "timesLent" "[I") (by decide +kernel)
  have hl := lv_entry ([.ref (ad 6), .int (nI cx)]) (n := 2) (Nat.le_of_ble_eq_true rfl)
  rw [lg_entry_eq]
  generalize (lg_sl ([.ref (ad 6), .int (nI cx)]) ++ List.replicate (2 - (lg_sl ([.ref (ad 6), .int (nI cx)])).length) Slot.unset).toArray = ls at hl ⊢
  have hl : lv_has ls 2 [(0, .ref (ad 6)), (1, .int (nI cx))] := hl
  refine lv_iload_n hx hb dX0_lastLoan_0 rfl (lv_at hl 1 rfl) ?_
  refine lv_bipush (v := 9) hx hb dX0_lastLoan_1 (by decide) ?_
  refine lv_imul hx hb dX0_lastLoan_3 ?_
  refine lv_aload_n hx hb dX0_lastLoan_4 rfl (lv_at hl 0 rfl) ?_
  refine va_get (D := D) (ci := 0) (v := .ref (ad 9)) (C := RX0) (T := TX0) (N := 8) hx hb hts hinX0 hown hK.1 hP 0 rfl rfl 2 (by decide) hf18 (fun _ h9 => h9) rfl dX0_lastLoan_5 ?_
  refine lv_iload_n hx hb dX0_lastLoan_8 rfl (lv_at hl 1 rfl) ?_
  refine kc_ald (i := cx) (n := 24) hx hb hK hP 3 0 rfl rfl (by omega) (by decide) dX0_lastLoan_9 ?_
  refine lv_iadd hx hb dX0_lastLoan_10 ?_
  refine lv_iconst (v := 1) hx hb dX0_lastLoan_11 (by decide) ?_
  refine lv_isub hx hb dX0_lastLoan_12 ?_
  exact W.iret (v := (((nI cx) * 9) + (tl cx)) - 1) hx hb hr (fun tZ htZ hWZ => ⟨_, rfl, rfl, htZ⟩) hS.2.2 dX0_lastLoan_13
set_option maxHeartbeats 4000000 in
set_option maxRecDepth 100000 in
theorem c_X0_move (l : Launch) (D : va_G) (ad : Nat → Nat) (cI : ClassId) (ko : Nat → Int32) (so : Nat → Int32) (tl : Nat → Int32) (lp : Nat → Int32) (lb : Nat → Int32) (ld : Nat → Int32) (le : Nat → Int32) (C : Nat) (tn : Nat → Nat) (cx : Nat) (stt : Int32) (dy : Int32) (sz : Nat) (hc : cx < 24) (hok : okLe so tl tn) : Met l yX0_move wsX0_move ({ frames := 1, cells := 0, slots := 0, locals := 21 } : Room) (wrP [.ref (ad 6), .int (nI cx), .int stt, .int dy] D sz (wLe ad cI ko so tl lp lb ld le C) [(cI, .int)]) (va_Qv (fun (_ : Unit) => True) (wrB D sz (wLe ad cI ko so tl lp lb ld le C) (wLe ad cI ko (upd so cx stt) tl lp lb ld (jMoveEnd so le tn cx dy) C)) (va_A (wLe ad cI ko so tl lp lb ld le C) sz)) 0 0 (va_A (wLe ad cI ko so tl lp lb ld le C) sz) := by
  refine Met.ofW (cc := cX0_move) (maxL := 4) (ret := none) (by decide) rfl ?_
  intro p e s m args below meth c s₁ B hml hv
  obtain ⟨rfl, hsz, hP, hD0, hK⟩ := hv
  have hx := B.exec
  have hb := B.bytes
  have hr := B.returns
  have hts := atoms_spec (ws := wsX0_move) B.pre
  have hown : s.vm.findClass RX0 = some m.cls := findClass_of_methodNamed B.named
  have hlocks := B.notSynchronized
  subst hsz
  have hD := hD0.self (sz := s.heap.size)
  generalize hAe : va_A (wLe ad cI ko so tl lp lb ld le C) s.heap.size = A at hD ⊢
  have hA : ∀ q : Nat, s.heap.size ≤ q → A q := fun q h => by rw [← hAe]; exact Or.inr h
  have hinX0 : ∀ w ∈ u_ws RX0 TX0 8, w ∈ wsX0_move := by decide +kernel
  have hf15 := hts (.fieldLink RX0 15 "KeyCabinet$Ledger" "stateOf" "[I") (by decide +kernel)
  have hf30 := hts (.fieldLink RX0 30 "KeyCabinet$Ledger" "loanEnd" "[I") (by decide +kernel)
  have hokc := hok cx hc
  have hl := lv_entry ([.ref (ad 6), .int (nI cx), .int stt, .int dy]) (n := 4) (Nat.le_of_ble_eq_true rfl)
  rw [lg_entry_eq]
  generalize (lg_sl ([.ref (ad 6), .int (nI cx), .int stt, .int dy]) ++ List.replicate (4 - (lg_sl ([.ref (ad 6), .int (nI cx), .int stt, .int dy])).length) Slot.unset).toArray = ls at hl ⊢
  have hl : lv_has ls 4 [(0, .ref (ad 6)), (1, .int (nI cx)), (2, .int stt), (3, .int dy)] := hl
  refine W.genH (fun H locs eH eL => ?_)
  have hS : va_S A s.heap H locs := by rw [eH, eL]; exact va_S.rf
  have hP : va_P D vwCl (wLe ad cI ko so tl lp lb ld le C) H := by rw [eH]; exact hP
  clear eH eL
  refine lv_aload_n hx hb dX0_move_0 rfl (lv_at hl 0 rfl) ?_
  refine va_get (D := D) (ci := 0) (v := .ref (ad 8)) (C := RX0) (T := TX0) (N := 8) hx hb hts hinX0 hown hK.1 hP 0 rfl rfl 1 (by decide) hf15 (fun _ h9 => h9) rfl dX0_move_1 ?_
  refine lv_iload_n hx hb dX0_move_4 rfl (lv_at hl 1 rfl) ?_
  refine kc_ald (i := cx) (n := 24) hx hb hK hP 2 0 rfl rfl (by omega) (by decide) dX0_move_5 ?_
  refine lv_iconst (v := 1) hx hb dX0_move_6 (by decide) ?_
  refine lv_icmp_ne (tgt := 21) hx hb dX0_move_7 (by decide) (fun c_7 => ?_) (fun c_7 => ?_)
  · refine lv_aload_n hx hb dX0_move_21 rfl (lv_at hl 0 rfl) ?_
    refine va_get (D := D) (ci := 0) (v := .ref (ad 8)) (C := RX0) (T := TX0) (N := 8) hx hb hts hinX0 hown hK.1 hP 0 rfl rfl 1 (by decide) hf15 (fun _ h9 => h9) rfl dX0_move_22 ?_
    refine lv_iload_n hx hb dX0_move_25 rfl (lv_at hl 1 rfl) ?_
    refine lv_iload_n hx hb dX0_move_26 rfl (lv_at hl 2 rfl) ?_
    refine kc_ast (i := cx) (n := 24) hx hb hK hP hD hS 2 0 rfl rfl (by omega) (by decide) dX0_move_27 (fun H locs hP hD hS => ?_)
    have hP : va_P D vwCl (wLe ad cI ko (upd so cx stt) tl lp lb ld le C) H := hP
    have hD : va_D A (wLe ad cI ko (upd so cx stt) tl lp lb ld le C) := hD
    have eqw_le : jMoveEnd so le tn cx dy = le := by simp only [jMoveEnd, if_neg c_7]
    have hP : va_P D vwCl (wLe ad cI ko (upd so cx stt) tl lp lb ld (jMoveEnd so le tn cx dy) C) H := by rw [eqw_le]; exact hP
    have hD : va_D A (wLe ad cI ko (upd so cx stt) tl lp lb ld (jMoveEnd so le tn cx dy) C) := by rw [eqw_le]; exact hD
    exact W.vret hx hb hr (fun tZ htZ hWZ => ⟨⟨(), rfl, trivial, by rw [htZ]; exact hP, by rw [hAe]; exact hD⟩, hS.F htZ⟩) hS.2.2 dX0_move_28
  · refine lv_aload_n hx hb dX0_move_10 rfl (lv_at hl 0 rfl) ?_
    refine va_get (D := D) (ci := 0) (v := .ref (ad 13)) (C := RX0) (T := TX0) (N := 8) hx hb hts hinX0 hown hK.1 hP 0 rfl rfl 6 (by decide) hf30 (fun _ h9 => h9) rfl dX0_move_11 ?_
    refine lv_aload_n hx hb dX0_move_14 rfl (lv_at hl 0 rfl) ?_
    refine lv_iload_n hx hb dX0_move_15 rfl (lv_at hl 1 rfl) ?_
    refine kc_rVi (As := [.int (nI cx)]) (rest := [.ref (ad 13)]) ⟨hx, hb, hml, hown, hts⟩ (c_X0_lastLoan l D ad cI ko so tl lp lb ld le C cx hc) (cwV 1 hts gX0_move_X0_lastLoan rfl rfl rfl (by decide +kernel) ⟨Nat.le_of_ble_eq_true rfl, Nat.le_of_ble_eq_true rfl⟩) hK hP [0, 1, 2, 3, 4, 5, 6, 7] [0] rfl rfl 0 rfl rfl rfl rfl hl.1 rfl (Nat.le_of_ble_eq_true rfl) dX0_move_16 ⟨Nat.le_of_ble_eq_true rfl, Nat.le_of_ble_eq_true rfl⟩ ?_
    refine kc_top (show nI cx * 9 + tl cx - 1 = nI (cx * 9 + tn cx - 1) from kc_lastN hokc.1 (hokc.2.2 c_7)) ?_
    refine lv_iload_n hx hb dX0_move_19 rfl (lv_at hl 3 rfl) ?_
    refine kc_ast (i := (cx * 9 + tn cx - 1)) (n := 216) hx hb hK hP hD hS 7 0 rfl rfl (by omega) (by decide) dX0_move_20 (fun H locs hP hD hS => ?_)
    have hP : va_P D vwCl (wLe ad cI ko so tl lp lb ld (upd le (cx * 9 + tn cx - 1) dy) C) H := hP
    have hD : va_D A (wLe ad cI ko so tl lp lb ld (upd le (cx * 9 + tn cx - 1) dy) C) := hD
    refine lv_aload_n hx hb dX0_move_21 rfl (lv_at hl 0 rfl) ?_
    refine va_get (D := D) (ci := 0) (v := .ref (ad 8)) (C := RX0) (T := TX0) (N := 8) hx hb hts hinX0 hown hK.1 hP 0 rfl rfl 1 (by decide) hf15 (fun _ h9 => h9) rfl dX0_move_22 ?_
    refine lv_iload_n hx hb dX0_move_25 rfl (lv_at hl 1 rfl) ?_
    refine lv_iload_n hx hb dX0_move_26 rfl (lv_at hl 2 rfl) ?_
    refine kc_ast (i := cx) (n := 24) hx hb hK hP hD hS 2 0 rfl rfl (by omega) (by decide) dX0_move_27 (fun H locs hP hD hS => ?_)
    have hP : va_P D vwCl (wLe ad cI ko (upd so cx stt) tl lp lb ld (upd le (cx * 9 + tn cx - 1) dy) C) H := hP
    have hD : va_D A (wLe ad cI ko (upd so cx stt) tl lp lb ld (upd le (cx * 9 + tn cx - 1) dy) C) := hD
    have eqw_le : jMoveEnd so le tn cx dy = upd le (cx * 9 + tn cx - 1) dy := by simp only [jMoveEnd, if_pos c_7]
    have hP : va_P D vwCl (wLe ad cI ko (upd so cx stt) tl lp lb ld (jMoveEnd so le tn cx dy) C) H := by rw [eqw_le]; exact hP
    have hD : va_D A (wLe ad cI ko (upd so cx stt) tl lp lb ld (jMoveEnd so le tn cx dy) C) := by rw [eqw_le]; exact hD
    exact W.vret hx hb hr (fun tZ htZ hWZ => ⟨⟨(), rfl, trivial, by rw [htZ]; exact hP, by rw [hAe]; exact hD⟩, hS.F htZ⟩) hS.2.2 dX0_move_28
set_option maxHeartbeats 4000000 in
set_option maxRecDepth 100000 in
theorem c_X0_voidCopiesOf (l : Launch) (D : va_G) (ad : Nat → Nat) (cI : ClassId) (ko : Nat → Int32) (so : Nat → Int32) (tl : Nat → Int32) (lp : Nat → Int32) (lb : Nat → Int32) (ld : Nat → Int32) (le : Nat → Int32) (C : Nat) (tn : Nat → Nat) (key : Int32) (dy : Int32) (sz : Nat) (hC24 : C ≤ 24) (hok : okLe so tl tn) : Met l yX0_voidCopiesOf wsX0_voidCopiesOf ({ frames := 2, cells := 0, slots := 0, locals := 44 } : Room) (wrP [.ref (ad 6), .int key, .int dy] D sz (wLe ad cI ko so tl lp lb ld le C) [(cI, .int)]) (va_Qv (fun (_ : Unit) => True) (wrB D sz (wLe ad cI ko so tl lp lb ld le C) (wLe ad cI ko (jVoidSo ko key so C) tl lp lb ld (jVoidEnd ko key so le tn dy C) C)) (va_A (wLe ad cI ko so tl lp lb ld le C) sz)) 0 0 (va_A (wLe ad cI ko so tl lp lb ld le C) sz) := by
  refine Met.ofW (cc := cX0_voidCopiesOf) (maxL := 4) (ret := none) (by decide) rfl ?_
  intro p e s m args below meth c s₁ B hml hv
  obtain ⟨rfl, hsz, hP, hD0, hK⟩ := hv
  have hx := B.exec
  have hb := B.bytes
  have hr := B.returns
  have hts := atoms_spec (ws := wsX0_voidCopiesOf) B.pre
  have hown : s.vm.findClass RX0 = some m.cls := findClass_of_methodNamed B.named
  have hlocks := B.notSynchronized
  subst hsz
  have hD := hD0.self (sz := s.heap.size)
  generalize hAe : va_A (wLe ad cI ko so tl lp lb ld le C) s.heap.size = A at hD ⊢
  have hA : ∀ q : Nat, s.heap.size ≤ q → A q := fun q h => by rw [← hAe]; exact Or.inr h
  have hinX0 : ∀ w ∈ u_ws RX0 TX0 8, w ∈ wsX0_voidCopiesOf := by decide +kernel
  have hf33 := hts (.fieldLink RX0 33 "KeyCabinet$Ledger" "copies" "I") (by decide +kernel)
  have hf11 := hts (.fieldLink RX0 11 "KeyCabinet$Ledger" "keyOf" "[I") (by decide +kernel)
  have hl := lv_entry ([.ref (ad 6), .int key, .int dy]) (n := 4) (Nat.le_of_ble_eq_true rfl)
  rw [lg_entry_eq]
  generalize (lg_sl ([.ref (ad 6), .int key, .int dy]) ++ List.replicate (4 - (lg_sl ([.ref (ad 6), .int key, .int dy])).length) Slot.unset).toArray = ls at hl ⊢
  have hl : lv_has ls 4 [(0, .ref (ad 6)), (1, .int key), (2, .int dy)] := hl
  refine W.genH (fun H locs eH eL => ?_)
  have hS : va_S A s.heap H locs := by rw [eH, eL]; exact va_S.rf
  have hP : va_P D vwCl (wLe ad cI ko so tl lp lb ld le C) H := by rw [eH]; exact hP
  clear eH eL
  refine lv_iconst (v := 0) hx hb dX0_voidCopiesOf_0 (by decide) ?_
  refine lv_istore_n (lv' := [(3, .int 0), (0, .ref (ad 6)), (1, .int key), (2, .int dy)]) hx hb dX0_voidCopiesOf_1 rfl hl (by decide) rfl (fun ls hl => ?_)
  refine kc_forHW (pc := 2) (N := C) (P := fun j H locs ls => va_P D vwCl (wLe ad cI ko (jVoidSo ko key so j) tl lp lb ld (jVoidEnd ko key so le tn dy j) C) H ∧ va_D A (wLe ad cI ko (jVoidSo ko key so j) tl lp lb ld (jVoidEnd ko key so le tn dy j) C) ∧ va_S A s.heap H locs ∧ lv_has ls 4 [(3, .int (nI j)), (0, .ref (ad 6)), (1, .int key), (2, .int dy)]) (fun j H locs ls hj_2 hp ih_2 => ?_) H locs ls ?_
  · obtain ⟨hP, hD, hS, hl⟩ := hp
    refine lv_iload_n hx hb dX0_voidCopiesOf_2 rfl (lv_at hl 0 rfl) ?_
    refine lv_aload_n hx hb dX0_voidCopiesOf_3 rfl (lv_at hl 1 rfl) ?_
    refine va_get (D := D) (ci := 0) (v := .int (nI C)) (C := RX0) (T := TX0) (N := 8) hx hb hts hinX0 hown hK.1 hP 0 rfl rfl 7 (by decide) hf33 (fun _ h9 => h9) rfl dX0_voidCopiesOf_4 ?_
    refine kc_tst (j := j) (N := C) (tgt := 33) hx hb dX0_voidCopiesOf_7 (by decide) hj_2 (by omega) (fun hN => ?_) (fun hlt_2 => ?_)
    · subst hN
      exact W.vret hx hb hr (fun tZ htZ hWZ => ⟨⟨(), rfl, trivial, by rw [htZ]; exact hP, by rw [hAe]; exact hD⟩, hS.F htZ⟩) hS.2.2 dX0_voidCopiesOf_33
    · refine lv_aload_n hx hb dX0_voidCopiesOf_10 rfl (lv_at hl 1 rfl) ?_
      refine va_get (D := D) (ci := 0) (v := .ref (ad 7)) (C := RX0) (T := TX0) (N := 8) hx hb hts hinX0 hown hK.1 hP 0 rfl rfl 0 (by decide) hf11 (fun _ h9 => h9) rfl dX0_voidCopiesOf_11 ?_
      refine lv_iload_n hx hb dX0_voidCopiesOf_14 rfl (lv_at hl 0 rfl) ?_
      refine kc_ald (i := j) (n := 24) hx hb hK hP 1 0 rfl rfl (by omega) (by decide) dX0_voidCopiesOf_15 ?_
      refine lv_iload_n hx hb dX0_voidCopiesOf_16 rfl (lv_at hl 2 rfl) ?_
      refine lv_icmp_ne (tgt := 27) hx hb dX0_voidCopiesOf_17 (by decide) (fun c_17 => ?_) (fun c_17 => ?_)
      · refine lv_iinc (v := nI (j + 1)) (lv' := [(3, .int (nI (j + 1))), (0, .ref (ad 6)), (1, .int key), (2, .int dy)]) hx hb dX0_voidCopiesOf_27 hl (k := 0) rfl (kc_inc j) (by decide) rfl (fun ls hl => ?_)
        refine lv_goto (tgt := 2) hx hb dX0_voidCopiesOf_30 (by decide) ?_
        refine ih_2 _ _ _ hlt_2 ?_
        have eqw_so : jVoidSo ko key so (j + 1) = jVoidSo ko key so j := by simp only [jVoidSo, fo_s, if_neg c_17]
        have eqw_le : jVoidEnd ko key so le tn dy (j + 1) = jVoidEnd ko key so le tn dy j := by simp only [jVoidEnd, fo_s, if_neg c_17, jMoveEnd, jVoidSo_at (Nat.le_refl _)]
        show va_P D vwCl (wLe ad cI ko (jVoidSo ko key so (j + 1)) tl lp lb ld (jVoidEnd ko key so le tn dy (j + 1)) C) _ ∧ va_D A (wLe ad cI ko (jVoidSo ko key so (j + 1)) tl lp lb ld (jVoidEnd ko key so le tn dy (j + 1)) C) ∧ va_S A s.heap _ _ ∧ lv_has _ 4 [(3, .int (nI (j + 1))), (0, .ref (ad 6)), (1, .int key), (2, .int dy)]
        rw [eqw_so, eqw_le]
        exact ⟨hP, hD, hS, lv_sub hl [0, 1, 2, 3] rfl⟩
      · refine lv_aload_n hx hb dX0_voidCopiesOf_20 rfl (lv_at hl 1 rfl) ?_
        refine lv_iload_n hx hb dX0_voidCopiesOf_21 rfl (lv_at hl 0 rfl) ?_
        refine lv_iconst (v := 3) hx hb dX0_voidCopiesOf_22 (by decide) ?_
        refine lv_iload_n hx hb dX0_voidCopiesOf_23 rfl (lv_at hl 3 rfl) ?_
        refine kc_wVv (w1 := wLe ad cI ko (upd (jVoidSo ko key so j) j 3) tl lp lb ld (jMoveEnd (jVoidSo ko key so j) (jVoidEnd ko key so le tn dy j) tn j dy) C) (wr := []) (ws1 := wLe ad cI ko (upd (jVoidSo ko key so j) j 3) tl lp lb ld (jMoveEnd (jVoidSo ko key so j) (jVoidEnd ko key so le tn dy j) tn j dy) C) (As := [.int (nI j), .int 3, .int dy]) (rest := []) ⟨hx, hb, hml, hown, hts⟩ (c_X0_move l D ad cI ko (jVoidSo ko key so j) tl lp lb ld (jVoidEnd ko key so le tn dy j) C tn j 3 dy H.size (by first | assumption | omega) (okLe_void hok j)) (cwV 3 hts gX0_voidCopiesOf_X0_move rfl rfl rfl (by decide +kernel) ⟨Nat.le_of_ble_eq_true rfl, Nat.le_of_ble_eq_true rfl⟩) hK hP hD hS hA [0, 1, 2, 3, 4, 5, 6, 7] [] [0, 1, 2, 3, 4, 5, 6, 7] [0] rfl rfl rfl rfl (by decide) rfl rfl rfl 0 rfl rfl rfl rfl hl.1 rfl (Nat.le_of_ble_eq_true rfl) dX0_voidCopiesOf_24 ⟨Nat.le_of_ble_eq_true rfl, Nat.le_of_ble_eq_true rfl⟩ (fun H locs hP hD hS => ?_)
        refine lv_iinc (v := nI (j + 1)) (lv' := [(3, .int (nI (j + 1))), (0, .ref (ad 6)), (1, .int key), (2, .int dy)]) hx hb dX0_voidCopiesOf_27 hl (k := 0) rfl (kc_inc j) (by decide) rfl (fun ls hl => ?_)
        refine lv_goto (tgt := 2) hx hb dX0_voidCopiesOf_30 (by decide) ?_
        refine ih_2 _ _ _ hlt_2 ?_
        have eqw_so : jVoidSo ko key so (j + 1) = upd (jVoidSo ko key so j) j 3 := by simp only [jVoidSo, fo_s, if_pos c_17]
        have eqw_le : jVoidEnd ko key so le tn dy (j + 1) = jMoveEnd (jVoidSo ko key so j) (jVoidEnd ko key so le tn dy j) tn j dy := by simp only [jVoidEnd, fo_s, if_pos c_17, jMoveEnd, jVoidSo_at (Nat.le_refl _)]
        show va_P D vwCl (wLe ad cI ko (jVoidSo ko key so (j + 1)) tl lp lb ld (jVoidEnd ko key so le tn dy (j + 1)) C) _ ∧ va_D A (wLe ad cI ko (jVoidSo ko key so (j + 1)) tl lp lb ld (jVoidEnd ko key so le tn dy (j + 1)) C) ∧ va_S A s.heap _ _ ∧ lv_has _ 4 [(3, .int (nI (j + 1))), (0, .ref (ad 6)), (1, .int key), (2, .int dy)]
        rw [eqw_so, eqw_le]
        exact ⟨hP, hD, hS, lv_sub hl [0, 1, 2, 3] rfl⟩
  · exact ⟨hP, hD, hS, lv_sub hl [0, 1, 2, 3] rfl⟩
