abbrev kcN15 : Cond := .methodLinkNest RX2 15 yX1_init "KeyCabinet"
abbrev kcN22 : Cond := .methodLinkNest RX2 22 yX0_init "KeyCabinet"
abbrev nxP (av : List Value) (D : va_G) (sz : Nat) (wc : va_W) (tyc : List (ClassId × FieldType)) : Array Value → State → Prop := va_Pc av (fun U => U.heap.size = sz ∧ va_P D vwCl wc U.heap ∧ va_D (fun _ => True) wc ∧ kcK D tyc U ∧ va_Nw kcN15 U ∧ va_Nw kcN22 U)
theorem nxP_blind (av : List Value) (D : va_G) (sz : Nat) (wc : va_W) (tyc : List (ClassId × FieldType)) : FrameBlind (nxP av D sz wc tyc) := fun a U g mk q => ⟨q.1, q.2.1, q.2.2.1, q.2.2.2.1, q.2.2.2.2.1.call g mk a, va_Nw.same rfl (u := U) (U := U.calling g mk a) rfl q.2.2.2.2.2.1, va_Nw.same rfl (u := U) (U := U.calling g mk a) rfl q.2.2.2.2.2.2⟩
set_option maxHeartbeats 4000000 in
set_option maxRecDepth 100000 in
theorem c_X2_init (l : Launch) (D : va_G) (cI : ClassId) (h0 : Nat) (sz : Nat) : Met l yX2_init wsX2_init ({ frames := 2, cells := 16, slots := 1008, locals := 32 } : Room) (nxP [.ref h0] D sz ([(h0, .inr (2, [.null, .null, .null, .null, .int 0]))]) [(cI, .int)]) (va_Qv (fun u : Nat → Nat => u 14 = h0) (fun u => wrB D sz ([(h0, .inr (2, [.null, .null, .null, .null, .int 0]))]) (wKc u cI (fun _ => 0) (fun _ => 0) (fun _ => 0) (fun _ => 0) (fun _ => 0) 0 0 0 (fun _ => 0) (fun _ => 0) (fun _ => 0) (fun _ => 0) (fun _ => 0) (fun _ => 0) (fun _ => 0) 0 (fun _ => 0) (fun _ => 0) 0) ()) (va_A ([(h0, .inr (2, [.null, .null, .null, .null, .int 0]))]) sz)) 16 1008 (va_A ([(h0, .inr (2, [.null, .null, .null, .null, .int 0]))]) sz) := by
  refine Met.ofW (cc := cX2_init) (maxL := 1) (ret := none) (by decide) rfl ?_
  intro p e s m args below meth c s₁ B hml hv
  obtain ⟨rfl, hsz, hP, hD0, hK, hN1, hN2⟩ := hv
  have hx := B.exec
  have hb := B.bytes
  have hr := B.returns
  have hts := atoms_spec (ws := wsX2_init) B.pre
  have hown : s.vm.findClass RX2 = some m.cls := findClass_of_methodNamed B.named
  have hlocks := B.notSynchronized
  have hin : meth.name = "<init>" := (name_of_methodNamed B.named B.method).1
  subst hsz
  have hD := hD0.self (sz := s.heap.size)
  generalize hAe : va_A ([(h0, .inr (2, [.null, .null, .null, .null, .int 0]))]) s.heap.size = A at hD ⊢
  have hA : ∀ q : Nat, s.heap.size ≤ q → A q := fun q h => by rw [← hAe]; exact Or.inr h
  have hinX0 : ∀ w ∈ u_ws RX0 TX0 8, w ∈ wsX2_init := by decide +kernel
  have hinX1 : ∀ w ∈ u_ws RX1 TX1 8, w ∈ wsX2_init := by decide +kernel
  have hinX2 : ∀ w ∈ u_ws RX2 TX2 5, w ∈ wsX2_init := by decide +kernel
  have hl := lv_entry ([.ref h0]) (n := 1) (Nat.le_of_ble_eq_true rfl)
  rw [lg_entry_eq]
  generalize (lg_sl ([.ref h0]) ++ List.replicate (1 - (lg_sl ([.ref h0])).length) Slot.unset).toArray = ls at hl ⊢
  have hl : lv_has ls 1 [(0, .ref h0)] := hl
  refine W.genH (fun H locs eH eL => ?_)
  have hS : va_S A s.heap H locs := by rw [eH, eL]; exact va_S.rf
  have hP : va_P D vwCl ([(h0, .inr (2, [.null, .null, .null, .null, .int 0]))]) H := by rw [eH]; exact hP
  clear eH eL
  refine lv_aload_n hx hb dX2_init_0 rfl (lv_at hl 0 rfl) ?_
  refine W.objInit hx hb hown (hts (.methodLink RX2 1 objectInit) (by decide +kernel)) (hts (.instanceMethod objectInit) (by decide +kernel)) (hts (.code objectInit ⟨#[0xb1]⟩ 1 none) (by decide +kernel)) rfl (by rw [hml]; exact hl.1) rfl dX2_init_1 (Nat.le_of_ble_eq_true rfl) (Nat.le_of_ble_eq_true rfl) ?_
  refine W.eq (g2 := F0 m 4 ls []) rfl ?_
  refine lv_aload_n hx hb dX2_init_4 rfl (lv_at hl 0 rfl) ?_
  refine lv_iconst (v := 0) hx hb dX2_init_5 (by decide) ?_
  refine va_put (D := D) (ci := 2) (v := .int 0) (ty := .int) (C := RX2) (T := TX2) (N := 5) hx hb hts hinX2 tyX2 tyX2_ok nmX2 hown hK.1 hP hD hS 0 rfl rfl 4 (by decide) (hts (.fieldLink RX2 7 "KeyCabinet" "day" "I") (by decide +kernel)) (fun _ h9 => h9) rfl (by decide +kernel) rfl rfl (Nat.le_of_ble_eq_true rfl) dX2_init_6 (fun H locs hP hD hS => ?_)
  have hP : va_P D vwCl ((h0, .inr (2, [.null, .null, .null, .null, .int 0])) :: ([])) H := hP
  have hD : va_D A ((h0, .inr (2, [.null, .null, .null, .null, .int 0])) :: ([])) := hD
  refine lv_aload_n hx hb dX2_init_9 rfl (lv_at hl 0 rfl) ?_
  refine va_new (ci := 1) (fs := [.null, .null, .null, .null, .null, .int 0, .int 0, .int 0]) (C := RX1) (T := TX1) (N := 8) hx hb hts hinX1 tyX1 tyX1_ok hown (hts (.classLink RX2 13 RX1) (by decide +kernel)) (hts (.instantiable RX1 8) (by decide +kernel)) (hts (.initialized RX1) (by decide +kernel)) hK.1 hP hD hS hA rfl (fun j hj => by rcases (show j = 0 ∨ j = 1 ∨ j = 2 ∨ j = 3 ∨ j = 4 ∨ j = 5 ∨ j = 6 ∨ j = 7 by omega) with rfl | rfl | rfl | rfl | rfl | rfl | rfl | rfl <;> rfl) (Nat.le_of_ble_eq_true rfl) (Nat.le_of_ble_eq_true rfl) dX2_init_10 (fun qp H hP hD hS => ?_)
  have hP : va_P D vwCl ((h0, .inr (2, [.null, .null, .null, .null, .int 0])) :: ([] ++ [(qp, .inr (1, [.null, .null, .null, .null, .null, .int 0, .int 0, .int 0]))])) H := hP
  have hD : va_D A ((h0, .inr (2, [.null, .null, .null, .null, .int 0])) :: ([] ++ [(qp, .inr (1, [.null, .null, .null, .null, .null, .int 0, .int 0, .int 0]))])) := hD
  refine W.widen (k := 1) (n := 8) (by omega) (by omega) ?_
  refine lv_dup hx hb dX2_init_13 rfl ?_
  refine kc_iN (host := "KeyCabinet") (w1 := fun u => wPl u cI (fun _ => 0) (fun _ => 0) (fun _ => 0) (fun _ => 0) (fun _ => 0) 0 0 0) (wr := [(h0, .inr (2, [.null, .null, .null, .null, .int 0]))]) (rest := [.ref qp, .ref h0]) ⟨hx, hb, hml, hown, hts⟩ (c_X1_init l D cI qp H.size) (va_cnB 0 hts gX2_init_X1_init_n15 rfl rfl rfl hN1 (hts (.initialized RX1) (by decide +kernel)) (by decide +kernel) ⟨Nat.le_of_ble_eq_true rfl, Nat.le_of_ble_eq_true rfl⟩) ⟨rfl, hts (.instanceMethod yX1_init) (by decide +kernel)⟩ hK hP hD hS hA [1] [0] [0] rfl rfl rfl rfl (by decide) rfl hl.1 rfl (Nat.le_of_ble_eq_true rfl) dX2_init_14 ⟨Nat.le_of_ble_eq_true rfl, Nat.le_of_ble_eq_true rfl⟩ (fun u1 H locs hu hP2 hD2 hS2 => ?_)
  clear hP hD hS
  subst hu
  have hP := hP2
  have hD := hD2
  have hS := hS2
  have hP : va_P D vwCl ((h0, .inr (2, [.null, .null, .null, .null, .int 0])) :: (wPl u1 cI (fun _ => 0) (fun _ => 0) (fun _ => 0) (fun _ => 0) (fun _ => 0) 0 0 0)) H := hP
  have hD : va_D A ((h0, .inr (2, [.null, .null, .null, .null, .int 0])) :: (wPl u1 cI (fun _ => 0) (fun _ => 0) (fun _ => 0) (fun _ => 0) (fun _ => 0) 0 0 0)) := hD
  refine W.widen (k := 6) (n := 48) (by omega) (by omega) ?_
  refine va_putF (D := D) (ci := 2) (v := .ref (u1 0)) (ty := (.object "KeyCabinet$Plan")) (C := RX2) (T := TX2) (N := 5) hx hb hts hinX2 tyX2 tyX2_ok nmX2 hown hK.1 hP hD hS 0 rfl rfl 0 (by decide) (hts (.fieldLink RX2 16 "KeyCabinet" "plan" "LKeyCabinet$Plan;") (by decide +kernel)) (fun _ h9 => h9) rfl hin rfl (by decide +kernel) rfl rfl (Nat.le_of_ble_eq_true rfl) dX2_init_17 (fun H locs hP hD hS => ?_)
  have hP : va_P D vwCl ((h0, .inr (2, [.ref (u1 0), .null, .null, .null, .int 0])) :: (wPl u1 cI (fun _ => 0) (fun _ => 0) (fun _ => 0) (fun _ => 0) (fun _ => 0) 0 0 0)) H := hP
  have hD : va_D A ((h0, .inr (2, [.ref (u1 0), .null, .null, .null, .int 0])) :: (wPl u1 cI (fun _ => 0) (fun _ => 0) (fun _ => 0) (fun _ => 0) (fun _ => 0) 0 0 0)) := hD
  refine lv_aload_n hx hb dX2_init_20 rfl (lv_at hl 0 rfl) ?_
  refine va_new (ci := 0) (fs := [.null, .null, .null, .null, .null, .null, .null, .int 0]) (C := RX0) (T := TX0) (N := 8) hx hb hts hinX0 tyX0 tyX0_ok hown (hts (.classLink RX2 20 RX0) (by decide +kernel)) (hts (.instantiable RX0 8) (by decide +kernel)) (hts (.initialized RX0) (by decide +kernel)) hK.1 hP hD hS hA rfl (fun j hj => by rcases (show j = 0 ∨ j = 1 ∨ j = 2 ∨ j = 3 ∨ j = 4 ∨ j = 5 ∨ j = 6 ∨ j = 7 by omega) with rfl | rfl | rfl | rfl | rfl | rfl | rfl | rfl <;> rfl) (Nat.le_of_ble_eq_true rfl) (Nat.le_of_ble_eq_true rfl) dX2_init_21 (fun ql H hP hD hS => ?_)
  have hP : va_P D vwCl ((h0, .inr (2, [.ref (u1 0), .null, .null, .null, .int 0])) :: (wPl u1 cI (fun _ => 0) (fun _ => 0) (fun _ => 0) (fun _ => 0) (fun _ => 0) 0 0 0 ++ [(ql, .inr (0, [.null, .null, .null, .null, .null, .null, .null, .int 0]))])) H := hP
  have hD : va_D A ((h0, .inr (2, [.ref (u1 0), .null, .null, .null, .int 0])) :: (wPl u1 cI (fun _ => 0) (fun _ => 0) (fun _ => 0) (fun _ => 0) (fun _ => 0) 0 0 0 ++ [(ql, .inr (0, [.null, .null, .null, .null, .null, .null, .null, .int 0]))])) := hD
  refine W.widen (k := 7) (n := 56) (by omega) (by omega) ?_
  refine lv_dup hx hb dX2_init_24 rfl ?_
  refine kc_iN (host := "KeyCabinet") (w1 := fun u => wL0 u cI (fun _ => 0) (fun _ => 0) (fun _ => 0) (fun _ => 0) (fun _ => 0) (fun _ => 0) (fun _ => 0) 0) (wr := (h0, .inr (2, [.ref (u1 0), .null, .null, .null, .int 0])) :: (wPl u1 cI (fun _ => 0) (fun _ => 0) (fun _ => 0) (fun _ => 0) (fun _ => 0) 0 0 0)) (rest := [.ref ql, .ref h0]) ⟨hx, hb, hml, hown, hts⟩ (c_X0_init l D cI ql H.size) (va_cnB 0 hts gX2_init_X0_init_n22 rfl rfl rfl hN2 (hts (.initialized RX0) (by decide +kernel)) (by decide +kernel) ⟨Nat.le_of_ble_eq_true rfl, Nat.le_of_ble_eq_true rfl⟩) ⟨rfl, hts (.instanceMethod yX0_init) (by decide +kernel)⟩ hK hP hD hS hA [7] [0, 1, 2, 3, 4, 5, 6] [0] rfl rfl rfl rfl (by decide) rfl hl.1 rfl (Nat.le_of_ble_eq_true rfl) dX2_init_25 ⟨Nat.le_of_ble_eq_true rfl, Nat.le_of_ble_eq_true rfl⟩ (fun u2 H locs hu hP2 hD2 hS2 => ?_)
  clear hP hD hS
  subst hu
  have hP := hP2
  have hD := hD2
  have hS := hS2
  have hP : va_P D vwCl ((h0, .inr (2, [.ref (u1 0), .null, .null, .null, .int 0])) :: (wPl u1 cI (fun _ => 0) (fun _ => 0) (fun _ => 0) (fun _ => 0) (fun _ => 0) 0 0 0 ++ wL0 u2 cI (fun _ => 0) (fun _ => 0) (fun _ => 0) (fun _ => 0) (fun _ => 0) (fun _ => 0) (fun _ => 0) 0)) H := hP
  have hD : va_D A ((h0, .inr (2, [.ref (u1 0), .null, .null, .null, .int 0])) :: (wPl u1 cI (fun _ => 0) (fun _ => 0) (fun _ => 0) (fun _ => 0) (fun _ => 0) 0 0 0 ++ wL0 u2 cI (fun _ => 0) (fun _ => 0) (fun _ => 0) (fun _ => 0) (fun _ => 0) (fun _ => 0) (fun _ => 0) 0)) := hD
  refine W.widen (k := 14) (n := 992) (by omega) (by omega) ?_
  refine va_putF (D := D) (ci := 2) (v := .ref (u2 0)) (ty := (.object "KeyCabinet$Ledger")) (C := RX2) (T := TX2) (N := 5) hx hb hts hinX2 tyX2 tyX2_ok nmX2 hown hK.1 hP hD hS 0 rfl rfl 1 (by decide) (hts (.fieldLink RX2 23 "KeyCabinet" "ledger" "LKeyCabinet$Ledger;") (by decide +kernel)) (fun _ h9 => h9) rfl hin rfl (by decide +kernel) rfl rfl (Nat.le_of_ble_eq_true rfl) dX2_init_28 (fun H locs hP hD hS => ?_)
  have hP : va_P D vwCl ((h0, .inr (2, [.ref (u1 0), .ref (u2 0), .null, .null, .int 0])) :: (wPl u1 cI (fun _ => 0) (fun _ => 0) (fun _ => 0) (fun _ => 0) (fun _ => 0) 0 0 0 ++ wL0 u2 cI (fun _ => 0) (fun _ => 0) (fun _ => 0) (fun _ => 0) (fun _ => 0) (fun _ => 0) (fun _ => 0) 0)) H := hP
  have hD : va_D A ((h0, .inr (2, [.ref (u1 0), .ref (u2 0), .null, .null, .int 0])) :: (wPl u1 cI (fun _ => 0) (fun _ => 0) (fun _ => 0) (fun _ => 0) (fun _ => 0) 0 0 0 ++ wL0 u2 cI (fun _ => 0) (fun _ => 0) (fun _ => 0) (fun _ => 0) (fun _ => 0) (fun _ => 0) (fun _ => 0) 0)) := hD
  refine lv_aload_n hx hb dX2_init_31 rfl (lv_at hl 0 rfl) ?_
  refine lv_bipush (v := 8) hx hb dX2_init_32 (by decide) ?_
  refine kc_newI (N := 8) hx hb (hts (.arrayClass .int) (by decide +kernel)) hK 0 rfl hP hD hS hA (by decide) (Nat.le_of_ble_eq_true rfl) (Nat.le_of_ble_eq_true rfl) dX2_init_34 (fun q34 H hP hD hS => ?_)
  have hP : va_P D vwCl ((h0, .inr (2, [.ref (u1 0), .ref (u2 0), .null, .null, .int 0])) :: (wPl u1 cI (fun _ => 0) (fun _ => 0) (fun _ => 0) (fun _ => 0) (fun _ => 0) 0 0 0 ++ wL0 u2 cI (fun _ => 0) (fun _ => 0) (fun _ => 0) (fun _ => 0) (fun _ => 0) (fun _ => 0) (fun _ => 0) 0 ++ [(q34, .inl (cI, 8, .inl (fun _ => 0)))])) H := hP
  have hD : va_D A ((h0, .inr (2, [.ref (u1 0), .ref (u2 0), .null, .null, .int 0])) :: (wPl u1 cI (fun _ => 0) (fun _ => 0) (fun _ => 0) (fun _ => 0) (fun _ => 0) 0 0 0 ++ wL0 u2 cI (fun _ => 0) (fun _ => 0) (fun _ => 0) (fun _ => 0) (fun _ => 0) (fun _ => 0) (fun _ => 0) 0 ++ [(q34, .inl (cI, 8, .inl (fun _ => 0)))])) := hD
  refine W.widen (k := 15) (n := 1000) (by omega) (by omega) ?_
  refine va_putF (D := D) (ci := 2) (v := .ref q34) (ty := (.array .int)) (C := RX2) (T := TX2) (N := 5) hx hb hts hinX2 tyX2 tyX2_ok nmX2 hown hK.1 hP hD hS 0 rfl rfl 2 (by decide) (hts (.fieldLink RX2 27 "KeyCabinet" "copyToLend" "[I") (by decide +kernel)) (fun _ h9 => h9) rfl hin rfl (by decide +kernel) rfl rfl (Nat.le_of_ble_eq_true rfl) dX2_init_36 (fun H locs hP hD hS => ?_)
  have hP : va_P D vwCl ((h0, .inr (2, [.ref (u1 0), .ref (u2 0), .ref q34, .null, .int 0])) :: (wPl u1 cI (fun _ => 0) (fun _ => 0) (fun _ => 0) (fun _ => 0) (fun _ => 0) 0 0 0 ++ wL0 u2 cI (fun _ => 0) (fun _ => 0) (fun _ => 0) (fun _ => 0) (fun _ => 0) (fun _ => 0) (fun _ => 0) 0 ++ [(q34, .inl (cI, 8, .inl (fun _ => 0)))])) H := hP
  have hD : va_D A ((h0, .inr (2, [.ref (u1 0), .ref (u2 0), .ref q34, .null, .int 0])) :: (wPl u1 cI (fun _ => 0) (fun _ => 0) (fun _ => 0) (fun _ => 0) (fun _ => 0) 0 0 0 ++ wL0 u2 cI (fun _ => 0) (fun _ => 0) (fun _ => 0) (fun _ => 0) (fun _ => 0) (fun _ => 0) (fun _ => 0) 0 ++ [(q34, .inl (cI, 8, .inl (fun _ => 0)))])) := hD
  refine lv_aload_n hx hb dX2_init_39 rfl (lv_at hl 0 rfl) ?_
  refine lv_bipush (v := 8) hx hb dX2_init_40 (by decide) ?_
  refine kc_newI (N := 8) hx hb (hts (.arrayClass .int) (by decide +kernel)) hK 0 rfl hP hD hS hA (by decide) (Nat.le_of_ble_eq_true rfl) (Nat.le_of_ble_eq_true rfl) dX2_init_42 (fun q42 H hP hD hS => ?_)
  have hP : va_P D vwCl ((h0, .inr (2, [.ref (u1 0), .ref (u2 0), .ref q34, .null, .int 0])) :: (wPl u1 cI (fun _ => 0) (fun _ => 0) (fun _ => 0) (fun _ => 0) (fun _ => 0) 0 0 0 ++ wL0 u2 cI (fun _ => 0) (fun _ => 0) (fun _ => 0) (fun _ => 0) (fun _ => 0) (fun _ => 0) (fun _ => 0) 0 ++ [(q34, .inl (cI, 8, .inl (fun _ => 0)))] ++ [(q42, .inl (cI, 8, .inl (fun _ => 0)))])) H := hP
  have hD : va_D A ((h0, .inr (2, [.ref (u1 0), .ref (u2 0), .ref q34, .null, .int 0])) :: (wPl u1 cI (fun _ => 0) (fun _ => 0) (fun _ => 0) (fun _ => 0) (fun _ => 0) 0 0 0 ++ wL0 u2 cI (fun _ => 0) (fun _ => 0) (fun _ => 0) (fun _ => 0) (fun _ => 0) (fun _ => 0) (fun _ => 0) 0 ++ [(q34, .inl (cI, 8, .inl (fun _ => 0)))] ++ [(q42, .inl (cI, 8, .inl (fun _ => 0)))])) := hD
  refine W.widen (k := 16) (n := 1008) (by omega) (by omega) ?_
  refine va_putF (D := D) (ci := 2) (v := .ref q42) (ty := (.array .int)) (C := RX2) (T := TX2) (N := 5) hx hb hts hinX2 tyX2 tyX2_ok nmX2 hown hK.1 hP hD hS 0 rfl rfl 3 (by decide) (hts (.fieldLink RX2 31 "KeyCabinet" "doorsOpened" "[I") (by decide +kernel)) (fun _ h9 => h9) rfl hin rfl (by decide +kernel) rfl rfl (Nat.le_of_ble_eq_true rfl) dX2_init_44 (fun H locs hP hD hS => ?_)
  have hP : va_P D vwCl ((h0, .inr (2, [.ref (u1 0), .ref (u2 0), .ref q34, .ref q42, .int 0])) :: (wPl u1 cI (fun _ => 0) (fun _ => 0) (fun _ => 0) (fun _ => 0) (fun _ => 0) 0 0 0 ++ wL0 u2 cI (fun _ => 0) (fun _ => 0) (fun _ => 0) (fun _ => 0) (fun _ => 0) (fun _ => 0) (fun _ => 0) 0 ++ [(q34, .inl (cI, 8, .inl (fun _ => 0)))] ++ [(q42, .inl (cI, 8, .inl (fun _ => 0)))])) H := hP
  have hD : va_D A ((h0, .inr (2, [.ref (u1 0), .ref (u2 0), .ref q34, .ref q42, .int 0])) :: (wPl u1 cI (fun _ => 0) (fun _ => 0) (fun _ => 0) (fun _ => 0) (fun _ => 0) 0 0 0 ++ wL0 u2 cI (fun _ => 0) (fun _ => 0) (fun _ => 0) (fun _ => 0) (fun _ => 0) (fun _ => 0) (fun _ => 0) 0 ++ [(q34, .inl (cI, 8, .inl (fun _ => 0)))] ++ [(q42, .inl (cI, 8, .inl (fun _ => 0)))])) := hD
  have hP : va_P D vwCl (wKc (mkad [u1 0, u1 1, u1 2, u1 3, u1 4, u1 5, u2 0, u2 1, u2 2, u2 3, u2 4, u2 5, u2 6, u2 7, h0, q34, q42]) cI (fun _ => 0) (fun _ => 0) (fun _ => 0) (fun _ => 0) (fun _ => 0) 0 0 0 (fun _ => 0) (fun _ => 0) (fun _ => 0) (fun _ => 0) (fun _ => 0) (fun _ => 0) (fun _ => 0) 0 (fun _ => 0) (fun _ => 0) 0) H := hP.sub [1, 2, 3, 4, 5, 6, 7, 8, 9, 10, 11, 12, 13, 14, 0, 15, 16] rfl
  have hD : va_D A (wKc (mkad [u1 0, u1 1, u1 2, u1 3, u1 4, u1 5, u2 0, u2 1, u2 2, u2 3, u2 4, u2 5, u2 6, u2 7, h0, q34, q42]) cI (fun _ => 0) (fun _ => 0) (fun _ => 0) (fun _ => 0) (fun _ => 0) 0 0 0 (fun _ => 0) (fun _ => 0) (fun _ => 0) (fun _ => 0) (fun _ => 0) (fun _ => 0) (fun _ => 0) 0 (fun _ => 0) (fun _ => 0) 0) := hD.sub [1, 2, 3, 4, 5, 6, 7, 8, 9, 10, 11, 12, 13, 14, 0, 15, 16] rfl rfl
  exact W.vret hx hb hr (fun tZ htZ hWZ => ⟨⟨mkad [u1 0, u1 1, u1 2, u1 3, u1 4, u1 5, u2 0, u2 1, u2 2, u2 3, u2 4, u2 5, u2 6, u2 7, h0, q34, q42], rfl, rfl, by rw [htZ]; exact hP, by rw [hAe]; exact hD⟩, hS.F htZ⟩) hS.2.2 dX2_init_47
