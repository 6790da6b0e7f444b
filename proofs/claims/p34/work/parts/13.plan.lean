abbrev wPl (ad : Nat → Nat) (cI : ClassId) (cd : Nat → Int32) (te : Nat → Int32) (ri : Nat → Int32) (pi : Nat → Int32) (pw : Nat → Int32) (K : Nat) (Dn : Nat) (mv : Int32) : va_W := [(ad 0, .inr (1, [.ref (ad 1), .ref (ad 2), .ref (ad 3), .ref (ad 4), .ref (ad 5), .int (nI K), .int (nI Dn), .int mv])), (ad 1, .inl (cI, 8, .inl cd)), (ad 2, .inl (cI, 8, .inl te)), (ad 3, .inl (cI, 8, .inl ri)), (ad 4, .inl (cI, 8, .inl pi)), (ad 5, .inl (cI, 8, .inl pw))]
set_option maxHeartbeats 4000000 in
set_option maxRecDepth 100000 in
theorem c_X2_contains (l : Launch) (a : Int32) (b : Int32)  : Met l yX2_contains wsX2_contains ({ frames := 0, cells := 0, slots := 0, locals := 0 } : Room) (stP [.int a, .int b]) (vp_Si (fun rZ => rZ = bI (jContains a b))) 0 0 (fun _ => False) := by
  refine Met.ofW (cc := cX2_contains) (maxL := 2) (ret := (some .boolean)) (by decide) rfl ?_
  intro p e s m args below meth c s₁ B hml hv
  obtain ⟨rfl, -⟩ := hv
  have hx := B.exec
  have hb := B.bytes
  have hr := B.returns
  have hts := atoms_spec (ws := wsX2_contains) B.pre
  have hown : s.vm.findClass RX2 = some m.cls := findClass_of_methodNamed B.named
  have hlocks := B.notSynchronized
  have hS : va_S (fun _ => False) s.heap s.heap [] := va_S.rf
  have hl := lv_entry ([.int a, .int b]) (n := 2) (Nat.le_of_ble_eq_true rfl)
  rw [lg_entry_eq]
  generalize (lg_sl ([.int a, .int b]) ++ List.replicate (2 - (lg_sl ([.int a, .int b])).length) Slot.unset).toArray = ls at hl ⊢
  have hl : lv_has ls 2 [(0, .int a), (1, .int b)] := hl
  refine lv_iload_n hx hb dX2_contains_0 rfl (lv_at hl 1 rfl) ?_
  refine lv_iload_n hx hb dX2_contains_1 rfl (lv_at hl 0 rfl) ?_
  refine lv_iconst (v := (-1)) hx hb dX2_contains_2 (by decide) ?_
  refine lv_ixor hx hb dX2_contains_3 ?_
  refine lv_iand hx hb dX2_contains_4 ?_
  refine lv_if_ne (tgt := 12) hx hb dX2_contains_5 (by decide) (fun c_5 => ?_) (fun c_5 => ?_)
  · refine lv_iconst (v := 0) hx hb dX2_contains_12 (by decide) ?_
    exact W.zret (v := 0) hx hb hr rfl (fun tZ htZ hWZ => ⟨_, rfl, (bI_n c_5).symm, htZ⟩) hS.2.2 dX2_contains_13
  · refine lv_iconst (v := 1) hx hb dX2_contains_8 (by decide) ?_
    refine lv_goto (tgt := 13) hx hb dX2_contains_9 (by decide) ?_
    exact W.zret (v := 1) hx hb hr rfl (fun tZ htZ hWZ => ⟨_, rfl, (bI_d c_5).symm, htZ⟩) hS.2.2 dX2_contains_13
set_option maxHeartbeats 4000000 in
set_option maxRecDepth 100000 in
theorem c_J6_bitCount_0f7a4 (l : Launch) (x : Int32)  : Met l yJ6_bitCount_0f7a4 wsJ6_bitCount_0f7a4 ({ frames := 0, cells := 0, slots := 0, locals := 0 } : Room) (stP [.int x]) (vp_Si (fun rZ => rZ = jPop x)) 0 0 (fun _ => False) := by
  refine Met.ofW (cc := cJ6_bitCount_0f7a4) (maxL := 1) (ret := (some .int)) (by decide) rfl ?_
  intro p e s m args below meth c s₁ B hml hv
  obtain ⟨rfl, -⟩ := hv
  have hx := B.exec
  have hb := B.bytes
  have hr := B.returns
  have hts := atoms_spec (ws := wsJ6_bitCount_0f7a4) B.pre
  have hown : s.vm.findClass RJ6 = some m.cls := findClass_of_methodNamed B.named
  have hlocks := B.notSynchronized
  have hS : va_S (fun _ => False) s.heap s.heap [] := va_S.rf
  have hl := lv_entry ([.int x]) (n := 1) (Nat.le_of_ble_eq_true rfl)
  rw [lg_entry_eq]
  generalize (lg_sl ([.int x]) ++ List.replicate (1 - (lg_sl ([.int x])).length) Slot.unset).toArray = ls at hl ⊢
  have hl : lv_has ls 1 [(0, .int x)] := hl
  refine lv_iload_n hx hb dJ6_bitCount_0f7a4_0 rfl (lv_at hl 0 rfl) ?_
  refine lv_iload_n hx hb dJ6_bitCount_0f7a4_1 rfl (lv_at hl 0 rfl) ?_
  refine lv_iconst (v := 1) hx hb dJ6_bitCount_0f7a4_2 (by decide) ?_
  refine lv_iushr (v := (Int32.toUInt32 x >>> (Int32.toUInt32 1 &&& Int32.toUInt32 31)).toInt32) hx hb dJ6_bitCount_0f7a4_3 rfl ?_
  refine lv_ldcw (v := 1431655765) hx hb hown (hts (.constant RJ6 265 (1431655765)) (by decide +kernel)) dJ6_bitCount_0f7a4_4 ?_
  refine lv_iand hx hb dJ6_bitCount_0f7a4_7 ?_
  refine lv_isub hx hb dJ6_bitCount_0f7a4_8 ?_
  refine kc_top (show x - (((Int32.toUInt32 x >>> (Int32.toUInt32 1 &&& Int32.toUInt32 31)).toInt32) &&& 1431655765) = jPop1 x from rfl) ?_
  refine lv_istore_n (lv' := [(0, .int (jPop1 x))]) hx hb dJ6_bitCount_0f7a4_9 rfl hl (by decide) rfl (fun ls hl => ?_)
  refine lv_iload_n hx hb dJ6_bitCount_0f7a4_10 rfl (lv_at hl 0 rfl) ?_
  refine lv_ldcw (v := 858993459) hx hb hown (hts (.constant RJ6 266 (858993459)) (by decide +kernel)) dJ6_bitCount_0f7a4_11 ?_
  refine lv_iand hx hb dJ6_bitCount_0f7a4_14 ?_
  refine lv_iload_n hx hb dJ6_bitCount_0f7a4_15 rfl (lv_at hl 0 rfl) ?_
  refine lv_iconst (v := 2) hx hb dJ6_bitCount_0f7a4_16 (by decide) ?_
  refine lv_iushr (v := (Int32.toUInt32 (jPop1 x) >>> (Int32.toUInt32 2 &&& Int32.toUInt32 31)).toInt32) hx hb dJ6_bitCount_0f7a4_17 rfl ?_
  refine lv_ldcw (v := 858993459) hx hb hown (hts (.constant RJ6 266 (858993459)) (by decide +kernel)) dJ6_bitCount_0f7a4_18 ?_
  refine lv_iand hx hb dJ6_bitCount_0f7a4_21 ?_
  refine lv_iadd hx hb dJ6_bitCount_0f7a4_22 ?_
  refine kc_top (show ((jPop1 x) &&& 858993459) + (((Int32.toUInt32 (jPop1 x) >>> (Int32.toUInt32 2 &&& Int32.toUInt32 31)).toInt32) &&& 858993459) = jPop2 (jPop1 x) from rfl) ?_
  refine lv_istore_n (lv' := [(0, .int (jPop2 (jPop1 x)))]) hx hb dJ6_bitCount_0f7a4_23 rfl hl (by decide) rfl (fun ls hl => ?_)
  refine lv_iload_n hx hb dJ6_bitCount_0f7a4_24 rfl (lv_at hl 0 rfl) ?_
  refine lv_iload_n hx hb dJ6_bitCount_0f7a4_25 rfl (lv_at hl 0 rfl) ?_
  refine lv_iconst (v := 4) hx hb dJ6_bitCount_0f7a4_26 (by decide) ?_
  refine lv_iushr (v := (Int32.toUInt32 (jPop2 (jPop1 x)) >>> (Int32.toUInt32 4 &&& Int32.toUInt32 31)).toInt32) hx hb dJ6_bitCount_0f7a4_27 rfl ?_
  refine lv_iadd hx hb dJ6_bitCount_0f7a4_28 ?_
  refine lv_ldcw (v := 252645135) hx hb hown (hts (.constant RJ6 267 (252645135)) (by decide +kernel)) dJ6_bitCount_0f7a4_29 ?_
  refine lv_iand hx hb dJ6_bitCount_0f7a4_32 ?_
  refine kc_top (show ((jPop2 (jPop1 x)) + ((Int32.toUInt32 (jPop2 (jPop1 x)) >>> (Int32.toUInt32 4 &&& Int32.toUInt32 31)).toInt32)) &&& 252645135 = jPop3 (jPop2 (jPop1 x)) from rfl) ?_
  refine lv_istore_n (lv' := [(0, .int (jPop3 (jPop2 (jPop1 x))))]) hx hb dJ6_bitCount_0f7a4_33 rfl hl (by decide) rfl (fun ls hl => ?_)
  refine lv_iload_n hx hb dJ6_bitCount_0f7a4_34 rfl (lv_at hl 0 rfl) ?_
  refine lv_iload_n hx hb dJ6_bitCount_0f7a4_35 rfl (lv_at hl 0 rfl) ?_
  refine lv_bipush (v := 8) hx hb dJ6_bitCount_0f7a4_36 (by decide) ?_
  refine lv_iushr (v := (Int32.toUInt32 (jPop3 (jPop2 (jPop1 x))) >>> (Int32.toUInt32 8 &&& Int32.toUInt32 31)).toInt32) hx hb dJ6_bitCount_0f7a4_38 rfl ?_
  refine lv_iadd hx hb dJ6_bitCount_0f7a4_39 ?_
  refine kc_top (show (jPop3 (jPop2 (jPop1 x))) + ((Int32.toUInt32 (jPop3 (jPop2 (jPop1 x))) >>> (Int32.toUInt32 8 &&& Int32.toUInt32 31)).toInt32) = jPop4 (jPop3 (jPop2 (jPop1 x))) from rfl) ?_
  refine lv_istore_n (lv' := [(0, .int (jPop4 (jPop3 (jPop2 (jPop1 x)))))]) hx hb dJ6_bitCount_0f7a4_40 rfl hl (by decide) rfl (fun ls hl => ?_)
  refine lv_iload_n hx hb dJ6_bitCount_0f7a4_41 rfl (lv_at hl 0 rfl) ?_
  refine lv_iload_n hx hb dJ6_bitCount_0f7a4_42 rfl (lv_at hl 0 rfl) ?_
  refine lv_bipush (v := 16) hx hb dJ6_bitCount_0f7a4_43 (by decide) ?_
  refine lv_iushr (v := (Int32.toUInt32 (jPop4 (jPop3 (jPop2 (jPop1 x)))) >>> (Int32.toUInt32 16 &&& Int32.toUInt32 31)).toInt32) hx hb dJ6_bitCount_0f7a4_45 rfl ?_
  refine lv_iadd hx hb dJ6_bitCount_0f7a4_46 ?_
  refine kc_top (show (jPop4 (jPop3 (jPop2 (jPop1 x)))) + ((Int32.toUInt32 (jPop4 (jPop3 (jPop2 (jPop1 x)))) >>> (Int32.toUInt32 16 &&& Int32.toUInt32 31)).toInt32) = jPop5 (jPop4 (jPop3 (jPop2 (jPop1 x)))) from rfl) ?_
  refine lv_istore_n (lv' := [(0, .int (jPop5 (jPop4 (jPop3 (jPop2 (jPop1 x))))))]) hx hb dJ6_bitCount_0f7a4_47 rfl hl (by decide) rfl (fun ls hl => ?_)
  refine lv_iload_n hx hb dJ6_bitCount_0f7a4_48 rfl (lv_at hl 0 rfl) ?_
  refine lv_bipush (v := 63) hx hb dJ6_bitCount_0f7a4_49 (by decide) ?_
  refine lv_iand hx hb dJ6_bitCount_0f7a4_51 ?_
  exact W.iret (v := (jPop5 (jPop4 (jPop3 (jPop2 (jPop1 x))))) &&& 63) hx hb hr (fun tZ htZ hWZ => ⟨_, rfl, rfl, htZ⟩) hS.2.2 dJ6_bitCount_0f7a4_52
set_option maxHeartbeats 4000000 in
set_option maxRecDepth 100000 in
theorem c_X1_isTaken (l : Launch) (D : va_G) (ad : Nat → Nat) (cI : ClassId) (cd : Nat → Int32) (te : Nat → Int32) (ri : Nat → Int32) (pi : Nat → Int32) (pw : Nat → Int32) (K : Nat) (Dn : Nat) (mv : Int32) (code : Int32) (hK8 : K ≤ 8) : Met l yX1_isTaken wsX1_isTaken ({ frames := 0, cells := 0, slots := 0, locals := 0 } : Room) (rdP [.ref (ad 0), .int code] D (wPl ad cI cd te ri pi pw K Dn mv) [(cI, .int)]) (vp_Si (fun rZ => rZ = bI (jTaken cd K code))) 0 0 (fun _ => False) := by
  refine Met.ofW (cc := cX1_isTaken) (maxL := 3) (ret := (some .boolean)) (by decide) rfl ?_
  intro p e s m args below meth c s₁ B hml hv
  obtain ⟨rfl, hP, hK⟩ := hv
  have hx := B.exec
  have hb := B.bytes
  have hr := B.returns
  have hts := atoms_spec (ws := wsX1_isTaken) B.pre
  have hown : s.vm.findClass RX1 = some m.cls := findClass_of_methodNamed B.named
  have hlocks := B.notSynchronized
  have hS : va_S (fun _ => False) s.heap s.heap [] := va_S.rf
  have hinX1 : ∀ w ∈ u_ws RX1 TX1 8, w ∈ wsX1_isTaken := by decide +kernel
  have hf27 := hts (.fieldLink RX1 27 "KeyCabinet$Plan" "keys" "I") (by decide +kernel)
  have hf11 := hts (.fieldLink RX1 11 "KeyCabinet$Plan" "codeOf" "[I") (by decide +kernel)
  have hl := lv_entry ([.ref (ad 0), .int code]) (n := 3) (Nat.le_of_ble_eq_true rfl)
  rw [lg_entry_eq]
  generalize (lg_sl ([.ref (ad 0), .int code]) ++ List.replicate (3 - (lg_sl ([.ref (ad 0), .int code])).length) Slot.unset).toArray = ls at hl ⊢
  have hl : lv_has ls 3 [(0, .ref (ad 0)), (1, .int code)] := hl
  refine lv_iconst (v := 0) hx hb dX1_isTaken_0 (by decide) ?_
  refine lv_istore_n (lv' := [(2, .int 0), (0, .ref (ad 0)), (1, .int code)]) hx hb dX1_isTaken_1 rfl hl (by decide) rfl (fun ls hl => ?_)
  refine kc_forW (pc := 2) (N := K) (P := fun j ls => lv_has ls 3 [(2, .int (nI j)), (0, .ref (ad 0)), (1, .int code)] ∧ ∀ i, i < j → ¬ cd i = code) (fun j ls hj_2 hp ih_2 => ?_) ls ?_
  · obtain ⟨hl, he_2⟩ := hp
    refine lv_iload_n hx hb dX1_isTaken_2 rfl (lv_at hl 0 rfl) ?_
    refine lv_aload_n hx hb dX1_isTaken_3 rfl (lv_at hl 1 rfl) ?_
    refine va_get (D := D) (ci := 1) (v := .int (nI K)) (C := RX1) (T := TX1) (N := 8) hx hb hts hinX1 hown hK.1 hP 0 rfl rfl 5 (by decide) hf27 (fun _ h9 => h9) rfl dX1_isTaken_4 ?_
    refine kc_tst (j := j) (N := K) (tgt := 28) hx hb dX1_isTaken_7 (by decide) hj_2 (by omega) (fun hN => ?_) (fun hlt_2 => ?_)
    · subst hN
      refine lv_iconst (v := 0) hx hb dX1_isTaken_28 (by decide) ?_
      exact W.zret (v := 0) hx hb hr rfl (fun tZ htZ hWZ => ⟨_, rfl, (bI_f (jAny_f (fun i hi => by simpa using he_2 i hi))).symm, htZ⟩) hS.2.2 dX1_isTaken_29
    · refine lv_aload_n hx hb dX1_isTaken_10 rfl (lv_at hl 1 rfl) ?_
      refine va_get (D := D) (ci := 1) (v := .ref (ad 1)) (C := RX1) (T := TX1) (N := 8) hx hb hts hinX1 hown hK.1 hP 0 rfl rfl 0 (by decide) hf11 (fun _ h9 => h9) rfl dX1_isTaken_11 ?_
      refine lv_iload_n hx hb dX1_isTaken_14 rfl (lv_at hl 0 rfl) ?_
      refine kc_ald (i := j) (n := 8) hx hb hK hP 1 0 rfl rfl (by omega) (by decide) dX1_isTaken_15 ?_
      refine lv_iload_n hx hb dX1_isTaken_16 rfl (lv_at hl 2 rfl) ?_
      refine lv_icmp_ne (tgt := 22) hx hb dX1_isTaken_17 (by decide) (fun c_17 => ?_) (fun c_17 => ?_)
      · refine lv_iinc (v := nI (j + 1)) (lv' := [(2, .int (nI (j + 1))), (0, .ref (ad 0)), (1, .int code)]) hx hb dX1_isTaken_22 hl (k := 0) rfl (kc_inc j) (by decide) rfl (fun ls hl => ?_)
        refine lv_goto (tgt := 2) hx hb dX1_isTaken_25 (by decide) ?_
        refine ih_2 _ hlt_2 ?_
        show lv_has _ 3 [(2, .int (nI (j + 1))), (0, .ref (ad 0)), (1, .int code)] ∧ ∀ i, i < (j + 1) → ¬ cd i = code
        exact ⟨lv_sub hl [0, 1, 2] rfl, lt_s he_2 c_17⟩
      · refine lv_iconst (v := 1) hx hb dX1_isTaken_20 (by decide) ?_
        exact W.zret (v := 1) hx hb hr rfl (fun tZ htZ hWZ => ⟨_, rfl, (bI_t (jAny_t j hlt_2 (decide_eq_true c_17))).symm, htZ⟩) hS.2.2 dX1_isTaken_21
  · exact ⟨lv_sub hl [0, 1, 2] rfl, (fun _ h => absurd h (Nat.not_lt_zero _))⟩
set_option maxHeartbeats 4000000 in
set_option maxRecDepth 100000 in
theorem c_X1_teeth (l : Launch) (code : Int32)  : Met l yX1_teeth wsX1_teeth ({ frames := 0, cells := 0, slots := 0, locals := 0 } : Room) (stP [.int code]) (vp_Si (fun rZ => rZ = jTeeth code 5)) 0 0 (fun _ => False) := by
  refine Met.ofW (cc := cX1_teeth) (maxL := 4) (ret := (some .int)) (by decide) rfl ?_
  intro p e s m args below meth c s₁ B hml hv
  obtain ⟨rfl, -⟩ := hv
  have hx := B.exec
  have hb := B.bytes
  have hr := B.returns
  have hts := atoms_spec (ws := wsX1_teeth) B.pre
  have hown : s.vm.findClass RX1 = some m.cls := findClass_of_methodNamed B.named
  have hlocks := B.notSynchronized
  have hS : va_S (fun _ => False) s.heap s.heap [] := va_S.rf
  have hl := lv_entry ([.int code]) (n := 4) (Nat.le_of_ble_eq_true rfl)
  rw [lg_entry_eq]
  generalize (lg_sl ([.int code]) ++ List.replicate (4 - (lg_sl ([.int code])).length) Slot.unset).toArray = ls at hl ⊢
  have hl : lv_has ls 4 [(0, .int code)] := hl
  refine lv_iconst (v := 0) hx hb dX1_teeth_0 (by decide) ?_
  refine lv_istore_n (lv' := [(1, .int 0), (0, .int code)]) hx hb dX1_teeth_1 rfl hl (by decide) rfl (fun ls hl => ?_)
  refine lv_iconst (v := 0) hx hb dX1_teeth_2 (by decide) ?_
  refine lv_istore_n (lv' := [(2, .int 0), (1, .int 0), (0, .int code)]) hx hb dX1_teeth_3 rfl hl (by decide) rfl (fun ls hl => ?_)
  refine kc_forW (pc := 4) (N := 5) (P := fun j ls => lv_has ls 4 [(2, .int (nI j)), (1, .int (jTeeth code j)), (0, .int code)]) (fun j ls hj_4 hp ih_4 => ?_) ls ?_
  · have hl := hp
    refine lv_iload_n hx hb dX1_teeth_4 rfl (lv_at hl 0 rfl) ?_
    refine lv_iconst (v := 5) hx hb dX1_teeth_5 (by decide) ?_
    refine kc_tst (j := j) (N := 5) (tgt := 35) hx hb dX1_teeth_6 (by decide) hj_4 (by omega) (fun hN => ?_) (fun hlt_4 => ?_)
    · subst hN
      refine lv_iload_n hx hb dX1_teeth_35 rfl (lv_at hl 1 rfl) ?_
      exact W.iret (v := jTeeth code 5) hx hb hr (fun tZ htZ hWZ => ⟨_, rfl, rfl, htZ⟩) hS.2.2 dX1_teeth_36
    · refine lv_iload_n hx hb dX1_teeth_9 rfl (lv_at hl 2 rfl) ?_
      refine lv_iconst (v := 4) hx hb dX1_teeth_10 (by decide) ?_
      refine lv_iload_n hx hb dX1_teeth_11 rfl (lv_at hl 0 rfl) ?_
      refine lv_isub hx hb dX1_teeth_12 ?_
      refine lv_iconst (v := 2) hx hb dX1_teeth_13 (by decide) ?_
      refine lv_imul hx hb dX1_teeth_14 ?_
      refine lv_ishr hx hb dX1_teeth_15 ?_
      refine lv_iconst (v := 3) hx hb dX1_teeth_16 (by decide) ?_
      refine lv_iand hx hb dX1_teeth_17 ?_
      refine lv_istore_n (lv' := [(3, .int ((code >>> (((4 - (nI j)) * 2) &&& 31)) &&& 3)), (2, .int (nI j)), (1, .int (jTeeth code j)), (0, .int code)]) hx hb dX1_teeth_18 rfl hl (by decide) rfl (fun ls hl => ?_)
      refine lv_iload_n hx hb dX1_teeth_19 rfl (lv_at hl 2 rfl) ?_
      refine lv_iconst (v := 1) hx hb dX1_teeth_20 (by decide) ?_
      refine lv_iload_n hx hb dX1_teeth_21 rfl (lv_at hl 1 rfl) ?_
      refine lv_iconst (v := 4) hx hb dX1_teeth_22 (by decide) ?_
      refine lv_imul hx hb dX1_teeth_23 ?_
      refine lv_iload_n hx hb dX1_teeth_24 rfl (lv_at hl 0 rfl) ?_
      refine lv_iadd hx hb dX1_teeth_25 ?_
      refine lv_ishl hx hb dX1_teeth_26 ?_
      refine lv_ior hx hb dX1_teeth_27 ?_
      refine lv_istore_n (lv' := [(1, .int ((jTeeth code j) ||| (1 <<< ((((nI j) * 4) + ((code >>> (((4 - (nI j)) * 2) &&& 31)) &&& 3)) &&& 31)))), (3, .int ((code >>> (((4 - (nI j)) * 2) &&& 31)) &&& 3)), (2, .int (nI j)), (0, .int code)]) hx hb dX1_teeth_28 rfl hl (by decide) rfl (fun ls hl => ?_)
      refine lv_iinc (v := nI (j + 1)) (lv' := [(2, .int (nI (j + 1))), (1, .int ((jTeeth code j) ||| (1 <<< ((((nI j) * 4) + ((code >>> (((4 - (nI j)) * 2) &&& 31)) &&& 3)) &&& 31)))), (3, .int ((code >>> (((4 - (nI j)) * 2) &&& 31)) &&& 3)), (0, .int code)]) hx hb dX1_teeth_29 hl (k := 2) rfl (kc_inc j) (by decide) rfl (fun ls hl => ?_)
      refine lv_goto (tgt := 4) hx hb dX1_teeth_32 (by decide) ?_
      refine ih_4 _ hlt_4 ?_
      have eq_1 : jTeeth code (j + 1) = (jTeeth code j) ||| (1 <<< ((((nI j) * 4) + ((code >>> (((4 - (nI j)) * 2) &&& 31)) &&& 3)) &&& 31)) := rfl
      show lv_has _ 4 [(2, .int (nI (j + 1))), (1, .int (jTeeth code (j + 1))), (0, .int code)]
      rw [eq_1]
      exact lv_sub hl [0, 1, 3] rfl
  · exact lv_sub hl [0, 1, 2] rfl
set_option maxHeartbeats 4000000 in
set_option maxRecDepth 100000 in
theorem c_X1_pinsFor (l : Launch) (D : va_G) (ad : Nat → Nat) (cI : ClassId) (cd : Nat → Int32) (te : Nat → Int32) (ri : Nat → Int32) (pi : Nat → Int32) (pw : Nat → Int32) (K : Nat) (Dn : Nat) (mv : Int32) (r : Int32) (hK8 : K ≤ 8) : Met l yX1_pinsFor wsX1_pinsFor ({ frames := 0, cells := 0, slots := 0, locals := 0 } : Room) (rdP [.ref (ad 0), .int r] D (wPl ad cI cd te ri pi pw K Dn mv) [(cI, .int)]) (vp_Si (fun rZ => rZ = jPinsFor te r K)) 0 0 (fun _ => False) := by
  refine Met.ofW (cc := cX1_pinsFor) (maxL := 4) (ret := (some .int)) (by decide) rfl ?_
  intro p e s m args below meth c s₁ B hml hv
  obtain ⟨rfl, hP, hK⟩ := hv
  have hx := B.exec
  have hb := B.bytes
  have hr := B.returns
  have hts := atoms_spec (ws := wsX1_pinsFor) B.pre
  have hown : s.vm.findClass RX1 = some m.cls := findClass_of_methodNamed B.named
  have hlocks := B.notSynchronized
  have hS : va_S (fun _ => False) s.heap s.heap [] := va_S.rf
  have hinX1 : ∀ w ∈ u_ws RX1 TX1 8, w ∈ wsX1_pinsFor := by decide +kernel
  have hf27 := hts (.fieldLink RX1 27 "KeyCabinet$Plan" "keys" "I") (by decide +kernel)
  have hf15 := hts (.fieldLink RX1 15 "KeyCabinet$Plan" "teethOf" "[I") (by decide +kernel)
  have hl := lv_entry ([.ref (ad 0), .int r]) (n := 4) (Nat.le_of_ble_eq_true rfl)
  rw [lg_entry_eq]
  generalize (lg_sl ([.ref (ad 0), .int r]) ++ List.replicate (4 - (lg_sl ([.ref (ad 0), .int r])).length) Slot.unset).toArray = ls at hl ⊢
  have hl : lv_has ls 4 [(0, .ref (ad 0)), (1, .int r)] := hl
  refine lv_iconst (v := 0) hx hb dX1_pinsFor_0 (by decide) ?_
  refine lv_istore_n (lv' := [(2, .int 0), (0, .ref (ad 0)), (1, .int r)]) hx hb dX1_pinsFor_1 rfl hl (by decide) rfl (fun ls hl => ?_)
  refine lv_iconst (v := 0) hx hb dX1_pinsFor_2 (by decide) ?_
  refine lv_istore_n (lv' := [(3, .int 0), (2, .int 0), (0, .ref (ad 0)), (1, .int r)]) hx hb dX1_pinsFor_3 rfl hl (by decide) rfl (fun ls hl => ?_)
  refine kc_forW (pc := 4) (N := K) (P := fun j ls => lv_has ls 4 [(3, .int (nI j)), (2, .int (jPinsFor te r j)), (0, .ref (ad 0)), (1, .int r)]) (fun j ls hj_4 hp ih_4 => ?_) ls ?_
  · have hl := hp
    refine lv_iload_n hx hb dX1_pinsFor_4 rfl (lv_at hl 0 rfl) ?_
    refine lv_aload_n hx hb dX1_pinsFor_5 rfl (lv_at hl 2 rfl) ?_
    refine va_get (D := D) (ci := 1) (v := .int (nI K)) (C := RX1) (T := TX1) (N := 8) hx hb hts hinX1 hown hK.1 hP 0 rfl rfl 5 (by decide) hf27 (fun _ h9 => h9) rfl dX1_pinsFor_6 ?_
    refine kc_tst (j := j) (N := K) (tgt := 36) hx hb dX1_pinsFor_9 (by decide) hj_4 (by omega) (fun hN => ?_) (fun hlt_4 => ?_)
    · subst hN
      refine lv_iload_n hx hb dX1_pinsFor_36 rfl (lv_at hl 1 rfl) ?_
      exact W.iret (v := jPinsFor te r K) hx hb hr (fun tZ htZ hWZ => ⟨_, rfl, rfl, htZ⟩) hS.2.2 dX1_pinsFor_37
    · refine lv_iload_n hx hb dX1_pinsFor_12 rfl (lv_at hl 3 rfl) ?_
      refine lv_iload_n hx hb dX1_pinsFor_13 rfl (lv_at hl 0 rfl) ?_
      refine lv_ishr hx hb dX1_pinsFor_14 ?_
      refine lv_iconst (v := 1) hx hb dX1_pinsFor_15 (by decide) ?_
      refine lv_iand hx hb dX1_pinsFor_16 ?_
      refine lv_iconst (v := 1) hx hb dX1_pinsFor_17 (by decide) ?_
      refine lv_icmp_ne (tgt := 30) hx hb dX1_pinsFor_18 (by decide) (fun c_18 => ?_) (fun c_18 => ?_)
      · refine lv_iinc (v := nI (j + 1)) (lv' := [(3, .int (nI (j + 1))), (2, .int (jPinsFor te r j)), (0, .ref (ad 0)), (1, .int r)]) hx hb dX1_pinsFor_30 hl (k := 0) rfl (kc_inc j) (by decide) rfl (fun ls hl => ?_)
        refine lv_goto (tgt := 4) hx hb dX1_pinsFor_33 (by decide) ?_
        refine ih_4 _ hlt_4 ?_
        have eq_2 : jPinsFor te r (j + 1) = jPinsFor te r j := by simp only [jPinsFor, fo_s, if_neg c_18]
        show lv_has _ 4 [(3, .int (nI (j + 1))), (2, .int (jPinsFor te r (j + 1))), (0, .ref (ad 0)), (1, .int r)]
        rw [eq_2]
        exact lv_sub hl [0, 1, 2, 3] rfl
      · refine lv_iload_n hx hb dX1_pinsFor_21 rfl (lv_at hl 1 rfl) ?_
        refine lv_aload_n hx hb dX1_pinsFor_22 rfl (lv_at hl 2 rfl) ?_
        refine va_get (D := D) (ci := 1) (v := .ref (ad 2)) (C := RX1) (T := TX1) (N := 8) hx hb hts hinX1 hown hK.1 hP 0 rfl rfl 1 (by decide) hf15 (fun _ h9 => h9) rfl dX1_pinsFor_23 ?_
        refine lv_iload_n hx hb dX1_pinsFor_26 rfl (lv_at hl 0 rfl) ?_
        refine kc_ald (i := j) (n := 8) hx hb hK hP 2 0 rfl rfl (by omega) (by decide) dX1_pinsFor_27 ?_
        refine lv_ior hx hb dX1_pinsFor_28 ?_
        refine lv_istore_n (lv' := [(2, .int ((jPinsFor te r j) ||| (te j))), (3, .int (nI j)), (0, .ref (ad 0)), (1, .int r)]) hx hb dX1_pinsFor_29 rfl hl (by decide) rfl (fun ls hl => ?_)
        refine lv_iinc (v := nI (j + 1)) (lv' := [(3, .int (nI (j + 1))), (2, .int ((jPinsFor te r j) ||| (te j))), (0, .ref (ad 0)), (1, .int r)]) hx hb dX1_pinsFor_30 hl (k := 1) rfl (kc_inc j) (by decide) rfl (fun ls hl => ?_)
        refine lv_goto (tgt := 4) hx hb dX1_pinsFor_33 (by decide) ?_
        refine ih_4 _ hlt_4 ?_
        have eq_2 : jPinsFor te r (j + 1) = (jPinsFor te r j) ||| (te j) := by simp only [jPinsFor, fo_s, if_pos c_18]
        show lv_has _ 4 [(3, .int (nI (j + 1))), (2, .int (jPinsFor te r (j + 1))), (0, .ref (ad 0)), (1, .int r)]
        rw [eq_2]
        exact lv_sub hl [0, 1, 2, 3] rfl
  · exact lv_sub hl [0, 1, 2, 3] rfl
set_option maxHeartbeats 4000000 in
set_option maxRecDepth 100000 in
theorem c_X1_pinsAt (l : Launch) (D : va_G) (ad : Nat → Nat) (cI : ClassId) (cd : Nat → Int32) (te : Nat → Int32) (ri : Nat → Int32) (pi : Nat → Int32) (pw : Nat → Int32) (K : Nat) (Dn : Nat) (mv : Int32) (d : Nat) (po : Int32) (hd : d < 8) : Met l yX1_pinsAt wsX1_pinsAt ({ frames := 0, cells := 0, slots := 0, locals := 0 } : Room) (rdP [.ref (ad 0), .int (nI d), .int po] D (wPl ad cI cd te ri pi pw K Dn mv) [(cI, .int)]) (vp_Si (fun rZ => rZ = jPinsAt pi d po)) 0 0 (fun _ => False) := by
  refine Met.ofW (cc := cX1_pinsAt) (maxL := 3) (ret := (some .int)) (by decide) rfl ?_
  intro p e s m args below meth c s₁ B hml hv
  obtain ⟨rfl, hP, hK⟩ := hv
  have hx := B.exec
  have hb := B.bytes
  have hr := B.returns
  have hts := atoms_spec (ws := wsX1_pinsAt) B.pre
  have hown : s.vm.findClass RX1 = some m.cls := findClass_of_methodNamed B.named
  have hlocks := B.notSynchronized
  have hS : va_S (fun _ => False) s.heap s.heap [] := va_S.rf
  have hinX1 : ∀ w ∈ u_ws RX1 TX1 8, w ∈ wsX1_pinsAt := by decide +kernel
  have hf21 := hts (.fieldLink RX1 21 "KeyCabinet$Plan" "pinsOf" "[I") (by decide +kernel)
  have hl := lv_entry ([.ref (ad 0), .int (nI d), .int po]) (n := 3) (Nat.le_of_ble_eq_true rfl)
  rw [lg_entry_eq]
  generalize (lg_sl ([.ref (ad 0), .int (nI d), .int po]) ++ List.replicate (3 - (lg_sl ([.ref (ad 0), .int (nI d), .int po])).length) Slot.unset).toArray = ls at hl ⊢
  have hl : lv_has ls 3 [(0, .ref (ad 0)), (1, .int (nI d)), (2, .int po)] := hl
  refine lv_aload_n hx hb dX1_pinsAt_0 rfl (lv_at hl 0 rfl) ?_
  refine va_get (D := D) (ci := 1) (v := .ref (ad 4)) (C := RX1) (T := TX1) (N := 8) hx hb hts hinX1 hown hK.1 hP 0 rfl rfl 3 (by decide) hf21 (fun _ h9 => h9) rfl dX1_pinsAt_1 ?_
  refine lv_iload_n hx hb dX1_pinsAt_4 rfl (lv_at hl 1 rfl) ?_
  refine kc_ald (i := d) (n := 8) hx hb hK hP 4 0 rfl rfl (by omega) (by decide) dX1_pinsAt_5 ?_
  refine lv_iload_n hx hb dX1_pinsAt_6 rfl (lv_at hl 2 rfl) ?_
  refine lv_iconst (v := 4) hx hb dX1_pinsAt_7 (by decide) ?_
  refine lv_imul hx hb dX1_pinsAt_8 ?_
  refine lv_ishr hx hb dX1_pinsAt_9 ?_
  refine lv_bipush (v := 15) hx hb dX1_pinsAt_10 (by decide) ?_
  refine lv_iand hx hb dX1_pinsAt_12 ?_
  exact W.iret (v := ((pi d) >>> ((po * 4) &&& 31)) &&& 15) hx hb hr (fun tZ htZ hWZ => ⟨_, rfl, rfl, htZ⟩) hS.2.2 dX1_pinsAt_13
set_option maxHeartbeats 4000000 in
set_option maxRecDepth 100000 in
theorem c_X1_keyOpens (l : Launch) (D : va_G) (ad : Nat → Nat) (cI : ClassId) (cd : Nat → Int32) (te : Nat → Int32) (ri : Nat → Int32) (pi : Nat → Int32) (pw : Nat → Int32) (K : Nat) (Dn : Nat) (mv : Int32) (k : Nat) (d : Nat) (hk : k < 8) (hd : d < 8) : Met l yX1_keyOpens wsX1_keyOpens ({ frames := 1, cells := 0, slots := 0, locals := 21 } : Room) (rdP [.ref (ad 0), .int (nI k), .int (nI d)] D (wPl ad cI cd te ri pi pw K Dn mv) [(cI, .int)]) (vp_Si (fun rZ => rZ = bI (jContains (pi d) (te k)))) 0 0 (fun _ => False) := by
  refine Met.ofW (cc := cX1_keyOpens) (maxL := 3) (ret := (some .boolean)) (by decide) rfl ?_
  intro p e s m args below meth c s₁ B hml hv
  obtain ⟨rfl, hP, hK⟩ := hv
  have hx := B.exec
  have hb := B.bytes
  have hr := B.returns
  have hts := atoms_spec (ws := wsX1_keyOpens) B.pre
  have hown : s.vm.findClass RX1 = some m.cls := findClass_of_methodNamed B.named
  have hlocks := B.notSynchronized
  have hS : va_S (fun _ => False) s.heap s.heap [] := va_S.rf
  have hinX1 : ∀ w ∈ u_ws RX1 TX1 8, w ∈ wsX1_keyOpens := by decide +kernel
  have hf21 := hts (.fieldLink RX1 21 "KeyCabinet$Plan" "pinsOf" "[I") (by decide +kernel)
  have hf15 := hts (.fieldLink RX1 15 "KeyCabinet$Plan" "teethOf" "[I") (by decide +kernel)
  have hl := lv_entry ([.ref (ad 0), .int (nI k), .int (nI d)]) (n := 3) (Nat.le_of_ble_eq_true rfl)
  rw [lg_entry_eq]
  generalize (lg_sl ([.ref (ad 0), .int (nI k), .int (nI d)]) ++ List.replicate (3 - (lg_sl ([.ref (ad 0), .int (nI k), .int (nI d)])).length) Slot.unset).toArray = ls at hl ⊢
  have hl : lv_has ls 3 [(0, .ref (ad 0)), (1, .int (nI k)), (2, .int (nI d))] := hl
  refine lv_aload_n hx hb dX1_keyOpens_0 rfl (lv_at hl 0 rfl) ?_
  refine va_get (D := D) (ci := 1) (v := .ref (ad 4)) (C := RX1) (T := TX1) (N := 8) hx hb hts hinX1 hown hK.1 hP 0 rfl rfl 3 (by decide) hf21 (fun _ h9 => h9) rfl dX1_keyOpens_1 ?_
  refine lv_iload_n hx hb dX1_keyOpens_4 rfl (lv_at hl 2 rfl) ?_
  refine kc_ald (i := d) (n := 8) hx hb hK hP 4 0 rfl rfl (by omega) (by decide) dX1_keyOpens_5 ?_
  refine lv_aload_n hx hb dX1_keyOpens_6 rfl (lv_at hl 0 rfl) ?_
  refine va_get (D := D) (ci := 1) (v := .ref (ad 2)) (C := RX1) (T := TX1) (N := 8) hx hb hts hinX1 hown hK.1 hP 0 rfl rfl 1 (by decide) hf15 (fun _ h9 => h9) rfl dX1_keyOpens_7 ?_
  refine lv_iload_n hx hb dX1_keyOpens_10 rfl (lv_at hl 1 rfl) ?_
  refine kc_ald (i := k) (n := 8) hx hb hK hP 2 0 rfl rfl (by omega) (by decide) dX1_keyOpens_11 ?_
  refine kc_rNi (host := "KeyCabinet") (As := [.int (pi d), .int (te k)]) (rest := []) ⟨hx, hb, hml, hown, hts⟩ (c_X2_contains l (pi d) (te k) ) (va_cnB 2 hts gX1_keyOpens_X2_contains_n57 rfl rfl rfl hK.2 (hts (.initialized RX2) (by decide +kernel)) (by decide +kernel) ⟨Nat.le_of_ble_eq_true rfl, Nat.le_of_ble_eq_true rfl⟩) (hts (.static yX2_contains) (by decide +kernel)) rfl hl.1 rfl (Nat.le_of_ble_eq_true rfl) dX1_keyOpens_12 ⟨Nat.le_of_ble_eq_true rfl, Nat.le_of_ble_eq_true rfl⟩ ?_
  exact W.zret (v := bI (jContains (pi d) (te k))) hx hb hr (bI_nar _) (fun tZ htZ hWZ => ⟨_, rfl, rfl, htZ⟩) hS.2.2 dX1_keyOpens_15
set_option maxHeartbeats 4000000 in
set_option maxRecDepth 100000 in
theorem c_X1_openersOf (l : Launch) (D : va_G) (ad : Nat → Nat) (cI : ClassId) (cd : Nat → Int32) (te : Nat → Int32) (ri : Nat → Int32) (pi : Nat → Int32) (pw : Nat → Int32) (K : Nat) (Dn : Nat) (mv : Int32) (d : Nat) (hK8 : K ≤ 8) (hd : d < 8) : Met l yX1_openersOf wsX1_openersOf ({ frames := 2, cells := 0, slots := 0, locals := 43 } : Room) (rdP [.ref (ad 0), .int (nI d)] D (wPl ad cI cd te ri pi pw K Dn mv) [(cI, .int)]) (vp_Si (fun rZ => rZ = jOpeners pi te d K)) 0 0 (fun _ => False) := by
  refine Met.ofW (cc := cX1_openersOf) (maxL := 4) (ret := (some .int)) (by decide) rfl ?_
  intro p e s m args below meth c s₁ B hml hv
  obtain ⟨rfl, hP, hK⟩ := hv
  have hx := B.exec
  have hb := B.bytes
  have hr := B.returns
  have hts := atoms_spec (ws := wsX1_openersOf) B.pre
  have hown : s.vm.findClass RX1 = some m.cls := findClass_of_methodNamed B.named
  have hlocks := B.notSynchronized
  have hS : va_S (fun _ => False) s.heap s.heap [] := va_S.rf
  have hinX1 : ∀ w ∈ u_ws RX1 TX1 8, w ∈ wsX1_openersOf := by decide +kernel
  have hf27 := hts (.fieldLink RX1 27 "KeyCabinet$Plan" "keys" "I") (by decide +kernel)
  have hl := lv_entry ([.ref (ad 0), .int (nI d)]) (n := 4) (Nat.le_of_ble_eq_true rfl)
  rw [lg_entry_eq]
  generalize (lg_sl ([.ref (ad 0), .int (nI d)]) ++ List.replicate (4 - (lg_sl ([.ref (ad 0), .int (nI d)])).length) Slot.unset).toArray = ls at hl ⊢
  have hl : lv_has ls 4 [(0, .ref (ad 0)), (1, .int (nI d))] := hl
  refine lv_iconst (v := 0) hx hb dX1_openersOf_0 (by decide) ?_
  refine lv_istore_n (lv' := [(2, .int 0), (0, .ref (ad 0)), (1, .int (nI d))]) hx hb dX1_openersOf_1 rfl hl (by decide) rfl (fun ls hl => ?_)
  refine lv_iconst (v := 0) hx hb dX1_openersOf_2 (by decide) ?_
  refine lv_istore_n (lv' := [(3, .int 0), (2, .int 0), (0, .ref (ad 0)), (1, .int (nI d))]) hx hb dX1_openersOf_3 rfl hl (by decide) rfl (fun ls hl => ?_)
  refine kc_forW (pc := 4) (N := K) (P := fun j ls => lv_has ls 4 [(3, .int (nI j)), (2, .int (jOpeners pi te d j)), (0, .ref (ad 0)), (1, .int (nI d))]) (fun j ls hj_4 hp ih_4 => ?_) ls ?_
  · have hl := hp
    refine lv_iload_n hx hb dX1_openersOf_4 rfl (lv_at hl 0 rfl) ?_
    refine lv_aload_n hx hb dX1_openersOf_5 rfl (lv_at hl 2 rfl) ?_
    refine va_get (D := D) (ci := 1) (v := .int (nI K)) (C := RX1) (T := TX1) (N := 8) hx hb hts hinX1 hown hK.1 hP 0 rfl rfl 5 (by decide) hf27 (fun _ h9 => h9) rfl dX1_openersOf_6 ?_
    refine kc_tst (j := j) (N := K) (tgt := 33) hx hb dX1_openersOf_9 (by decide) hj_4 (by omega) (fun hN => ?_) (fun hlt_4 => ?_)
    · subst hN
      refine lv_iload_n hx hb dX1_openersOf_33 rfl (lv_at hl 1 rfl) ?_
      exact W.iret (v := jOpeners pi te d K) hx hb hr (fun tZ htZ hWZ => ⟨_, rfl, rfl, htZ⟩) hS.2.2 dX1_openersOf_34
    · refine lv_aload_n hx hb dX1_openersOf_12 rfl (lv_at hl 2 rfl) ?_
      refine lv_iload_n hx hb dX1_openersOf_13 rfl (lv_at hl 0 rfl) ?_
      refine lv_iload_n hx hb dX1_openersOf_14 rfl (lv_at hl 3 rfl) ?_
      refine kc_rVi (As := [.int (nI j), .int (nI d)]) (rest := []) ⟨hx, hb, hml, hown, hts⟩ (c_X1_keyOpens l D ad cI cd te ri pi pw K Dn mv j d (by first | assumption | omega) hd) (cwV 2 hts gX1_openersOf_X1_keyOpens rfl rfl rfl (by decide +kernel) ⟨Nat.le_of_ble_eq_true rfl, Nat.le_of_ble_eq_true rfl⟩) hK hP [0, 1, 2, 3, 4, 5] [0] rfl rfl 0 rfl rfl rfl rfl hl.1 rfl (Nat.le_of_ble_eq_true rfl) dX1_openersOf_15 ⟨Nat.le_of_ble_eq_true rfl, Nat.le_of_ble_eq_true rfl⟩ ?_
      refine kc_ifeqB (tgt := 27) hx hb dX1_openersOf_18 (by decide) (fun c_18 => ?_) (fun c_18 => ?_)
      · refine lv_iinc (v := nI (j + 1)) (lv' := [(3, .int (nI (j + 1))), (2, .int (jOpeners pi te d j)), (0, .ref (ad 0)), (1, .int (nI d))]) hx hb dX1_openersOf_27 hl (k := 0) rfl (kc_inc j) (by decide) rfl (fun ls hl => ?_)
        refine lv_goto (tgt := 4) hx hb dX1_openersOf_30 (by decide) ?_
        refine ih_4 _ hlt_4 ?_
        have eq_2 : jOpeners pi te d (j + 1) = jOpeners pi te d j := by simp only [jOpeners, fo_s, if_neg c_18]
        show lv_has _ 4 [(3, .int (nI (j + 1))), (2, .int (jOpeners pi te d (j + 1))), (0, .ref (ad 0)), (1, .int (nI d))]
        rw [eq_2]
        exact lv_sub hl [0, 1, 2, 3] rfl
      · refine lv_iload_n hx hb dX1_openersOf_21 rfl (lv_at hl 1 rfl) ?_
        refine lv_iconst (v := 1) hx hb dX1_openersOf_22 (by decide) ?_
        refine lv_iload_n hx hb dX1_openersOf_23 rfl (lv_at hl 0 rfl) ?_
        refine lv_ishl hx hb dX1_openersOf_24 ?_
        refine lv_ior hx hb dX1_openersOf_25 ?_
        refine lv_istore_n (lv' := [(2, .int ((jOpeners pi te d j) ||| (1 <<< ((nI j) &&& 31)))), (3, .int (nI j)), (0, .ref (ad 0)), (1, .int (nI d))]) hx hb dX1_openersOf_26 rfl hl (by decide) rfl (fun ls hl => ?_)
        refine lv_iinc (v := nI (j + 1)) (lv' := [(3, .int (nI (j + 1))), (2, .int ((jOpeners pi te d j) ||| (1 <<< ((nI j) &&& 31)))), (0, .ref (ad 0)), (1, .int (nI d))]) hx hb dX1_openersOf_27 hl (k := 1) rfl (kc_inc j) (by decide) rfl (fun ls hl => ?_)
        refine lv_goto (tgt := 4) hx hb dX1_openersOf_30 (by decide) ?_
        refine ih_4 _ hlt_4 ?_
        have eq_2 : jOpeners pi te d (j + 1) = (jOpeners pi te d j) ||| (1 <<< ((nI j) &&& 31)) := by simp only [jOpeners, fo_s, if_pos c_18]
        show lv_has _ 4 [(3, .int (nI (j + 1))), (2, .int (jOpeners pi te d (j + 1))), (0, .ref (ad 0)), (1, .int (nI d))]
        rw [eq_2]
        exact lv_sub hl [0, 1, 2, 3] rfl
  · exact lv_sub hl [0, 1, 2, 3] rfl
set_option maxHeartbeats 4000000 in
set_option maxRecDepth 100000 in
theorem c_X1_doorsOf (l : Launch) (D : va_G) (ad : Nat → Nat) (cI : ClassId) (cd : Nat → Int32) (te : Nat → Int32) (ri : Nat → Int32) (pi : Nat → Int32) (pw : Nat → Int32) (K : Nat) (Dn : Nat) (mv : Int32) (k : Nat) (hD8 : Dn ≤ 8) (hk : k < 8) : Met l yX1_doorsOf wsX1_doorsOf ({ frames := 2, cells := 0, slots := 0, locals := 43 } : Room) (rdP [.ref (ad 0), .int (nI k)] D (wPl ad cI cd te ri pi pw K Dn mv) [(cI, .int)]) (vp_Si (fun rZ => rZ = jDoors pi te k Dn)) 0 0 (fun _ => False) := by
  refine Met.ofW (cc := cX1_doorsOf) (maxL := 4) (ret := (some .int)) (by decide) rfl ?_
  intro p e s m args below meth c s₁ B hml hv
  obtain ⟨rfl, hP, hK⟩ := hv
  have hx := B.exec
  have hb := B.bytes
  have hr := B.returns
  have hts := atoms_spec (ws := wsX1_doorsOf) B.pre
  have hown : s.vm.findClass RX1 = some m.cls := findClass_of_methodNamed B.named
  have hlocks := B.notSynchronized
  have hS : va_S (fun _ => False) s.heap s.heap [] := va_S.rf
  have hinX1 : ∀ w ∈ u_ws RX1 TX1 8, w ∈ wsX1_doorsOf := by decide +kernel
  have hf31 := hts (.fieldLink RX1 31 "KeyCabinet$Plan" "doors" "I") (by decide +kernel)
  have hl := lv_entry ([.ref (ad 0), .int (nI k)]) (n := 4) (Nat.le_of_ble_eq_true rfl)
  rw [lg_entry_eq]
  generalize (lg_sl ([.ref (ad 0), .int (nI k)]) ++ List.replicate (4 - (lg_sl ([.ref (ad 0), .int (nI k)])).length) Slot.unset).toArray = ls at hl ⊢
  have hl : lv_has ls 4 [(0, .ref (ad 0)), (1, .int (nI k))] := hl
  refine lv_iconst (v := 0) hx hb dX1_doorsOf_0 (by decide) ?_
  refine lv_istore_n (lv' := [(2, .int 0), (0, .ref (ad 0)), (1, .int (nI k))]) hx hb dX1_doorsOf_1 rfl hl (by decide) rfl (fun ls hl => ?_)
  refine lv_iconst (v := 0) hx hb dX1_doorsOf_2 (by decide) ?_
  refine lv_istore_n (lv' := [(3, .int 0), (2, .int 0), (0, .ref (ad 0)), (1, .int (nI k))]) hx hb dX1_doorsOf_3 rfl hl (by decide) rfl (fun ls hl => ?_)
  refine kc_forW (pc := 4) (N := Dn) (P := fun j ls => lv_has ls 4 [(3, .int (nI j)), (2, .int (jDoors pi te k j)), (0, .ref (ad 0)), (1, .int (nI k))]) (fun j ls hj_4 hp ih_4 => ?_) ls ?_
  · have hl := hp
    refine lv_iload_n hx hb dX1_doorsOf_4 rfl (lv_at hl 0 rfl) ?_
    refine lv_aload_n hx hb dX1_doorsOf_5 rfl (lv_at hl 2 rfl) ?_
    refine va_get (D := D) (ci := 1) (v := .int (nI Dn)) (C := RX1) (T := TX1) (N := 8) hx hb hts hinX1 hown hK.1 hP 0 rfl rfl 6 (by decide) hf31 (fun _ h9 => h9) rfl dX1_doorsOf_6 ?_
    refine kc_tst (j := j) (N := Dn) (tgt := 33) hx hb dX1_doorsOf_9 (by decide) hj_4 (by omega) (fun hN => ?_) (fun hlt_4 => ?_)
    · subst hN
      refine lv_iload_n hx hb dX1_doorsOf_33 rfl (lv_at hl 1 rfl) ?_
      exact W.iret (v := jDoors pi te k Dn) hx hb hr (fun tZ htZ hWZ => ⟨_, rfl, rfl, htZ⟩) hS.2.2 dX1_doorsOf_34
    · refine lv_aload_n hx hb dX1_doorsOf_12 rfl (lv_at hl 2 rfl) ?_
      refine lv_iload_n hx hb dX1_doorsOf_13 rfl (lv_at hl 3 rfl) ?_
      refine lv_iload_n hx hb dX1_doorsOf_14 rfl (lv_at hl 0 rfl) ?_
      refine kc_rVi (As := [.int (nI k), .int (nI j)]) (rest := []) ⟨hx, hb, hml, hown, hts⟩ (c_X1_keyOpens l D ad cI cd te ri pi pw K Dn mv k j hk (by first | assumption | omega)) (cwV 2 hts gX1_doorsOf_X1_keyOpens rfl rfl rfl (by decide +kernel) ⟨Nat.le_of_ble_eq_true rfl, Nat.le_of_ble_eq_true rfl⟩) hK hP [0, 1, 2, 3, 4, 5] [0] rfl rfl 0 rfl rfl rfl rfl hl.1 rfl (Nat.le_of_ble_eq_true rfl) dX1_doorsOf_15 ⟨Nat.le_of_ble_eq_true rfl, Nat.le_of_ble_eq_true rfl⟩ ?_
      refine kc_ifeqB (tgt := 27) hx hb dX1_doorsOf_18 (by decide) (fun c_18 => ?_) (fun c_18 => ?_)
      · refine lv_iinc (v := nI (j + 1)) (lv' := [(3, .int (nI (j + 1))), (2, .int (jDoors pi te k j)), (0, .ref (ad 0)), (1, .int (nI k))]) hx hb dX1_doorsOf_27 hl (k := 0) rfl (kc_inc j) (by decide) rfl (fun ls hl => ?_)
        refine lv_goto (tgt := 4) hx hb dX1_doorsOf_30 (by decide) ?_
        refine ih_4 _ hlt_4 ?_
        have eq_2 : jDoors pi te k (j + 1) = jDoors pi te k j := by simp only [jDoors, fo_s, if_neg c_18]
        show lv_has _ 4 [(3, .int (nI (j + 1))), (2, .int (jDoors pi te k (j + 1))), (0, .ref (ad 0)), (1, .int (nI k))]
        rw [eq_2]
        exact lv_sub hl [0, 1, 2, 3] rfl
      · refine lv_iload_n hx hb dX1_doorsOf_21 rfl (lv_at hl 1 rfl) ?_
        refine lv_iconst (v := 1) hx hb dX1_doorsOf_22 (by decide) ?_
        refine lv_iload_n hx hb dX1_doorsOf_23 rfl (lv_at hl 0 rfl) ?_
        refine lv_ishl hx hb dX1_doorsOf_24 ?_
        refine lv_ior hx hb dX1_doorsOf_25 ?_
        refine lv_istore_n (lv' := [(2, .int ((jDoors pi te k j) ||| (1 <<< ((nI j) &&& 31)))), (3, .int (nI j)), (0, .ref (ad 0)), (1, .int (nI k))]) hx hb dX1_doorsOf_26 rfl hl (by decide) rfl (fun ls hl => ?_)
        refine lv_iinc (v := nI (j + 1)) (lv' := [(3, .int (nI (j + 1))), (2, .int ((jDoors pi te k j) ||| (1 <<< ((nI j) &&& 31)))), (0, .ref (ad 0)), (1, .int (nI k))]) hx hb dX1_doorsOf_27 hl (k := 1) rfl (kc_inc j) (by decide) rfl (fun ls hl => ?_)
        refine lv_goto (tgt := 4) hx hb dX1_doorsOf_30 (by decide) ?_
        refine ih_4 _ hlt_4 ?_
        have eq_2 : jDoors pi te k (j + 1) = (jDoors pi te k j) ||| (1 <<< ((nI j) &&& 31)) := by simp only [jDoors, fo_s, if_pos c_18]
        show lv_has _ 4 [(3, .int (nI (j + 1))), (2, .int (jDoors pi te k (j + 1))), (0, .ref (ad 0)), (1, .int (nI k))]
        rw [eq_2]
        exact lv_sub hl [0, 1, 2, 3] rfl
  · exact lv_sub hl [0, 1, 2, 3] rfl
set_option maxHeartbeats 4000000 in
set_option maxRecDepth 100000 in
theorem c_X1_countStrays (l : Launch) (D : va_G) (ad : Nat → Nat) (cI : ClassId) (cd : Nat → Int32) (te : Nat → Int32) (ri : Nat → Int32) (pi : Nat → Int32) (pw : Nat → Int32) (K : Nat) (Dn : Nat) (mv : Int32) (hK8 : K ≤ 8) (hD8 : Dn ≤ 8) : Met l yX1_countStrays wsX1_countStrays ({ frames := 3, cells := 0, slots := 0, locals := 66 } : Room) (rdP [.ref (ad 0)] D (wPl ad cI cd te ri pi pw K Dn mv) [(cI, .int)]) (vp_Si (fun rZ => rZ = jStrays pi te ri K Dn)) 0 0 (fun _ => False) := by
  refine Met.ofW (cc := cX1_countStrays) (maxL := 3) (ret := (some .int)) (by decide) rfl ?_
  intro p e s m args below meth c s₁ B hml hv
  obtain ⟨rfl, hP, hK⟩ := hv
  have hx := B.exec
  have hb := B.bytes
  have hr := B.returns
  have hts := atoms_spec (ws := wsX1_countStrays) B.pre
  have hown : s.vm.findClass RX1 = some m.cls := findClass_of_methodNamed B.named
  have hlocks := B.notSynchronized
  have hS : va_S (fun _ => False) s.heap s.heap [] := va_S.rf
  have hinX1 : ∀ w ∈ u_ws RX1 TX1 8, w ∈ wsX1_countStrays := by decide +kernel
  have hf31 := hts (.fieldLink RX1 31 "KeyCabinet$Plan" "doors" "I") (by decide +kernel)
  have hf18 := hts (.fieldLink RX1 18 "KeyCabinet$Plan" "rightsOf" "[I") (by decide +kernel)
  have hl := lv_entry ([.ref (ad 0)]) (n := 3) (Nat.le_of_ble_eq_true rfl)
  rw [lg_entry_eq]
  generalize (lg_sl ([.ref (ad 0)]) ++ List.replicate (3 - (lg_sl ([.ref (ad 0)])).length) Slot.unset).toArray = ls at hl ⊢
  have hl : lv_has ls 3 [(0, .ref (ad 0))] := hl
  refine lv_iconst (v := 0) hx hb dX1_countStrays_0 (by decide) ?_
  refine lv_istore_n (lv' := [(1, .int 0), (0, .ref (ad 0))]) hx hb dX1_countStrays_1 rfl hl (by decide) rfl (fun ls hl => ?_)
  refine lv_iconst (v := 0) hx hb dX1_countStrays_2 (by decide) ?_
  refine lv_istore_n (lv' := [(2, .int 0), (1, .int 0), (0, .ref (ad 0))]) hx hb dX1_countStrays_3 rfl hl (by decide) rfl (fun ls hl => ?_)
  refine kc_forW (pc := 4) (N := Dn) (P := fun j ls => lv_has ls 3 [(2, .int (nI j)), (1, .int (jStrays pi te ri K j)), (0, .ref (ad 0))]) (fun j ls hj_4 hp ih_4 => ?_) ls ?_
  · have hl := hp
    refine lv_iload_n hx hb dX1_countStrays_4 rfl (lv_at hl 0 rfl) ?_
    refine lv_aload_n hx hb dX1_countStrays_5 rfl (lv_at hl 2 rfl) ?_
    refine va_get (D := D) (ci := 1) (v := .int (nI Dn)) (C := RX1) (T := TX1) (N := 8) hx hb hts hinX1 hown hK.1 hP 0 rfl rfl 6 (by decide) hf31 (fun _ h9 => h9) rfl dX1_countStrays_6 ?_
    refine kc_tst (j := j) (N := Dn) (tgt := 38) hx hb dX1_countStrays_9 (by decide) hj_4 (by omega) (fun hN => ?_) (fun hlt_4 => ?_)
    · subst hN
      refine lv_iload_n hx hb dX1_countStrays_38 rfl (lv_at hl 1 rfl) ?_
      exact W.iret (v := jStrays pi te ri K Dn) hx hb hr (fun tZ htZ hWZ => ⟨_, rfl, rfl, htZ⟩) hS.2.2 dX1_countStrays_39
    · refine lv_iload_n hx hb dX1_countStrays_12 rfl (lv_at hl 1 rfl) ?_
      refine lv_aload_n hx hb dX1_countStrays_13 rfl (lv_at hl 2 rfl) ?_
      refine lv_iload_n hx hb dX1_countStrays_14 rfl (lv_at hl 0 rfl) ?_
      refine kc_rVi (As := [.int (nI j)]) (rest := [.int (jStrays pi te ri K j)]) ⟨hx, hb, hml, hown, hts⟩ (c_X1_openersOf l D ad cI cd te ri pi pw K Dn mv j hK8 (by first | assumption | omega)) (cwV 1 hts gX1_countStrays_X1_openersOf rfl rfl rfl (by decide +kernel) ⟨Nat.le_of_ble_eq_true rfl, Nat.le_of_ble_eq_true rfl⟩) hK hP [0, 1, 2, 3, 4, 5] [0] rfl rfl 0 rfl rfl rfl rfl hl.1 rfl (Nat.le_of_ble_eq_true rfl) dX1_countStrays_15 ⟨Nat.le_of_ble_eq_true rfl, Nat.le_of_ble_eq_true rfl⟩ ?_
      refine lv_aload_n hx hb dX1_countStrays_18 rfl (lv_at hl 2 rfl) ?_
      refine va_get (D := D) (ci := 1) (v := .ref (ad 3)) (C := RX1) (T := TX1) (N := 8) hx hb hts hinX1 hown hK.1 hP 0 rfl rfl 2 (by decide) hf18 (fun _ h9 => h9) rfl dX1_countStrays_19 ?_
      refine lv_iload_n hx hb dX1_countStrays_22 rfl (lv_at hl 0 rfl) ?_
      refine kc_ald (i := j) (n := 8) hx hb hK hP 3 0 rfl rfl (by omega) (by decide) dX1_countStrays_23 ?_
      refine lv_iconst (v := (-1)) hx hb dX1_countStrays_24 (by decide) ?_
      refine lv_ixor hx hb dX1_countStrays_25 ?_
      refine lv_iand hx hb dX1_countStrays_26 ?_
      refine kc_rSi (As := [.int ((jOpeners pi te j K) &&& ((ri j) ^^^ (-1)))]) (rest := [.int (jStrays pi te ri K j)]) ⟨hx, hb, hml, hown, hts⟩ (c_J6_bitCount_0f7a4 l ((jOpeners pi te j K) &&& ((ri j) ^^^ (-1))) ) (va_cwS 1 hts gX1_countStrays_J6_bitCount_0f7a4 rfl rfl rfl (by decide +kernel) ⟨Nat.le_of_ble_eq_true rfl, Nat.le_of_ble_eq_true rfl⟩) rfl hl.1 rfl (Nat.le_of_ble_eq_true rfl) dX1_countStrays_27 ⟨Nat.le_of_ble_eq_true rfl, Nat.le_of_ble_eq_true rfl⟩ ?_
      refine lv_iadd hx hb dX1_countStrays_30 ?_
      refine lv_istore_n (lv' := [(1, .int ((jStrays pi te ri K j) + (jPop ((jOpeners pi te j K) &&& ((ri j) ^^^ (-1)))))), (2, .int (nI j)), (0, .ref (ad 0))]) hx hb dX1_countStrays_31 rfl hl (by decide) rfl (fun ls hl => ?_)
      refine lv_iinc (v := nI (j + 1)) (lv' := [(2, .int (nI (j + 1))), (1, .int ((jStrays pi te ri K j) + (jPop ((jOpeners pi te j K) &&& ((ri j) ^^^ (-1)))))), (0, .ref (ad 0))]) hx hb dX1_countStrays_32 hl (k := 1) rfl (kc_inc j) (by decide) rfl (fun ls hl => ?_)
      refine lv_goto (tgt := 4) hx hb dX1_countStrays_35 (by decide) ?_
      refine ih_4 _ hlt_4 ?_
      have eq_1 : jStrays pi te ri K (j + 1) = (jStrays pi te ri K j) + (jPop ((jOpeners pi te j K) &&& ((ri j) ^^^ (-1)))) := rfl
      show lv_has _ 3 [(2, .int (nI (j + 1))), (1, .int (jStrays pi te ri K (j + 1))), (0, .ref (ad 0))]
      rw [eq_1]
      exact lv_sub hl [0, 1, 2] rfl
  · exact lv_sub hl [0, 1, 2] rfl
set_option maxHeartbeats 4000000 in
set_option maxRecDepth 100000 in
theorem c_X1_countCodes (l : Launch) (D : va_G) (ad : Nat → Nat) (cI : ClassId) (cd : Nat → Int32) (te : Nat → Int32) (ri : Nat → Int32) (pi : Nat → Int32) (pw : Nat → Int32) (K : Nat) (Dn : Nat) (mv : Int32) (d : Nat) (hd : d < 8) : Met l yX1_countCodes wsX1_countCodes ({ frames := 1, cells := 0, slots := 0, locals := 22 } : Room) (rdP [.ref (ad 0), .int (nI d)] D (wPl ad cI cd te ri pi pw K Dn mv) [(cI, .int)]) (vp_Si (fun rZ => rZ = jCodes pi d 5)) 0 0 (fun _ => False) := by
  refine Met.ofW (cc := cX1_countCodes) (maxL := 4) (ret := (some .int)) (by decide) rfl ?_
  intro p e s m args below meth c s₁ B hml hv
  obtain ⟨rfl, hP, hK⟩ := hv
  have hx := B.exec
  have hb := B.bytes
  have hr := B.returns
  have hts := atoms_spec (ws := wsX1_countCodes) B.pre
  have hown : s.vm.findClass RX1 = some m.cls := findClass_of_methodNamed B.named
  have hlocks := B.notSynchronized
  have hS : va_S (fun _ => False) s.heap s.heap [] := va_S.rf
  have hl := lv_entry ([.ref (ad 0), .int (nI d)]) (n := 4) (Nat.le_of_ble_eq_true rfl)
  rw [lg_entry_eq]
  generalize (lg_sl ([.ref (ad 0), .int (nI d)]) ++ List.replicate (4 - (lg_sl ([.ref (ad 0), .int (nI d)])).length) Slot.unset).toArray = ls at hl ⊢
  have hl : lv_has ls 4 [(0, .ref (ad 0)), (1, .int (nI d))] := hl
  refine lv_iconst (v := 1) hx hb dX1_countCodes_0 (by decide) ?_
  refine lv_istore_n (lv' := [(2, .int 1), (0, .ref (ad 0)), (1, .int (nI d))]) hx hb dX1_countCodes_1 rfl hl (by decide) rfl (fun ls hl => ?_)
  refine lv_iconst (v := 0) hx hb dX1_countCodes_2 (by decide) ?_
  refine lv_istore_n (lv' := [(3, .int 0), (2, .int 1), (0, .ref (ad 0)), (1, .int (nI d))]) hx hb dX1_countCodes_3 rfl hl (by decide) rfl (fun ls hl => ?_)
  refine kc_forW (pc := 4) (N := 5) (P := fun j ls => lv_has ls 4 [(3, .int (nI j)), (2, .int (jCodes pi d j)), (0, .ref (ad 0)), (1, .int (nI d))]) (fun j ls hj_4 hp ih_4 => ?_) ls ?_
  · have hl := hp
    refine lv_iload_n hx hb dX1_countCodes_4 rfl (lv_at hl 0 rfl) ?_
    refine lv_iconst (v := 5) hx hb dX1_countCodes_5 (by decide) ?_
    refine kc_tst (j := j) (N := 5) (tgt := 27) hx hb dX1_countCodes_6 (by decide) hj_4 (by omega) (fun hN => ?_) (fun hlt_4 => ?_)
    · subst hN
      refine lv_iload_n hx hb dX1_countCodes_27 rfl (lv_at hl 1 rfl) ?_
      exact W.iret (v := jCodes pi d 5) hx hb hr (fun tZ htZ hWZ => ⟨_, rfl, rfl, htZ⟩) hS.2.2 dX1_countCodes_28
    · refine lv_iload_n hx hb dX1_countCodes_9 rfl (lv_at hl 1 rfl) ?_
      refine lv_aload_n hx hb dX1_countCodes_10 rfl (lv_at hl 2 rfl) ?_
      refine lv_iload_n hx hb dX1_countCodes_11 rfl (lv_at hl 3 rfl) ?_
      refine lv_iload_n hx hb dX1_countCodes_12 rfl (lv_at hl 0 rfl) ?_
      refine kc_rVi (As := [.int (nI d), .int (nI j)]) (rest := [.int (jCodes pi d j)]) ⟨hx, hb, hml, hown, hts⟩ (c_X1_pinsAt l D ad cI cd te ri pi pw K Dn mv d (nI j) hd) (cwV 2 hts gX1_countCodes_X1_pinsAt rfl rfl rfl (by decide +kernel) ⟨Nat.le_of_ble_eq_true rfl, Nat.le_of_ble_eq_true rfl⟩) hK hP [0, 1, 2, 3, 4, 5] [0] rfl rfl 0 rfl rfl rfl rfl hl.1 rfl (Nat.le_of_ble_eq_true rfl) dX1_countCodes_13 ⟨Nat.le_of_ble_eq_true rfl, Nat.le_of_ble_eq_true rfl⟩ ?_
      refine kc_rSi (As := [.int (jPinsAt pi d (nI j))]) (rest := [.int (jCodes pi d j)]) ⟨hx, hb, hml, hown, hts⟩ (c_J6_bitCount_0f7a4 l (jPinsAt pi d (nI j)) ) (va_cwS 1 hts gX1_countCodes_J6_bitCount_0f7a4 rfl rfl rfl (by decide +kernel) ⟨Nat.le_of_ble_eq_true rfl, Nat.le_of_ble_eq_true rfl⟩) rfl hl.1 rfl (Nat.le_of_ble_eq_true rfl) dX1_countCodes_16 ⟨Nat.le_of_ble_eq_true rfl, Nat.le_of_ble_eq_true rfl⟩ ?_
      refine lv_imul hx hb dX1_countCodes_19 ?_
      refine lv_istore_n (lv' := [(2, .int ((jCodes pi d j) * (jPop (jPinsAt pi d (nI j))))), (3, .int (nI j)), (0, .ref (ad 0)), (1, .int (nI d))]) hx hb dX1_countCodes_20 rfl hl (by decide) rfl (fun ls hl => ?_)
      refine lv_iinc (v := nI (j + 1)) (lv' := [(3, .int (nI (j + 1))), (2, .int ((jCodes pi d j) * (jPop (jPinsAt pi d (nI j))))), (0, .ref (ad 0)), (1, .int (nI d))]) hx hb dX1_countCodes_21 hl (k := 1) rfl (kc_inc j) (by decide) rfl (fun ls hl => ?_)
      refine lv_goto (tgt := 4) hx hb dX1_countCodes_24 (by decide) ?_
      refine ih_4 _ hlt_4 ?_
      have eq_2 : jCodes pi d (j + 1) = (jCodes pi d j) * (jPop (jPinsAt pi d (nI j))) := rfl
      show lv_has _ 4 [(3, .int (nI (j + 1))), (2, .int (jCodes pi d (j + 1))), (0, .ref (ad 0)), (1, .int (nI d))]
      rw [eq_2]
      exact lv_sub hl [0, 1, 2, 3] rfl
  · exact lv_sub hl [0, 1, 2, 3] rfl
set_option maxHeartbeats 4000000 in
set_option maxRecDepth 100000 in
theorem c_X1_pinsWith (l : Launch) (D : va_G) (ad : Nat → Nat) (cI : ClassId) (cd : Nat → Int32) (te : Nat → Int32) (ri : Nat → Int32) (pi : Nat → Int32) (pw : Nat → Int32) (K : Nat) (Dn : Nat) (mv : Int32) (k : Nat) (t : Int32) (d : Nat) (hd : d < 8) : Met l yX1_pinsWith wsX1_pinsWith ({ frames := 0, cells := 0, slots := 0, locals := 0 } : Room) (rdP [.ref (ad 0), .int (nI k), .int t, .int (nI d)] D (wPl ad cI cd te ri pi pw K Dn mv) [(cI, .int)]) (vp_Si (fun rZ => rZ = jPinsWith ri pw k t d)) 0 0 (fun _ => False) := by
  refine Met.ofW (cc := cX1_pinsWith) (maxL := 5) (ret := (some .int)) (by decide) rfl ?_
  intro p e s m args below meth c s₁ B hml hv
  obtain ⟨rfl, hP, hK⟩ := hv
  have hx := B.exec
  have hb := B.bytes
  have hr := B.returns
  have hts := atoms_spec (ws := wsX1_pinsWith) B.pre
  have hown : s.vm.findClass RX1 = some m.cls := findClass_of_methodNamed B.named
  have hlocks := B.notSynchronized
  have hS : va_S (fun _ => False) s.heap s.heap [] := va_S.rf
  have hinX1 : ∀ w ∈ u_ws RX1 TX1 8, w ∈ wsX1_pinsWith := by decide +kernel
  have hf18 := hts (.fieldLink RX1 18 "KeyCabinet$Plan" "rightsOf" "[I") (by decide +kernel)
  have hf24 := hts (.fieldLink RX1 24 "KeyCabinet$Plan" "pinsWithout" "[I") (by decide +kernel)
  have hl := lv_entry ([.ref (ad 0), .int (nI k), .int t, .int (nI d)]) (n := 5) (Nat.le_of_ble_eq_true rfl)
  rw [lg_entry_eq]
  generalize (lg_sl ([.ref (ad 0), .int (nI k), .int t, .int (nI d)]) ++ List.replicate (5 - (lg_sl ([.ref (ad 0), .int (nI k), .int t, .int (nI d)])).length) Slot.unset).toArray = ls at hl ⊢
  have hl : lv_has ls 5 [(0, .ref (ad 0)), (1, .int (nI k)), (2, .int t), (3, .int (nI d))] := hl
  refine lv_aload_n hx hb dX1_pinsWith_0 rfl (lv_at hl 0 rfl) ?_
  refine va_get (D := D) (ci := 1) (v := .ref (ad 3)) (C := RX1) (T := TX1) (N := 8) hx hb hts hinX1 hown hK.1 hP 0 rfl rfl 2 (by decide) hf18 (fun _ h9 => h9) rfl dX1_pinsWith_1 ?_
  refine lv_iload_n hx hb dX1_pinsWith_4 rfl (lv_at hl 3 rfl) ?_
  refine kc_ald (i := d) (n := 8) hx hb hK hP 3 0 rfl rfl (by omega) (by decide) dX1_pinsWith_5 ?_
  refine lv_iload_n hx hb dX1_pinsWith_6 rfl (lv_at hl 1 rfl) ?_
  refine lv_ishr hx hb dX1_pinsWith_7 ?_
  refine lv_iconst (v := 1) hx hb dX1_pinsWith_8 (by decide) ?_
  refine lv_iand hx hb dX1_pinsWith_9 ?_
  refine lv_iconst (v := 1) hx hb dX1_pinsWith_10 (by decide) ?_
  refine lv_icmp_ne (tgt := 18) hx hb dX1_pinsWith_11 (by decide) (fun c_11 => ?_) (fun c_11 => ?_)
  · refine lv_iconst (v := 0) hx hb dX1_pinsWith_18 (by decide) ?_
    refine lv_istore (lv' := [(4, .int 0), (0, .ref (ad 0)), (1, .int (nI k)), (2, .int t), (3, .int (nI d))]) hx hb dX1_pinsWith_19 hl (by decide) rfl (fun ls hl => ?_)
    refine lv_iload hx hb dX1_pinsWith_21 (lv_at hl 0 rfl) ?_
    refine lv_if_eq (tgt := 37) hx hb dX1_pinsWith_23 (by decide) (fun c_23 => ?_) (fun c_23 => absurd c_23 (by decide))
    refine lv_aload_n hx hb dX1_pinsWith_37 rfl (lv_at hl 1 rfl) ?_
    refine va_get (D := D) (ci := 1) (v := .ref (ad 5)) (C := RX1) (T := TX1) (N := 8) hx hb hts hinX1 hown hK.1 hP 0 rfl rfl 4 (by decide) hf24 (fun _ h9 => h9) rfl dX1_pinsWith_38 ?_
    refine lv_iload_n hx hb dX1_pinsWith_41 rfl (lv_at hl 4 rfl) ?_
    refine kc_ald (i := d) (n := 8) hx hb hK hP 5 0 rfl rfl (by omega) (by decide) dX1_pinsWith_42 ?_
    exact W.iret (v := pw d) hx hb hr (fun tZ htZ hWZ => ⟨_, rfl, (by simp only [jPinsWith, if_neg c_11]), htZ⟩) hS.2.2 dX1_pinsWith_43
  · refine lv_iconst (v := 1) hx hb dX1_pinsWith_14 (by decide) ?_
    refine lv_goto (tgt := 19) hx hb dX1_pinsWith_15 (by decide) ?_
    refine lv_istore (lv' := [(4, .int 1), (0, .ref (ad 0)), (1, .int (nI k)), (2, .int t), (3, .int (nI d))]) hx hb dX1_pinsWith_19 hl (by decide) rfl (fun ls hl => ?_)
    refine lv_iload hx hb dX1_pinsWith_21 (lv_at hl 0 rfl) ?_
    refine lv_if_eq (tgt := 37) hx hb dX1_pinsWith_23 (by decide) (fun c_23 => absurd c_23 (by decide)) (fun c_23 => ?_)
    refine lv_aload_n hx hb dX1_pinsWith_26 rfl (lv_at hl 1 rfl) ?_
    refine va_get (D := D) (ci := 1) (v := .ref (ad 5)) (C := RX1) (T := TX1) (N := 8) hx hb hts hinX1 hown hK.1 hP 0 rfl rfl 4 (by decide) hf24 (fun _ h9 => h9) rfl dX1_pinsWith_27 ?_
    refine lv_iload_n hx hb dX1_pinsWith_30 rfl (lv_at hl 4 rfl) ?_
    refine kc_ald (i := d) (n := 8) hx hb hK hP 5 0 rfl rfl (by omega) (by decide) dX1_pinsWith_31 ?_
    refine lv_iload_n hx hb dX1_pinsWith_32 rfl (lv_at hl 3 rfl) ?_
    refine lv_ior hx hb dX1_pinsWith_33 ?_
    refine lv_goto (tgt := 43) hx hb dX1_pinsWith_34 (by decide) ?_
    exact W.iret (v := (pw d) ||| t) hx hb hr (fun tZ htZ hWZ => ⟨_, rfl, (by simp only [jPinsWith, if_pos c_11]), htZ⟩) hS.2.2 dX1_pinsWith_43
set_option maxHeartbeats 4000000 in
set_option maxRecDepth 100000 in
theorem c_X1_oldCodeOpens (l : Launch) (D : va_G) (ad : Nat → Nat) (cI : ClassId) (cd : Nat → Int32) (te : Nat → Int32) (ri : Nat → Int32) (pi : Nat → Int32) (pw : Nat → Int32) (K : Nat) (Dn : Nat) (mv : Int32) (k : Nat) (t : Int32) (hD8 : Dn ≤ 8) (hk : k < 8) : Met l yX1_oldCodeOpens wsX1_oldCodeOpens ({ frames := 1, cells := 0, slots := 0, locals := 24 } : Room) (rdP [.ref (ad 0), .int (nI k), .int t] D (wPl ad cI cd te ri pi pw K Dn mv) [(cI, .int)]) (vp_Si (fun rZ => rZ = bI (jOldOpens ri pw te k t Dn))) 0 0 (fun _ => False) := by
  refine Met.ofW (cc := cX1_oldCodeOpens) (maxL := 4) (ret := (some .boolean)) (by decide) rfl ?_
  intro p e s m args below meth c s₁ B hml hv
  obtain ⟨rfl, hP, hK⟩ := hv
  have hx := B.exec
  have hb := B.bytes
  have hr := B.returns
  have hts := atoms_spec (ws := wsX1_oldCodeOpens) B.pre
  have hown : s.vm.findClass RX1 = some m.cls := findClass_of_methodNamed B.named
  have hlocks := B.notSynchronized
  have hS : va_S (fun _ => False) s.heap s.heap [] := va_S.rf
  have hinX1 : ∀ w ∈ u_ws RX1 TX1 8, w ∈ wsX1_oldCodeOpens := by decide +kernel
  have hf31 := hts (.fieldLink RX1 31 "KeyCabinet$Plan" "doors" "I") (by decide +kernel)
  have hf15 := hts (.fieldLink RX1 15 "KeyCabinet$Plan" "teethOf" "[I") (by decide +kernel)
  have hl := lv_entry ([.ref (ad 0), .int (nI k), .int t]) (n := 4) (Nat.le_of_ble_eq_true rfl)
  rw [lg_entry_eq]
  generalize (lg_sl ([.ref (ad 0), .int (nI k), .int t]) ++ List.replicate (4 - (lg_sl ([.ref (ad 0), .int (nI k), .int t])).length) Slot.unset).toArray = ls at hl ⊢
  have hl : lv_has ls 4 [(0, .ref (ad 0)), (1, .int (nI k)), (2, .int t)] := hl
  refine lv_iconst (v := 0) hx hb dX1_oldCodeOpens_0 (by decide) ?_
  refine lv_istore_n (lv' := [(3, .int 0), (0, .ref (ad 0)), (1, .int (nI k)), (2, .int t)]) hx hb dX1_oldCodeOpens_1 rfl hl (by decide) rfl (fun ls hl => ?_)
  refine kc_forW (pc := 2) (N := Dn) (P := fun j ls => lv_has ls 4 [(3, .int (nI j)), (0, .ref (ad 0)), (1, .int (nI k)), (2, .int t)] ∧ ∀ i, i < j → ¬ jContains (jPinsWith ri pw k t i) (te k) = true) (fun j ls hj_2 hp ih_2 => ?_) ls ?_
  · obtain ⟨hl, he_2⟩ := hp
    refine lv_iload_n hx hb dX1_oldCodeOpens_2 rfl (lv_at hl 0 rfl) ?_
    refine lv_aload_n hx hb dX1_oldCodeOpens_3 rfl (lv_at hl 1 rfl) ?_
    refine va_get (D := D) (ci := 1) (v := .int (nI Dn)) (C := RX1) (T := TX1) (N := 8) hx hb hts hinX1 hown hK.1 hP 0 rfl rfl 6 (by decide) hf31 (fun _ h9 => h9) rfl dX1_oldCodeOpens_4 ?_
    refine kc_tst (j := j) (N := Dn) (tgt := 37) hx hb dX1_oldCodeOpens_7 (by decide) hj_2 (by omega) (fun hN => ?_) (fun hlt_2 => ?_)
    · subst hN
      refine lv_iconst (v := 0) hx hb dX1_oldCodeOpens_37 (by decide) ?_
      exact W.zret (v := 0) hx hb hr rfl (fun tZ htZ hWZ => ⟨_, rfl, (bI_f (jAny_f he_2)).symm, htZ⟩) hS.2.2 dX1_oldCodeOpens_38
    · refine lv_aload_n hx hb dX1_oldCodeOpens_10 rfl (lv_at hl 1 rfl) ?_
      refine lv_iload_n hx hb dX1_oldCodeOpens_11 rfl (lv_at hl 2 rfl) ?_
      refine lv_iload_n hx hb dX1_oldCodeOpens_12 rfl (lv_at hl 3 rfl) ?_
      refine lv_iload_n hx hb dX1_oldCodeOpens_13 rfl (lv_at hl 0 rfl) ?_
      refine kc_rVi (As := [.int (nI k), .int t, .int (nI j)]) (rest := []) ⟨hx, hb, hml, hown, hts⟩ (c_X1_pinsWith l D ad cI cd te ri pi pw K Dn mv k t j (by first | assumption | omega)) (cwV 3 hts gX1_oldCodeOpens_X1_pinsWith rfl rfl rfl (by decide +kernel) ⟨Nat.le_of_ble_eq_true rfl, Nat.le_of_ble_eq_true rfl⟩) hK hP [0, 1, 2, 3, 4, 5] [0] rfl rfl 0 rfl rfl rfl rfl hl.1 rfl (Nat.le_of_ble_eq_true rfl) dX1_oldCodeOpens_14 ⟨Nat.le_of_ble_eq_true rfl, Nat.le_of_ble_eq_true rfl⟩ ?_
      refine lv_aload_n hx hb dX1_oldCodeOpens_17 rfl (lv_at hl 1 rfl) ?_
      refine va_get (D := D) (ci := 1) (v := .ref (ad 2)) (C := RX1) (T := TX1) (N := 8) hx hb hts hinX1 hown hK.1 hP 0 rfl rfl 1 (by decide) hf15 (fun _ h9 => h9) rfl dX1_oldCodeOpens_18 ?_
      refine lv_iload_n hx hb dX1_oldCodeOpens_21 rfl (lv_at hl 2 rfl) ?_
      refine kc_ald (i := k) (n := 8) hx hb hK hP 2 0 rfl rfl (by omega) (by decide) dX1_oldCodeOpens_22 ?_
      refine kc_rNi (host := "KeyCabinet") (As := [.int (jPinsWith ri pw k t j), .int (te k)]) (rest := []) ⟨hx, hb, hml, hown, hts⟩ (c_X2_contains l (jPinsWith ri pw k t j) (te k) ) (va_cnB 2 hts gX1_oldCodeOpens_X2_contains_n57 rfl rfl rfl hK.2 (hts (.initialized RX2) (by decide +kernel)) (by decide +kernel) ⟨Nat.le_of_ble_eq_true rfl, Nat.le_of_ble_eq_true rfl⟩) (hts (.static yX2_contains) (by decide +kernel)) rfl hl.1 rfl (Nat.le_of_ble_eq_true rfl) dX1_oldCodeOpens_23 ⟨Nat.le_of_ble_eq_true rfl, Nat.le_of_ble_eq_true rfl⟩ ?_
      refine kc_ifeqB (tgt := 31) hx hb dX1_oldCodeOpens_26 (by decide) (fun c_26 => ?_) (fun c_26 => ?_)
      · refine lv_iinc (v := nI (j + 1)) (lv' := [(3, .int (nI (j + 1))), (0, .ref (ad 0)), (1, .int (nI k)), (2, .int t)]) hx hb dX1_oldCodeOpens_31 hl (k := 0) rfl (kc_inc j) (by decide) rfl (fun ls hl => ?_)
        refine lv_goto (tgt := 2) hx hb dX1_oldCodeOpens_34 (by decide) ?_
        refine ih_2 _ hlt_2 ?_
        show lv_has _ 4 [(3, .int (nI (j + 1))), (0, .ref (ad 0)), (1, .int (nI k)), (2, .int t)] ∧ ∀ i, i < (j + 1) → ¬ jContains (jPinsWith ri pw k t i) (te k) = true
        exact ⟨lv_sub hl [0, 1, 2, 3] rfl, lt_s he_2 c_26⟩
      · refine lv_iconst (v := 1) hx hb dX1_oldCodeOpens_29 (by decide) ?_
        exact W.zret (v := 1) hx hb hr rfl (fun tZ htZ hWZ => ⟨_, rfl, (bI_t (jAny_t j hlt_2 c_26)).symm, htZ⟩) hS.2.2 dX1_oldCodeOpens_30
  · exact ⟨lv_sub hl [0, 1, 2, 3] rfl, (fun _ h => absurd h (Nat.not_lt_zero _))⟩
set_option maxHeartbeats 4000000 in
set_option maxRecDepth 100000 in
theorem c_X1_straysWith (l : Launch) (D : va_G) (ad : Nat → Nat) (cI : ClassId) (cd : Nat → Int32) (te : Nat → Int32) (ri : Nat → Int32) (pi : Nat → Int32) (pw : Nat → Int32) (K : Nat) (Dn : Nat) (mv : Int32) (k : Nat) (t : Int32) (mo : Int32) (hK8 : K ≤ 8) (hD8 : Dn ≤ 8) : Met l yX1_straysWith wsX1_straysWith ({ frames := 1, cells := 0, slots := 0, locals := 24 } : Room) (rdP [.ref (ad 0), .int (nI k), .int t, .int mo] D (wPl ad cI cd te ri pi pw K Dn mv) [(cI, .int)]) (vp_Si (fun rZ => rZ = jStraysWith ri pw te k t mo K Dn)) 0 0 (fun _ => False) := by
  refine Met.ofW (cc := cX1_straysWith) (maxL := 9) (ret := (some .int)) (by decide) rfl ?_
  intro p e s m args below meth c s₁ B hml hv
  obtain ⟨rfl, hP, hK⟩ := hv
  have hx := B.exec
  have hb := B.bytes
  have hr := B.returns
  have hts := atoms_spec (ws := wsX1_straysWith) B.pre
  have hown : s.vm.findClass RX1 = some m.cls := findClass_of_methodNamed B.named
  have hlocks := B.notSynchronized
  have hS : va_S (fun _ => False) s.heap s.heap [] := va_S.rf
  have hinX1 : ∀ w ∈ u_ws RX1 TX1 8, w ∈ wsX1_straysWith := by decide +kernel
  have hf31 := hts (.fieldLink RX1 31 "KeyCabinet$Plan" "doors" "I") (by decide +kernel)
  have hf27 := hts (.fieldLink RX1 27 "KeyCabinet$Plan" "keys" "I") (by decide +kernel)
  have hf18 := hts (.fieldLink RX1 18 "KeyCabinet$Plan" "rightsOf" "[I") (by decide +kernel)
  have hf15 := hts (.fieldLink RX1 15 "KeyCabinet$Plan" "teethOf" "[I") (by decide +kernel)
  have hl := lv_entry ([.ref (ad 0), .int (nI k), .int t, .int mo]) (n := 9) (Nat.le_of_ble_eq_true rfl)
  rw [lg_entry_eq]
  generalize (lg_sl ([.ref (ad 0), .int (nI k), .int t, .int mo]) ++ List.replicate (9 - (lg_sl ([.ref (ad 0), .int (nI k), .int t, .int mo])).length) Slot.unset).toArray = ls at hl ⊢
  have hl : lv_has ls 9 [(0, .ref (ad 0)), (1, .int (nI k)), (2, .int t), (3, .int mo)] := hl
  refine lv_iconst (v := 0) hx hb dX1_straysWith_0 (by decide) ?_
  refine lv_istore (lv' := [(4, .int 0), (0, .ref (ad 0)), (1, .int (nI k)), (2, .int t), (3, .int mo)]) hx hb dX1_straysWith_1 hl (by decide) rfl (fun ls hl => ?_)
  refine lv_iconst (v := 0) hx hb dX1_straysWith_3 (by decide) ?_
  refine lv_istore (lv' := [(5, .int 0), (4, .int 0), (0, .ref (ad 0)), (1, .int (nI k)), (2, .int t), (3, .int mo)]) hx hb dX1_straysWith_4 hl (by decide) rfl (fun ls hl => ?_)
  refine kc_forW (pc := 6) (N := Dn) (P := fun j ls => lv_has ls 9 [(5, .int (nI j)), (4, .int (jStraysWith ri pw te k t mo K j)), (0, .ref (ad 0)), (1, .int (nI k)), (2, .int t), (3, .int mo)]) (fun j ls hj_6 hp ih_6 => ?_) ls ?_
  · have hl := hp
    refine lv_iload hx hb dX1_straysWith_6 (lv_at hl 0 rfl) ?_
    refine lv_aload_n hx hb dX1_straysWith_8 rfl (lv_at hl 2 rfl) ?_
    refine va_get (D := D) (ci := 1) (v := .int (nI Dn)) (C := RX1) (T := TX1) (N := 8) hx hb hts hinX1 hown hK.1 hP 0 rfl rfl 6 (by decide) hf31 (fun _ h9 => h9) rfl dX1_straysWith_9 ?_
    refine kc_tst (j := j) (N := Dn) (tgt := 111) hx hb dX1_straysWith_12 (by decide) hj_6 (by omega) (fun hN => ?_) (fun hlt_6 => ?_)
    · subst hN
      refine lv_iload hx hb dX1_straysWith_111 (lv_at hl 1 rfl) ?_
      exact W.iret (v := jStraysWith ri pw te k t mo K Dn) hx hb hr (fun tZ htZ hWZ => ⟨_, rfl, rfl, htZ⟩) hS.2.2 dX1_straysWith_113
    · refine lv_iload hx hb dX1_straysWith_15 (lv_at hl 1 rfl) ?_
      refine lv_iload_n hx hb dX1_straysWith_17 rfl (lv_at hl 5 rfl) ?_
      refine lv_icmp_gt (tgt := 111) hx hb dX1_straysWith_18 (by decide) (fun c_18 => ?_) (fun c_18 => ?_)
      · refine lv_iload hx hb dX1_straysWith_111 (lv_at hl 1 rfl) ?_
        exact W.iret (v := jStraysWith ri pw te k t mo K j) hx hb hr (fun tZ htZ hWZ => ⟨_, rfl, (fo_stuck (f := fun d c => if mo < c then c else jStrayIn ri pw te k t d c K) rfl (fun d _ => if_pos c_18) Dn hj_6).symm, htZ⟩) hS.2.2 dX1_straysWith_113
      · refine lv_aload_n hx hb dX1_straysWith_21 rfl (lv_at hl 2 rfl) ?_
        refine lv_iload_n hx hb dX1_straysWith_22 rfl (lv_at hl 3 rfl) ?_
        refine lv_iload_n hx hb dX1_straysWith_23 rfl (lv_at hl 4 rfl) ?_
        refine lv_iload hx hb dX1_straysWith_24 (lv_at hl 0 rfl) ?_
        refine kc_rVi (As := [.int (nI k), .int t, .int (nI j)]) (rest := []) ⟨hx, hb, hml, hown, hts⟩ (c_X1_pinsWith l D ad cI cd te ri pi pw K Dn mv k t j (by first | assumption | omega)) (cwV 3 hts gX1_straysWith_X1_pinsWith rfl rfl rfl (by decide +kernel) ⟨Nat.le_of_ble_eq_true rfl, Nat.le_of_ble_eq_true rfl⟩) hK hP [0, 1, 2, 3, 4, 5] [0] rfl rfl 0 rfl rfl rfl rfl hl.1 rfl (Nat.le_of_ble_eq_true rfl) dX1_straysWith_26 ⟨Nat.le_of_ble_eq_true rfl, Nat.le_of_ble_eq_true rfl⟩ ?_
        refine lv_istore (lv' := [(6, .int (jPinsWith ri pw k t j)), (5, .int (nI j)), (4, .int (jStraysWith ri pw te k t mo K j)), (0, .ref (ad 0)), (1, .int (nI k)), (2, .int t), (3, .int mo)]) hx hb dX1_straysWith_29 hl (by decide) rfl (fun ls hl => ?_)
        refine lv_iconst (v := 0) hx hb dX1_straysWith_31 (by decide) ?_
        refine lv_istore (lv' := [(7, .int 0), (6, .int (jPinsWith ri pw k t j)), (5, .int (nI j)), (4, .int (jStraysWith ri pw te k t mo K j)), (0, .ref (ad 0)), (1, .int (nI k)), (2, .int t), (3, .int mo)]) hx hb dX1_straysWith_32 hl (by decide) rfl (fun ls hl => ?_)
        refine kc_forW (pc := 34) (N := K) (P := fun o ls => lv_has ls 9 [(7, .int (nI o)), (6, .int (jPinsWith ri pw k t j)), (5, .int (nI j)), (4, .int (jStrayIn ri pw te k t j (jStraysWith ri pw te k t mo K j) o)), (0, .ref (ad 0)), (1, .int (nI k)), (2, .int t), (3, .int mo)]) (fun o ls hj_34 hp ih_34 => ?_) ls ?_
        · have hl := hp
          refine lv_iload hx hb dX1_straysWith_34 (lv_at hl 0 rfl) ?_
          refine lv_aload_n hx hb dX1_straysWith_36 rfl (lv_at hl 4 rfl) ?_
          refine va_get (D := D) (ci := 1) (v := .int (nI K)) (C := RX1) (T := TX1) (N := 8) hx hb hts hinX1 hown hK.1 hP 0 rfl rfl 5 (by decide) hf27 (fun _ h9 => h9) rfl dX1_straysWith_37 ?_
          refine kc_tst (j := o) (N := K) (tgt := 105) hx hb dX1_straysWith_40 (by decide) hj_34 (by omega) (fun hN => ?_) (fun hlt_34 => ?_)
          · subst hN
            refine lv_iinc (v := nI (j + 1)) (lv' := [(5, .int (nI (j + 1))), (7, .int (nI K)), (6, .int (jPinsWith ri pw k t j)), (4, .int (jStrayIn ri pw te k t j (jStraysWith ri pw te k t mo K j) K)), (0, .ref (ad 0)), (1, .int (nI k)), (2, .int t), (3, .int mo)]) hx hb dX1_straysWith_105 hl (k := 2) rfl (kc_inc j) (by decide) rfl (fun ls hl => ?_)
            refine lv_goto (tgt := 6) hx hb dX1_straysWith_108 (by decide) ?_
            refine ih_6 _ hlt_6 ?_
            have eq_4 : jStraysWith ri pw te k t mo K (j + 1) = jStrayIn ri pw te k t j (jStraysWith ri pw te k t mo K j) K := if_neg c_18
            show lv_has _ 9 [(5, .int (nI (j + 1))), (4, .int (jStraysWith ri pw te k t mo K (j + 1))), (0, .ref (ad 0)), (1, .int (nI k)), (2, .int t), (3, .int mo)]
            rw [eq_4]
            exact lv_sub hl [0, 3, 4, 5, 6, 7] rfl
          · refine lv_aload_n hx hb dX1_straysWith_43 rfl (lv_at hl 4 rfl) ?_
            refine va_get (D := D) (ci := 1) (v := .ref (ad 3)) (C := RX1) (T := TX1) (N := 8) hx hb hts hinX1 hown hK.1 hP 0 rfl rfl 2 (by decide) hf18 (fun _ h9 => h9) rfl dX1_straysWith_44 ?_
            refine lv_iload hx hb dX1_straysWith_47 (lv_at hl 2 rfl) ?_
            refine kc_ald (i := j) (n := 8) hx hb hK hP 3 0 rfl rfl (by omega) (by decide) dX1_straysWith_49 ?_
            refine lv_iload hx hb dX1_straysWith_50 (lv_at hl 0 rfl) ?_
            refine lv_ishr hx hb dX1_straysWith_52 ?_
            refine lv_iconst (v := 1) hx hb dX1_straysWith_53 (by decide) ?_
            refine lv_iand hx hb dX1_straysWith_54 ?_
            refine lv_iconst (v := 1) hx hb dX1_straysWith_55 (by decide) ?_
            refine lv_icmp_ne (tgt := 63) hx hb dX1_straysWith_56 (by decide) (fun c_56 => ?_) (fun c_56 => ?_)
            · refine lv_iconst (v := 0) hx hb dX1_straysWith_63 (by decide) ?_
              refine lv_istore (lv' := [(8, .int 0), (7, .int (nI o)), (6, .int (jPinsWith ri pw k t j)), (5, .int (nI j)), (4, .int (jStrayIn ri pw te k t j (jStraysWith ri pw te k t mo K j) o)), (0, .ref (ad 0)), (1, .int (nI k)), (2, .int t), (3, .int mo)]) hx hb dX1_straysWith_64 hl (by decide) rfl (fun ls hl => ?_)
              refine lv_iload hx hb dX1_straysWith_66 (lv_at hl 0 rfl) ?_
              refine lv_if_ne (tgt := 99) hx hb dX1_straysWith_68 (by decide) (fun c_68 => absurd c_68 (by decide)) (fun c_68 => ?_)
              refine lv_iload hx hb dX1_straysWith_71 (lv_at hl 2 rfl) ?_
              refine lv_iload hx hb dX1_straysWith_73 (lv_at hl 1 rfl) ?_
              refine lv_iload_n hx hb dX1_straysWith_75 rfl (lv_at hl 6 rfl) ?_
              refine lv_icmp_ne (tgt := 83) hx hb dX1_straysWith_76 (by decide) (fun c_76 => ?_) (fun c_76 => ?_)
              · refine lv_aload_n hx hb dX1_straysWith_83 rfl (lv_at hl 5 rfl) ?_
                refine va_get (D := D) (ci := 1) (v := .ref (ad 2)) (C := RX1) (T := TX1) (N := 8) hx hb hts hinX1 hown hK.1 hP 0 rfl rfl 1 (by decide) hf15 (fun _ h9 => h9) rfl dX1_straysWith_84 ?_
                refine lv_iload hx hb dX1_straysWith_87 (lv_at hl 1 rfl) ?_
                refine kc_ald (i := o) (n := 8) hx hb hK hP 2 0 rfl rfl (by omega) (by decide) dX1_straysWith_89 ?_
                refine kc_rNi (host := "KeyCabinet") (As := [.int (jPinsWith ri pw k t j), .int (te o)]) (rest := []) ⟨hx, hb, hml, hown, hts⟩ (c_X2_contains l (jPinsWith ri pw k t j) (te o) ) (va_cnB 2 hts gX1_straysWith_X2_contains_n57 rfl rfl rfl hK.2 (hts (.initialized RX2) (by decide +kernel)) (by decide +kernel) ⟨Nat.le_of_ble_eq_true rfl, Nat.le_of_ble_eq_true rfl⟩) (hts (.static yX2_contains) (by decide +kernel)) rfl hl.1 rfl (Nat.le_of_ble_eq_true rfl) dX1_straysWith_90 ⟨Nat.le_of_ble_eq_true rfl, Nat.le_of_ble_eq_true rfl⟩ ?_
                refine kc_ifeqB (tgt := 99) hx hb dX1_straysWith_93 (by decide) (fun c_93 => ?_) (fun c_93 => ?_)
                · refine lv_iinc (v := nI (o + 1)) (lv' := [(7, .int (nI (o + 1))), (8, .int 0), (6, .int (jPinsWith ri pw k t j)), (5, .int (nI j)), (4, .int (jStrayIn ri pw te k t j (jStraysWith ri pw te k t mo K j) o)), (0, .ref (ad 0)), (1, .int (nI k)), (2, .int t), (3, .int mo)]) hx hb dX1_straysWith_99 hl (k := 1) rfl (kc_inc o) (by decide) rfl (fun ls hl => ?_)
                  refine lv_goto (tgt := 34) hx hb dX1_straysWith_102 (by decide) ?_
                  refine ih_34 _ hlt_34 ?_
                  have eq_4 : jStrayIn ri pw te k t j (jStraysWith ri pw te k t mo K j) (o + 1) = jStrayIn ri pw te k t j (jStraysWith ri pw te k t mo K j) o := by simp only [jStrayIn, fo_s, if_neg c_18, if_neg c_56, if_neg c_76, if_neg c_93]
                  show lv_has _ 9 [(7, .int (nI (o + 1))), (6, .int (jPinsWith ri pw k t j)), (5, .int (nI j)), (4, .int (jStrayIn ri pw te k t j (jStraysWith ri pw te k t mo K j) (o + 1))), (0, .ref (ad 0)), (1, .int (nI k)), (2, .int t), (3, .int mo)]
                  rw [eq_4]
                  exact lv_sub hl [0, 2, 3, 4, 5, 6, 7, 8] rfl
                · refine lv_iinc (v := (jStrayIn ri pw te k t j (jStraysWith ri pw te k t mo K j) o) + 1) (lv' := [(4, .int ((jStrayIn ri pw te k t j (jStraysWith ri pw te k t mo K j) o) + 1)), (8, .int 0), (7, .int (nI o)), (6, .int (jPinsWith ri pw k t j)), (5, .int (nI j)), (0, .ref (ad 0)), (1, .int (nI k)), (2, .int t), (3, .int mo)]) hx hb dX1_straysWith_96 hl (k := 4) rfl (rfl) (by decide) rfl (fun ls hl => ?_)
                  refine lv_iinc (v := nI (o + 1)) (lv' := [(7, .int (nI (o + 1))), (4, .int ((jStrayIn ri pw te k t j (jStraysWith ri pw te k t mo K j) o) + 1)), (8, .int 0), (6, .int (jPinsWith ri pw k t j)), (5, .int (nI j)), (0, .ref (ad 0)), (1, .int (nI k)), (2, .int t), (3, .int mo)]) hx hb dX1_straysWith_99 hl (k := 2) rfl (kc_inc o) (by decide) rfl (fun ls hl => ?_)
                  refine lv_goto (tgt := 34) hx hb dX1_straysWith_102 (by decide) ?_
                  refine ih_34 _ hlt_34 ?_
                  have eq_4 : jStrayIn ri pw te k t j (jStraysWith ri pw te k t mo K j) (o + 1) = (jStrayIn ri pw te k t j (jStraysWith ri pw te k t mo K j) o) + 1 := by simp only [jStrayIn, fo_s, if_neg c_18, if_neg c_56, if_neg c_76, if_pos c_93]
                  show lv_has _ 9 [(7, .int (nI (o + 1))), (6, .int (jPinsWith ri pw k t j)), (5, .int (nI j)), (4, .int (jStrayIn ri pw te k t j (jStraysWith ri pw te k t mo K j) (o + 1))), (0, .ref (ad 0)), (1, .int (nI k)), (2, .int t), (3, .int mo)]
                  rw [eq_4]
                  exact lv_sub hl [0, 3, 4, 1, 5, 6, 7, 8] rfl
              · refine lv_iload_n hx hb dX1_straysWith_79 rfl (lv_at hl 7 rfl) ?_
                refine lv_goto (tgt := 90) hx hb dX1_straysWith_80 (by decide) ?_
                refine kc_rNi (host := "KeyCabinet") (As := [.int (jPinsWith ri pw k t j), .int t]) (rest := []) ⟨hx, hb, hml, hown, hts⟩ (c_X2_contains l (jPinsWith ri pw k t j) t ) (va_cnB 2 hts gX1_straysWith_X2_contains_n57 rfl rfl rfl hK.2 (hts (.initialized RX2) (by decide +kernel)) (by decide +kernel) ⟨Nat.le_of_ble_eq_true rfl, Nat.le_of_ble_eq_true rfl⟩) (hts (.static yX2_contains) (by decide +kernel)) rfl hl.1 rfl (Nat.le_of_ble_eq_true rfl) dX1_straysWith_90 ⟨Nat.le_of_ble_eq_true rfl, Nat.le_of_ble_eq_true rfl⟩ ?_
                refine kc_ifeqB (tgt := 99) hx hb dX1_straysWith_93 (by decide) (fun c_93 => ?_) (fun c_93 => ?_)
                · refine lv_iinc (v := nI (o + 1)) (lv' := [(7, .int (nI (o + 1))), (8, .int 0), (6, .int (jPinsWith ri pw k t j)), (5, .int (nI j)), (4, .int (jStrayIn ri pw te k t j (jStraysWith ri pw te k t mo K j) o)), (0, .ref (ad 0)), (1, .int (nI k)), (2, .int t), (3, .int mo)]) hx hb dX1_straysWith_99 hl (k := 1) rfl (kc_inc o) (by decide) rfl (fun ls hl => ?_)
                  refine lv_goto (tgt := 34) hx hb dX1_straysWith_102 (by decide) ?_
                  refine ih_34 _ hlt_34 ?_
                  have eq_4 : jStrayIn ri pw te k t j (jStraysWith ri pw te k t mo K j) (o + 1) = jStrayIn ri pw te k t j (jStraysWith ri pw te k t mo K j) o := by simp only [jStrayIn, fo_s, if_neg c_18, if_neg c_56, if_pos c_76, if_neg c_93]
                  show lv_has _ 9 [(7, .int (nI (o + 1))), (6, .int (jPinsWith ri pw k t j)), (5, .int (nI j)), (4, .int (jStrayIn ri pw te k t j (jStraysWith ri pw te k t mo K j) (o + 1))), (0, .ref (ad 0)), (1, .int (nI k)), (2, .int t), (3, .int mo)]
                  rw [eq_4]
                  exact lv_sub hl [0, 2, 3, 4, 5, 6, 7, 8] rfl
                · refine lv_iinc (v := (jStrayIn ri pw te k t j (jStraysWith ri pw te k t mo K j) o) + 1) (lv' := [(4, .int ((jStrayIn ri pw te k t j (jStraysWith ri pw te k t mo K j) o) + 1)), (8, .int 0), (7, .int (nI o)), (6, .int (jPinsWith ri pw k t j)), (5, .int (nI j)), (0, .ref (ad 0)), (1, .int (nI k)), (2, .int t), (3, .int mo)]) hx hb dX1_straysWith_96 hl (k := 4) rfl (rfl) (by decide) rfl (fun ls hl => ?_)
                  refine lv_iinc (v := nI (o + 1)) (lv' := [(7, .int (nI (o + 1))), (4, .int ((jStrayIn ri pw te k t j (jStraysWith ri pw te k t mo K j) o) + 1)), (8, .int 0), (6, .int (jPinsWith ri pw k t j)), (5, .int (nI j)), (0, .ref (ad 0)), (1, .int (nI k)), (2, .int t), (3, .int mo)]) hx hb dX1_straysWith_99 hl (k := 2) rfl (kc_inc o) (by decide) rfl (fun ls hl => ?_)
                  refine lv_goto (tgt := 34) hx hb dX1_straysWith_102 (by decide) ?_
                  refine ih_34 _ hlt_34 ?_
                  have eq_4 : jStrayIn ri pw te k t j (jStraysWith ri pw te k t mo K j) (o + 1) = (jStrayIn ri pw te k t j (jStraysWith ri pw te k t mo K j) o) + 1 := by simp only [jStrayIn, fo_s, if_neg c_18, if_neg c_56, if_pos c_76, if_pos c_93]
                  show lv_has _ 9 [(7, .int (nI (o + 1))), (6, .int (jPinsWith ri pw k t j)), (5, .int (nI j)), (4, .int (jStrayIn ri pw te k t j (jStraysWith ri pw te k t mo K j) (o + 1))), (0, .ref (ad 0)), (1, .int (nI k)), (2, .int t), (3, .int mo)]
                  rw [eq_4]
                  exact lv_sub hl [0, 3, 4, 1, 5, 6, 7, 8] rfl
            · refine lv_iconst (v := 1) hx hb dX1_straysWith_59 (by decide) ?_
              refine lv_goto (tgt := 64) hx hb dX1_straysWith_60 (by decide) ?_
              refine lv_istore (lv' := [(8, .int 1), (7, .int (nI o)), (6, .int (jPinsWith ri pw k t j)), (5, .int (nI j)), (4, .int (jStrayIn ri pw te k t j (jStraysWith ri pw te k t mo K j) o)), (0, .ref (ad 0)), (1, .int (nI k)), (2, .int t), (3, .int mo)]) hx hb dX1_straysWith_64 hl (by decide) rfl (fun ls hl => ?_)
              refine lv_iload hx hb dX1_straysWith_66 (lv_at hl 0 rfl) ?_
              refine lv_if_ne (tgt := 99) hx hb dX1_straysWith_68 (by decide) (fun c_68 => ?_) (fun c_68 => absurd c_68 (by decide))
              refine lv_iinc (v := nI (o + 1)) (lv' := [(7, .int (nI (o + 1))), (8, .int 1), (6, .int (jPinsWith ri pw k t j)), (5, .int (nI j)), (4, .int (jStrayIn ri pw te k t j (jStraysWith ri pw te k t mo K j) o)), (0, .ref (ad 0)), (1, .int (nI k)), (2, .int t), (3, .int mo)]) hx hb dX1_straysWith_99 hl (k := 1) rfl (kc_inc o) (by decide) rfl (fun ls hl => ?_)
              refine lv_goto (tgt := 34) hx hb dX1_straysWith_102 (by decide) ?_
              refine ih_34 _ hlt_34 ?_
              have eq_4 : jStrayIn ri pw te k t j (jStraysWith ri pw te k t mo K j) (o + 1) = jStrayIn ri pw te k t j (jStraysWith ri pw te k t mo K j) o := by simp only [jStrayIn, fo_s, if_neg c_18, if_pos c_56]
              show lv_has _ 9 [(7, .int (nI (o + 1))), (6, .int (jPinsWith ri pw k t j)), (5, .int (nI j)), (4, .int (jStrayIn ri pw te k t j (jStraysWith ri pw te k t mo K j) (o + 1))), (0, .ref (ad 0)), (1, .int (nI k)), (2, .int t), (3, .int mo)]
              rw [eq_4]
              exact lv_sub hl [0, 2, 3, 4, 5, 6, 7, 8] rfl
        · exact lv_sub hl [0, 1, 2, 3, 4, 5, 6, 7] rfl
  · exact lv_sub hl [0, 1, 2, 3, 4, 5] rfl
set_option maxHeartbeats 4000000 in
set_option maxRecDepth 100000 in
theorem c_X1_workWith (l : Launch) (D : va_G) (ad : Nat → Nat) (cI : ClassId) (cd : Nat → Int32) (te : Nat → Int32) (ri : Nat → Int32) (pi : Nat → Int32) (pw : Nat → Int32) (K : Nat) (Dn : Nat) (mv : Int32) (k : Nat) (t : Int32) (hD8 : Dn ≤ 8) : Met l yX1_workWith wsX1_workWith ({ frames := 1, cells := 0, slots := 0, locals := 24 } : Room) (rdP [.ref (ad 0), .int (nI k), .int t] D (wPl ad cI cd te ri pi pw K Dn mv) [(cI, .int)]) (vp_Si (fun rZ => rZ = jWorkWith ri pi pw k t Dn)) 0 0 (fun _ => False) := by
  refine Met.ofW (cc := cX1_workWith) (maxL := 5) (ret := (some .int)) (by decide) rfl ?_
  intro p e s m args below meth c s₁ B hml hv
  obtain ⟨rfl, hP, hK⟩ := hv
  have hx := B.exec
  have hb := B.bytes
  have hr := B.returns
  have hts := atoms_spec (ws := wsX1_workWith) B.pre
  have hown : s.vm.findClass RX1 = some m.cls := findClass_of_methodNamed B.named
  have hlocks := B.notSynchronized
  have hS : va_S (fun _ => False) s.heap s.heap [] := va_S.rf
  have hinX1 : ∀ w ∈ u_ws RX1 TX1 8, w ∈ wsX1_workWith := by decide +kernel
  have hf31 := hts (.fieldLink RX1 31 "KeyCabinet$Plan" "doors" "I") (by decide +kernel)
  have hf21 := hts (.fieldLink RX1 21 "KeyCabinet$Plan" "pinsOf" "[I") (by decide +kernel)
  have hl := lv_entry ([.ref (ad 0), .int (nI k), .int t]) (n := 5) (Nat.le_of_ble_eq_true rfl)
  rw [lg_entry_eq]
  generalize (lg_sl ([.ref (ad 0), .int (nI k), .int t]) ++ List.replicate (5 - (lg_sl ([.ref (ad 0), .int (nI k), .int t])).length) Slot.unset).toArray = ls at hl ⊢
  have hl : lv_has ls 5 [(0, .ref (ad 0)), (1, .int (nI k)), (2, .int t)] := hl
  refine lv_iconst (v := 0) hx hb dX1_workWith_0 (by decide) ?_
  refine lv_istore_n (lv' := [(3, .int 0), (0, .ref (ad 0)), (1, .int (nI k)), (2, .int t)]) hx hb dX1_workWith_1 rfl hl (by decide) rfl (fun ls hl => ?_)
  refine lv_iconst (v := 0) hx hb dX1_workWith_2 (by decide) ?_
  refine lv_istore (lv' := [(4, .int 0), (3, .int 0), (0, .ref (ad 0)), (1, .int (nI k)), (2, .int t)]) hx hb dX1_workWith_3 hl (by decide) rfl (fun ls hl => ?_)
  refine kc_forW (pc := 5) (N := Dn) (P := fun j ls => lv_has ls 5 [(4, .int (nI j)), (3, .int (jWorkWith ri pi pw k t j)), (0, .ref (ad 0)), (1, .int (nI k)), (2, .int t)]) (fun j ls hj_5 hp ih_5 => ?_) ls ?_
  · have hl := hp
    refine lv_iload hx hb dX1_workWith_5 (lv_at hl 0 rfl) ?_
    refine lv_aload_n hx hb dX1_workWith_7 rfl (lv_at hl 2 rfl) ?_
    refine va_get (D := D) (ci := 1) (v := .int (nI Dn)) (C := RX1) (T := TX1) (N := 8) hx hb hts hinX1 hown hK.1 hP 0 rfl rfl 6 (by decide) hf31 (fun _ h9 => h9) rfl dX1_workWith_8 ?_
    refine kc_tst (j := j) (N := Dn) (tgt := 42) hx hb dX1_workWith_11 (by decide) hj_5 (by omega) (fun hN => ?_) (fun hlt_5 => ?_)
    · subst hN
      refine lv_iload_n hx hb dX1_workWith_42 rfl (lv_at hl 1 rfl) ?_
      exact W.iret (v := jWorkWith ri pi pw k t Dn) hx hb hr (fun tZ htZ hWZ => ⟨_, rfl, rfl, htZ⟩) hS.2.2 dX1_workWith_43
    · refine lv_iload_n hx hb dX1_workWith_14 rfl (lv_at hl 1 rfl) ?_
      refine lv_aload_n hx hb dX1_workWith_15 rfl (lv_at hl 2 rfl) ?_
      refine va_get (D := D) (ci := 1) (v := .ref (ad 4)) (C := RX1) (T := TX1) (N := 8) hx hb hts hinX1 hown hK.1 hP 0 rfl rfl 3 (by decide) hf21 (fun _ h9 => h9) rfl dX1_workWith_16 ?_
      refine lv_iload hx hb dX1_workWith_19 (lv_at hl 0 rfl) ?_
      refine kc_ald (i := j) (n := 8) hx hb hK hP 4 0 rfl rfl (by omega) (by decide) dX1_workWith_21 ?_
      refine lv_aload_n hx hb dX1_workWith_22 rfl (lv_at hl 2 rfl) ?_
      refine lv_iload_n hx hb dX1_workWith_23 rfl (lv_at hl 3 rfl) ?_
      refine lv_iload_n hx hb dX1_workWith_24 rfl (lv_at hl 4 rfl) ?_
      refine lv_iload hx hb dX1_workWith_25 (lv_at hl 0 rfl) ?_
      refine kc_rVi (As := [.int (nI k), .int t, .int (nI j)]) (rest := [.int (pi j), .int (jWorkWith ri pi pw k t j)]) ⟨hx, hb, hml, hown, hts⟩ (c_X1_pinsWith l D ad cI cd te ri pi pw K Dn mv k t j (by first | assumption | omega)) (cwV 3 hts gX1_workWith_X1_pinsWith rfl rfl rfl (by decide +kernel) ⟨Nat.le_of_ble_eq_true rfl, Nat.le_of_ble_eq_true rfl⟩) hK hP [0, 1, 2, 3, 4, 5] [0] rfl rfl 0 rfl rfl rfl rfl hl.1 rfl (Nat.le_of_ble_eq_true rfl) dX1_workWith_27 ⟨Nat.le_of_ble_eq_true rfl, Nat.le_of_ble_eq_true rfl⟩ ?_
      refine lv_ixor hx hb dX1_workWith_30 ?_
      refine kc_rSi (As := [.int ((pi j) ^^^ (jPinsWith ri pw k t j))]) (rest := [.int (jWorkWith ri pi pw k t j)]) ⟨hx, hb, hml, hown, hts⟩ (c_J6_bitCount_0f7a4 l ((pi j) ^^^ (jPinsWith ri pw k t j)) ) (va_cwS 1 hts gX1_workWith_J6_bitCount_0f7a4 rfl rfl rfl (by decide +kernel) ⟨Nat.le_of_ble_eq_true rfl, Nat.le_of_ble_eq_true rfl⟩) rfl hl.1 rfl (Nat.le_of_ble_eq_true rfl) dX1_workWith_31 ⟨Nat.le_of_ble_eq_true rfl, Nat.le_of_ble_eq_true rfl⟩ ?_
      refine lv_iadd hx hb dX1_workWith_34 ?_
      refine lv_istore_n (lv' := [(3, .int ((jWorkWith ri pi pw k t j) + (jPop ((pi j) ^^^ (jPinsWith ri pw k t j))))), (4, .int (nI j)), (0, .ref (ad 0)), (1, .int (nI k)), (2, .int t)]) hx hb dX1_workWith_35 rfl hl (by decide) rfl (fun ls hl => ?_)
      refine lv_iinc (v := nI (j + 1)) (lv' := [(4, .int (nI (j + 1))), (3, .int ((jWorkWith ri pi pw k t j) + (jPop ((pi j) ^^^ (jPinsWith ri pw k t j))))), (0, .ref (ad 0)), (1, .int (nI k)), (2, .int t)]) hx hb dX1_workWith_36 hl (k := 1) rfl (kc_inc j) (by decide) rfl (fun ls hl => ?_)
      refine lv_goto (tgt := 5) hx hb dX1_workWith_39 (by decide) ?_
      refine ih_5 _ hlt_5 ?_
      have eq_3 : jWorkWith ri pi pw k t (j + 1) = (jWorkWith ri pi pw k t j) + (jPop ((pi j) ^^^ (jPinsWith ri pw k t j))) := rfl
      show lv_has _ 5 [(4, .int (nI (j + 1))), (3, .int (jWorkWith ri pi pw k t (j + 1))), (0, .ref (ad 0)), (1, .int (nI k)), (2, .int t)]
      rw [eq_3]
      exact lv_sub hl [0, 1, 2, 3, 4] rfl
  · exact lv_sub hl [0, 1, 2, 3, 4] rfl
