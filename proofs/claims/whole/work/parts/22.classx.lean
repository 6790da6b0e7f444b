set_option maxHeartbeats 4000000 in
set_option maxRecDepth 100000 in
theorem c_X2_needKey_x (l : Launch) (hlf : l.stackTraces = false) (D : va_G) (ad : Nat → Nat) (cI : ClassId) (cd : Nat → Int32) (te : Nat → Int32) (ri : Nat → Int32) (pi : Nat → Int32) (pw : Nat → Int32) (K : Nat) (Dn : Nat) (mv : Int32) (ko : Nat → Int32) (so : Nat → Int32) (tl : Nat → Int32) (lp : Nat → Int32) (lb : Nat → Int32) (ld : Nat → Int32) (le : Nat → Int32) (C : Nat) (cl : Nat → Int32) (dq : Nat → Int32) (dy : Int32) (x : Int32) (sz : Nat) (hBad : ¬ jIn K x = true) : vx_Met l yX2_needKey wsX2_needKey ({ frames := 6, cells := 1, slots := 6, locals := 90 } : Room) (xrP [.ref (ad 14), .int x] D sz (wKc ad cI cd te ri pi pw K Dn mv ko so tl lp lb ld le C cl dq dy) [(cI, .int)]) xrN (xrX "java/lang/IndexOutOfBoundsException" sz) 1 6 (fun q => sz ≤ q) := by
  refine vx_ofW (cc := cX2_needKey) (maxL := 2) (ret := none) (by decide) rfl ?_
  intro p e s m args below meth c s₁ B hml hex hv
  obtain ⟨rfl, hsz, hP, hK, hX⟩ := hv
  have hx := B.exec
  have hb := B.bytes
  have hr := B.returns
  have hts := atoms_spec (ws := wsX2_needKey) B.pre
  have hown : s.vm.findClass RX2 = some m.cls := findClass_of_methodNamed B.named
  have hlocks := B.notSynchronized
  subst hsz
  have hS : va_S (fun q => s.heap.size ≤ q) s.heap s.heap [] := va_S.rf
  have hA : ∀ q : Nat, s.heap.size ≤ q → s.heap.size ≤ q := fun q h => h
  have hinX1 : ∀ w ∈ u_ws RX1 TX1 8, w ∈ wsX2_needKey := by decide +kernel
  have hinX2 : ∀ w ∈ u_ws RX2 TX2 5, w ∈ wsX2_needKey := by decide +kernel
  have hf16 := hts (.fieldLink RX2 16 "KeyCabinet" "plan" "LKeyCabinet$Plan;") (by decide +kernel)
  have hf41 := hts (.fieldLink RX2 41 "KeyCabinet$Plan" "keys" "I") (by decide +kernel)
  have hl := lv_entry ([.ref (ad 14), .int x]) (n := 2) (Nat.le_of_ble_eq_true rfl)
  rw [lg_entry_eq]
  generalize (lg_sl ([.ref (ad 14), .int x]) ++ List.replicate (2 - (lg_sl ([.ref (ad 14), .int x])).length) Slot.unset).toArray = ls at hl ⊢
  have hl : lv_has ls 2 [(0, .ref (ad 14)), (1, .int x)] := hl
  refine lv_iload_n hx hb dX2_needKey_0 rfl (lv_at hl 1 rfl) ?_
  refine lv_if_lt (tgt := 15) hx hb dX2_needKey_1 (by decide) (fun c_1 => ?_) (fun c_1 => ?_)
  · obtain ⟨sa, hsa⟩ := hX.2.2.2.1 (231, "there is no such key") (by decide +kernel)
    exact vx_throwS (names := ["java/lang/RuntimeException", "java/lang/Exception"]) (A := fun q => s.heap.size ≤ q) hx hb hlf hown (by decide +kernel) kcT_fit (hts (.classLink RX2 87 "java/lang/IndexOutOfBoundsException") (by decide +kernel)) (hts (.initialized "java/lang/IndexOutOfBoundsException") (by decide +kernel)) hsa (vx_hat (fun w hw => hts w (by simp only [wsX2_needKey, List.mem_cons, List.mem_append, hw, or_true, true_or])) kcT91_bad (fun w hw => va_Nw.use (kcBads_tab w hw) (hX.2.2.1 w hw))) kcT91_ot hX.1 hX.2.1 hS (hl.1.trans hml.symm) dX2_needKey_15 dX2_needKey_18 dX2_needKey_19 dX2_needKey_21 dX2_needKey_24 (fun x h9 => (hex x h9).elim) (Nat.le_of_ble_eq_true rfl) (Nat.le_of_ble_eq_true rfl) (Nat.le_of_ble_eq_true rfl) (Nat.le_of_ble_eq_true rfl) hlocks (fun t h1 h2 h3 => ⟨(), trivial, rfl, h2, fun q hq _ => h3 q hq⟩) (fun _ h => nomatch h) (Nat.le_of_ble_eq_true rfl) (Nat.le_of_ble_eq_true rfl)
  · refine lv_iload_n hx hb dX2_needKey_4 rfl (lv_at hl 1 rfl) ?_
    refine lv_aload_n hx hb dX2_needKey_5 rfl (lv_at hl 0 rfl) ?_
    refine va_get (D := D) (ci := 2) (v := .ref (ad 0)) (C := RX2) (T := TX2) (N := 5) hx hb hts hinX2 hown hK.1 hP 14 rfl rfl 0 (by decide) hf16 (fun _ h9 => h9) rfl dX2_needKey_6 ?_
    refine va_get (D := D) (ci := 1) (v := .int (nI K)) (C := RX1) (T := TX1) (N := 8) hx hb hts hinX1 hown hK.1 hP 0 rfl rfl 5 (by decide) hf41 (fun _ h9 => h9) rfl dX2_needKey_9 ?_
    refine lv_icmp_lt (tgt := 25) hx hb dX2_needKey_12 (by decide) (fun c_12 => ?_) (fun c_12 => ?_)
    · exact absurd (decide_eq_true ⟨c_1, kc_nle c_12⟩) hBad
    · obtain ⟨sa, hsa⟩ := hX.2.2.2.1 (231, "there is no such key") (by decide +kernel)
      exact vx_throwS (names := ["java/lang/RuntimeException", "java/lang/Exception"]) (A := fun q => s.heap.size ≤ q) hx hb hlf hown (by decide +kernel) kcT_fit (hts (.classLink RX2 87 "java/lang/IndexOutOfBoundsException") (by decide +kernel)) (hts (.initialized "java/lang/IndexOutOfBoundsException") (by decide +kernel)) hsa (vx_hat (fun w hw => hts w (by simp only [wsX2_needKey, List.mem_cons, List.mem_append, hw, or_true, true_or])) kcT91_bad (fun w hw => va_Nw.use (kcBads_tab w hw) (hX.2.2.1 w hw))) kcT91_ot hX.1 hX.2.1 hS (hl.1.trans hml.symm) dX2_needKey_15 dX2_needKey_18 dX2_needKey_19 dX2_needKey_21 dX2_needKey_24 (fun x h9 => (hex x h9).elim) (Nat.le_of_ble_eq_true rfl) (Nat.le_of_ble_eq_true rfl) (Nat.le_of_ble_eq_true rfl) (Nat.le_of_ble_eq_true rfl) hlocks (fun t h1 h2 h3 => ⟨(), trivial, rfl, h2, fun q hq _ => h3 q hq⟩) (fun _ h => nomatch h) (Nat.le_of_ble_eq_true rfl) (Nat.le_of_ble_eq_true rfl)
set_option maxHeartbeats 4000000 in
set_option maxRecDepth 100000 in
theorem c_X2_needDoor_x (l : Launch) (hlf : l.stackTraces = false) (D : va_G) (ad : Nat → Nat) (cI : ClassId) (cd : Nat → Int32) (te : Nat → Int32) (ri : Nat → Int32) (pi : Nat → Int32) (pw : Nat → Int32) (K : Nat) (Dn : Nat) (mv : Int32) (ko : Nat → Int32) (so : Nat → Int32) (tl : Nat → Int32) (lp : Nat → Int32) (lb : Nat → Int32) (ld : Nat → Int32) (le : Nat → Int32) (C : Nat) (cl : Nat → Int32) (dq : Nat → Int32) (dy : Int32) (x : Int32) (sz : Nat) (hBad : ¬ jIn Dn x = true) : vx_Met l yX2_needDoor wsX2_needDoor ({ frames := 6, cells := 1, slots := 6, locals := 90 } : Room) (xrP [.ref (ad 14), .int x] D sz (wKc ad cI cd te ri pi pw K Dn mv ko so tl lp lb ld le C cl dq dy) [(cI, .int)]) xrN (xrX "java/lang/IndexOutOfBoundsException" sz) 1 6 (fun q => sz ≤ q) := by
  refine vx_ofW (cc := cX2_needDoor) (maxL := 2) (ret := none) (by decide) rfl ?_
  intro p e s m args below meth c s₁ B hml hex hv
  obtain ⟨rfl, hsz, hP, hK, hX⟩ := hv
  have hx := B.exec
  have hb := B.bytes
  have hr := B.returns
  have hts := atoms_spec (ws := wsX2_needDoor) B.pre
  have hown : s.vm.findClass RX2 = some m.cls := findClass_of_methodNamed B.named
  have hlocks := B.notSynchronized
  subst hsz
  have hS : va_S (fun q => s.heap.size ≤ q) s.heap s.heap [] := va_S.rf
  have hA : ∀ q : Nat, s.heap.size ≤ q → s.heap.size ≤ q := fun q h => h
  have hinX1 : ∀ w ∈ u_ws RX1 TX1 8, w ∈ wsX2_needDoor := by decide +kernel
  have hinX2 : ∀ w ∈ u_ws RX2 TX2 5, w ∈ wsX2_needDoor := by decide +kernel
  have hf16 := hts (.fieldLink RX2 16 "KeyCabinet" "plan" "LKeyCabinet$Plan;") (by decide +kernel)
  have hf63 := hts (.fieldLink RX2 63 "KeyCabinet$Plan" "doors" "I") (by decide +kernel)
  have hl := lv_entry ([.ref (ad 14), .int x]) (n := 2) (Nat.le_of_ble_eq_true rfl)
  rw [lg_entry_eq]
  generalize (lg_sl ([.ref (ad 14), .int x]) ++ List.replicate (2 - (lg_sl ([.ref (ad 14), .int x])).length) Slot.unset).toArray = ls at hl ⊢
  have hl : lv_has ls 2 [(0, .ref (ad 14)), (1, .int x)] := hl
  refine lv_iload_n hx hb dX2_needDoor_0 rfl (lv_at hl 1 rfl) ?_
  refine lv_if_lt (tgt := 15) hx hb dX2_needDoor_1 (by decide) (fun c_1 => ?_) (fun c_1 => ?_)
  · obtain ⟨sa, hsa⟩ := hX.2.2.2.1 (233, "there is no such door") (by decide +kernel)
    exact vx_throwS (names := ["java/lang/RuntimeException", "java/lang/Exception"]) (A := fun q => s.heap.size ≤ q) hx hb hlf hown (by decide +kernel) kcT_fit (hts (.classLink RX2 87 "java/lang/IndexOutOfBoundsException") (by decide +kernel)) (hts (.initialized "java/lang/IndexOutOfBoundsException") (by decide +kernel)) hsa (vx_hat (fun w hw => hts w (by simp only [wsX2_needDoor, List.mem_cons, List.mem_append, hw, or_true, true_or])) kcT91_bad (fun w hw => va_Nw.use (kcBads_tab w hw) (hX.2.2.1 w hw))) kcT91_ot hX.1 hX.2.1 hS (hl.1.trans hml.symm) dX2_needDoor_15 dX2_needDoor_18 dX2_needDoor_19 dX2_needDoor_21 dX2_needDoor_24 (fun x h9 => (hex x h9).elim) (Nat.le_of_ble_eq_true rfl) (Nat.le_of_ble_eq_true rfl) (Nat.le_of_ble_eq_true rfl) (Nat.le_of_ble_eq_true rfl) hlocks (fun t h1 h2 h3 => ⟨(), trivial, rfl, h2, fun q hq _ => h3 q hq⟩) (fun _ h => nomatch h) (Nat.le_of_ble_eq_true rfl) (Nat.le_of_ble_eq_true rfl)
  · refine lv_iload_n hx hb dX2_needDoor_4 rfl (lv_at hl 1 rfl) ?_
    refine lv_aload_n hx hb dX2_needDoor_5 rfl (lv_at hl 0 rfl) ?_
    refine va_get (D := D) (ci := 2) (v := .ref (ad 0)) (C := RX2) (T := TX2) (N := 5) hx hb hts hinX2 hown hK.1 hP 14 rfl rfl 0 (by decide) hf16 (fun _ h9 => h9) rfl dX2_needDoor_6 ?_
    refine va_get (D := D) (ci := 1) (v := .int (nI Dn)) (C := RX1) (T := TX1) (N := 8) hx hb hts hinX1 hown hK.1 hP 0 rfl rfl 6 (by decide) hf63 (fun _ h9 => h9) rfl dX2_needDoor_9 ?_
    refine lv_icmp_lt (tgt := 25) hx hb dX2_needDoor_12 (by decide) (fun c_12 => ?_) (fun c_12 => ?_)
    · exact absurd (decide_eq_true ⟨c_1, kc_nle c_12⟩) hBad
    · obtain ⟨sa, hsa⟩ := hX.2.2.2.1 (233, "there is no such door") (by decide +kernel)
      exact vx_throwS (names := ["java/lang/RuntimeException", "java/lang/Exception"]) (A := fun q => s.heap.size ≤ q) hx hb hlf hown (by decide +kernel) kcT_fit (hts (.classLink RX2 87 "java/lang/IndexOutOfBoundsException") (by decide +kernel)) (hts (.initialized "java/lang/IndexOutOfBoundsException") (by decide +kernel)) hsa (vx_hat (fun w hw => hts w (by simp only [wsX2_needDoor, List.mem_cons, List.mem_append, hw, or_true, true_or])) kcT91_bad (fun w hw => va_Nw.use (kcBads_tab w hw) (hX.2.2.1 w hw))) kcT91_ot hX.1 hX.2.1 hS (hl.1.trans hml.symm) dX2_needDoor_15 dX2_needDoor_18 dX2_needDoor_19 dX2_needDoor_21 dX2_needDoor_24 (fun x h9 => (hex x h9).elim) (Nat.le_of_ble_eq_true rfl) (Nat.le_of_ble_eq_true rfl) (Nat.le_of_ble_eq_true rfl) (Nat.le_of_ble_eq_true rfl) hlocks (fun t h1 h2 h3 => ⟨(), trivial, rfl, h2, fun q hq _ => h3 q hq⟩) (fun _ h => nomatch h) (Nat.le_of_ble_eq_true rfl) (Nat.le_of_ble_eq_true rfl)
set_option maxHeartbeats 4000000 in
set_option maxRecDepth 100000 in
theorem c_X2_needCopy_x (l : Launch) (hlf : l.stackTraces = false) (D : va_G) (ad : Nat → Nat) (cI : ClassId) (cd : Nat → Int32) (te : Nat → Int32) (ri : Nat → Int32) (pi : Nat → Int32) (pw : Nat → Int32) (K : Nat) (Dn : Nat) (mv : Int32) (ko : Nat → Int32) (so : Nat → Int32) (tl : Nat → Int32) (lp : Nat → Int32) (lb : Nat → Int32) (ld : Nat → Int32) (le : Nat → Int32) (C : Nat) (cl : Nat → Int32) (dq : Nat → Int32) (dy : Int32) (x : Int32) (sz : Nat) (hBad : ¬ jIn C x = true) : vx_Met l yX2_needCopy wsX2_needCopy ({ frames := 6, cells := 1, slots := 6, locals := 90 } : Room) (xrP [.ref (ad 14), .int x] D sz (wKc ad cI cd te ri pi pw K Dn mv ko so tl lp lb ld le C cl dq dy) [(cI, .int)]) xrN (xrX "java/lang/IndexOutOfBoundsException" sz) 1 6 (fun q => sz ≤ q) := by
  refine vx_ofW (cc := cX2_needCopy) (maxL := 2) (ret := none) (by decide) rfl ?_
  intro p e s m args below meth c s₁ B hml hex hv
  obtain ⟨rfl, hsz, hP, hK, hX⟩ := hv
  have hx := B.exec
  have hb := B.bytes
  have hr := B.returns
  have hts := atoms_spec (ws := wsX2_needCopy) B.pre
  have hown : s.vm.findClass RX2 = some m.cls := findClass_of_methodNamed B.named
  have hlocks := B.notSynchronized
  subst hsz
  have hS : va_S (fun q => s.heap.size ≤ q) s.heap s.heap [] := va_S.rf
  have hA : ∀ q : Nat, s.heap.size ≤ q → s.heap.size ≤ q := fun q h => h
  have hinX0 : ∀ w ∈ u_ws RX0 TX0 8, w ∈ wsX2_needCopy := by decide +kernel
  have hinX2 : ∀ w ∈ u_ws RX2 TX2 5, w ∈ wsX2_needCopy := by decide +kernel
  have hf23 := hts (.fieldLink RX2 23 "KeyCabinet" "ledger" "LKeyCabinet$Ledger;") (by decide +kernel)
  have hf128 := hts (.fieldLink RX2 128 "KeyCabinet$Ledger" "copies" "I") (by decide +kernel)
  have hl := lv_entry ([.ref (ad 14), .int x]) (n := 2) (Nat.le_of_ble_eq_true rfl)
  rw [lg_entry_eq]
  generalize (lg_sl ([.ref (ad 14), .int x]) ++ List.replicate (2 - (lg_sl ([.ref (ad 14), .int x])).length) Slot.unset).toArray = ls at hl ⊢
  have hl : lv_has ls 2 [(0, .ref (ad 14)), (1, .int x)] := hl
  refine lv_iload_n hx hb dX2_needCopy_0 rfl (lv_at hl 1 rfl) ?_
  refine lv_if_lt (tgt := 15) hx hb dX2_needCopy_1 (by decide) (fun c_1 => ?_) (fun c_1 => ?_)
  · obtain ⟨sa, hsa⟩ := hX.2.2.2.1 (235, "there is no such copy") (by decide +kernel)
    exact vx_throwS (names := ["java/lang/RuntimeException", "java/lang/Exception"]) (A := fun q => s.heap.size ≤ q) hx hb hlf hown (by decide +kernel) kcT_fit (hts (.classLink RX2 87 "java/lang/IndexOutOfBoundsException") (by decide +kernel)) (hts (.initialized "java/lang/IndexOutOfBoundsException") (by decide +kernel)) hsa (vx_hat (fun w hw => hts w (by simp only [wsX2_needCopy, List.mem_cons, List.mem_append, hw, or_true, true_or])) kcT91_bad (fun w hw => va_Nw.use (kcBads_tab w hw) (hX.2.2.1 w hw))) kcT91_ot hX.1 hX.2.1 hS (hl.1.trans hml.symm) dX2_needCopy_15 dX2_needCopy_18 dX2_needCopy_19 dX2_needCopy_21 dX2_needCopy_24 (fun x h9 => (hex x h9).elim) (Nat.le_of_ble_eq_true rfl) (Nat.le_of_ble_eq_true rfl) (Nat.le_of_ble_eq_true rfl) (Nat.le_of_ble_eq_true rfl) hlocks (fun t h1 h2 h3 => ⟨(), trivial, rfl, h2, fun q hq _ => h3 q hq⟩) (fun _ h => nomatch h) (Nat.le_of_ble_eq_true rfl) (Nat.le_of_ble_eq_true rfl)
  · refine lv_iload_n hx hb dX2_needCopy_4 rfl (lv_at hl 1 rfl) ?_
    refine lv_aload_n hx hb dX2_needCopy_5 rfl (lv_at hl 0 rfl) ?_
    refine va_get (D := D) (ci := 2) (v := .ref (ad 6)) (C := RX2) (T := TX2) (N := 5) hx hb hts hinX2 hown hK.1 hP 14 rfl rfl 1 (by decide) hf23 (fun _ h9 => h9) rfl dX2_needCopy_6 ?_
    refine va_get (D := D) (ci := 0) (v := .int (nI C)) (C := RX0) (T := TX0) (N := 8) hx hb hts hinX0 hown hK.1 hP 6 rfl rfl 7 (by decide) hf128 (fun _ h9 => h9) rfl dX2_needCopy_9 ?_
    refine lv_icmp_lt (tgt := 25) hx hb dX2_needCopy_12 (by decide) (fun c_12 => ?_) (fun c_12 => ?_)
    · exact absurd (decide_eq_true ⟨c_1, kc_nle c_12⟩) hBad
    · obtain ⟨sa, hsa⟩ := hX.2.2.2.1 (235, "there is no such copy") (by decide +kernel)
      exact vx_throwS (names := ["java/lang/RuntimeException", "java/lang/Exception"]) (A := fun q => s.heap.size ≤ q) hx hb hlf hown (by decide +kernel) kcT_fit (hts (.classLink RX2 87 "java/lang/IndexOutOfBoundsException") (by decide +kernel)) (hts (.initialized "java/lang/IndexOutOfBoundsException") (by decide +kernel)) hsa (vx_hat (fun w hw => hts w (by simp only [wsX2_needCopy, List.mem_cons, List.mem_append, hw, or_true, true_or])) kcT91_bad (fun w hw => va_Nw.use (kcBads_tab w hw) (hX.2.2.1 w hw))) kcT91_ot hX.1 hX.2.1 hS (hl.1.trans hml.symm) dX2_needCopy_15 dX2_needCopy_18 dX2_needCopy_19 dX2_needCopy_21 dX2_needCopy_24 (fun x h9 => (hex x h9).elim) (Nat.le_of_ble_eq_true rfl) (Nat.le_of_ble_eq_true rfl) (Nat.le_of_ble_eq_true rfl) (Nat.le_of_ble_eq_true rfl) hlocks (fun t h1 h2 h3 => ⟨(), trivial, rfl, h2, fun q hq _ => h3 q hq⟩) (fun _ h => nomatch h) (Nat.le_of_ble_eq_true rfl) (Nat.le_of_ble_eq_true rfl)
set_option maxHeartbeats 4000000 in
set_option maxRecDepth 100000 in
theorem c_X2_needPerson_x (l : Launch) (hlf : l.stackTraces = false) (D : va_G) (ad : Nat → Nat) (cI : ClassId) (cd : Nat → Int32) (te : Nat → Int32) (ri : Nat → Int32) (pi : Nat → Int32) (pw : Nat → Int32) (K : Nat) (Dn : Nat) (mv : Int32) (ko : Nat → Int32) (so : Nat → Int32) (tl : Nat → Int32) (lp : Nat → Int32) (lb : Nat → Int32) (ld : Nat → Int32) (le : Nat → Int32) (C : Nat) (cl : Nat → Int32) (dq : Nat → Int32) (dy : Int32) (pe : Int32) (sz : Nat) (hBad : ¬ jIn 8 pe = true) : vx_Met l yX2_needPerson wsX2_needPerson ({ frames := 6, cells := 1, slots := 6, locals := 90 } : Room) (xrP [.ref (ad 14), .int pe] D sz (wKc ad cI cd te ri pi pw K Dn mv ko so tl lp lb ld le C cl dq dy) [(cI, .int)]) xrN (xrX "java/lang/IndexOutOfBoundsException" sz) 1 6 (fun q => sz ≤ q) := by
  refine vx_ofW (cc := cX2_needPerson) (maxL := 2) (ret := none) (by decide) rfl ?_
  intro p e s m args below meth c s₁ B hml hex hv
  obtain ⟨rfl, hsz, hP, hK, hX⟩ := hv
  have hx := B.exec
  have hb := B.bytes
  have hr := B.returns
  have hts := atoms_spec (ws := wsX2_needPerson) B.pre
  have hown : s.vm.findClass RX2 = some m.cls := findClass_of_methodNamed B.named
  have hlocks := B.notSynchronized
  subst hsz
  have hS : va_S (fun q => s.heap.size ≤ q) s.heap s.heap [] := va_S.rf
  have hA : ∀ q : Nat, s.heap.size ≤ q → s.heap.size ≤ q := fun q h => h
  have hl := lv_entry ([.ref (ad 14), .int pe]) (n := 2) (Nat.le_of_ble_eq_true rfl)
  rw [lg_entry_eq]
  generalize (lg_sl ([.ref (ad 14), .int pe]) ++ List.replicate (2 - (lg_sl ([.ref (ad 14), .int pe])).length) Slot.unset).toArray = ls at hl ⊢
  have hl : lv_has ls 2 [(0, .ref (ad 14)), (1, .int pe)] := hl
  refine lv_iload_n hx hb dX2_needPerson_0 rfl (lv_at hl 1 rfl) ?_
  refine lv_if_lt (tgt := 10) hx hb dX2_needPerson_1 (by decide) (fun c_1 => ?_) (fun c_1 => ?_)
  · obtain ⟨sa, hsa⟩ := hX.2.2.2.1 (237, "a person is 0 to 7") (by decide +kernel)
    exact vx_throwS (names := ["java/lang/RuntimeException", "java/lang/Exception"]) (A := fun q => s.heap.size ≤ q) hx hb hlf hown (by decide +kernel) kcT_fit (hts (.classLink RX2 87 "java/lang/IndexOutOfBoundsException") (by decide +kernel)) (hts (.initialized "java/lang/IndexOutOfBoundsException") (by decide +kernel)) hsa (vx_hat (fun w hw => hts w (by simp only [wsX2_needPerson, List.mem_cons, List.mem_append, hw, or_true, true_or])) kcT91_bad (fun w hw => va_Nw.use (kcBads_tab w hw) (hX.2.2.1 w hw))) kcT91_ot hX.1 hX.2.1 hS (hl.1.trans hml.symm) dX2_needPerson_10 dX2_needPerson_13 dX2_needPerson_14 dX2_needPerson_16 dX2_needPerson_19 (fun x h9 => (hex x h9).elim) (Nat.le_of_ble_eq_true rfl) (Nat.le_of_ble_eq_true rfl) (Nat.le_of_ble_eq_true rfl) (Nat.le_of_ble_eq_true rfl) hlocks (fun t h1 h2 h3 => ⟨(), trivial, rfl, h2, fun q hq _ => h3 q hq⟩) (fun _ h => nomatch h) (Nat.le_of_ble_eq_true rfl) (Nat.le_of_ble_eq_true rfl)
  · refine lv_iload_n hx hb dX2_needPerson_4 rfl (lv_at hl 1 rfl) ?_
    refine lv_bipush (v := 8) hx hb dX2_needPerson_5 (by decide) ?_
    refine lv_icmp_lt (tgt := 20) hx hb dX2_needPerson_7 (by decide) (fun c_7 => ?_) (fun c_7 => ?_)
    · exact absurd (decide_eq_true ⟨c_1, kc_nle c_7⟩) hBad
    · obtain ⟨sa, hsa⟩ := hX.2.2.2.1 (237, "a person is 0 to 7") (by decide +kernel)
      exact vx_throwS (names := ["java/lang/RuntimeException", "java/lang/Exception"]) (A := fun q => s.heap.size ≤ q) hx hb hlf hown (by decide +kernel) kcT_fit (hts (.classLink RX2 87 "java/lang/IndexOutOfBoundsException") (by decide +kernel)) (hts (.initialized "java/lang/IndexOutOfBoundsException") (by decide +kernel)) hsa (vx_hat (fun w hw => hts w (by simp only [wsX2_needPerson, List.mem_cons, List.mem_append, hw, or_true, true_or])) kcT91_bad (fun w hw => va_Nw.use (kcBads_tab w hw) (hX.2.2.1 w hw))) kcT91_ot hX.1 hX.2.1 hS (hl.1.trans hml.symm) dX2_needPerson_10 dX2_needPerson_13 dX2_needPerson_14 dX2_needPerson_16 dX2_needPerson_19 (fun x h9 => (hex x h9).elim) (Nat.le_of_ble_eq_true rfl) (Nat.le_of_ble_eq_true rfl) (Nat.le_of_ble_eq_true rfl) (Nat.le_of_ble_eq_true rfl) hlocks (fun t h1 h2 h3 => ⟨(), trivial, rfl, h2, fun q hq _ => h3 q hq⟩) (fun _ h => nomatch h) (Nat.le_of_ble_eq_true rfl) (Nat.le_of_ble_eq_true rfl)
set_option maxHeartbeats 4000000 in
set_option maxRecDepth 100000 in
theorem c_X2_needRights_x (l : Launch) (hlf : l.stackTraces = false) (D : va_G) (ad : Nat → Nat) (cI : ClassId) (cd : Nat → Int32) (te : Nat → Int32) (ri : Nat → Int32) (pi : Nat → Int32) (pw : Nat → Int32) (K : Nat) (Dn : Nat) (mv : Int32) (ko : Nat → Int32) (so : Nat → Int32) (tl : Nat → Int32) (lp : Nat → Int32) (lb : Nat → Int32) (ld : Nat → Int32) (le : Nat → Int32) (C : Nat) (cl : Nat → Int32) (dq : Nat → Int32) (dy : Int32) (sx : Int32) (sz : Nat) (hBad : ¬ jSetOf K sx = true) : vx_Met l yX2_needRights wsX2_needRights ({ frames := 6, cells := 1, slots := 6, locals := 90 } : Room) (xrP [.ref (ad 14), .int sx] D sz (wKc ad cI cd te ri pi pw K Dn mv ko so tl lp lb ld le C cl dq dy) [(cI, .int)]) xrN (xrX "java/lang/IllegalArgumentException" sz) 1 6 (fun q => sz ≤ q) := by
  refine vx_ofW (cc := cX2_needRights) (maxL := 2) (ret := none) (by decide) rfl ?_
  intro p e s m args below meth c s₁ B hml hex hv
  obtain ⟨rfl, hsz, hP, hK, hX⟩ := hv
  have hx := B.exec
  have hb := B.bytes
  have hr := B.returns
  have hts := atoms_spec (ws := wsX2_needRights) B.pre
  have hown : s.vm.findClass RX2 = some m.cls := findClass_of_methodNamed B.named
  have hlocks := B.notSynchronized
  subst hsz
  have hS : va_S (fun q => s.heap.size ≤ q) s.heap s.heap [] := va_S.rf
  have hA : ∀ q : Nat, s.heap.size ≤ q → s.heap.size ≤ q := fun q h => h
  have hinX1 : ∀ w ∈ u_ws RX1 TX1 8, w ∈ wsX2_needRights := by decide +kernel
  have hinX2 : ∀ w ∈ u_ws RX2 TX2 5, w ∈ wsX2_needRights := by decide +kernel
  have hf16 := hts (.fieldLink RX2 16 "KeyCabinet" "plan" "LKeyCabinet$Plan;") (by decide +kernel)
  have hf41 := hts (.fieldLink RX2 41 "KeyCabinet$Plan" "keys" "I") (by decide +kernel)
  have hl := lv_entry ([.ref (ad 14), .int sx]) (n := 2) (Nat.le_of_ble_eq_true rfl)
  rw [lg_entry_eq]
  generalize (lg_sl ([.ref (ad 14), .int sx]) ++ List.replicate (2 - (lg_sl ([.ref (ad 14), .int sx])).length) Slot.unset).toArray = ls at hl ⊢
  have hl : lv_has ls 2 [(0, .ref (ad 14)), (1, .int sx)] := hl
  refine lv_aload_n hx hb dX2_needRights_0 rfl (lv_at hl 0 rfl) ?_
  refine va_get (D := D) (ci := 2) (v := .ref (ad 0)) (C := RX2) (T := TX2) (N := 5) hx hb hts hinX2 hown hK.1 hP 14 rfl rfl 0 (by decide) hf16 (fun _ h9 => h9) rfl dX2_needRights_1 ?_
  refine va_get (D := D) (ci := 1) (v := .int (nI K)) (C := RX1) (T := TX1) (N := 8) hx hb hts hinX1 hown hK.1 hP 0 rfl rfl 5 (by decide) hf41 (fun _ h9 => h9) rfl dX2_needRights_4 ?_
  refine lv_iload_n hx hb dX2_needRights_7 rfl (lv_at hl 1 rfl) ?_
  refine kc_rSi (As := [.int (nI K), .int sx]) (rest := []) ⟨hx, hb, hml, hown, hts⟩ (c_X2_isSetOf l K sx ) (va_cwS 2 hts gX2_needRights_X2_isSetOf rfl rfl rfl (by decide +kernel) ⟨Nat.le_of_ble_eq_true rfl, Nat.le_of_ble_eq_true rfl⟩) rfl hl.1 rfl (Nat.le_of_ble_eq_true rfl) dX2_needRights_8 ⟨Nat.le_of_ble_eq_true rfl, Nat.le_of_ble_eq_true rfl⟩ ?_
  refine kc_ifneB (tgt := 24) hx hb dX2_needRights_11 (by decide) (fun c_11 => ?_) (fun c_11 => ?_)
  · exact absurd c_11 hBad
  · obtain ⟨sa, hsa⟩ := hX.2.2.2.1 (239, "it contains something that is no key") (by decide +kernel)
    exact vx_throwS (names := ["java/lang/RuntimeException", "java/lang/Exception"]) (A := fun q => s.heap.size ≤ q) hx hb hlf hown (by decide +kernel) kcT_fit (hts (.classLink RX2 34 "java/lang/IllegalArgumentException") (by decide +kernel)) (hts (.initialized "java/lang/IllegalArgumentException") (by decide +kernel)) hsa (vx_hat (fun w hw => hts w (by simp only [wsX2_needRights, List.mem_cons, List.mem_append, hw, or_true, true_or])) kcT38_bad (fun w hw => va_Nw.use (kcBads_tab w hw) (hX.2.2.1 w hw))) kcT38_ot hX.1 hX.2.1 hS (hl.1.trans hml.symm) dX2_needRights_14 dX2_needRights_17 dX2_needRights_18 dX2_needRights_20 dX2_needRights_23 (fun x h9 => (hex x h9).elim) (Nat.le_of_ble_eq_true rfl) (Nat.le_of_ble_eq_true rfl) (Nat.le_of_ble_eq_true rfl) (Nat.le_of_ble_eq_true rfl) hlocks (fun t h1 h2 h3 => ⟨(), trivial, rfl, h2, fun q hq _ => h3 q hq⟩) (fun _ h => nomatch h) (Nat.le_of_ble_eq_true rfl) (Nat.le_of_ble_eq_true rfl)
set_option maxHeartbeats 4000000 in
set_option maxRecDepth 100000 in
theorem c_X2_needDays_x (l : Launch) (hlf : l.stackTraces = false) (D : va_G) (ad : Nat → Nat) (cI : ClassId) (cd : Nat → Int32) (te : Nat → Int32) (ri : Nat → Int32) (pi : Nat → Int32) (pw : Nat → Int32) (K : Nat) (Dn : Nat) (mv : Int32) (ko : Nat → Int32) (so : Nat → Int32) (tl : Nat → Int32) (lp : Nat → Int32) (lb : Nat → Int32) (ld : Nat → Int32) (le : Nat → Int32) (C : Nat) (cl : Nat → Int32) (dq : Nat → Int32) (dy : Int32) (dz : Int32) (sz : Nat) (hz : dz < 1 ∨ (99 : Int32) < dz) : vx_Met l yX2_needDays wsX2_needDays ({ frames := 6, cells := 1, slots := 6, locals := 90 } : Room) (xrP [.ref (ad 14), .int dz] D sz (wKc ad cI cd te ri pi pw K Dn mv ko so tl lp lb ld le C cl dq dy) [(cI, .int)]) xrN (xrX "java/lang/IllegalArgumentException" sz) 1 6 (fun q => sz ≤ q) := by
  refine vx_ofW (cc := cX2_needDays) (maxL := 2) (ret := none) (by decide) rfl ?_
  intro p e s m args below meth c s₁ B hml hex hv
  obtain ⟨rfl, hsz, hP, hK, hX⟩ := hv
  have hx := B.exec
  have hb := B.bytes
  have hr := B.returns
  have hts := atoms_spec (ws := wsX2_needDays) B.pre
  have hown : s.vm.findClass RX2 = some m.cls := findClass_of_methodNamed B.named
  have hlocks := B.notSynchronized
  subst hsz
  have hS : va_S (fun q => s.heap.size ≤ q) s.heap s.heap [] := va_S.rf
  have hA : ∀ q : Nat, s.heap.size ≤ q → s.heap.size ≤ q := fun q h => h
  have hl := lv_entry ([.ref (ad 14), .int dz]) (n := 2) (Nat.le_of_ble_eq_true rfl)
  rw [lg_entry_eq]
  generalize (lg_sl ([.ref (ad 14), .int dz]) ++ List.replicate (2 - (lg_sl ([.ref (ad 14), .int dz])).length) Slot.unset).toArray = ls at hl ⊢
  have hl : lv_has ls 2 [(0, .ref (ad 14)), (1, .int dz)] := hl
  refine lv_iload_n hx hb dX2_needDays_0 rfl (lv_at hl 1 rfl) ?_
  refine lv_iconst (v := 1) hx hb dX2_needDays_1 (by decide) ?_
  refine lv_icmp_lt (tgt := 11) hx hb dX2_needDays_2 (by decide) (fun c_2 => ?_) (fun c_2 => ?_)
  · obtain ⟨sa, hsa⟩ := hX.2.2.2.1 (241, "days are 1 to 99") (by decide +kernel)
    exact vx_throwS (names := ["java/lang/RuntimeException", "java/lang/Exception"]) (A := fun q => s.heap.size ≤ q) hx hb hlf hown (by decide +kernel) kcT_fit (hts (.classLink RX2 34 "java/lang/IllegalArgumentException") (by decide +kernel)) (hts (.initialized "java/lang/IllegalArgumentException") (by decide +kernel)) hsa (vx_hat (fun w hw => hts w (by simp only [wsX2_needDays, List.mem_cons, List.mem_append, hw, or_true, true_or])) kcT38_bad (fun w hw => va_Nw.use (kcBads_tab w hw) (hX.2.2.1 w hw))) kcT38_ot hX.1 hX.2.1 hS (hl.1.trans hml.symm) dX2_needDays_11 dX2_needDays_14 dX2_needDays_15 dX2_needDays_17 dX2_needDays_20 (fun x h9 => (hex x h9).elim) (Nat.le_of_ble_eq_true rfl) (Nat.le_of_ble_eq_true rfl) (Nat.le_of_ble_eq_true rfl) (Nat.le_of_ble_eq_true rfl) hlocks (fun t h1 h2 h3 => ⟨(), trivial, rfl, h2, fun q hq _ => h3 q hq⟩) (fun _ h => nomatch h) (Nat.le_of_ble_eq_true rfl) (Nat.le_of_ble_eq_true rfl)
  · refine lv_iload_n hx hb dX2_needDays_5 rfl (lv_at hl 1 rfl) ?_
    refine lv_bipush (v := 99) hx hb dX2_needDays_6 (by decide) ?_
    refine lv_icmp_le (tgt := 21) hx hb dX2_needDays_8 (by decide) (fun c_8 => ?_) (fun c_8 => ?_)
    · exact hz.elim (fun h => absurd h c_2) (fun h => absurd c_8 (kc_nle h))
    · obtain ⟨sa, hsa⟩ := hX.2.2.2.1 (241, "days are 1 to 99") (by decide +kernel)
      exact vx_throwS (names := ["java/lang/RuntimeException", "java/lang/Exception"]) (A := fun q => s.heap.size ≤ q) hx hb hlf hown (by decide +kernel) kcT_fit (hts (.classLink RX2 34 "java/lang/IllegalArgumentException") (by decide +kernel)) (hts (.initialized "java/lang/IllegalArgumentException") (by decide +kernel)) hsa (vx_hat (fun w hw => hts w (by simp only [wsX2_needDays, List.mem_cons, List.mem_append, hw, or_true, true_or])) kcT38_bad (fun w hw => va_Nw.use (kcBads_tab w hw) (hX.2.2.1 w hw))) kcT38_ot hX.1 hX.2.1 hS (hl.1.trans hml.symm) dX2_needDays_11 dX2_needDays_14 dX2_needDays_15 dX2_needDays_17 dX2_needDays_20 (fun x h9 => (hex x h9).elim) (Nat.le_of_ble_eq_true rfl) (Nat.le_of_ble_eq_true rfl) (Nat.le_of_ble_eq_true rfl) (Nat.le_of_ble_eq_true rfl) hlocks (fun t h1 h2 h3 => ⟨(), trivial, rfl, h2, fun q hq _ => h3 q hq⟩) (fun _ h => nomatch h) (Nat.le_of_ble_eq_true rfl) (Nat.le_of_ble_eq_true rfl)
set_option maxHeartbeats 4000000 in
set_option maxRecDepth 100000 in
theorem c_X2_code_f1 (l : Launch) (hlf : l.stackTraces = false) (D : va_G) (ad : Nat → Nat) (cI : ClassId) (cd : Nat → Int32) (te : Nat → Int32) (ri : Nat → Int32) (pi : Nat → Int32) (pw : Nat → Int32) (K : Nat) (Dn : Nat) (mv : Int32) (ko : Nat → Int32) (so : Nat → Int32) (tl : Nat → Int32) (lp : Nat → Int32) (lb : Nat → Int32) (ld : Nat → Int32) (le : Nat → Int32) (C : Nat) (cl : Nat → Int32) (dq : Nat → Int32) (dy : Int32) (x : Int32) (sz : Nat) (hBad : ¬ jIn K x = true) : vx_Met l yX2_code wsX2_code ({ frames := 7, cells := 1, slots := 6, locals := 111 } : Room) (xrP [.ref (ad 14), .int x] D sz (wKc ad cI cd te ri pi pw K Dn mv ko so tl lp lb ld le C cl dq dy) [(cI, .int)]) xrN (xrX "java/lang/IndexOutOfBoundsException" sz) 1 6 (fun q => sz ≤ q) := by
  refine vx_ofW (cc := cX2_code) (maxL := 2) (ret := (some .int)) (by decide) rfl ?_
  intro p e s m args below meth c s₁ B hml hex hv
  obtain ⟨rfl, hsz, hP, hK, hX⟩ := hv
  have hx := B.exec
  have hb := B.bytes
  have hr := B.returns
  have hts := atoms_spec (ws := wsX2_code) B.pre
  have hown : s.vm.findClass RX2 = some m.cls := findClass_of_methodNamed B.named
  have hlocks := B.notSynchronized
  subst hsz
  have hS : va_S (fun q => s.heap.size ≤ q) s.heap s.heap [] := va_S.rf
  have hA : ∀ q : Nat, s.heap.size ≤ q → s.heap.size ≤ q := fun q h => h
  have hl := lv_entry ([.ref (ad 14), .int x]) (n := 2) (Nat.le_of_ble_eq_true rfl)
  rw [lg_entry_eq]
  generalize (lg_sl ([.ref (ad 14), .int x]) ++ List.replicate (2 - (lg_sl ([.ref (ad 14), .int x])).length) Slot.unset).toArray = ls at hl ⊢
  have hl : lv_has ls 2 [(0, .ref (ad 14)), (1, .int x)] := hl
  refine lv_aload_n hx hb dX2_code_0 rfl (lv_at hl 0 rfl) ?_
  refine lv_iload_n hx hb dX2_code_1 rfl (lv_at hl 1 rfl) ?_
  refine kc_xV (E := "java/lang/IndexOutOfBoundsException") (As := [.int x]) (rest := []) ⟨hx, hb, hml, hown, hts⟩ (c_X2_needKey_x l hlf D ad cI cd te ri pi pw K Dn mv ko so tl lp lb ld le C cl dq dy x s.heap.size hBad) (cwV 1 hts gX2_code_X2_needKey rfl rfl rfl (by decide +kernel) ⟨Nat.le_of_ble_eq_true rfl, Nat.le_of_ble_eq_true rfl⟩) hK hP hX [0, 1, 2, 3, 4, 5, 6, 7, 8, 9, 10, 11, 12, 13, 14, 15, 16] [0] rfl rfl 14 rfl rfl rfl rfl hl.1 rfl (Nat.le_of_ble_eq_true rfl) dX2_code_2 ⟨Nat.le_of_ble_eq_true rfl, Nat.le_of_ble_eq_true rfl⟩ hS hA (fun ce q9 H1 locs1 hz hk9 hS1 hce hcv hcl => ?_)
  exact kc_xout hex hlocks hz hk9 hS1 hce hcv hcl (Nat.le_of_ble_eq_true rfl) (Nat.le_of_ble_eq_true rfl)
set_option maxHeartbeats 4000000 in
set_option maxRecDepth 100000 in
theorem c_X2_openers_f1 (l : Launch) (hlf : l.stackTraces = false) (D : va_G) (ad : Nat → Nat) (cI : ClassId) (cd : Nat → Int32) (te : Nat → Int32) (ri : Nat → Int32) (pi : Nat → Int32) (pw : Nat → Int32) (K : Nat) (Dn : Nat) (mv : Int32) (ko : Nat → Int32) (so : Nat → Int32) (tl : Nat → Int32) (lp : Nat → Int32) (lb : Nat → Int32) (ld : Nat → Int32) (le : Nat → Int32) (C : Nat) (cl : Nat → Int32) (dq : Nat → Int32) (dy : Int32) (x : Int32) (sz : Nat) (hBad : ¬ jIn Dn x = true) : vx_Met l yX2_openers wsX2_openers ({ frames := 7, cells := 1, slots := 6, locals := 111 } : Room) (xrP [.ref (ad 14), .int x] D sz (wKc ad cI cd te ri pi pw K Dn mv ko so tl lp lb ld le C cl dq dy) [(cI, .int)]) xrN (xrX "java/lang/IndexOutOfBoundsException" sz) 1 6 (fun q => sz ≤ q) := by
  refine vx_ofW (cc := cX2_openers) (maxL := 2) (ret := (some .int)) (by decide) rfl ?_
  intro p e s m args below meth c s₁ B hml hex hv
  obtain ⟨rfl, hsz, hP, hK, hX⟩ := hv
  have hx := B.exec
  have hb := B.bytes
  have hr := B.returns
  have hts := atoms_spec (ws := wsX2_openers) B.pre
  have hown : s.vm.findClass RX2 = some m.cls := findClass_of_methodNamed B.named
  have hlocks := B.notSynchronized
  subst hsz
  have hS : va_S (fun q => s.heap.size ≤ q) s.heap s.heap [] := va_S.rf
  have hA : ∀ q : Nat, s.heap.size ≤ q → s.heap.size ≤ q := fun q h => h
  have hl := lv_entry ([.ref (ad 14), .int x]) (n := 2) (Nat.le_of_ble_eq_true rfl)
  rw [lg_entry_eq]
  generalize (lg_sl ([.ref (ad 14), .int x]) ++ List.replicate (2 - (lg_sl ([.ref (ad 14), .int x])).length) Slot.unset).toArray = ls at hl ⊢
  have hl : lv_has ls 2 [(0, .ref (ad 14)), (1, .int x)] := hl
  refine lv_aload_n hx hb dX2_openers_0 rfl (lv_at hl 0 rfl) ?_
  refine lv_iload_n hx hb dX2_openers_1 rfl (lv_at hl 1 rfl) ?_
  refine kc_xV (E := "java/lang/IndexOutOfBoundsException") (As := [.int x]) (rest := []) ⟨hx, hb, hml, hown, hts⟩ (c_X2_needDoor_x l hlf D ad cI cd te ri pi pw K Dn mv ko so tl lp lb ld le C cl dq dy x s.heap.size hBad) (cwV 1 hts gX2_openers_X2_needDoor rfl rfl rfl (by decide +kernel) ⟨Nat.le_of_ble_eq_true rfl, Nat.le_of_ble_eq_true rfl⟩) hK hP hX [0, 1, 2, 3, 4, 5, 6, 7, 8, 9, 10, 11, 12, 13, 14, 15, 16] [0] rfl rfl 14 rfl rfl rfl rfl hl.1 rfl (Nat.le_of_ble_eq_true rfl) dX2_openers_2 ⟨Nat.le_of_ble_eq_true rfl, Nat.le_of_ble_eq_true rfl⟩ hS hA (fun ce q9 H1 locs1 hz hk9 hS1 hce hcv hcl => ?_)
  exact kc_xout hex hlocks hz hk9 hS1 hce hcv hcl (Nat.le_of_ble_eq_true rfl) (Nat.le_of_ble_eq_true rfl)
set_option maxHeartbeats 4000000 in
set_option maxRecDepth 100000 in
theorem c_X2_doors_f1 (l : Launch) (hlf : l.stackTraces = false) (D : va_G) (ad : Nat → Nat) (cI : ClassId) (cd : Nat → Int32) (te : Nat → Int32) (ri : Nat → Int32) (pi : Nat → Int32) (pw : Nat → Int32) (K : Nat) (Dn : Nat) (mv : Int32) (ko : Nat → Int32) (so : Nat → Int32) (tl : Nat → Int32) (lp : Nat → Int32) (lb : Nat → Int32) (ld : Nat → Int32) (le : Nat → Int32) (C : Nat) (cl : Nat → Int32) (dq : Nat → Int32) (dy : Int32) (x : Int32) (sz : Nat) (hBad : ¬ jIn K x = true) : vx_Met l yX2_doors wsX2_doors ({ frames := 7, cells := 1, slots := 6, locals := 111 } : Room) (xrP [.ref (ad 14), .int x] D sz (wKc ad cI cd te ri pi pw K Dn mv ko so tl lp lb ld le C cl dq dy) [(cI, .int)]) xrN (xrX "java/lang/IndexOutOfBoundsException" sz) 1 6 (fun q => sz ≤ q) := by
  refine vx_ofW (cc := cX2_doors) (maxL := 2) (ret := (some .int)) (by decide) rfl ?_
  intro p e s m args below meth c s₁ B hml hex hv
  obtain ⟨rfl, hsz, hP, hK, hX⟩ := hv
  have hx := B.exec
  have hb := B.bytes
  have hr := B.returns
  have hts := atoms_spec (ws := wsX2_doors) B.pre
  have hown : s.vm.findClass RX2 = some m.cls := findClass_of_methodNamed B.named
  have hlocks := B.notSynchronized
  subst hsz
  have hS : va_S (fun q => s.heap.size ≤ q) s.heap s.heap [] := va_S.rf
  have hA : ∀ q : Nat, s.heap.size ≤ q → s.heap.size ≤ q := fun q h => h
  have hl := lv_entry ([.ref (ad 14), .int x]) (n := 2) (Nat.le_of_ble_eq_true rfl)
  rw [lg_entry_eq]
  generalize (lg_sl ([.ref (ad 14), .int x]) ++ List.replicate (2 - (lg_sl ([.ref (ad 14), .int x])).length) Slot.unset).toArray = ls at hl ⊢
  have hl : lv_has ls 2 [(0, .ref (ad 14)), (1, .int x)] := hl
  refine lv_aload_n hx hb dX2_doors_0 rfl (lv_at hl 0 rfl) ?_
  refine lv_iload_n hx hb dX2_doors_1 rfl (lv_at hl 1 rfl) ?_
  refine kc_xV (E := "java/lang/IndexOutOfBoundsException") (As := [.int x]) (rest := []) ⟨hx, hb, hml, hown, hts⟩ (c_X2_needKey_x l hlf D ad cI cd te ri pi pw K Dn mv ko so tl lp lb ld le C cl dq dy x s.heap.size hBad) (cwV 1 hts gX2_doors_X2_needKey rfl rfl rfl (by decide +kernel) ⟨Nat.le_of_ble_eq_true rfl, Nat.le_of_ble_eq_true rfl⟩) hK hP hX [0, 1, 2, 3, 4, 5, 6, 7, 8, 9, 10, 11, 12, 13, 14, 15, 16] [0] rfl rfl 14 rfl rfl rfl rfl hl.1 rfl (Nat.le_of_ble_eq_true rfl) dX2_doors_2 ⟨Nat.le_of_ble_eq_true rfl, Nat.le_of_ble_eq_true rfl⟩ hS hA (fun ce q9 H1 locs1 hz hk9 hS1 hce hcv hcl => ?_)
  exact kc_xout hex hlocks hz hk9 hS1 hce hcv hcl (Nat.le_of_ble_eq_true rfl) (Nat.le_of_ble_eq_true rfl)
set_option maxHeartbeats 4000000 in
set_option maxRecDepth 100000 in
theorem c_X2_codes_f1 (l : Launch) (hlf : l.stackTraces = false) (D : va_G) (ad : Nat → Nat) (cI : ClassId) (cd : Nat → Int32) (te : Nat → Int32) (ri : Nat → Int32) (pi : Nat → Int32) (pw : Nat → Int32) (K : Nat) (Dn : Nat) (mv : Int32) (ko : Nat → Int32) (so : Nat → Int32) (tl : Nat → Int32) (lp : Nat → Int32) (lb : Nat → Int32) (ld : Nat → Int32) (le : Nat → Int32) (C : Nat) (cl : Nat → Int32) (dq : Nat → Int32) (dy : Int32) (x : Int32) (sz : Nat) (hBad : ¬ jIn Dn x = true) : vx_Met l yX2_codes wsX2_codes ({ frames := 7, cells := 1, slots := 6, locals := 111 } : Room) (xrP [.ref (ad 14), .int x] D sz (wKc ad cI cd te ri pi pw K Dn mv ko so tl lp lb ld le C cl dq dy) [(cI, .int)]) xrN (xrX "java/lang/IndexOutOfBoundsException" sz) 1 6 (fun q => sz ≤ q) := by
  refine vx_ofW (cc := cX2_codes) (maxL := 2) (ret := (some .int)) (by decide) rfl ?_
  intro p e s m args below meth c s₁ B hml hex hv
  obtain ⟨rfl, hsz, hP, hK, hX⟩ := hv
  have hx := B.exec
  have hb := B.bytes
  have hr := B.returns
  have hts := atoms_spec (ws := wsX2_codes) B.pre
  have hown : s.vm.findClass RX2 = some m.cls := findClass_of_methodNamed B.named
  have hlocks := B.notSynchronized
  subst hsz
  have hS : va_S (fun q => s.heap.size ≤ q) s.heap s.heap [] := va_S.rf
  have hA : ∀ q : Nat, s.heap.size ≤ q → s.heap.size ≤ q := fun q h => h
  have hl := lv_entry ([.ref (ad 14), .int x]) (n := 2) (Nat.le_of_ble_eq_true rfl)
  rw [lg_entry_eq]
  generalize (lg_sl ([.ref (ad 14), .int x]) ++ List.replicate (2 - (lg_sl ([.ref (ad 14), .int x])).length) Slot.unset).toArray = ls at hl ⊢
  have hl : lv_has ls 2 [(0, .ref (ad 14)), (1, .int x)] := hl
  refine lv_aload_n hx hb dX2_codes_0 rfl (lv_at hl 0 rfl) ?_
  refine lv_iload_n hx hb dX2_codes_1 rfl (lv_at hl 1 rfl) ?_
  refine kc_xV (E := "java/lang/IndexOutOfBoundsException") (As := [.int x]) (rest := []) ⟨hx, hb, hml, hown, hts⟩ (c_X2_needDoor_x l hlf D ad cI cd te ri pi pw K Dn mv ko so tl lp lb ld le C cl dq dy x s.heap.size hBad) (cwV 1 hts gX2_codes_X2_needDoor rfl rfl rfl (by decide +kernel) ⟨Nat.le_of_ble_eq_true rfl, Nat.le_of_ble_eq_true rfl⟩) hK hP hX [0, 1, 2, 3, 4, 5, 6, 7, 8, 9, 10, 11, 12, 13, 14, 15, 16] [0] rfl rfl 14 rfl rfl rfl rfl hl.1 rfl (Nat.le_of_ble_eq_true rfl) dX2_codes_2 ⟨Nat.le_of_ble_eq_true rfl, Nat.le_of_ble_eq_true rfl⟩ hS hA (fun ce q9 H1 locs1 hz hk9 hS1 hce hcv hcl => ?_)
  exact kc_xout hex hlocks hz hk9 hS1 hce hcv hcl (Nat.le_of_ble_eq_true rfl) (Nat.le_of_ble_eq_true rfl)
set_option maxHeartbeats 4000000 in
set_option maxRecDepth 100000 in
theorem c_X2_replace_f1 (l : Launch) (hlf : l.stackTraces = false) (D : va_G) (ad : Nat → Nat) (cI : ClassId) (cd : Nat → Int32) (te : Nat → Int32) (ri : Nat → Int32) (pi : Nat → Int32) (pw : Nat → Int32) (K : Nat) (Dn : Nat) (mv : Int32) (ko : Nat → Int32) (so : Nat → Int32) (tl : Nat → Int32) (lp : Nat → Int32) (lb : Nat → Int32) (ld : Nat → Int32) (le : Nat → Int32) (C : Nat) (cl : Nat → Int32) (dq : Nat → Int32) (dy : Int32) (x : Int32) (sz : Nat) (hBad : ¬ jIn K x = true) : vx_Met l yX2_replace wsX2_replace ({ frames := 7, cells := 1, slots := 6, locals := 111 } : Room) (xrP [.ref (ad 14), .int x] D sz (wKc ad cI cd te ri pi pw K Dn mv ko so tl lp lb ld le C cl dq dy) [(cI, .int)]) xrN (xrX "java/lang/IndexOutOfBoundsException" sz) 1 6 (fun q => sz ≤ q) := by
  refine vx_ofW (cc := cX2_replace) (maxL := 3) (ret := (some .int)) (by decide) rfl ?_
  intro p e s m args below meth c s₁ B hml hex hv
  obtain ⟨rfl, hsz, hP, hK, hX⟩ := hv
  have hx := B.exec
  have hb := B.bytes
  have hr := B.returns
  have hts := atoms_spec (ws := wsX2_replace) B.pre
  have hown : s.vm.findClass RX2 = some m.cls := findClass_of_methodNamed B.named
  have hlocks := B.notSynchronized
  subst hsz
  have hS : va_S (fun q => s.heap.size ≤ q) s.heap s.heap [] := va_S.rf
  have hA : ∀ q : Nat, s.heap.size ≤ q → s.heap.size ≤ q := fun q h => h
  have hl := lv_entry ([.ref (ad 14), .int x]) (n := 3) (Nat.le_of_ble_eq_true rfl)
  rw [lg_entry_eq]
  generalize (lg_sl ([.ref (ad 14), .int x]) ++ List.replicate (3 - (lg_sl ([.ref (ad 14), .int x])).length) Slot.unset).toArray = ls at hl ⊢
  have hl : lv_has ls 3 [(0, .ref (ad 14)), (1, .int x)] := hl
  refine lv_aload_n hx hb dX2_replace_0 rfl (lv_at hl 0 rfl) ?_
  refine lv_iload_n hx hb dX2_replace_1 rfl (lv_at hl 1 rfl) ?_
  refine kc_xV (E := "java/lang/IndexOutOfBoundsException") (As := [.int x]) (rest := []) ⟨hx, hb, hml, hown, hts⟩ (c_X2_needKey_x l hlf D ad cI cd te ri pi pw K Dn mv ko so tl lp lb ld le C cl dq dy x s.heap.size hBad) (cwV 1 hts gX2_replace_X2_needKey rfl rfl rfl (by decide +kernel) ⟨Nat.le_of_ble_eq_true rfl, Nat.le_of_ble_eq_true rfl⟩) hK hP hX [0, 1, 2, 3, 4, 5, 6, 7, 8, 9, 10, 11, 12, 13, 14, 15, 16] [0] rfl rfl 14 rfl rfl rfl rfl hl.1 rfl (Nat.le_of_ble_eq_true rfl) dX2_replace_2 ⟨Nat.le_of_ble_eq_true rfl, Nat.le_of_ble_eq_true rfl⟩ hS hA (fun ce q9 H1 locs1 hz hk9 hS1 hce hcv hcl => ?_)
  exact kc_xout hex hlocks hz hk9 hS1 hce hcv hcl (Nat.le_of_ble_eq_true rfl) (Nat.le_of_ble_eq_true rfl)
set_option maxHeartbeats 4000000 in
set_option maxRecDepth 100000 in
theorem c_X2_cut_f1 (l : Launch) (hlf : l.stackTraces = false) (D : va_G) (ad : Nat → Nat) (cI : ClassId) (cd : Nat → Int32) (te : Nat → Int32) (ri : Nat → Int32) (pi : Nat → Int32) (pw : Nat → Int32) (K : Nat) (Dn : Nat) (mv : Int32) (ko : Nat → Int32) (so : Nat → Int32) (tl : Nat → Int32) (lp : Nat → Int32) (lb : Nat → Int32) (ld : Nat → Int32) (le : Nat → Int32) (C : Nat) (cl : Nat → Int32) (dq : Nat → Int32) (dy : Int32) (x : Int32) (sz : Nat) (hBad : ¬ jIn K x = true) : vx_Met l yX2_cut wsX2_cut ({ frames := 7, cells := 1, slots := 6, locals := 111 } : Room) (xrP [.ref (ad 14), .int x] D sz (wKc ad cI cd te ri pi pw K Dn mv ko so tl lp lb ld le C cl dq dy) [(cI, .int)]) xrN (xrX "java/lang/IndexOutOfBoundsException" sz) 1 6 (fun q => sz ≤ q) := by
  refine vx_ofW (cc := cX2_cut) (maxL := 2) (ret := (some .int)) (by decide) rfl ?_
  intro p e s m args below meth c s₁ B hml hex hv
  obtain ⟨rfl, hsz, hP, hK, hX⟩ := hv
  have hx := B.exec
  have hb := B.bytes
  have hr := B.returns
  have hts := atoms_spec (ws := wsX2_cut) B.pre
  have hown : s.vm.findClass RX2 = some m.cls := findClass_of_methodNamed B.named
  have hlocks := B.notSynchronized
  subst hsz
  have hS : va_S (fun q => s.heap.size ≤ q) s.heap s.heap [] := va_S.rf
  have hA : ∀ q : Nat, s.heap.size ≤ q → s.heap.size ≤ q := fun q h => h
  have hl := lv_entry ([.ref (ad 14), .int x]) (n := 2) (Nat.le_of_ble_eq_true rfl)
  rw [lg_entry_eq]
  generalize (lg_sl ([.ref (ad 14), .int x]) ++ List.replicate (2 - (lg_sl ([.ref (ad 14), .int x])).length) Slot.unset).toArray = ls at hl ⊢
  have hl : lv_has ls 2 [(0, .ref (ad 14)), (1, .int x)] := hl
  refine lv_aload_n hx hb dX2_cut_0 rfl (lv_at hl 0 rfl) ?_
  refine lv_iload_n hx hb dX2_cut_1 rfl (lv_at hl 1 rfl) ?_
  refine kc_xV (E := "java/lang/IndexOutOfBoundsException") (As := [.int x]) (rest := []) ⟨hx, hb, hml, hown, hts⟩ (c_X2_needKey_x l hlf D ad cI cd te ri pi pw K Dn mv ko so tl lp lb ld le C cl dq dy x s.heap.size hBad) (cwV 1 hts gX2_cut_X2_needKey rfl rfl rfl (by decide +kernel) ⟨Nat.le_of_ble_eq_true rfl, Nat.le_of_ble_eq_true rfl⟩) hK hP hX [0, 1, 2, 3, 4, 5, 6, 7, 8, 9, 10, 11, 12, 13, 14, 15, 16] [0] rfl rfl 14 rfl rfl rfl rfl hl.1 rfl (Nat.le_of_ble_eq_true rfl) dX2_cut_2 ⟨Nat.le_of_ble_eq_true rfl, Nat.le_of_ble_eq_true rfl⟩ hS hA (fun ce q9 H1 locs1 hz hk9 hS1 hce hcv hcl => ?_)
  exact kc_xout hex hlocks hz hk9 hS1 hce hcv hcl (Nat.le_of_ble_eq_true rfl) (Nat.le_of_ble_eq_true rfl)
set_option maxHeartbeats 4000000 in
set_option maxRecDepth 100000 in
theorem c_X2_giveBack_f1 (l : Launch) (hlf : l.stackTraces = false) (D : va_G) (ad : Nat → Nat) (cI : ClassId) (cd : Nat → Int32) (te : Nat → Int32) (ri : Nat → Int32) (pi : Nat → Int32) (pw : Nat → Int32) (K : Nat) (Dn : Nat) (mv : Int32) (ko : Nat → Int32) (so : Nat → Int32) (tl : Nat → Int32) (lp : Nat → Int32) (lb : Nat → Int32) (ld : Nat → Int32) (le : Nat → Int32) (C : Nat) (cl : Nat → Int32) (dq : Nat → Int32) (dy : Int32) (x : Int32) (sz : Nat) (hBad : ¬ jIn C x = true) : vx_Met l yX2_giveBack wsX2_giveBack ({ frames := 7, cells := 1, slots := 6, locals := 111 } : Room) (xrP [.ref (ad 14), .int x] D sz (wKc ad cI cd te ri pi pw K Dn mv ko so tl lp lb ld le C cl dq dy) [(cI, .int)]) xrN (xrX "java/lang/IndexOutOfBoundsException" sz) 1 6 (fun q => sz ≤ q) := by
  refine vx_ofW (cc := cX2_giveBack) (maxL := 3) (ret := (some .int)) (by decide) rfl ?_
  intro p e s m args below meth c s₁ B hml hex hv
  obtain ⟨rfl, hsz, hP, hK, hX⟩ := hv
  have hx := B.exec
  have hb := B.bytes
  have hr := B.returns
  have hts := atoms_spec (ws := wsX2_giveBack) B.pre
  have hown : s.vm.findClass RX2 = some m.cls := findClass_of_methodNamed B.named
  have hlocks := B.notSynchronized
  subst hsz
  have hS : va_S (fun q => s.heap.size ≤ q) s.heap s.heap [] := va_S.rf
  have hA : ∀ q : Nat, s.heap.size ≤ q → s.heap.size ≤ q := fun q h => h
  have hl := lv_entry ([.ref (ad 14), .int x]) (n := 3) (Nat.le_of_ble_eq_true rfl)
  rw [lg_entry_eq]
  generalize (lg_sl ([.ref (ad 14), .int x]) ++ List.replicate (3 - (lg_sl ([.ref (ad 14), .int x])).length) Slot.unset).toArray = ls at hl ⊢
  have hl : lv_has ls 3 [(0, .ref (ad 14)), (1, .int x)] := hl
  refine lv_aload_n hx hb dX2_giveBack_0 rfl (lv_at hl 0 rfl) ?_
  refine lv_iload_n hx hb dX2_giveBack_1 rfl (lv_at hl 1 rfl) ?_
  refine kc_xV (E := "java/lang/IndexOutOfBoundsException") (As := [.int x]) (rest := []) ⟨hx, hb, hml, hown, hts⟩ (c_X2_needCopy_x l hlf D ad cI cd te ri pi pw K Dn mv ko so tl lp lb ld le C cl dq dy x s.heap.size hBad) (cwV 1 hts gX2_giveBack_X2_needCopy rfl rfl rfl (by decide +kernel) ⟨Nat.le_of_ble_eq_true rfl, Nat.le_of_ble_eq_true rfl⟩) hK hP hX [0, 1, 2, 3, 4, 5, 6, 7, 8, 9, 10, 11, 12, 13, 14, 15, 16] [0] rfl rfl 14 rfl rfl rfl rfl hl.1 rfl (Nat.le_of_ble_eq_true rfl) dX2_giveBack_2 ⟨Nat.le_of_ble_eq_true rfl, Nat.le_of_ble_eq_true rfl⟩ hS hA (fun ce q9 H1 locs1 hz hk9 hS1 hce hcv hcl => ?_)
  exact kc_xout hex hlocks hz hk9 hS1 hce hcv hcl (Nat.le_of_ble_eq_true rfl) (Nat.le_of_ble_eq_true rfl)
set_option maxHeartbeats 4000000 in
set_option maxRecDepth 100000 in
theorem c_X2_lose_f1 (l : Launch) (hlf : l.stackTraces = false) (D : va_G) (ad : Nat → Nat) (cI : ClassId) (cd : Nat → Int32) (te : Nat → Int32) (ri : Nat → Int32) (pi : Nat → Int32) (pw : Nat → Int32) (K : Nat) (Dn : Nat) (mv : Int32) (ko : Nat → Int32) (so : Nat → Int32) (tl : Nat → Int32) (lp : Nat → Int32) (lb : Nat → Int32) (ld : Nat → Int32) (le : Nat → Int32) (C : Nat) (cl : Nat → Int32) (dq : Nat → Int32) (dy : Int32) (x : Int32) (sz : Nat) (hBad : ¬ jIn C x = true) : vx_Met l yX2_lose wsX2_lose ({ frames := 7, cells := 1, slots := 6, locals := 111 } : Room) (xrP [.ref (ad 14), .int x] D sz (wKc ad cI cd te ri pi pw K Dn mv ko so tl lp lb ld le C cl dq dy) [(cI, .int)]) xrN (xrX "java/lang/IndexOutOfBoundsException" sz) 1 6 (fun q => sz ≤ q) := by
  refine vx_ofW (cc := cX2_lose) (maxL := 3) (ret := (some .int)) (by decide) rfl ?_
  intro p e s m args below meth c s₁ B hml hex hv
  obtain ⟨rfl, hsz, hP, hK, hX⟩ := hv
  have hx := B.exec
  have hb := B.bytes
  have hr := B.returns
  have hts := atoms_spec (ws := wsX2_lose) B.pre
  have hown : s.vm.findClass RX2 = some m.cls := findClass_of_methodNamed B.named
  have hlocks := B.notSynchronized
  subst hsz
  have hS : va_S (fun q => s.heap.size ≤ q) s.heap s.heap [] := va_S.rf
  have hA : ∀ q : Nat, s.heap.size ≤ q → s.heap.size ≤ q := fun q h => h
  have hl := lv_entry ([.ref (ad 14), .int x]) (n := 3) (Nat.le_of_ble_eq_true rfl)
  rw [lg_entry_eq]
  generalize (lg_sl ([.ref (ad 14), .int x]) ++ List.replicate (3 - (lg_sl ([.ref (ad 14), .int x])).length) Slot.unset).toArray = ls at hl ⊢
  have hl : lv_has ls 3 [(0, .ref (ad 14)), (1, .int x)] := hl
  refine lv_aload_n hx hb dX2_lose_0 rfl (lv_at hl 0 rfl) ?_
  refine lv_iload_n hx hb dX2_lose_1 rfl (lv_at hl 1 rfl) ?_
  refine kc_xV (E := "java/lang/IndexOutOfBoundsException") (As := [.int x]) (rest := []) ⟨hx, hb, hml, hown, hts⟩ (c_X2_needCopy_x l hlf D ad cI cd te ri pi pw K Dn mv ko so tl lp lb ld le C cl dq dy x s.heap.size hBad) (cwV 1 hts gX2_lose_X2_needCopy rfl rfl rfl (by decide +kernel) ⟨Nat.le_of_ble_eq_true rfl, Nat.le_of_ble_eq_true rfl⟩) hK hP hX [0, 1, 2, 3, 4, 5, 6, 7, 8, 9, 10, 11, 12, 13, 14, 15, 16] [0] rfl rfl 14 rfl rfl rfl rfl hl.1 rfl (Nat.le_of_ble_eq_true rfl) dX2_lose_2 ⟨Nat.le_of_ble_eq_true rfl, Nat.le_of_ble_eq_true rfl⟩ hS hA (fun ce q9 H1 locs1 hz hk9 hS1 hce hcv hcl => ?_)
  exact kc_xout hex hlocks hz hk9 hS1 hce hcv hcl (Nat.le_of_ble_eq_true rfl) (Nat.le_of_ble_eq_true rfl)
set_option maxHeartbeats 4000000 in
set_option maxRecDepth 100000 in
theorem c_X2_find_f1 (l : Launch) (hlf : l.stackTraces = false) (D : va_G) (ad : Nat → Nat) (cI : ClassId) (cd : Nat → Int32) (te : Nat → Int32) (ri : Nat → Int32) (pi : Nat → Int32) (pw : Nat → Int32) (K : Nat) (Dn : Nat) (mv : Int32) (ko : Nat → Int32) (so : Nat → Int32) (tl : Nat → Int32) (lp : Nat → Int32) (lb : Nat → Int32) (ld : Nat → Int32) (le : Nat → Int32) (C : Nat) (cl : Nat → Int32) (dq : Nat → Int32) (dy : Int32) (x : Int32) (sz : Nat) (hBad : ¬ jIn C x = true) : vx_Met l yX2_find wsX2_find ({ frames := 7, cells := 1, slots := 6, locals := 111 } : Room) (xrP [.ref (ad 14), .int x] D sz (wKc ad cI cd te ri pi pw K Dn mv ko so tl lp lb ld le C cl dq dy) [(cI, .int)]) xrN (xrX "java/lang/IndexOutOfBoundsException" sz) 1 6 (fun q => sz ≤ q) := by
  refine vx_ofW (cc := cX2_find) (maxL := 2) (ret := (some .int)) (by decide) rfl ?_
  intro p e s m args below meth c s₁ B hml hex hv
  obtain ⟨rfl, hsz, hP, hK, hX⟩ := hv
  have hx := B.exec
  have hb := B.bytes
  have hr := B.returns
  have hts := atoms_spec (ws := wsX2_find) B.pre
  have hown : s.vm.findClass RX2 = some m.cls := findClass_of_methodNamed B.named
  have hlocks := B.notSynchronized
  subst hsz
  have hS : va_S (fun q => s.heap.size ≤ q) s.heap s.heap [] := va_S.rf
  have hA : ∀ q : Nat, s.heap.size ≤ q → s.heap.size ≤ q := fun q h => h
  have hl := lv_entry ([.ref (ad 14), .int x]) (n := 2) (Nat.le_of_ble_eq_true rfl)
  rw [lg_entry_eq]
  generalize (lg_sl ([.ref (ad 14), .int x]) ++ List.replicate (2 - (lg_sl ([.ref (ad 14), .int x])).length) Slot.unset).toArray = ls at hl ⊢
  have hl : lv_has ls 2 [(0, .ref (ad 14)), (1, .int x)] := hl
  refine lv_aload_n hx hb dX2_find_0 rfl (lv_at hl 0 rfl) ?_
  refine lv_iload_n hx hb dX2_find_1 rfl (lv_at hl 1 rfl) ?_
  refine kc_xV (E := "java/lang/IndexOutOfBoundsException") (As := [.int x]) (rest := []) ⟨hx, hb, hml, hown, hts⟩ (c_X2_needCopy_x l hlf D ad cI cd te ri pi pw K Dn mv ko so tl lp lb ld le C cl dq dy x s.heap.size hBad) (cwV 1 hts gX2_find_X2_needCopy rfl rfl rfl (by decide +kernel) ⟨Nat.le_of_ble_eq_true rfl, Nat.le_of_ble_eq_true rfl⟩) hK hP hX [0, 1, 2, 3, 4, 5, 6, 7, 8, 9, 10, 11, 12, 13, 14, 15, 16] [0] rfl rfl 14 rfl rfl rfl rfl hl.1 rfl (Nat.le_of_ble_eq_true rfl) dX2_find_2 ⟨Nat.le_of_ble_eq_true rfl, Nat.le_of_ble_eq_true rfl⟩ hS hA (fun ce q9 H1 locs1 hz hk9 hS1 hce hcv hcl => ?_)
  exact kc_xout hex hlocks hz hk9 hS1 hce hcv hcl (Nat.le_of_ble_eq_true rfl) (Nat.le_of_ble_eq_true rfl)
set_option maxHeartbeats 4000000 in
set_option maxRecDepth 100000 in
theorem c_X2_setRights_f1 (l : Launch) (hlf : l.stackTraces = false) (D : va_G) (ad : Nat → Nat) (cI : ClassId) (cd : Nat → Int32) (te : Nat → Int32) (ri : Nat → Int32) (pi : Nat → Int32) (pw : Nat → Int32) (K : Nat) (Dn : Nat) (mv : Int32) (ko : Nat → Int32) (so : Nat → Int32) (tl : Nat → Int32) (lp : Nat → Int32) (lb : Nat → Int32) (ld : Nat → Int32) (le : Nat → Int32) (C : Nat) (cl : Nat → Int32) (dq : Nat → Int32) (dy : Int32) (x : Int32) (r : Int32) (sz : Nat) (hBad : ¬ jIn Dn x = true) : vx_Met l yX2_setRights wsX2_setRights ({ frames := 7, cells := 1, slots := 6, locals := 111 } : Room) (xrP [.ref (ad 14), .int x, .int r] D sz (wKc ad cI cd te ri pi pw K Dn mv ko so tl lp lb ld le C cl dq dy) [(cI, .int)]) xrN (xrX "java/lang/IndexOutOfBoundsException" sz) 1 6 (fun q => sz ≤ q) := by
  refine vx_ofW (cc := cX2_setRights) (maxL := 4) (ret := (some .int)) (by decide) rfl ?_
  intro p e s m args below meth c s₁ B hml hex hv
  obtain ⟨rfl, hsz, hP, hK, hX⟩ := hv
  have hx := B.exec
  have hb := B.bytes
  have hr := B.returns
  have hts := atoms_spec (ws := wsX2_setRights) B.pre
  have hown : s.vm.findClass RX2 = some m.cls := findClass_of_methodNamed B.named
  have hlocks := B.notSynchronized
  subst hsz
  have hS : va_S (fun q => s.heap.size ≤ q) s.heap s.heap [] := va_S.rf
  have hA : ∀ q : Nat, s.heap.size ≤ q → s.heap.size ≤ q := fun q h => h
  have hl := lv_entry ([.ref (ad 14), .int x, .int r]) (n := 4) (Nat.le_of_ble_eq_true rfl)
  rw [lg_entry_eq]
  generalize (lg_sl ([.ref (ad 14), .int x, .int r]) ++ List.replicate (4 - (lg_sl ([.ref (ad 14), .int x, .int r])).length) Slot.unset).toArray = ls at hl ⊢
  have hl : lv_has ls 4 [(0, .ref (ad 14)), (1, .int x), (2, .int r)] := hl
  refine lv_aload_n hx hb dX2_setRights_0 rfl (lv_at hl 0 rfl) ?_
  refine lv_iload_n hx hb dX2_setRights_1 rfl (lv_at hl 1 rfl) ?_
  refine kc_xV (E := "java/lang/IndexOutOfBoundsException") (As := [.int x]) (rest := []) ⟨hx, hb, hml, hown, hts⟩ (c_X2_needDoor_x l hlf D ad cI cd te ri pi pw K Dn mv ko so tl lp lb ld le C cl dq dy x s.heap.size hBad) (cwV 1 hts gX2_setRights_X2_needDoor rfl rfl rfl (by decide +kernel) ⟨Nat.le_of_ble_eq_true rfl, Nat.le_of_ble_eq_true rfl⟩) hK hP hX [0, 1, 2, 3, 4, 5, 6, 7, 8, 9, 10, 11, 12, 13, 14, 15, 16] [0] rfl rfl 14 rfl rfl rfl rfl hl.1 rfl (Nat.le_of_ble_eq_true rfl) dX2_setRights_2 ⟨Nat.le_of_ble_eq_true rfl, Nat.le_of_ble_eq_true rfl⟩ hS hA (fun ce q9 H1 locs1 hz hk9 hS1 hce hcv hcl => ?_)
  exact kc_xout hex hlocks hz hk9 hS1 hce hcv hcl (Nat.le_of_ble_eq_true rfl) (Nat.le_of_ble_eq_true rfl)
set_option maxHeartbeats 4000000 in
set_option maxRecDepth 100000 in
theorem c_X2_setRights_f2 (l : Launch) (hlf : l.stackTraces = false) (D : va_G) (ad : Nat → Nat) (cI : ClassId) (cd : Nat → Int32) (te : Nat → Int32) (ri : Nat → Int32) (pi : Nat → Int32) (pw : Nat → Int32) (K : Nat) (Dn : Nat) (mv : Int32) (ko : Nat → Int32) (so : Nat → Int32) (tl : Nat → Int32) (lp : Nat → Int32) (lb : Nat → Int32) (ld : Nat → Int32) (le : Nat → Int32) (C : Nat) (cl : Nat → Int32) (dq : Nat → Int32) (dy : Int32) (d : Nat) (r : Int32) (sz : Nat) (hD8 : Dn ≤ 8) (hd : d < Dn) (hBad : ¬ jSetOf K r = true) : vx_Met l yX2_setRights wsX2_setRights ({ frames := 7, cells := 1, slots := 6, locals := 111 } : Room) (xrP [.ref (ad 14), .int (nI d), .int r] D sz (wKc ad cI cd te ri pi pw K Dn mv ko so tl lp lb ld le C cl dq dy) [(cI, .int)]) xrN (xrX "java/lang/IllegalArgumentException" sz) 1 6 (fun q => sz ≤ q) := by
  refine vx_ofW (cc := cX2_setRights) (maxL := 4) (ret := (some .int)) (by decide) rfl ?_
  intro p e s m args below meth c s₁ B hml hex hv
  obtain ⟨rfl, hsz, hP, hK, hX⟩ := hv
  have hx := B.exec
  have hb := B.bytes
  have hr := B.returns
  have hts := atoms_spec (ws := wsX2_setRights) B.pre
  have hown : s.vm.findClass RX2 = some m.cls := findClass_of_methodNamed B.named
  have hlocks := B.notSynchronized
  subst hsz
  have hS : va_S (fun q => s.heap.size ≤ q) s.heap s.heap [] := va_S.rf
  have hA : ∀ q : Nat, s.heap.size ≤ q → s.heap.size ≤ q := fun q h => h
  have hl := lv_entry ([.ref (ad 14), .int (nI d), .int r]) (n := 4) (Nat.le_of_ble_eq_true rfl)
  rw [lg_entry_eq]
  generalize (lg_sl ([.ref (ad 14), .int (nI d), .int r]) ++ List.replicate (4 - (lg_sl ([.ref (ad 14), .int (nI d), .int r])).length) Slot.unset).toArray = ls at hl ⊢
  have hl : lv_has ls 4 [(0, .ref (ad 14)), (1, .int (nI d)), (2, .int r)] := hl
  refine lv_aload_n hx hb dX2_setRights_0 rfl (lv_at hl 0 rfl) ?_
  refine lv_iload_n hx hb dX2_setRights_1 rfl (lv_at hl 1 rfl) ?_
  refine kc_rVv (As := [.int (nI d)]) (rest := []) ⟨hx, hb, hml, hown, hts⟩ (c_X2_needDoor l D ad cI cd te ri pi pw K Dn mv ko so tl lp lb ld le C cl dq dy d hd hD8) (cwV 1 hts gX2_setRights_X2_needDoor rfl rfl rfl (by decide +kernel) ⟨Nat.le_of_ble_eq_true rfl, Nat.le_of_ble_eq_true rfl⟩) hK hP [0, 1, 2, 3, 4, 5, 6, 7, 8, 9, 10, 11, 12, 13, 14, 15, 16] [0] rfl rfl 14 rfl rfl rfl rfl hl.1 rfl (Nat.le_of_ble_eq_true rfl) dX2_setRights_2 ⟨Nat.le_of_ble_eq_true rfl, Nat.le_of_ble_eq_true rfl⟩ ?_
  refine lv_aload_n hx hb dX2_setRights_5 rfl (lv_at hl 0 rfl) ?_
  refine lv_iload_n hx hb dX2_setRights_6 rfl (lv_at hl 2 rfl) ?_
  refine kc_xV (E := "java/lang/IllegalArgumentException") (As := [.int r]) (rest := []) ⟨hx, hb, hml, hown, hts⟩ (c_X2_needRights_x l hlf D ad cI cd te ri pi pw K Dn mv ko so tl lp lb ld le C cl dq dy r s.heap.size hBad) (cwV 1 hts gX2_setRights_X2_needRights rfl rfl rfl (by decide +kernel) ⟨Nat.le_of_ble_eq_true rfl, Nat.le_of_ble_eq_true rfl⟩) hK hP hX [0, 1, 2, 3, 4, 5, 6, 7, 8, 9, 10, 11, 12, 13, 14, 15, 16] [0] rfl rfl 14 rfl rfl rfl rfl hl.1 rfl (Nat.le_of_ble_eq_true rfl) dX2_setRights_7 ⟨Nat.le_of_ble_eq_true rfl, Nat.le_of_ble_eq_true rfl⟩ hS hA (fun ce q9 H1 locs1 hz hk9 hS1 hce hcv hcl => ?_)
  exact kc_xout hex hlocks hz hk9 hS1 hce hcv hcl (Nat.le_of_ble_eq_true rfl) (Nat.le_of_ble_eq_true rfl)
set_option maxHeartbeats 4000000 in
set_option maxRecDepth 100000 in
theorem c_X2_pins_f1 (l : Launch) (hlf : l.stackTraces = false) (D : va_G) (ad : Nat → Nat) (cI : ClassId) (cd : Nat → Int32) (te : Nat → Int32) (ri : Nat → Int32) (pi : Nat → Int32) (pw : Nat → Int32) (K : Nat) (Dn : Nat) (mv : Int32) (ko : Nat → Int32) (so : Nat → Int32) (tl : Nat → Int32) (lp : Nat → Int32) (lb : Nat → Int32) (ld : Nat → Int32) (le : Nat → Int32) (C : Nat) (cl : Nat → Int32) (dq : Nat → Int32) (dy : Int32) (x : Int32) (po : Int32) (sz : Nat) (hBad : ¬ jIn Dn x = true) : vx_Met l yX2_pins wsX2_pins ({ frames := 7, cells := 1, slots := 6, locals := 111 } : Room) (xrP [.ref (ad 14), .int x, .int po] D sz (wKc ad cI cd te ri pi pw K Dn mv ko so tl lp lb ld le C cl dq dy) [(cI, .int)]) xrN (xrX "java/lang/IndexOutOfBoundsException" sz) 1 6 (fun q => sz ≤ q) := by
  refine vx_ofW (cc := cX2_pins) (maxL := 3) (ret := (some .int)) (by decide) rfl ?_
  intro p e s m args below meth c s₁ B hml hex hv
  obtain ⟨rfl, hsz, hP, hK, hX⟩ := hv
  have hx := B.exec
  have hb := B.bytes
  have hr := B.returns
  have hts := atoms_spec (ws := wsX2_pins) B.pre
  have hown : s.vm.findClass RX2 = some m.cls := findClass_of_methodNamed B.named
  have hlocks := B.notSynchronized
  subst hsz
  have hS : va_S (fun q => s.heap.size ≤ q) s.heap s.heap [] := va_S.rf
  have hA : ∀ q : Nat, s.heap.size ≤ q → s.heap.size ≤ q := fun q h => h
  have hl := lv_entry ([.ref (ad 14), .int x, .int po]) (n := 3) (Nat.le_of_ble_eq_true rfl)
  rw [lg_entry_eq]
  generalize (lg_sl ([.ref (ad 14), .int x, .int po]) ++ List.replicate (3 - (lg_sl ([.ref (ad 14), .int x, .int po])).length) Slot.unset).toArray = ls at hl ⊢
  have hl : lv_has ls 3 [(0, .ref (ad 14)), (1, .int x), (2, .int po)] := hl
  refine lv_aload_n hx hb dX2_pins_0 rfl (lv_at hl 0 rfl) ?_
  refine lv_iload_n hx hb dX2_pins_1 rfl (lv_at hl 1 rfl) ?_
  refine kc_xV (E := "java/lang/IndexOutOfBoundsException") (As := [.int x]) (rest := []) ⟨hx, hb, hml, hown, hts⟩ (c_X2_needDoor_x l hlf D ad cI cd te ri pi pw K Dn mv ko so tl lp lb ld le C cl dq dy x s.heap.size hBad) (cwV 1 hts gX2_pins_X2_needDoor rfl rfl rfl (by decide +kernel) ⟨Nat.le_of_ble_eq_true rfl, Nat.le_of_ble_eq_true rfl⟩) hK hP hX [0, 1, 2, 3, 4, 5, 6, 7, 8, 9, 10, 11, 12, 13, 14, 15, 16] [0] rfl rfl 14 rfl rfl rfl rfl hl.1 rfl (Nat.le_of_ble_eq_true rfl) dX2_pins_2 ⟨Nat.le_of_ble_eq_true rfl, Nat.le_of_ble_eq_true rfl⟩ hS hA (fun ce q9 H1 locs1 hz hk9 hS1 hce hcv hcl => ?_)
  exact kc_xout hex hlocks hz hk9 hS1 hce hcv hcl (Nat.le_of_ble_eq_true rfl) (Nat.le_of_ble_eq_true rfl)
set_option maxHeartbeats 4000000 in
set_option maxRecDepth 100000 in
theorem c_X2_pins_f2 (l : Launch) (hlf : l.stackTraces = false) (D : va_G) (ad : Nat → Nat) (cI : ClassId) (cd : Nat → Int32) (te : Nat → Int32) (ri : Nat → Int32) (pi : Nat → Int32) (pw : Nat → Int32) (K : Nat) (Dn : Nat) (mv : Int32) (ko : Nat → Int32) (so : Nat → Int32) (tl : Nat → Int32) (lp : Nat → Int32) (lb : Nat → Int32) (ld : Nat → Int32) (le : Nat → Int32) (C : Nat) (cl : Nat → Int32) (dq : Nat → Int32) (dy : Int32) (d : Nat) (po : Int32) (sz : Nat) (hD8 : Dn ≤ 8) (hd : d < Dn) (hBad : ¬ jIn 5 po = true) : vx_Met l yX2_pins wsX2_pins ({ frames := 6, cells := 1, slots := 6, locals := 90 } : Room) (xrP [.ref (ad 14), .int (nI d), .int po] D sz (wKc ad cI cd te ri pi pw K Dn mv ko so tl lp lb ld le C cl dq dy) [(cI, .int)]) xrN (xrX "java/lang/IndexOutOfBoundsException" sz) 1 6 (fun q => sz ≤ q) := by
  refine vx_ofW (cc := cX2_pins) (maxL := 3) (ret := (some .int)) (by decide) rfl ?_
  intro p e s m args below meth c s₁ B hml hex hv
  obtain ⟨rfl, hsz, hP, hK, hX⟩ := hv
  have hx := B.exec
  have hb := B.bytes
  have hr := B.returns
  have hts := atoms_spec (ws := wsX2_pins) B.pre
  have hown : s.vm.findClass RX2 = some m.cls := findClass_of_methodNamed B.named
  have hlocks := B.notSynchronized
  subst hsz
  have hS : va_S (fun q => s.heap.size ≤ q) s.heap s.heap [] := va_S.rf
  have hA : ∀ q : Nat, s.heap.size ≤ q → s.heap.size ≤ q := fun q h => h
  have hl := lv_entry ([.ref (ad 14), .int (nI d), .int po]) (n := 3) (Nat.le_of_ble_eq_true rfl)
  rw [lg_entry_eq]
  generalize (lg_sl ([.ref (ad 14), .int (nI d), .int po]) ++ List.replicate (3 - (lg_sl ([.ref (ad 14), .int (nI d), .int po])).length) Slot.unset).toArray = ls at hl ⊢
  have hl : lv_has ls 3 [(0, .ref (ad 14)), (1, .int (nI d)), (2, .int po)] := hl
  refine lv_aload_n hx hb dX2_pins_0 rfl (lv_at hl 0 rfl) ?_
  refine lv_iload_n hx hb dX2_pins_1 rfl (lv_at hl 1 rfl) ?_
  refine kc_rVv (As := [.int (nI d)]) (rest := []) ⟨hx, hb, hml, hown, hts⟩ (c_X2_needDoor l D ad cI cd te ri pi pw K Dn mv ko so tl lp lb ld le C cl dq dy d hd hD8) (cwV 1 hts gX2_pins_X2_needDoor rfl rfl rfl (by decide +kernel) ⟨Nat.le_of_ble_eq_true rfl, Nat.le_of_ble_eq_true rfl⟩) hK hP [0, 1, 2, 3, 4, 5, 6, 7, 8, 9, 10, 11, 12, 13, 14, 15, 16] [0] rfl rfl 14 rfl rfl rfl rfl hl.1 rfl (Nat.le_of_ble_eq_true rfl) dX2_pins_2 ⟨Nat.le_of_ble_eq_true rfl, Nat.le_of_ble_eq_true rfl⟩ ?_
  refine lv_iload_n hx hb dX2_pins_5 rfl (lv_at hl 2 rfl) ?_
  refine lv_if_lt (tgt := 14) hx hb dX2_pins_6 (by decide) (fun c_6 => ?_) (fun c_6 => ?_)
  · obtain ⟨sa, hsa⟩ := hX.2.2.2.1 (89, "a position is 0 to 4") (by decide +kernel)
    exact vx_throwS (names := ["java/lang/RuntimeException", "java/lang/Exception"]) (A := fun q => s.heap.size ≤ q) hx hb hlf hown (by decide +kernel) kcT_fit (hts (.classLink RX2 87 "java/lang/IndexOutOfBoundsException") (by decide +kernel)) (hts (.initialized "java/lang/IndexOutOfBoundsException") (by decide +kernel)) hsa (vx_hat (fun w hw => hts w (by simp only [wsX2_pins, List.mem_cons, List.mem_append, hw, or_true, true_or])) kcT91_bad (fun w hw => va_Nw.use (kcBads_tab w hw) (hX.2.2.1 w hw))) kcT91_ot hX.1 hX.2.1 hS (hl.1.trans hml.symm) dX2_pins_14 dX2_pins_17 dX2_pins_18 dX2_pins_20 dX2_pins_23 (fun x h9 => (hex x h9).elim) (Nat.le_of_ble_eq_true rfl) (Nat.le_of_ble_eq_true rfl) (Nat.le_of_ble_eq_true rfl) (Nat.le_of_ble_eq_true rfl) hlocks (fun t h1 h2 h3 => ⟨(), trivial, rfl, h2, fun q hq _ => h3 q hq⟩) (fun _ h => nomatch h) (Nat.le_of_ble_eq_true rfl) (Nat.le_of_ble_eq_true rfl)
  · refine lv_iload_n hx hb dX2_pins_9 rfl (lv_at hl 2 rfl) ?_
    refine lv_iconst (v := 5) hx hb dX2_pins_10 (by decide) ?_
    refine lv_icmp_lt (tgt := 24) hx hb dX2_pins_11 (by decide) (fun c_11 => ?_) (fun c_11 => ?_)
    · exact absurd (decide_eq_true ⟨c_6, kc_nle c_11⟩) hBad
    · obtain ⟨sa, hsa⟩ := hX.2.2.2.1 (89, "a position is 0 to 4") (by decide +kernel)
      exact vx_throwS (names := ["java/lang/RuntimeException", "java/lang/Exception"]) (A := fun q => s.heap.size ≤ q) hx hb hlf hown (by decide +kernel) kcT_fit (hts (.classLink RX2 87 "java/lang/IndexOutOfBoundsException") (by decide +kernel)) (hts (.initialized "java/lang/IndexOutOfBoundsException") (by decide +kernel)) hsa (vx_hat (fun w hw => hts w (by simp only [wsX2_pins, List.mem_cons, List.mem_append, hw, or_true, true_or])) kcT91_bad (fun w hw => va_Nw.use (kcBads_tab w hw) (hX.2.2.1 w hw))) kcT91_ot hX.1 hX.2.1 hS (hl.1.trans hml.symm) dX2_pins_14 dX2_pins_17 dX2_pins_18 dX2_pins_20 dX2_pins_23 (fun x h9 => (hex x h9).elim) (Nat.le_of_ble_eq_true rfl) (Nat.le_of_ble_eq_true rfl) (Nat.le_of_ble_eq_true rfl) (Nat.le_of_ble_eq_true rfl) hlocks (fun t h1 h2 h3 => ⟨(), trivial, rfl, h2, fun q hq _ => h3 q hq⟩) (fun _ h => nomatch h) (Nat.le_of_ble_eq_true rfl) (Nat.le_of_ble_eq_true rfl)
set_option maxHeartbeats 4000000 in
set_option maxRecDepth 100000 in
theorem c_X2_opens_f1 (l : Launch) (hlf : l.stackTraces = false) (D : va_G) (ad : Nat → Nat) (cI : ClassId) (cd : Nat → Int32) (te : Nat → Int32) (ri : Nat → Int32) (pi : Nat → Int32) (pw : Nat → Int32) (K : Nat) (Dn : Nat) (mv : Int32) (ko : Nat → Int32) (so : Nat → Int32) (tl : Nat → Int32) (lp : Nat → Int32) (lb : Nat → Int32) (ld : Nat → Int32) (le : Nat → Int32) (C : Nat) (cl : Nat → Int32) (dq : Nat → Int32) (dy : Int32) (x : Int32) (y : Int32) (sz : Nat) (hBad : ¬ jIn K x = true) : vx_Met l yX2_opens wsX2_opens ({ frames := 7, cells := 1, slots := 6, locals := 111 } : Room) (xrP [.ref (ad 14), .int x, .int y] D sz (wKc ad cI cd te ri pi pw K Dn mv ko so tl lp lb ld le C cl dq dy) [(cI, .int)]) xrN (xrX "java/lang/IndexOutOfBoundsException" sz) 1 6 (fun q => sz ≤ q) := by
  refine vx_ofW (cc := cX2_opens) (maxL := 3) (ret := (some .boolean)) (by decide) rfl ?_
  intro p e s m args below meth c s₁ B hml hex hv
  obtain ⟨rfl, hsz, hP, hK, hX⟩ := hv
  have hx := B.exec
  have hb := B.bytes
  have hr := B.returns
  have hts := atoms_spec (ws := wsX2_opens) B.pre
  have hown : s.vm.findClass RX2 = some m.cls := findClass_of_methodNamed B.named
  have hlocks := B.notSynchronized
  subst hsz
  have hS : va_S (fun q => s.heap.size ≤ q) s.heap s.heap [] := va_S.rf
  have hA : ∀ q : Nat, s.heap.size ≤ q → s.heap.size ≤ q := fun q h => h
  have hl := lv_entry ([.ref (ad 14), .int x, .int y]) (n := 3) (Nat.le_of_ble_eq_true rfl)
  rw [lg_entry_eq]
  generalize (lg_sl ([.ref (ad 14), .int x, .int y]) ++ List.replicate (3 - (lg_sl ([.ref (ad 14), .int x, .int y])).length) Slot.unset).toArray = ls at hl ⊢
  have hl : lv_has ls 3 [(0, .ref (ad 14)), (1, .int x), (2, .int y)] := hl
  refine lv_aload_n hx hb dX2_opens_0 rfl (lv_at hl 0 rfl) ?_
  refine lv_iload_n hx hb dX2_opens_1 rfl (lv_at hl 1 rfl) ?_
  refine kc_xV (E := "java/lang/IndexOutOfBoundsException") (As := [.int x]) (rest := []) ⟨hx, hb, hml, hown, hts⟩ (c_X2_needKey_x l hlf D ad cI cd te ri pi pw K Dn mv ko so tl lp lb ld le C cl dq dy x s.heap.size hBad) (cwV 1 hts gX2_opens_X2_needKey rfl rfl rfl (by decide +kernel) ⟨Nat.le_of_ble_eq_true rfl, Nat.le_of_ble_eq_true rfl⟩) hK hP hX [0, 1, 2, 3, 4, 5, 6, 7, 8, 9, 10, 11, 12, 13, 14, 15, 16] [0] rfl rfl 14 rfl rfl rfl rfl hl.1 rfl (Nat.le_of_ble_eq_true rfl) dX2_opens_2 ⟨Nat.le_of_ble_eq_true rfl, Nat.le_of_ble_eq_true rfl⟩ hS hA (fun ce q9 H1 locs1 hz hk9 hS1 hce hcv hcl => ?_)
  exact kc_xout hex hlocks hz hk9 hS1 hce hcv hcl (Nat.le_of_ble_eq_true rfl) (Nat.le_of_ble_eq_true rfl)
set_option maxHeartbeats 4000000 in
set_option maxRecDepth 100000 in
theorem c_X2_opens_f2 (l : Launch) (hlf : l.stackTraces = false) (D : va_G) (ad : Nat → Nat) (cI : ClassId) (cd : Nat → Int32) (te : Nat → Int32) (ri : Nat → Int32) (pi : Nat → Int32) (pw : Nat → Int32) (K : Nat) (Dn : Nat) (mv : Int32) (ko : Nat → Int32) (so : Nat → Int32) (tl : Nat → Int32) (lp : Nat → Int32) (lb : Nat → Int32) (ld : Nat → Int32) (le : Nat → Int32) (C : Nat) (cl : Nat → Int32) (dq : Nat → Int32) (dy : Int32) (k : Nat) (y : Int32) (sz : Nat) (hK8 : K ≤ 8) (hk : k < K) (hBad : ¬ jIn Dn y = true) : vx_Met l yX2_opens wsX2_opens ({ frames := 7, cells := 1, slots := 6, locals := 111 } : Room) (xrP [.ref (ad 14), .int (nI k), .int y] D sz (wKc ad cI cd te ri pi pw K Dn mv ko so tl lp lb ld le C cl dq dy) [(cI, .int)]) xrN (xrX "java/lang/IndexOutOfBoundsException" sz) 1 6 (fun q => sz ≤ q) := by
  refine vx_ofW (cc := cX2_opens) (maxL := 3) (ret := (some .boolean)) (by decide) rfl ?_
  intro p e s m args below meth c s₁ B hml hex hv
  obtain ⟨rfl, hsz, hP, hK, hX⟩ := hv
  have hx := B.exec
  have hb := B.bytes
  have hr := B.returns
  have hts := atoms_spec (ws := wsX2_opens) B.pre
  have hown : s.vm.findClass RX2 = some m.cls := findClass_of_methodNamed B.named
  have hlocks := B.notSynchronized
  subst hsz
  have hS : va_S (fun q => s.heap.size ≤ q) s.heap s.heap [] := va_S.rf
  have hA : ∀ q : Nat, s.heap.size ≤ q → s.heap.size ≤ q := fun q h => h
  have hl := lv_entry ([.ref (ad 14), .int (nI k), .int y]) (n := 3) (Nat.le_of_ble_eq_true rfl)
  rw [lg_entry_eq]
  generalize (lg_sl ([.ref (ad 14), .int (nI k), .int y]) ++ List.replicate (3 - (lg_sl ([.ref (ad 14), .int (nI k), .int y])).length) Slot.unset).toArray = ls at hl ⊢
  have hl : lv_has ls 3 [(0, .ref (ad 14)), (1, .int (nI k)), (2, .int y)] := hl
  refine lv_aload_n hx hb dX2_opens_0 rfl (lv_at hl 0 rfl) ?_
  refine lv_iload_n hx hb dX2_opens_1 rfl (lv_at hl 1 rfl) ?_
  refine kc_rVv (As := [.int (nI k)]) (rest := []) ⟨hx, hb, hml, hown, hts⟩ (c_X2_needKey l D ad cI cd te ri pi pw K Dn mv ko so tl lp lb ld le C cl dq dy k hk hK8) (cwV 1 hts gX2_opens_X2_needKey rfl rfl rfl (by decide +kernel) ⟨Nat.le_of_ble_eq_true rfl, Nat.le_of_ble_eq_true rfl⟩) hK hP [0, 1, 2, 3, 4, 5, 6, 7, 8, 9, 10, 11, 12, 13, 14, 15, 16] [0] rfl rfl 14 rfl rfl rfl rfl hl.1 rfl (Nat.le_of_ble_eq_true rfl) dX2_opens_2 ⟨Nat.le_of_ble_eq_true rfl, Nat.le_of_ble_eq_true rfl⟩ ?_
  refine lv_aload_n hx hb dX2_opens_5 rfl (lv_at hl 0 rfl) ?_
  refine lv_iload_n hx hb dX2_opens_6 rfl (lv_at hl 2 rfl) ?_
  refine kc_xV (E := "java/lang/IndexOutOfBoundsException") (As := [.int y]) (rest := []) ⟨hx, hb, hml, hown, hts⟩ (c_X2_needDoor_x l hlf D ad cI cd te ri pi pw K Dn mv ko so tl lp lb ld le C cl dq dy y s.heap.size hBad) (cwV 1 hts gX2_opens_X2_needDoor rfl rfl rfl (by decide +kernel) ⟨Nat.le_of_ble_eq_true rfl, Nat.le_of_ble_eq_true rfl⟩) hK hP hX [0, 1, 2, 3, 4, 5, 6, 7, 8, 9, 10, 11, 12, 13, 14, 15, 16] [0] rfl rfl 14 rfl rfl rfl rfl hl.1 rfl (Nat.le_of_ble_eq_true rfl) dX2_opens_7 ⟨Nat.le_of_ble_eq_true rfl, Nat.le_of_ble_eq_true rfl⟩ hS hA (fun ce q9 H1 locs1 hz hk9 hS1 hce hcv hcl => ?_)
  exact kc_xout hex hlocks hz hk9 hS1 hce hcv hcl (Nat.le_of_ble_eq_true rfl) (Nat.le_of_ble_eq_true rfl)
set_option maxHeartbeats 4000000 in
set_option maxRecDepth 100000 in
theorem c_X2_isAbove_f1 (l : Launch) (hlf : l.stackTraces = false) (D : va_G) (ad : Nat → Nat) (cI : ClassId) (cd : Nat → Int32) (te : Nat → Int32) (ri : Nat → Int32) (pi : Nat → Int32) (pw : Nat → Int32) (K : Nat) (Dn : Nat) (mv : Int32) (ko : Nat → Int32) (so : Nat → Int32) (tl : Nat → Int32) (lp : Nat → Int32) (lb : Nat → Int32) (ld : Nat → Int32) (le : Nat → Int32) (C : Nat) (cl : Nat → Int32) (dq : Nat → Int32) (dy : Int32) (x : Int32) (y : Int32) (sz : Nat) (hBad : ¬ jIn K x = true) : vx_Met l yX2_isAbove wsX2_isAbove ({ frames := 7, cells := 1, slots := 6, locals := 111 } : Room) (xrP [.ref (ad 14), .int x, .int y] D sz (wKc ad cI cd te ri pi pw K Dn mv ko so tl lp lb ld le C cl dq dy) [(cI, .int)]) xrN (xrX "java/lang/IndexOutOfBoundsException" sz) 1 6 (fun q => sz ≤ q) := by
  refine vx_ofW (cc := cX2_isAbove) (maxL := 5) (ret := (some .boolean)) (by decide) rfl ?_
  intro p e s m args below meth c s₁ B hml hex hv
  obtain ⟨rfl, hsz, hP, hK, hX⟩ := hv
  have hx := B.exec
  have hb := B.bytes
  have hr := B.returns
  have hts := atoms_spec (ws := wsX2_isAbove) B.pre
  have hown : s.vm.findClass RX2 = some m.cls := findClass_of_methodNamed B.named
  have hlocks := B.notSynchronized
  subst hsz
  have hS : va_S (fun q => s.heap.size ≤ q) s.heap s.heap [] := va_S.rf
  have hA : ∀ q : Nat, s.heap.size ≤ q → s.heap.size ≤ q := fun q h => h
  have hl := lv_entry ([.ref (ad 14), .int x, .int y]) (n := 5) (Nat.le_of_ble_eq_true rfl)
  rw [lg_entry_eq]
  generalize (lg_sl ([.ref (ad 14), .int x, .int y]) ++ List.replicate (5 - (lg_sl ([.ref (ad 14), .int x, .int y])).length) Slot.unset).toArray = ls at hl ⊢
  have hl : lv_has ls 5 [(0, .ref (ad 14)), (1, .int x), (2, .int y)] := hl
  refine lv_aload_n hx hb dX2_isAbove_0 rfl (lv_at hl 0 rfl) ?_
  refine lv_iload_n hx hb dX2_isAbove_1 rfl (lv_at hl 1 rfl) ?_
  refine kc_xV (E := "java/lang/IndexOutOfBoundsException") (As := [.int x]) (rest := []) ⟨hx, hb, hml, hown, hts⟩ (c_X2_needKey_x l hlf D ad cI cd te ri pi pw K Dn mv ko so tl lp lb ld le C cl dq dy x s.heap.size hBad) (cwV 1 hts gX2_isAbove_X2_needKey rfl rfl rfl (by decide +kernel) ⟨Nat.le_of_ble_eq_true rfl, Nat.le_of_ble_eq_true rfl⟩) hK hP hX [0, 1, 2, 3, 4, 5, 6, 7, 8, 9, 10, 11, 12, 13, 14, 15, 16] [0] rfl rfl 14 rfl rfl rfl rfl hl.1 rfl (Nat.le_of_ble_eq_true rfl) dX2_isAbove_2 ⟨Nat.le_of_ble_eq_true rfl, Nat.le_of_ble_eq_true rfl⟩ hS hA (fun ce q9 H1 locs1 hz hk9 hS1 hce hcv hcl => ?_)
  exact kc_xout hex hlocks hz hk9 hS1 hce hcv hcl (Nat.le_of_ble_eq_true rfl) (Nat.le_of_ble_eq_true rfl)
set_option maxHeartbeats 4000000 in
set_option maxRecDepth 100000 in
theorem c_X2_isAbove_f2 (l : Launch) (hlf : l.stackTraces = false) (D : va_G) (ad : Nat → Nat) (cI : ClassId) (cd : Nat → Int32) (te : Nat → Int32) (ri : Nat → Int32) (pi : Nat → Int32) (pw : Nat → Int32) (K : Nat) (Dn : Nat) (mv : Int32) (ko : Nat → Int32) (so : Nat → Int32) (tl : Nat → Int32) (lp : Nat → Int32) (lb : Nat → Int32) (ld : Nat → Int32) (le : Nat → Int32) (C : Nat) (cl : Nat → Int32) (dq : Nat → Int32) (dy : Int32) (k : Nat) (y : Int32) (sz : Nat) (hK8 : K ≤ 8) (hk : k < K) (hBad : ¬ jIn K y = true) : vx_Met l yX2_isAbove wsX2_isAbove ({ frames := 7, cells := 1, slots := 6, locals := 111 } : Room) (xrP [.ref (ad 14), .int (nI k), .int y] D sz (wKc ad cI cd te ri pi pw K Dn mv ko so tl lp lb ld le C cl dq dy) [(cI, .int)]) xrN (xrX "java/lang/IndexOutOfBoundsException" sz) 1 6 (fun q => sz ≤ q) := by
  refine vx_ofW (cc := cX2_isAbove) (maxL := 5) (ret := (some .boolean)) (by decide) rfl ?_
  intro p e s m args below meth c s₁ B hml hex hv
  obtain ⟨rfl, hsz, hP, hK, hX⟩ := hv
  have hx := B.exec
  have hb := B.bytes
  have hr := B.returns
  have hts := atoms_spec (ws := wsX2_isAbove) B.pre
  have hown : s.vm.findClass RX2 = some m.cls := findClass_of_methodNamed B.named
  have hlocks := B.notSynchronized
  subst hsz
  have hS : va_S (fun q => s.heap.size ≤ q) s.heap s.heap [] := va_S.rf
  have hA : ∀ q : Nat, s.heap.size ≤ q → s.heap.size ≤ q := fun q h => h
  have hl := lv_entry ([.ref (ad 14), .int (nI k), .int y]) (n := 5) (Nat.le_of_ble_eq_true rfl)
  rw [lg_entry_eq]
  generalize (lg_sl ([.ref (ad 14), .int (nI k), .int y]) ++ List.replicate (5 - (lg_sl ([.ref (ad 14), .int (nI k), .int y])).length) Slot.unset).toArray = ls at hl ⊢
  have hl : lv_has ls 5 [(0, .ref (ad 14)), (1, .int (nI k)), (2, .int y)] := hl
  refine lv_aload_n hx hb dX2_isAbove_0 rfl (lv_at hl 0 rfl) ?_
  refine lv_iload_n hx hb dX2_isAbove_1 rfl (lv_at hl 1 rfl) ?_
  refine kc_rVv (As := [.int (nI k)]) (rest := []) ⟨hx, hb, hml, hown, hts⟩ (c_X2_needKey l D ad cI cd te ri pi pw K Dn mv ko so tl lp lb ld le C cl dq dy k hk hK8) (cwV 1 hts gX2_isAbove_X2_needKey rfl rfl rfl (by decide +kernel) ⟨Nat.le_of_ble_eq_true rfl, Nat.le_of_ble_eq_true rfl⟩) hK hP [0, 1, 2, 3, 4, 5, 6, 7, 8, 9, 10, 11, 12, 13, 14, 15, 16] [0] rfl rfl 14 rfl rfl rfl rfl hl.1 rfl (Nat.le_of_ble_eq_true rfl) dX2_isAbove_2 ⟨Nat.le_of_ble_eq_true rfl, Nat.le_of_ble_eq_true rfl⟩ ?_
  refine lv_aload_n hx hb dX2_isAbove_5 rfl (lv_at hl 0 rfl) ?_
  refine lv_iload_n hx hb dX2_isAbove_6 rfl (lv_at hl 2 rfl) ?_
  refine kc_xV (E := "java/lang/IndexOutOfBoundsException") (As := [.int y]) (rest := []) ⟨hx, hb, hml, hown, hts⟩ (c_X2_needKey_x l hlf D ad cI cd te ri pi pw K Dn mv ko so tl lp lb ld le C cl dq dy y s.heap.size hBad) (cwV 1 hts gX2_isAbove_X2_needKey rfl rfl rfl (by decide +kernel) ⟨Nat.le_of_ble_eq_true rfl, Nat.le_of_ble_eq_true rfl⟩) hK hP hX [0, 1, 2, 3, 4, 5, 6, 7, 8, 9, 10, 11, 12, 13, 14, 15, 16] [0] rfl rfl 14 rfl rfl rfl rfl hl.1 rfl (Nat.le_of_ble_eq_true rfl) dX2_isAbove_7 ⟨Nat.le_of_ble_eq_true rfl, Nat.le_of_ble_eq_true rfl⟩ hS hA (fun ce q9 H1 locs1 hz hk9 hS1 hce hcv hcl => ?_)
  exact kc_xout hex hlocks hz hk9 hS1 hce hcv hcl (Nat.le_of_ble_eq_true rfl) (Nat.le_of_ble_eq_true rfl)
set_option maxHeartbeats 4000000 in
set_option maxRecDepth 100000 in
theorem c_X2_addKey_f1 (l : Launch) (hlf : l.stackTraces = false) (D : va_G) (ad : Nat → Nat) (cI : ClassId) (cd : Nat → Int32) (te : Nat → Int32) (ri : Nat → Int32) (pi : Nat → Int32) (pw : Nat → Int32) (K : Nat) (Dn : Nat) (mv : Int32) (ko : Nat → Int32) (so : Nat → Int32) (tl : Nat → Int32) (lp : Nat → Int32) (lb : Nat → Int32) (ld : Nat → Int32) (le : Nat → Int32) (C : Nat) (cl : Nat → Int32) (dq : Nat → Int32) (dy : Int32) (code : Int32) (sz : Nat) (hBad : code < 0 ∨ (1024 : Int32) ≤ code) : vx_Met l yX2_addKey wsX2_addKey ({ frames := 6, cells := 1, slots := 6, locals := 90 } : Room) (xrP [.ref (ad 14), .int code] D sz (wKc ad cI cd te ri pi pw K Dn mv ko so tl lp lb ld le C cl dq dy) [(cI, .int)]) xrN (xrX "java/lang/IllegalArgumentException" sz) 1 6 (fun q => sz ≤ q) := by
  refine vx_ofW (cc := cX2_addKey) (maxL := 2) (ret := (some .int)) (by decide) rfl ?_
  intro p e s m args below meth c s₁ B hml hex hv
  obtain ⟨rfl, hsz, hP, hK, hX⟩ := hv
  have hx := B.exec
  have hb := B.bytes
  have hr := B.returns
  have hts := atoms_spec (ws := wsX2_addKey) B.pre
  have hown : s.vm.findClass RX2 = some m.cls := findClass_of_methodNamed B.named
  have hlocks := B.notSynchronized
  subst hsz
  have hS : va_S (fun q => s.heap.size ≤ q) s.heap s.heap [] := va_S.rf
  have hA : ∀ q : Nat, s.heap.size ≤ q → s.heap.size ≤ q := fun q h => h
  have hl := lv_entry ([.ref (ad 14), .int code]) (n := 2) (Nat.le_of_ble_eq_true rfl)
  rw [lg_entry_eq]
  generalize (lg_sl ([.ref (ad 14), .int code]) ++ List.replicate (2 - (lg_sl ([.ref (ad 14), .int code])).length) Slot.unset).toArray = ls at hl ⊢
  have hl : lv_has ls 2 [(0, .ref (ad 14)), (1, .int code)] := hl
  refine lv_iload_n hx hb dX2_addKey_0 rfl (lv_at hl 1 rfl) ?_
  refine lv_if_lt (tgt := 11) hx hb dX2_addKey_1 (by decide) (fun c_1 => ?_) (fun c_1 => ?_)
  · obtain ⟨sa, hsa⟩ := hX.2.2.2.1 (36, "a code is 0 to 1023") (by decide +kernel)
    exact vx_throwS (names := ["java/lang/RuntimeException", "java/lang/Exception"]) (A := fun q => s.heap.size ≤ q) hx hb hlf hown (by decide +kernel) kcT_fit (hts (.classLink RX2 34 "java/lang/IllegalArgumentException") (by decide +kernel)) (hts (.initialized "java/lang/IllegalArgumentException") (by decide +kernel)) hsa (vx_hat (fun w hw => hts w (by simp only [wsX2_addKey, List.mem_cons, List.mem_append, hw, or_true, true_or])) kcT38_bad (fun w hw => va_Nw.use (kcBads_tab w hw) (hX.2.2.1 w hw))) kcT38_ot hX.1 hX.2.1 hS (hl.1.trans hml.symm) dX2_addKey_11 dX2_addKey_14 dX2_addKey_15 dX2_addKey_17 dX2_addKey_20 (fun x h9 => (hex x h9).elim) (Nat.le_of_ble_eq_true rfl) (Nat.le_of_ble_eq_true rfl) (Nat.le_of_ble_eq_true rfl) (Nat.le_of_ble_eq_true rfl) hlocks (fun t h1 h2 h3 => ⟨(), trivial, rfl, h2, fun q hq _ => h3 q hq⟩) (fun _ h => nomatch h) (Nat.le_of_ble_eq_true rfl) (Nat.le_of_ble_eq_true rfl)
  · refine lv_iload_n hx hb dX2_addKey_4 rfl (lv_at hl 1 rfl) ?_
    refine lv_sipush (v := 1024) hx hb dX2_addKey_5 (by decide) ?_
    refine lv_icmp_lt (tgt := 21) hx hb dX2_addKey_8 (by decide) (fun c_8 => ?_) (fun c_8 => ?_)
    · exact hBad.elim (fun h => absurd h c_1) (fun h => absurd c_8 (kc_nlt h))
    · obtain ⟨sa, hsa⟩ := hX.2.2.2.1 (36, "a code is 0 to 1023") (by decide +kernel)
      exact vx_throwS (names := ["java/lang/RuntimeException", "java/lang/Exception"]) (A := fun q => s.heap.size ≤ q) hx hb hlf hown (by decide +kernel) kcT_fit (hts (.classLink RX2 34 "java/lang/IllegalArgumentException") (by decide +kernel)) (hts (.initialized "java/lang/IllegalArgumentException") (by decide +kernel)) hsa (vx_hat (fun w hw => hts w (by simp only [wsX2_addKey, List.mem_cons, List.mem_append, hw, or_true, true_or])) kcT38_bad (fun w hw => va_Nw.use (kcBads_tab w hw) (hX.2.2.1 w hw))) kcT38_ot hX.1 hX.2.1 hS (hl.1.trans hml.symm) dX2_addKey_11 dX2_addKey_14 dX2_addKey_15 dX2_addKey_17 dX2_addKey_20 (fun x h9 => (hex x h9).elim) (Nat.le_of_ble_eq_true rfl) (Nat.le_of_ble_eq_true rfl) (Nat.le_of_ble_eq_true rfl) (Nat.le_of_ble_eq_true rfl) hlocks (fun t h1 h2 h3 => ⟨(), trivial, rfl, h2, fun q hq _ => h3 q hq⟩) (fun _ h => nomatch h) (Nat.le_of_ble_eq_true rfl) (Nat.le_of_ble_eq_true rfl)
set_option maxHeartbeats 4000000 in
set_option maxRecDepth 100000 in
theorem c_X2_addKey_f2a (l : Launch) (hlf : l.stackTraces = false) (D : va_G) (ad : Nat → Nat) (cI : ClassId) (cd : Nat → Int32) (te : Nat → Int32) (ri : Nat → Int32) (pi : Nat → Int32) (pw : Nat → Int32) (K : Nat) (Dn : Nat) (mv : Int32) (ko : Nat → Int32) (so : Nat → Int32) (tl : Nat → Int32) (lp : Nat → Int32) (lb : Nat → Int32) (ld : Nat → Int32) (le : Nat → Int32) (C : Nat) (cl : Nat → Int32) (dq : Nat → Int32) (dy : Int32) (code : Int32) (sz : Nat) (h1 : ¬ code < 0) (h2 : code < 1024) (hKe : K = 8) : vx_Met l yX2_addKey wsX2_addKey ({ frames := 6, cells := 1, slots := 6, locals := 90 } : Room) (xrP [.ref (ad 14), .int code] D sz (wKc ad cI cd te ri pi pw K Dn mv ko so tl lp lb ld le C cl dq dy) [(cI, .int)]) xrN (xrX "java/lang/IllegalStateException" sz) 1 6 (fun q => sz ≤ q) := by
  refine vx_ofW (cc := cX2_addKey) (maxL := 2) (ret := (some .int)) (by decide) rfl ?_
  intro p e s m args below meth c s₁ B hml hex hv
  obtain ⟨rfl, hsz, hP, hK, hX⟩ := hv
  have hx := B.exec
  have hb := B.bytes
  have hr := B.returns
  have hts := atoms_spec (ws := wsX2_addKey) B.pre
  have hown : s.vm.findClass RX2 = some m.cls := findClass_of_methodNamed B.named
  have hlocks := B.notSynchronized
  subst hsz
  have hS : va_S (fun q => s.heap.size ≤ q) s.heap s.heap [] := va_S.rf
  have hA : ∀ q : Nat, s.heap.size ≤ q → s.heap.size ≤ q := fun q h => h
  have hinX1 : ∀ w ∈ u_ws RX1 TX1 8, w ∈ wsX2_addKey := by decide +kernel
  have hinX2 : ∀ w ∈ u_ws RX2 TX2 5, w ∈ wsX2_addKey := by decide +kernel
  have hf16 := hts (.fieldLink RX2 16 "KeyCabinet" "plan" "LKeyCabinet$Plan;") (by decide +kernel)
  have hf41 := hts (.fieldLink RX2 41 "KeyCabinet$Plan" "keys" "I") (by decide +kernel)
  have hl := lv_entry ([.ref (ad 14), .int code]) (n := 2) (Nat.le_of_ble_eq_true rfl)
  rw [lg_entry_eq]
  generalize (lg_sl ([.ref (ad 14), .int code]) ++ List.replicate (2 - (lg_sl ([.ref (ad 14), .int code])).length) Slot.unset).toArray = ls at hl ⊢
  have hl : lv_has ls 2 [(0, .ref (ad 14)), (1, .int code)] := hl
  refine lv_iload_n hx hb dX2_addKey_0 rfl (lv_at hl 1 rfl) ?_
  refine lv_if_lt (tgt := 11) hx hb dX2_addKey_1 (by decide) (fun c_1 => ?_) (fun c_1 => ?_)
  · exact absurd c_1 h1
  · refine lv_iload_n hx hb dX2_addKey_4 rfl (lv_at hl 1 rfl) ?_
    refine lv_sipush (v := 1024) hx hb dX2_addKey_5 (by decide) ?_
    refine lv_icmp_lt (tgt := 21) hx hb dX2_addKey_8 (by decide) (fun c_8 => ?_) (fun c_8 => ?_)
    · refine lv_aload_n hx hb dX2_addKey_21 rfl (lv_at hl 0 rfl) ?_
      refine va_get (D := D) (ci := 2) (v := .ref (ad 0)) (C := RX2) (T := TX2) (N := 5) hx hb hts hinX2 hown hK.1 hP 14 rfl rfl 0 (by decide) hf16 (fun _ h9 => h9) rfl dX2_addKey_22 ?_
      refine va_get (D := D) (ci := 1) (v := .int (nI K)) (C := RX1) (T := TX1) (N := 8) hx hb hts hinX1 hown hK.1 hP 0 rfl rfl 5 (by decide) hf41 (fun _ h9 => h9) rfl dX2_addKey_25 ?_
      refine lv_bipush (v := 8) hx hb dX2_addKey_28 (by decide) ?_
      refine lv_icmp_lt (tgt := 43) hx hb dX2_addKey_30 (by decide) (fun c_30 => ?_) (fun c_30 => ?_)
      · exact absurd c_30 (by rw [hKe]; decide)
      · obtain ⟨sa, hsa⟩ := hX.2.2.2.1 (46, "there are 8 keys") (by decide +kernel)
        exact vx_throwS (names := ["java/lang/RuntimeException", "java/lang/Exception"]) (A := fun q => s.heap.size ≤ q) hx hb hlf hown (by decide +kernel) kcT_fit (hts (.classLink RX2 44 "java/lang/IllegalStateException") (by decide +kernel)) (hts (.initialized "java/lang/IllegalStateException") (by decide +kernel)) hsa (vx_hat (fun w hw => hts w (by simp only [wsX2_addKey, List.mem_cons, List.mem_append, hw, or_true, true_or])) kcT48_bad (fun w hw => va_Nw.use (kcBads_tab w hw) (hX.2.2.1 w hw))) kcT48_ot hX.1 hX.2.1 hS (hl.1.trans hml.symm) dX2_addKey_33 dX2_addKey_36 dX2_addKey_37 dX2_addKey_39 dX2_addKey_42 (fun x h9 => (hex x h9).elim) (Nat.le_of_ble_eq_true rfl) (Nat.le_of_ble_eq_true rfl) (Nat.le_of_ble_eq_true rfl) (Nat.le_of_ble_eq_true rfl) hlocks (fun t h1 h2 h3 => ⟨(), trivial, rfl, h2, fun q hq _ => h3 q hq⟩) (fun _ h => nomatch h) (Nat.le_of_ble_eq_true rfl) (Nat.le_of_ble_eq_true rfl)
    · exact absurd h2 c_8
set_option maxHeartbeats 4000000 in
set_option maxRecDepth 100000 in
theorem c_X2_addKey_f2b (l : Launch) (hlf : l.stackTraces = false) (D : va_G) (ad : Nat → Nat) (cI : ClassId) (cd : Nat → Int32) (te : Nat → Int32) (ri : Nat → Int32) (pi : Nat → Int32) (pw : Nat → Int32) (K : Nat) (Dn : Nat) (mv : Int32) (ko : Nat → Int32) (so : Nat → Int32) (tl : Nat → Int32) (lp : Nat → Int32) (lb : Nat → Int32) (ld : Nat → Int32) (le : Nat → Int32) (C : Nat) (cl : Nat → Int32) (dq : Nat → Int32) (dy : Int32) (code : Int32) (sz : Nat) (h1 : ¬ code < 0) (h2 : code < 1024) (hK7 : K < 8) (hf : jTaken cd K code = true) : vx_Met l yX2_addKey wsX2_addKey ({ frames := 6, cells := 1, slots := 6, locals := 90 } : Room) (xrP [.ref (ad 14), .int code] D sz (wKc ad cI cd te ri pi pw K Dn mv ko so tl lp lb ld le C cl dq dy) [(cI, .int)]) xrN (xrX "java/lang/IllegalStateException" sz) 1 6 (fun q => sz ≤ q) := by
  refine vx_ofW (cc := cX2_addKey) (maxL := 2) (ret := (some .int)) (by decide) rfl ?_
  intro p e s m args below meth c s₁ B hml hex hv
  obtain ⟨rfl, hsz, hP, hK, hX⟩ := hv
  have hx := B.exec
  have hb := B.bytes
  have hr := B.returns
  have hts := atoms_spec (ws := wsX2_addKey) B.pre
  have hown : s.vm.findClass RX2 = some m.cls := findClass_of_methodNamed B.named
  have hlocks := B.notSynchronized
  subst hsz
  have hS : va_S (fun q => s.heap.size ≤ q) s.heap s.heap [] := va_S.rf
  have hA : ∀ q : Nat, s.heap.size ≤ q → s.heap.size ≤ q := fun q h => h
  have hinX1 : ∀ w ∈ u_ws RX1 TX1 8, w ∈ wsX2_addKey := by decide +kernel
  have hinX2 : ∀ w ∈ u_ws RX2 TX2 5, w ∈ wsX2_addKey := by decide +kernel
  have hf16 := hts (.fieldLink RX2 16 "KeyCabinet" "plan" "LKeyCabinet$Plan;") (by decide +kernel)
  have hf41 := hts (.fieldLink RX2 41 "KeyCabinet$Plan" "keys" "I") (by decide +kernel)
  have hl := lv_entry ([.ref (ad 14), .int code]) (n := 2) (Nat.le_of_ble_eq_true rfl)
  rw [lg_entry_eq]
  generalize (lg_sl ([.ref (ad 14), .int code]) ++ List.replicate (2 - (lg_sl ([.ref (ad 14), .int code])).length) Slot.unset).toArray = ls at hl ⊢
  have hl : lv_has ls 2 [(0, .ref (ad 14)), (1, .int code)] := hl
  refine lv_iload_n hx hb dX2_addKey_0 rfl (lv_at hl 1 rfl) ?_
  refine lv_if_lt (tgt := 11) hx hb dX2_addKey_1 (by decide) (fun c_1 => ?_) (fun c_1 => ?_)
  · exact absurd c_1 h1
  · refine lv_iload_n hx hb dX2_addKey_4 rfl (lv_at hl 1 rfl) ?_
    refine lv_sipush (v := 1024) hx hb dX2_addKey_5 (by decide) ?_
    refine lv_icmp_lt (tgt := 21) hx hb dX2_addKey_8 (by decide) (fun c_8 => ?_) (fun c_8 => ?_)
    · refine lv_aload_n hx hb dX2_addKey_21 rfl (lv_at hl 0 rfl) ?_
      refine va_get (D := D) (ci := 2) (v := .ref (ad 0)) (C := RX2) (T := TX2) (N := 5) hx hb hts hinX2 hown hK.1 hP 14 rfl rfl 0 (by decide) hf16 (fun _ h9 => h9) rfl dX2_addKey_22 ?_
      refine va_get (D := D) (ci := 1) (v := .int (nI K)) (C := RX1) (T := TX1) (N := 8) hx hb hts hinX1 hown hK.1 hP 0 rfl rfl 5 (by decide) hf41 (fun _ h9 => h9) rfl dX2_addKey_25 ?_
      refine lv_bipush (v := 8) hx hb dX2_addKey_28 (by decide) ?_
      refine lv_icmp_lt (tgt := 43) hx hb dX2_addKey_30 (by decide) (fun c_30 => ?_) (fun c_30 => ?_)
      · refine lv_aload_n hx hb dX2_addKey_43 rfl (lv_at hl 0 rfl) ?_
        refine va_get (D := D) (ci := 2) (v := .ref (ad 0)) (C := RX2) (T := TX2) (N := 5) hx hb hts hinX2 hown hK.1 hP 14 rfl rfl 0 (by decide) hf16 (fun _ h9 => h9) rfl dX2_addKey_44 ?_
        refine lv_iload_n hx hb dX2_addKey_47 rfl (lv_at hl 1 rfl) ?_
        refine kc_rVi (As := [.int code]) (rest := []) ⟨hx, hb, hml, hown, hts⟩ (c_X1_isTaken l D ad cI cd te ri pi pw K Dn mv code (by first | assumption | omega)) (cwV 1 hts gX2_addKey_X1_isTaken rfl rfl rfl (by decide +kernel) ⟨Nat.le_of_ble_eq_true rfl, Nat.le_of_ble_eq_true rfl⟩) hK hP [0, 1, 2, 3, 4, 5] [0] rfl rfl 0 rfl rfl rfl rfl hl.1 rfl (Nat.le_of_ble_eq_true rfl) dX2_addKey_48 ⟨Nat.le_of_ble_eq_true rfl, Nat.le_of_ble_eq_true rfl⟩ ?_
        refine kc_ifeqB (tgt := 64) hx hb dX2_addKey_51 (by decide) (fun c_51 => ?_) (fun c_51 => ?_)
        · exact absurd hf c_51
        · obtain ⟨sa, hsa⟩ := hX.2.2.2.1 (53, "a key has this code") (by decide +kernel)
          exact vx_throwS (names := ["java/lang/RuntimeException", "java/lang/Exception"]) (A := fun q => s.heap.size ≤ q) hx hb hlf hown (by decide +kernel) kcT_fit (hts (.classLink RX2 44 "java/lang/IllegalStateException") (by decide +kernel)) (hts (.initialized "java/lang/IllegalStateException") (by decide +kernel)) hsa (vx_hat (fun w hw => hts w (by simp only [wsX2_addKey, List.mem_cons, List.mem_append, hw, or_true, true_or])) kcT48_bad (fun w hw => va_Nw.use (kcBads_tab w hw) (hX.2.2.1 w hw))) kcT48_ot hX.1 hX.2.1 hS (hl.1.trans hml.symm) dX2_addKey_54 dX2_addKey_57 dX2_addKey_58 dX2_addKey_60 dX2_addKey_63 (fun x h9 => (hex x h9).elim) (Nat.le_of_ble_eq_true rfl) (Nat.le_of_ble_eq_true rfl) (Nat.le_of_ble_eq_true rfl) (Nat.le_of_ble_eq_true rfl) hlocks (fun t h1 h2 h3 => ⟨(), trivial, rfl, h2, fun q hq _ => h3 q hq⟩) (fun _ h => nomatch h) (Nat.le_of_ble_eq_true rfl) (Nat.le_of_ble_eq_true rfl)
      · exact absurd (nI_lt (b := 8) hK7 (by omega)) c_30
    · exact absurd h2 c_8
set_option maxHeartbeats 4000000 in
set_option maxRecDepth 100000 in
theorem c_X2_addDoor_f1 (l : Launch) (hlf : l.stackTraces = false) (D : va_G) (ad : Nat → Nat) (cI : ClassId) (cd : Nat → Int32) (te : Nat → Int32) (ri : Nat → Int32) (pi : Nat → Int32) (pw : Nat → Int32) (K : Nat) (Dn : Nat) (mv : Int32) (ko : Nat → Int32) (so : Nat → Int32) (tl : Nat → Int32) (lp : Nat → Int32) (lb : Nat → Int32) (ld : Nat → Int32) (le : Nat → Int32) (C : Nat) (cl : Nat → Int32) (dq : Nat → Int32) (dy : Int32) (r : Int32) (sz : Nat) (hBad : ¬ jSetOf K r = true) : vx_Met l yX2_addDoor wsX2_addDoor ({ frames := 7, cells := 1, slots := 6, locals := 111 } : Room) (xrP [.ref (ad 14), .int r] D sz (wKc ad cI cd te ri pi pw K Dn mv ko so tl lp lb ld le C cl dq dy) [(cI, .int)]) xrN (xrX "java/lang/IllegalArgumentException" sz) 1 6 (fun q => sz ≤ q) := by
  refine vx_ofW (cc := cX2_addDoor) (maxL := 2) (ret := (some .int)) (by decide) rfl ?_
  intro p e s m args below meth c s₁ B hml hex hv
  obtain ⟨rfl, hsz, hP, hK, hX⟩ := hv
  have hx := B.exec
  have hb := B.bytes
  have hr := B.returns
  have hts := atoms_spec (ws := wsX2_addDoor) B.pre
  have hown : s.vm.findClass RX2 = some m.cls := findClass_of_methodNamed B.named
  have hlocks := B.notSynchronized
  subst hsz
  have hS : va_S (fun q => s.heap.size ≤ q) s.heap s.heap [] := va_S.rf
  have hA : ∀ q : Nat, s.heap.size ≤ q → s.heap.size ≤ q := fun q h => h
  have hl := lv_entry ([.ref (ad 14), .int r]) (n := 2) (Nat.le_of_ble_eq_true rfl)
  rw [lg_entry_eq]
  generalize (lg_sl ([.ref (ad 14), .int r]) ++ List.replicate (2 - (lg_sl ([.ref (ad 14), .int r])).length) Slot.unset).toArray = ls at hl ⊢
  have hl : lv_has ls 2 [(0, .ref (ad 14)), (1, .int r)] := hl
  refine lv_aload_n hx hb dX2_addDoor_0 rfl (lv_at hl 0 rfl) ?_
  refine lv_iload_n hx hb dX2_addDoor_1 rfl (lv_at hl 1 rfl) ?_
  refine kc_xV (E := "java/lang/IllegalArgumentException") (As := [.int r]) (rest := []) ⟨hx, hb, hml, hown, hts⟩ (c_X2_needRights_x l hlf D ad cI cd te ri pi pw K Dn mv ko so tl lp lb ld le C cl dq dy r s.heap.size hBad) (cwV 1 hts gX2_addDoor_X2_needRights rfl rfl rfl (by decide +kernel) ⟨Nat.le_of_ble_eq_true rfl, Nat.le_of_ble_eq_true rfl⟩) hK hP hX [0, 1, 2, 3, 4, 5, 6, 7, 8, 9, 10, 11, 12, 13, 14, 15, 16] [0] rfl rfl 14 rfl rfl rfl rfl hl.1 rfl (Nat.le_of_ble_eq_true rfl) dX2_addDoor_2 ⟨Nat.le_of_ble_eq_true rfl, Nat.le_of_ble_eq_true rfl⟩ hS hA (fun ce q9 H1 locs1 hz hk9 hS1 hce hcv hcl => ?_)
  exact kc_xout hex hlocks hz hk9 hS1 hce hcv hcl (Nat.le_of_ble_eq_true rfl) (Nat.le_of_ble_eq_true rfl)
set_option maxHeartbeats 4000000 in
set_option maxRecDepth 100000 in
theorem c_X2_addDoor_f2 (l : Launch) (hlf : l.stackTraces = false) (D : va_G) (ad : Nat → Nat) (cI : ClassId) (cd : Nat → Int32) (te : Nat → Int32) (ri : Nat → Int32) (pi : Nat → Int32) (pw : Nat → Int32) (K : Nat) (Dn : Nat) (mv : Int32) (ko : Nat → Int32) (so : Nat → Int32) (tl : Nat → Int32) (lp : Nat → Int32) (lb : Nat → Int32) (ld : Nat → Int32) (le : Nat → Int32) (C : Nat) (cl : Nat → Int32) (dq : Nat → Int32) (dy : Int32) (r : Int32) (sz : Nat) (hs : jSetOf K r = true) (hDe : Dn = 8) : vx_Met l yX2_addDoor wsX2_addDoor ({ frames := 6, cells := 1, slots := 6, locals := 90 } : Room) (xrP [.ref (ad 14), .int r] D sz (wKc ad cI cd te ri pi pw K Dn mv ko so tl lp lb ld le C cl dq dy) [(cI, .int)]) xrN (xrX "java/lang/IllegalStateException" sz) 1 6 (fun q => sz ≤ q) := by
  refine vx_ofW (cc := cX2_addDoor) (maxL := 2) (ret := (some .int)) (by decide) rfl ?_
  intro p e s m args below meth c s₁ B hml hex hv
  obtain ⟨rfl, hsz, hP, hK, hX⟩ := hv
  have hx := B.exec
  have hb := B.bytes
  have hr := B.returns
  have hts := atoms_spec (ws := wsX2_addDoor) B.pre
  have hown : s.vm.findClass RX2 = some m.cls := findClass_of_methodNamed B.named
  have hlocks := B.notSynchronized
  subst hsz
  have hS : va_S (fun q => s.heap.size ≤ q) s.heap s.heap [] := va_S.rf
  have hA : ∀ q : Nat, s.heap.size ≤ q → s.heap.size ≤ q := fun q h => h
  have hinX1 : ∀ w ∈ u_ws RX1 TX1 8, w ∈ wsX2_addDoor := by decide +kernel
  have hinX2 : ∀ w ∈ u_ws RX2 TX2 5, w ∈ wsX2_addDoor := by decide +kernel
  have hf16 := hts (.fieldLink RX2 16 "KeyCabinet" "plan" "LKeyCabinet$Plan;") (by decide +kernel)
  have hf63 := hts (.fieldLink RX2 63 "KeyCabinet$Plan" "doors" "I") (by decide +kernel)
  have hl := lv_entry ([.ref (ad 14), .int r]) (n := 2) (Nat.le_of_ble_eq_true rfl)
  rw [lg_entry_eq]
  generalize (lg_sl ([.ref (ad 14), .int r]) ++ List.replicate (2 - (lg_sl ([.ref (ad 14), .int r])).length) Slot.unset).toArray = ls at hl ⊢
  have hl : lv_has ls 2 [(0, .ref (ad 14)), (1, .int r)] := hl
  refine lv_aload_n hx hb dX2_addDoor_0 rfl (lv_at hl 0 rfl) ?_
  refine lv_iload_n hx hb dX2_addDoor_1 rfl (lv_at hl 1 rfl) ?_
  refine kc_rVv (As := [.int r]) (rest := []) ⟨hx, hb, hml, hown, hts⟩ (c_X2_needRights l D ad cI cd te ri pi pw K Dn mv ko so tl lp lb ld le C cl dq dy r hs) (cwV 1 hts gX2_addDoor_X2_needRights rfl rfl rfl (by decide +kernel) ⟨Nat.le_of_ble_eq_true rfl, Nat.le_of_ble_eq_true rfl⟩) hK hP [0, 1, 2, 3, 4, 5, 6, 7, 8, 9, 10, 11, 12, 13, 14, 15, 16] [0] rfl rfl 14 rfl rfl rfl rfl hl.1 rfl (Nat.le_of_ble_eq_true rfl) dX2_addDoor_2 ⟨Nat.le_of_ble_eq_true rfl, Nat.le_of_ble_eq_true rfl⟩ ?_
  refine lv_aload_n hx hb dX2_addDoor_5 rfl (lv_at hl 0 rfl) ?_
  refine va_get (D := D) (ci := 2) (v := .ref (ad 0)) (C := RX2) (T := TX2) (N := 5) hx hb hts hinX2 hown hK.1 hP 14 rfl rfl 0 (by decide) hf16 (fun _ h9 => h9) rfl dX2_addDoor_6 ?_
  refine va_get (D := D) (ci := 1) (v := .int (nI Dn)) (C := RX1) (T := TX1) (N := 8) hx hb hts hinX1 hown hK.1 hP 0 rfl rfl 6 (by decide) hf63 (fun _ h9 => h9) rfl dX2_addDoor_9 ?_
  refine lv_bipush (v := 8) hx hb dX2_addDoor_12 (by decide) ?_
  refine lv_icmp_lt (tgt := 27) hx hb dX2_addDoor_14 (by decide) (fun c_14 => ?_) (fun c_14 => ?_)
  · exact absurd c_14 (by rw [hDe]; decide)
  · obtain ⟨sa, hsa⟩ := hX.2.2.2.1 (66, "there are 8 doors") (by decide +kernel)
    exact vx_throwS (names := ["java/lang/RuntimeException", "java/lang/Exception"]) (A := fun q => s.heap.size ≤ q) hx hb hlf hown (by decide +kernel) kcT_fit (hts (.classLink RX2 44 "java/lang/IllegalStateException") (by decide +kernel)) (hts (.initialized "java/lang/IllegalStateException") (by decide +kernel)) hsa (vx_hat (fun w hw => hts w (by simp only [wsX2_addDoor, List.mem_cons, List.mem_append, hw, or_true, true_or])) kcT48_bad (fun w hw => va_Nw.use (kcBads_tab w hw) (hX.2.2.1 w hw))) kcT48_ot hX.1 hX.2.1 hS (hl.1.trans hml.symm) dX2_addDoor_17 dX2_addDoor_20 dX2_addDoor_21 dX2_addDoor_23 dX2_addDoor_26 (fun x h9 => (hex x h9).elim) (Nat.le_of_ble_eq_true rfl) (Nat.le_of_ble_eq_true rfl) (Nat.le_of_ble_eq_true rfl) (Nat.le_of_ble_eq_true rfl) hlocks (fun t h1 h2 h3 => ⟨(), trivial, rfl, h2, fun q hq _ => h3 q hq⟩) (fun _ h => nomatch h) (Nat.le_of_ble_eq_true rfl) (Nat.le_of_ble_eq_true rfl)
set_option maxHeartbeats 4000000 in
set_option maxRecDepth 100000 in
theorem c_X2_cut_f2 (l : Launch) (hlf : l.stackTraces = false) (D : va_G) (ad : Nat → Nat) (cI : ClassId) (cd : Nat → Int32) (te : Nat → Int32) (ri : Nat → Int32) (pi : Nat → Int32) (pw : Nat → Int32) (K : Nat) (Dn : Nat) (mv : Int32) (ko : Nat → Int32) (so : Nat → Int32) (tl : Nat → Int32) (lp : Nat → Int32) (lb : Nat → Int32) (ld : Nat → Int32) (le : Nat → Int32) (C : Nat) (cl : Nat → Int32) (dq : Nat → Int32) (dy : Int32) (k : Nat) (sz : Nat) (hK8 : K ≤ 8) (hk : k < K) (hCe : C = 24) : vx_Met l yX2_cut wsX2_cut ({ frames := 6, cells := 1, slots := 6, locals := 90 } : Room) (xrP [.ref (ad 14), .int (nI k)] D sz (wKc ad cI cd te ri pi pw K Dn mv ko so tl lp lb ld le C cl dq dy) [(cI, .int)]) xrN (xrX "java/lang/IllegalStateException" sz) 1 6 (fun q => sz ≤ q) := by
  refine vx_ofW (cc := cX2_cut) (maxL := 2) (ret := (some .int)) (by decide) rfl ?_
  intro p e s m args below meth c s₁ B hml hex hv
  obtain ⟨rfl, hsz, hP, hK, hX⟩ := hv
  have hx := B.exec
  have hb := B.bytes
  have hr := B.returns
  have hts := atoms_spec (ws := wsX2_cut) B.pre
  have hown : s.vm.findClass RX2 = some m.cls := findClass_of_methodNamed B.named
  have hlocks := B.notSynchronized
  subst hsz
  have hS : va_S (fun q => s.heap.size ≤ q) s.heap s.heap [] := va_S.rf
  have hA : ∀ q : Nat, s.heap.size ≤ q → s.heap.size ≤ q := fun q h => h
  have hinX0 : ∀ w ∈ u_ws RX0 TX0 8, w ∈ wsX2_cut := by decide +kernel
  have hinX2 : ∀ w ∈ u_ws RX2 TX2 5, w ∈ wsX2_cut := by decide +kernel
  have hf23 := hts (.fieldLink RX2 23 "KeyCabinet" "ledger" "LKeyCabinet$Ledger;") (by decide +kernel)
  have hf128 := hts (.fieldLink RX2 128 "KeyCabinet$Ledger" "copies" "I") (by decide +kernel)
  have hl := lv_entry ([.ref (ad 14), .int (nI k)]) (n := 2) (Nat.le_of_ble_eq_true rfl)
  rw [lg_entry_eq]
  generalize (lg_sl ([.ref (ad 14), .int (nI k)]) ++ List.replicate (2 - (lg_sl ([.ref (ad 14), .int (nI k)])).length) Slot.unset).toArray = ls at hl ⊢
  have hl : lv_has ls 2 [(0, .ref (ad 14)), (1, .int (nI k))] := hl
  refine lv_aload_n hx hb dX2_cut_0 rfl (lv_at hl 0 rfl) ?_
  refine lv_iload_n hx hb dX2_cut_1 rfl (lv_at hl 1 rfl) ?_
  refine kc_rVv (As := [.int (nI k)]) (rest := []) ⟨hx, hb, hml, hown, hts⟩ (c_X2_needKey l D ad cI cd te ri pi pw K Dn mv ko so tl lp lb ld le C cl dq dy k hk hK8) (cwV 1 hts gX2_cut_X2_needKey rfl rfl rfl (by decide +kernel) ⟨Nat.le_of_ble_eq_true rfl, Nat.le_of_ble_eq_true rfl⟩) hK hP [0, 1, 2, 3, 4, 5, 6, 7, 8, 9, 10, 11, 12, 13, 14, 15, 16] [0] rfl rfl 14 rfl rfl rfl rfl hl.1 rfl (Nat.le_of_ble_eq_true rfl) dX2_cut_2 ⟨Nat.le_of_ble_eq_true rfl, Nat.le_of_ble_eq_true rfl⟩ ?_
  refine lv_aload_n hx hb dX2_cut_5 rfl (lv_at hl 0 rfl) ?_
  refine va_get (D := D) (ci := 2) (v := .ref (ad 6)) (C := RX2) (T := TX2) (N := 5) hx hb hts hinX2 hown hK.1 hP 14 rfl rfl 1 (by decide) hf23 (fun _ h9 => h9) rfl dX2_cut_6 ?_
  refine va_get (D := D) (ci := 0) (v := .int (nI C)) (C := RX0) (T := TX0) (N := 8) hx hb hts hinX0 hown hK.1 hP 6 rfl rfl 7 (by decide) hf128 (fun _ h9 => h9) rfl dX2_cut_9 ?_
  refine lv_bipush (v := 24) hx hb dX2_cut_12 (by decide) ?_
  refine lv_icmp_lt (tgt := 27) hx hb dX2_cut_14 (by decide) (fun c_14 => ?_) (fun c_14 => ?_)
  · exact absurd c_14 (by rw [hCe]; decide)
  · obtain ⟨sa, hsa⟩ := hX.2.2.2.1 (131, "there are 24 copies") (by decide +kernel)
    exact vx_throwS (names := ["java/lang/RuntimeException", "java/lang/Exception"]) (A := fun q => s.heap.size ≤ q) hx hb hlf hown (by decide +kernel) kcT_fit (hts (.classLink RX2 44 "java/lang/IllegalStateException") (by decide +kernel)) (hts (.initialized "java/lang/IllegalStateException") (by decide +kernel)) hsa (vx_hat (fun w hw => hts w (by simp only [wsX2_cut, List.mem_cons, List.mem_append, hw, or_true, true_or])) kcT48_bad (fun w hw => va_Nw.use (kcBads_tab w hw) (hX.2.2.1 w hw))) kcT48_ot hX.1 hX.2.1 hS (hl.1.trans hml.symm) dX2_cut_17 dX2_cut_20 dX2_cut_21 dX2_cut_23 dX2_cut_26 (fun x h9 => (hex x h9).elim) (Nat.le_of_ble_eq_true rfl) (Nat.le_of_ble_eq_true rfl) (Nat.le_of_ble_eq_true rfl) (Nat.le_of_ble_eq_true rfl) hlocks (fun t h1 h2 h3 => ⟨(), trivial, rfl, h2, fun q hq _ => h3 q hq⟩) (fun _ h => nomatch h) (Nat.le_of_ble_eq_true rfl) (Nat.le_of_ble_eq_true rfl)
set_option maxHeartbeats 4000000 in
set_option maxRecDepth 100000 in
theorem c_X2_lend_f1 (l : Launch) (hlf : l.stackTraces = false) (D : va_G) (ad : Nat → Nat) (cI : ClassId) (cd : Nat → Int32) (te : Nat → Int32) (ri : Nat → Int32) (pi : Nat → Int32) (pw : Nat → Int32) (K : Nat) (Dn : Nat) (mv : Int32) (ko : Nat → Int32) (so : Nat → Int32) (tl : Nat → Int32) (lp : Nat → Int32) (lb : Nat → Int32) (ld : Nat → Int32) (le : Nat → Int32) (C : Nat) (cl : Nat → Int32) (dq : Nat → Int32) (dy : Int32) (x : Int32) (pe : Int32) (dz : Int32) (sz : Nat) (hBad : ¬ jIn C x = true) : vx_Met l yX2_lend wsX2_lend ({ frames := 7, cells := 1, slots := 6, locals := 111 } : Room) (xrP [.ref (ad 14), .int x, .int pe, .int dz] D sz (wKc ad cI cd te ri pi pw K Dn mv ko so tl lp lb ld le C cl dq dy) [(cI, .int)]) xrN (xrX "java/lang/IndexOutOfBoundsException" sz) 1 6 (fun q => sz ≤ q) := by
  refine vx_ofW (cc := cX2_lend) (maxL := 5) (ret := (some .int)) (by decide) rfl ?_
  intro p e s m args below meth c s₁ B hml hex hv
  obtain ⟨rfl, hsz, hP, hK, hX⟩ := hv
  have hx := B.exec
  have hb := B.bytes
  have hr := B.returns
  have hts := atoms_spec (ws := wsX2_lend) B.pre
  have hown : s.vm.findClass RX2 = some m.cls := findClass_of_methodNamed B.named
  have hlocks := B.notSynchronized
  subst hsz
  have hS : va_S (fun q => s.heap.size ≤ q) s.heap s.heap [] := va_S.rf
  have hA : ∀ q : Nat, s.heap.size ≤ q → s.heap.size ≤ q := fun q h => h
  have hl := lv_entry ([.ref (ad 14), .int x, .int pe, .int dz]) (n := 5) (Nat.le_of_ble_eq_true rfl)
  rw [lg_entry_eq]
  generalize (lg_sl ([.ref (ad 14), .int x, .int pe, .int dz]) ++ List.replicate (5 - (lg_sl ([.ref (ad 14), .int x, .int pe, .int dz])).length) Slot.unset).toArray = ls at hl ⊢
  have hl : lv_has ls 5 [(0, .ref (ad 14)), (1, .int x), (2, .int pe), (3, .int dz)] := hl
  refine lv_aload_n hx hb dX2_lend_0 rfl (lv_at hl 0 rfl) ?_
  refine lv_iload_n hx hb dX2_lend_1 rfl (lv_at hl 1 rfl) ?_
  refine kc_xV (E := "java/lang/IndexOutOfBoundsException") (As := [.int x]) (rest := []) ⟨hx, hb, hml, hown, hts⟩ (c_X2_needCopy_x l hlf D ad cI cd te ri pi pw K Dn mv ko so tl lp lb ld le C cl dq dy x s.heap.size hBad) (cwV 1 hts gX2_lend_X2_needCopy rfl rfl rfl (by decide +kernel) ⟨Nat.le_of_ble_eq_true rfl, Nat.le_of_ble_eq_true rfl⟩) hK hP hX [0, 1, 2, 3, 4, 5, 6, 7, 8, 9, 10, 11, 12, 13, 14, 15, 16] [0] rfl rfl 14 rfl rfl rfl rfl hl.1 rfl (Nat.le_of_ble_eq_true rfl) dX2_lend_2 ⟨Nat.le_of_ble_eq_true rfl, Nat.le_of_ble_eq_true rfl⟩ hS hA (fun ce q9 H1 locs1 hz hk9 hS1 hce hcv hcl => ?_)
  exact kc_xout hex hlocks hz hk9 hS1 hce hcv hcl (Nat.le_of_ble_eq_true rfl) (Nat.le_of_ble_eq_true rfl)
set_option maxHeartbeats 4000000 in
set_option maxRecDepth 100000 in
theorem c_X2_lend_f1b (l : Launch) (hlf : l.stackTraces = false) (D : va_G) (ad : Nat → Nat) (cI : ClassId) (cd : Nat → Int32) (te : Nat → Int32) (ri : Nat → Int32) (pi : Nat → Int32) (pw : Nat → Int32) (K : Nat) (Dn : Nat) (mv : Int32) (ko : Nat → Int32) (so : Nat → Int32) (tl : Nat → Int32) (lp : Nat → Int32) (lb : Nat → Int32) (ld : Nat → Int32) (le : Nat → Int32) (C : Nat) (cl : Nat → Int32) (dq : Nat → Int32) (dy : Int32) (cx : Nat) (pe : Int32) (dz : Int32) (sz : Nat) (hC24 : C ≤ 24) (hc : cx < C) (hBad : ¬ jIn 8 pe = true) : vx_Met l yX2_lend wsX2_lend ({ frames := 7, cells := 1, slots := 6, locals := 111 } : Room) (xrP [.ref (ad 14), .int (nI cx), .int pe, .int dz] D sz (wKc ad cI cd te ri pi pw K Dn mv ko so tl lp lb ld le C cl dq dy) [(cI, .int)]) xrN (xrX "java/lang/IndexOutOfBoundsException" sz) 1 6 (fun q => sz ≤ q) := by
  refine vx_ofW (cc := cX2_lend) (maxL := 5) (ret := (some .int)) (by decide) rfl ?_
  intro p e s m args below meth c s₁ B hml hex hv
  obtain ⟨rfl, hsz, hP, hK, hX⟩ := hv
  have hx := B.exec
  have hb := B.bytes
  have hr := B.returns
  have hts := atoms_spec (ws := wsX2_lend) B.pre
  have hown : s.vm.findClass RX2 = some m.cls := findClass_of_methodNamed B.named
  have hlocks := B.notSynchronized
  subst hsz
  have hS : va_S (fun q => s.heap.size ≤ q) s.heap s.heap [] := va_S.rf
  have hA : ∀ q : Nat, s.heap.size ≤ q → s.heap.size ≤ q := fun q h => h
  have hl := lv_entry ([.ref (ad 14), .int (nI cx), .int pe, .int dz]) (n := 5) (Nat.le_of_ble_eq_true rfl)
  rw [lg_entry_eq]
  generalize (lg_sl ([.ref (ad 14), .int (nI cx), .int pe, .int dz]) ++ List.replicate (5 - (lg_sl ([.ref (ad 14), .int (nI cx), .int pe, .int dz])).length) Slot.unset).toArray = ls at hl ⊢
  have hl : lv_has ls 5 [(0, .ref (ad 14)), (1, .int (nI cx)), (2, .int pe), (3, .int dz)] := hl
  refine lv_aload_n hx hb dX2_lend_0 rfl (lv_at hl 0 rfl) ?_
  refine lv_iload_n hx hb dX2_lend_1 rfl (lv_at hl 1 rfl) ?_
  refine kc_rVv (As := [.int (nI cx)]) (rest := []) ⟨hx, hb, hml, hown, hts⟩ (c_X2_needCopy l D ad cI cd te ri pi pw K Dn mv ko so tl lp lb ld le C cl dq dy cx hc hC24) (cwV 1 hts gX2_lend_X2_needCopy rfl rfl rfl (by decide +kernel) ⟨Nat.le_of_ble_eq_true rfl, Nat.le_of_ble_eq_true rfl⟩) hK hP [0, 1, 2, 3, 4, 5, 6, 7, 8, 9, 10, 11, 12, 13, 14, 15, 16] [0] rfl rfl 14 rfl rfl rfl rfl hl.1 rfl (Nat.le_of_ble_eq_true rfl) dX2_lend_2 ⟨Nat.le_of_ble_eq_true rfl, Nat.le_of_ble_eq_true rfl⟩ ?_
  refine lv_aload_n hx hb dX2_lend_5 rfl (lv_at hl 0 rfl) ?_
  refine lv_iload_n hx hb dX2_lend_6 rfl (lv_at hl 2 rfl) ?_
  refine kc_xV (E := "java/lang/IndexOutOfBoundsException") (As := [.int pe]) (rest := []) ⟨hx, hb, hml, hown, hts⟩ (c_X2_needPerson_x l hlf D ad cI cd te ri pi pw K Dn mv ko so tl lp lb ld le C cl dq dy pe s.heap.size hBad) (cwV 1 hts gX2_lend_X2_needPerson rfl rfl rfl (by decide +kernel) ⟨Nat.le_of_ble_eq_true rfl, Nat.le_of_ble_eq_true rfl⟩) hK hP hX [0, 1, 2, 3, 4, 5, 6, 7, 8, 9, 10, 11, 12, 13, 14, 15, 16] [0] rfl rfl 14 rfl rfl rfl rfl hl.1 rfl (Nat.le_of_ble_eq_true rfl) dX2_lend_7 ⟨Nat.le_of_ble_eq_true rfl, Nat.le_of_ble_eq_true rfl⟩ hS hA (fun ce q9 H1 locs1 hz hk9 hS1 hce hcv hcl => ?_)
  exact kc_xout hex hlocks hz hk9 hS1 hce hcv hcl (Nat.le_of_ble_eq_true rfl) (Nat.le_of_ble_eq_true rfl)
set_option maxHeartbeats 4000000 in
set_option maxRecDepth 100000 in
theorem c_X2_lend_f2 (l : Launch) (hlf : l.stackTraces = false) (D : va_G) (ad : Nat → Nat) (cI : ClassId) (cd : Nat → Int32) (te : Nat → Int32) (ri : Nat → Int32) (pi : Nat → Int32) (pw : Nat → Int32) (K : Nat) (Dn : Nat) (mv : Int32) (ko : Nat → Int32) (so : Nat → Int32) (tl : Nat → Int32) (lp : Nat → Int32) (lb : Nat → Int32) (ld : Nat → Int32) (le : Nat → Int32) (C : Nat) (cl : Nat → Int32) (dq : Nat → Int32) (dy : Int32) (cx : Nat) (pe : Int32) (dz : Int32) (sz : Nat) (hC24 : C ≤ 24) (hc : cx < C) (hp : jIn 8 pe = true) (hz : dz < 1 ∨ (99 : Int32) < dz) : vx_Met l yX2_lend wsX2_lend ({ frames := 7, cells := 1, slots := 6, locals := 111 } : Room) (xrP [.ref (ad 14), .int (nI cx), .int pe, .int dz] D sz (wKc ad cI cd te ri pi pw K Dn mv ko so tl lp lb ld le C cl dq dy) [(cI, .int)]) xrN (xrX "java/lang/IllegalArgumentException" sz) 1 6 (fun q => sz ≤ q) := by
  refine vx_ofW (cc := cX2_lend) (maxL := 5) (ret := (some .int)) (by decide) rfl ?_
  intro p e s m args below meth c s₁ B hml hex hv
  obtain ⟨rfl, hsz, hP, hK, hX⟩ := hv
  have hx := B.exec
  have hb := B.bytes
  have hr := B.returns
  have hts := atoms_spec (ws := wsX2_lend) B.pre
  have hown : s.vm.findClass RX2 = some m.cls := findClass_of_methodNamed B.named
  have hlocks := B.notSynchronized
  subst hsz
  have hS : va_S (fun q => s.heap.size ≤ q) s.heap s.heap [] := va_S.rf
  have hA : ∀ q : Nat, s.heap.size ≤ q → s.heap.size ≤ q := fun q h => h
  have hl := lv_entry ([.ref (ad 14), .int (nI cx), .int pe, .int dz]) (n := 5) (Nat.le_of_ble_eq_true rfl)
  rw [lg_entry_eq]
  generalize (lg_sl ([.ref (ad 14), .int (nI cx), .int pe, .int dz]) ++ List.replicate (5 - (lg_sl ([.ref (ad 14), .int (nI cx), .int pe, .int dz])).length) Slot.unset).toArray = ls at hl ⊢
  have hl : lv_has ls 5 [(0, .ref (ad 14)), (1, .int (nI cx)), (2, .int pe), (3, .int dz)] := hl
  refine lv_aload_n hx hb dX2_lend_0 rfl (lv_at hl 0 rfl) ?_
  refine lv_iload_n hx hb dX2_lend_1 rfl (lv_at hl 1 rfl) ?_
  refine kc_rVv (As := [.int (nI cx)]) (rest := []) ⟨hx, hb, hml, hown, hts⟩ (c_X2_needCopy l D ad cI cd te ri pi pw K Dn mv ko so tl lp lb ld le C cl dq dy cx hc hC24) (cwV 1 hts gX2_lend_X2_needCopy rfl rfl rfl (by decide +kernel) ⟨Nat.le_of_ble_eq_true rfl, Nat.le_of_ble_eq_true rfl⟩) hK hP [0, 1, 2, 3, 4, 5, 6, 7, 8, 9, 10, 11, 12, 13, 14, 15, 16] [0] rfl rfl 14 rfl rfl rfl rfl hl.1 rfl (Nat.le_of_ble_eq_true rfl) dX2_lend_2 ⟨Nat.le_of_ble_eq_true rfl, Nat.le_of_ble_eq_true rfl⟩ ?_
  refine lv_aload_n hx hb dX2_lend_5 rfl (lv_at hl 0 rfl) ?_
  refine lv_iload_n hx hb dX2_lend_6 rfl (lv_at hl 2 rfl) ?_
  refine kc_rVv (As := [.int pe]) (rest := []) ⟨hx, hb, hml, hown, hts⟩ (c_X2_needPerson l D ad cI cd te ri pi pw K Dn mv ko so tl lp lb ld le C cl dq dy pe hp) (cwV 1 hts gX2_lend_X2_needPerson rfl rfl rfl (by decide +kernel) ⟨Nat.le_of_ble_eq_true rfl, Nat.le_of_ble_eq_true rfl⟩) hK hP [0, 1, 2, 3, 4, 5, 6, 7, 8, 9, 10, 11, 12, 13, 14, 15, 16] [0] rfl rfl 14 rfl rfl rfl rfl hl.1 rfl (Nat.le_of_ble_eq_true rfl) dX2_lend_7 ⟨Nat.le_of_ble_eq_true rfl, Nat.le_of_ble_eq_true rfl⟩ ?_
  refine lv_aload_n hx hb dX2_lend_10 rfl (lv_at hl 0 rfl) ?_
  refine lv_iload_n hx hb dX2_lend_11 rfl (lv_at hl 3 rfl) ?_
  refine kc_xV (E := "java/lang/IllegalArgumentException") (As := [.int dz]) (rest := []) ⟨hx, hb, hml, hown, hts⟩ (c_X2_needDays_x l hlf D ad cI cd te ri pi pw K Dn mv ko so tl lp lb ld le C cl dq dy dz s.heap.size hz) (cwV 1 hts gX2_lend_X2_needDays rfl rfl rfl (by decide +kernel) ⟨Nat.le_of_ble_eq_true rfl, Nat.le_of_ble_eq_true rfl⟩) hK hP hX [0, 1, 2, 3, 4, 5, 6, 7, 8, 9, 10, 11, 12, 13, 14, 15, 16] [0] rfl rfl 14 rfl rfl rfl rfl hl.1 rfl (Nat.le_of_ble_eq_true rfl) dX2_lend_12 ⟨Nat.le_of_ble_eq_true rfl, Nat.le_of_ble_eq_true rfl⟩ hS hA (fun ce q9 H1 locs1 hz hk9 hS1 hce hcv hcl => ?_)
  exact kc_xout hex hlocks hz hk9 hS1 hce hcv hcl (Nat.le_of_ble_eq_true rfl) (Nat.le_of_ble_eq_true rfl)
set_option maxHeartbeats 4000000 in
set_option maxRecDepth 100000 in
theorem c_X2_lend_f3 (l : Launch) (hlf : l.stackTraces = false) (D : va_G) (ad : Nat → Nat) (cI : ClassId) (cd : Nat → Int32) (te : Nat → Int32) (ri : Nat → Int32) (pi : Nat → Int32) (pw : Nat → Int32) (K : Nat) (Dn : Nat) (mv : Int32) (ko : Nat → Int32) (so : Nat → Int32) (tl : Nat → Int32) (lp : Nat → Int32) (lb : Nat → Int32) (ld : Nat → Int32) (le : Nat → Int32) (C : Nat) (cl : Nat → Int32) (dq : Nat → Int32) (dy : Int32) (cx : Nat) (pe : Int32) (dz : Int32) (sz : Nat) (hC24 : C ≤ 24) (hc : cx < C) (hp : jIn 8 pe = true) (hz1 : ¬ dz < 1) (hz2 : dz ≤ 99) (hcan : ¬ jCan so tl cx = true) : vx_Met l yX2_lend wsX2_lend ({ frames := 6, cells := 1, slots := 6, locals := 90 } : Room) (xrP [.ref (ad 14), .int (nI cx), .int pe, .int dz] D sz (wKc ad cI cd te ri pi pw K Dn mv ko so tl lp lb ld le C cl dq dy) [(cI, .int)]) xrN (xrX "java/lang/IllegalStateException" sz) 1 6 (fun q => sz ≤ q) := by
  refine vx_ofW (cc := cX2_lend) (maxL := 5) (ret := (some .int)) (by decide) rfl ?_
  intro p e s m args below meth c s₁ B hml hex hv
  obtain ⟨rfl, hsz, hP, hK, hX⟩ := hv
  have hx := B.exec
  have hb := B.bytes
  have hr := B.returns
  have hts := atoms_spec (ws := wsX2_lend) B.pre
  have hown : s.vm.findClass RX2 = some m.cls := findClass_of_methodNamed B.named
  have hlocks := B.notSynchronized
  subst hsz
  have hS : va_S (fun q => s.heap.size ≤ q) s.heap s.heap [] := va_S.rf
  have hA : ∀ q : Nat, s.heap.size ≤ q → s.heap.size ≤ q := fun q h => h
  have hinX2 : ∀ w ∈ u_ws RX2 TX2 5, w ∈ wsX2_lend := by decide +kernel
  have hf23 := hts (.fieldLink RX2 23 "KeyCabinet" "ledger" "LKeyCabinet$Ledger;") (by decide +kernel)
  have hl := lv_entry ([.ref (ad 14), .int (nI cx), .int pe, .int dz]) (n := 5) (Nat.le_of_ble_eq_true rfl)
  rw [lg_entry_eq]
  generalize (lg_sl ([.ref (ad 14), .int (nI cx), .int pe, .int dz]) ++ List.replicate (5 - (lg_sl ([.ref (ad 14), .int (nI cx), .int pe, .int dz])).length) Slot.unset).toArray = ls at hl ⊢
  have hl : lv_has ls 5 [(0, .ref (ad 14)), (1, .int (nI cx)), (2, .int pe), (3, .int dz)] := hl
  refine lv_aload_n hx hb dX2_lend_0 rfl (lv_at hl 0 rfl) ?_
  refine lv_iload_n hx hb dX2_lend_1 rfl (lv_at hl 1 rfl) ?_
  refine kc_rVv (As := [.int (nI cx)]) (rest := []) ⟨hx, hb, hml, hown, hts⟩ (c_X2_needCopy l D ad cI cd te ri pi pw K Dn mv ko so tl lp lb ld le C cl dq dy cx hc hC24) (cwV 1 hts gX2_lend_X2_needCopy rfl rfl rfl (by decide +kernel) ⟨Nat.le_of_ble_eq_true rfl, Nat.le_of_ble_eq_true rfl⟩) hK hP [0, 1, 2, 3, 4, 5, 6, 7, 8, 9, 10, 11, 12, 13, 14, 15, 16] [0] rfl rfl 14 rfl rfl rfl rfl hl.1 rfl (Nat.le_of_ble_eq_true rfl) dX2_lend_2 ⟨Nat.le_of_ble_eq_true rfl, Nat.le_of_ble_eq_true rfl⟩ ?_
  refine lv_aload_n hx hb dX2_lend_5 rfl (lv_at hl 0 rfl) ?_
  refine lv_iload_n hx hb dX2_lend_6 rfl (lv_at hl 2 rfl) ?_
  refine kc_rVv (As := [.int pe]) (rest := []) ⟨hx, hb, hml, hown, hts⟩ (c_X2_needPerson l D ad cI cd te ri pi pw K Dn mv ko so tl lp lb ld le C cl dq dy pe hp) (cwV 1 hts gX2_lend_X2_needPerson rfl rfl rfl (by decide +kernel) ⟨Nat.le_of_ble_eq_true rfl, Nat.le_of_ble_eq_true rfl⟩) hK hP [0, 1, 2, 3, 4, 5, 6, 7, 8, 9, 10, 11, 12, 13, 14, 15, 16] [0] rfl rfl 14 rfl rfl rfl rfl hl.1 rfl (Nat.le_of_ble_eq_true rfl) dX2_lend_7 ⟨Nat.le_of_ble_eq_true rfl, Nat.le_of_ble_eq_true rfl⟩ ?_
  refine lv_aload_n hx hb dX2_lend_10 rfl (lv_at hl 0 rfl) ?_
  refine lv_iload_n hx hb dX2_lend_11 rfl (lv_at hl 3 rfl) ?_
  refine kc_rVv (As := [.int dz]) (rest := []) ⟨hx, hb, hml, hown, hts⟩ (c_X2_needDays l D ad cI cd te ri pi pw K Dn mv ko so tl lp lb ld le C cl dq dy dz hz1 hz2) (cwV 1 hts gX2_lend_X2_needDays rfl rfl rfl (by decide +kernel) ⟨Nat.le_of_ble_eq_true rfl, Nat.le_of_ble_eq_true rfl⟩) hK hP [0, 1, 2, 3, 4, 5, 6, 7, 8, 9, 10, 11, 12, 13, 14, 15, 16] [0] rfl rfl 14 rfl rfl rfl rfl hl.1 rfl (Nat.le_of_ble_eq_true rfl) dX2_lend_12 ⟨Nat.le_of_ble_eq_true rfl, Nat.le_of_ble_eq_true rfl⟩ ?_
  refine lv_aload_n hx hb dX2_lend_15 rfl (lv_at hl 0 rfl) ?_
  refine va_get (D := D) (ci := 2) (v := .ref (ad 6)) (C := RX2) (T := TX2) (N := 5) hx hb hts hinX2 hown hK.1 hP 14 rfl rfl 1 (by decide) hf23 (fun _ h9 => h9) rfl dX2_lend_16 ?_
  refine lv_iload_n hx hb dX2_lend_19 rfl (lv_at hl 1 rfl) ?_
  refine kc_rVi (As := [.int (nI cx)]) (rest := []) ⟨hx, hb, hml, hown, hts⟩ (c_X0_canBeLent l D ad cI ko so tl lp lb ld le C cx (by first | assumption | omega)) (cwV 1 hts gX2_lend_X0_canBeLent rfl rfl rfl (by decide +kernel) ⟨Nat.le_of_ble_eq_true rfl, Nat.le_of_ble_eq_true rfl⟩) hK hP [6, 7, 8, 9, 10, 11, 12, 13] [0] rfl rfl 6 rfl rfl rfl rfl hl.1 rfl (Nat.le_of_ble_eq_true rfl) dX2_lend_20 ⟨Nat.le_of_ble_eq_true rfl, Nat.le_of_ble_eq_true rfl⟩ ?_
  refine kc_ifneB (tgt := 36) hx hb dX2_lend_23 (by decide) (fun c_23 => ?_) (fun c_23 => ?_)
  · exact absurd c_23 hcan
  · obtain ⟨sa, hsa⟩ := hX.2.2.2.1 (148, "it is not in the cabinet, or it has been lent 9 times") (by decide +kernel)
    exact vx_throwS (names := ["java/lang/RuntimeException", "java/lang/Exception"]) (A := fun q => s.heap.size ≤ q) hx hb hlf hown (by decide +kernel) kcT_fit (hts (.classLink RX2 44 "java/lang/IllegalStateException") (by decide +kernel)) (hts (.initialized "java/lang/IllegalStateException") (by decide +kernel)) hsa (vx_hat (fun w hw => hts w (by simp only [wsX2_lend, List.mem_cons, List.mem_append, hw, or_true, true_or])) kcT48_bad (fun w hw => va_Nw.use (kcBads_tab w hw) (hX.2.2.1 w hw))) kcT48_ot hX.1 hX.2.1 hS (hl.1.trans hml.symm) dX2_lend_26 dX2_lend_29 dX2_lend_30 dX2_lend_32 dX2_lend_35 (fun x h9 => (hex x h9).elim) (Nat.le_of_ble_eq_true rfl) (Nat.le_of_ble_eq_true rfl) (Nat.le_of_ble_eq_true rfl) (Nat.le_of_ble_eq_true rfl) hlocks (fun t h1 h2 h3 => ⟨(), trivial, rfl, h2, fun q hq _ => h3 q hq⟩) (fun _ h => nomatch h) (Nat.le_of_ble_eq_true rfl) (Nat.le_of_ble_eq_true rfl)
set_option maxHeartbeats 4000000 in
set_option maxRecDepth 100000 in
theorem c_X2_giveBack_f2 (l : Launch) (hlf : l.stackTraces = false) (D : va_G) (ad : Nat → Nat) (cI : ClassId) (cd : Nat → Int32) (te : Nat → Int32) (ri : Nat → Int32) (pi : Nat → Int32) (pw : Nat → Int32) (K : Nat) (Dn : Nat) (mv : Int32) (ko : Nat → Int32) (so : Nat → Int32) (tl : Nat → Int32) (lp : Nat → Int32) (lb : Nat → Int32) (ld : Nat → Int32) (le : Nat → Int32) (C : Nat) (cl : Nat → Int32) (dq : Nat → Int32) (dy : Int32) (cx : Nat) (sz : Nat) (hC24 : C ≤ 24) (hc : cx < C) (hn : ¬ so cx = 1) : vx_Met l yX2_giveBack wsX2_giveBack ({ frames := 6, cells := 1, slots := 6, locals := 90 } : Room) (xrP [.ref (ad 14), .int (nI cx)] D sz (wKc ad cI cd te ri pi pw K Dn mv ko so tl lp lb ld le C cl dq dy) [(cI, .int)]) xrN (xrX "java/lang/IllegalStateException" sz) 1 6 (fun q => sz ≤ q) := by
  refine vx_ofW (cc := cX2_giveBack) (maxL := 3) (ret := (some .int)) (by decide) rfl ?_
  intro p e s m args below meth c s₁ B hml hex hv
  obtain ⟨rfl, hsz, hP, hK, hX⟩ := hv
  have hx := B.exec
  have hb := B.bytes
  have hr := B.returns
  have hts := atoms_spec (ws := wsX2_giveBack) B.pre
  have hown : s.vm.findClass RX2 = some m.cls := findClass_of_methodNamed B.named
  have hlocks := B.notSynchronized
  subst hsz
  have hS : va_S (fun q => s.heap.size ≤ q) s.heap s.heap [] := va_S.rf
  have hA : ∀ q : Nat, s.heap.size ≤ q → s.heap.size ≤ q := fun q h => h
  have hinX0 : ∀ w ∈ u_ws RX0 TX0 8, w ∈ wsX2_giveBack := by decide +kernel
  have hinX2 : ∀ w ∈ u_ws RX2 TX2 5, w ∈ wsX2_giveBack := by decide +kernel
  have hf23 := hts (.fieldLink RX2 23 "KeyCabinet" "ledger" "LKeyCabinet$Ledger;") (by decide +kernel)
  have hf154 := hts (.fieldLink RX2 154 "KeyCabinet$Ledger" "stateOf" "[I") (by decide +kernel)
  have hl := lv_entry ([.ref (ad 14), .int (nI cx)]) (n := 3) (Nat.le_of_ble_eq_true rfl)
  rw [lg_entry_eq]
  generalize (lg_sl ([.ref (ad 14), .int (nI cx)]) ++ List.replicate (3 - (lg_sl ([.ref (ad 14), .int (nI cx)])).length) Slot.unset).toArray = ls at hl ⊢
  have hl : lv_has ls 3 [(0, .ref (ad 14)), (1, .int (nI cx))] := hl
  refine lv_aload_n hx hb dX2_giveBack_0 rfl (lv_at hl 0 rfl) ?_
  refine lv_iload_n hx hb dX2_giveBack_1 rfl (lv_at hl 1 rfl) ?_
  refine kc_rVv (As := [.int (nI cx)]) (rest := []) ⟨hx, hb, hml, hown, hts⟩ (c_X2_needCopy l D ad cI cd te ri pi pw K Dn mv ko so tl lp lb ld le C cl dq dy cx hc hC24) (cwV 1 hts gX2_giveBack_X2_needCopy rfl rfl rfl (by decide +kernel) ⟨Nat.le_of_ble_eq_true rfl, Nat.le_of_ble_eq_true rfl⟩) hK hP [0, 1, 2, 3, 4, 5, 6, 7, 8, 9, 10, 11, 12, 13, 14, 15, 16] [0] rfl rfl 14 rfl rfl rfl rfl hl.1 rfl (Nat.le_of_ble_eq_true rfl) dX2_giveBack_2 ⟨Nat.le_of_ble_eq_true rfl, Nat.le_of_ble_eq_true rfl⟩ ?_
  refine lv_aload_n hx hb dX2_giveBack_5 rfl (lv_at hl 0 rfl) ?_
  refine va_get (D := D) (ci := 2) (v := .ref (ad 6)) (C := RX2) (T := TX2) (N := 5) hx hb hts hinX2 hown hK.1 hP 14 rfl rfl 1 (by decide) hf23 (fun _ h9 => h9) rfl dX2_giveBack_6 ?_
  refine va_get (D := D) (ci := 0) (v := .ref (ad 8)) (C := RX0) (T := TX0) (N := 8) hx hb hts hinX0 hown hK.1 hP 6 rfl rfl 1 (by decide) hf154 (fun _ h9 => h9) rfl dX2_giveBack_9 ?_
  refine lv_iload_n hx hb dX2_giveBack_12 rfl (lv_at hl 1 rfl) ?_
  refine kc_ald (i := cx) (n := 24) hx hb hK hP 8 0 rfl rfl (by omega) (by decide) dX2_giveBack_13 ?_
  refine lv_iconst (v := 1) hx hb dX2_giveBack_14 (by decide) ?_
  refine lv_icmp_eq (tgt := 28) hx hb dX2_giveBack_15 (by decide) (fun c_15 => ?_) (fun c_15 => ?_)
  · exact absurd c_15 hn
  · obtain ⟨sa, hsa⟩ := hX.2.2.2.1 (157, "it is not lent") (by decide +kernel)
    exact vx_throwS (names := ["java/lang/RuntimeException", "java/lang/Exception"]) (A := fun q => s.heap.size ≤ q) hx hb hlf hown (by decide +kernel) kcT_fit (hts (.classLink RX2 44 "java/lang/IllegalStateException") (by decide +kernel)) (hts (.initialized "java/lang/IllegalStateException") (by decide +kernel)) hsa (vx_hat (fun w hw => hts w (by simp only [wsX2_giveBack, List.mem_cons, List.mem_append, hw, or_true, true_or])) kcT48_bad (fun w hw => va_Nw.use (kcBads_tab w hw) (hX.2.2.1 w hw))) kcT48_ot hX.1 hX.2.1 hS (hl.1.trans hml.symm) dX2_giveBack_18 dX2_giveBack_21 dX2_giveBack_22 dX2_giveBack_24 dX2_giveBack_27 (fun x h9 => (hex x h9).elim) (Nat.le_of_ble_eq_true rfl) (Nat.le_of_ble_eq_true rfl) (Nat.le_of_ble_eq_true rfl) (Nat.le_of_ble_eq_true rfl) hlocks (fun t h1 h2 h3 => ⟨(), trivial, rfl, h2, fun q hq _ => h3 q hq⟩) (fun _ h => nomatch h) (Nat.le_of_ble_eq_true rfl) (Nat.le_of_ble_eq_true rfl)
set_option maxHeartbeats 4000000 in
set_option maxRecDepth 100000 in
theorem c_X2_lose_f2 (l : Launch) (hlf : l.stackTraces = false) (D : va_G) (ad : Nat → Nat) (cI : ClassId) (cd : Nat → Int32) (te : Nat → Int32) (ri : Nat → Int32) (pi : Nat → Int32) (pw : Nat → Int32) (K : Nat) (Dn : Nat) (mv : Int32) (ko : Nat → Int32) (so : Nat → Int32) (tl : Nat → Int32) (lp : Nat → Int32) (lb : Nat → Int32) (ld : Nat → Int32) (le : Nat → Int32) (C : Nat) (cl : Nat → Int32) (dq : Nat → Int32) (dy : Int32) (cx : Nat) (sz : Nat) (hC24 : C ≤ 24) (hc : cx < C) (hn : so cx = 2 ∨ so cx = 3) : vx_Met l yX2_lose wsX2_lose ({ frames := 6, cells := 1, slots := 6, locals := 90 } : Room) (xrP [.ref (ad 14), .int (nI cx)] D sz (wKc ad cI cd te ri pi pw K Dn mv ko so tl lp lb ld le C cl dq dy) [(cI, .int)]) xrN (xrX "java/lang/IllegalStateException" sz) 1 6 (fun q => sz ≤ q) := by
  refine vx_ofW (cc := cX2_lose) (maxL := 3) (ret := (some .int)) (by decide) rfl ?_
  intro p e s m args below meth c s₁ B hml hex hv
  obtain ⟨rfl, hsz, hP, hK, hX⟩ := hv
  have hx := B.exec
  have hb := B.bytes
  have hr := B.returns
  have hts := atoms_spec (ws := wsX2_lose) B.pre
  have hown : s.vm.findClass RX2 = some m.cls := findClass_of_methodNamed B.named
  have hlocks := B.notSynchronized
  subst hsz
  have hS : va_S (fun q => s.heap.size ≤ q) s.heap s.heap [] := va_S.rf
  have hA : ∀ q : Nat, s.heap.size ≤ q → s.heap.size ≤ q := fun q h => h
  have hinX0 : ∀ w ∈ u_ws RX0 TX0 8, w ∈ wsX2_lose := by decide +kernel
  have hinX2 : ∀ w ∈ u_ws RX2 TX2 5, w ∈ wsX2_lose := by decide +kernel
  have hf23 := hts (.fieldLink RX2 23 "KeyCabinet" "ledger" "LKeyCabinet$Ledger;") (by decide +kernel)
  have hf154 := hts (.fieldLink RX2 154 "KeyCabinet$Ledger" "stateOf" "[I") (by decide +kernel)
  have hl := lv_entry ([.ref (ad 14), .int (nI cx)]) (n := 3) (Nat.le_of_ble_eq_true rfl)
  rw [lg_entry_eq]
  generalize (lg_sl ([.ref (ad 14), .int (nI cx)]) ++ List.replicate (3 - (lg_sl ([.ref (ad 14), .int (nI cx)])).length) Slot.unset).toArray = ls at hl ⊢
  have hl : lv_has ls 3 [(0, .ref (ad 14)), (1, .int (nI cx))] := hl
  refine lv_aload_n hx hb dX2_lose_0 rfl (lv_at hl 0 rfl) ?_
  refine lv_iload_n hx hb dX2_lose_1 rfl (lv_at hl 1 rfl) ?_
  refine kc_rVv (As := [.int (nI cx)]) (rest := []) ⟨hx, hb, hml, hown, hts⟩ (c_X2_needCopy l D ad cI cd te ri pi pw K Dn mv ko so tl lp lb ld le C cl dq dy cx hc hC24) (cwV 1 hts gX2_lose_X2_needCopy rfl rfl rfl (by decide +kernel) ⟨Nat.le_of_ble_eq_true rfl, Nat.le_of_ble_eq_true rfl⟩) hK hP [0, 1, 2, 3, 4, 5, 6, 7, 8, 9, 10, 11, 12, 13, 14, 15, 16] [0] rfl rfl 14 rfl rfl rfl rfl hl.1 rfl (Nat.le_of_ble_eq_true rfl) dX2_lose_2 ⟨Nat.le_of_ble_eq_true rfl, Nat.le_of_ble_eq_true rfl⟩ ?_
  refine lv_aload_n hx hb dX2_lose_5 rfl (lv_at hl 0 rfl) ?_
  refine va_get (D := D) (ci := 2) (v := .ref (ad 6)) (C := RX2) (T := TX2) (N := 5) hx hb hts hinX2 hown hK.1 hP 14 rfl rfl 1 (by decide) hf23 (fun _ h9 => h9) rfl dX2_lose_6 ?_
  refine va_get (D := D) (ci := 0) (v := .ref (ad 8)) (C := RX0) (T := TX0) (N := 8) hx hb hts hinX0 hown hK.1 hP 6 rfl rfl 1 (by decide) hf154 (fun _ h9 => h9) rfl dX2_lose_9 ?_
  refine lv_iload_n hx hb dX2_lose_12 rfl (lv_at hl 1 rfl) ?_
  refine kc_ald (i := cx) (n := 24) hx hb hK hP 8 0 rfl rfl (by omega) (by decide) dX2_lose_13 ?_
  refine lv_istore_n (lv' := [(2, .int (so cx)), (0, .ref (ad 14)), (1, .int (nI cx))]) hx hb dX2_lose_14 rfl hl (by decide) rfl (fun ls hl => ?_)
  refine lv_iload_n hx hb dX2_lose_15 rfl (lv_at hl 0 rfl) ?_
  refine lv_iconst (v := 2) hx hb dX2_lose_16 (by decide) ?_
  refine lv_icmp_eq (tgt := 25) hx hb dX2_lose_17 (by decide) (fun c_17 => ?_) (fun c_17 => ?_)
  · obtain ⟨sa, hsa⟩ := hX.2.2.2.1 (171, "it is lost or void") (by decide +kernel)
    exact vx_throwS (names := ["java/lang/RuntimeException", "java/lang/Exception"]) (A := fun q => s.heap.size ≤ q) hx hb hlf hown (by decide +kernel) kcT_fit (hts (.classLink RX2 44 "java/lang/IllegalStateException") (by decide +kernel)) (hts (.initialized "java/lang/IllegalStateException") (by decide +kernel)) hsa (vx_hat (fun w hw => hts w (by simp only [wsX2_lose, List.mem_cons, List.mem_append, hw, or_true, true_or])) kcT48_bad (fun w hw => va_Nw.use (kcBads_tab w hw) (hX.2.2.1 w hw))) kcT48_ot hX.1 hX.2.1 hS (hl.1.trans hml.symm) dX2_lose_25 dX2_lose_28 dX2_lose_29 dX2_lose_31 dX2_lose_34 (fun x h9 => (hex x h9).elim) (Nat.le_of_ble_eq_true rfl) (Nat.le_of_ble_eq_true rfl) (Nat.le_of_ble_eq_true rfl) (Nat.le_of_ble_eq_true rfl) hlocks (fun t h1 h2 h3 => ⟨(), trivial, rfl, h2, fun q hq _ => h3 q hq⟩) (fun _ h => nomatch h) (Nat.le_of_ble_eq_true rfl) (Nat.le_of_ble_eq_true rfl)
  · refine lv_iload_n hx hb dX2_lose_20 rfl (lv_at hl 0 rfl) ?_
    refine lv_iconst (v := 3) hx hb dX2_lose_21 (by decide) ?_
    refine lv_icmp_ne (tgt := 35) hx hb dX2_lose_22 (by decide) (fun c_22 => ?_) (fun c_22 => ?_)
    · exact hn.elim (fun h => absurd h c_17) (fun h => absurd h c_22)
    · obtain ⟨sa, hsa⟩ := hX.2.2.2.1 (171, "it is lost or void") (by decide +kernel)
      exact vx_throwS (names := ["java/lang/RuntimeException", "java/lang/Exception"]) (A := fun q => s.heap.size ≤ q) hx hb hlf hown (by decide +kernel) kcT_fit (hts (.classLink RX2 44 "java/lang/IllegalStateException") (by decide +kernel)) (hts (.initialized "java/lang/IllegalStateException") (by decide +kernel)) hsa (vx_hat (fun w hw => hts w (by simp only [wsX2_lose, List.mem_cons, List.mem_append, hw, or_true, true_or])) kcT48_bad (fun w hw => va_Nw.use (kcBads_tab w hw) (hX.2.2.1 w hw))) kcT48_ot hX.1 hX.2.1 hS (hl.1.trans hml.symm) dX2_lose_25 dX2_lose_28 dX2_lose_29 dX2_lose_31 dX2_lose_34 (fun x h9 => (hex x h9).elim) (Nat.le_of_ble_eq_true rfl) (Nat.le_of_ble_eq_true rfl) (Nat.le_of_ble_eq_true rfl) (Nat.le_of_ble_eq_true rfl) hlocks (fun t h1 h2 h3 => ⟨(), trivial, rfl, h2, fun q hq _ => h3 q hq⟩) (fun _ h => nomatch h) (Nat.le_of_ble_eq_true rfl) (Nat.le_of_ble_eq_true rfl)
set_option maxHeartbeats 4000000 in
set_option maxRecDepth 100000 in
theorem c_X2_find_f2 (l : Launch) (hlf : l.stackTraces = false) (D : va_G) (ad : Nat → Nat) (cI : ClassId) (cd : Nat → Int32) (te : Nat → Int32) (ri : Nat → Int32) (pi : Nat → Int32) (pw : Nat → Int32) (K : Nat) (Dn : Nat) (mv : Int32) (ko : Nat → Int32) (so : Nat → Int32) (tl : Nat → Int32) (lp : Nat → Int32) (lb : Nat → Int32) (ld : Nat → Int32) (le : Nat → Int32) (C : Nat) (cl : Nat → Int32) (dq : Nat → Int32) (dy : Int32) (cx : Nat) (sz : Nat) (hC24 : C ≤ 24) (hc : cx < C) (hn : ¬ so cx = 2) : vx_Met l yX2_find wsX2_find ({ frames := 6, cells := 1, slots := 6, locals := 90 } : Room) (xrP [.ref (ad 14), .int (nI cx)] D sz (wKc ad cI cd te ri pi pw K Dn mv ko so tl lp lb ld le C cl dq dy) [(cI, .int)]) xrN (xrX "java/lang/IllegalStateException" sz) 1 6 (fun q => sz ≤ q) := by
  refine vx_ofW (cc := cX2_find) (maxL := 2) (ret := (some .int)) (by decide) rfl ?_
  intro p e s m args below meth c s₁ B hml hex hv
  obtain ⟨rfl, hsz, hP, hK, hX⟩ := hv
  have hx := B.exec
  have hb := B.bytes
  have hr := B.returns
  have hts := atoms_spec (ws := wsX2_find) B.pre
  have hown : s.vm.findClass RX2 = some m.cls := findClass_of_methodNamed B.named
  have hlocks := B.notSynchronized
  subst hsz
  have hS : va_S (fun q => s.heap.size ≤ q) s.heap s.heap [] := va_S.rf
  have hA : ∀ q : Nat, s.heap.size ≤ q → s.heap.size ≤ q := fun q h => h
  have hinX0 : ∀ w ∈ u_ws RX0 TX0 8, w ∈ wsX2_find := by decide +kernel
  have hinX2 : ∀ w ∈ u_ws RX2 TX2 5, w ∈ wsX2_find := by decide +kernel
  have hf23 := hts (.fieldLink RX2 23 "KeyCabinet" "ledger" "LKeyCabinet$Ledger;") (by decide +kernel)
  have hf154 := hts (.fieldLink RX2 154 "KeyCabinet$Ledger" "stateOf" "[I") (by decide +kernel)
  have hl := lv_entry ([.ref (ad 14), .int (nI cx)]) (n := 2) (Nat.le_of_ble_eq_true rfl)
  rw [lg_entry_eq]
  generalize (lg_sl ([.ref (ad 14), .int (nI cx)]) ++ List.replicate (2 - (lg_sl ([.ref (ad 14), .int (nI cx)])).length) Slot.unset).toArray = ls at hl ⊢
  have hl : lv_has ls 2 [(0, .ref (ad 14)), (1, .int (nI cx))] := hl
  refine lv_aload_n hx hb dX2_find_0 rfl (lv_at hl 0 rfl) ?_
  refine lv_iload_n hx hb dX2_find_1 rfl (lv_at hl 1 rfl) ?_
  refine kc_rVv (As := [.int (nI cx)]) (rest := []) ⟨hx, hb, hml, hown, hts⟩ (c_X2_needCopy l D ad cI cd te ri pi pw K Dn mv ko so tl lp lb ld le C cl dq dy cx hc hC24) (cwV 1 hts gX2_find_X2_needCopy rfl rfl rfl (by decide +kernel) ⟨Nat.le_of_ble_eq_true rfl, Nat.le_of_ble_eq_true rfl⟩) hK hP [0, 1, 2, 3, 4, 5, 6, 7, 8, 9, 10, 11, 12, 13, 14, 15, 16] [0] rfl rfl 14 rfl rfl rfl rfl hl.1 rfl (Nat.le_of_ble_eq_true rfl) dX2_find_2 ⟨Nat.le_of_ble_eq_true rfl, Nat.le_of_ble_eq_true rfl⟩ ?_
  refine lv_aload_n hx hb dX2_find_5 rfl (lv_at hl 0 rfl) ?_
  refine va_get (D := D) (ci := 2) (v := .ref (ad 6)) (C := RX2) (T := TX2) (N := 5) hx hb hts hinX2 hown hK.1 hP 14 rfl rfl 1 (by decide) hf23 (fun _ h9 => h9) rfl dX2_find_6 ?_
  refine va_get (D := D) (ci := 0) (v := .ref (ad 8)) (C := RX0) (T := TX0) (N := 8) hx hb hts hinX0 hown hK.1 hP 6 rfl rfl 1 (by decide) hf154 (fun _ h9 => h9) rfl dX2_find_9 ?_
  refine lv_iload_n hx hb dX2_find_12 rfl (lv_at hl 1 rfl) ?_
  refine kc_ald (i := cx) (n := 24) hx hb hK hP 8 0 rfl rfl (by omega) (by decide) dX2_find_13 ?_
  refine lv_iconst (v := 2) hx hb dX2_find_14 (by decide) ?_
  refine lv_icmp_eq (tgt := 28) hx hb dX2_find_15 (by decide) (fun c_15 => ?_) (fun c_15 => ?_)
  · exact absurd c_15 hn
  · obtain ⟨sa, hsa⟩ := hX.2.2.2.1 (176, "it is not lost") (by decide +kernel)
    exact vx_throwS (names := ["java/lang/RuntimeException", "java/lang/Exception"]) (A := fun q => s.heap.size ≤ q) hx hb hlf hown (by decide +kernel) kcT_fit (hts (.classLink RX2 44 "java/lang/IllegalStateException") (by decide +kernel)) (hts (.initialized "java/lang/IllegalStateException") (by decide +kernel)) hsa (vx_hat (fun w hw => hts w (by simp only [wsX2_find, List.mem_cons, List.mem_append, hw, or_true, true_or])) kcT48_bad (fun w hw => va_Nw.use (kcBads_tab w hw) (hX.2.2.1 w hw))) kcT48_ot hX.1 hX.2.1 hS (hl.1.trans hml.symm) dX2_find_18 dX2_find_21 dX2_find_22 dX2_find_24 dX2_find_27 (fun x h9 => (hex x h9).elim) (Nat.le_of_ble_eq_true rfl) (Nat.le_of_ble_eq_true rfl) (Nat.le_of_ble_eq_true rfl) (Nat.le_of_ble_eq_true rfl) hlocks (fun t h1 h2 h3 => ⟨(), trivial, rfl, h2, fun q hq _ => h3 q hq⟩) (fun _ h => nomatch h) (Nat.le_of_ble_eq_true rfl) (Nat.le_of_ble_eq_true rfl)
set_option maxHeartbeats 4000000 in
set_option maxRecDepth 100000 in
theorem c_X2_pass_f1 (l : Launch) (hlf : l.stackTraces = false) (D : va_G) (ad : Nat → Nat) (cI : ClassId) (cd : Nat → Int32) (te : Nat → Int32) (ri : Nat → Int32) (pi : Nat → Int32) (pw : Nat → Int32) (K : Nat) (Dn : Nat) (mv : Int32) (ko : Nat → Int32) (so : Nat → Int32) (tl : Nat → Int32) (lp : Nat → Int32) (lb : Nat → Int32) (ld : Nat → Int32) (le : Nat → Int32) (C : Nat) (cl : Nat → Int32) (dq : Nat → Int32) (dy : Int32) (dz : Int32) (sz : Nat) (hz : dz < 1 ∨ (99 : Int32) < dz) : vx_Met l yX2_pass wsX2_pass ({ frames := 7, cells := 1, slots := 6, locals := 111 } : Room) (xrP [.ref (ad 14), .int dz] D sz (wKc ad cI cd te ri pi pw K Dn mv ko so tl lp lb ld le C cl dq dy) [(cI, .int)]) xrN (xrX "java/lang/IllegalArgumentException" sz) 1 6 (fun q => sz ≤ q) := by
  refine vx_ofW (cc := cX2_pass) (maxL := 2) (ret := (some .int)) (by decide) rfl ?_
  intro p e s m args below meth c s₁ B hml hex hv
  obtain ⟨rfl, hsz, hP, hK, hX⟩ := hv
  have hx := B.exec
  have hb := B.bytes
  have hr := B.returns
  have hts := atoms_spec (ws := wsX2_pass) B.pre
  have hown : s.vm.findClass RX2 = some m.cls := findClass_of_methodNamed B.named
  have hlocks := B.notSynchronized
  subst hsz
  have hS : va_S (fun q => s.heap.size ≤ q) s.heap s.heap [] := va_S.rf
  have hA : ∀ q : Nat, s.heap.size ≤ q → s.heap.size ≤ q := fun q h => h
  have hl := lv_entry ([.ref (ad 14), .int dz]) (n := 2) (Nat.le_of_ble_eq_true rfl)
  rw [lg_entry_eq]
  generalize (lg_sl ([.ref (ad 14), .int dz]) ++ List.replicate (2 - (lg_sl ([.ref (ad 14), .int dz])).length) Slot.unset).toArray = ls at hl ⊢
  have hl : lv_has ls 2 [(0, .ref (ad 14)), (1, .int dz)] := hl
  refine lv_aload_n hx hb dX2_pass_0 rfl (lv_at hl 0 rfl) ?_
  refine lv_iload_n hx hb dX2_pass_1 rfl (lv_at hl 1 rfl) ?_
  refine kc_xV (E := "java/lang/IllegalArgumentException") (As := [.int dz]) (rest := []) ⟨hx, hb, hml, hown, hts⟩ (c_X2_needDays_x l hlf D ad cI cd te ri pi pw K Dn mv ko so tl lp lb ld le C cl dq dy dz s.heap.size hz) (cwV 1 hts gX2_pass_X2_needDays rfl rfl rfl (by decide +kernel) ⟨Nat.le_of_ble_eq_true rfl, Nat.le_of_ble_eq_true rfl⟩) hK hP hX [0, 1, 2, 3, 4, 5, 6, 7, 8, 9, 10, 11, 12, 13, 14, 15, 16] [0] rfl rfl 14 rfl rfl rfl rfl hl.1 rfl (Nat.le_of_ble_eq_true rfl) dX2_pass_2 ⟨Nat.le_of_ble_eq_true rfl, Nat.le_of_ble_eq_true rfl⟩ hS hA (fun ce q9 H1 locs1 hz hk9 hS1 hce hcv hcl => ?_)
  exact kc_xout hex hlocks hz hk9 hS1 hce hcv hcl (Nat.le_of_ble_eq_true rfl) (Nat.le_of_ble_eq_true rfl)
set_option maxHeartbeats 4000000 in
set_option maxRecDepth 100000 in
theorem c_X2_pass_f2 (l : Launch) (hlf : l.stackTraces = false) (D : va_G) (ad : Nat → Nat) (cI : ClassId) (cd : Nat → Int32) (te : Nat → Int32) (ri : Nat → Int32) (pi : Nat → Int32) (pw : Nat → Int32) (K : Nat) (Dn : Nat) (mv : Int32) (ko : Nat → Int32) (so : Nat → Int32) (tl : Nat → Int32) (lp : Nat → Int32) (lb : Nat → Int32) (ld : Nat → Int32) (le : Nat → Int32) (C : Nat) (cl : Nat → Int32) (dq : Nat → Int32) (dy : Int32) (dz : Int32) (sz : Nat) (hz1 : ¬ dz < 1) (hz2 : dz ≤ 99) (hn : ¬ dy + dz ≤ 9999) : vx_Met l yX2_pass wsX2_pass ({ frames := 6, cells := 1, slots := 6, locals := 90 } : Room) (xrP [.ref (ad 14), .int dz] D sz (wKc ad cI cd te ri pi pw K Dn mv ko so tl lp lb ld le C cl dq dy) [(cI, .int)]) xrN (xrX "java/lang/IllegalStateException" sz) 1 6 (fun q => sz ≤ q) := by
  refine vx_ofW (cc := cX2_pass) (maxL := 2) (ret := (some .int)) (by decide) rfl ?_
  intro p e s m args below meth c s₁ B hml hex hv
  obtain ⟨rfl, hsz, hP, hK, hX⟩ := hv
  have hx := B.exec
  have hb := B.bytes
  have hr := B.returns
  have hts := atoms_spec (ws := wsX2_pass) B.pre
  have hown : s.vm.findClass RX2 = some m.cls := findClass_of_methodNamed B.named
  have hlocks := B.notSynchronized
  subst hsz
  have hS : va_S (fun q => s.heap.size ≤ q) s.heap s.heap [] := va_S.rf
  have hA : ∀ q : Nat, s.heap.size ≤ q → s.heap.size ≤ q := fun q h => h
  have hinX2 : ∀ w ∈ u_ws RX2 TX2 5, w ∈ wsX2_pass := by decide +kernel
  have hf7 := hts (.fieldLink RX2 7 "KeyCabinet" "day" "I") (by decide +kernel)
  have hl := lv_entry ([.ref (ad 14), .int dz]) (n := 2) (Nat.le_of_ble_eq_true rfl)
  rw [lg_entry_eq]
  generalize (lg_sl ([.ref (ad 14), .int dz]) ++ List.replicate (2 - (lg_sl ([.ref (ad 14), .int dz])).length) Slot.unset).toArray = ls at hl ⊢
  have hl : lv_has ls 2 [(0, .ref (ad 14)), (1, .int dz)] := hl
  refine lv_aload_n hx hb dX2_pass_0 rfl (lv_at hl 0 rfl) ?_
  refine lv_iload_n hx hb dX2_pass_1 rfl (lv_at hl 1 rfl) ?_
  refine kc_rVv (As := [.int dz]) (rest := []) ⟨hx, hb, hml, hown, hts⟩ (c_X2_needDays l D ad cI cd te ri pi pw K Dn mv ko so tl lp lb ld le C cl dq dy dz hz1 hz2) (cwV 1 hts gX2_pass_X2_needDays rfl rfl rfl (by decide +kernel) ⟨Nat.le_of_ble_eq_true rfl, Nat.le_of_ble_eq_true rfl⟩) hK hP [0, 1, 2, 3, 4, 5, 6, 7, 8, 9, 10, 11, 12, 13, 14, 15, 16] [0] rfl rfl 14 rfl rfl rfl rfl hl.1 rfl (Nat.le_of_ble_eq_true rfl) dX2_pass_2 ⟨Nat.le_of_ble_eq_true rfl, Nat.le_of_ble_eq_true rfl⟩ ?_
  refine lv_aload_n hx hb dX2_pass_5 rfl (lv_at hl 0 rfl) ?_
  refine va_get (D := D) (ci := 2) (v := .int dy) (C := RX2) (T := TX2) (N := 5) hx hb hts hinX2 hown hK.1 hP 14 rfl rfl 4 (by decide) hf7 (fun _ h9 => h9) rfl dX2_pass_6 ?_
  refine lv_iload_n hx hb dX2_pass_9 rfl (lv_at hl 1 rfl) ?_
  refine lv_iadd hx hb dX2_pass_10 ?_
  refine lv_sipush (v := 9999) hx hb dX2_pass_11 (by decide) ?_
  refine lv_icmp_le (tgt := 27) hx hb dX2_pass_14 (by decide) (fun c_14 => ?_) (fun c_14 => ?_)
  · exact absurd c_14 hn
  · obtain ⟨sa, hsa⟩ := hX.2.2.2.1 (181, "it would be later than day 9999") (by decide +kernel)
    exact vx_throwS (names := ["java/lang/RuntimeException", "java/lang/Exception"]) (A := fun q => s.heap.size ≤ q) hx hb hlf hown (by decide +kernel) kcT_fit (hts (.classLink RX2 44 "java/lang/IllegalStateException") (by decide +kernel)) (hts (.initialized "java/lang/IllegalStateException") (by decide +kernel)) hsa (vx_hat (fun w hw => hts w (by simp only [wsX2_pass, List.mem_cons, List.mem_append, hw, or_true, true_or])) kcT48_bad (fun w hw => va_Nw.use (kcBads_tab w hw) (hX.2.2.1 w hw))) kcT48_ot hX.1 hX.2.1 hS (hl.1.trans hml.symm) dX2_pass_17 dX2_pass_20 dX2_pass_21 dX2_pass_23 dX2_pass_26 (fun x h9 => (hex x h9).elim) (Nat.le_of_ble_eq_true rfl) (Nat.le_of_ble_eq_true rfl) (Nat.le_of_ble_eq_true rfl) (Nat.le_of_ble_eq_true rfl) hlocks (fun t h1 h2 h3 => ⟨(), trivial, rfl, h2, fun q hq _ => h3 q hq⟩) (fun _ h => nomatch h) (Nat.le_of_ble_eq_true rfl) (Nat.le_of_ble_eq_true rfl)
set_option maxHeartbeats 4000000 in
set_option maxRecDepth 100000 in
theorem c_X2_copy_f1 (l : Launch) (hlf : l.stackTraces = false) (D : va_G) (ad : Nat → Nat) (cI : ClassId) (cd : Nat → Int32) (te : Nat → Int32) (ri : Nat → Int32) (pi : Nat → Int32) (pw : Nat → Int32) (K : Nat) (Dn : Nat) (mv : Int32) (ko : Nat → Int32) (so : Nat → Int32) (tl : Nat → Int32) (lp : Nat → Int32) (lb : Nat → Int32) (ld : Nat → Int32) (le : Nat → Int32) (C : Nat) (cl : Nat → Int32) (dq : Nat → Int32) (dy : Int32) (x : Int32) (wh : Int32) (sz : Nat) (hBad : ¬ jIn C x = true) : vx_Met l yX2_copy wsX2_copy ({ frames := 7, cells := 1, slots := 6, locals := 111 } : Room) (xrP [.ref (ad 14), .int x, .int wh] D sz (wKc ad cI cd te ri pi pw K Dn mv ko so tl lp lb ld le C cl dq dy) [(cI, .int)]) xrN (xrX "java/lang/IndexOutOfBoundsException" sz) 1 6 (fun q => sz ≤ q) := by
  refine vx_ofW (cc := cX2_copy) (maxL := 3) (ret := (some .int)) (by decide) rfl ?_
  intro p e s m args below meth c s₁ B hml hex hv
  obtain ⟨rfl, hsz, hP, hK, hX⟩ := hv
  have hx := B.exec
  have hb := B.bytes
  have hr := B.returns
  have hts := atoms_spec (ws := wsX2_copy) B.pre
  have hown : s.vm.findClass RX2 = some m.cls := findClass_of_methodNamed B.named
  have hlocks := B.notSynchronized
  subst hsz
  have hS : va_S (fun q => s.heap.size ≤ q) s.heap s.heap [] := va_S.rf
  have hA : ∀ q : Nat, s.heap.size ≤ q → s.heap.size ≤ q := fun q h => h
  have hl := lv_entry ([.ref (ad 14), .int x, .int wh]) (n := 3) (Nat.le_of_ble_eq_true rfl)
  rw [lg_entry_eq]
  generalize (lg_sl ([.ref (ad 14), .int x, .int wh]) ++ List.replicate (3 - (lg_sl ([.ref (ad 14), .int x, .int wh])).length) Slot.unset).toArray = ls at hl ⊢
  have hl : lv_has ls 3 [(0, .ref (ad 14)), (1, .int x), (2, .int wh)] := hl
  refine lv_aload_n hx hb dX2_copy_0 rfl (lv_at hl 0 rfl) ?_
  refine lv_iload_n hx hb dX2_copy_1 rfl (lv_at hl 1 rfl) ?_
  refine kc_xV (E := "java/lang/IndexOutOfBoundsException") (As := [.int x]) (rest := []) ⟨hx, hb, hml, hown, hts⟩ (c_X2_needCopy_x l hlf D ad cI cd te ri pi pw K Dn mv ko so tl lp lb ld le C cl dq dy x s.heap.size hBad) (cwV 1 hts gX2_copy_X2_needCopy rfl rfl rfl (by decide +kernel) ⟨Nat.le_of_ble_eq_true rfl, Nat.le_of_ble_eq_true rfl⟩) hK hP hX [0, 1, 2, 3, 4, 5, 6, 7, 8, 9, 10, 11, 12, 13, 14, 15, 16] [0] rfl rfl 14 rfl rfl rfl rfl hl.1 rfl (Nat.le_of_ble_eq_true rfl) dX2_copy_2 ⟨Nat.le_of_ble_eq_true rfl, Nat.le_of_ble_eq_true rfl⟩ hS hA (fun ce q9 H1 locs1 hz hk9 hS1 hce hcv hcl => ?_)
  exact kc_xout hex hlocks hz hk9 hS1 hce hcv hcl (Nat.le_of_ble_eq_true rfl) (Nat.le_of_ble_eq_true rfl)
set_option maxHeartbeats 4000000 in
set_option maxRecDepth 100000 in
theorem c_X2_copy_f2 (l : Launch) (hlf : l.stackTraces = false) (D : va_G) (ad : Nat → Nat) (cI : ClassId) (cd : Nat → Int32) (te : Nat → Int32) (ri : Nat → Int32) (pi : Nat → Int32) (pw : Nat → Int32) (K : Nat) (Dn : Nat) (mv : Int32) (ko : Nat → Int32) (so : Nat → Int32) (tl : Nat → Int32) (lp : Nat → Int32) (lb : Nat → Int32) (ld : Nat → Int32) (le : Nat → Int32) (C : Nat) (cl : Nat → Int32) (dq : Nat → Int32) (dy : Int32) (cx : Nat) (wh : Int32) (sz : Nat) (hC24 : C ≤ 24) (hc : cx < C) (hBad : ¬ jIn 5 wh = true) : vx_Met l yX2_copy wsX2_copy ({ frames := 6, cells := 1, slots := 6, locals := 90 } : Room) (xrP [.ref (ad 14), .int (nI cx), .int wh] D sz (wKc ad cI cd te ri pi pw K Dn mv ko so tl lp lb ld le C cl dq dy) [(cI, .int)]) xrN (xrX "java/lang/IndexOutOfBoundsException" sz) 1 6 (fun q => sz ≤ q) := by
  refine vx_ofW (cc := cX2_copy) (maxL := 3) (ret := (some .int)) (by decide) rfl ?_
  intro p e s m args below meth c s₁ B hml hex hv
  obtain ⟨rfl, hsz, hP, hK, hX⟩ := hv
  have hx := B.exec
  have hb := B.bytes
  have hr := B.returns
  have hts := atoms_spec (ws := wsX2_copy) B.pre
  have hown : s.vm.findClass RX2 = some m.cls := findClass_of_methodNamed B.named
  have hlocks := B.notSynchronized
  subst hsz
  have hS : va_S (fun q => s.heap.size ≤ q) s.heap s.heap [] := va_S.rf
  have hA : ∀ q : Nat, s.heap.size ≤ q → s.heap.size ≤ q := fun q h => h
  have hl := lv_entry ([.ref (ad 14), .int (nI cx), .int wh]) (n := 3) (Nat.le_of_ble_eq_true rfl)
  rw [lg_entry_eq]
  generalize (lg_sl ([.ref (ad 14), .int (nI cx), .int wh]) ++ List.replicate (3 - (lg_sl ([.ref (ad 14), .int (nI cx), .int wh])).length) Slot.unset).toArray = ls at hl ⊢
  have hl : lv_has ls 3 [(0, .ref (ad 14)), (1, .int (nI cx)), (2, .int wh)] := hl
  refine lv_aload_n hx hb dX2_copy_0 rfl (lv_at hl 0 rfl) ?_
  refine lv_iload_n hx hb dX2_copy_1 rfl (lv_at hl 1 rfl) ?_
  refine kc_rVv (As := [.int (nI cx)]) (rest := []) ⟨hx, hb, hml, hown, hts⟩ (c_X2_needCopy l D ad cI cd te ri pi pw K Dn mv ko so tl lp lb ld le C cl dq dy cx hc hC24) (cwV 1 hts gX2_copy_X2_needCopy rfl rfl rfl (by decide +kernel) ⟨Nat.le_of_ble_eq_true rfl, Nat.le_of_ble_eq_true rfl⟩) hK hP [0, 1, 2, 3, 4, 5, 6, 7, 8, 9, 10, 11, 12, 13, 14, 15, 16] [0] rfl rfl 14 rfl rfl rfl rfl hl.1 rfl (Nat.le_of_ble_eq_true rfl) dX2_copy_2 ⟨Nat.le_of_ble_eq_true rfl, Nat.le_of_ble_eq_true rfl⟩ ?_
  refine lv_iload_n hx hb dX2_copy_5 rfl (lv_at hl 2 rfl) ?_
  by_cases c6_0 : wh = 0
  · exact absurd (by rw [c6_0]; decide) hBad
  by_cases c6_1 : wh = 1
  · exact absurd (by rw [c6_1]; decide) hBad
  by_cases c6_2 : wh = 2
  · exact absurd (by rw [c6_2]; decide) hBad
  by_cases c6_3 : wh = 3
  · exact absurd (by rw [c6_3]; decide) hBad
  by_cases c6_4 : wh = 4
  · exact absurd (by rw [c6_4]; decide) hBad
  refine lv_tableOut (tgt := 88) hx hb dX2_copy_6 (kc_swo5 c6_0 c6_1 c6_2 c6_3 c6_4) (by decide) ?_
  obtain ⟨sa, hsa⟩ := hX.2.2.2.1 (189, "what is 0 to 4") (by decide +kernel)
  exact vx_throwS (names := ["java/lang/RuntimeException", "java/lang/Exception"]) (A := fun q => s.heap.size ≤ q) hx hb hlf hown (by decide +kernel) kcT_fit (hts (.classLink RX2 87 "java/lang/IndexOutOfBoundsException") (by decide +kernel)) (hts (.initialized "java/lang/IndexOutOfBoundsException") (by decide +kernel)) hsa (vx_hat (fun w hw => hts w (by simp only [wsX2_copy, List.mem_cons, List.mem_append, hw, or_true, true_or])) kcT91_bad (fun w hw => va_Nw.use (kcBads_tab w hw) (hX.2.2.1 w hw))) kcT91_ot hX.1 hX.2.1 hS (hl.1.trans hml.symm) dX2_copy_88 dX2_copy_91 dX2_copy_92 dX2_copy_94 dX2_copy_97 (fun x h9 => (hex x h9).elim) (Nat.le_of_ble_eq_true rfl) (Nat.le_of_ble_eq_true rfl) (Nat.le_of_ble_eq_true rfl) (Nat.le_of_ble_eq_true rfl) hlocks (fun t h1 h2 h3 => ⟨(), trivial, rfl, h2, fun q hq _ => h3 q hq⟩) (fun _ h => nomatch h) (Nat.le_of_ble_eq_true rfl) (Nat.le_of_ble_eq_true rfl)
set_option maxHeartbeats 4000000 in
set_option maxRecDepth 100000 in
theorem c_X2_holderAt_f1 (l : Launch) (hlf : l.stackTraces = false) (D : va_G) (ad : Nat → Nat) (cI : ClassId) (cd : Nat → Int32) (te : Nat → Int32) (ri : Nat → Int32) (pi : Nat → Int32) (pw : Nat → Int32) (K : Nat) (Dn : Nat) (mv : Int32) (ko : Nat → Int32) (so : Nat → Int32) (tl : Nat → Int32) (lp : Nat → Int32) (lb : Nat → Int32) (ld : Nat → Int32) (le : Nat → Int32) (C : Nat) (cl : Nat → Int32) (dq : Nat → Int32) (dy : Int32) (x : Int32) (da : Int32) (sz : Nat) (hBad : ¬ jIn C x = true) : vx_Met l yX2_holderAt wsX2_holderAt ({ frames := 7, cells := 1, slots := 6, locals := 111 } : Room) (xrP [.ref (ad 14), .int x, .int da] D sz (wKc ad cI cd te ri pi pw K Dn mv ko so tl lp lb ld le C cl dq dy) [(cI, .int)]) xrN (xrX "java/lang/IndexOutOfBoundsException" sz) 1 6 (fun q => sz ≤ q) := by
  refine vx_ofW (cc := cX2_holderAt) (maxL := 3) (ret := (some .int)) (by decide) rfl ?_
  intro p e s m args below meth c s₁ B hml hex hv
  obtain ⟨rfl, hsz, hP, hK, hX⟩ := hv
  have hx := B.exec
  have hb := B.bytes
  have hr := B.returns
  have hts := atoms_spec (ws := wsX2_holderAt) B.pre
  have hown : s.vm.findClass RX2 = some m.cls := findClass_of_methodNamed B.named
  have hlocks := B.notSynchronized
  subst hsz
  have hS : va_S (fun q => s.heap.size ≤ q) s.heap s.heap [] := va_S.rf
  have hA : ∀ q : Nat, s.heap.size ≤ q → s.heap.size ≤ q := fun q h => h
  have hl := lv_entry ([.ref (ad 14), .int x, .int da]) (n := 3) (Nat.le_of_ble_eq_true rfl)
  rw [lg_entry_eq]
  generalize (lg_sl ([.ref (ad 14), .int x, .int da]) ++ List.replicate (3 - (lg_sl ([.ref (ad 14), .int x, .int da])).length) Slot.unset).toArray = ls at hl ⊢
  have hl : lv_has ls 3 [(0, .ref (ad 14)), (1, .int x), (2, .int da)] := hl
  refine lv_aload_n hx hb dX2_holderAt_0 rfl (lv_at hl 0 rfl) ?_
  refine lv_iload_n hx hb dX2_holderAt_1 rfl (lv_at hl 1 rfl) ?_
  refine kc_xV (E := "java/lang/IndexOutOfBoundsException") (As := [.int x]) (rest := []) ⟨hx, hb, hml, hown, hts⟩ (c_X2_needCopy_x l hlf D ad cI cd te ri pi pw K Dn mv ko so tl lp lb ld le C cl dq dy x s.heap.size hBad) (cwV 1 hts gX2_holderAt_X2_needCopy rfl rfl rfl (by decide +kernel) ⟨Nat.le_of_ble_eq_true rfl, Nat.le_of_ble_eq_true rfl⟩) hK hP hX [0, 1, 2, 3, 4, 5, 6, 7, 8, 9, 10, 11, 12, 13, 14, 15, 16] [0] rfl rfl 14 rfl rfl rfl rfl hl.1 rfl (Nat.le_of_ble_eq_true rfl) dX2_holderAt_2 ⟨Nat.le_of_ble_eq_true rfl, Nat.le_of_ble_eq_true rfl⟩ hS hA (fun ce q9 H1 locs1 hz hk9 hS1 hce hcv hcl => ?_)
  exact kc_xout hex hlocks hz hk9 hS1 hce hcv hcl (Nat.le_of_ble_eq_true rfl) (Nat.le_of_ble_eq_true rfl)
set_option maxHeartbeats 4000000 in
set_option maxRecDepth 100000 in
theorem c_X2_holderAt_f2 (l : Launch) (hlf : l.stackTraces = false) (D : va_G) (ad : Nat → Nat) (cI : ClassId) (cd : Nat → Int32) (te : Nat → Int32) (ri : Nat → Int32) (pi : Nat → Int32) (pw : Nat → Int32) (K : Nat) (Dn : Nat) (mv : Int32) (ko : Nat → Int32) (so : Nat → Int32) (tl : Nat → Int32) (lp : Nat → Int32) (lb : Nat → Int32) (ld : Nat → Int32) (le : Nat → Int32) (C : Nat) (cl : Nat → Int32) (dq : Nat → Int32) (dy : Int32) (cx : Nat) (da : Int32) (sz : Nat) (hC24 : C ≤ 24) (hc : cx < C) (hz : da < 0 ∨ dy < da) : vx_Met l yX2_holderAt wsX2_holderAt ({ frames := 6, cells := 1, slots := 6, locals := 90 } : Room) (xrP [.ref (ad 14), .int (nI cx), .int da] D sz (wKc ad cI cd te ri pi pw K Dn mv ko so tl lp lb ld le C cl dq dy) [(cI, .int)]) xrN (xrX "java/lang/IllegalArgumentException" sz) 1 6 (fun q => sz ≤ q) := by
  refine vx_ofW (cc := cX2_holderAt) (maxL := 3) (ret := (some .int)) (by decide) rfl ?_
  intro p e s m args below meth c s₁ B hml hex hv
  obtain ⟨rfl, hsz, hP, hK, hX⟩ := hv
  have hx := B.exec
  have hb := B.bytes
  have hr := B.returns
  have hts := atoms_spec (ws := wsX2_holderAt) B.pre
  have hown : s.vm.findClass RX2 = some m.cls := findClass_of_methodNamed B.named
  have hlocks := B.notSynchronized
  subst hsz
  have hS : va_S (fun q => s.heap.size ≤ q) s.heap s.heap [] := va_S.rf
  have hA : ∀ q : Nat, s.heap.size ≤ q → s.heap.size ≤ q := fun q h => h
  have hinX2 : ∀ w ∈ u_ws RX2 TX2 5, w ∈ wsX2_holderAt := by decide +kernel
  have hf7 := hts (.fieldLink RX2 7 "KeyCabinet" "day" "I") (by decide +kernel)
  have hl := lv_entry ([.ref (ad 14), .int (nI cx), .int da]) (n := 3) (Nat.le_of_ble_eq_true rfl)
  rw [lg_entry_eq]
  generalize (lg_sl ([.ref (ad 14), .int (nI cx), .int da]) ++ List.replicate (3 - (lg_sl ([.ref (ad 14), .int (nI cx), .int da])).length) Slot.unset).toArray = ls at hl ⊢
  have hl : lv_has ls 3 [(0, .ref (ad 14)), (1, .int (nI cx)), (2, .int da)] := hl
  refine lv_aload_n hx hb dX2_holderAt_0 rfl (lv_at hl 0 rfl) ?_
  refine lv_iload_n hx hb dX2_holderAt_1 rfl (lv_at hl 1 rfl) ?_
  refine kc_rVv (As := [.int (nI cx)]) (rest := []) ⟨hx, hb, hml, hown, hts⟩ (c_X2_needCopy l D ad cI cd te ri pi pw K Dn mv ko so tl lp lb ld le C cl dq dy cx hc hC24) (cwV 1 hts gX2_holderAt_X2_needCopy rfl rfl rfl (by decide +kernel) ⟨Nat.le_of_ble_eq_true rfl, Nat.le_of_ble_eq_true rfl⟩) hK hP [0, 1, 2, 3, 4, 5, 6, 7, 8, 9, 10, 11, 12, 13, 14, 15, 16] [0] rfl rfl 14 rfl rfl rfl rfl hl.1 rfl (Nat.le_of_ble_eq_true rfl) dX2_holderAt_2 ⟨Nat.le_of_ble_eq_true rfl, Nat.le_of_ble_eq_true rfl⟩ ?_
  refine lv_iload_n hx hb dX2_holderAt_5 rfl (lv_at hl 2 rfl) ?_
  refine lv_if_lt (tgt := 17) hx hb dX2_holderAt_6 (by decide) (fun c_6 => ?_) (fun c_6 => ?_)
  · obtain ⟨sa, hsa⟩ := hX.2.2.2.1 (194, "the day is 0 to today") (by decide +kernel)
    exact vx_throwS (names := ["java/lang/RuntimeException", "java/lang/Exception"]) (A := fun q => s.heap.size ≤ q) hx hb hlf hown (by decide +kernel) kcT_fit (hts (.classLink RX2 34 "java/lang/IllegalArgumentException") (by decide +kernel)) (hts (.initialized "java/lang/IllegalArgumentException") (by decide +kernel)) hsa (vx_hat (fun w hw => hts w (by simp only [wsX2_holderAt, List.mem_cons, List.mem_append, hw, or_true, true_or])) kcT38_bad (fun w hw => va_Nw.use (kcBads_tab w hw) (hX.2.2.1 w hw))) kcT38_ot hX.1 hX.2.1 hS (hl.1.trans hml.symm) dX2_holderAt_17 dX2_holderAt_20 dX2_holderAt_21 dX2_holderAt_23 dX2_holderAt_26 (fun x h9 => (hex x h9).elim) (Nat.le_of_ble_eq_true rfl) (Nat.le_of_ble_eq_true rfl) (Nat.le_of_ble_eq_true rfl) (Nat.le_of_ble_eq_true rfl) hlocks (fun t h1 h2 h3 => ⟨(), trivial, rfl, h2, fun q hq _ => h3 q hq⟩) (fun _ h => nomatch h) (Nat.le_of_ble_eq_true rfl) (Nat.le_of_ble_eq_true rfl)
  · refine lv_iload_n hx hb dX2_holderAt_9 rfl (lv_at hl 2 rfl) ?_
    refine lv_aload_n hx hb dX2_holderAt_10 rfl (lv_at hl 0 rfl) ?_
    refine va_get (D := D) (ci := 2) (v := .int dy) (C := RX2) (T := TX2) (N := 5) hx hb hts hinX2 hown hK.1 hP 14 rfl rfl 4 (by decide) hf7 (fun _ h9 => h9) rfl dX2_holderAt_11 ?_
    refine lv_icmp_le (tgt := 27) hx hb dX2_holderAt_14 (by decide) (fun c_14 => ?_) (fun c_14 => ?_)
    · exact hz.elim (fun h => absurd h c_6) (fun h => absurd c_14 (kc_nle h))
    · obtain ⟨sa, hsa⟩ := hX.2.2.2.1 (194, "the day is 0 to today") (by decide +kernel)
      exact vx_throwS (names := ["java/lang/RuntimeException", "java/lang/Exception"]) (A := fun q => s.heap.size ≤ q) hx hb hlf hown (by decide +kernel) kcT_fit (hts (.classLink RX2 34 "java/lang/IllegalArgumentException") (by decide +kernel)) (hts (.initialized "java/lang/IllegalArgumentException") (by decide +kernel)) hsa (vx_hat (fun w hw => hts w (by simp only [wsX2_holderAt, List.mem_cons, List.mem_append, hw, or_true, true_or])) kcT38_bad (fun w hw => va_Nw.use (kcBads_tab w hw) (hX.2.2.1 w hw))) kcT38_ot hX.1 hX.2.1 hS (hl.1.trans hml.symm) dX2_holderAt_17 dX2_holderAt_20 dX2_holderAt_21 dX2_holderAt_23 dX2_holderAt_26 (fun x h9 => (hex x h9).elim) (Nat.le_of_ble_eq_true rfl) (Nat.le_of_ble_eq_true rfl) (Nat.le_of_ble_eq_true rfl) (Nat.le_of_ble_eq_true rfl) hlocks (fun t h1 h2 h3 => ⟨(), trivial, rfl, h2, fun q hq _ => h3 q hq⟩) (fun _ h => nomatch h) (Nat.le_of_ble_eq_true rfl) (Nat.le_of_ble_eq_true rfl)
set_option maxHeartbeats 4000000 in
set_option maxRecDepth 100000 in
theorem c_X2_reach_f1 (l : Launch) (hlf : l.stackTraces = false) (D : va_G) (ad : Nat → Nat) (cI : ClassId) (cd : Nat → Int32) (te : Nat → Int32) (ri : Nat → Int32) (pi : Nat → Int32) (pw : Nat → Int32) (K : Nat) (Dn : Nat) (mv : Int32) (ko : Nat → Int32) (so : Nat → Int32) (tl : Nat → Int32) (lp : Nat → Int32) (lb : Nat → Int32) (ld : Nat → Int32) (le : Nat → Int32) (C : Nat) (cl : Nat → Int32) (dq : Nat → Int32) (dy : Int32) (pe : Int32) (sz : Nat) (hBad : ¬ jIn 8 pe = true) : vx_Met l yX2_reach wsX2_reach ({ frames := 7, cells := 1, slots := 6, locals := 111 } : Room) (xrP [.ref (ad 14), .int pe] D sz (wKc ad cI cd te ri pi pw K Dn mv ko so tl lp lb ld le C cl dq dy) [(cI, .int)]) xrN (xrX "java/lang/IndexOutOfBoundsException" sz) 1 6 (fun q => sz ≤ q) := by
  refine vx_ofW (cc := cX2_reach) (maxL := 2) (ret := (some .int)) (by decide) rfl ?_
  intro p e s m args below meth c s₁ B hml hex hv
  obtain ⟨rfl, hsz, hP, hK, hX⟩ := hv
  have hx := B.exec
  have hb := B.bytes
  have hr := B.returns
  have hts := atoms_spec (ws := wsX2_reach) B.pre
  have hown : s.vm.findClass RX2 = some m.cls := findClass_of_methodNamed B.named
  have hlocks := B.notSynchronized
  subst hsz
  have hS : va_S (fun q => s.heap.size ≤ q) s.heap s.heap [] := va_S.rf
  have hA : ∀ q : Nat, s.heap.size ≤ q → s.heap.size ≤ q := fun q h => h
  have hl := lv_entry ([.ref (ad 14), .int pe]) (n := 2) (Nat.le_of_ble_eq_true rfl)
  rw [lg_entry_eq]
  generalize (lg_sl ([.ref (ad 14), .int pe]) ++ List.replicate (2 - (lg_sl ([.ref (ad 14), .int pe])).length) Slot.unset).toArray = ls at hl ⊢
  have hl : lv_has ls 2 [(0, .ref (ad 14)), (1, .int pe)] := hl
  refine lv_aload_n hx hb dX2_reach_0 rfl (lv_at hl 0 rfl) ?_
  refine lv_iload_n hx hb dX2_reach_1 rfl (lv_at hl 1 rfl) ?_
  refine kc_xV (E := "java/lang/IndexOutOfBoundsException") (As := [.int pe]) (rest := []) ⟨hx, hb, hml, hown, hts⟩ (c_X2_needPerson_x l hlf D ad cI cd te ri pi pw K Dn mv ko so tl lp lb ld le C cl dq dy pe s.heap.size hBad) (cwV 1 hts gX2_reach_X2_needPerson rfl rfl rfl (by decide +kernel) ⟨Nat.le_of_ble_eq_true rfl, Nat.le_of_ble_eq_true rfl⟩) hK hP hX [0, 1, 2, 3, 4, 5, 6, 7, 8, 9, 10, 11, 12, 13, 14, 15, 16] [0] rfl rfl 14 rfl rfl rfl rfl hl.1 rfl (Nat.le_of_ble_eq_true rfl) dX2_reach_2 ⟨Nat.le_of_ble_eq_true rfl, Nat.le_of_ble_eq_true rfl⟩ hS hA (fun ce q9 H1 locs1 hz hk9 hS1 hce hcv hcl => ?_)
  exact kc_xout hex hlocks hz hk9 hS1 hce hcv hcl (Nat.le_of_ble_eq_true rfl) (Nat.le_of_ble_eq_true rfl)
set_option maxHeartbeats 4000000 in
set_option maxRecDepth 100000 in
theorem c_X2_suggest_f1 (l : Launch) (hlf : l.stackTraces = false) (D : va_G) (ad : Nat → Nat) (cI : ClassId) (cd : Nat → Int32) (te : Nat → Int32) (ri : Nat → Int32) (pi : Nat → Int32) (pw : Nat → Int32) (K : Nat) (Dn : Nat) (mv : Int32) (ko : Nat → Int32) (so : Nat → Int32) (tl : Nat → Int32) (lp : Nat → Int32) (lb : Nat → Int32) (ld : Nat → Int32) (le : Nat → Int32) (C : Nat) (cl : Nat → Int32) (dq : Nat → Int32) (dy : Int32) (pe : Int32) (wa : Int32) (sz : Nat) (hBad : ¬ jIn 8 pe = true) : vx_Met l yX2_suggest wsX2_suggest ({ frames := 7, cells := 1, slots := 6, locals := 111 } : Room) (xrP [.ref (ad 14), .int pe, .int wa] D sz (wKc ad cI cd te ri pi pw K Dn mv ko so tl lp lb ld le C cl dq dy) [(cI, .int)]) xrN (xrX "java/lang/IndexOutOfBoundsException" sz) 1 6 (fun q => sz ≤ q) := by
  refine vx_ofW (cc := cX2_suggest) (maxL := 4) (ret := (some .int)) (by decide) rfl ?_
  intro p e s m args below meth c s₁ B hml hex hv
  obtain ⟨rfl, hsz, hP, hK, hX⟩ := hv
  have hx := B.exec
  have hb := B.bytes
  have hr := B.returns
  have hts := atoms_spec (ws := wsX2_suggest) B.pre
  have hown : s.vm.findClass RX2 = some m.cls := findClass_of_methodNamed B.named
  have hlocks := B.notSynchronized
  subst hsz
  have hS : va_S (fun q => s.heap.size ≤ q) s.heap s.heap [] := va_S.rf
  have hA : ∀ q : Nat, s.heap.size ≤ q → s.heap.size ≤ q := fun q h => h
  have hl := lv_entry ([.ref (ad 14), .int pe, .int wa]) (n := 4) (Nat.le_of_ble_eq_true rfl)
  rw [lg_entry_eq]
  generalize (lg_sl ([.ref (ad 14), .int pe, .int wa]) ++ List.replicate (4 - (lg_sl ([.ref (ad 14), .int pe, .int wa])).length) Slot.unset).toArray = ls at hl ⊢
  have hl : lv_has ls 4 [(0, .ref (ad 14)), (1, .int pe), (2, .int wa)] := hl
  refine lv_aload_n hx hb dX2_suggest_0 rfl (lv_at hl 0 rfl) ?_
  refine lv_iload_n hx hb dX2_suggest_1 rfl (lv_at hl 1 rfl) ?_
  refine kc_xV (E := "java/lang/IndexOutOfBoundsException") (As := [.int pe]) (rest := []) ⟨hx, hb, hml, hown, hts⟩ (c_X2_needPerson_x l hlf D ad cI cd te ri pi pw K Dn mv ko so tl lp lb ld le C cl dq dy pe s.heap.size hBad) (cwV 1 hts gX2_suggest_X2_needPerson rfl rfl rfl (by decide +kernel) ⟨Nat.le_of_ble_eq_true rfl, Nat.le_of_ble_eq_true rfl⟩) hK hP hX [0, 1, 2, 3, 4, 5, 6, 7, 8, 9, 10, 11, 12, 13, 14, 15, 16] [0] rfl rfl 14 rfl rfl rfl rfl hl.1 rfl (Nat.le_of_ble_eq_true rfl) dX2_suggest_2 ⟨Nat.le_of_ble_eq_true rfl, Nat.le_of_ble_eq_true rfl⟩ hS hA (fun ce q9 H1 locs1 hz hk9 hS1 hce hcv hcl => ?_)
  exact kc_xout hex hlocks hz hk9 hS1 hce hcv hcl (Nat.le_of_ble_eq_true rfl) (Nat.le_of_ble_eq_true rfl)
set_option maxHeartbeats 4000000 in
set_option maxRecDepth 100000 in
theorem c_X2_suggest_f2 (l : Launch) (hlf : l.stackTraces = false) (D : va_G) (ad : Nat → Nat) (cI : ClassId) (cd : Nat → Int32) (te : Nat → Int32) (ri : Nat → Int32) (pi : Nat → Int32) (pw : Nat → Int32) (K : Nat) (Dn : Nat) (mv : Int32) (ko : Nat → Int32) (so : Nat → Int32) (tl : Nat → Int32) (lp : Nat → Int32) (lb : Nat → Int32) (ld : Nat → Int32) (le : Nat → Int32) (C : Nat) (cl : Nat → Int32) (dq : Nat → Int32) (dy : Int32) (pe : Int32) (wa : Int32) (sz : Nat) (hD8 : Dn ≤ 8) (hp : jIn 8 pe = true) (hBad : ¬ jSetOf Dn wa = true) : vx_Met l yX2_suggest wsX2_suggest ({ frames := 6, cells := 1, slots := 6, locals := 90 } : Room) (xrP [.ref (ad 14), .int pe, .int wa] D sz (wKc ad cI cd te ri pi pw K Dn mv ko so tl lp lb ld le C cl dq dy) [(cI, .int)]) xrN (xrX "java/lang/IllegalArgumentException" sz) 1 6 (fun q => sz ≤ q) := by
  refine vx_ofW (cc := cX2_suggest) (maxL := 4) (ret := (some .int)) (by decide) rfl ?_
  intro p e s m args below meth c s₁ B hml hex hv
  obtain ⟨rfl, hsz, hP, hK, hX⟩ := hv
  have hx := B.exec
  have hb := B.bytes
  have hr := B.returns
  have hts := atoms_spec (ws := wsX2_suggest) B.pre
  have hown : s.vm.findClass RX2 = some m.cls := findClass_of_methodNamed B.named
  have hlocks := B.notSynchronized
  subst hsz
  have hS : va_S (fun q => s.heap.size ≤ q) s.heap s.heap [] := va_S.rf
  have hA : ∀ q : Nat, s.heap.size ≤ q → s.heap.size ≤ q := fun q h => h
  have hinX1 : ∀ w ∈ u_ws RX1 TX1 8, w ∈ wsX2_suggest := by decide +kernel
  have hinX2 : ∀ w ∈ u_ws RX2 TX2 5, w ∈ wsX2_suggest := by decide +kernel
  have hf16 := hts (.fieldLink RX2 16 "KeyCabinet" "plan" "LKeyCabinet$Plan;") (by decide +kernel)
  have hf63 := hts (.fieldLink RX2 63 "KeyCabinet$Plan" "doors" "I") (by decide +kernel)
  have hl := lv_entry ([.ref (ad 14), .int pe, .int wa]) (n := 4) (Nat.le_of_ble_eq_true rfl)
  rw [lg_entry_eq]
  generalize (lg_sl ([.ref (ad 14), .int pe, .int wa]) ++ List.replicate (4 - (lg_sl ([.ref (ad 14), .int pe, .int wa])).length) Slot.unset).toArray = ls at hl ⊢
  have hl : lv_has ls 4 [(0, .ref (ad 14)), (1, .int pe), (2, .int wa)] := hl
  refine lv_aload_n hx hb dX2_suggest_0 rfl (lv_at hl 0 rfl) ?_
  refine lv_iload_n hx hb dX2_suggest_1 rfl (lv_at hl 1 rfl) ?_
  refine kc_rVv (As := [.int pe]) (rest := []) ⟨hx, hb, hml, hown, hts⟩ (c_X2_needPerson l D ad cI cd te ri pi pw K Dn mv ko so tl lp lb ld le C cl dq dy pe hp) (cwV 1 hts gX2_suggest_X2_needPerson rfl rfl rfl (by decide +kernel) ⟨Nat.le_of_ble_eq_true rfl, Nat.le_of_ble_eq_true rfl⟩) hK hP [0, 1, 2, 3, 4, 5, 6, 7, 8, 9, 10, 11, 12, 13, 14, 15, 16] [0] rfl rfl 14 rfl rfl rfl rfl hl.1 rfl (Nat.le_of_ble_eq_true rfl) dX2_suggest_2 ⟨Nat.le_of_ble_eq_true rfl, Nat.le_of_ble_eq_true rfl⟩ ?_
  refine lv_aload_n hx hb dX2_suggest_5 rfl (lv_at hl 0 rfl) ?_
  refine va_get (D := D) (ci := 2) (v := .ref (ad 0)) (C := RX2) (T := TX2) (N := 5) hx hb hts hinX2 hown hK.1 hP 14 rfl rfl 0 (by decide) hf16 (fun _ h9 => h9) rfl dX2_suggest_6 ?_
  refine va_get (D := D) (ci := 1) (v := .int (nI Dn)) (C := RX1) (T := TX1) (N := 8) hx hb hts hinX1 hown hK.1 hP 0 rfl rfl 6 (by decide) hf63 (fun _ h9 => h9) rfl dX2_suggest_9 ?_
  refine lv_iload_n hx hb dX2_suggest_12 rfl (lv_at hl 2 rfl) ?_
  refine kc_rSi (As := [.int (nI Dn), .int wa]) (rest := []) ⟨hx, hb, hml, hown, hts⟩ (c_X2_isSetOf l Dn wa ) (va_cwS 2 hts gX2_suggest_X2_isSetOf rfl rfl rfl (by decide +kernel) ⟨Nat.le_of_ble_eq_true rfl, Nat.le_of_ble_eq_true rfl⟩) rfl hl.1 rfl (Nat.le_of_ble_eq_true rfl) dX2_suggest_13 ⟨Nat.le_of_ble_eq_true rfl, Nat.le_of_ble_eq_true rfl⟩ ?_
  refine kc_ifneB (tgt := 29) hx hb dX2_suggest_16 (by decide) (fun c_16 => ?_) (fun c_16 => ?_)
  · exact absurd c_16 hBad
  · obtain ⟨sa, hsa⟩ := hX.2.2.2.1 (205, "it contains something that is no door") (by decide +kernel)
    exact vx_throwS (names := ["java/lang/RuntimeException", "java/lang/Exception"]) (A := fun q => s.heap.size ≤ q) hx hb hlf hown (by decide +kernel) kcT_fit (hts (.classLink RX2 34 "java/lang/IllegalArgumentException") (by decide +kernel)) (hts (.initialized "java/lang/IllegalArgumentException") (by decide +kernel)) hsa (vx_hat (fun w hw => hts w (by simp only [wsX2_suggest, List.mem_cons, List.mem_append, hw, or_true, true_or])) kcT38_bad (fun w hw => va_Nw.use (kcBads_tab w hw) (hX.2.2.1 w hw))) kcT38_ot hX.1 hX.2.1 hS (hl.1.trans hml.symm) dX2_suggest_19 dX2_suggest_22 dX2_suggest_23 dX2_suggest_25 dX2_suggest_28 (fun x h9 => (hex x h9).elim) (Nat.le_of_ble_eq_true rfl) (Nat.le_of_ble_eq_true rfl) (Nat.le_of_ble_eq_true rfl) (Nat.le_of_ble_eq_true rfl) hlocks (fun t h1 h2 h3 => ⟨(), trivial, rfl, h2, fun q hq _ => h3 q hq⟩) (fun _ h => nomatch h) (Nat.le_of_ble_eq_true rfl) (Nat.le_of_ble_eq_true rfl)
