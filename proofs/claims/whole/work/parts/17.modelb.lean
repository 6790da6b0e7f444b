set_option maxHeartbeats 4000000 in
set_option maxRecDepth 100000 in
theorem c_X3_keyCount_ok (l : Launch) (D : va_G) (md : Nat → Nat) (cI : ClassId) (th : Int32) (mK : Nat) (mc : Nat → Int32) (mD : Nat) (mr : Nat → Int32) (mw : Int32) (my : Int32) (mC : Nat) (mk : Nat → Int32) (ms : Nat → Int32) (mu : Nat → Int32) (mt : Nat → Int32) (mp : Nat → Int32) (mb : Nat → Int32) (me : Nat → Int32) (sz : Nat)  : Met l yX3_keyCount wsX3_keyCount ({ frames := 0, cells := 0, slots := 0, locals := 0 } : Room) (wrP [.ref (md 0)] D sz (wMd md cI th mK mc mD mr mw my mC mk ms mu mt mp mb me) [(cI, .int)]) (va_Qi (fun rZ (_ : Unit) => rZ = nI mK) (wrB D sz (wMd md cI th mK mc mD mr mw my mC mk ms mu mt mp mb me) (wMd md cI 0 mK mc mD mr mw my mC mk ms mu mt mp mb me)) (va_A (wMd md cI th mK mc mD mr mw my mC mk ms mu mt mp mb me) sz)) 0 0 (va_A (wMd md cI th mK mc mD mr mw my mC mk ms mu mt mp mb me) sz) := by
  refine Met.ofW (cc := cX3_keyCount) (maxL := 1) (ret := (some .int)) (by decide) rfl ?_
  intro p e s m args below meth c s₁ B hml hv
  obtain ⟨rfl, hsz, hP, hD0, hK⟩ := hv
  have hx := B.exec
  have hb := B.bytes
  have hr := B.returns
  have hts := atoms_spec (ws := wsX3_keyCount) B.pre
  have hown : s.vm.findClass RX3 = some m.cls := findClass_of_methodNamed B.named
  have hlocks := B.notSynchronized
  subst hsz
  have hD := hD0.self (sz := s.heap.size)
  generalize hAe : va_A (wMd md cI th mK mc mD mr mw my mC mk ms mu mt mp mb me) s.heap.size = A at hD ⊢
  have hA : ∀ q : Nat, s.heap.size ≤ q → A q := fun q h => by rw [← hAe]; exact Or.inr h
  have hinX3 : ∀ w ∈ u_ws RX3 TX3 15, w ∈ wsX3_keyCount := by decide +kernel
  have hf37 := hts (.fieldLink RX3 37 "KeyCabinetModel" "thrown" "I") (by decide +kernel)
  have hf41 := hts (.fieldLink RX3 41 "KeyCabinetModel" "keys" "I") (by decide +kernel)
  have hl := lv_entry ([.ref (md 0)]) (n := 1) (Nat.le_of_ble_eq_true rfl)
  rw [lg_entry_eq]
  generalize (lg_sl ([.ref (md 0)]) ++ List.replicate (1 - (lg_sl ([.ref (md 0)])).length) Slot.unset).toArray = ls at hl ⊢
  have hl : lv_has ls 1 [(0, .ref (md 0))] := hl
  refine W.genH (fun H locs eH eL => ?_)
  have hS : va_S A s.heap H locs := by rw [eH, eL]; exact va_S.rf
  have hP : va_P D vwCl (wMd md cI th mK mc mD mr mw my mC mk ms mu mt mp mb me) H := by rw [eH]; exact hP
  clear eH eL
  refine lv_aload_n hx hb dX3_keyCount_0 rfl (lv_at hl 0 rfl) ?_
  refine lv_iconst (v := 0) hx hb dX3_keyCount_1 (by decide) ?_
  refine va_put (D := D) (ci := 3) (v := .int 0) (ty := .int) (C := RX3) (T := TX3) (N := 15) hx hb hts hinX3 tyX3 tyX3_ok nmX3 hown hK.1 hP hD hS 0 rfl rfl 0 (by decide) hf37 (fun _ h9 => h9) rfl (by decide +kernel) rfl rfl (Nat.le_of_ble_eq_true rfl) dX3_keyCount_2 (fun H locs hP hD hS => ?_)
  have hP : va_P D vwCl (wMd md cI 0 mK mc mD mr mw my mC mk ms mu mt mp mb me) H := hP
  have hD : va_D A (wMd md cI 0 mK mc mD mr mw my mC mk ms mu mt mp mb me) := hD
  refine lv_aload_n hx hb dX3_keyCount_5 rfl (lv_at hl 0 rfl) ?_
  refine va_get (D := D) (ci := 3) (v := .int (nI mK)) (C := RX3) (T := TX3) (N := 15) hx hb hts hinX3 hown hK.1 hP 0 rfl rfl 1 (by decide) hf41 (fun _ h9 => h9) rfl dX3_keyCount_6 ?_
  exact W.iret (v := nI mK) hx hb hr (fun tZ htZ hWZ => ⟨⟨_, (), rfl, rfl, by rw [htZ]; exact hP, by rw [hAe]; exact hD⟩, hS.F htZ⟩) hS.2.2 dX3_keyCount_9
set_option maxHeartbeats 4000000 in
set_option maxRecDepth 100000 in
theorem c_X3_doorCount_ok (l : Launch) (D : va_G) (md : Nat → Nat) (cI : ClassId) (th : Int32) (mK : Nat) (mc : Nat → Int32) (mD : Nat) (mr : Nat → Int32) (mw : Int32) (my : Int32) (mC : Nat) (mk : Nat → Int32) (ms : Nat → Int32) (mu : Nat → Int32) (mt : Nat → Int32) (mp : Nat → Int32) (mb : Nat → Int32) (me : Nat → Int32) (sz : Nat)  : Met l yX3_doorCount wsX3_doorCount ({ frames := 0, cells := 0, slots := 0, locals := 0 } : Room) (wrP [.ref (md 0)] D sz (wMd md cI th mK mc mD mr mw my mC mk ms mu mt mp mb me) [(cI, .int)]) (va_Qi (fun rZ (_ : Unit) => rZ = nI mD) (wrB D sz (wMd md cI th mK mc mD mr mw my mC mk ms mu mt mp mb me) (wMd md cI 0 mK mc mD mr mw my mC mk ms mu mt mp mb me)) (va_A (wMd md cI th mK mc mD mr mw my mC mk ms mu mt mp mb me) sz)) 0 0 (va_A (wMd md cI th mK mc mD mr mw my mC mk ms mu mt mp mb me) sz) := by
  refine Met.ofW (cc := cX3_doorCount) (maxL := 1) (ret := (some .int)) (by decide) rfl ?_
  intro p e s m args below meth c s₁ B hml hv
  obtain ⟨rfl, hsz, hP, hD0, hK⟩ := hv
  have hx := B.exec
  have hb := B.bytes
  have hr := B.returns
  have hts := atoms_spec (ws := wsX3_doorCount) B.pre
  have hown : s.vm.findClass RX3 = some m.cls := findClass_of_methodNamed B.named
  have hlocks := B.notSynchronized
  subst hsz
  have hD := hD0.self (sz := s.heap.size)
  generalize hAe : va_A (wMd md cI th mK mc mD mr mw my mC mk ms mu mt mp mb me) s.heap.size = A at hD ⊢
  have hA : ∀ q : Nat, s.heap.size ≤ q → A q := fun q h => by rw [← hAe]; exact Or.inr h
  have hinX3 : ∀ w ∈ u_ws RX3 TX3 15, w ∈ wsX3_doorCount := by decide +kernel
  have hf37 := hts (.fieldLink RX3 37 "KeyCabinetModel" "thrown" "I") (by decide +kernel)
  have hf44 := hts (.fieldLink RX3 44 "KeyCabinetModel" "doors" "I") (by decide +kernel)
  have hl := lv_entry ([.ref (md 0)]) (n := 1) (Nat.le_of_ble_eq_true rfl)
  rw [lg_entry_eq]
  generalize (lg_sl ([.ref (md 0)]) ++ List.replicate (1 - (lg_sl ([.ref (md 0)])).length) Slot.unset).toArray = ls at hl ⊢
  have hl : lv_has ls 1 [(0, .ref (md 0))] := hl
  refine W.genH (fun H locs eH eL => ?_)
  have hS : va_S A s.heap H locs := by rw [eH, eL]; exact va_S.rf
  have hP : va_P D vwCl (wMd md cI th mK mc mD mr mw my mC mk ms mu mt mp mb me) H := by rw [eH]; exact hP
  clear eH eL
  refine lv_aload_n hx hb dX3_doorCount_0 rfl (lv_at hl 0 rfl) ?_
  refine lv_iconst (v := 0) hx hb dX3_doorCount_1 (by decide) ?_
  refine va_put (D := D) (ci := 3) (v := .int 0) (ty := .int) (C := RX3) (T := TX3) (N := 15) hx hb hts hinX3 tyX3 tyX3_ok nmX3 hown hK.1 hP hD hS 0 rfl rfl 0 (by decide) hf37 (fun _ h9 => h9) rfl (by decide +kernel) rfl rfl (Nat.le_of_ble_eq_true rfl) dX3_doorCount_2 (fun H locs hP hD hS => ?_)
  have hP : va_P D vwCl (wMd md cI 0 mK mc mD mr mw my mC mk ms mu mt mp mb me) H := hP
  have hD : va_D A (wMd md cI 0 mK mc mD mr mw my mC mk ms mu mt mp mb me) := hD
  refine lv_aload_n hx hb dX3_doorCount_5 rfl (lv_at hl 0 rfl) ?_
  refine va_get (D := D) (ci := 3) (v := .int (nI mD)) (C := RX3) (T := TX3) (N := 15) hx hb hts hinX3 hown hK.1 hP 0 rfl rfl 3 (by decide) hf44 (fun _ h9 => h9) rfl dX3_doorCount_6 ?_
  exact W.iret (v := nI mD) hx hb hr (fun tZ htZ hWZ => ⟨⟨_, (), rfl, rfl, by rw [htZ]; exact hP, by rw [hAe]; exact hD⟩, hS.F htZ⟩) hS.2.2 dX3_doorCount_9
set_option maxHeartbeats 4000000 in
set_option maxRecDepth 100000 in
theorem c_X3_work_ok (l : Launch) (D : va_G) (md : Nat → Nat) (cI : ClassId) (th : Int32) (mK : Nat) (mc : Nat → Int32) (mD : Nat) (mr : Nat → Int32) (mw : Int32) (my : Int32) (mC : Nat) (mk : Nat → Int32) (ms : Nat → Int32) (mu : Nat → Int32) (mt : Nat → Int32) (mp : Nat → Int32) (mb : Nat → Int32) (me : Nat → Int32) (sz : Nat)  : Met l yX3_work wsX3_work ({ frames := 0, cells := 0, slots := 0, locals := 0 } : Room) (wrP [.ref (md 0)] D sz (wMd md cI th mK mc mD mr mw my mC mk ms mu mt mp mb me) [(cI, .int)]) (va_Qi (fun rZ (_ : Unit) => rZ = mw) (wrB D sz (wMd md cI th mK mc mD mr mw my mC mk ms mu mt mp mb me) (wMd md cI 0 mK mc mD mr mw my mC mk ms mu mt mp mb me)) (va_A (wMd md cI th mK mc mD mr mw my mC mk ms mu mt mp mb me) sz)) 0 0 (va_A (wMd md cI th mK mc mD mr mw my mC mk ms mu mt mp mb me) sz) := by
  refine Met.ofW (cc := cX3_work) (maxL := 1) (ret := (some .int)) (by decide) rfl ?_
  intro p e s m args below meth c s₁ B hml hv
  obtain ⟨rfl, hsz, hP, hD0, hK⟩ := hv
  have hx := B.exec
  have hb := B.bytes
  have hr := B.returns
  have hts := atoms_spec (ws := wsX3_work) B.pre
  have hown : s.vm.findClass RX3 = some m.cls := findClass_of_methodNamed B.named
  have hlocks := B.notSynchronized
  subst hsz
  have hD := hD0.self (sz := s.heap.size)
  generalize hAe : va_A (wMd md cI th mK mc mD mr mw my mC mk ms mu mt mp mb me) s.heap.size = A at hD ⊢
  have hA : ∀ q : Nat, s.heap.size ≤ q → A q := fun q h => by rw [← hAe]; exact Or.inr h
  have hinX3 : ∀ w ∈ u_ws RX3 TX3 15, w ∈ wsX3_work := by decide +kernel
  have hf37 := hts (.fieldLink RX3 37 "KeyCabinetModel" "thrown" "I") (by decide +kernel)
  have hf72 := hts (.fieldLink RX3 72 "KeyCabinetModel" "work" "I") (by decide +kernel)
  have hl := lv_entry ([.ref (md 0)]) (n := 1) (Nat.le_of_ble_eq_true rfl)
  rw [lg_entry_eq]
  generalize (lg_sl ([.ref (md 0)]) ++ List.replicate (1 - (lg_sl ([.ref (md 0)])).length) Slot.unset).toArray = ls at hl ⊢
  have hl : lv_has ls 1 [(0, .ref (md 0))] := hl
  refine W.genH (fun H locs eH eL => ?_)
  have hS : va_S A s.heap H locs := by rw [eH, eL]; exact va_S.rf
  have hP : va_P D vwCl (wMd md cI th mK mc mD mr mw my mC mk ms mu mt mp mb me) H := by rw [eH]; exact hP
  clear eH eL
  refine lv_aload_n hx hb dX3_work_0 rfl (lv_at hl 0 rfl) ?_
  refine lv_iconst (v := 0) hx hb dX3_work_1 (by decide) ?_
  refine va_put (D := D) (ci := 3) (v := .int 0) (ty := .int) (C := RX3) (T := TX3) (N := 15) hx hb hts hinX3 tyX3 tyX3_ok nmX3 hown hK.1 hP hD hS 0 rfl rfl 0 (by decide) hf37 (fun _ h9 => h9) rfl (by decide +kernel) rfl rfl (Nat.le_of_ble_eq_true rfl) dX3_work_2 (fun H locs hP hD hS => ?_)
  have hP : va_P D vwCl (wMd md cI 0 mK mc mD mr mw my mC mk ms mu mt mp mb me) H := hP
  have hD : va_D A (wMd md cI 0 mK mc mD mr mw my mC mk ms mu mt mp mb me) := hD
  refine lv_aload_n hx hb dX3_work_5 rfl (lv_at hl 0 rfl) ?_
  refine va_get (D := D) (ci := 3) (v := .int mw) (C := RX3) (T := TX3) (N := 15) hx hb hts hinX3 hown hK.1 hP 0 rfl rfl 5 (by decide) hf72 (fun _ h9 => h9) rfl dX3_work_6 ?_
  exact W.iret (v := mw) hx hb hr (fun tZ htZ hWZ => ⟨⟨_, (), rfl, rfl, by rw [htZ]; exact hP, by rw [hAe]; exact hD⟩, hS.F htZ⟩) hS.2.2 dX3_work_9
set_option maxHeartbeats 4000000 in
set_option maxRecDepth 100000 in
theorem c_X3_today_ok (l : Launch) (D : va_G) (md : Nat → Nat) (cI : ClassId) (th : Int32) (mK : Nat) (mc : Nat → Int32) (mD : Nat) (mr : Nat → Int32) (mw : Int32) (my : Int32) (mC : Nat) (mk : Nat → Int32) (ms : Nat → Int32) (mu : Nat → Int32) (mt : Nat → Int32) (mp : Nat → Int32) (mb : Nat → Int32) (me : Nat → Int32) (sz : Nat)  : Met l yX3_today wsX3_today ({ frames := 0, cells := 0, slots := 0, locals := 0 } : Room) (wrP [.ref (md 0)] D sz (wMd md cI th mK mc mD mr mw my mC mk ms mu mt mp mb me) [(cI, .int)]) (va_Qi (fun rZ (_ : Unit) => rZ = my) (wrB D sz (wMd md cI th mK mc mD mr mw my mC mk ms mu mt mp mb me) (wMd md cI 0 mK mc mD mr mw my mC mk ms mu mt mp mb me)) (va_A (wMd md cI th mK mc mD mr mw my mC mk ms mu mt mp mb me) sz)) 0 0 (va_A (wMd md cI th mK mc mD mr mw my mC mk ms mu mt mp mb me) sz) := by
  refine Met.ofW (cc := cX3_today) (maxL := 1) (ret := (some .int)) (by decide) rfl ?_
  intro p e s m args below meth c s₁ B hml hv
  obtain ⟨rfl, hsz, hP, hD0, hK⟩ := hv
  have hx := B.exec
  have hb := B.bytes
  have hr := B.returns
  have hts := atoms_spec (ws := wsX3_today) B.pre
  have hown : s.vm.findClass RX3 = some m.cls := findClass_of_methodNamed B.named
  have hlocks := B.notSynchronized
  subst hsz
  have hD := hD0.self (sz := s.heap.size)
  generalize hAe : va_A (wMd md cI th mK mc mD mr mw my mC mk ms mu mt mp mb me) s.heap.size = A at hD ⊢
  have hA : ∀ q : Nat, s.heap.size ≤ q → A q := fun q h => by rw [← hAe]; exact Or.inr h
  have hinX3 : ∀ w ∈ u_ws RX3 TX3 15, w ∈ wsX3_today := by decide +kernel
  have hf37 := hts (.fieldLink RX3 37 "KeyCabinetModel" "thrown" "I") (by decide +kernel)
  have hf100 := hts (.fieldLink RX3 100 "KeyCabinetModel" "day" "I") (by decide +kernel)
  have hl := lv_entry ([.ref (md 0)]) (n := 1) (Nat.le_of_ble_eq_true rfl)
  rw [lg_entry_eq]
  generalize (lg_sl ([.ref (md 0)]) ++ List.replicate (1 - (lg_sl ([.ref (md 0)])).length) Slot.unset).toArray = ls at hl ⊢
  have hl : lv_has ls 1 [(0, .ref (md 0))] := hl
  refine W.genH (fun H locs eH eL => ?_)
  have hS : va_S A s.heap H locs := by rw [eH, eL]; exact va_S.rf
  have hP : va_P D vwCl (wMd md cI th mK mc mD mr mw my mC mk ms mu mt mp mb me) H := by rw [eH]; exact hP
  clear eH eL
  refine lv_aload_n hx hb dX3_today_0 rfl (lv_at hl 0 rfl) ?_
  refine lv_iconst (v := 0) hx hb dX3_today_1 (by decide) ?_
  refine va_put (D := D) (ci := 3) (v := .int 0) (ty := .int) (C := RX3) (T := TX3) (N := 15) hx hb hts hinX3 tyX3 tyX3_ok nmX3 hown hK.1 hP hD hS 0 rfl rfl 0 (by decide) hf37 (fun _ h9 => h9) rfl (by decide +kernel) rfl rfl (Nat.le_of_ble_eq_true rfl) dX3_today_2 (fun H locs hP hD hS => ?_)
  have hP : va_P D vwCl (wMd md cI 0 mK mc mD mr mw my mC mk ms mu mt mp mb me) H := hP
  have hD : va_D A (wMd md cI 0 mK mc mD mr mw my mC mk ms mu mt mp mb me) := hD
  refine lv_aload_n hx hb dX3_today_5 rfl (lv_at hl 0 rfl) ?_
  refine va_get (D := D) (ci := 3) (v := .int my) (C := RX3) (T := TX3) (N := 15) hx hb hts hinX3 hown hK.1 hP 0 rfl rfl 6 (by decide) hf100 (fun _ h9 => h9) rfl dX3_today_6 ?_
  exact W.iret (v := my) hx hb hr (fun tZ htZ hWZ => ⟨⟨_, (), rfl, rfl, by rw [htZ]; exact hP, by rw [hAe]; exact hD⟩, hS.F htZ⟩) hS.2.2 dX3_today_9
set_option maxHeartbeats 4000000 in
set_option maxRecDepth 100000 in
theorem c_X3_copyCount_ok (l : Launch) (D : va_G) (md : Nat → Nat) (cI : ClassId) (th : Int32) (mK : Nat) (mc : Nat → Int32) (mD : Nat) (mr : Nat → Int32) (mw : Int32) (my : Int32) (mC : Nat) (mk : Nat → Int32) (ms : Nat → Int32) (mu : Nat → Int32) (mt : Nat → Int32) (mp : Nat → Int32) (mb : Nat → Int32) (me : Nat → Int32) (sz : Nat)  : Met l yX3_copyCount wsX3_copyCount ({ frames := 0, cells := 0, slots := 0, locals := 0 } : Room) (wrP [.ref (md 0)] D sz (wMd md cI th mK mc mD mr mw my mC mk ms mu mt mp mb me) [(cI, .int)]) (va_Qi (fun rZ (_ : Unit) => rZ = nI mC) (wrB D sz (wMd md cI th mK mc mD mr mw my mC mk ms mu mt mp mb me) (wMd md cI 0 mK mc mD mr mw my mC mk ms mu mt mp mb me)) (va_A (wMd md cI th mK mc mD mr mw my mC mk ms mu mt mp mb me) sz)) 0 0 (va_A (wMd md cI th mK mc mD mr mw my mC mk ms mu mt mp mb me) sz) := by
  refine Met.ofW (cc := cX3_copyCount) (maxL := 1) (ret := (some .int)) (by decide) rfl ?_
  intro p e s m args below meth c s₁ B hml hv
  obtain ⟨rfl, hsz, hP, hD0, hK⟩ := hv
  have hx := B.exec
  have hb := B.bytes
  have hr := B.returns
  have hts := atoms_spec (ws := wsX3_copyCount) B.pre
  have hown : s.vm.findClass RX3 = some m.cls := findClass_of_methodNamed B.named
  have hlocks := B.notSynchronized
  subst hsz
  have hD := hD0.self (sz := s.heap.size)
  generalize hAe : va_A (wMd md cI th mK mc mD mr mw my mC mk ms mu mt mp mb me) s.heap.size = A at hD ⊢
  have hA : ∀ q : Nat, s.heap.size ≤ q → A q := fun q h => by rw [← hAe]; exact Or.inr h
  have hinX3 : ∀ w ∈ u_ws RX3 TX3 15, w ∈ wsX3_copyCount := by decide +kernel
  have hf37 := hts (.fieldLink RX3 37 "KeyCabinetModel" "thrown" "I") (by decide +kernel)
  have hf47 := hts (.fieldLink RX3 47 "KeyCabinetModel" "copies" "I") (by decide +kernel)
  have hl := lv_entry ([.ref (md 0)]) (n := 1) (Nat.le_of_ble_eq_true rfl)
  rw [lg_entry_eq]
  generalize (lg_sl ([.ref (md 0)]) ++ List.replicate (1 - (lg_sl ([.ref (md 0)])).length) Slot.unset).toArray = ls at hl ⊢
  have hl : lv_has ls 1 [(0, .ref (md 0))] := hl
  refine W.genH (fun H locs eH eL => ?_)
  have hS : va_S A s.heap H locs := by rw [eH, eL]; exact va_S.rf
  have hP : va_P D vwCl (wMd md cI th mK mc mD mr mw my mC mk ms mu mt mp mb me) H := by rw [eH]; exact hP
  clear eH eL
  refine lv_aload_n hx hb dX3_copyCount_0 rfl (lv_at hl 0 rfl) ?_
  refine lv_iconst (v := 0) hx hb dX3_copyCount_1 (by decide) ?_
  refine va_put (D := D) (ci := 3) (v := .int 0) (ty := .int) (C := RX3) (T := TX3) (N := 15) hx hb hts hinX3 tyX3 tyX3_ok nmX3 hown hK.1 hP hD hS 0 rfl rfl 0 (by decide) hf37 (fun _ h9 => h9) rfl (by decide +kernel) rfl rfl (Nat.le_of_ble_eq_true rfl) dX3_copyCount_2 (fun H locs hP hD hS => ?_)
  have hP : va_P D vwCl (wMd md cI 0 mK mc mD mr mw my mC mk ms mu mt mp mb me) H := hP
  have hD : va_D A (wMd md cI 0 mK mc mD mr mw my mC mk ms mu mt mp mb me) := hD
  refine lv_aload_n hx hb dX3_copyCount_5 rfl (lv_at hl 0 rfl) ?_
  refine va_get (D := D) (ci := 3) (v := .int (nI mC)) (C := RX3) (T := TX3) (N := 15) hx hb hts hinX3 hown hK.1 hP 0 rfl rfl 7 (by decide) hf47 (fun _ h9 => h9) rfl dX3_copyCount_6 ?_
  exact W.iret (v := nI mC) hx hb hr (fun tZ htZ hWZ => ⟨⟨_, (), rfl, rfl, by rw [htZ]; exact hP, by rw [hAe]; exact hD⟩, hS.F htZ⟩) hS.2.2 dX3_copyCount_9
set_option maxHeartbeats 4000000 in
set_option maxRecDepth 100000 in
theorem c_X3_strays_ok (l : Launch) (D : va_G) (md : Nat → Nat) (cI : ClassId) (th : Int32) (mK : Nat) (mc : Nat → Int32) (mD : Nat) (mr : Nat → Int32) (mw : Int32) (my : Int32) (mC : Nat) (mk : Nat → Int32) (ms : Nat → Int32) (mu : Nat → Int32) (mt : Nat → Int32) (mp : Nat → Int32) (mb : Nat → Int32) (me : Nat → Int32) (sz : Nat) (hK8 : mK ≤ 8) (hD8 : mD ≤ 8) : Met l yX3_strays wsX3_strays ({ frames := 4, cells := 0, slots := 0, locals := 92 } : Room) (wrP [.ref (md 0)] D sz (wMd md cI th mK mc mD mr mw my mC mk ms mu mt mp mb me) [(cI, .int)]) (va_Qi (fun rZ (_ : Unit) => rZ = mStrays mr mc mK mD mK) (wrB D sz (wMd md cI th mK mc mD mr mw my mC mk ms mu mt mp mb me) (wMd md cI 0 mK mc mD mr mw my mC mk ms mu mt mp mb me)) (va_A (wMd md cI th mK mc mD mr mw my mC mk ms mu mt mp mb me) sz)) 0 0 (va_A (wMd md cI th mK mc mD mr mw my mC mk ms mu mt mp mb me) sz) := by
  refine Met.ofW (cc := cX3_strays) (maxL := 1) (ret := (some .int)) (by decide) rfl ?_
  intro p e s m args below meth c s₁ B hml hv
  obtain ⟨rfl, hsz, hP, hD0, hK⟩ := hv
  have hx := B.exec
  have hb := B.bytes
  have hr := B.returns
  have hts := atoms_spec (ws := wsX3_strays) B.pre
  have hown : s.vm.findClass RX3 = some m.cls := findClass_of_methodNamed B.named
  have hlocks := B.notSynchronized
  subst hsz
  have hD := hD0.self (sz := s.heap.size)
  generalize hAe : va_A (wMd md cI th mK mc mD mr mw my mC mk ms mu mt mp mb me) s.heap.size = A at hD ⊢
  have hA : ∀ q : Nat, s.heap.size ≤ q → A q := fun q h => by rw [← hAe]; exact Or.inr h
  have hinX3 : ∀ w ∈ u_ws RX3 TX3 15, w ∈ wsX3_strays := by decide +kernel
  have hf37 := hts (.fieldLink RX3 37 "KeyCabinetModel" "thrown" "I") (by decide +kernel)
  have hl := lv_entry ([.ref (md 0)]) (n := 1) (Nat.le_of_ble_eq_true rfl)
  rw [lg_entry_eq]
  generalize (lg_sl ([.ref (md 0)]) ++ List.replicate (1 - (lg_sl ([.ref (md 0)])).length) Slot.unset).toArray = ls at hl ⊢
  have hl : lv_has ls 1 [(0, .ref (md 0))] := hl
  refine W.genH (fun H locs eH eL => ?_)
  have hS : va_S A s.heap H locs := by rw [eH, eL]; exact va_S.rf
  have hP : va_P D vwCl (wMd md cI th mK mc mD mr mw my mC mk ms mu mt mp mb me) H := by rw [eH]; exact hP
  clear eH eL
  refine lv_aload_n hx hb dX3_strays_0 rfl (lv_at hl 0 rfl) ?_
  refine lv_iconst (v := 0) hx hb dX3_strays_1 (by decide) ?_
  refine va_put (D := D) (ci := 3) (v := .int 0) (ty := .int) (C := RX3) (T := TX3) (N := 15) hx hb hts hinX3 tyX3 tyX3_ok nmX3 hown hK.1 hP hD hS 0 rfl rfl 0 (by decide) hf37 (fun _ h9 => h9) rfl (by decide +kernel) rfl rfl (Nat.le_of_ble_eq_true rfl) dX3_strays_2 (fun H locs hP hD hS => ?_)
  have hP : va_P D vwCl (wMd md cI 0 mK mc mD mr mw my mC mk ms mu mt mp mb me) H := hP
  have hD : va_D A (wMd md cI 0 mK mc mD mr mw my mC mk ms mu mt mp mb me) := hD
  refine lv_aload_n hx hb dX3_strays_5 rfl (lv_at hl 0 rfl) ?_
  refine kc_rVi (As := []) (rest := []) ⟨hx, hb, hml, hown, hts⟩ (c_X3_strayCount l D md cI 0 mK mc mD mr mw my mC mk ms mu mt mp mb me hK8 hD8) (cwV 0 hts gX3_strays_X3_strayCount rfl rfl rfl (by decide +kernel) ⟨Nat.le_of_ble_eq_true rfl, Nat.le_of_ble_eq_true rfl⟩) hK hP [0, 1, 2, 3, 4, 5, 6, 7, 8, 9] [0] rfl rfl 0 rfl rfl rfl rfl hl.1 rfl (Nat.le_of_ble_eq_true rfl) dX3_strays_6 ⟨Nat.le_of_ble_eq_true rfl, Nat.le_of_ble_eq_true rfl⟩ ?_
  exact W.iret (v := mStrays mr mc mK mD mK) hx hb hr (fun tZ htZ hWZ => ⟨⟨_, (), rfl, rfl, by rw [htZ]; exact hP, by rw [hAe]; exact hD⟩, hS.F htZ⟩) hS.2.2 dX3_strays_9
set_option maxHeartbeats 4000000 in
set_option maxRecDepth 100000 in
theorem c_X3_risk_ok (l : Launch) (D : va_G) (md : Nat → Nat) (cI : ClassId) (th : Int32) (mK : Nat) (mc : Nat → Int32) (mD : Nat) (mr : Nat → Int32) (mw : Int32) (my : Int32) (mC : Nat) (mk : Nat → Int32) (ms : Nat → Int32) (mu : Nat → Int32) (mt : Nat → Int32) (mp : Nat → Int32) (mb : Nat → Int32) (me : Nat → Int32) (kn : Nat → Nat) (sz : Nat) (hK8 : mK ≤ 8) (hD8 : mD ≤ 8) (hC24 : mC ≤ 24) (hkn : okKe mC mk kn) : Met l yX3_risk wsX3_risk ({ frames := 5, cells := 0, slots := 0, locals := 114 } : Room) (wrP [.ref (md 0)] D sz (wMd md cI th mK mc mD mr mw my mC mk ms mu mt mp mb me) [(cI, .int)]) (va_Qi (fun rZ (_ : Unit) => rZ = mRisk mr mc ms mK mD kn mC) (wrB D sz (wMd md cI th mK mc mD mr mw my mC mk ms mu mt mp mb me) (wMd md cI 0 mK mc mD mr mw my mC mk ms mu mt mp mb me)) (va_A (wMd md cI th mK mc mD mr mw my mC mk ms mu mt mp mb me) sz)) 0 0 (va_A (wMd md cI th mK mc mD mr mw my mC mk ms mu mt mp mb me) sz) := by
  refine Met.ofW (cc := cX3_risk) (maxL := 1) (ret := (some .int)) (by decide) rfl ?_
  intro p e s m args below meth c s₁ B hml hv
  obtain ⟨rfl, hsz, hP, hD0, hK⟩ := hv
  have hx := B.exec
  have hb := B.bytes
  have hr := B.returns
  have hts := atoms_spec (ws := wsX3_risk) B.pre
  have hown : s.vm.findClass RX3 = some m.cls := findClass_of_methodNamed B.named
  have hlocks := B.notSynchronized
  subst hsz
  have hD := hD0.self (sz := s.heap.size)
  generalize hAe : va_A (wMd md cI th mK mc mD mr mw my mC mk ms mu mt mp mb me) s.heap.size = A at hD ⊢
  have hA : ∀ q : Nat, s.heap.size ≤ q → A q := fun q h => by rw [← hAe]; exact Or.inr h
  have hinX3 : ∀ w ∈ u_ws RX3 TX3 15, w ∈ wsX3_risk := by decide +kernel
  have hf37 := hts (.fieldLink RX3 37 "KeyCabinetModel" "thrown" "I") (by decide +kernel)
  have hl := lv_entry ([.ref (md 0)]) (n := 1) (Nat.le_of_ble_eq_true rfl)
  rw [lg_entry_eq]
  generalize (lg_sl ([.ref (md 0)]) ++ List.replicate (1 - (lg_sl ([.ref (md 0)])).length) Slot.unset).toArray = ls at hl ⊢
  have hl : lv_has ls 1 [(0, .ref (md 0))] := hl
  refine W.genH (fun H locs eH eL => ?_)
  have hS : va_S A s.heap H locs := by rw [eH, eL]; exact va_S.rf
  have hP : va_P D vwCl (wMd md cI th mK mc mD mr mw my mC mk ms mu mt mp mb me) H := by rw [eH]; exact hP
  clear eH eL
  refine lv_aload_n hx hb dX3_risk_0 rfl (lv_at hl 0 rfl) ?_
  refine lv_iconst (v := 0) hx hb dX3_risk_1 (by decide) ?_
  refine va_put (D := D) (ci := 3) (v := .int 0) (ty := .int) (C := RX3) (T := TX3) (N := 15) hx hb hts hinX3 tyX3 tyX3_ok nmX3 hown hK.1 hP hD hS 0 rfl rfl 0 (by decide) hf37 (fun _ h9 => h9) rfl (by decide +kernel) rfl rfl (Nat.le_of_ble_eq_true rfl) dX3_risk_2 (fun H locs hP hD hS => ?_)
  have hP : va_P D vwCl (wMd md cI 0 mK mc mD mr mw my mC mk ms mu mt mp mb me) H := hP
  have hD : va_D A (wMd md cI 0 mK mc mD mr mw my mC mk ms mu mt mp mb me) := hD
  refine lv_aload_n hx hb dX3_risk_5 rfl (lv_at hl 0 rfl) ?_
  refine kc_rVi (As := []) (rest := []) ⟨hx, hb, hml, hown, hts⟩ (c_X3_riskyDoors l D md cI 0 mK mc mD mr mw my mC mk ms mu mt mp mb me kn hK8 hD8 hC24 hkn) (cwV 0 hts gX3_risk_X3_riskyDoors rfl rfl rfl (by decide +kernel) ⟨Nat.le_of_ble_eq_true rfl, Nat.le_of_ble_eq_true rfl⟩) hK hP [0, 1, 2, 3, 4, 5, 6, 7, 8, 9] [0] rfl rfl 0 rfl rfl rfl rfl hl.1 rfl (Nat.le_of_ble_eq_true rfl) dX3_risk_6 ⟨Nat.le_of_ble_eq_true rfl, Nat.le_of_ble_eq_true rfl⟩ ?_
  exact W.iret (v := mRisk mr mc ms mK mD kn mC) hx hb hr (fun tZ htZ hWZ => ⟨⟨_, (), rfl, rfl, by rw [htZ]; exact hP, by rw [hAe]; exact hD⟩, hS.F htZ⟩) hS.2.2 dX3_risk_9
set_option maxHeartbeats 4000000 in
set_option maxRecDepth 100000 in
theorem c_X3_code_f1 (l : Launch) (D : va_G) (md : Nat → Nat) (cI : ClassId) (th : Int32) (mK : Nat) (mc : Nat → Int32) (mD : Nat) (mr : Nat → Int32) (mw : Int32) (my : Int32) (mC : Nat) (mk : Nat → Int32) (ms : Nat → Int32) (mu : Nat → Int32) (mt : Nat → Int32) (mp : Nat → Int32) (mb : Nat → Int32) (me : Nat → Int32) (x : Int32) (sz : Nat) (hBad : ¬ jIn mK x = true) : Met l yX3_code wsX3_code ({ frames := 1, cells := 0, slots := 0, locals := 21 } : Room) (wrP [.ref (md 0), .int x] D sz (wMd md cI th mK mc mD mr mw my mC mk ms mu mt mp mb me) [(cI, .int)]) (va_Qi (fun rZ (_ : Unit) => rZ = 0) (wrB D sz (wMd md cI th mK mc mD mr mw my mC mk ms mu mt mp mb me) (wMd md cI 1 mK mc mD mr mw my mC mk ms mu mt mp mb me)) (va_A (wMd md cI th mK mc mD mr mw my mC mk ms mu mt mp mb me) sz)) 0 0 (va_A (wMd md cI th mK mc mD mr mw my mC mk ms mu mt mp mb me) sz) := by
  refine Met.ofW (cc := cX3_code) (maxL := 2) (ret := (some .int)) (by decide) rfl ?_
  intro p e s m args below meth c s₁ B hml hv
  obtain ⟨rfl, hsz, hP, hD0, hK⟩ := hv
  have hx := B.exec
  have hb := B.bytes
  have hr := B.returns
  have hts := atoms_spec (ws := wsX3_code) B.pre
  have hown : s.vm.findClass RX3 = some m.cls := findClass_of_methodNamed B.named
  have hlocks := B.notSynchronized
  subst hsz
  have hD := hD0.self (sz := s.heap.size)
  generalize hAe : va_A (wMd md cI th mK mc mD mr mw my mC mk ms mu mt mp mb me) s.heap.size = A at hD ⊢
  have hA : ∀ q : Nat, s.heap.size ≤ q → A q := fun q h => by rw [← hAe]; exact Or.inr h
  have hinX3 : ∀ w ∈ u_ws RX3 TX3 15, w ∈ wsX3_code := by decide +kernel
  have hf37 := hts (.fieldLink RX3 37 "KeyCabinetModel" "thrown" "I") (by decide +kernel)
  have hl := lv_entry ([.ref (md 0), .int x]) (n := 2) (Nat.le_of_ble_eq_true rfl)
  rw [lg_entry_eq]
  generalize (lg_sl ([.ref (md 0), .int x]) ++ List.replicate (2 - (lg_sl ([.ref (md 0), .int x])).length) Slot.unset).toArray = ls at hl ⊢
  have hl : lv_has ls 2 [(0, .ref (md 0)), (1, .int x)] := hl
  refine W.genH (fun H locs eH eL => ?_)
  have hS : va_S A s.heap H locs := by rw [eH, eL]; exact va_S.rf
  have hP : va_P D vwCl (wMd md cI th mK mc mD mr mw my mC mk ms mu mt mp mb me) H := by rw [eH]; exact hP
  clear eH eL
  refine lv_aload_n hx hb dX3_code_0 rfl (lv_at hl 0 rfl) ?_
  refine lv_iconst (v := 0) hx hb dX3_code_1 (by decide) ?_
  refine va_put (D := D) (ci := 3) (v := .int 0) (ty := .int) (C := RX3) (T := TX3) (N := 15) hx hb hts hinX3 tyX3 tyX3_ok nmX3 hown hK.1 hP hD hS 0 rfl rfl 0 (by decide) hf37 (fun _ h9 => h9) rfl (by decide +kernel) rfl rfl (Nat.le_of_ble_eq_true rfl) dX3_code_2 (fun H locs hP hD hS => ?_)
  have hP : va_P D vwCl (wMd md cI 0 mK mc mD mr mw my mC mk ms mu mt mp mb me) H := hP
  have hD : va_D A (wMd md cI 0 mK mc mD mr mw my mC mk ms mu mt mp mb me) := hD
  refine lv_aload_n hx hb dX3_code_5 rfl (lv_at hl 0 rfl) ?_
  refine lv_iload_n hx hb dX3_code_6 rfl (lv_at hl 1 rfl) ?_
  refine kc_rVi (As := [.int x]) (rest := []) ⟨hx, hb, hml, hown, hts⟩ (c_X3_isKey l D md cI 0 mK mc mD mr mw my mC mk ms mu mt mp mb me x ) (cwV 1 hts gX3_code_X3_isKey rfl rfl rfl (by decide +kernel) ⟨Nat.le_of_ble_eq_true rfl, Nat.le_of_ble_eq_true rfl⟩) hK hP [0, 1, 2, 3, 4, 5, 6, 7, 8, 9] [0] rfl rfl 0 rfl rfl rfl rfl hl.1 rfl (Nat.le_of_ble_eq_true rfl) dX3_code_7 ⟨Nat.le_of_ble_eq_true rfl, Nat.le_of_ble_eq_true rfl⟩ ?_
  refine kc_ifeqB (tgt := 22) hx hb dX3_code_10 (by decide) (fun c_10 => ?_) (fun c_10 => ?_)
  · refine lv_aload_n hx hb dX3_code_22 rfl (lv_at hl 0 rfl) ?_
    refine lv_iconst (v := 1) hx hb dX3_code_23 (by decide) ?_
    refine kc_wVi (w1 := wMd md cI 1 mK mc mD mr mw my mC mk ms mu mt mp mb me) (wr := []) (ws1 := wMd md cI 1 mK mc mD mr mw my mC mk ms mu mt mp mb me) (As := [.int 1]) (rest := []) ⟨hx, hb, hml, hown, hts⟩ (c_X3_fail l D md cI 0 mK mc mD mr mw my mC mk ms mu mt mp mb me 1 H.size ) (cwV 1 hts gX3_code_X3_fail rfl rfl rfl (by decide +kernel) ⟨Nat.le_of_ble_eq_true rfl, Nat.le_of_ble_eq_true rfl⟩) hK hP hD hS hA [0, 1, 2, 3, 4, 5, 6, 7, 8, 9] [] [0, 1, 2, 3, 4, 5, 6, 7, 8, 9] [0] rfl rfl rfl rfl (by decide) rfl rfl rfl 0 rfl rfl rfl rfl hl.1 rfl (Nat.le_of_ble_eq_true rfl) dX3_code_24 ⟨Nat.le_of_ble_eq_true rfl, Nat.le_of_ble_eq_true rfl⟩ (fun H locs hP hD hS => ?_)
    exact W.iret (v := 0) hx hb hr (fun tZ htZ hWZ => ⟨⟨_, (), rfl, rfl, by rw [htZ]; exact hP, by rw [hAe]; exact hD⟩, hS.F htZ⟩) hS.2.2 dX3_code_27
  · exact absurd c_10 hBad
set_option maxHeartbeats 4000000 in
set_option maxRecDepth 100000 in
theorem c_X3_openers_f1 (l : Launch) (D : va_G) (md : Nat → Nat) (cI : ClassId) (th : Int32) (mK : Nat) (mc : Nat → Int32) (mD : Nat) (mr : Nat → Int32) (mw : Int32) (my : Int32) (mC : Nat) (mk : Nat → Int32) (ms : Nat → Int32) (mu : Nat → Int32) (mt : Nat → Int32) (mp : Nat → Int32) (mb : Nat → Int32) (me : Nat → Int32) (x : Int32) (sz : Nat) (hBad : ¬ jIn mD x = true) : Met l yX3_openers wsX3_openers ({ frames := 1, cells := 0, slots := 0, locals := 21 } : Room) (wrP [.ref (md 0), .int x] D sz (wMd md cI th mK mc mD mr mw my mC mk ms mu mt mp mb me) [(cI, .int)]) (va_Qi (fun rZ (_ : Unit) => rZ = 0) (wrB D sz (wMd md cI th mK mc mD mr mw my mC mk ms mu mt mp mb me) (wMd md cI 1 mK mc mD mr mw my mC mk ms mu mt mp mb me)) (va_A (wMd md cI th mK mc mD mr mw my mC mk ms mu mt mp mb me) sz)) 0 0 (va_A (wMd md cI th mK mc mD mr mw my mC mk ms mu mt mp mb me) sz) := by
  refine Met.ofW (cc := cX3_openers) (maxL := 4) (ret := (some .int)) (by decide) rfl ?_
  intro p e s m args below meth c s₁ B hml hv
  obtain ⟨rfl, hsz, hP, hD0, hK⟩ := hv
  have hx := B.exec
  have hb := B.bytes
  have hr := B.returns
  have hts := atoms_spec (ws := wsX3_openers) B.pre
  have hown : s.vm.findClass RX3 = some m.cls := findClass_of_methodNamed B.named
  have hlocks := B.notSynchronized
  subst hsz
  have hD := hD0.self (sz := s.heap.size)
  generalize hAe : va_A (wMd md cI th mK mc mD mr mw my mC mk ms mu mt mp mb me) s.heap.size = A at hD ⊢
  have hA : ∀ q : Nat, s.heap.size ≤ q → A q := fun q h => by rw [← hAe]; exact Or.inr h
  have hinX3 : ∀ w ∈ u_ws RX3 TX3 15, w ∈ wsX3_openers := by decide +kernel
  have hf37 := hts (.fieldLink RX3 37 "KeyCabinetModel" "thrown" "I") (by decide +kernel)
  have hl := lv_entry ([.ref (md 0), .int x]) (n := 4) (Nat.le_of_ble_eq_true rfl)
  rw [lg_entry_eq]
  generalize (lg_sl ([.ref (md 0), .int x]) ++ List.replicate (4 - (lg_sl ([.ref (md 0), .int x])).length) Slot.unset).toArray = ls at hl ⊢
  have hl : lv_has ls 4 [(0, .ref (md 0)), (1, .int x)] := hl
  refine W.genH (fun H locs eH eL => ?_)
  have hS : va_S A s.heap H locs := by rw [eH, eL]; exact va_S.rf
  have hP : va_P D vwCl (wMd md cI th mK mc mD mr mw my mC mk ms mu mt mp mb me) H := by rw [eH]; exact hP
  clear eH eL
  refine lv_aload_n hx hb dX3_openers_0 rfl (lv_at hl 0 rfl) ?_
  refine lv_iconst (v := 0) hx hb dX3_openers_1 (by decide) ?_
  refine va_put (D := D) (ci := 3) (v := .int 0) (ty := .int) (C := RX3) (T := TX3) (N := 15) hx hb hts hinX3 tyX3 tyX3_ok nmX3 hown hK.1 hP hD hS 0 rfl rfl 0 (by decide) hf37 (fun _ h9 => h9) rfl (by decide +kernel) rfl rfl (Nat.le_of_ble_eq_true rfl) dX3_openers_2 (fun H locs hP hD hS => ?_)
  have hP : va_P D vwCl (wMd md cI 0 mK mc mD mr mw my mC mk ms mu mt mp mb me) H := hP
  have hD : va_D A (wMd md cI 0 mK mc mD mr mw my mC mk ms mu mt mp mb me) := hD
  refine lv_aload_n hx hb dX3_openers_5 rfl (lv_at hl 0 rfl) ?_
  refine lv_iload_n hx hb dX3_openers_6 rfl (lv_at hl 1 rfl) ?_
  refine kc_rVi (As := [.int x]) (rest := []) ⟨hx, hb, hml, hown, hts⟩ (c_X3_isDoor l D md cI 0 mK mc mD mr mw my mC mk ms mu mt mp mb me x ) (cwV 1 hts gX3_openers_X3_isDoor rfl rfl rfl (by decide +kernel) ⟨Nat.le_of_ble_eq_true rfl, Nat.le_of_ble_eq_true rfl⟩) hK hP [0, 1, 2, 3, 4, 5, 6, 7, 8, 9] [0] rfl rfl 0 rfl rfl rfl rfl hl.1 rfl (Nat.le_of_ble_eq_true rfl) dX3_openers_7 ⟨Nat.le_of_ble_eq_true rfl, Nat.le_of_ble_eq_true rfl⟩ ?_
  refine kc_ifneB (tgt := 19) hx hb dX3_openers_10 (by decide) (fun c_10 => ?_) (fun c_10 => ?_)
  · exact absurd c_10 hBad
  · refine lv_aload_n hx hb dX3_openers_13 rfl (lv_at hl 0 rfl) ?_
    refine lv_iconst (v := 1) hx hb dX3_openers_14 (by decide) ?_
    refine kc_wVi (w1 := wMd md cI 1 mK mc mD mr mw my mC mk ms mu mt mp mb me) (wr := []) (ws1 := wMd md cI 1 mK mc mD mr mw my mC mk ms mu mt mp mb me) (As := [.int 1]) (rest := []) ⟨hx, hb, hml, hown, hts⟩ (c_X3_fail l D md cI 0 mK mc mD mr mw my mC mk ms mu mt mp mb me 1 H.size ) (cwV 1 hts gX3_openers_X3_fail rfl rfl rfl (by decide +kernel) ⟨Nat.le_of_ble_eq_true rfl, Nat.le_of_ble_eq_true rfl⟩) hK hP hD hS hA [0, 1, 2, 3, 4, 5, 6, 7, 8, 9] [] [0, 1, 2, 3, 4, 5, 6, 7, 8, 9] [0] rfl rfl rfl rfl (by decide) rfl rfl rfl 0 rfl rfl rfl rfl hl.1 rfl (Nat.le_of_ble_eq_true rfl) dX3_openers_15 ⟨Nat.le_of_ble_eq_true rfl, Nat.le_of_ble_eq_true rfl⟩ (fun H locs hP hD hS => ?_)
    exact W.iret (v := 0) hx hb hr (fun tZ htZ hWZ => ⟨⟨_, (), rfl, rfl, by rw [htZ]; exact hP, by rw [hAe]; exact hD⟩, hS.F htZ⟩) hS.2.2 dX3_openers_18
set_option maxHeartbeats 4000000 in
set_option maxRecDepth 100000 in
theorem c_X3_doors_f1 (l : Launch) (D : va_G) (md : Nat → Nat) (cI : ClassId) (th : Int32) (mK : Nat) (mc : Nat → Int32) (mD : Nat) (mr : Nat → Int32) (mw : Int32) (my : Int32) (mC : Nat) (mk : Nat → Int32) (ms : Nat → Int32) (mu : Nat → Int32) (mt : Nat → Int32) (mp : Nat → Int32) (mb : Nat → Int32) (me : Nat → Int32) (x : Int32) (sz : Nat) (hBad : ¬ jIn mK x = true) : Met l yX3_doors wsX3_doors ({ frames := 1, cells := 0, slots := 0, locals := 21 } : Room) (wrP [.ref (md 0), .int x] D sz (wMd md cI th mK mc mD mr mw my mC mk ms mu mt mp mb me) [(cI, .int)]) (va_Qi (fun rZ (_ : Unit) => rZ = 0) (wrB D sz (wMd md cI th mK mc mD mr mw my mC mk ms mu mt mp mb me) (wMd md cI 1 mK mc mD mr mw my mC mk ms mu mt mp mb me)) (va_A (wMd md cI th mK mc mD mr mw my mC mk ms mu mt mp mb me) sz)) 0 0 (va_A (wMd md cI th mK mc mD mr mw my mC mk ms mu mt mp mb me) sz) := by
  refine Met.ofW (cc := cX3_doors) (maxL := 2) (ret := (some .int)) (by decide) rfl ?_
  intro p e s m args below meth c s₁ B hml hv
  obtain ⟨rfl, hsz, hP, hD0, hK⟩ := hv
  have hx := B.exec
  have hb := B.bytes
  have hr := B.returns
  have hts := atoms_spec (ws := wsX3_doors) B.pre
  have hown : s.vm.findClass RX3 = some m.cls := findClass_of_methodNamed B.named
  have hlocks := B.notSynchronized
  subst hsz
  have hD := hD0.self (sz := s.heap.size)
  generalize hAe : va_A (wMd md cI th mK mc mD mr mw my mC mk ms mu mt mp mb me) s.heap.size = A at hD ⊢
  have hA : ∀ q : Nat, s.heap.size ≤ q → A q := fun q h => by rw [← hAe]; exact Or.inr h
  have hinX3 : ∀ w ∈ u_ws RX3 TX3 15, w ∈ wsX3_doors := by decide +kernel
  have hf37 := hts (.fieldLink RX3 37 "KeyCabinetModel" "thrown" "I") (by decide +kernel)
  have hl := lv_entry ([.ref (md 0), .int x]) (n := 2) (Nat.le_of_ble_eq_true rfl)
  rw [lg_entry_eq]
  generalize (lg_sl ([.ref (md 0), .int x]) ++ List.replicate (2 - (lg_sl ([.ref (md 0), .int x])).length) Slot.unset).toArray = ls at hl ⊢
  have hl : lv_has ls 2 [(0, .ref (md 0)), (1, .int x)] := hl
  refine W.genH (fun H locs eH eL => ?_)
  have hS : va_S A s.heap H locs := by rw [eH, eL]; exact va_S.rf
  have hP : va_P D vwCl (wMd md cI th mK mc mD mr mw my mC mk ms mu mt mp mb me) H := by rw [eH]; exact hP
  clear eH eL
  refine lv_aload_n hx hb dX3_doors_0 rfl (lv_at hl 0 rfl) ?_
  refine lv_iconst (v := 0) hx hb dX3_doors_1 (by decide) ?_
  refine va_put (D := D) (ci := 3) (v := .int 0) (ty := .int) (C := RX3) (T := TX3) (N := 15) hx hb hts hinX3 tyX3 tyX3_ok nmX3 hown hK.1 hP hD hS 0 rfl rfl 0 (by decide) hf37 (fun _ h9 => h9) rfl (by decide +kernel) rfl rfl (Nat.le_of_ble_eq_true rfl) dX3_doors_2 (fun H locs hP hD hS => ?_)
  have hP : va_P D vwCl (wMd md cI 0 mK mc mD mr mw my mC mk ms mu mt mp mb me) H := hP
  have hD : va_D A (wMd md cI 0 mK mc mD mr mw my mC mk ms mu mt mp mb me) := hD
  refine lv_aload_n hx hb dX3_doors_5 rfl (lv_at hl 0 rfl) ?_
  refine lv_iload_n hx hb dX3_doors_6 rfl (lv_at hl 1 rfl) ?_
  refine kc_rVi (As := [.int x]) (rest := []) ⟨hx, hb, hml, hown, hts⟩ (c_X3_isKey l D md cI 0 mK mc mD mr mw my mC mk ms mu mt mp mb me x ) (cwV 1 hts gX3_doors_X3_isKey rfl rfl rfl (by decide +kernel) ⟨Nat.le_of_ble_eq_true rfl, Nat.le_of_ble_eq_true rfl⟩) hK hP [0, 1, 2, 3, 4, 5, 6, 7, 8, 9] [0] rfl rfl 0 rfl rfl rfl rfl hl.1 rfl (Nat.le_of_ble_eq_true rfl) dX3_doors_7 ⟨Nat.le_of_ble_eq_true rfl, Nat.le_of_ble_eq_true rfl⟩ ?_
  refine kc_ifeqB (tgt := 26) hx hb dX3_doors_10 (by decide) (fun c_10 => ?_) (fun c_10 => ?_)
  · refine lv_aload_n hx hb dX3_doors_26 rfl (lv_at hl 0 rfl) ?_
    refine lv_iconst (v := 1) hx hb dX3_doors_27 (by decide) ?_
    refine kc_wVi (w1 := wMd md cI 1 mK mc mD mr mw my mC mk ms mu mt mp mb me) (wr := []) (ws1 := wMd md cI 1 mK mc mD mr mw my mC mk ms mu mt mp mb me) (As := [.int 1]) (rest := []) ⟨hx, hb, hml, hown, hts⟩ (c_X3_fail l D md cI 0 mK mc mD mr mw my mC mk ms mu mt mp mb me 1 H.size ) (cwV 1 hts gX3_doors_X3_fail rfl rfl rfl (by decide +kernel) ⟨Nat.le_of_ble_eq_true rfl, Nat.le_of_ble_eq_true rfl⟩) hK hP hD hS hA [0, 1, 2, 3, 4, 5, 6, 7, 8, 9] [] [0, 1, 2, 3, 4, 5, 6, 7, 8, 9] [0] rfl rfl rfl rfl (by decide) rfl rfl rfl 0 rfl rfl rfl rfl hl.1 rfl (Nat.le_of_ble_eq_true rfl) dX3_doors_28 ⟨Nat.le_of_ble_eq_true rfl, Nat.le_of_ble_eq_true rfl⟩ (fun H locs hP hD hS => ?_)
    exact W.iret (v := 0) hx hb hr (fun tZ htZ hWZ => ⟨⟨_, (), rfl, rfl, by rw [htZ]; exact hP, by rw [hAe]; exact hD⟩, hS.F htZ⟩) hS.2.2 dX3_doors_31
  · exact absurd c_10 hBad
set_option maxHeartbeats 4000000 in
set_option maxRecDepth 100000 in
theorem c_X3_codes_f1 (l : Launch) (D : va_G) (md : Nat → Nat) (cI : ClassId) (th : Int32) (mK : Nat) (mc : Nat → Int32) (mD : Nat) (mr : Nat → Int32) (mw : Int32) (my : Int32) (mC : Nat) (mk : Nat → Int32) (ms : Nat → Int32) (mu : Nat → Int32) (mt : Nat → Int32) (mp : Nat → Int32) (mb : Nat → Int32) (me : Nat → Int32) (x : Int32) (sz : Nat) (hBad : ¬ jIn mD x = true) : Met l yX3_codes wsX3_codes ({ frames := 1, cells := 0, slots := 0, locals := 21 } : Room) (wrP [.ref (md 0), .int x] D sz (wMd md cI th mK mc mD mr mw my mC mk ms mu mt mp mb me) [(cI, .int)]) (va_Qi (fun rZ (_ : Unit) => rZ = 0) (wrB D sz (wMd md cI th mK mc mD mr mw my mC mk ms mu mt mp mb me) (wMd md cI 1 mK mc mD mr mw my mC mk ms mu mt mp mb me)) (va_A (wMd md cI th mK mc mD mr mw my mC mk ms mu mt mp mb me) sz)) 0 0 (va_A (wMd md cI th mK mc mD mr mw my mC mk ms mu mt mp mb me) sz) := by
  refine Met.ofW (cc := cX3_codes) (maxL := 4) (ret := (some .int)) (by decide) rfl ?_
  intro p e s m args below meth c s₁ B hml hv
  obtain ⟨rfl, hsz, hP, hD0, hK⟩ := hv
  have hx := B.exec
  have hb := B.bytes
  have hr := B.returns
  have hts := atoms_spec (ws := wsX3_codes) B.pre
  have hown : s.vm.findClass RX3 = some m.cls := findClass_of_methodNamed B.named
  have hlocks := B.notSynchronized
  subst hsz
  have hD := hD0.self (sz := s.heap.size)
  generalize hAe : va_A (wMd md cI th mK mc mD mr mw my mC mk ms mu mt mp mb me) s.heap.size = A at hD ⊢
  have hA : ∀ q : Nat, s.heap.size ≤ q → A q := fun q h => by rw [← hAe]; exact Or.inr h
  have hinX3 : ∀ w ∈ u_ws RX3 TX3 15, w ∈ wsX3_codes := by decide +kernel
  have hf37 := hts (.fieldLink RX3 37 "KeyCabinetModel" "thrown" "I") (by decide +kernel)
  have hl := lv_entry ([.ref (md 0), .int x]) (n := 4) (Nat.le_of_ble_eq_true rfl)
  rw [lg_entry_eq]
  generalize (lg_sl ([.ref (md 0), .int x]) ++ List.replicate (4 - (lg_sl ([.ref (md 0), .int x])).length) Slot.unset).toArray = ls at hl ⊢
  have hl : lv_has ls 4 [(0, .ref (md 0)), (1, .int x)] := hl
  refine W.genH (fun H locs eH eL => ?_)
  have hS : va_S A s.heap H locs := by rw [eH, eL]; exact va_S.rf
  have hP : va_P D vwCl (wMd md cI th mK mc mD mr mw my mC mk ms mu mt mp mb me) H := by rw [eH]; exact hP
  clear eH eL
  refine lv_aload_n hx hb dX3_codes_0 rfl (lv_at hl 0 rfl) ?_
  refine lv_iconst (v := 0) hx hb dX3_codes_1 (by decide) ?_
  refine va_put (D := D) (ci := 3) (v := .int 0) (ty := .int) (C := RX3) (T := TX3) (N := 15) hx hb hts hinX3 tyX3 tyX3_ok nmX3 hown hK.1 hP hD hS 0 rfl rfl 0 (by decide) hf37 (fun _ h9 => h9) rfl (by decide +kernel) rfl rfl (Nat.le_of_ble_eq_true rfl) dX3_codes_2 (fun H locs hP hD hS => ?_)
  have hP : va_P D vwCl (wMd md cI 0 mK mc mD mr mw my mC mk ms mu mt mp mb me) H := hP
  have hD : va_D A (wMd md cI 0 mK mc mD mr mw my mC mk ms mu mt mp mb me) := hD
  refine lv_aload_n hx hb dX3_codes_5 rfl (lv_at hl 0 rfl) ?_
  refine lv_iload_n hx hb dX3_codes_6 rfl (lv_at hl 1 rfl) ?_
  refine kc_rVi (As := [.int x]) (rest := []) ⟨hx, hb, hml, hown, hts⟩ (c_X3_isDoor l D md cI 0 mK mc mD mr mw my mC mk ms mu mt mp mb me x ) (cwV 1 hts gX3_codes_X3_isDoor rfl rfl rfl (by decide +kernel) ⟨Nat.le_of_ble_eq_true rfl, Nat.le_of_ble_eq_true rfl⟩) hK hP [0, 1, 2, 3, 4, 5, 6, 7, 8, 9] [0] rfl rfl 0 rfl rfl rfl rfl hl.1 rfl (Nat.le_of_ble_eq_true rfl) dX3_codes_7 ⟨Nat.le_of_ble_eq_true rfl, Nat.le_of_ble_eq_true rfl⟩ ?_
  refine kc_ifneB (tgt := 19) hx hb dX3_codes_10 (by decide) (fun c_10 => ?_) (fun c_10 => ?_)
  · exact absurd c_10 hBad
  · refine lv_aload_n hx hb dX3_codes_13 rfl (lv_at hl 0 rfl) ?_
    refine lv_iconst (v := 1) hx hb dX3_codes_14 (by decide) ?_
    refine kc_wVi (w1 := wMd md cI 1 mK mc mD mr mw my mC mk ms mu mt mp mb me) (wr := []) (ws1 := wMd md cI 1 mK mc mD mr mw my mC mk ms mu mt mp mb me) (As := [.int 1]) (rest := []) ⟨hx, hb, hml, hown, hts⟩ (c_X3_fail l D md cI 0 mK mc mD mr mw my mC mk ms mu mt mp mb me 1 H.size ) (cwV 1 hts gX3_codes_X3_fail rfl rfl rfl (by decide +kernel) ⟨Nat.le_of_ble_eq_true rfl, Nat.le_of_ble_eq_true rfl⟩) hK hP hD hS hA [0, 1, 2, 3, 4, 5, 6, 7, 8, 9] [] [0, 1, 2, 3, 4, 5, 6, 7, 8, 9] [0] rfl rfl rfl rfl (by decide) rfl rfl rfl 0 rfl rfl rfl rfl hl.1 rfl (Nat.le_of_ble_eq_true rfl) dX3_codes_15 ⟨Nat.le_of_ble_eq_true rfl, Nat.le_of_ble_eq_true rfl⟩ (fun H locs hP hD hS => ?_)
    exact W.iret (v := 0) hx hb hr (fun tZ htZ hWZ => ⟨⟨_, (), rfl, rfl, by rw [htZ]; exact hP, by rw [hAe]; exact hD⟩, hS.F htZ⟩) hS.2.2 dX3_codes_18
set_option maxHeartbeats 4000000 in
set_option maxRecDepth 100000 in
theorem c_X3_replace_f1 (l : Launch) (D : va_G) (md : Nat → Nat) (cI : ClassId) (th : Int32) (mK : Nat) (mc : Nat → Int32) (mD : Nat) (mr : Nat → Int32) (mw : Int32) (my : Int32) (mC : Nat) (mk : Nat → Int32) (ms : Nat → Int32) (mu : Nat → Int32) (mt : Nat → Int32) (mp : Nat → Int32) (mb : Nat → Int32) (me : Nat → Int32) (x : Int32) (sz : Nat) (hBad : ¬ jIn mK x = true) : Met l yX3_replace wsX3_replace ({ frames := 1, cells := 0, slots := 0, locals := 21 } : Room) (wrP [.ref (md 0), .int x] D sz (wMd md cI th mK mc mD mr mw my mC mk ms mu mt mp mb me) [(cI, .int)]) (va_Qi (fun rZ (_ : Unit) => rZ = 0) (wrB D sz (wMd md cI th mK mc mD mr mw my mC mk ms mu mt mp mb me) (wMd md cI 1 mK mc mD mr mw my mC mk ms mu mt mp mb me)) (va_A (wMd md cI th mK mc mD mr mw my mC mk ms mu mt mp mb me) sz)) 0 0 (va_A (wMd md cI th mK mc mD mr mw my mC mk ms mu mt mp mb me) sz) := by
  refine Met.ofW (cc := cX3_replace) (maxL := 12) (ret := (some .int)) (by decide) rfl ?_
  intro p e s m args below meth c s₁ B hml hv
  obtain ⟨rfl, hsz, hP, hD0, hK⟩ := hv
  have hx := B.exec
  have hb := B.bytes
  have hr := B.returns
  have hts := atoms_spec (ws := wsX3_replace) B.pre
  have hown : s.vm.findClass RX3 = some m.cls := findClass_of_methodNamed B.named
  have hlocks := B.notSynchronized
  subst hsz
  have hD := hD0.self (sz := s.heap.size)
  generalize hAe : va_A (wMd md cI th mK mc mD mr mw my mC mk ms mu mt mp mb me) s.heap.size = A at hD ⊢
  have hA : ∀ q : Nat, s.heap.size ≤ q → A q := fun q h => by rw [← hAe]; exact Or.inr h
  have hinX3 : ∀ w ∈ u_ws RX3 TX3 15, w ∈ wsX3_replace := by decide +kernel
  have hf37 := hts (.fieldLink RX3 37 "KeyCabinetModel" "thrown" "I") (by decide +kernel)
  have hl := lv_entry ([.ref (md 0), .int x]) (n := 12) (Nat.le_of_ble_eq_true rfl)
  rw [lg_entry_eq]
  generalize (lg_sl ([.ref (md 0), .int x]) ++ List.replicate (12 - (lg_sl ([.ref (md 0), .int x])).length) Slot.unset).toArray = ls at hl ⊢
  have hl : lv_has ls 12 [(0, .ref (md 0)), (1, .int x)] := hl
  refine W.genH (fun H locs eH eL => ?_)
  have hS : va_S A s.heap H locs := by rw [eH, eL]; exact va_S.rf
  have hP : va_P D vwCl (wMd md cI th mK mc mD mr mw my mC mk ms mu mt mp mb me) H := by rw [eH]; exact hP
  clear eH eL
  refine lv_aload_n hx hb dX3_replace_0 rfl (lv_at hl 0 rfl) ?_
  refine lv_iconst (v := 0) hx hb dX3_replace_1 (by decide) ?_
  refine va_put (D := D) (ci := 3) (v := .int 0) (ty := .int) (C := RX3) (T := TX3) (N := 15) hx hb hts hinX3 tyX3 tyX3_ok nmX3 hown hK.1 hP hD hS 0 rfl rfl 0 (by decide) hf37 (fun _ h9 => h9) rfl (by decide +kernel) rfl rfl (Nat.le_of_ble_eq_true rfl) dX3_replace_2 (fun H locs hP hD hS => ?_)
  have hP : va_P D vwCl (wMd md cI 0 mK mc mD mr mw my mC mk ms mu mt mp mb me) H := hP
  have hD : va_D A (wMd md cI 0 mK mc mD mr mw my mC mk ms mu mt mp mb me) := hD
  refine lv_aload_n hx hb dX3_replace_5 rfl (lv_at hl 0 rfl) ?_
  refine lv_iload_n hx hb dX3_replace_6 rfl (lv_at hl 1 rfl) ?_
  refine kc_rVi (As := [.int x]) (rest := []) ⟨hx, hb, hml, hown, hts⟩ (c_X3_isKey l D md cI 0 mK mc mD mr mw my mC mk ms mu mt mp mb me x ) (cwV 1 hts gX3_replace_X3_isKey rfl rfl rfl (by decide +kernel) ⟨Nat.le_of_ble_eq_true rfl, Nat.le_of_ble_eq_true rfl⟩) hK hP [0, 1, 2, 3, 4, 5, 6, 7, 8, 9] [0] rfl rfl 0 rfl rfl rfl rfl hl.1 rfl (Nat.le_of_ble_eq_true rfl) dX3_replace_7 ⟨Nat.le_of_ble_eq_true rfl, Nat.le_of_ble_eq_true rfl⟩ ?_
  refine kc_ifneB (tgt := 19) hx hb dX3_replace_10 (by decide) (fun c_10 => ?_) (fun c_10 => ?_)
  · exact absurd c_10 hBad
  · refine lv_aload_n hx hb dX3_replace_13 rfl (lv_at hl 0 rfl) ?_
    refine lv_iconst (v := 1) hx hb dX3_replace_14 (by decide) ?_
    refine kc_wVi (w1 := wMd md cI 1 mK mc mD mr mw my mC mk ms mu mt mp mb me) (wr := []) (ws1 := wMd md cI 1 mK mc mD mr mw my mC mk ms mu mt mp mb me) (As := [.int 1]) (rest := []) ⟨hx, hb, hml, hown, hts⟩ (c_X3_fail l D md cI 0 mK mc mD mr mw my mC mk ms mu mt mp mb me 1 H.size ) (cwV 1 hts gX3_replace_X3_fail rfl rfl rfl (by decide +kernel) ⟨Nat.le_of_ble_eq_true rfl, Nat.le_of_ble_eq_true rfl⟩) hK hP hD hS hA [0, 1, 2, 3, 4, 5, 6, 7, 8, 9] [] [0, 1, 2, 3, 4, 5, 6, 7, 8, 9] [0] rfl rfl rfl rfl (by decide) rfl rfl rfl 0 rfl rfl rfl rfl hl.1 rfl (Nat.le_of_ble_eq_true rfl) dX3_replace_15 ⟨Nat.le_of_ble_eq_true rfl, Nat.le_of_ble_eq_true rfl⟩ (fun H locs hP hD hS => ?_)
    exact W.iret (v := 0) hx hb hr (fun tZ htZ hWZ => ⟨⟨_, (), rfl, rfl, by rw [htZ]; exact hP, by rw [hAe]; exact hD⟩, hS.F htZ⟩) hS.2.2 dX3_replace_18
set_option maxHeartbeats 4000000 in
set_option maxRecDepth 100000 in
theorem c_X3_cut_f1 (l : Launch) (D : va_G) (md : Nat → Nat) (cI : ClassId) (th : Int32) (mK : Nat) (mc : Nat → Int32) (mD : Nat) (mr : Nat → Int32) (mw : Int32) (my : Int32) (mC : Nat) (mk : Nat → Int32) (ms : Nat → Int32) (mu : Nat → Int32) (mt : Nat → Int32) (mp : Nat → Int32) (mb : Nat → Int32) (me : Nat → Int32) (x : Int32) (sz : Nat) (hBad : ¬ jIn mK x = true) : Met l yX3_cut wsX3_cut ({ frames := 1, cells := 0, slots := 0, locals := 21 } : Room) (wrP [.ref (md 0), .int x] D sz (wMd md cI th mK mc mD mr mw my mC mk ms mu mt mp mb me) [(cI, .int)]) (va_Qi (fun rZ (_ : Unit) => rZ = 0) (wrB D sz (wMd md cI th mK mc mD mr mw my mC mk ms mu mt mp mb me) (wMd md cI 1 mK mc mD mr mw my mC mk ms mu mt mp mb me)) (va_A (wMd md cI th mK mc mD mr mw my mC mk ms mu mt mp mb me) sz)) 0 0 (va_A (wMd md cI th mK mc mD mr mw my mC mk ms mu mt mp mb me) sz) := by
  refine Met.ofW (cc := cX3_cut) (maxL := 2) (ret := (some .int)) (by decide) rfl ?_
  intro p e s m args below meth c s₁ B hml hv
  obtain ⟨rfl, hsz, hP, hD0, hK⟩ := hv
  have hx := B.exec
  have hb := B.bytes
  have hr := B.returns
  have hts := atoms_spec (ws := wsX3_cut) B.pre
  have hown : s.vm.findClass RX3 = some m.cls := findClass_of_methodNamed B.named
  have hlocks := B.notSynchronized
  subst hsz
  have hD := hD0.self (sz := s.heap.size)
  generalize hAe : va_A (wMd md cI th mK mc mD mr mw my mC mk ms mu mt mp mb me) s.heap.size = A at hD ⊢
  have hA : ∀ q : Nat, s.heap.size ≤ q → A q := fun q h => by rw [← hAe]; exact Or.inr h
  have hinX3 : ∀ w ∈ u_ws RX3 TX3 15, w ∈ wsX3_cut := by decide +kernel
  have hf37 := hts (.fieldLink RX3 37 "KeyCabinetModel" "thrown" "I") (by decide +kernel)
  have hl := lv_entry ([.ref (md 0), .int x]) (n := 2) (Nat.le_of_ble_eq_true rfl)
  rw [lg_entry_eq]
  generalize (lg_sl ([.ref (md 0), .int x]) ++ List.replicate (2 - (lg_sl ([.ref (md 0), .int x])).length) Slot.unset).toArray = ls at hl ⊢
  have hl : lv_has ls 2 [(0, .ref (md 0)), (1, .int x)] := hl
  refine W.genH (fun H locs eH eL => ?_)
  have hS : va_S A s.heap H locs := by rw [eH, eL]; exact va_S.rf
  have hP : va_P D vwCl (wMd md cI th mK mc mD mr mw my mC mk ms mu mt mp mb me) H := by rw [eH]; exact hP
  clear eH eL
  refine lv_aload_n hx hb dX3_cut_0 rfl (lv_at hl 0 rfl) ?_
  refine lv_iconst (v := 0) hx hb dX3_cut_1 (by decide) ?_
  refine va_put (D := D) (ci := 3) (v := .int 0) (ty := .int) (C := RX3) (T := TX3) (N := 15) hx hb hts hinX3 tyX3 tyX3_ok nmX3 hown hK.1 hP hD hS 0 rfl rfl 0 (by decide) hf37 (fun _ h9 => h9) rfl (by decide +kernel) rfl rfl (Nat.le_of_ble_eq_true rfl) dX3_cut_2 (fun H locs hP hD hS => ?_)
  have hP : va_P D vwCl (wMd md cI 0 mK mc mD mr mw my mC mk ms mu mt mp mb me) H := hP
  have hD : va_D A (wMd md cI 0 mK mc mD mr mw my mC mk ms mu mt mp mb me) := hD
  refine lv_aload_n hx hb dX3_cut_5 rfl (lv_at hl 0 rfl) ?_
  refine lv_iload_n hx hb dX3_cut_6 rfl (lv_at hl 1 rfl) ?_
  refine kc_rVi (As := [.int x]) (rest := []) ⟨hx, hb, hml, hown, hts⟩ (c_X3_isKey l D md cI 0 mK mc mD mr mw my mC mk ms mu mt mp mb me x ) (cwV 1 hts gX3_cut_X3_isKey rfl rfl rfl (by decide +kernel) ⟨Nat.le_of_ble_eq_true rfl, Nat.le_of_ble_eq_true rfl⟩) hK hP [0, 1, 2, 3, 4, 5, 6, 7, 8, 9] [0] rfl rfl 0 rfl rfl rfl rfl hl.1 rfl (Nat.le_of_ble_eq_true rfl) dX3_cut_7 ⟨Nat.le_of_ble_eq_true rfl, Nat.le_of_ble_eq_true rfl⟩ ?_
  refine kc_ifneB (tgt := 19) hx hb dX3_cut_10 (by decide) (fun c_10 => ?_) (fun c_10 => ?_)
  · exact absurd c_10 hBad
  · refine lv_aload_n hx hb dX3_cut_13 rfl (lv_at hl 0 rfl) ?_
    refine lv_iconst (v := 1) hx hb dX3_cut_14 (by decide) ?_
    refine kc_wVi (w1 := wMd md cI 1 mK mc mD mr mw my mC mk ms mu mt mp mb me) (wr := []) (ws1 := wMd md cI 1 mK mc mD mr mw my mC mk ms mu mt mp mb me) (As := [.int 1]) (rest := []) ⟨hx, hb, hml, hown, hts⟩ (c_X3_fail l D md cI 0 mK mc mD mr mw my mC mk ms mu mt mp mb me 1 H.size ) (cwV 1 hts gX3_cut_X3_fail rfl rfl rfl (by decide +kernel) ⟨Nat.le_of_ble_eq_true rfl, Nat.le_of_ble_eq_true rfl⟩) hK hP hD hS hA [0, 1, 2, 3, 4, 5, 6, 7, 8, 9] [] [0, 1, 2, 3, 4, 5, 6, 7, 8, 9] [0] rfl rfl rfl rfl (by decide) rfl rfl rfl 0 rfl rfl rfl rfl hl.1 rfl (Nat.le_of_ble_eq_true rfl) dX3_cut_15 ⟨Nat.le_of_ble_eq_true rfl, Nat.le_of_ble_eq_true rfl⟩ (fun H locs hP hD hS => ?_)
    exact W.iret (v := 0) hx hb hr (fun tZ htZ hWZ => ⟨⟨_, (), rfl, rfl, by rw [htZ]; exact hP, by rw [hAe]; exact hD⟩, hS.F htZ⟩) hS.2.2 dX3_cut_18
set_option maxHeartbeats 4000000 in
set_option maxRecDepth 100000 in
theorem c_X3_giveBack_f1 (l : Launch) (D : va_G) (md : Nat → Nat) (cI : ClassId) (th : Int32) (mK : Nat) (mc : Nat → Int32) (mD : Nat) (mr : Nat → Int32) (mw : Int32) (my : Int32) (mC : Nat) (mk : Nat → Int32) (ms : Nat → Int32) (mu : Nat → Int32) (mt : Nat → Int32) (mp : Nat → Int32) (mb : Nat → Int32) (me : Nat → Int32) (x : Int32) (sz : Nat) (hBad : ¬ jIn mC x = true) : Met l yX3_giveBack wsX3_giveBack ({ frames := 1, cells := 0, slots := 0, locals := 21 } : Room) (wrP [.ref (md 0), .int x] D sz (wMd md cI th mK mc mD mr mw my mC mk ms mu mt mp mb me) [(cI, .int)]) (va_Qi (fun rZ (_ : Unit) => rZ = 0) (wrB D sz (wMd md cI th mK mc mD mr mw my mC mk ms mu mt mp mb me) (wMd md cI 1 mK mc mD mr mw my mC mk ms mu mt mp mb me)) (va_A (wMd md cI th mK mc mD mr mw my mC mk ms mu mt mp mb me) sz)) 0 0 (va_A (wMd md cI th mK mc mD mr mw my mC mk ms mu mt mp mb me) sz) := by
  refine Met.ofW (cc := cX3_giveBack) (maxL := 2) (ret := (some .int)) (by decide) rfl ?_
  intro p e s m args below meth c s₁ B hml hv
  obtain ⟨rfl, hsz, hP, hD0, hK⟩ := hv
  have hx := B.exec
  have hb := B.bytes
  have hr := B.returns
  have hts := atoms_spec (ws := wsX3_giveBack) B.pre
  have hown : s.vm.findClass RX3 = some m.cls := findClass_of_methodNamed B.named
  have hlocks := B.notSynchronized
  subst hsz
  have hD := hD0.self (sz := s.heap.size)
  generalize hAe : va_A (wMd md cI th mK mc mD mr mw my mC mk ms mu mt mp mb me) s.heap.size = A at hD ⊢
  have hA : ∀ q : Nat, s.heap.size ≤ q → A q := fun q h => by rw [← hAe]; exact Or.inr h
  have hinX3 : ∀ w ∈ u_ws RX3 TX3 15, w ∈ wsX3_giveBack := by decide +kernel
  have hf37 := hts (.fieldLink RX3 37 "KeyCabinetModel" "thrown" "I") (by decide +kernel)
  have hl := lv_entry ([.ref (md 0), .int x]) (n := 2) (Nat.le_of_ble_eq_true rfl)
  rw [lg_entry_eq]
  generalize (lg_sl ([.ref (md 0), .int x]) ++ List.replicate (2 - (lg_sl ([.ref (md 0), .int x])).length) Slot.unset).toArray = ls at hl ⊢
  have hl : lv_has ls 2 [(0, .ref (md 0)), (1, .int x)] := hl
  refine W.genH (fun H locs eH eL => ?_)
  have hS : va_S A s.heap H locs := by rw [eH, eL]; exact va_S.rf
  have hP : va_P D vwCl (wMd md cI th mK mc mD mr mw my mC mk ms mu mt mp mb me) H := by rw [eH]; exact hP
  clear eH eL
  refine lv_aload_n hx hb dX3_giveBack_0 rfl (lv_at hl 0 rfl) ?_
  refine lv_iconst (v := 0) hx hb dX3_giveBack_1 (by decide) ?_
  refine va_put (D := D) (ci := 3) (v := .int 0) (ty := .int) (C := RX3) (T := TX3) (N := 15) hx hb hts hinX3 tyX3 tyX3_ok nmX3 hown hK.1 hP hD hS 0 rfl rfl 0 (by decide) hf37 (fun _ h9 => h9) rfl (by decide +kernel) rfl rfl (Nat.le_of_ble_eq_true rfl) dX3_giveBack_2 (fun H locs hP hD hS => ?_)
  have hP : va_P D vwCl (wMd md cI 0 mK mc mD mr mw my mC mk ms mu mt mp mb me) H := hP
  have hD : va_D A (wMd md cI 0 mK mc mD mr mw my mC mk ms mu mt mp mb me) := hD
  refine lv_aload_n hx hb dX3_giveBack_5 rfl (lv_at hl 0 rfl) ?_
  refine lv_iload_n hx hb dX3_giveBack_6 rfl (lv_at hl 1 rfl) ?_
  refine kc_rVi (As := [.int x]) (rest := []) ⟨hx, hb, hml, hown, hts⟩ (c_X3_isCopy l D md cI 0 mK mc mD mr mw my mC mk ms mu mt mp mb me x ) (cwV 1 hts gX3_giveBack_X3_isCopy rfl rfl rfl (by decide +kernel) ⟨Nat.le_of_ble_eq_true rfl, Nat.le_of_ble_eq_true rfl⟩) hK hP [0, 1, 2, 3, 4, 5, 6, 7, 8, 9] [0] rfl rfl 0 rfl rfl rfl rfl hl.1 rfl (Nat.le_of_ble_eq_true rfl) dX3_giveBack_7 ⟨Nat.le_of_ble_eq_true rfl, Nat.le_of_ble_eq_true rfl⟩ ?_
  refine kc_ifneB (tgt := 19) hx hb dX3_giveBack_10 (by decide) (fun c_10 => ?_) (fun c_10 => ?_)
  · exact absurd c_10 hBad
  · refine lv_aload_n hx hb dX3_giveBack_13 rfl (lv_at hl 0 rfl) ?_
    refine lv_iconst (v := 1) hx hb dX3_giveBack_14 (by decide) ?_
    refine kc_wVi (w1 := wMd md cI 1 mK mc mD mr mw my mC mk ms mu mt mp mb me) (wr := []) (ws1 := wMd md cI 1 mK mc mD mr mw my mC mk ms mu mt mp mb me) (As := [.int 1]) (rest := []) ⟨hx, hb, hml, hown, hts⟩ (c_X3_fail l D md cI 0 mK mc mD mr mw my mC mk ms mu mt mp mb me 1 H.size ) (cwV 1 hts gX3_giveBack_X3_fail rfl rfl rfl (by decide +kernel) ⟨Nat.le_of_ble_eq_true rfl, Nat.le_of_ble_eq_true rfl⟩) hK hP hD hS hA [0, 1, 2, 3, 4, 5, 6, 7, 8, 9] [] [0, 1, 2, 3, 4, 5, 6, 7, 8, 9] [0] rfl rfl rfl rfl (by decide) rfl rfl rfl 0 rfl rfl rfl rfl hl.1 rfl (Nat.le_of_ble_eq_true rfl) dX3_giveBack_15 ⟨Nat.le_of_ble_eq_true rfl, Nat.le_of_ble_eq_true rfl⟩ (fun H locs hP hD hS => ?_)
    exact W.iret (v := 0) hx hb hr (fun tZ htZ hWZ => ⟨⟨_, (), rfl, rfl, by rw [htZ]; exact hP, by rw [hAe]; exact hD⟩, hS.F htZ⟩) hS.2.2 dX3_giveBack_18
set_option maxHeartbeats 4000000 in
set_option maxRecDepth 100000 in
theorem c_X3_lose_f1 (l : Launch) (D : va_G) (md : Nat → Nat) (cI : ClassId) (th : Int32) (mK : Nat) (mc : Nat → Int32) (mD : Nat) (mr : Nat → Int32) (mw : Int32) (my : Int32) (mC : Nat) (mk : Nat → Int32) (ms : Nat → Int32) (mu : Nat → Int32) (mt : Nat → Int32) (mp : Nat → Int32) (mb : Nat → Int32) (me : Nat → Int32) (x : Int32) (sz : Nat) (hBad : ¬ jIn mC x = true) : Met l yX3_lose wsX3_lose ({ frames := 1, cells := 0, slots := 0, locals := 21 } : Room) (wrP [.ref (md 0), .int x] D sz (wMd md cI th mK mc mD mr mw my mC mk ms mu mt mp mb me) [(cI, .int)]) (va_Qi (fun rZ (_ : Unit) => rZ = 0) (wrB D sz (wMd md cI th mK mc mD mr mw my mC mk ms mu mt mp mb me) (wMd md cI 1 mK mc mD mr mw my mC mk ms mu mt mp mb me)) (va_A (wMd md cI th mK mc mD mr mw my mC mk ms mu mt mp mb me) sz)) 0 0 (va_A (wMd md cI th mK mc mD mr mw my mC mk ms mu mt mp mb me) sz) := by
  refine Met.ofW (cc := cX3_lose) (maxL := 2) (ret := (some .int)) (by decide) rfl ?_
  intro p e s m args below meth c s₁ B hml hv
  obtain ⟨rfl, hsz, hP, hD0, hK⟩ := hv
  have hx := B.exec
  have hb := B.bytes
  have hr := B.returns
  have hts := atoms_spec (ws := wsX3_lose) B.pre
  have hown : s.vm.findClass RX3 = some m.cls := findClass_of_methodNamed B.named
  have hlocks := B.notSynchronized
  subst hsz
  have hD := hD0.self (sz := s.heap.size)
  generalize hAe : va_A (wMd md cI th mK mc mD mr mw my mC mk ms mu mt mp mb me) s.heap.size = A at hD ⊢
  have hA : ∀ q : Nat, s.heap.size ≤ q → A q := fun q h => by rw [← hAe]; exact Or.inr h
  have hinX3 : ∀ w ∈ u_ws RX3 TX3 15, w ∈ wsX3_lose := by decide +kernel
  have hf37 := hts (.fieldLink RX3 37 "KeyCabinetModel" "thrown" "I") (by decide +kernel)
  have hl := lv_entry ([.ref (md 0), .int x]) (n := 2) (Nat.le_of_ble_eq_true rfl)
  rw [lg_entry_eq]
  generalize (lg_sl ([.ref (md 0), .int x]) ++ List.replicate (2 - (lg_sl ([.ref (md 0), .int x])).length) Slot.unset).toArray = ls at hl ⊢
  have hl : lv_has ls 2 [(0, .ref (md 0)), (1, .int x)] := hl
  refine W.genH (fun H locs eH eL => ?_)
  have hS : va_S A s.heap H locs := by rw [eH, eL]; exact va_S.rf
  have hP : va_P D vwCl (wMd md cI th mK mc mD mr mw my mC mk ms mu mt mp mb me) H := by rw [eH]; exact hP
  clear eH eL
  refine lv_aload_n hx hb dX3_lose_0 rfl (lv_at hl 0 rfl) ?_
  refine lv_iconst (v := 0) hx hb dX3_lose_1 (by decide) ?_
  refine va_put (D := D) (ci := 3) (v := .int 0) (ty := .int) (C := RX3) (T := TX3) (N := 15) hx hb hts hinX3 tyX3 tyX3_ok nmX3 hown hK.1 hP hD hS 0 rfl rfl 0 (by decide) hf37 (fun _ h9 => h9) rfl (by decide +kernel) rfl rfl (Nat.le_of_ble_eq_true rfl) dX3_lose_2 (fun H locs hP hD hS => ?_)
  have hP : va_P D vwCl (wMd md cI 0 mK mc mD mr mw my mC mk ms mu mt mp mb me) H := hP
  have hD : va_D A (wMd md cI 0 mK mc mD mr mw my mC mk ms mu mt mp mb me) := hD
  refine lv_aload_n hx hb dX3_lose_5 rfl (lv_at hl 0 rfl) ?_
  refine lv_iload_n hx hb dX3_lose_6 rfl (lv_at hl 1 rfl) ?_
  refine kc_rVi (As := [.int x]) (rest := []) ⟨hx, hb, hml, hown, hts⟩ (c_X3_isCopy l D md cI 0 mK mc mD mr mw my mC mk ms mu mt mp mb me x ) (cwV 1 hts gX3_lose_X3_isCopy rfl rfl rfl (by decide +kernel) ⟨Nat.le_of_ble_eq_true rfl, Nat.le_of_ble_eq_true rfl⟩) hK hP [0, 1, 2, 3, 4, 5, 6, 7, 8, 9] [0] rfl rfl 0 rfl rfl rfl rfl hl.1 rfl (Nat.le_of_ble_eq_true rfl) dX3_lose_7 ⟨Nat.le_of_ble_eq_true rfl, Nat.le_of_ble_eq_true rfl⟩ ?_
  refine kc_ifneB (tgt := 19) hx hb dX3_lose_10 (by decide) (fun c_10 => ?_) (fun c_10 => ?_)
  · exact absurd c_10 hBad
  · refine lv_aload_n hx hb dX3_lose_13 rfl (lv_at hl 0 rfl) ?_
    refine lv_iconst (v := 1) hx hb dX3_lose_14 (by decide) ?_
    refine kc_wVi (w1 := wMd md cI 1 mK mc mD mr mw my mC mk ms mu mt mp mb me) (wr := []) (ws1 := wMd md cI 1 mK mc mD mr mw my mC mk ms mu mt mp mb me) (As := [.int 1]) (rest := []) ⟨hx, hb, hml, hown, hts⟩ (c_X3_fail l D md cI 0 mK mc mD mr mw my mC mk ms mu mt mp mb me 1 H.size ) (cwV 1 hts gX3_lose_X3_fail rfl rfl rfl (by decide +kernel) ⟨Nat.le_of_ble_eq_true rfl, Nat.le_of_ble_eq_true rfl⟩) hK hP hD hS hA [0, 1, 2, 3, 4, 5, 6, 7, 8, 9] [] [0, 1, 2, 3, 4, 5, 6, 7, 8, 9] [0] rfl rfl rfl rfl (by decide) rfl rfl rfl 0 rfl rfl rfl rfl hl.1 rfl (Nat.le_of_ble_eq_true rfl) dX3_lose_15 ⟨Nat.le_of_ble_eq_true rfl, Nat.le_of_ble_eq_true rfl⟩ (fun H locs hP hD hS => ?_)
    exact W.iret (v := 0) hx hb hr (fun tZ htZ hWZ => ⟨⟨_, (), rfl, rfl, by rw [htZ]; exact hP, by rw [hAe]; exact hD⟩, hS.F htZ⟩) hS.2.2 dX3_lose_18
set_option maxHeartbeats 4000000 in
set_option maxRecDepth 100000 in
theorem c_X3_find_f1 (l : Launch) (D : va_G) (md : Nat → Nat) (cI : ClassId) (th : Int32) (mK : Nat) (mc : Nat → Int32) (mD : Nat) (mr : Nat → Int32) (mw : Int32) (my : Int32) (mC : Nat) (mk : Nat → Int32) (ms : Nat → Int32) (mu : Nat → Int32) (mt : Nat → Int32) (mp : Nat → Int32) (mb : Nat → Int32) (me : Nat → Int32) (x : Int32) (sz : Nat) (hBad : ¬ jIn mC x = true) : Met l yX3_find wsX3_find ({ frames := 1, cells := 0, slots := 0, locals := 21 } : Room) (wrP [.ref (md 0), .int x] D sz (wMd md cI th mK mc mD mr mw my mC mk ms mu mt mp mb me) [(cI, .int)]) (va_Qi (fun rZ (_ : Unit) => rZ = 0) (wrB D sz (wMd md cI th mK mc mD mr mw my mC mk ms mu mt mp mb me) (wMd md cI 1 mK mc mD mr mw my mC mk ms mu mt mp mb me)) (va_A (wMd md cI th mK mc mD mr mw my mC mk ms mu mt mp mb me) sz)) 0 0 (va_A (wMd md cI th mK mc mD mr mw my mC mk ms mu mt mp mb me) sz) := by
  refine Met.ofW (cc := cX3_find) (maxL := 2) (ret := (some .int)) (by decide) rfl ?_
  intro p e s m args below meth c s₁ B hml hv
  obtain ⟨rfl, hsz, hP, hD0, hK⟩ := hv
  have hx := B.exec
  have hb := B.bytes
  have hr := B.returns
  have hts := atoms_spec (ws := wsX3_find) B.pre
  have hown : s.vm.findClass RX3 = some m.cls := findClass_of_methodNamed B.named
  have hlocks := B.notSynchronized
  subst hsz
  have hD := hD0.self (sz := s.heap.size)
  generalize hAe : va_A (wMd md cI th mK mc mD mr mw my mC mk ms mu mt mp mb me) s.heap.size = A at hD ⊢
  have hA : ∀ q : Nat, s.heap.size ≤ q → A q := fun q h => by rw [← hAe]; exact Or.inr h
  have hinX3 : ∀ w ∈ u_ws RX3 TX3 15, w ∈ wsX3_find := by decide +kernel
  have hf37 := hts (.fieldLink RX3 37 "KeyCabinetModel" "thrown" "I") (by decide +kernel)
  have hl := lv_entry ([.ref (md 0), .int x]) (n := 2) (Nat.le_of_ble_eq_true rfl)
  rw [lg_entry_eq]
  generalize (lg_sl ([.ref (md 0), .int x]) ++ List.replicate (2 - (lg_sl ([.ref (md 0), .int x])).length) Slot.unset).toArray = ls at hl ⊢
  have hl : lv_has ls 2 [(0, .ref (md 0)), (1, .int x)] := hl
  refine W.genH (fun H locs eH eL => ?_)
  have hS : va_S A s.heap H locs := by rw [eH, eL]; exact va_S.rf
  have hP : va_P D vwCl (wMd md cI th mK mc mD mr mw my mC mk ms mu mt mp mb me) H := by rw [eH]; exact hP
  clear eH eL
  refine lv_aload_n hx hb dX3_find_0 rfl (lv_at hl 0 rfl) ?_
  refine lv_iconst (v := 0) hx hb dX3_find_1 (by decide) ?_
  refine va_put (D := D) (ci := 3) (v := .int 0) (ty := .int) (C := RX3) (T := TX3) (N := 15) hx hb hts hinX3 tyX3 tyX3_ok nmX3 hown hK.1 hP hD hS 0 rfl rfl 0 (by decide) hf37 (fun _ h9 => h9) rfl (by decide +kernel) rfl rfl (Nat.le_of_ble_eq_true rfl) dX3_find_2 (fun H locs hP hD hS => ?_)
  have hP : va_P D vwCl (wMd md cI 0 mK mc mD mr mw my mC mk ms mu mt mp mb me) H := hP
  have hD : va_D A (wMd md cI 0 mK mc mD mr mw my mC mk ms mu mt mp mb me) := hD
  refine lv_aload_n hx hb dX3_find_5 rfl (lv_at hl 0 rfl) ?_
  refine lv_iload_n hx hb dX3_find_6 rfl (lv_at hl 1 rfl) ?_
  refine kc_rVi (As := [.int x]) (rest := []) ⟨hx, hb, hml, hown, hts⟩ (c_X3_isCopy l D md cI 0 mK mc mD mr mw my mC mk ms mu mt mp mb me x ) (cwV 1 hts gX3_find_X3_isCopy rfl rfl rfl (by decide +kernel) ⟨Nat.le_of_ble_eq_true rfl, Nat.le_of_ble_eq_true rfl⟩) hK hP [0, 1, 2, 3, 4, 5, 6, 7, 8, 9] [0] rfl rfl 0 rfl rfl rfl rfl hl.1 rfl (Nat.le_of_ble_eq_true rfl) dX3_find_7 ⟨Nat.le_of_ble_eq_true rfl, Nat.le_of_ble_eq_true rfl⟩ ?_
  refine kc_ifneB (tgt := 19) hx hb dX3_find_10 (by decide) (fun c_10 => ?_) (fun c_10 => ?_)
  · exact absurd c_10 hBad
  · refine lv_aload_n hx hb dX3_find_13 rfl (lv_at hl 0 rfl) ?_
    refine lv_iconst (v := 1) hx hb dX3_find_14 (by decide) ?_
    refine kc_wVi (w1 := wMd md cI 1 mK mc mD mr mw my mC mk ms mu mt mp mb me) (wr := []) (ws1 := wMd md cI 1 mK mc mD mr mw my mC mk ms mu mt mp mb me) (As := [.int 1]) (rest := []) ⟨hx, hb, hml, hown, hts⟩ (c_X3_fail l D md cI 0 mK mc mD mr mw my mC mk ms mu mt mp mb me 1 H.size ) (cwV 1 hts gX3_find_X3_fail rfl rfl rfl (by decide +kernel) ⟨Nat.le_of_ble_eq_true rfl, Nat.le_of_ble_eq_true rfl⟩) hK hP hD hS hA [0, 1, 2, 3, 4, 5, 6, 7, 8, 9] [] [0, 1, 2, 3, 4, 5, 6, 7, 8, 9] [0] rfl rfl rfl rfl (by decide) rfl rfl rfl 0 rfl rfl rfl rfl hl.1 rfl (Nat.le_of_ble_eq_true rfl) dX3_find_15 ⟨Nat.le_of_ble_eq_true rfl, Nat.le_of_ble_eq_true rfl⟩ (fun H locs hP hD hS => ?_)
    exact W.iret (v := 0) hx hb hr (fun tZ htZ hWZ => ⟨⟨_, (), rfl, rfl, by rw [htZ]; exact hP, by rw [hAe]; exact hD⟩, hS.F htZ⟩) hS.2.2 dX3_find_18
set_option maxHeartbeats 4000000 in
set_option maxRecDepth 100000 in
theorem c_X3_setRights_f1 (l : Launch) (D : va_G) (md : Nat → Nat) (cI : ClassId) (th : Int32) (mK : Nat) (mc : Nat → Int32) (mD : Nat) (mr : Nat → Int32) (mw : Int32) (my : Int32) (mC : Nat) (mk : Nat → Int32) (ms : Nat → Int32) (mu : Nat → Int32) (mt : Nat → Int32) (mp : Nat → Int32) (mb : Nat → Int32) (me : Nat → Int32) (x : Int32) (r : Int32) (sz : Nat) (hBad : ¬ jIn mD x = true) : Met l yX3_setRights wsX3_setRights ({ frames := 1, cells := 0, slots := 0, locals := 21 } : Room) (wrP [.ref (md 0), .int x, .int r] D sz (wMd md cI th mK mc mD mr mw my mC mk ms mu mt mp mb me) [(cI, .int)]) (va_Qi (fun rZ (_ : Unit) => rZ = 0) (wrB D sz (wMd md cI th mK mc mD mr mw my mC mk ms mu mt mp mb me) (wMd md cI 1 mK mc mD mr mw my mC mk ms mu mt mp mb me)) (va_A (wMd md cI th mK mc mD mr mw my mC mk ms mu mt mp mb me) sz)) 0 0 (va_A (wMd md cI th mK mc mD mr mw my mC mk ms mu mt mp mb me) sz) := by
  refine Met.ofW (cc := cX3_setRights) (maxL := 5) (ret := (some .int)) (by decide) rfl ?_
  intro p e s m args below meth c s₁ B hml hv
  obtain ⟨rfl, hsz, hP, hD0, hK⟩ := hv
  have hx := B.exec
  have hb := B.bytes
  have hr := B.returns
  have hts := atoms_spec (ws := wsX3_setRights) B.pre
  have hown : s.vm.findClass RX3 = some m.cls := findClass_of_methodNamed B.named
  have hlocks := B.notSynchronized
  subst hsz
  have hD := hD0.self (sz := s.heap.size)
  generalize hAe : va_A (wMd md cI th mK mc mD mr mw my mC mk ms mu mt mp mb me) s.heap.size = A at hD ⊢
  have hA : ∀ q : Nat, s.heap.size ≤ q → A q := fun q h => by rw [← hAe]; exact Or.inr h
  have hinX3 : ∀ w ∈ u_ws RX3 TX3 15, w ∈ wsX3_setRights := by decide +kernel
  have hf37 := hts (.fieldLink RX3 37 "KeyCabinetModel" "thrown" "I") (by decide +kernel)
  have hl := lv_entry ([.ref (md 0), .int x, .int r]) (n := 5) (Nat.le_of_ble_eq_true rfl)
  rw [lg_entry_eq]
  generalize (lg_sl ([.ref (md 0), .int x, .int r]) ++ List.replicate (5 - (lg_sl ([.ref (md 0), .int x, .int r])).length) Slot.unset).toArray = ls at hl ⊢
  have hl : lv_has ls 5 [(0, .ref (md 0)), (1, .int x), (2, .int r)] := hl
  refine W.genH (fun H locs eH eL => ?_)
  have hS : va_S A s.heap H locs := by rw [eH, eL]; exact va_S.rf
  have hP : va_P D vwCl (wMd md cI th mK mc mD mr mw my mC mk ms mu mt mp mb me) H := by rw [eH]; exact hP
  clear eH eL
  refine lv_aload_n hx hb dX3_setRights_0 rfl (lv_at hl 0 rfl) ?_
  refine lv_iconst (v := 0) hx hb dX3_setRights_1 (by decide) ?_
  refine va_put (D := D) (ci := 3) (v := .int 0) (ty := .int) (C := RX3) (T := TX3) (N := 15) hx hb hts hinX3 tyX3 tyX3_ok nmX3 hown hK.1 hP hD hS 0 rfl rfl 0 (by decide) hf37 (fun _ h9 => h9) rfl (by decide +kernel) rfl rfl (Nat.le_of_ble_eq_true rfl) dX3_setRights_2 (fun H locs hP hD hS => ?_)
  have hP : va_P D vwCl (wMd md cI 0 mK mc mD mr mw my mC mk ms mu mt mp mb me) H := hP
  have hD : va_D A (wMd md cI 0 mK mc mD mr mw my mC mk ms mu mt mp mb me) := hD
  refine lv_aload_n hx hb dX3_setRights_5 rfl (lv_at hl 0 rfl) ?_
  refine lv_iload_n hx hb dX3_setRights_6 rfl (lv_at hl 1 rfl) ?_
  refine kc_rVi (As := [.int x]) (rest := []) ⟨hx, hb, hml, hown, hts⟩ (c_X3_isDoor l D md cI 0 mK mc mD mr mw my mC mk ms mu mt mp mb me x ) (cwV 1 hts gX3_setRights_X3_isDoor rfl rfl rfl (by decide +kernel) ⟨Nat.le_of_ble_eq_true rfl, Nat.le_of_ble_eq_true rfl⟩) hK hP [0, 1, 2, 3, 4, 5, 6, 7, 8, 9] [0] rfl rfl 0 rfl rfl rfl rfl hl.1 rfl (Nat.le_of_ble_eq_true rfl) dX3_setRights_7 ⟨Nat.le_of_ble_eq_true rfl, Nat.le_of_ble_eq_true rfl⟩ ?_
  refine kc_ifneB (tgt := 19) hx hb dX3_setRights_10 (by decide) (fun c_10 => ?_) (fun c_10 => ?_)
  · exact absurd c_10 hBad
  · refine lv_aload_n hx hb dX3_setRights_13 rfl (lv_at hl 0 rfl) ?_
    refine lv_iconst (v := 1) hx hb dX3_setRights_14 (by decide) ?_
    refine kc_wVi (w1 := wMd md cI 1 mK mc mD mr mw my mC mk ms mu mt mp mb me) (wr := []) (ws1 := wMd md cI 1 mK mc mD mr mw my mC mk ms mu mt mp mb me) (As := [.int 1]) (rest := []) ⟨hx, hb, hml, hown, hts⟩ (c_X3_fail l D md cI 0 mK mc mD mr mw my mC mk ms mu mt mp mb me 1 H.size ) (cwV 1 hts gX3_setRights_X3_fail rfl rfl rfl (by decide +kernel) ⟨Nat.le_of_ble_eq_true rfl, Nat.le_of_ble_eq_true rfl⟩) hK hP hD hS hA [0, 1, 2, 3, 4, 5, 6, 7, 8, 9] [] [0, 1, 2, 3, 4, 5, 6, 7, 8, 9] [0] rfl rfl rfl rfl (by decide) rfl rfl rfl 0 rfl rfl rfl rfl hl.1 rfl (Nat.le_of_ble_eq_true rfl) dX3_setRights_15 ⟨Nat.le_of_ble_eq_true rfl, Nat.le_of_ble_eq_true rfl⟩ (fun H locs hP hD hS => ?_)
    exact W.iret (v := 0) hx hb hr (fun tZ htZ hWZ => ⟨⟨_, (), rfl, rfl, by rw [htZ]; exact hP, by rw [hAe]; exact hD⟩, hS.F htZ⟩) hS.2.2 dX3_setRights_18
set_option maxHeartbeats 4000000 in
set_option maxRecDepth 100000 in
theorem c_X3_pins_f1 (l : Launch) (D : va_G) (md : Nat → Nat) (cI : ClassId) (th : Int32) (mK : Nat) (mc : Nat → Int32) (mD : Nat) (mr : Nat → Int32) (mw : Int32) (my : Int32) (mC : Nat) (mk : Nat → Int32) (ms : Nat → Int32) (mu : Nat → Int32) (mt : Nat → Int32) (mp : Nat → Int32) (mb : Nat → Int32) (me : Nat → Int32) (x : Int32) (po : Int32) (sz : Nat) (hBad : ¬ jIn mD x = true) : Met l yX3_pins wsX3_pins ({ frames := 1, cells := 0, slots := 0, locals := 21 } : Room) (wrP [.ref (md 0), .int x, .int po] D sz (wMd md cI th mK mc mD mr mw my mC mk ms mu mt mp mb me) [(cI, .int)]) (va_Qi (fun rZ (_ : Unit) => rZ = 0) (wrB D sz (wMd md cI th mK mc mD mr mw my mC mk ms mu mt mp mb me) (wMd md cI 1 mK mc mD mr mw my mC mk ms mu mt mp mb me)) (va_A (wMd md cI th mK mc mD mr mw my mC mk ms mu mt mp mb me) sz)) 0 0 (va_A (wMd md cI th mK mc mD mr mw my mC mk ms mu mt mp mb me) sz) := by
  refine Met.ofW (cc := cX3_pins) (maxL := 3) (ret := (some .int)) (by decide) rfl ?_
  intro p e s m args below meth c s₁ B hml hv
  obtain ⟨rfl, hsz, hP, hD0, hK⟩ := hv
  have hx := B.exec
  have hb := B.bytes
  have hr := B.returns
  have hts := atoms_spec (ws := wsX3_pins) B.pre
  have hown : s.vm.findClass RX3 = some m.cls := findClass_of_methodNamed B.named
  have hlocks := B.notSynchronized
  subst hsz
  have hD := hD0.self (sz := s.heap.size)
  generalize hAe : va_A (wMd md cI th mK mc mD mr mw my mC mk ms mu mt mp mb me) s.heap.size = A at hD ⊢
  have hA : ∀ q : Nat, s.heap.size ≤ q → A q := fun q h => by rw [← hAe]; exact Or.inr h
  have hinX3 : ∀ w ∈ u_ws RX3 TX3 15, w ∈ wsX3_pins := by decide +kernel
  have hf37 := hts (.fieldLink RX3 37 "KeyCabinetModel" "thrown" "I") (by decide +kernel)
  have hl := lv_entry ([.ref (md 0), .int x, .int po]) (n := 3) (Nat.le_of_ble_eq_true rfl)
  rw [lg_entry_eq]
  generalize (lg_sl ([.ref (md 0), .int x, .int po]) ++ List.replicate (3 - (lg_sl ([.ref (md 0), .int x, .int po])).length) Slot.unset).toArray = ls at hl ⊢
  have hl : lv_has ls 3 [(0, .ref (md 0)), (1, .int x), (2, .int po)] := hl
  refine W.genH (fun H locs eH eL => ?_)
  have hS : va_S A s.heap H locs := by rw [eH, eL]; exact va_S.rf
  have hP : va_P D vwCl (wMd md cI th mK mc mD mr mw my mC mk ms mu mt mp mb me) H := by rw [eH]; exact hP
  clear eH eL
  refine lv_aload_n hx hb dX3_pins_0 rfl (lv_at hl 0 rfl) ?_
  refine lv_iconst (v := 0) hx hb dX3_pins_1 (by decide) ?_
  refine va_put (D := D) (ci := 3) (v := .int 0) (ty := .int) (C := RX3) (T := TX3) (N := 15) hx hb hts hinX3 tyX3 tyX3_ok nmX3 hown hK.1 hP hD hS 0 rfl rfl 0 (by decide) hf37 (fun _ h9 => h9) rfl (by decide +kernel) rfl rfl (Nat.le_of_ble_eq_true rfl) dX3_pins_2 (fun H locs hP hD hS => ?_)
  have hP : va_P D vwCl (wMd md cI 0 mK mc mD mr mw my mC mk ms mu mt mp mb me) H := hP
  have hD : va_D A (wMd md cI 0 mK mc mD mr mw my mC mk ms mu mt mp mb me) := hD
  refine lv_aload_n hx hb dX3_pins_5 rfl (lv_at hl 0 rfl) ?_
  refine lv_iload_n hx hb dX3_pins_6 rfl (lv_at hl 1 rfl) ?_
  refine kc_rVi (As := [.int x]) (rest := []) ⟨hx, hb, hml, hown, hts⟩ (c_X3_isDoor l D md cI 0 mK mc mD mr mw my mC mk ms mu mt mp mb me x ) (cwV 1 hts gX3_pins_X3_isDoor rfl rfl rfl (by decide +kernel) ⟨Nat.le_of_ble_eq_true rfl, Nat.le_of_ble_eq_true rfl⟩) hK hP [0, 1, 2, 3, 4, 5, 6, 7, 8, 9] [0] rfl rfl 0 rfl rfl rfl rfl hl.1 rfl (Nat.le_of_ble_eq_true rfl) dX3_pins_7 ⟨Nat.le_of_ble_eq_true rfl, Nat.le_of_ble_eq_true rfl⟩ ?_
  refine kc_ifeqB (tgt := 31) hx hb dX3_pins_10 (by decide) (fun c_10 => ?_) (fun c_10 => ?_)
  · refine lv_aload_n hx hb dX3_pins_31 rfl (lv_at hl 0 rfl) ?_
    refine lv_iconst (v := 1) hx hb dX3_pins_32 (by decide) ?_
    refine kc_wVi (w1 := wMd md cI 1 mK mc mD mr mw my mC mk ms mu mt mp mb me) (wr := []) (ws1 := wMd md cI 1 mK mc mD mr mw my mC mk ms mu mt mp mb me) (As := [.int 1]) (rest := []) ⟨hx, hb, hml, hown, hts⟩ (c_X3_fail l D md cI 0 mK mc mD mr mw my mC mk ms mu mt mp mb me 1 H.size ) (cwV 1 hts gX3_pins_X3_fail rfl rfl rfl (by decide +kernel) ⟨Nat.le_of_ble_eq_true rfl, Nat.le_of_ble_eq_true rfl⟩) hK hP hD hS hA [0, 1, 2, 3, 4, 5, 6, 7, 8, 9] [] [0, 1, 2, 3, 4, 5, 6, 7, 8, 9] [0] rfl rfl rfl rfl (by decide) rfl rfl rfl 0 rfl rfl rfl rfl hl.1 rfl (Nat.le_of_ble_eq_true rfl) dX3_pins_33 ⟨Nat.le_of_ble_eq_true rfl, Nat.le_of_ble_eq_true rfl⟩ (fun H locs hP hD hS => ?_)
    exact W.iret (v := 0) hx hb hr (fun tZ htZ hWZ => ⟨⟨_, (), rfl, rfl, by rw [htZ]; exact hP, by rw [hAe]; exact hD⟩, hS.F htZ⟩) hS.2.2 dX3_pins_36
  · exact absurd c_10 hBad
set_option maxHeartbeats 4000000 in
set_option maxRecDepth 100000 in
theorem c_X3_opens_f1 (l : Launch) (D : va_G) (md : Nat → Nat) (cI : ClassId) (th : Int32) (mK : Nat) (mc : Nat → Int32) (mD : Nat) (mr : Nat → Int32) (mw : Int32) (my : Int32) (mC : Nat) (mk : Nat → Int32) (ms : Nat → Int32) (mu : Nat → Int32) (mt : Nat → Int32) (mp : Nat → Int32) (mb : Nat → Int32) (me : Nat → Int32) (x : Int32) (y : Int32) (sz : Nat) (hBad : ¬ jIn mK x = true) : Met l yX3_opens wsX3_opens ({ frames := 1, cells := 0, slots := 0, locals := 21 } : Room) (wrP [.ref (md 0), .int x, .int y] D sz (wMd md cI th mK mc mD mr mw my mC mk ms mu mt mp mb me) [(cI, .int)]) (va_Qi (fun rZ (_ : Unit) => rZ = 0) (wrB D sz (wMd md cI th mK mc mD mr mw my mC mk ms mu mt mp mb me) (wMd md cI 1 mK mc mD mr mw my mC mk ms mu mt mp mb me)) (va_A (wMd md cI th mK mc mD mr mw my mC mk ms mu mt mp mb me) sz)) 0 0 (va_A (wMd md cI th mK mc mD mr mw my mC mk ms mu mt mp mb me) sz) := by
  refine Met.ofW (cc := cX3_opens) (maxL := 3) (ret := (some .boolean)) (by decide) rfl ?_
  intro p e s m args below meth c s₁ B hml hv
  obtain ⟨rfl, hsz, hP, hD0, hK⟩ := hv
  have hx := B.exec
  have hb := B.bytes
  have hr := B.returns
  have hts := atoms_spec (ws := wsX3_opens) B.pre
  have hown : s.vm.findClass RX3 = some m.cls := findClass_of_methodNamed B.named
  have hlocks := B.notSynchronized
  subst hsz
  have hD := hD0.self (sz := s.heap.size)
  generalize hAe : va_A (wMd md cI th mK mc mD mr mw my mC mk ms mu mt mp mb me) s.heap.size = A at hD ⊢
  have hA : ∀ q : Nat, s.heap.size ≤ q → A q := fun q h => by rw [← hAe]; exact Or.inr h
  have hinX3 : ∀ w ∈ u_ws RX3 TX3 15, w ∈ wsX3_opens := by decide +kernel
  have hf37 := hts (.fieldLink RX3 37 "KeyCabinetModel" "thrown" "I") (by decide +kernel)
  have hl := lv_entry ([.ref (md 0), .int x, .int y]) (n := 3) (Nat.le_of_ble_eq_true rfl)
  rw [lg_entry_eq]
  generalize (lg_sl ([.ref (md 0), .int x, .int y]) ++ List.replicate (3 - (lg_sl ([.ref (md 0), .int x, .int y])).length) Slot.unset).toArray = ls at hl ⊢
  have hl : lv_has ls 3 [(0, .ref (md 0)), (1, .int x), (2, .int y)] := hl
  refine W.genH (fun H locs eH eL => ?_)
  have hS : va_S A s.heap H locs := by rw [eH, eL]; exact va_S.rf
  have hP : va_P D vwCl (wMd md cI th mK mc mD mr mw my mC mk ms mu mt mp mb me) H := by rw [eH]; exact hP
  clear eH eL
  refine lv_aload_n hx hb dX3_opens_0 rfl (lv_at hl 0 rfl) ?_
  refine lv_aload_n hx hb dX3_opens_1 rfl (lv_at hl 0 rfl) ?_
  refine lv_iload_n hx hb dX3_opens_2 rfl (lv_at hl 1 rfl) ?_
  refine kc_rVi (As := [.int x]) (rest := [.ref (md 0)]) ⟨hx, hb, hml, hown, hts⟩ (c_X3_isKey l D md cI th mK mc mD mr mw my mC mk ms mu mt mp mb me x ) (cwV 1 hts gX3_opens_X3_isKey rfl rfl rfl (by decide +kernel) ⟨Nat.le_of_ble_eq_true rfl, Nat.le_of_ble_eq_true rfl⟩) hK hP [0, 1, 2, 3, 4, 5, 6, 7, 8, 9] [0] rfl rfl 0 rfl rfl rfl rfl hl.1 rfl (Nat.le_of_ble_eq_true rfl) dX3_opens_3 ⟨Nat.le_of_ble_eq_true rfl, Nat.le_of_ble_eq_true rfl⟩ ?_
  refine kc_ifeqB (tgt := 21) hx hb dX3_opens_6 (by decide) (fun c_6 => ?_) (fun c_6 => ?_)
  · refine lv_iconst (v := 1) hx hb dX3_opens_21 (by decide) ?_
    refine va_put (D := D) (ci := 3) (v := .int 1) (ty := .int) (C := RX3) (T := TX3) (N := 15) hx hb hts hinX3 tyX3 tyX3_ok nmX3 hown hK.1 hP hD hS 0 rfl rfl 0 (by decide) hf37 (fun _ h9 => h9) rfl (by decide +kernel) rfl rfl (Nat.le_of_ble_eq_true rfl) dX3_opens_22 (fun H locs hP hD hS => ?_)
    have hP : va_P D vwCl (wMd md cI 1 mK mc mD mr mw my mC mk ms mu mt mp mb me) H := hP
    have hD : va_D A (wMd md cI 1 mK mc mD mr mw my mC mk ms mu mt mp mb me) := hD
    refine lv_aload_n hx hb dX3_opens_25 rfl (lv_at hl 0 rfl) ?_
    refine va_get (D := D) (ci := 3) (v := .int 1) (C := RX3) (T := TX3) (N := 15) hx hb hts hinX3 hown hK.1 hP 0 rfl rfl 0 (by decide) hf37 (fun _ h9 => h9) rfl dX3_opens_26 ?_
    refine lv_if_ne (tgt := 50) hx hb dX3_opens_29 (by decide) (fun c_29 => ?_) (fun c_29 => absurd c_29 (by decide))
    refine lv_iconst (v := 0) hx hb dX3_opens_50 (by decide) ?_
    exact W.zret (v := 0) hx hb hr rfl (fun tZ htZ hWZ => ⟨⟨_, (), rfl, rfl, by rw [htZ]; exact hP, by rw [hAe]; exact hD⟩, hS.F htZ⟩) hS.2.2 dX3_opens_51
  · exact absurd c_6 hBad
set_option maxHeartbeats 4000000 in
set_option maxRecDepth 100000 in
theorem c_X3_isAbove_f1 (l : Launch) (D : va_G) (md : Nat → Nat) (cI : ClassId) (th : Int32) (mK : Nat) (mc : Nat → Int32) (mD : Nat) (mr : Nat → Int32) (mw : Int32) (my : Int32) (mC : Nat) (mk : Nat → Int32) (ms : Nat → Int32) (mu : Nat → Int32) (mt : Nat → Int32) (mp : Nat → Int32) (mb : Nat → Int32) (me : Nat → Int32) (x : Int32) (y : Int32) (sz : Nat) (hBad : ¬ jIn mK x = true) : Met l yX3_isAbove wsX3_isAbove ({ frames := 1, cells := 0, slots := 0, locals := 21 } : Room) (wrP [.ref (md 0), .int x, .int y] D sz (wMd md cI th mK mc mD mr mw my mC mk ms mu mt mp mb me) [(cI, .int)]) (va_Qi (fun rZ (_ : Unit) => rZ = 0) (wrB D sz (wMd md cI th mK mc mD mr mw my mC mk ms mu mt mp mb me) (wMd md cI 1 mK mc mD mr mw my mC mk ms mu mt mp mb me)) (va_A (wMd md cI th mK mc mD mr mw my mC mk ms mu mt mp mb me) sz)) 0 0 (va_A (wMd md cI th mK mc mD mr mw my mC mk ms mu mt mp mb me) sz) := by
  refine Met.ofW (cc := cX3_isAbove) (maxL := 5) (ret := (some .boolean)) (by decide) rfl ?_
  intro p e s m args below meth c s₁ B hml hv
  obtain ⟨rfl, hsz, hP, hD0, hK⟩ := hv
  have hx := B.exec
  have hb := B.bytes
  have hr := B.returns
  have hts := atoms_spec (ws := wsX3_isAbove) B.pre
  have hown : s.vm.findClass RX3 = some m.cls := findClass_of_methodNamed B.named
  have hlocks := B.notSynchronized
  subst hsz
  have hD := hD0.self (sz := s.heap.size)
  generalize hAe : va_A (wMd md cI th mK mc mD mr mw my mC mk ms mu mt mp mb me) s.heap.size = A at hD ⊢
  have hA : ∀ q : Nat, s.heap.size ≤ q → A q := fun q h => by rw [← hAe]; exact Or.inr h
  have hinX3 : ∀ w ∈ u_ws RX3 TX3 15, w ∈ wsX3_isAbove := by decide +kernel
  have hf37 := hts (.fieldLink RX3 37 "KeyCabinetModel" "thrown" "I") (by decide +kernel)
  have hl := lv_entry ([.ref (md 0), .int x, .int y]) (n := 5) (Nat.le_of_ble_eq_true rfl)
  rw [lg_entry_eq]
  generalize (lg_sl ([.ref (md 0), .int x, .int y]) ++ List.replicate (5 - (lg_sl ([.ref (md 0), .int x, .int y])).length) Slot.unset).toArray = ls at hl ⊢
  have hl : lv_has ls 5 [(0, .ref (md 0)), (1, .int x), (2, .int y)] := hl
  refine W.genH (fun H locs eH eL => ?_)
  have hS : va_S A s.heap H locs := by rw [eH, eL]; exact va_S.rf
  have hP : va_P D vwCl (wMd md cI th mK mc mD mr mw my mC mk ms mu mt mp mb me) H := by rw [eH]; exact hP
  clear eH eL
  refine lv_aload_n hx hb dX3_isAbove_0 rfl (lv_at hl 0 rfl) ?_
  refine lv_aload_n hx hb dX3_isAbove_1 rfl (lv_at hl 0 rfl) ?_
  refine lv_iload_n hx hb dX3_isAbove_2 rfl (lv_at hl 1 rfl) ?_
  refine kc_rVi (As := [.int x]) (rest := [.ref (md 0)]) ⟨hx, hb, hml, hown, hts⟩ (c_X3_isKey l D md cI th mK mc mD mr mw my mC mk ms mu mt mp mb me x ) (cwV 1 hts gX3_isAbove_X3_isKey rfl rfl rfl (by decide +kernel) ⟨Nat.le_of_ble_eq_true rfl, Nat.le_of_ble_eq_true rfl⟩) hK hP [0, 1, 2, 3, 4, 5, 6, 7, 8, 9] [0] rfl rfl 0 rfl rfl rfl rfl hl.1 rfl (Nat.le_of_ble_eq_true rfl) dX3_isAbove_3 ⟨Nat.le_of_ble_eq_true rfl, Nat.le_of_ble_eq_true rfl⟩ ?_
  refine kc_ifeqB (tgt := 21) hx hb dX3_isAbove_6 (by decide) (fun c_6 => ?_) (fun c_6 => ?_)
  · refine lv_iconst (v := 1) hx hb dX3_isAbove_21 (by decide) ?_
    refine va_put (D := D) (ci := 3) (v := .int 1) (ty := .int) (C := RX3) (T := TX3) (N := 15) hx hb hts hinX3 tyX3 tyX3_ok nmX3 hown hK.1 hP hD hS 0 rfl rfl 0 (by decide) hf37 (fun _ h9 => h9) rfl (by decide +kernel) rfl rfl (Nat.le_of_ble_eq_true rfl) dX3_isAbove_22 (fun H locs hP hD hS => ?_)
    have hP : va_P D vwCl (wMd md cI 1 mK mc mD mr mw my mC mk ms mu mt mp mb me) H := hP
    have hD : va_D A (wMd md cI 1 mK mc mD mr mw my mC mk ms mu mt mp mb me) := hD
    refine lv_aload_n hx hb dX3_isAbove_25 rfl (lv_at hl 0 rfl) ?_
    refine va_get (D := D) (ci := 3) (v := .int 1) (C := RX3) (T := TX3) (N := 15) hx hb hts hinX3 hown hK.1 hP 0 rfl rfl 0 (by decide) hf37 (fun _ h9 => h9) rfl dX3_isAbove_26 ?_
    refine lv_if_eq (tgt := 34) hx hb dX3_isAbove_29 (by decide) (fun c_29 => absurd c_29 (by decide)) (fun c_29 => ?_)
    refine lv_iconst (v := 0) hx hb dX3_isAbove_32 (by decide) ?_
    exact W.zret (v := 0) hx hb hr rfl (fun tZ htZ hWZ => ⟨⟨_, (), rfl, rfl, by rw [htZ]; exact hP, by rw [hAe]; exact hD⟩, hS.F htZ⟩) hS.2.2 dX3_isAbove_33
  · exact absurd c_6 hBad
set_option maxHeartbeats 4000000 in
set_option maxRecDepth 100000 in
theorem c_X3_lend_f1 (l : Launch) (D : va_G) (md : Nat → Nat) (cI : ClassId) (th : Int32) (mK : Nat) (mc : Nat → Int32) (mD : Nat) (mr : Nat → Int32) (mw : Int32) (my : Int32) (mC : Nat) (mk : Nat → Int32) (ms : Nat → Int32) (mu : Nat → Int32) (mt : Nat → Int32) (mp : Nat → Int32) (mb : Nat → Int32) (me : Nat → Int32) (x : Int32) (pe : Int32) (dz : Int32) (sz : Nat) (hBad : ¬ jIn mC x = true) : Met l yX3_lend wsX3_lend ({ frames := 1, cells := 0, slots := 0, locals := 21 } : Room) (wrP [.ref (md 0), .int x, .int pe, .int dz] D sz (wMd md cI th mK mc mD mr mw my mC mk ms mu mt mp mb me) [(cI, .int)]) (va_Qi (fun rZ (_ : Unit) => rZ = 0) (wrB D sz (wMd md cI th mK mc mD mr mw my mC mk ms mu mt mp mb me) (wMd md cI 1 mK mc mD mr mw my mC mk ms mu mt mp mb me)) (va_A (wMd md cI th mK mc mD mr mw my mC mk ms mu mt mp mb me) sz)) 0 0 (va_A (wMd md cI th mK mc mD mr mw my mC mk ms mu mt mp mb me) sz) := by
  refine Met.ofW (cc := cX3_lend) (maxL := 5) (ret := (some .int)) (by decide) rfl ?_
  intro p e s m args below meth c s₁ B hml hv
  obtain ⟨rfl, hsz, hP, hD0, hK⟩ := hv
  have hx := B.exec
  have hb := B.bytes
  have hr := B.returns
  have hts := atoms_spec (ws := wsX3_lend) B.pre
  have hown : s.vm.findClass RX3 = some m.cls := findClass_of_methodNamed B.named
  have hlocks := B.notSynchronized
  subst hsz
  have hD := hD0.self (sz := s.heap.size)
  generalize hAe : va_A (wMd md cI th mK mc mD mr mw my mC mk ms mu mt mp mb me) s.heap.size = A at hD ⊢
  have hA : ∀ q : Nat, s.heap.size ≤ q → A q := fun q h => by rw [← hAe]; exact Or.inr h
  have hinX3 : ∀ w ∈ u_ws RX3 TX3 15, w ∈ wsX3_lend := by decide +kernel
  have hf37 := hts (.fieldLink RX3 37 "KeyCabinetModel" "thrown" "I") (by decide +kernel)
  have hl := lv_entry ([.ref (md 0), .int x, .int pe, .int dz]) (n := 5) (Nat.le_of_ble_eq_true rfl)
  rw [lg_entry_eq]
  generalize (lg_sl ([.ref (md 0), .int x, .int pe, .int dz]) ++ List.replicate (5 - (lg_sl ([.ref (md 0), .int x, .int pe, .int dz])).length) Slot.unset).toArray = ls at hl ⊢
  have hl : lv_has ls 5 [(0, .ref (md 0)), (1, .int x), (2, .int pe), (3, .int dz)] := hl
  refine W.genH (fun H locs eH eL => ?_)
  have hS : va_S A s.heap H locs := by rw [eH, eL]; exact va_S.rf
  have hP : va_P D vwCl (wMd md cI th mK mc mD mr mw my mC mk ms mu mt mp mb me) H := by rw [eH]; exact hP
  clear eH eL
  refine lv_aload_n hx hb dX3_lend_0 rfl (lv_at hl 0 rfl) ?_
  refine lv_iconst (v := 0) hx hb dX3_lend_1 (by decide) ?_
  refine va_put (D := D) (ci := 3) (v := .int 0) (ty := .int) (C := RX3) (T := TX3) (N := 15) hx hb hts hinX3 tyX3 tyX3_ok nmX3 hown hK.1 hP hD hS 0 rfl rfl 0 (by decide) hf37 (fun _ h9 => h9) rfl (by decide +kernel) rfl rfl (Nat.le_of_ble_eq_true rfl) dX3_lend_2 (fun H locs hP hD hS => ?_)
  have hP : va_P D vwCl (wMd md cI 0 mK mc mD mr mw my mC mk ms mu mt mp mb me) H := hP
  have hD : va_D A (wMd md cI 0 mK mc mD mr mw my mC mk ms mu mt mp mb me) := hD
  refine lv_aload_n hx hb dX3_lend_5 rfl (lv_at hl 0 rfl) ?_
  refine lv_iload_n hx hb dX3_lend_6 rfl (lv_at hl 1 rfl) ?_
  refine kc_rVi (As := [.int x]) (rest := []) ⟨hx, hb, hml, hown, hts⟩ (c_X3_isCopy l D md cI 0 mK mc mD mr mw my mC mk ms mu mt mp mb me x ) (cwV 1 hts gX3_lend_X3_isCopy rfl rfl rfl (by decide +kernel) ⟨Nat.le_of_ble_eq_true rfl, Nat.le_of_ble_eq_true rfl⟩) hK hP [0, 1, 2, 3, 4, 5, 6, 7, 8, 9] [0] rfl rfl 0 rfl rfl rfl rfl hl.1 rfl (Nat.le_of_ble_eq_true rfl) dX3_lend_7 ⟨Nat.le_of_ble_eq_true rfl, Nat.le_of_ble_eq_true rfl⟩ ?_
  refine kc_ifeqB (tgt := 20) hx hb dX3_lend_10 (by decide) (fun c_10 => ?_) (fun c_10 => ?_)
  · refine lv_aload_n hx hb dX3_lend_20 rfl (lv_at hl 0 rfl) ?_
    refine lv_iconst (v := 1) hx hb dX3_lend_21 (by decide) ?_
    refine kc_wVi (w1 := wMd md cI 1 mK mc mD mr mw my mC mk ms mu mt mp mb me) (wr := []) (ws1 := wMd md cI 1 mK mc mD mr mw my mC mk ms mu mt mp mb me) (As := [.int 1]) (rest := []) ⟨hx, hb, hml, hown, hts⟩ (c_X3_fail l D md cI 0 mK mc mD mr mw my mC mk ms mu mt mp mb me 1 H.size ) (cwV 1 hts gX3_lend_X3_fail rfl rfl rfl (by decide +kernel) ⟨Nat.le_of_ble_eq_true rfl, Nat.le_of_ble_eq_true rfl⟩) hK hP hD hS hA [0, 1, 2, 3, 4, 5, 6, 7, 8, 9] [] [0, 1, 2, 3, 4, 5, 6, 7, 8, 9] [0] rfl rfl rfl rfl (by decide) rfl rfl rfl 0 rfl rfl rfl rfl hl.1 rfl (Nat.le_of_ble_eq_true rfl) dX3_lend_22 ⟨Nat.le_of_ble_eq_true rfl, Nat.le_of_ble_eq_true rfl⟩ (fun H locs hP hD hS => ?_)
    exact W.iret (v := 0) hx hb hr (fun tZ htZ hWZ => ⟨⟨_, (), rfl, rfl, by rw [htZ]; exact hP, by rw [hAe]; exact hD⟩, hS.F htZ⟩) hS.2.2 dX3_lend_25
  · exact absurd c_10 hBad
set_option maxHeartbeats 4000000 in
set_option maxRecDepth 100000 in
theorem c_X3_copy_f1 (l : Launch) (D : va_G) (md : Nat → Nat) (cI : ClassId) (th : Int32) (mK : Nat) (mc : Nat → Int32) (mD : Nat) (mr : Nat → Int32) (mw : Int32) (my : Int32) (mC : Nat) (mk : Nat → Int32) (ms : Nat → Int32) (mu : Nat → Int32) (mt : Nat → Int32) (mp : Nat → Int32) (mb : Nat → Int32) (me : Nat → Int32) (x : Int32) (wh : Int32) (sz : Nat) (hBad : ¬ jIn mC x = true) : Met l yX3_copy wsX3_copy ({ frames := 1, cells := 0, slots := 0, locals := 21 } : Room) (wrP [.ref (md 0), .int x, .int wh] D sz (wMd md cI th mK mc mD mr mw my mC mk ms mu mt mp mb me) [(cI, .int)]) (va_Qi (fun rZ (_ : Unit) => rZ = 0) (wrB D sz (wMd md cI th mK mc mD mr mw my mC mk ms mu mt mp mb me) (wMd md cI 1 mK mc mD mr mw my mC mk ms mu mt mp mb me)) (va_A (wMd md cI th mK mc mD mr mw my mC mk ms mu mt mp mb me) sz)) 0 0 (va_A (wMd md cI th mK mc mD mr mw my mC mk ms mu mt mp mb me) sz) := by
  refine Met.ofW (cc := cX3_copy) (maxL := 3) (ret := (some .int)) (by decide) rfl ?_
  intro p e s m args below meth c s₁ B hml hv
  obtain ⟨rfl, hsz, hP, hD0, hK⟩ := hv
  have hx := B.exec
  have hb := B.bytes
  have hr := B.returns
  have hts := atoms_spec (ws := wsX3_copy) B.pre
  have hown : s.vm.findClass RX3 = some m.cls := findClass_of_methodNamed B.named
  have hlocks := B.notSynchronized
  subst hsz
  have hD := hD0.self (sz := s.heap.size)
  generalize hAe : va_A (wMd md cI th mK mc mD mr mw my mC mk ms mu mt mp mb me) s.heap.size = A at hD ⊢
  have hA : ∀ q : Nat, s.heap.size ≤ q → A q := fun q h => by rw [← hAe]; exact Or.inr h
  have hinX3 : ∀ w ∈ u_ws RX3 TX3 15, w ∈ wsX3_copy := by decide +kernel
  have hf37 := hts (.fieldLink RX3 37 "KeyCabinetModel" "thrown" "I") (by decide +kernel)
  have hl := lv_entry ([.ref (md 0), .int x, .int wh]) (n := 3) (Nat.le_of_ble_eq_true rfl)
  rw [lg_entry_eq]
  generalize (lg_sl ([.ref (md 0), .int x, .int wh]) ++ List.replicate (3 - (lg_sl ([.ref (md 0), .int x, .int wh])).length) Slot.unset).toArray = ls at hl ⊢
  have hl : lv_has ls 3 [(0, .ref (md 0)), (1, .int x), (2, .int wh)] := hl
  refine W.genH (fun H locs eH eL => ?_)
  have hS : va_S A s.heap H locs := by rw [eH, eL]; exact va_S.rf
  have hP : va_P D vwCl (wMd md cI th mK mc mD mr mw my mC mk ms mu mt mp mb me) H := by rw [eH]; exact hP
  clear eH eL
  refine lv_aload_n hx hb dX3_copy_0 rfl (lv_at hl 0 rfl) ?_
  refine lv_iconst (v := 0) hx hb dX3_copy_1 (by decide) ?_
  refine va_put (D := D) (ci := 3) (v := .int 0) (ty := .int) (C := RX3) (T := TX3) (N := 15) hx hb hts hinX3 tyX3 tyX3_ok nmX3 hown hK.1 hP hD hS 0 rfl rfl 0 (by decide) hf37 (fun _ h9 => h9) rfl (by decide +kernel) rfl rfl (Nat.le_of_ble_eq_true rfl) dX3_copy_2 (fun H locs hP hD hS => ?_)
  have hP : va_P D vwCl (wMd md cI 0 mK mc mD mr mw my mC mk ms mu mt mp mb me) H := hP
  have hD : va_D A (wMd md cI 0 mK mc mD mr mw my mC mk ms mu mt mp mb me) := hD
  refine lv_aload_n hx hb dX3_copy_5 rfl (lv_at hl 0 rfl) ?_
  refine lv_iload_n hx hb dX3_copy_6 rfl (lv_at hl 1 rfl) ?_
  refine kc_rVi (As := [.int x]) (rest := []) ⟨hx, hb, hml, hown, hts⟩ (c_X3_isCopy l D md cI 0 mK mc mD mr mw my mC mk ms mu mt mp mb me x ) (cwV 1 hts gX3_copy_X3_isCopy rfl rfl rfl (by decide +kernel) ⟨Nat.le_of_ble_eq_true rfl, Nat.le_of_ble_eq_true rfl⟩) hK hP [0, 1, 2, 3, 4, 5, 6, 7, 8, 9] [0] rfl rfl 0 rfl rfl rfl rfl hl.1 rfl (Nat.le_of_ble_eq_true rfl) dX3_copy_7 ⟨Nat.le_of_ble_eq_true rfl, Nat.le_of_ble_eq_true rfl⟩ ?_
  refine kc_ifeqB (tgt := 31) hx hb dX3_copy_10 (by decide) (fun c_10 => ?_) (fun c_10 => ?_)
  · refine lv_aload_n hx hb dX3_copy_31 rfl (lv_at hl 0 rfl) ?_
    refine lv_iconst (v := 1) hx hb dX3_copy_32 (by decide) ?_
    refine kc_wVi (w1 := wMd md cI 1 mK mc mD mr mw my mC mk ms mu mt mp mb me) (wr := []) (ws1 := wMd md cI 1 mK mc mD mr mw my mC mk ms mu mt mp mb me) (As := [.int 1]) (rest := []) ⟨hx, hb, hml, hown, hts⟩ (c_X3_fail l D md cI 0 mK mc mD mr mw my mC mk ms mu mt mp mb me 1 H.size ) (cwV 1 hts gX3_copy_X3_fail rfl rfl rfl (by decide +kernel) ⟨Nat.le_of_ble_eq_true rfl, Nat.le_of_ble_eq_true rfl⟩) hK hP hD hS hA [0, 1, 2, 3, 4, 5, 6, 7, 8, 9] [] [0, 1, 2, 3, 4, 5, 6, 7, 8, 9] [0] rfl rfl rfl rfl (by decide) rfl rfl rfl 0 rfl rfl rfl rfl hl.1 rfl (Nat.le_of_ble_eq_true rfl) dX3_copy_33 ⟨Nat.le_of_ble_eq_true rfl, Nat.le_of_ble_eq_true rfl⟩ (fun H locs hP hD hS => ?_)
    exact W.iret (v := 0) hx hb hr (fun tZ htZ hWZ => ⟨⟨_, (), rfl, rfl, by rw [htZ]; exact hP, by rw [hAe]; exact hD⟩, hS.F htZ⟩) hS.2.2 dX3_copy_36
  · exact absurd c_10 hBad
set_option maxHeartbeats 4000000 in
set_option maxRecDepth 100000 in
theorem c_X3_holderAt_f1 (l : Launch) (D : va_G) (md : Nat → Nat) (cI : ClassId) (th : Int32) (mK : Nat) (mc : Nat → Int32) (mD : Nat) (mr : Nat → Int32) (mw : Int32) (my : Int32) (mC : Nat) (mk : Nat → Int32) (ms : Nat → Int32) (mu : Nat → Int32) (mt : Nat → Int32) (mp : Nat → Int32) (mb : Nat → Int32) (me : Nat → Int32) (x : Int32) (dy : Int32) (sz : Nat) (hBad : ¬ jIn mC x = true) : Met l yX3_holderAt wsX3_holderAt ({ frames := 1, cells := 0, slots := 0, locals := 21 } : Room) (wrP [.ref (md 0), .int x, .int dy] D sz (wMd md cI th mK mc mD mr mw my mC mk ms mu mt mp mb me) [(cI, .int)]) (va_Qi (fun rZ (_ : Unit) => rZ = 0) (wrB D sz (wMd md cI th mK mc mD mr mw my mC mk ms mu mt mp mb me) (wMd md cI 1 mK mc mD mr mw my mC mk ms mu mt mp mb me)) (va_A (wMd md cI th mK mc mD mr mw my mC mk ms mu mt mp mb me) sz)) 0 0 (va_A (wMd md cI th mK mc mD mr mw my mC mk ms mu mt mp mb me) sz) := by
  refine Met.ofW (cc := cX3_holderAt) (maxL := 6) (ret := (some .int)) (by decide) rfl ?_
  intro p e s m args below meth c s₁ B hml hv
  obtain ⟨rfl, hsz, hP, hD0, hK⟩ := hv
  have hx := B.exec
  have hb := B.bytes
  have hr := B.returns
  have hts := atoms_spec (ws := wsX3_holderAt) B.pre
  have hown : s.vm.findClass RX3 = some m.cls := findClass_of_methodNamed B.named
  have hlocks := B.notSynchronized
  subst hsz
  have hD := hD0.self (sz := s.heap.size)
  generalize hAe : va_A (wMd md cI th mK mc mD mr mw my mC mk ms mu mt mp mb me) s.heap.size = A at hD ⊢
  have hA : ∀ q : Nat, s.heap.size ≤ q → A q := fun q h => by rw [← hAe]; exact Or.inr h
  have hinX3 : ∀ w ∈ u_ws RX3 TX3 15, w ∈ wsX3_holderAt := by decide +kernel
  have hf37 := hts (.fieldLink RX3 37 "KeyCabinetModel" "thrown" "I") (by decide +kernel)
  have hl := lv_entry ([.ref (md 0), .int x, .int dy]) (n := 6) (Nat.le_of_ble_eq_true rfl)
  rw [lg_entry_eq]
  generalize (lg_sl ([.ref (md 0), .int x, .int dy]) ++ List.replicate (6 - (lg_sl ([.ref (md 0), .int x, .int dy])).length) Slot.unset).toArray = ls at hl ⊢
  have hl : lv_has ls 6 [(0, .ref (md 0)), (1, .int x), (2, .int dy)] := hl
  refine W.genH (fun H locs eH eL => ?_)
  have hS : va_S A s.heap H locs := by rw [eH, eL]; exact va_S.rf
  have hP : va_P D vwCl (wMd md cI th mK mc mD mr mw my mC mk ms mu mt mp mb me) H := by rw [eH]; exact hP
  clear eH eL
  refine lv_aload_n hx hb dX3_holderAt_0 rfl (lv_at hl 0 rfl) ?_
  refine lv_iconst (v := 0) hx hb dX3_holderAt_1 (by decide) ?_
  refine va_put (D := D) (ci := 3) (v := .int 0) (ty := .int) (C := RX3) (T := TX3) (N := 15) hx hb hts hinX3 tyX3 tyX3_ok nmX3 hown hK.1 hP hD hS 0 rfl rfl 0 (by decide) hf37 (fun _ h9 => h9) rfl (by decide +kernel) rfl rfl (Nat.le_of_ble_eq_true rfl) dX3_holderAt_2 (fun H locs hP hD hS => ?_)
  have hP : va_P D vwCl (wMd md cI 0 mK mc mD mr mw my mC mk ms mu mt mp mb me) H := hP
  have hD : va_D A (wMd md cI 0 mK mc mD mr mw my mC mk ms mu mt mp mb me) := hD
  refine lv_aload_n hx hb dX3_holderAt_5 rfl (lv_at hl 0 rfl) ?_
  refine lv_iload_n hx hb dX3_holderAt_6 rfl (lv_at hl 1 rfl) ?_
  refine kc_rVi (As := [.int x]) (rest := []) ⟨hx, hb, hml, hown, hts⟩ (c_X3_isCopy l D md cI 0 mK mc mD mr mw my mC mk ms mu mt mp mb me x ) (cwV 1 hts gX3_holderAt_X3_isCopy rfl rfl rfl (by decide +kernel) ⟨Nat.le_of_ble_eq_true rfl, Nat.le_of_ble_eq_true rfl⟩) hK hP [0, 1, 2, 3, 4, 5, 6, 7, 8, 9] [0] rfl rfl 0 rfl rfl rfl rfl hl.1 rfl (Nat.le_of_ble_eq_true rfl) dX3_holderAt_7 ⟨Nat.le_of_ble_eq_true rfl, Nat.le_of_ble_eq_true rfl⟩ ?_
  refine kc_ifneB (tgt := 19) hx hb dX3_holderAt_10 (by decide) (fun c_10 => ?_) (fun c_10 => ?_)
  · exact absurd c_10 hBad
  · refine lv_aload_n hx hb dX3_holderAt_13 rfl (lv_at hl 0 rfl) ?_
    refine lv_iconst (v := 1) hx hb dX3_holderAt_14 (by decide) ?_
    refine kc_wVi (w1 := wMd md cI 1 mK mc mD mr mw my mC mk ms mu mt mp mb me) (wr := []) (ws1 := wMd md cI 1 mK mc mD mr mw my mC mk ms mu mt mp mb me) (As := [.int 1]) (rest := []) ⟨hx, hb, hml, hown, hts⟩ (c_X3_fail l D md cI 0 mK mc mD mr mw my mC mk ms mu mt mp mb me 1 H.size ) (cwV 1 hts gX3_holderAt_X3_fail rfl rfl rfl (by decide +kernel) ⟨Nat.le_of_ble_eq_true rfl, Nat.le_of_ble_eq_true rfl⟩) hK hP hD hS hA [0, 1, 2, 3, 4, 5, 6, 7, 8, 9] [] [0, 1, 2, 3, 4, 5, 6, 7, 8, 9] [0] rfl rfl rfl rfl (by decide) rfl rfl rfl 0 rfl rfl rfl rfl hl.1 rfl (Nat.le_of_ble_eq_true rfl) dX3_holderAt_15 ⟨Nat.le_of_ble_eq_true rfl, Nat.le_of_ble_eq_true rfl⟩ (fun H locs hP hD hS => ?_)
    exact W.iret (v := 0) hx hb hr (fun tZ htZ hWZ => ⟨⟨_, (), rfl, rfl, by rw [htZ]; exact hP, by rw [hAe]; exact hD⟩, hS.F htZ⟩) hS.2.2 dX3_holderAt_18
set_option maxHeartbeats 4000000 in
set_option maxRecDepth 100000 in
theorem c_X3_reach_f1 (l : Launch) (D : va_G) (md : Nat → Nat) (cI : ClassId) (th : Int32) (mK : Nat) (mc : Nat → Int32) (mD : Nat) (mr : Nat → Int32) (mw : Int32) (my : Int32) (mC : Nat) (mk : Nat → Int32) (ms : Nat → Int32) (mu : Nat → Int32) (mt : Nat → Int32) (mp : Nat → Int32) (mb : Nat → Int32) (me : Nat → Int32) (pe : Int32) (sz : Nat) (hBad : ¬ jIn 8 pe = true) : Met l yX3_reach wsX3_reach ({ frames := 1, cells := 0, slots := 0, locals := 21 } : Room) (wrP [.ref (md 0), .int pe] D sz (wMd md cI th mK mc mD mr mw my mC mk ms mu mt mp mb me) [(cI, .int)]) (va_Qi (fun rZ (_ : Unit) => rZ = 0) (wrB D sz (wMd md cI th mK mc mD mr mw my mC mk ms mu mt mp mb me) (wMd md cI 1 mK mc mD mr mw my mC mk ms mu mt mp mb me)) (va_A (wMd md cI th mK mc mD mr mw my mC mk ms mu mt mp mb me) sz)) 0 0 (va_A (wMd md cI th mK mc mD mr mw my mC mk ms mu mt mp mb me) sz) := by
  refine Met.ofW (cc := cX3_reach) (maxL := 2) (ret := (some .int)) (by decide) rfl ?_
  intro p e s m args below meth c s₁ B hml hv
  obtain ⟨rfl, hsz, hP, hD0, hK⟩ := hv
  have hx := B.exec
  have hb := B.bytes
  have hr := B.returns
  have hts := atoms_spec (ws := wsX3_reach) B.pre
  have hown : s.vm.findClass RX3 = some m.cls := findClass_of_methodNamed B.named
  have hlocks := B.notSynchronized
  subst hsz
  have hD := hD0.self (sz := s.heap.size)
  generalize hAe : va_A (wMd md cI th mK mc mD mr mw my mC mk ms mu mt mp mb me) s.heap.size = A at hD ⊢
  have hA : ∀ q : Nat, s.heap.size ≤ q → A q := fun q h => by rw [← hAe]; exact Or.inr h
  have hinX3 : ∀ w ∈ u_ws RX3 TX3 15, w ∈ wsX3_reach := by decide +kernel
  have hf37 := hts (.fieldLink RX3 37 "KeyCabinetModel" "thrown" "I") (by decide +kernel)
  have hl := lv_entry ([.ref (md 0), .int pe]) (n := 2) (Nat.le_of_ble_eq_true rfl)
  rw [lg_entry_eq]
  generalize (lg_sl ([.ref (md 0), .int pe]) ++ List.replicate (2 - (lg_sl ([.ref (md 0), .int pe])).length) Slot.unset).toArray = ls at hl ⊢
  have hl : lv_has ls 2 [(0, .ref (md 0)), (1, .int pe)] := hl
  refine W.genH (fun H locs eH eL => ?_)
  have hS : va_S A s.heap H locs := by rw [eH, eL]; exact va_S.rf
  have hP : va_P D vwCl (wMd md cI th mK mc mD mr mw my mC mk ms mu mt mp mb me) H := by rw [eH]; exact hP
  clear eH eL
  refine lv_aload_n hx hb dX3_reach_0 rfl (lv_at hl 0 rfl) ?_
  refine lv_iconst (v := 0) hx hb dX3_reach_1 (by decide) ?_
  refine va_put (D := D) (ci := 3) (v := .int 0) (ty := .int) (C := RX3) (T := TX3) (N := 15) hx hb hts hinX3 tyX3 tyX3_ok nmX3 hown hK.1 hP hD hS 0 rfl rfl 0 (by decide) hf37 (fun _ h9 => h9) rfl (by decide +kernel) rfl rfl (Nat.le_of_ble_eq_true rfl) dX3_reach_2 (fun H locs hP hD hS => ?_)
  have hP : va_P D vwCl (wMd md cI 0 mK mc mD mr mw my mC mk ms mu mt mp mb me) H := hP
  have hD : va_D A (wMd md cI 0 mK mc mD mr mw my mC mk ms mu mt mp mb me) := hD
  refine lv_iload_n hx hb dX3_reach_5 rfl (lv_at hl 1 rfl) ?_
  refine kc_rSi (As := [.int pe]) (rest := []) ⟨hx, hb, hml, hown, hts⟩ (c_X3_isPerson l pe ) (va_cwS 1 hts gX3_reach_X3_isPerson rfl rfl rfl (by decide +kernel) ⟨Nat.le_of_ble_eq_true rfl, Nat.le_of_ble_eq_true rfl⟩) rfl hl.1 rfl (Nat.le_of_ble_eq_true rfl) dX3_reach_6 ⟨Nat.le_of_ble_eq_true rfl, Nat.le_of_ble_eq_true rfl⟩ ?_
  refine kc_ifeqB (tgt := 20) hx hb dX3_reach_9 (by decide) (fun c_9 => ?_) (fun c_9 => ?_)
  · refine lv_aload_n hx hb dX3_reach_20 rfl (lv_at hl 0 rfl) ?_
    refine lv_iconst (v := 1) hx hb dX3_reach_21 (by decide) ?_
    refine kc_wVi (w1 := wMd md cI 1 mK mc mD mr mw my mC mk ms mu mt mp mb me) (wr := []) (ws1 := wMd md cI 1 mK mc mD mr mw my mC mk ms mu mt mp mb me) (As := [.int 1]) (rest := []) ⟨hx, hb, hml, hown, hts⟩ (c_X3_fail l D md cI 0 mK mc mD mr mw my mC mk ms mu mt mp mb me 1 H.size ) (cwV 1 hts gX3_reach_X3_fail rfl rfl rfl (by decide +kernel) ⟨Nat.le_of_ble_eq_true rfl, Nat.le_of_ble_eq_true rfl⟩) hK hP hD hS hA [0, 1, 2, 3, 4, 5, 6, 7, 8, 9] [] [0, 1, 2, 3, 4, 5, 6, 7, 8, 9] [0] rfl rfl rfl rfl (by decide) rfl rfl rfl 0 rfl rfl rfl rfl hl.1 rfl (Nat.le_of_ble_eq_true rfl) dX3_reach_22 ⟨Nat.le_of_ble_eq_true rfl, Nat.le_of_ble_eq_true rfl⟩ (fun H locs hP hD hS => ?_)
    exact W.iret (v := 0) hx hb hr (fun tZ htZ hWZ => ⟨⟨_, (), rfl, rfl, by rw [htZ]; exact hP, by rw [hAe]; exact hD⟩, hS.F htZ⟩) hS.2.2 dX3_reach_25
  · exact absurd c_9 hBad
set_option maxHeartbeats 4000000 in
set_option maxRecDepth 100000 in
theorem c_X3_suggest_f1 (l : Launch) (D : va_G) (md : Nat → Nat) (cI : ClassId) (th : Int32) (mK : Nat) (mc : Nat → Int32) (mD : Nat) (mr : Nat → Int32) (mw : Int32) (my : Int32) (mC : Nat) (mk : Nat → Int32) (ms : Nat → Int32) (mu : Nat → Int32) (mt : Nat → Int32) (mp : Nat → Int32) (mb : Nat → Int32) (me : Nat → Int32) (pe : Int32) (wa : Int32) (sz : Nat) (hBad : ¬ jIn 8 pe = true) : Met l yX3_suggest wsX3_suggest ({ frames := 1, cells := 0, slots := 0, locals := 21 } : Room) (wrP [.ref (md 0), .int pe, .int wa] D sz (wMd md cI th mK mc mD mr mw my mC mk ms mu mt mp mb me) [(cI, .int)]) (va_Qi (fun rZ (_ : Unit) => rZ = 0) (wrB D sz (wMd md cI th mK mc mD mr mw my mC mk ms mu mt mp mb me) (wMd md cI 1 mK mc mD mr mw my mC mk ms mu mt mp mb me)) (va_A (wMd md cI th mK mc mD mr mw my mC mk ms mu mt mp mb me) sz)) 0 0 (va_A (wMd md cI th mK mc mD mr mw my mC mk ms mu mt mp mb me) sz) := by
  refine Met.ofW (cc := cX3_suggest) (maxL := 13) (ret := (some .int)) (by decide) rfl ?_
  intro p e s m args below meth c s₁ B hml hv
  obtain ⟨rfl, hsz, hP, hD0, hK⟩ := hv
  have hx := B.exec
  have hb := B.bytes
  have hr := B.returns
  have hts := atoms_spec (ws := wsX3_suggest) B.pre
  have hown : s.vm.findClass RX3 = some m.cls := findClass_of_methodNamed B.named
  have hlocks := B.notSynchronized
  subst hsz
  have hD := hD0.self (sz := s.heap.size)
  generalize hAe : va_A (wMd md cI th mK mc mD mr mw my mC mk ms mu mt mp mb me) s.heap.size = A at hD ⊢
  have hA : ∀ q : Nat, s.heap.size ≤ q → A q := fun q h => by rw [← hAe]; exact Or.inr h
  have hinX3 : ∀ w ∈ u_ws RX3 TX3 15, w ∈ wsX3_suggest := by decide +kernel
  have hf37 := hts (.fieldLink RX3 37 "KeyCabinetModel" "thrown" "I") (by decide +kernel)
  have hl := lv_entry ([.ref (md 0), .int pe, .int wa]) (n := 13) (Nat.le_of_ble_eq_true rfl)
  rw [lg_entry_eq]
  generalize (lg_sl ([.ref (md 0), .int pe, .int wa]) ++ List.replicate (13 - (lg_sl ([.ref (md 0), .int pe, .int wa])).length) Slot.unset).toArray = ls at hl ⊢
  have hl : lv_has ls 13 [(0, .ref (md 0)), (1, .int pe), (2, .int wa)] := hl
  refine W.genH (fun H locs eH eL => ?_)
  have hS : va_S A s.heap H locs := by rw [eH, eL]; exact va_S.rf
  have hP : va_P D vwCl (wMd md cI th mK mc mD mr mw my mC mk ms mu mt mp mb me) H := by rw [eH]; exact hP
  clear eH eL
  refine lv_aload_n hx hb dX3_suggest_0 rfl (lv_at hl 0 rfl) ?_
  refine lv_iconst (v := 0) hx hb dX3_suggest_1 (by decide) ?_
  refine va_put (D := D) (ci := 3) (v := .int 0) (ty := .int) (C := RX3) (T := TX3) (N := 15) hx hb hts hinX3 tyX3 tyX3_ok nmX3 hown hK.1 hP hD hS 0 rfl rfl 0 (by decide) hf37 (fun _ h9 => h9) rfl (by decide +kernel) rfl rfl (Nat.le_of_ble_eq_true rfl) dX3_suggest_2 (fun H locs hP hD hS => ?_)
  have hP : va_P D vwCl (wMd md cI 0 mK mc mD mr mw my mC mk ms mu mt mp mb me) H := hP
  have hD : va_D A (wMd md cI 0 mK mc mD mr mw my mC mk ms mu mt mp mb me) := hD
  refine lv_iload_n hx hb dX3_suggest_5 rfl (lv_at hl 1 rfl) ?_
  refine kc_rSi (As := [.int pe]) (rest := []) ⟨hx, hb, hml, hown, hts⟩ (c_X3_isPerson l pe ) (va_cwS 1 hts gX3_suggest_X3_isPerson rfl rfl rfl (by decide +kernel) ⟨Nat.le_of_ble_eq_true rfl, Nat.le_of_ble_eq_true rfl⟩) rfl hl.1 rfl (Nat.le_of_ble_eq_true rfl) dX3_suggest_6 ⟨Nat.le_of_ble_eq_true rfl, Nat.le_of_ble_eq_true rfl⟩ ?_
  refine kc_ifneB (tgt := 18) hx hb dX3_suggest_9 (by decide) (fun c_9 => ?_) (fun c_9 => ?_)
  · exact absurd c_9 hBad
  · refine lv_aload_n hx hb dX3_suggest_12 rfl (lv_at hl 0 rfl) ?_
    refine lv_iconst (v := 1) hx hb dX3_suggest_13 (by decide) ?_
    refine kc_wVi (w1 := wMd md cI 1 mK mc mD mr mw my mC mk ms mu mt mp mb me) (wr := []) (ws1 := wMd md cI 1 mK mc mD mr mw my mC mk ms mu mt mp mb me) (As := [.int 1]) (rest := []) ⟨hx, hb, hml, hown, hts⟩ (c_X3_fail l D md cI 0 mK mc mD mr mw my mC mk ms mu mt mp mb me 1 H.size ) (cwV 1 hts gX3_suggest_X3_fail rfl rfl rfl (by decide +kernel) ⟨Nat.le_of_ble_eq_true rfl, Nat.le_of_ble_eq_true rfl⟩) hK hP hD hS hA [0, 1, 2, 3, 4, 5, 6, 7, 8, 9] [] [0, 1, 2, 3, 4, 5, 6, 7, 8, 9] [0] rfl rfl rfl rfl (by decide) rfl rfl rfl 0 rfl rfl rfl rfl hl.1 rfl (Nat.le_of_ble_eq_true rfl) dX3_suggest_14 ⟨Nat.le_of_ble_eq_true rfl, Nat.le_of_ble_eq_true rfl⟩ (fun H locs hP hD hS => ?_)
    exact W.iret (v := 0) hx hb hr (fun tZ htZ hWZ => ⟨⟨_, (), rfl, rfl, by rw [htZ]; exact hP, by rw [hAe]; exact hD⟩, hS.F htZ⟩) hS.2.2 dX3_suggest_17
set_option maxHeartbeats 4000000 in
set_option maxRecDepth 100000 in
theorem c_X3_code_ok (l : Launch) (D : va_G) (md : Nat → Nat) (cI : ClassId) (th : Int32) (mK : Nat) (mc : Nat → Int32) (mD : Nat) (mr : Nat → Int32) (mw : Int32) (my : Int32) (mC : Nat) (mk : Nat → Int32) (ms : Nat → Int32) (mu : Nat → Int32) (mt : Nat → Int32) (mp : Nat → Int32) (mb : Nat → Int32) (me : Nat → Int32) (k : Nat) (sz : Nat) (hK8 : mK ≤ 8) (hk : k < mK) : Met l yX3_code wsX3_code ({ frames := 1, cells := 0, slots := 0, locals := 21 } : Room) (wrP [.ref (md 0), .int (nI k)] D sz (wMd md cI th mK mc mD mr mw my mC mk ms mu mt mp mb me) [(cI, .int)]) (va_Qi (fun rZ (_ : Unit) => rZ = mc k) (wrB D sz (wMd md cI th mK mc mD mr mw my mC mk ms mu mt mp mb me) (wMd md cI 0 mK mc mD mr mw my mC mk ms mu mt mp mb me)) (va_A (wMd md cI th mK mc mD mr mw my mC mk ms mu mt mp mb me) sz)) 0 0 (va_A (wMd md cI th mK mc mD mr mw my mC mk ms mu mt mp mb me) sz) := by
  refine Met.ofW (cc := cX3_code) (maxL := 2) (ret := (some .int)) (by decide) rfl ?_
  intro p e s m args below meth c s₁ B hml hv
  obtain ⟨rfl, hsz, hP, hD0, hK⟩ := hv
  have hx := B.exec
  have hb := B.bytes
  have hr := B.returns
  have hts := atoms_spec (ws := wsX3_code) B.pre
  have hown : s.vm.findClass RX3 = some m.cls := findClass_of_methodNamed B.named
  have hlocks := B.notSynchronized
  subst hsz
  have hD := hD0.self (sz := s.heap.size)
  generalize hAe : va_A (wMd md cI th mK mc mD mr mw my mC mk ms mu mt mp mb me) s.heap.size = A at hD ⊢
  have hA : ∀ q : Nat, s.heap.size ≤ q → A q := fun q h => by rw [← hAe]; exact Or.inr h
  have hinX3 : ∀ w ∈ u_ws RX3 TX3 15, w ∈ wsX3_code := by decide +kernel
  have hf37 := hts (.fieldLink RX3 37 "KeyCabinetModel" "thrown" "I") (by decide +kernel)
  have hf9 := hts (.fieldLink RX3 9 "KeyCabinetModel" "codes" "[I") (by decide +kernel)
  have hl := lv_entry ([.ref (md 0), .int (nI k)]) (n := 2) (Nat.le_of_ble_eq_true rfl)
  rw [lg_entry_eq]
  generalize (lg_sl ([.ref (md 0), .int (nI k)]) ++ List.replicate (2 - (lg_sl ([.ref (md 0), .int (nI k)])).length) Slot.unset).toArray = ls at hl ⊢
  have hl : lv_has ls 2 [(0, .ref (md 0)), (1, .int (nI k))] := hl
  refine W.genH (fun H locs eH eL => ?_)
  have hS : va_S A s.heap H locs := by rw [eH, eL]; exact va_S.rf
  have hP : va_P D vwCl (wMd md cI th mK mc mD mr mw my mC mk ms mu mt mp mb me) H := by rw [eH]; exact hP
  clear eH eL
  refine lv_aload_n hx hb dX3_code_0 rfl (lv_at hl 0 rfl) ?_
  refine lv_iconst (v := 0) hx hb dX3_code_1 (by decide) ?_
  refine va_put (D := D) (ci := 3) (v := .int 0) (ty := .int) (C := RX3) (T := TX3) (N := 15) hx hb hts hinX3 tyX3 tyX3_ok nmX3 hown hK.1 hP hD hS 0 rfl rfl 0 (by decide) hf37 (fun _ h9 => h9) rfl (by decide +kernel) rfl rfl (Nat.le_of_ble_eq_true rfl) dX3_code_2 (fun H locs hP hD hS => ?_)
  have hP : va_P D vwCl (wMd md cI 0 mK mc mD mr mw my mC mk ms mu mt mp mb me) H := hP
  have hD : va_D A (wMd md cI 0 mK mc mD mr mw my mC mk ms mu mt mp mb me) := hD
  refine lv_aload_n hx hb dX3_code_5 rfl (lv_at hl 0 rfl) ?_
  refine lv_iload_n hx hb dX3_code_6 rfl (lv_at hl 1 rfl) ?_
  refine kc_rVi (As := [.int (nI k)]) (rest := []) ⟨hx, hb, hml, hown, hts⟩ (c_X3_isKey l D md cI 0 mK mc mD mr mw my mC mk ms mu mt mp mb me (nI k) ) (cwV 1 hts gX3_code_X3_isKey rfl rfl rfl (by decide +kernel) ⟨Nat.le_of_ble_eq_true rfl, Nat.le_of_ble_eq_true rfl⟩) hK hP [0, 1, 2, 3, 4, 5, 6, 7, 8, 9] [0] rfl rfl 0 rfl rfl rfl rfl hl.1 rfl (Nat.le_of_ble_eq_true rfl) dX3_code_7 ⟨Nat.le_of_ble_eq_true rfl, Nat.le_of_ble_eq_true rfl⟩ ?_
  refine kc_ifeqB (tgt := 22) hx hb dX3_code_10 (by decide) (fun c_10 => ?_) (fun c_10 => ?_)
  · exact absurd (jIn_ok hk (by omega)) c_10
  · refine lv_aload_n hx hb dX3_code_13 rfl (lv_at hl 0 rfl) ?_
    refine va_get (D := D) (ci := 3) (v := .ref (md 1)) (C := RX3) (T := TX3) (N := 15) hx hb hts hinX3 hown hK.1 hP 0 rfl rfl 2 (by decide) hf9 (fun _ h9 => h9) rfl dX3_code_14 ?_
    refine lv_iload_n hx hb dX3_code_17 rfl (lv_at hl 1 rfl) ?_
    refine kc_ald (i := k) (n := 8) hx hb hK hP 1 0 rfl rfl (by omega) (by decide) dX3_code_18 ?_
    refine lv_goto (tgt := 27) hx hb dX3_code_19 (by decide) ?_
    exact W.iret (v := mc k) hx hb hr (fun tZ htZ hWZ => ⟨⟨_, (), rfl, rfl, by rw [htZ]; exact hP, by rw [hAe]; exact hD⟩, hS.F htZ⟩) hS.2.2 dX3_code_27
set_option maxHeartbeats 4000000 in
set_option maxRecDepth 100000 in
theorem c_X3_doors_ok (l : Launch) (D : va_G) (md : Nat → Nat) (cI : ClassId) (th : Int32) (mK : Nat) (mc : Nat → Int32) (mD : Nat) (mr : Nat → Int32) (mw : Int32) (my : Int32) (mC : Nat) (mk : Nat → Int32) (ms : Nat → Int32) (mu : Nat → Int32) (mt : Nat → Int32) (mp : Nat → Int32) (mb : Nat → Int32) (me : Nat → Int32) (k : Nat) (sz : Nat) (hK8 : mK ≤ 8) (hD8 : mD ≤ 8) (hk : k < mK) : Met l yX3_doors wsX3_doors ({ frames := 4, cells := 0, slots := 0, locals := 92 } : Room) (wrP [.ref (md 0), .int (nI k)] D sz (wMd md cI th mK mc mD mr mw my mC mk ms mu mt mp mb me) [(cI, .int)]) (va_Qi (fun rZ (_ : Unit) => rZ = mDoors mr mc mK (mc k) mD) (wrB D sz (wMd md cI th mK mc mD mr mw my mC mk ms mu mt mp mb me) (wMd md cI 0 mK mc mD mr mw my mC mk ms mu mt mp mb me)) (va_A (wMd md cI th mK mc mD mr mw my mC mk ms mu mt mp mb me) sz)) 0 0 (va_A (wMd md cI th mK mc mD mr mw my mC mk ms mu mt mp mb me) sz) := by
  refine Met.ofW (cc := cX3_doors) (maxL := 2) (ret := (some .int)) (by decide) rfl ?_
  intro p e s m args below meth c s₁ B hml hv
  obtain ⟨rfl, hsz, hP, hD0, hK⟩ := hv
  have hx := B.exec
  have hb := B.bytes
  have hr := B.returns
  have hts := atoms_spec (ws := wsX3_doors) B.pre
  have hown : s.vm.findClass RX3 = some m.cls := findClass_of_methodNamed B.named
  have hlocks := B.notSynchronized
  subst hsz
  have hD := hD0.self (sz := s.heap.size)
  generalize hAe : va_A (wMd md cI th mK mc mD mr mw my mC mk ms mu mt mp mb me) s.heap.size = A at hD ⊢
  have hA : ∀ q : Nat, s.heap.size ≤ q → A q := fun q h => by rw [← hAe]; exact Or.inr h
  have hinX3 : ∀ w ∈ u_ws RX3 TX3 15, w ∈ wsX3_doors := by decide +kernel
  have hf37 := hts (.fieldLink RX3 37 "KeyCabinetModel" "thrown" "I") (by decide +kernel)
  have hf9 := hts (.fieldLink RX3 9 "KeyCabinetModel" "codes" "[I") (by decide +kernel)
  have hl := lv_entry ([.ref (md 0), .int (nI k)]) (n := 2) (Nat.le_of_ble_eq_true rfl)
  rw [lg_entry_eq]
  generalize (lg_sl ([.ref (md 0), .int (nI k)]) ++ List.replicate (2 - (lg_sl ([.ref (md 0), .int (nI k)])).length) Slot.unset).toArray = ls at hl ⊢
  have hl : lv_has ls 2 [(0, .ref (md 0)), (1, .int (nI k))] := hl
  refine W.genH (fun H locs eH eL => ?_)
  have hS : va_S A s.heap H locs := by rw [eH, eL]; exact va_S.rf
  have hP : va_P D vwCl (wMd md cI th mK mc mD mr mw my mC mk ms mu mt mp mb me) H := by rw [eH]; exact hP
  clear eH eL
  refine lv_aload_n hx hb dX3_doors_0 rfl (lv_at hl 0 rfl) ?_
  refine lv_iconst (v := 0) hx hb dX3_doors_1 (by decide) ?_
  refine va_put (D := D) (ci := 3) (v := .int 0) (ty := .int) (C := RX3) (T := TX3) (N := 15) hx hb hts hinX3 tyX3 tyX3_ok nmX3 hown hK.1 hP hD hS 0 rfl rfl 0 (by decide) hf37 (fun _ h9 => h9) rfl (by decide +kernel) rfl rfl (Nat.le_of_ble_eq_true rfl) dX3_doors_2 (fun H locs hP hD hS => ?_)
  have hP : va_P D vwCl (wMd md cI 0 mK mc mD mr mw my mC mk ms mu mt mp mb me) H := hP
  have hD : va_D A (wMd md cI 0 mK mc mD mr mw my mC mk ms mu mt mp mb me) := hD
  refine lv_aload_n hx hb dX3_doors_5 rfl (lv_at hl 0 rfl) ?_
  refine lv_iload_n hx hb dX3_doors_6 rfl (lv_at hl 1 rfl) ?_
  refine kc_rVi (As := [.int (nI k)]) (rest := []) ⟨hx, hb, hml, hown, hts⟩ (c_X3_isKey l D md cI 0 mK mc mD mr mw my mC mk ms mu mt mp mb me (nI k) ) (cwV 1 hts gX3_doors_X3_isKey rfl rfl rfl (by decide +kernel) ⟨Nat.le_of_ble_eq_true rfl, Nat.le_of_ble_eq_true rfl⟩) hK hP [0, 1, 2, 3, 4, 5, 6, 7, 8, 9] [0] rfl rfl 0 rfl rfl rfl rfl hl.1 rfl (Nat.le_of_ble_eq_true rfl) dX3_doors_7 ⟨Nat.le_of_ble_eq_true rfl, Nat.le_of_ble_eq_true rfl⟩ ?_
  refine kc_ifeqB (tgt := 26) hx hb dX3_doors_10 (by decide) (fun c_10 => ?_) (fun c_10 => ?_)
  · exact absurd (jIn_ok hk (by omega)) c_10
  · refine lv_aload_n hx hb dX3_doors_13 rfl (lv_at hl 0 rfl) ?_
    refine lv_aload_n hx hb dX3_doors_14 rfl (lv_at hl 0 rfl) ?_
    refine va_get (D := D) (ci := 3) (v := .ref (md 1)) (C := RX3) (T := TX3) (N := 15) hx hb hts hinX3 hown hK.1 hP 0 rfl rfl 2 (by decide) hf9 (fun _ h9 => h9) rfl dX3_doors_15 ?_
    refine lv_iload_n hx hb dX3_doors_18 rfl (lv_at hl 1 rfl) ?_
    refine kc_ald (i := k) (n := 8) hx hb hK hP 1 0 rfl rfl (by omega) (by decide) dX3_doors_19 ?_
    refine kc_rVi (As := [.int (mc k)]) (rest := []) ⟨hx, hb, hml, hown, hts⟩ (c_X3_doorsOf l D md cI 0 mK mc mD mr mw my mC mk ms mu mt mp mb me (mc k) hK8 hD8) (cwV 1 hts gX3_doors_X3_doorsOf rfl rfl rfl (by decide +kernel) ⟨Nat.le_of_ble_eq_true rfl, Nat.le_of_ble_eq_true rfl⟩) hK hP [0, 1, 2, 3, 4, 5, 6, 7, 8, 9] [0] rfl rfl 0 rfl rfl rfl rfl hl.1 rfl (Nat.le_of_ble_eq_true rfl) dX3_doors_20 ⟨Nat.le_of_ble_eq_true rfl, Nat.le_of_ble_eq_true rfl⟩ ?_
    refine lv_goto (tgt := 31) hx hb dX3_doors_23 (by decide) ?_
    exact W.iret (v := mDoors mr mc mK (mc k) mD) hx hb hr (fun tZ htZ hWZ => ⟨⟨_, (), rfl, rfl, by rw [htZ]; exact hP, by rw [hAe]; exact hD⟩, hS.F htZ⟩) hS.2.2 dX3_doors_31
set_option maxHeartbeats 4000000 in
set_option maxRecDepth 100000 in
theorem c_X3_openers_ok (l : Launch) (D : va_G) (md : Nat → Nat) (cI : ClassId) (th : Int32) (mK : Nat) (mc : Nat → Int32) (mD : Nat) (mr : Nat → Int32) (mw : Int32) (my : Int32) (mC : Nat) (mk : Nat → Int32) (ms : Nat → Int32) (mu : Nat → Int32) (mt : Nat → Int32) (mp : Nat → Int32) (mb : Nat → Int32) (me : Nat → Int32) (d : Nat) (sz : Nat) (hK8 : mK ≤ 8) (hD8 : mD ≤ 8) (hd : d < mD) : Met l yX3_openers wsX3_openers ({ frames := 3, cells := 0, slots := 0, locals := 69 } : Room) (wrP [.ref (md 0), .int (nI d)] D sz (wMd md cI th mK mc mD mr mw my mC mk ms mu mt mp mb me) [(cI, .int)]) (va_Qi (fun rZ (_ : Unit) => rZ = mOpeners mr mc mK d mK) (wrB D sz (wMd md cI th mK mc mD mr mw my mC mk ms mu mt mp mb me) (wMd md cI 0 mK mc mD mr mw my mC mk ms mu mt mp mb me)) (va_A (wMd md cI th mK mc mD mr mw my mC mk ms mu mt mp mb me) sz)) 0 0 (va_A (wMd md cI th mK mc mD mr mw my mC mk ms mu mt mp mb me) sz) := by
  refine Met.ofW (cc := cX3_openers) (maxL := 4) (ret := (some .int)) (by decide) rfl ?_
  intro p e s m args below meth c s₁ B hml hv
  obtain ⟨rfl, hsz, hP, hD0, hK⟩ := hv
  have hx := B.exec
  have hb := B.bytes
  have hr := B.returns
  have hts := atoms_spec (ws := wsX3_openers) B.pre
  have hown : s.vm.findClass RX3 = some m.cls := findClass_of_methodNamed B.named
  have hlocks := B.notSynchronized
  subst hsz
  have hD := hD0.self (sz := s.heap.size)
  generalize hAe : va_A (wMd md cI th mK mc mD mr mw my mC mk ms mu mt mp mb me) s.heap.size = A at hD ⊢
  have hA : ∀ q : Nat, s.heap.size ≤ q → A q := fun q h => by rw [← hAe]; exact Or.inr h
  have hinX3 : ∀ w ∈ u_ws RX3 TX3 15, w ∈ wsX3_openers := by decide +kernel
  have hf37 := hts (.fieldLink RX3 37 "KeyCabinetModel" "thrown" "I") (by decide +kernel)
  have hf41 := hts (.fieldLink RX3 41 "KeyCabinetModel" "keys" "I") (by decide +kernel)
  have hf9 := hts (.fieldLink RX3 9 "KeyCabinetModel" "codes" "[I") (by decide +kernel)
  have hl := lv_entry ([.ref (md 0), .int (nI d)]) (n := 4) (Nat.le_of_ble_eq_true rfl)
  rw [lg_entry_eq]
  generalize (lg_sl ([.ref (md 0), .int (nI d)]) ++ List.replicate (4 - (lg_sl ([.ref (md 0), .int (nI d)])).length) Slot.unset).toArray = ls at hl ⊢
  have hl : lv_has ls 4 [(0, .ref (md 0)), (1, .int (nI d))] := hl
  refine W.genH (fun H locs eH eL => ?_)
  have hS : va_S A s.heap H locs := by rw [eH, eL]; exact va_S.rf
  have hP : va_P D vwCl (wMd md cI th mK mc mD mr mw my mC mk ms mu mt mp mb me) H := by rw [eH]; exact hP
  clear eH eL
  refine lv_aload_n hx hb dX3_openers_0 rfl (lv_at hl 0 rfl) ?_
  refine lv_iconst (v := 0) hx hb dX3_openers_1 (by decide) ?_
  refine va_put (D := D) (ci := 3) (v := .int 0) (ty := .int) (C := RX3) (T := TX3) (N := 15) hx hb hts hinX3 tyX3 tyX3_ok nmX3 hown hK.1 hP hD hS 0 rfl rfl 0 (by decide) hf37 (fun _ h9 => h9) rfl (by decide +kernel) rfl rfl (Nat.le_of_ble_eq_true rfl) dX3_openers_2 (fun H locs hP hD hS => ?_)
  have hP : va_P D vwCl (wMd md cI 0 mK mc mD mr mw my mC mk ms mu mt mp mb me) H := hP
  have hD : va_D A (wMd md cI 0 mK mc mD mr mw my mC mk ms mu mt mp mb me) := hD
  refine lv_aload_n hx hb dX3_openers_5 rfl (lv_at hl 0 rfl) ?_
  refine lv_iload_n hx hb dX3_openers_6 rfl (lv_at hl 1 rfl) ?_
  refine kc_rVi (As := [.int (nI d)]) (rest := []) ⟨hx, hb, hml, hown, hts⟩ (c_X3_isDoor l D md cI 0 mK mc mD mr mw my mC mk ms mu mt mp mb me (nI d) ) (cwV 1 hts gX3_openers_X3_isDoor rfl rfl rfl (by decide +kernel) ⟨Nat.le_of_ble_eq_true rfl, Nat.le_of_ble_eq_true rfl⟩) hK hP [0, 1, 2, 3, 4, 5, 6, 7, 8, 9] [0] rfl rfl 0 rfl rfl rfl rfl hl.1 rfl (Nat.le_of_ble_eq_true rfl) dX3_openers_7 ⟨Nat.le_of_ble_eq_true rfl, Nat.le_of_ble_eq_true rfl⟩ ?_
  refine kc_ifneB (tgt := 19) hx hb dX3_openers_10 (by decide) (fun c_10 => ?_) (fun c_10 => ?_)
  · refine lv_iconst (v := 0) hx hb dX3_openers_19 (by decide) ?_
    refine lv_istore_n (lv' := [(2, .int 0), (0, .ref (md 0)), (1, .int (nI d))]) hx hb dX3_openers_20 rfl hl (by decide) rfl (fun ls hl => ?_)
    refine lv_iconst (v := 0) hx hb dX3_openers_21 (by decide) ?_
    refine lv_istore_n (lv' := [(3, .int 0), (2, .int 0), (0, .ref (md 0)), (1, .int (nI d))]) hx hb dX3_openers_22 rfl hl (by decide) rfl (fun ls hl => ?_)
    refine kc_forW (pc := 23) (N := mK) (P := fun j ls => lv_has ls 4 [(3, .int (nI j)), (2, .int (mOpeners mr mc mK d j)), (0, .ref (md 0)), (1, .int (nI d))]) (fun j ls hj_23 hp ih_23 => ?_) ls ?_
    · have hl := hp
      refine lv_iload_n hx hb dX3_openers_23 rfl (lv_at hl 0 rfl) ?_
      refine lv_aload_n hx hb dX3_openers_24 rfl (lv_at hl 2 rfl) ?_
      refine va_get (D := D) (ci := 3) (v := .int (nI mK)) (C := RX3) (T := TX3) (N := 15) hx hb hts hinX3 hown hK.1 hP 0 rfl rfl 1 (by decide) hf41 (fun _ h9 => h9) rfl dX3_openers_25 ?_
      refine kc_tst (j := j) (N := mK) (tgt := 57) hx hb dX3_openers_28 (by decide) hj_23 (by omega) (fun hN => ?_) (fun hlt_23 => ?_)
      · subst hN
        refine lv_iload_n hx hb dX3_openers_57 rfl (lv_at hl 1 rfl) ?_
        exact W.iret (v := mOpeners mr mc mK d mK) hx hb hr (fun tZ htZ hWZ => ⟨⟨_, (), rfl, rfl, by rw [htZ]; exact hP, by rw [hAe]; exact hD⟩, hS.F htZ⟩) hS.2.2 dX3_openers_58
      · refine lv_aload_n hx hb dX3_openers_31 rfl (lv_at hl 2 rfl) ?_
        refine lv_aload_n hx hb dX3_openers_32 rfl (lv_at hl 2 rfl) ?_
        refine va_get (D := D) (ci := 3) (v := .ref (md 1)) (C := RX3) (T := TX3) (N := 15) hx hb hts hinX3 hown hK.1 hP 0 rfl rfl 2 (by decide) hf9 (fun _ h9 => h9) rfl dX3_openers_33 ?_
        refine lv_iload_n hx hb dX3_openers_36 rfl (lv_at hl 0 rfl) ?_
        refine kc_ald (i := j) (n := 8) hx hb hK hP 1 0 rfl rfl (by omega) (by decide) dX3_openers_37 ?_
        refine lv_iload_n hx hb dX3_openers_38 rfl (lv_at hl 3 rfl) ?_
        refine kc_rVi (As := [.int (mc j), .int (nI d)]) (rest := []) ⟨hx, hb, hml, hown, hts⟩ (c_X3_opensWith l D md cI 0 mK mc mD mr mw my mC mk ms mu mt mp mb me (mc j) d hK8 (by first | assumption | omega)) (cwV 2 hts gX3_openers_X3_opensWith rfl rfl rfl (by decide +kernel) ⟨Nat.le_of_ble_eq_true rfl, Nat.le_of_ble_eq_true rfl⟩) hK hP [0, 1, 2, 3, 4, 5, 6, 7, 8, 9] [0] rfl rfl 0 rfl rfl rfl rfl hl.1 rfl (Nat.le_of_ble_eq_true rfl) dX3_openers_39 ⟨Nat.le_of_ble_eq_true rfl, Nat.le_of_ble_eq_true rfl⟩ ?_
        refine kc_ifeqB (tgt := 51) hx hb dX3_openers_42 (by decide) (fun c_42 => ?_) (fun c_42 => ?_)
        · refine lv_iinc (v := nI (j + 1)) (lv' := [(3, .int (nI (j + 1))), (2, .int (mOpeners mr mc mK d j)), (0, .ref (md 0)), (1, .int (nI d))]) hx hb dX3_openers_51 hl (k := 0) rfl (kc_inc j) (by decide) rfl (fun ls hl => ?_)
          refine lv_goto (tgt := 23) hx hb dX3_openers_54 (by decide) ?_
          refine ih_23 _ hlt_23 ?_
          have eq_2 : mOpeners mr mc mK d (j + 1) = mOpeners mr mc mK d j := by simp only [mOpeners, fo_s, if_pos c_10, if_neg c_42]
          show lv_has _ 4 [(3, .int (nI (j + 1))), (2, .int (mOpeners mr mc mK d (j + 1))), (0, .ref (md 0)), (1, .int (nI d))]
          rw [eq_2]
          exact lv_sub hl [0, 1, 2, 3] rfl
        · refine lv_iload_n hx hb dX3_openers_45 rfl (lv_at hl 1 rfl) ?_
          refine lv_iconst (v := 1) hx hb dX3_openers_46 (by decide) ?_
          refine lv_iload_n hx hb dX3_openers_47 rfl (lv_at hl 0 rfl) ?_
          refine lv_ishl hx hb dX3_openers_48 ?_
          refine lv_ior hx hb dX3_openers_49 ?_
          refine lv_istore_n (lv' := [(2, .int ((mOpeners mr mc mK d j) ||| (1 <<< ((nI j) &&& 31)))), (3, .int (nI j)), (0, .ref (md 0)), (1, .int (nI d))]) hx hb dX3_openers_50 rfl hl (by decide) rfl (fun ls hl => ?_)
          refine lv_iinc (v := nI (j + 1)) (lv' := [(3, .int (nI (j + 1))), (2, .int ((mOpeners mr mc mK d j) ||| (1 <<< ((nI j) &&& 31)))), (0, .ref (md 0)), (1, .int (nI d))]) hx hb dX3_openers_51 hl (k := 1) rfl (kc_inc j) (by decide) rfl (fun ls hl => ?_)
          refine lv_goto (tgt := 23) hx hb dX3_openers_54 (by decide) ?_
          refine ih_23 _ hlt_23 ?_
          have eq_2 : mOpeners mr mc mK d (j + 1) = (mOpeners mr mc mK d j) ||| (1 <<< ((nI j) &&& 31)) := by simp only [mOpeners, fo_s, if_pos c_10, if_pos c_42]
          show lv_has _ 4 [(3, .int (nI (j + 1))), (2, .int (mOpeners mr mc mK d (j + 1))), (0, .ref (md 0)), (1, .int (nI d))]
          rw [eq_2]
          exact lv_sub hl [0, 1, 2, 3] rfl
    · exact lv_sub hl [0, 1, 2, 3] rfl
  · exact absurd (jIn_ok hd (by omega)) c_10
set_option maxHeartbeats 4000000 in
set_option maxRecDepth 100000 in
theorem c_X3_codes_ok (l : Launch) (D : va_G) (md : Nat → Nat) (cI : ClassId) (th : Int32) (mK : Nat) (mc : Nat → Int32) (mD : Nat) (mr : Nat → Int32) (mw : Int32) (my : Int32) (mC : Nat) (mk : Nat → Int32) (ms : Nat → Int32) (mu : Nat → Int32) (mt : Nat → Int32) (mp : Nat → Int32) (mb : Nat → Int32) (me : Nat → Int32) (d : Nat) (sz : Nat) (hK8 : mK ≤ 8) (hD8 : mD ≤ 8) (hd : d < mD) : Met l yX3_codes wsX3_codes ({ frames := 3, cells := 0, slots := 0, locals := 69 } : Room) (wrP [.ref (md 0), .int (nI d)] D sz (wMd md cI th mK mc mD mr mw my mC mk ms mu mt mp mb me) [(cI, .int)]) (va_Qi (fun rZ (_ : Unit) => rZ = mCodes mr mc mK d 1024) (wrB D sz (wMd md cI th mK mc mD mr mw my mC mk ms mu mt mp mb me) (wMd md cI 0 mK mc mD mr mw my mC mk ms mu mt mp mb me)) (va_A (wMd md cI th mK mc mD mr mw my mC mk ms mu mt mp mb me) sz)) 0 0 (va_A (wMd md cI th mK mc mD mr mw my mC mk ms mu mt mp mb me) sz) := by
  refine Met.ofW (cc := cX3_codes) (maxL := 4) (ret := (some .int)) (by decide) rfl ?_
  intro p e s m args below meth c s₁ B hml hv
  obtain ⟨rfl, hsz, hP, hD0, hK⟩ := hv
  have hx := B.exec
  have hb := B.bytes
  have hr := B.returns
  have hts := atoms_spec (ws := wsX3_codes) B.pre
  have hown : s.vm.findClass RX3 = some m.cls := findClass_of_methodNamed B.named
  have hlocks := B.notSynchronized
  subst hsz
  have hD := hD0.self (sz := s.heap.size)
  generalize hAe : va_A (wMd md cI th mK mc mD mr mw my mC mk ms mu mt mp mb me) s.heap.size = A at hD ⊢
  have hA : ∀ q : Nat, s.heap.size ≤ q → A q := fun q h => by rw [← hAe]; exact Or.inr h
  have hinX3 : ∀ w ∈ u_ws RX3 TX3 15, w ∈ wsX3_codes := by decide +kernel
  have hf37 := hts (.fieldLink RX3 37 "KeyCabinetModel" "thrown" "I") (by decide +kernel)
  have hl := lv_entry ([.ref (md 0), .int (nI d)]) (n := 4) (Nat.le_of_ble_eq_true rfl)
  rw [lg_entry_eq]
  generalize (lg_sl ([.ref (md 0), .int (nI d)]) ++ List.replicate (4 - (lg_sl ([.ref (md 0), .int (nI d)])).length) Slot.unset).toArray = ls at hl ⊢
  have hl : lv_has ls 4 [(0, .ref (md 0)), (1, .int (nI d))] := hl
  refine W.genH (fun H locs eH eL => ?_)
  have hS : va_S A s.heap H locs := by rw [eH, eL]; exact va_S.rf
  have hP : va_P D vwCl (wMd md cI th mK mc mD mr mw my mC mk ms mu mt mp mb me) H := by rw [eH]; exact hP
  clear eH eL
  refine lv_aload_n hx hb dX3_codes_0 rfl (lv_at hl 0 rfl) ?_
  refine lv_iconst (v := 0) hx hb dX3_codes_1 (by decide) ?_
  refine va_put (D := D) (ci := 3) (v := .int 0) (ty := .int) (C := RX3) (T := TX3) (N := 15) hx hb hts hinX3 tyX3 tyX3_ok nmX3 hown hK.1 hP hD hS 0 rfl rfl 0 (by decide) hf37 (fun _ h9 => h9) rfl (by decide +kernel) rfl rfl (Nat.le_of_ble_eq_true rfl) dX3_codes_2 (fun H locs hP hD hS => ?_)
  have hP : va_P D vwCl (wMd md cI 0 mK mc mD mr mw my mC mk ms mu mt mp mb me) H := hP
  have hD : va_D A (wMd md cI 0 mK mc mD mr mw my mC mk ms mu mt mp mb me) := hD
  refine lv_aload_n hx hb dX3_codes_5 rfl (lv_at hl 0 rfl) ?_
  refine lv_iload_n hx hb dX3_codes_6 rfl (lv_at hl 1 rfl) ?_
  refine kc_rVi (As := [.int (nI d)]) (rest := []) ⟨hx, hb, hml, hown, hts⟩ (c_X3_isDoor l D md cI 0 mK mc mD mr mw my mC mk ms mu mt mp mb me (nI d) ) (cwV 1 hts gX3_codes_X3_isDoor rfl rfl rfl (by decide +kernel) ⟨Nat.le_of_ble_eq_true rfl, Nat.le_of_ble_eq_true rfl⟩) hK hP [0, 1, 2, 3, 4, 5, 6, 7, 8, 9] [0] rfl rfl 0 rfl rfl rfl rfl hl.1 rfl (Nat.le_of_ble_eq_true rfl) dX3_codes_7 ⟨Nat.le_of_ble_eq_true rfl, Nat.le_of_ble_eq_true rfl⟩ ?_
  refine kc_ifneB (tgt := 19) hx hb dX3_codes_10 (by decide) (fun c_10 => ?_) (fun c_10 => ?_)
  · refine lv_iconst (v := 0) hx hb dX3_codes_19 (by decide) ?_
    refine lv_istore_n (lv' := [(2, .int 0), (0, .ref (md 0)), (1, .int (nI d))]) hx hb dX3_codes_20 rfl hl (by decide) rfl (fun ls hl => ?_)
    refine lv_iconst (v := 0) hx hb dX3_codes_21 (by decide) ?_
    refine lv_istore_n (lv' := [(3, .int 0), (2, .int 0), (0, .ref (md 0)), (1, .int (nI d))]) hx hb dX3_codes_22 rfl hl (by decide) rfl (fun ls hl => ?_)
    refine kc_forW (pc := 23) (N := 1024) (P := fun j ls => lv_has ls 4 [(3, .int (nI j)), (2, .int (mCodes mr mc mK d j)), (0, .ref (md 0)), (1, .int (nI d))]) (fun j ls hj_23 hp ih_23 => ?_) ls ?_
    · have hl := hp
      refine lv_iload_n hx hb dX3_codes_23 rfl (lv_at hl 0 rfl) ?_
      refine lv_sipush (v := 1024) hx hb dX3_codes_24 (by decide) ?_
      refine kc_tst (j := j) (N := 1024) (tgt := 53) hx hb dX3_codes_27 (by decide) hj_23 (by omega) (fun hN => ?_) (fun hlt_23 => ?_)
      · subst hN
        refine lv_iload_n hx hb dX3_codes_53 rfl (lv_at hl 1 rfl) ?_
        exact W.iret (v := mCodes mr mc mK d 1024) hx hb hr (fun tZ htZ hWZ => ⟨⟨_, (), rfl, rfl, by rw [htZ]; exact hP, by rw [hAe]; exact hD⟩, hS.F htZ⟩) hS.2.2 dX3_codes_54
      · refine lv_iload_n hx hb dX3_codes_30 rfl (lv_at hl 1 rfl) ?_
        refine lv_aload_n hx hb dX3_codes_31 rfl (lv_at hl 2 rfl) ?_
        refine lv_iload_n hx hb dX3_codes_32 rfl (lv_at hl 0 rfl) ?_
        refine lv_iload_n hx hb dX3_codes_33 rfl (lv_at hl 3 rfl) ?_
        refine kc_rVi (As := [.int (nI j), .int (nI d)]) (rest := [.int (mCodes mr mc mK d j)]) ⟨hx, hb, hml, hown, hts⟩ (c_X3_opensWith l D md cI 0 mK mc mD mr mw my mC mk ms mu mt mp mb me (nI j) d hK8 (by first | assumption | omega)) (cwV 2 hts gX3_codes_X3_opensWith rfl rfl rfl (by decide +kernel) ⟨Nat.le_of_ble_eq_true rfl, Nat.le_of_ble_eq_true rfl⟩) hK hP [0, 1, 2, 3, 4, 5, 6, 7, 8, 9] [0] rfl rfl 0 rfl rfl rfl rfl hl.1 rfl (Nat.le_of_ble_eq_true rfl) dX3_codes_34 ⟨Nat.le_of_ble_eq_true rfl, Nat.le_of_ble_eq_true rfl⟩ ?_
        refine kc_ifeqB (tgt := 44) hx hb dX3_codes_37 (by decide) (fun c_37 => ?_) (fun c_37 => ?_)
        · refine lv_iconst (v := 0) hx hb dX3_codes_44 (by decide) ?_
          refine lv_iadd hx hb dX3_codes_45 ?_
          refine lv_istore_n (lv' := [(2, .int ((mCodes mr mc mK d j) + 0)), (3, .int (nI j)), (0, .ref (md 0)), (1, .int (nI d))]) hx hb dX3_codes_46 rfl hl (by decide) rfl (fun ls hl => ?_)
          refine lv_iinc (v := nI (j + 1)) (lv' := [(3, .int (nI (j + 1))), (2, .int ((mCodes mr mc mK d j) + 0)), (0, .ref (md 0)), (1, .int (nI d))]) hx hb dX3_codes_47 hl (k := 1) rfl (kc_inc j) (by decide) rfl (fun ls hl => ?_)
          refine lv_goto (tgt := 23) hx hb dX3_codes_50 (by decide) ?_
          refine ih_23 _ hlt_23 ?_
          have eq_2 : mCodes mr mc mK d (j + 1) = (mCodes mr mc mK d j) + 0 := by simp only [mCodes, fo_s, if_pos c_10, if_neg c_37]
          show lv_has _ 4 [(3, .int (nI (j + 1))), (2, .int (mCodes mr mc mK d (j + 1))), (0, .ref (md 0)), (1, .int (nI d))]
          rw [eq_2]
          exact lv_sub hl [0, 1, 2, 3] rfl
        · refine lv_iconst (v := 1) hx hb dX3_codes_40 (by decide) ?_
          refine lv_goto (tgt := 45) hx hb dX3_codes_41 (by decide) ?_
          refine lv_iadd hx hb dX3_codes_45 ?_
          refine lv_istore_n (lv' := [(2, .int ((mCodes mr mc mK d j) + 1)), (3, .int (nI j)), (0, .ref (md 0)), (1, .int (nI d))]) hx hb dX3_codes_46 rfl hl (by decide) rfl (fun ls hl => ?_)
          refine lv_iinc (v := nI (j + 1)) (lv' := [(3, .int (nI (j + 1))), (2, .int ((mCodes mr mc mK d j) + 1)), (0, .ref (md 0)), (1, .int (nI d))]) hx hb dX3_codes_47 hl (k := 1) rfl (kc_inc j) (by decide) rfl (fun ls hl => ?_)
          refine lv_goto (tgt := 23) hx hb dX3_codes_50 (by decide) ?_
          refine ih_23 _ hlt_23 ?_
          have eq_2 : mCodes mr mc mK d (j + 1) = (mCodes mr mc mK d j) + 1 := by simp only [mCodes, fo_s, if_pos c_10, if_pos c_37]
          show lv_has _ 4 [(3, .int (nI (j + 1))), (2, .int (mCodes mr mc mK d (j + 1))), (0, .ref (md 0)), (1, .int (nI d))]
          rw [eq_2]
          exact lv_sub hl [0, 1, 2, 3] rfl
    · exact lv_sub hl [0, 1, 2, 3] rfl
  · exact absurd (jIn_ok hd (by omega)) c_10
set_option maxHeartbeats 4000000 in
set_option maxRecDepth 100000 in
theorem c_X3_addKey_f1 (l : Launch) (D : va_G) (md : Nat → Nat) (cI : ClassId) (th : Int32) (mK : Nat) (mc : Nat → Int32) (mD : Nat) (mr : Nat → Int32) (mw : Int32) (my : Int32) (mC : Nat) (mk : Nat → Int32) (ms : Nat → Int32) (mu : Nat → Int32) (mt : Nat → Int32) (mp : Nat → Int32) (mb : Nat → Int32) (me : Nat → Int32) (code : Int32) (sz : Nat) (hBad : code < 0 ∨ (1024 : Int32) ≤ code) : Met l yX3_addKey wsX3_addKey ({ frames := 1, cells := 0, slots := 0, locals := 21 } : Room) (wrP [.ref (md 0), .int code] D sz (wMd md cI th mK mc mD mr mw my mC mk ms mu mt mp mb me) [(cI, .int)]) (va_Qi (fun rZ (_ : Unit) => rZ = 0) (wrB D sz (wMd md cI th mK mc mD mr mw my mC mk ms mu mt mp mb me) (wMd md cI 1 mK mc mD mr mw my mC mk ms mu mt mp mb me)) (va_A (wMd md cI th mK mc mD mr mw my mC mk ms mu mt mp mb me) sz)) 0 0 (va_A (wMd md cI th mK mc mD mr mw my mC mk ms mu mt mp mb me) sz) := by
  refine Met.ofW (cc := cX3_addKey) (maxL := 3) (ret := (some .int)) (by decide) rfl ?_
  intro p e s m args below meth c s₁ B hml hv
  obtain ⟨rfl, hsz, hP, hD0, hK⟩ := hv
  have hx := B.exec
  have hb := B.bytes
  have hr := B.returns
  have hts := atoms_spec (ws := wsX3_addKey) B.pre
  have hown : s.vm.findClass RX3 = some m.cls := findClass_of_methodNamed B.named
  have hlocks := B.notSynchronized
  subst hsz
  have hD := hD0.self (sz := s.heap.size)
  generalize hAe : va_A (wMd md cI th mK mc mD mr mw my mC mk ms mu mt mp mb me) s.heap.size = A at hD ⊢
  have hA : ∀ q : Nat, s.heap.size ≤ q → A q := fun q h => by rw [← hAe]; exact Or.inr h
  have hinX3 : ∀ w ∈ u_ws RX3 TX3 15, w ∈ wsX3_addKey := by decide +kernel
  have hf37 := hts (.fieldLink RX3 37 "KeyCabinetModel" "thrown" "I") (by decide +kernel)
  have hl := lv_entry ([.ref (md 0), .int code]) (n := 3) (Nat.le_of_ble_eq_true rfl)
  rw [lg_entry_eq]
  generalize (lg_sl ([.ref (md 0), .int code]) ++ List.replicate (3 - (lg_sl ([.ref (md 0), .int code])).length) Slot.unset).toArray = ls at hl ⊢
  have hl : lv_has ls 3 [(0, .ref (md 0)), (1, .int code)] := hl
  refine W.genH (fun H locs eH eL => ?_)
  have hS : va_S A s.heap H locs := by rw [eH, eL]; exact va_S.rf
  have hP : va_P D vwCl (wMd md cI th mK mc mD mr mw my mC mk ms mu mt mp mb me) H := by rw [eH]; exact hP
  clear eH eL
  refine lv_aload_n hx hb dX3_addKey_0 rfl (lv_at hl 0 rfl) ?_
  refine lv_iconst (v := 0) hx hb dX3_addKey_1 (by decide) ?_
  refine va_put (D := D) (ci := 3) (v := .int 0) (ty := .int) (C := RX3) (T := TX3) (N := 15) hx hb hts hinX3 tyX3 tyX3_ok nmX3 hown hK.1 hP hD hS 0 rfl rfl 0 (by decide) hf37 (fun _ h9 => h9) rfl (by decide +kernel) rfl rfl (Nat.le_of_ble_eq_true rfl) dX3_addKey_2 (fun H locs hP hD hS => ?_)
  have hP : va_P D vwCl (wMd md cI 0 mK mc mD mr mw my mC mk ms mu mt mp mb me) H := hP
  have hD : va_D A (wMd md cI 0 mK mc mD mr mw my mC mk ms mu mt mp mb me) := hD
  refine lv_iload_n hx hb dX3_addKey_5 rfl (lv_at hl 1 rfl) ?_
  refine lv_if_lt (tgt := 16) hx hb dX3_addKey_6 (by decide) (fun c_6 => ?_) (fun c_6 => ?_)
  · refine lv_aload_n hx hb dX3_addKey_16 rfl (lv_at hl 0 rfl) ?_
    refine lv_iconst (v := 1) hx hb dX3_addKey_17 (by decide) ?_
    refine kc_wVi (w1 := wMd md cI 1 mK mc mD mr mw my mC mk ms mu mt mp mb me) (wr := []) (ws1 := wMd md cI 1 mK mc mD mr mw my mC mk ms mu mt mp mb me) (As := [.int 1]) (rest := []) ⟨hx, hb, hml, hown, hts⟩ (c_X3_fail l D md cI 0 mK mc mD mr mw my mC mk ms mu mt mp mb me 1 H.size ) (cwV 1 hts gX3_addKey_X3_fail rfl rfl rfl (by decide +kernel) ⟨Nat.le_of_ble_eq_true rfl, Nat.le_of_ble_eq_true rfl⟩) hK hP hD hS hA [0, 1, 2, 3, 4, 5, 6, 7, 8, 9] [] [0, 1, 2, 3, 4, 5, 6, 7, 8, 9] [0] rfl rfl rfl rfl (by decide) rfl rfl rfl 0 rfl rfl rfl rfl hl.1 rfl (Nat.le_of_ble_eq_true rfl) dX3_addKey_18 ⟨Nat.le_of_ble_eq_true rfl, Nat.le_of_ble_eq_true rfl⟩ (fun H locs hP hD hS => ?_)
    exact W.iret (v := 0) hx hb hr (fun tZ htZ hWZ => ⟨⟨_, (), rfl, rfl, by rw [htZ]; exact hP, by rw [hAe]; exact hD⟩, hS.F htZ⟩) hS.2.2 dX3_addKey_21
  · refine lv_iload_n hx hb dX3_addKey_9 rfl (lv_at hl 1 rfl) ?_
    refine lv_sipush (v := 1024) hx hb dX3_addKey_10 (by decide) ?_
    refine lv_icmp_lt (tgt := 22) hx hb dX3_addKey_13 (by decide) (fun c_13 => ?_) (fun c_13 => ?_)
    · exact hBad.elim (fun h => absurd h c_6) (fun h => absurd c_13 (kc_nlt h))
    · refine lv_aload_n hx hb dX3_addKey_16 rfl (lv_at hl 0 rfl) ?_
      refine lv_iconst (v := 1) hx hb dX3_addKey_17 (by decide) ?_
      refine kc_wVi (w1 := wMd md cI 1 mK mc mD mr mw my mC mk ms mu mt mp mb me) (wr := []) (ws1 := wMd md cI 1 mK mc mD mr mw my mC mk ms mu mt mp mb me) (As := [.int 1]) (rest := []) ⟨hx, hb, hml, hown, hts⟩ (c_X3_fail l D md cI 0 mK mc mD mr mw my mC mk ms mu mt mp mb me 1 H.size ) (cwV 1 hts gX3_addKey_X3_fail rfl rfl rfl (by decide +kernel) ⟨Nat.le_of_ble_eq_true rfl, Nat.le_of_ble_eq_true rfl⟩) hK hP hD hS hA [0, 1, 2, 3, 4, 5, 6, 7, 8, 9] [] [0, 1, 2, 3, 4, 5, 6, 7, 8, 9] [0] rfl rfl rfl rfl (by decide) rfl rfl rfl 0 rfl rfl rfl rfl hl.1 rfl (Nat.le_of_ble_eq_true rfl) dX3_addKey_18 ⟨Nat.le_of_ble_eq_true rfl, Nat.le_of_ble_eq_true rfl⟩ (fun H locs hP hD hS => ?_)
      exact W.iret (v := 0) hx hb hr (fun tZ htZ hWZ => ⟨⟨_, (), rfl, rfl, by rw [htZ]; exact hP, by rw [hAe]; exact hD⟩, hS.F htZ⟩) hS.2.2 dX3_addKey_21
set_option maxHeartbeats 4000000 in
set_option maxRecDepth 100000 in
theorem c_X3_addKey_f2a (l : Launch) (D : va_G) (md : Nat → Nat) (cI : ClassId) (th : Int32) (mK : Nat) (mc : Nat → Int32) (mD : Nat) (mr : Nat → Int32) (mw : Int32) (my : Int32) (mC : Nat) (mk : Nat → Int32) (ms : Nat → Int32) (mu : Nat → Int32) (mt : Nat → Int32) (mp : Nat → Int32) (mb : Nat → Int32) (me : Nat → Int32) (code : Int32) (sz : Nat) (h1 : ¬ code < 0) (h2 : code < 1024) (hKe : mK = 8) : Met l yX3_addKey wsX3_addKey ({ frames := 1, cells := 0, slots := 0, locals := 21 } : Room) (wrP [.ref (md 0), .int code] D sz (wMd md cI th mK mc mD mr mw my mC mk ms mu mt mp mb me) [(cI, .int)]) (va_Qi (fun rZ (_ : Unit) => rZ = 0) (wrB D sz (wMd md cI th mK mc mD mr mw my mC mk ms mu mt mp mb me) (wMd md cI 2 mK mc mD mr mw my mC mk ms mu mt mp mb me)) (va_A (wMd md cI th mK mc mD mr mw my mC mk ms mu mt mp mb me) sz)) 0 0 (va_A (wMd md cI th mK mc mD mr mw my mC mk ms mu mt mp mb me) sz) := by
  refine Met.ofW (cc := cX3_addKey) (maxL := 3) (ret := (some .int)) (by decide) rfl ?_
  intro p e s m args below meth c s₁ B hml hv
  obtain ⟨rfl, hsz, hP, hD0, hK⟩ := hv
  have hx := B.exec
  have hb := B.bytes
  have hr := B.returns
  have hts := atoms_spec (ws := wsX3_addKey) B.pre
  have hown : s.vm.findClass RX3 = some m.cls := findClass_of_methodNamed B.named
  have hlocks := B.notSynchronized
  subst hsz
  have hD := hD0.self (sz := s.heap.size)
  generalize hAe : va_A (wMd md cI th mK mc mD mr mw my mC mk ms mu mt mp mb me) s.heap.size = A at hD ⊢
  have hA : ∀ q : Nat, s.heap.size ≤ q → A q := fun q h => by rw [← hAe]; exact Or.inr h
  have hinX3 : ∀ w ∈ u_ws RX3 TX3 15, w ∈ wsX3_addKey := by decide +kernel
  have hf37 := hts (.fieldLink RX3 37 "KeyCabinetModel" "thrown" "I") (by decide +kernel)
  have hf41 := hts (.fieldLink RX3 41 "KeyCabinetModel" "keys" "I") (by decide +kernel)
  have hl := lv_entry ([.ref (md 0), .int code]) (n := 3) (Nat.le_of_ble_eq_true rfl)
  rw [lg_entry_eq]
  generalize (lg_sl ([.ref (md 0), .int code]) ++ List.replicate (3 - (lg_sl ([.ref (md 0), .int code])).length) Slot.unset).toArray = ls at hl ⊢
  have hl : lv_has ls 3 [(0, .ref (md 0)), (1, .int code)] := hl
  refine W.genH (fun H locs eH eL => ?_)
  have hS : va_S A s.heap H locs := by rw [eH, eL]; exact va_S.rf
  have hP : va_P D vwCl (wMd md cI th mK mc mD mr mw my mC mk ms mu mt mp mb me) H := by rw [eH]; exact hP
  clear eH eL
  refine lv_aload_n hx hb dX3_addKey_0 rfl (lv_at hl 0 rfl) ?_
  refine lv_iconst (v := 0) hx hb dX3_addKey_1 (by decide) ?_
  refine va_put (D := D) (ci := 3) (v := .int 0) (ty := .int) (C := RX3) (T := TX3) (N := 15) hx hb hts hinX3 tyX3 tyX3_ok nmX3 hown hK.1 hP hD hS 0 rfl rfl 0 (by decide) hf37 (fun _ h9 => h9) rfl (by decide +kernel) rfl rfl (Nat.le_of_ble_eq_true rfl) dX3_addKey_2 (fun H locs hP hD hS => ?_)
  have hP : va_P D vwCl (wMd md cI 0 mK mc mD mr mw my mC mk ms mu mt mp mb me) H := hP
  have hD : va_D A (wMd md cI 0 mK mc mD mr mw my mC mk ms mu mt mp mb me) := hD
  refine lv_iload_n hx hb dX3_addKey_5 rfl (lv_at hl 1 rfl) ?_
  refine lv_if_lt (tgt := 16) hx hb dX3_addKey_6 (by decide) (fun c_6 => ?_) (fun c_6 => ?_)
  · exact absurd c_6 h1
  · refine lv_iload_n hx hb dX3_addKey_9 rfl (lv_at hl 1 rfl) ?_
    refine lv_sipush (v := 1024) hx hb dX3_addKey_10 (by decide) ?_
    refine lv_icmp_lt (tgt := 22) hx hb dX3_addKey_13 (by decide) (fun c_13 => ?_) (fun c_13 => ?_)
    · refine lv_aload_n hx hb dX3_addKey_22 rfl (lv_at hl 0 rfl) ?_
      refine va_get (D := D) (ci := 3) (v := .int (nI mK)) (C := RX3) (T := TX3) (N := 15) hx hb hts hinX3 hown hK.1 hP 0 rfl rfl 1 (by decide) hf41 (fun _ h9 => h9) rfl dX3_addKey_23 ?_
      refine lv_bipush (v := 8) hx hb dX3_addKey_26 (by decide) ?_
      refine lv_icmp_ne (tgt := 37) hx hb dX3_addKey_28 (by decide) (fun c_28 => ?_) (fun c_28 => ?_)
      · exact absurd (by rw [hKe]; rfl) c_28
      · refine lv_aload_n hx hb dX3_addKey_31 rfl (lv_at hl 0 rfl) ?_
        refine lv_iconst (v := 2) hx hb dX3_addKey_32 (by decide) ?_
        refine kc_wVi (w1 := wMd md cI 2 mK mc mD mr mw my mC mk ms mu mt mp mb me) (wr := []) (ws1 := wMd md cI 2 mK mc mD mr mw my mC mk ms mu mt mp mb me) (As := [.int 2]) (rest := []) ⟨hx, hb, hml, hown, hts⟩ (c_X3_fail l D md cI 0 mK mc mD mr mw my mC mk ms mu mt mp mb me 2 H.size ) (cwV 1 hts gX3_addKey_X3_fail rfl rfl rfl (by decide +kernel) ⟨Nat.le_of_ble_eq_true rfl, Nat.le_of_ble_eq_true rfl⟩) hK hP hD hS hA [0, 1, 2, 3, 4, 5, 6, 7, 8, 9] [] [0, 1, 2, 3, 4, 5, 6, 7, 8, 9] [0] rfl rfl rfl rfl (by decide) rfl rfl rfl 0 rfl rfl rfl rfl hl.1 rfl (Nat.le_of_ble_eq_true rfl) dX3_addKey_33 ⟨Nat.le_of_ble_eq_true rfl, Nat.le_of_ble_eq_true rfl⟩ (fun H locs hP hD hS => ?_)
        exact W.iret (v := 0) hx hb hr (fun tZ htZ hWZ => ⟨⟨_, (), rfl, rfl, by rw [htZ]; exact hP, by rw [hAe]; exact hD⟩, hS.F htZ⟩) hS.2.2 dX3_addKey_36
    · exact absurd h2 c_13
set_option maxHeartbeats 4000000 in
set_option maxRecDepth 100000 in
theorem c_X3_addKey_f2b (l : Launch) (D : va_G) (md : Nat → Nat) (cI : ClassId) (th : Int32) (mK : Nat) (mc : Nat → Int32) (mD : Nat) (mr : Nat → Int32) (mw : Int32) (my : Int32) (mC : Nat) (mk : Nat → Int32) (ms : Nat → Int32) (mu : Nat → Int32) (mt : Nat → Int32) (mp : Nat → Int32) (mb : Nat → Int32) (me : Nat → Int32) (code : Int32) (sz : Nat) (h1 : ¬ code < 0) (h2 : code < 1024) (hK7 : mK < 8) (ht : jTaken mc mK code = true) : Met l yX3_addKey wsX3_addKey ({ frames := 1, cells := 0, slots := 0, locals := 21 } : Room) (wrP [.ref (md 0), .int code] D sz (wMd md cI th mK mc mD mr mw my mC mk ms mu mt mp mb me) [(cI, .int)]) (va_Qi (fun rZ (_ : Unit) => rZ = 0) (wrB D sz (wMd md cI th mK mc mD mr mw my mC mk ms mu mt mp mb me) (wMd md cI 2 mK mc mD mr mw my mC mk ms mu mt mp mb me)) (va_A (wMd md cI th mK mc mD mr mw my mC mk ms mu mt mp mb me) sz)) 0 0 (va_A (wMd md cI th mK mc mD mr mw my mC mk ms mu mt mp mb me) sz) := by
  refine Met.ofW (cc := cX3_addKey) (maxL := 3) (ret := (some .int)) (by decide) rfl ?_
  intro p e s m args below meth c s₁ B hml hv
  obtain ⟨rfl, hsz, hP, hD0, hK⟩ := hv
  have hx := B.exec
  have hb := B.bytes
  have hr := B.returns
  have hts := atoms_spec (ws := wsX3_addKey) B.pre
  have hown : s.vm.findClass RX3 = some m.cls := findClass_of_methodNamed B.named
  have hlocks := B.notSynchronized
  subst hsz
  have hD := hD0.self (sz := s.heap.size)
  generalize hAe : va_A (wMd md cI th mK mc mD mr mw my mC mk ms mu mt mp mb me) s.heap.size = A at hD ⊢
  have hA : ∀ q : Nat, s.heap.size ≤ q → A q := fun q h => by rw [← hAe]; exact Or.inr h
  have hinX3 : ∀ w ∈ u_ws RX3 TX3 15, w ∈ wsX3_addKey := by decide +kernel
  have hf37 := hts (.fieldLink RX3 37 "KeyCabinetModel" "thrown" "I") (by decide +kernel)
  have hf41 := hts (.fieldLink RX3 41 "KeyCabinetModel" "keys" "I") (by decide +kernel)
  have hf9 := hts (.fieldLink RX3 9 "KeyCabinetModel" "codes" "[I") (by decide +kernel)
  have hl := lv_entry ([.ref (md 0), .int code]) (n := 3) (Nat.le_of_ble_eq_true rfl)
  rw [lg_entry_eq]
  generalize (lg_sl ([.ref (md 0), .int code]) ++ List.replicate (3 - (lg_sl ([.ref (md 0), .int code])).length) Slot.unset).toArray = ls at hl ⊢
  have hl : lv_has ls 3 [(0, .ref (md 0)), (1, .int code)] := hl
  refine W.genH (fun H locs eH eL => ?_)
  have hS : va_S A s.heap H locs := by rw [eH, eL]; exact va_S.rf
  have hP : va_P D vwCl (wMd md cI th mK mc mD mr mw my mC mk ms mu mt mp mb me) H := by rw [eH]; exact hP
  clear eH eL
  refine lv_aload_n hx hb dX3_addKey_0 rfl (lv_at hl 0 rfl) ?_
  refine lv_iconst (v := 0) hx hb dX3_addKey_1 (by decide) ?_
  refine va_put (D := D) (ci := 3) (v := .int 0) (ty := .int) (C := RX3) (T := TX3) (N := 15) hx hb hts hinX3 tyX3 tyX3_ok nmX3 hown hK.1 hP hD hS 0 rfl rfl 0 (by decide) hf37 (fun _ h9 => h9) rfl (by decide +kernel) rfl rfl (Nat.le_of_ble_eq_true rfl) dX3_addKey_2 (fun H locs hP hD hS => ?_)
  have hP : va_P D vwCl (wMd md cI 0 mK mc mD mr mw my mC mk ms mu mt mp mb me) H := hP
  have hD : va_D A (wMd md cI 0 mK mc mD mr mw my mC mk ms mu mt mp mb me) := hD
  refine lv_iload_n hx hb dX3_addKey_5 rfl (lv_at hl 1 rfl) ?_
  refine lv_if_lt (tgt := 16) hx hb dX3_addKey_6 (by decide) (fun c_6 => ?_) (fun c_6 => ?_)
  · exact absurd c_6 h1
  · refine lv_iload_n hx hb dX3_addKey_9 rfl (lv_at hl 1 rfl) ?_
    refine lv_sipush (v := 1024) hx hb dX3_addKey_10 (by decide) ?_
    refine lv_icmp_lt (tgt := 22) hx hb dX3_addKey_13 (by decide) (fun c_13 => ?_) (fun c_13 => ?_)
    · refine lv_aload_n hx hb dX3_addKey_22 rfl (lv_at hl 0 rfl) ?_
      refine va_get (D := D) (ci := 3) (v := .int (nI mK)) (C := RX3) (T := TX3) (N := 15) hx hb hts hinX3 hown hK.1 hP 0 rfl rfl 1 (by decide) hf41 (fun _ h9 => h9) rfl dX3_addKey_23 ?_
      refine lv_bipush (v := 8) hx hb dX3_addKey_26 (by decide) ?_
      refine lv_icmp_ne (tgt := 37) hx hb dX3_addKey_28 (by decide) (fun c_28 => ?_) (fun c_28 => ?_)
      · refine lv_iconst (v := 0) hx hb dX3_addKey_37 (by decide) ?_
        refine lv_istore_n (lv' := [(2, .int 0), (0, .ref (md 0)), (1, .int code)]) hx hb dX3_addKey_38 rfl hl (by decide) rfl (fun ls hl => ?_)
        refine kc_forW (pc := 39) (N := mK) (P := fun j ls => lv_has ls 3 [(2, .int (nI j)), (0, .ref (md 0)), (1, .int code)] ∧ ∀ i, i < j → ¬ mc i = code) (fun j ls hj_39 hp ih_39 => ?_) ls ?_
        · obtain ⟨hl, he_39⟩ := hp
          refine lv_iload_n hx hb dX3_addKey_39 rfl (lv_at hl 0 rfl) ?_
          refine lv_aload_n hx hb dX3_addKey_40 rfl (lv_at hl 1 rfl) ?_
          refine va_get (D := D) (ci := 3) (v := .int (nI mK)) (C := RX3) (T := TX3) (N := 15) hx hb hts hinX3 hown hK.1 hP 0 rfl rfl 1 (by decide) hf41 (fun _ h9 => h9) rfl dX3_addKey_41 ?_
          refine kc_tst (j := j) (N := mK) (tgt := 69) hx hb dX3_addKey_44 (by decide) hj_39 (by omega) (fun hN => ?_) (fun hlt_39 => ?_)
          · subst hN
            exact absurd ht (jAny_f (fun i hi => by simpa using he_39 i hi))
          · refine lv_aload_n hx hb dX3_addKey_47 rfl (lv_at hl 1 rfl) ?_
            refine va_get (D := D) (ci := 3) (v := .ref (md 1)) (C := RX3) (T := TX3) (N := 15) hx hb hts hinX3 hown hK.1 hP 0 rfl rfl 2 (by decide) hf9 (fun _ h9 => h9) rfl dX3_addKey_48 ?_
            refine lv_iload_n hx hb dX3_addKey_51 rfl (lv_at hl 0 rfl) ?_
            refine kc_ald (i := j) (n := 8) hx hb hK hP 1 0 rfl rfl (by omega) (by decide) dX3_addKey_52 ?_
            refine lv_iload_n hx hb dX3_addKey_53 rfl (lv_at hl 2 rfl) ?_
            refine lv_icmp_ne (tgt := 63) hx hb dX3_addKey_54 (by decide) (fun c_54 => ?_) (fun c_54 => ?_)
            · refine lv_iinc (v := nI (j + 1)) (lv' := [(2, .int (nI (j + 1))), (0, .ref (md 0)), (1, .int code)]) hx hb dX3_addKey_63 hl (k := 0) rfl (kc_inc j) (by decide) rfl (fun ls hl => ?_)
              refine lv_goto (tgt := 39) hx hb dX3_addKey_66 (by decide) ?_
              refine ih_39 _ hlt_39 ?_
              show lv_has _ 3 [(2, .int (nI (j + 1))), (0, .ref (md 0)), (1, .int code)] ∧ ∀ i, i < (j + 1) → ¬ mc i = code
              exact ⟨lv_sub hl [0, 1, 2] rfl, lt_s he_39 c_54⟩
            · refine lv_aload_n hx hb dX3_addKey_57 rfl (lv_at hl 1 rfl) ?_
              refine lv_iconst (v := 2) hx hb dX3_addKey_58 (by decide) ?_
              refine kc_wVi (w1 := wMd md cI 2 mK mc mD mr mw my mC mk ms mu mt mp mb me) (wr := []) (ws1 := wMd md cI 2 mK mc mD mr mw my mC mk ms mu mt mp mb me) (As := [.int 2]) (rest := []) ⟨hx, hb, hml, hown, hts⟩ (c_X3_fail l D md cI 0 mK mc mD mr mw my mC mk ms mu mt mp mb me 2 H.size ) (cwV 1 hts gX3_addKey_X3_fail rfl rfl rfl (by decide +kernel) ⟨Nat.le_of_ble_eq_true rfl, Nat.le_of_ble_eq_true rfl⟩) hK hP hD hS hA [0, 1, 2, 3, 4, 5, 6, 7, 8, 9] [] [0, 1, 2, 3, 4, 5, 6, 7, 8, 9] [0] rfl rfl rfl rfl (by decide) rfl rfl rfl 0 rfl rfl rfl rfl hl.1 rfl (Nat.le_of_ble_eq_true rfl) dX3_addKey_59 ⟨Nat.le_of_ble_eq_true rfl, Nat.le_of_ble_eq_true rfl⟩ (fun H locs hP hD hS => ?_)
              exact W.iret (v := 0) hx hb hr (fun tZ htZ hWZ => ⟨⟨_, (), rfl, rfl, by rw [htZ]; exact hP, by rw [hAe]; exact hD⟩, hS.F htZ⟩) hS.2.2 dX3_addKey_62
        · exact ⟨lv_sub hl [0, 1, 2] rfl, (fun _ h => absurd h (Nat.not_lt_zero _))⟩
      · exact absurd ((nI_eq (a := mK) (b := 8) (by omega) (by omega)).mp c_28) (by omega)
    · exact absurd h2 c_13
set_option maxHeartbeats 4000000 in
set_option maxRecDepth 100000 in
theorem c_X3_addKey_ok (l : Launch) (D : va_G) (md : Nat → Nat) (cI : ClassId) (th : Int32) (mK : Nat) (mc : Nat → Int32) (mD : Nat) (mr : Nat → Int32) (mw : Int32) (my : Int32) (mC : Nat) (mk : Nat → Int32) (ms : Nat → Int32) (mu : Nat → Int32) (mt : Nat → Int32) (mp : Nat → Int32) (mb : Nat → Int32) (me : Nat → Int32) (code : Int32) (sz : Nat) (h1 : ¬ code < 0) (h2 : code < 1024) (hK7 : mK < 8) (hf : ¬ jTaken mc mK code = true) : Met l yX3_addKey wsX3_addKey ({ frames := 0, cells := 0, slots := 0, locals := 0 } : Room) (wrP [.ref (md 0), .int code] D sz (wMd md cI th mK mc mD mr mw my mC mk ms mu mt mp mb me) [(cI, .int)]) (va_Qi (fun rZ (_ : Unit) => rZ = nI mK) (wrB D sz (wMd md cI th mK mc mD mr mw my mC mk ms mu mt mp mb me) (wMd md cI 0 (mK + 1) (upd mc mK code) mD mr mw my mC mk ms mu mt mp mb me)) (va_A (wMd md cI th mK mc mD mr mw my mC mk ms mu mt mp mb me) sz)) 0 0 (va_A (wMd md cI th mK mc mD mr mw my mC mk ms mu mt mp mb me) sz) := by
  refine Met.ofW (cc := cX3_addKey) (maxL := 3) (ret := (some .int)) (by decide) rfl ?_
  intro p e s m args below meth c s₁ B hml hv
  obtain ⟨rfl, hsz, hP, hD0, hK⟩ := hv
  have hx := B.exec
  have hb := B.bytes
  have hr := B.returns
  have hts := atoms_spec (ws := wsX3_addKey) B.pre
  have hown : s.vm.findClass RX3 = some m.cls := findClass_of_methodNamed B.named
  have hlocks := B.notSynchronized
  subst hsz
  have hD := hD0.self (sz := s.heap.size)
  generalize hAe : va_A (wMd md cI th mK mc mD mr mw my mC mk ms mu mt mp mb me) s.heap.size = A at hD ⊢
  have hA : ∀ q : Nat, s.heap.size ≤ q → A q := fun q h => by rw [← hAe]; exact Or.inr h
  have hinX3 : ∀ w ∈ u_ws RX3 TX3 15, w ∈ wsX3_addKey := by decide +kernel
  have hf37 := hts (.fieldLink RX3 37 "KeyCabinetModel" "thrown" "I") (by decide +kernel)
  have hf41 := hts (.fieldLink RX3 41 "KeyCabinetModel" "keys" "I") (by decide +kernel)
  have hf9 := hts (.fieldLink RX3 9 "KeyCabinetModel" "codes" "[I") (by decide +kernel)
  have hl := lv_entry ([.ref (md 0), .int code]) (n := 3) (Nat.le_of_ble_eq_true rfl)
  rw [lg_entry_eq]
  generalize (lg_sl ([.ref (md 0), .int code]) ++ List.replicate (3 - (lg_sl ([.ref (md 0), .int code])).length) Slot.unset).toArray = ls at hl ⊢
  have hl : lv_has ls 3 [(0, .ref (md 0)), (1, .int code)] := hl
  refine W.genH (fun H locs eH eL => ?_)
  have hS : va_S A s.heap H locs := by rw [eH, eL]; exact va_S.rf
  have hP : va_P D vwCl (wMd md cI th mK mc mD mr mw my mC mk ms mu mt mp mb me) H := by rw [eH]; exact hP
  clear eH eL
  refine lv_aload_n hx hb dX3_addKey_0 rfl (lv_at hl 0 rfl) ?_
  refine lv_iconst (v := 0) hx hb dX3_addKey_1 (by decide) ?_
  refine va_put (D := D) (ci := 3) (v := .int 0) (ty := .int) (C := RX3) (T := TX3) (N := 15) hx hb hts hinX3 tyX3 tyX3_ok nmX3 hown hK.1 hP hD hS 0 rfl rfl 0 (by decide) hf37 (fun _ h9 => h9) rfl (by decide +kernel) rfl rfl (Nat.le_of_ble_eq_true rfl) dX3_addKey_2 (fun H locs hP hD hS => ?_)
  have hP : va_P D vwCl (wMd md cI 0 mK mc mD mr mw my mC mk ms mu mt mp mb me) H := hP
  have hD : va_D A (wMd md cI 0 mK mc mD mr mw my mC mk ms mu mt mp mb me) := hD
  refine lv_iload_n hx hb dX3_addKey_5 rfl (lv_at hl 1 rfl) ?_
  refine lv_if_lt (tgt := 16) hx hb dX3_addKey_6 (by decide) (fun c_6 => ?_) (fun c_6 => ?_)
  · exact absurd c_6 h1
  · refine lv_iload_n hx hb dX3_addKey_9 rfl (lv_at hl 1 rfl) ?_
    refine lv_sipush (v := 1024) hx hb dX3_addKey_10 (by decide) ?_
    refine lv_icmp_lt (tgt := 22) hx hb dX3_addKey_13 (by decide) (fun c_13 => ?_) (fun c_13 => ?_)
    · refine lv_aload_n hx hb dX3_addKey_22 rfl (lv_at hl 0 rfl) ?_
      refine va_get (D := D) (ci := 3) (v := .int (nI mK)) (C := RX3) (T := TX3) (N := 15) hx hb hts hinX3 hown hK.1 hP 0 rfl rfl 1 (by decide) hf41 (fun _ h9 => h9) rfl dX3_addKey_23 ?_
      refine lv_bipush (v := 8) hx hb dX3_addKey_26 (by decide) ?_
      refine lv_icmp_ne (tgt := 37) hx hb dX3_addKey_28 (by decide) (fun c_28 => ?_) (fun c_28 => ?_)
      · refine lv_iconst (v := 0) hx hb dX3_addKey_37 (by decide) ?_
        refine lv_istore_n (lv' := [(2, .int 0), (0, .ref (md 0)), (1, .int code)]) hx hb dX3_addKey_38 rfl hl (by decide) rfl (fun ls hl => ?_)
        refine kc_forW (pc := 39) (N := mK) (P := fun j ls => lv_has ls 3 [(2, .int (nI j)), (0, .ref (md 0)), (1, .int code)] ∧ ∀ i, i < j → ¬ mc i = code) (fun j ls hj_39 hp ih_39 => ?_) ls ?_
        · obtain ⟨hl, he_39⟩ := hp
          refine lv_iload_n hx hb dX3_addKey_39 rfl (lv_at hl 0 rfl) ?_
          refine lv_aload_n hx hb dX3_addKey_40 rfl (lv_at hl 1 rfl) ?_
          refine va_get (D := D) (ci := 3) (v := .int (nI mK)) (C := RX3) (T := TX3) (N := 15) hx hb hts hinX3 hown hK.1 hP 0 rfl rfl 1 (by decide) hf41 (fun _ h9 => h9) rfl dX3_addKey_41 ?_
          refine kc_tst (j := j) (N := mK) (tgt := 69) hx hb dX3_addKey_44 (by decide) hj_39 (by omega) (fun hN => ?_) (fun hlt_39 => ?_)
          · subst hN
            refine lv_aload_n hx hb dX3_addKey_69 rfl (lv_at hl 1 rfl) ?_
            refine va_get (D := D) (ci := 3) (v := .ref (md 1)) (C := RX3) (T := TX3) (N := 15) hx hb hts hinX3 hown hK.1 hP 0 rfl rfl 2 (by decide) hf9 (fun _ h9 => h9) rfl dX3_addKey_70 ?_
            refine lv_aload_n hx hb dX3_addKey_73 rfl (lv_at hl 1 rfl) ?_
            refine va_get (D := D) (ci := 3) (v := .int (nI mK)) (C := RX3) (T := TX3) (N := 15) hx hb hts hinX3 hown hK.1 hP 0 rfl rfl 1 (by decide) hf41 (fun _ h9 => h9) rfl dX3_addKey_74 ?_
            refine lv_iload_n hx hb dX3_addKey_77 rfl (lv_at hl 2 rfl) ?_
            refine kc_ast (i := mK) (n := 8) hx hb hK hP hD hS 1 0 rfl rfl (by omega) (by decide) dX3_addKey_78 (fun H locs hP hD hS => ?_)
            have hP : va_P D vwCl (wMd md cI 0 mK (upd mc mK code) mD mr mw my mC mk ms mu mt mp mb me) H := hP
            have hD : va_D A (wMd md cI 0 mK (upd mc mK code) mD mr mw my mC mk ms mu mt mp mb me) := hD
            refine lv_aload_n hx hb dX3_addKey_79 rfl (lv_at hl 1 rfl) ?_
            refine lv_dup hx hb dX3_addKey_80 rfl ?_
            refine va_get (D := D) (ci := 3) (v := .int (nI mK)) (C := RX3) (T := TX3) (N := 15) hx hb hts hinX3 hown hK.1 hP 0 rfl rfl 1 (by decide) hf41 (fun _ h9 => h9) rfl dX3_addKey_81 ?_
            refine lv_iconst (v := 1) hx hb dX3_addKey_84 (by decide) ?_
            refine lv_iadd hx hb dX3_addKey_85 ?_
            refine kc_top (show (nI mK) + 1 = nI (mK + 1) from nI_add _ _) ?_
            refine va_put (D := D) (ci := 3) (v := .int (nI (mK + 1))) (ty := .int) (C := RX3) (T := TX3) (N := 15) hx hb hts hinX3 tyX3 tyX3_ok nmX3 hown hK.1 hP hD hS 0 rfl rfl 1 (by decide) hf41 (fun _ h9 => h9) rfl (by decide +kernel) rfl rfl (Nat.le_of_ble_eq_true rfl) dX3_addKey_86 (fun H locs hP hD hS => ?_)
            have hP : va_P D vwCl (wMd md cI 0 (mK + 1) (upd mc mK code) mD mr mw my mC mk ms mu mt mp mb me) H := hP
            have hD : va_D A (wMd md cI 0 (mK + 1) (upd mc mK code) mD mr mw my mC mk ms mu mt mp mb me) := hD
            refine lv_aload_n hx hb dX3_addKey_89 rfl (lv_at hl 1 rfl) ?_
            refine va_get (D := D) (ci := 3) (v := .int (nI (mK + 1))) (C := RX3) (T := TX3) (N := 15) hx hb hts hinX3 hown hK.1 hP 0 rfl rfl 1 (by decide) hf41 (fun _ h9 => h9) rfl dX3_addKey_90 ?_
            refine lv_iconst (v := 1) hx hb dX3_addKey_93 (by decide) ?_
            refine lv_isub hx hb dX3_addKey_94 ?_
            refine kc_top (show (nI (mK + 1)) - 1 = nI mK from nI_pred mK) ?_
            exact W.iret (v := nI mK) hx hb hr (fun tZ htZ hWZ => ⟨⟨_, (), rfl, rfl, by rw [htZ]; exact hP, by rw [hAe]; exact hD⟩, hS.F htZ⟩) hS.2.2 dX3_addKey_95
          · refine lv_aload_n hx hb dX3_addKey_47 rfl (lv_at hl 1 rfl) ?_
            refine va_get (D := D) (ci := 3) (v := .ref (md 1)) (C := RX3) (T := TX3) (N := 15) hx hb hts hinX3 hown hK.1 hP 0 rfl rfl 2 (by decide) hf9 (fun _ h9 => h9) rfl dX3_addKey_48 ?_
            refine lv_iload_n hx hb dX3_addKey_51 rfl (lv_at hl 0 rfl) ?_
            refine kc_ald (i := j) (n := 8) hx hb hK hP 1 0 rfl rfl (by omega) (by decide) dX3_addKey_52 ?_
            refine lv_iload_n hx hb dX3_addKey_53 rfl (lv_at hl 2 rfl) ?_
            refine lv_icmp_ne (tgt := 63) hx hb dX3_addKey_54 (by decide) (fun c_54 => ?_) (fun c_54 => ?_)
            · refine lv_iinc (v := nI (j + 1)) (lv' := [(2, .int (nI (j + 1))), (0, .ref (md 0)), (1, .int code)]) hx hb dX3_addKey_63 hl (k := 0) rfl (kc_inc j) (by decide) rfl (fun ls hl => ?_)
              refine lv_goto (tgt := 39) hx hb dX3_addKey_66 (by decide) ?_
              refine ih_39 _ hlt_39 ?_
              show lv_has _ 3 [(2, .int (nI (j + 1))), (0, .ref (md 0)), (1, .int code)] ∧ ∀ i, i < (j + 1) → ¬ mc i = code
              exact ⟨lv_sub hl [0, 1, 2] rfl, lt_s he_39 c_54⟩
            · exact absurd (jAny_t j hlt_39 (decide_eq_true c_54)) hf
        · exact ⟨lv_sub hl [0, 1, 2] rfl, (fun _ h => absurd h (Nat.not_lt_zero _))⟩
      · exact absurd ((nI_eq (a := mK) (b := 8) (by omega) (by omega)).mp c_28) (by omega)
    · exact absurd h2 c_13
set_option maxHeartbeats 4000000 in
set_option maxRecDepth 100000 in
theorem c_X3_addDoor_f1 (l : Launch) (D : va_G) (md : Nat → Nat) (cI : ClassId) (th : Int32) (mK : Nat) (mc : Nat → Int32) (mD : Nat) (mr : Nat → Int32) (mw : Int32) (my : Int32) (mC : Nat) (mk : Nat → Int32) (ms : Nat → Int32) (mu : Nat → Int32) (mt : Nat → Int32) (mp : Nat → Int32) (mb : Nat → Int32) (me : Nat → Int32) (r : Int32) (sz : Nat) (hBad : ¬ jSet mK r = true) : Met l yX3_addDoor wsX3_addDoor ({ frames := 1, cells := 0, slots := 0, locals := 21 } : Room) (wrP [.ref (md 0), .int r] D sz (wMd md cI th mK mc mD mr mw my mC mk ms mu mt mp mb me) [(cI, .int)]) (va_Qi (fun rZ (_ : Unit) => rZ = 0) (wrB D sz (wMd md cI th mK mc mD mr mw my mC mk ms mu mt mp mb me) (wMd md cI 1 mK mc mD mr mw my mC mk ms mu mt mp mb me)) (va_A (wMd md cI th mK mc mD mr mw my mC mk ms mu mt mp mb me) sz)) 0 0 (va_A (wMd md cI th mK mc mD mr mw my mC mk ms mu mt mp mb me) sz) := by
  refine Met.ofW (cc := cX3_addDoor) (maxL := 2) (ret := (some .int)) (by decide) rfl ?_
  intro p e s m args below meth c s₁ B hml hv
  obtain ⟨rfl, hsz, hP, hD0, hK⟩ := hv
  have hx := B.exec
  have hb := B.bytes
  have hr := B.returns
  have hts := atoms_spec (ws := wsX3_addDoor) B.pre
  have hown : s.vm.findClass RX3 = some m.cls := findClass_of_methodNamed B.named
  have hlocks := B.notSynchronized
  subst hsz
  have hD := hD0.self (sz := s.heap.size)
  generalize hAe : va_A (wMd md cI th mK mc mD mr mw my mC mk ms mu mt mp mb me) s.heap.size = A at hD ⊢
  have hA : ∀ q : Nat, s.heap.size ≤ q → A q := fun q h => by rw [← hAe]; exact Or.inr h
  have hinX3 : ∀ w ∈ u_ws RX3 TX3 15, w ∈ wsX3_addDoor := by decide +kernel
  have hf37 := hts (.fieldLink RX3 37 "KeyCabinetModel" "thrown" "I") (by decide +kernel)
  have hl := lv_entry ([.ref (md 0), .int r]) (n := 2) (Nat.le_of_ble_eq_true rfl)
  rw [lg_entry_eq]
  generalize (lg_sl ([.ref (md 0), .int r]) ++ List.replicate (2 - (lg_sl ([.ref (md 0), .int r])).length) Slot.unset).toArray = ls at hl ⊢
  have hl : lv_has ls 2 [(0, .ref (md 0)), (1, .int r)] := hl
  refine W.genH (fun H locs eH eL => ?_)
  have hS : va_S A s.heap H locs := by rw [eH, eL]; exact va_S.rf
  have hP : va_P D vwCl (wMd md cI th mK mc mD mr mw my mC mk ms mu mt mp mb me) H := by rw [eH]; exact hP
  clear eH eL
  refine lv_aload_n hx hb dX3_addDoor_0 rfl (lv_at hl 0 rfl) ?_
  refine lv_iconst (v := 0) hx hb dX3_addDoor_1 (by decide) ?_
  refine va_put (D := D) (ci := 3) (v := .int 0) (ty := .int) (C := RX3) (T := TX3) (N := 15) hx hb hts hinX3 tyX3 tyX3_ok nmX3 hown hK.1 hP hD hS 0 rfl rfl 0 (by decide) hf37 (fun _ h9 => h9) rfl (by decide +kernel) rfl rfl (Nat.le_of_ble_eq_true rfl) dX3_addDoor_2 (fun H locs hP hD hS => ?_)
  have hP : va_P D vwCl (wMd md cI 0 mK mc mD mr mw my mC mk ms mu mt mp mb me) H := hP
  have hD : va_D A (wMd md cI 0 mK mc mD mr mw my mC mk ms mu mt mp mb me) := hD
  refine lv_aload_n hx hb dX3_addDoor_5 rfl (lv_at hl 0 rfl) ?_
  refine lv_iload_n hx hb dX3_addDoor_6 rfl (lv_at hl 1 rfl) ?_
  refine kc_rVi (As := [.int r]) (rest := []) ⟨hx, hb, hml, hown, hts⟩ (c_X3_areKeys l D md cI 0 mK mc mD mr mw my mC mk ms mu mt mp mb me r ) (cwV 1 hts gX3_addDoor_X3_areKeys rfl rfl rfl (by decide +kernel) ⟨Nat.le_of_ble_eq_true rfl, Nat.le_of_ble_eq_true rfl⟩) hK hP [0, 1, 2, 3, 4, 5, 6, 7, 8, 9] [0] rfl rfl 0 rfl rfl rfl rfl hl.1 rfl (Nat.le_of_ble_eq_true rfl) dX3_addDoor_7 ⟨Nat.le_of_ble_eq_true rfl, Nat.le_of_ble_eq_true rfl⟩ ?_
  refine kc_ifneB (tgt := 19) hx hb dX3_addDoor_10 (by decide) (fun c_10 => ?_) (fun c_10 => ?_)
  · exact absurd c_10 hBad
  · refine lv_aload_n hx hb dX3_addDoor_13 rfl (lv_at hl 0 rfl) ?_
    refine lv_iconst (v := 1) hx hb dX3_addDoor_14 (by decide) ?_
    refine kc_wVi (w1 := wMd md cI 1 mK mc mD mr mw my mC mk ms mu mt mp mb me) (wr := []) (ws1 := wMd md cI 1 mK mc mD mr mw my mC mk ms mu mt mp mb me) (As := [.int 1]) (rest := []) ⟨hx, hb, hml, hown, hts⟩ (c_X3_fail l D md cI 0 mK mc mD mr mw my mC mk ms mu mt mp mb me 1 H.size ) (cwV 1 hts gX3_addDoor_X3_fail rfl rfl rfl (by decide +kernel) ⟨Nat.le_of_ble_eq_true rfl, Nat.le_of_ble_eq_true rfl⟩) hK hP hD hS hA [0, 1, 2, 3, 4, 5, 6, 7, 8, 9] [] [0, 1, 2, 3, 4, 5, 6, 7, 8, 9] [0] rfl rfl rfl rfl (by decide) rfl rfl rfl 0 rfl rfl rfl rfl hl.1 rfl (Nat.le_of_ble_eq_true rfl) dX3_addDoor_15 ⟨Nat.le_of_ble_eq_true rfl, Nat.le_of_ble_eq_true rfl⟩ (fun H locs hP hD hS => ?_)
    exact W.iret (v := 0) hx hb hr (fun tZ htZ hWZ => ⟨⟨_, (), rfl, rfl, by rw [htZ]; exact hP, by rw [hAe]; exact hD⟩, hS.F htZ⟩) hS.2.2 dX3_addDoor_18
set_option maxHeartbeats 4000000 in
set_option maxRecDepth 100000 in
theorem c_X3_addDoor_f2 (l : Launch) (D : va_G) (md : Nat → Nat) (cI : ClassId) (th : Int32) (mK : Nat) (mc : Nat → Int32) (mD : Nat) (mr : Nat → Int32) (mw : Int32) (my : Int32) (mC : Nat) (mk : Nat → Int32) (ms : Nat → Int32) (mu : Nat → Int32) (mt : Nat → Int32) (mp : Nat → Int32) (mb : Nat → Int32) (me : Nat → Int32) (r : Int32) (sz : Nat) (hs : jSet mK r = true) (hDe : mD = 8) : Met l yX3_addDoor wsX3_addDoor ({ frames := 1, cells := 0, slots := 0, locals := 21 } : Room) (wrP [.ref (md 0), .int r] D sz (wMd md cI th mK mc mD mr mw my mC mk ms mu mt mp mb me) [(cI, .int)]) (va_Qi (fun rZ (_ : Unit) => rZ = 0) (wrB D sz (wMd md cI th mK mc mD mr mw my mC mk ms mu mt mp mb me) (wMd md cI 2 mK mc mD mr mw my mC mk ms mu mt mp mb me)) (va_A (wMd md cI th mK mc mD mr mw my mC mk ms mu mt mp mb me) sz)) 0 0 (va_A (wMd md cI th mK mc mD mr mw my mC mk ms mu mt mp mb me) sz) := by
  refine Met.ofW (cc := cX3_addDoor) (maxL := 2) (ret := (some .int)) (by decide) rfl ?_
  intro p e s m args below meth c s₁ B hml hv
  obtain ⟨rfl, hsz, hP, hD0, hK⟩ := hv
  have hx := B.exec
  have hb := B.bytes
  have hr := B.returns
  have hts := atoms_spec (ws := wsX3_addDoor) B.pre
  have hown : s.vm.findClass RX3 = some m.cls := findClass_of_methodNamed B.named
  have hlocks := B.notSynchronized
  subst hsz
  have hD := hD0.self (sz := s.heap.size)
  generalize hAe : va_A (wMd md cI th mK mc mD mr mw my mC mk ms mu mt mp mb me) s.heap.size = A at hD ⊢
  have hA : ∀ q : Nat, s.heap.size ≤ q → A q := fun q h => by rw [← hAe]; exact Or.inr h
  have hinX3 : ∀ w ∈ u_ws RX3 TX3 15, w ∈ wsX3_addDoor := by decide +kernel
  have hf37 := hts (.fieldLink RX3 37 "KeyCabinetModel" "thrown" "I") (by decide +kernel)
  have hf44 := hts (.fieldLink RX3 44 "KeyCabinetModel" "doors" "I") (by decide +kernel)
  have hl := lv_entry ([.ref (md 0), .int r]) (n := 2) (Nat.le_of_ble_eq_true rfl)
  rw [lg_entry_eq]
  generalize (lg_sl ([.ref (md 0), .int r]) ++ List.replicate (2 - (lg_sl ([.ref (md 0), .int r])).length) Slot.unset).toArray = ls at hl ⊢
  have hl : lv_has ls 2 [(0, .ref (md 0)), (1, .int r)] := hl
  refine W.genH (fun H locs eH eL => ?_)
  have hS : va_S A s.heap H locs := by rw [eH, eL]; exact va_S.rf
  have hP : va_P D vwCl (wMd md cI th mK mc mD mr mw my mC mk ms mu mt mp mb me) H := by rw [eH]; exact hP
  clear eH eL
  refine lv_aload_n hx hb dX3_addDoor_0 rfl (lv_at hl 0 rfl) ?_
  refine lv_iconst (v := 0) hx hb dX3_addDoor_1 (by decide) ?_
  refine va_put (D := D) (ci := 3) (v := .int 0) (ty := .int) (C := RX3) (T := TX3) (N := 15) hx hb hts hinX3 tyX3 tyX3_ok nmX3 hown hK.1 hP hD hS 0 rfl rfl 0 (by decide) hf37 (fun _ h9 => h9) rfl (by decide +kernel) rfl rfl (Nat.le_of_ble_eq_true rfl) dX3_addDoor_2 (fun H locs hP hD hS => ?_)
  have hP : va_P D vwCl (wMd md cI 0 mK mc mD mr mw my mC mk ms mu mt mp mb me) H := hP
  have hD : va_D A (wMd md cI 0 mK mc mD mr mw my mC mk ms mu mt mp mb me) := hD
  refine lv_aload_n hx hb dX3_addDoor_5 rfl (lv_at hl 0 rfl) ?_
  refine lv_iload_n hx hb dX3_addDoor_6 rfl (lv_at hl 1 rfl) ?_
  refine kc_rVi (As := [.int r]) (rest := []) ⟨hx, hb, hml, hown, hts⟩ (c_X3_areKeys l D md cI 0 mK mc mD mr mw my mC mk ms mu mt mp mb me r ) (cwV 1 hts gX3_addDoor_X3_areKeys rfl rfl rfl (by decide +kernel) ⟨Nat.le_of_ble_eq_true rfl, Nat.le_of_ble_eq_true rfl⟩) hK hP [0, 1, 2, 3, 4, 5, 6, 7, 8, 9] [0] rfl rfl 0 rfl rfl rfl rfl hl.1 rfl (Nat.le_of_ble_eq_true rfl) dX3_addDoor_7 ⟨Nat.le_of_ble_eq_true rfl, Nat.le_of_ble_eq_true rfl⟩ ?_
  refine kc_ifneB (tgt := 19) hx hb dX3_addDoor_10 (by decide) (fun c_10 => ?_) (fun c_10 => ?_)
  · refine lv_aload_n hx hb dX3_addDoor_19 rfl (lv_at hl 0 rfl) ?_
    refine va_get (D := D) (ci := 3) (v := .int (nI mD)) (C := RX3) (T := TX3) (N := 15) hx hb hts hinX3 hown hK.1 hP 0 rfl rfl 3 (by decide) hf44 (fun _ h9 => h9) rfl dX3_addDoor_20 ?_
    refine lv_bipush (v := 8) hx hb dX3_addDoor_23 (by decide) ?_
    refine lv_icmp_ne (tgt := 34) hx hb dX3_addDoor_25 (by decide) (fun c_25 => ?_) (fun c_25 => ?_)
    · exact absurd (by rw [hDe]; rfl) c_25
    · refine lv_aload_n hx hb dX3_addDoor_28 rfl (lv_at hl 0 rfl) ?_
      refine lv_iconst (v := 2) hx hb dX3_addDoor_29 (by decide) ?_
      refine kc_wVi (w1 := wMd md cI 2 mK mc mD mr mw my mC mk ms mu mt mp mb me) (wr := []) (ws1 := wMd md cI 2 mK mc mD mr mw my mC mk ms mu mt mp mb me) (As := [.int 2]) (rest := []) ⟨hx, hb, hml, hown, hts⟩ (c_X3_fail l D md cI 0 mK mc mD mr mw my mC mk ms mu mt mp mb me 2 H.size ) (cwV 1 hts gX3_addDoor_X3_fail rfl rfl rfl (by decide +kernel) ⟨Nat.le_of_ble_eq_true rfl, Nat.le_of_ble_eq_true rfl⟩) hK hP hD hS hA [0, 1, 2, 3, 4, 5, 6, 7, 8, 9] [] [0, 1, 2, 3, 4, 5, 6, 7, 8, 9] [0] rfl rfl rfl rfl (by decide) rfl rfl rfl 0 rfl rfl rfl rfl hl.1 rfl (Nat.le_of_ble_eq_true rfl) dX3_addDoor_30 ⟨Nat.le_of_ble_eq_true rfl, Nat.le_of_ble_eq_true rfl⟩ (fun H locs hP hD hS => ?_)
      exact W.iret (v := 0) hx hb hr (fun tZ htZ hWZ => ⟨⟨_, (), rfl, rfl, by rw [htZ]; exact hP, by rw [hAe]; exact hD⟩, hS.F htZ⟩) hS.2.2 dX3_addDoor_33
  · exact absurd hs c_10
set_option maxHeartbeats 4000000 in
set_option maxRecDepth 100000 in
theorem c_X3_addDoor_ok (l : Launch) (D : va_G) (md : Nat → Nat) (cI : ClassId) (th : Int32) (mK : Nat) (mc : Nat → Int32) (mD : Nat) (mr : Nat → Int32) (mw : Int32) (my : Int32) (mC : Nat) (mk : Nat → Int32) (ms : Nat → Int32) (mu : Nat → Int32) (mt : Nat → Int32) (mp : Nat → Int32) (mb : Nat → Int32) (me : Nat → Int32) (r : Int32) (sz : Nat) (hK8 : mK ≤ 8) (hs : jSet mK r = true) (hD7 : mD < 8) : Met l yX3_addDoor wsX3_addDoor ({ frames := 3, cells := 0, slots := 0, locals := 68 } : Room) (wrP [.ref (md 0), .int r] D sz (wMd md cI th mK mc mD mr mw my mC mk ms mu mt mp mb me) [(cI, .int)]) (va_Qi (fun rZ (_ : Unit) => rZ = nI mD) (wrB D sz (wMd md cI th mK mc mD mr mw my mC mk ms mu mt mp mb me) (wMd md cI 0 mK mc (mD + 1) (upd mr mD r) (mw + jPop (mAll (upd mr mD r) mc mK mD 5)) my mC mk ms mu mt mp mb me)) (va_A (wMd md cI th mK mc mD mr mw my mC mk ms mu mt mp mb me) sz)) 0 0 (va_A (wMd md cI th mK mc mD mr mw my mC mk ms mu mt mp mb me) sz) := by
  refine Met.ofW (cc := cX3_addDoor) (maxL := 2) (ret := (some .int)) (by decide) rfl ?_
  intro p e s m args below meth c s₁ B hml hv
  obtain ⟨rfl, hsz, hP, hD0, hK⟩ := hv
  have hx := B.exec
  have hb := B.bytes
  have hr := B.returns
  have hts := atoms_spec (ws := wsX3_addDoor) B.pre
  have hown : s.vm.findClass RX3 = some m.cls := findClass_of_methodNamed B.named
  have hlocks := B.notSynchronized
  subst hsz
  have hD := hD0.self (sz := s.heap.size)
  generalize hAe : va_A (wMd md cI th mK mc mD mr mw my mC mk ms mu mt mp mb me) s.heap.size = A at hD ⊢
  have hA : ∀ q : Nat, s.heap.size ≤ q → A q := fun q h => by rw [← hAe]; exact Or.inr h
  have hinX3 : ∀ w ∈ u_ws RX3 TX3 15, w ∈ wsX3_addDoor := by decide +kernel
  have hf37 := hts (.fieldLink RX3 37 "KeyCabinetModel" "thrown" "I") (by decide +kernel)
  have hf44 := hts (.fieldLink RX3 44 "KeyCabinetModel" "doors" "I") (by decide +kernel)
  have hf13 := hts (.fieldLink RX3 13 "KeyCabinetModel" "rights" "[I") (by decide +kernel)
  have hf72 := hts (.fieldLink RX3 72 "KeyCabinetModel" "work" "I") (by decide +kernel)
  have hl := lv_entry ([.ref (md 0), .int r]) (n := 2) (Nat.le_of_ble_eq_true rfl)
  rw [lg_entry_eq]
  generalize (lg_sl ([.ref (md 0), .int r]) ++ List.replicate (2 - (lg_sl ([.ref (md 0), .int r])).length) Slot.unset).toArray = ls at hl ⊢
  have hl : lv_has ls 2 [(0, .ref (md 0)), (1, .int r)] := hl
  refine W.genH (fun H locs eH eL => ?_)
  have hS : va_S A s.heap H locs := by rw [eH, eL]; exact va_S.rf
  have hP : va_P D vwCl (wMd md cI th mK mc mD mr mw my mC mk ms mu mt mp mb me) H := by rw [eH]; exact hP
  clear eH eL
  refine lv_aload_n hx hb dX3_addDoor_0 rfl (lv_at hl 0 rfl) ?_
  refine lv_iconst (v := 0) hx hb dX3_addDoor_1 (by decide) ?_
  refine va_put (D := D) (ci := 3) (v := .int 0) (ty := .int) (C := RX3) (T := TX3) (N := 15) hx hb hts hinX3 tyX3 tyX3_ok nmX3 hown hK.1 hP hD hS 0 rfl rfl 0 (by decide) hf37 (fun _ h9 => h9) rfl (by decide +kernel) rfl rfl (Nat.le_of_ble_eq_true rfl) dX3_addDoor_2 (fun H locs hP hD hS => ?_)
  have hP : va_P D vwCl (wMd md cI 0 mK mc mD mr mw my mC mk ms mu mt mp mb me) H := hP
  have hD : va_D A (wMd md cI 0 mK mc mD mr mw my mC mk ms mu mt mp mb me) := hD
  refine lv_aload_n hx hb dX3_addDoor_5 rfl (lv_at hl 0 rfl) ?_
  refine lv_iload_n hx hb dX3_addDoor_6 rfl (lv_at hl 1 rfl) ?_
  refine kc_rVi (As := [.int r]) (rest := []) ⟨hx, hb, hml, hown, hts⟩ (c_X3_areKeys l D md cI 0 mK mc mD mr mw my mC mk ms mu mt mp mb me r ) (cwV 1 hts gX3_addDoor_X3_areKeys rfl rfl rfl (by decide +kernel) ⟨Nat.le_of_ble_eq_true rfl, Nat.le_of_ble_eq_true rfl⟩) hK hP [0, 1, 2, 3, 4, 5, 6, 7, 8, 9] [0] rfl rfl 0 rfl rfl rfl rfl hl.1 rfl (Nat.le_of_ble_eq_true rfl) dX3_addDoor_7 ⟨Nat.le_of_ble_eq_true rfl, Nat.le_of_ble_eq_true rfl⟩ ?_
  refine kc_ifneB (tgt := 19) hx hb dX3_addDoor_10 (by decide) (fun c_10 => ?_) (fun c_10 => ?_)
  · refine lv_aload_n hx hb dX3_addDoor_19 rfl (lv_at hl 0 rfl) ?_
    refine va_get (D := D) (ci := 3) (v := .int (nI mD)) (C := RX3) (T := TX3) (N := 15) hx hb hts hinX3 hown hK.1 hP 0 rfl rfl 3 (by decide) hf44 (fun _ h9 => h9) rfl dX3_addDoor_20 ?_
    refine lv_bipush (v := 8) hx hb dX3_addDoor_23 (by decide) ?_
    refine lv_icmp_ne (tgt := 34) hx hb dX3_addDoor_25 (by decide) (fun c_25 => ?_) (fun c_25 => ?_)
    · refine lv_aload_n hx hb dX3_addDoor_34 rfl (lv_at hl 0 rfl) ?_
      refine va_get (D := D) (ci := 3) (v := .ref (md 2)) (C := RX3) (T := TX3) (N := 15) hx hb hts hinX3 hown hK.1 hP 0 rfl rfl 4 (by decide) hf13 (fun _ h9 => h9) rfl dX3_addDoor_35 ?_
      refine lv_aload_n hx hb dX3_addDoor_38 rfl (lv_at hl 0 rfl) ?_
      refine va_get (D := D) (ci := 3) (v := .int (nI mD)) (C := RX3) (T := TX3) (N := 15) hx hb hts hinX3 hown hK.1 hP 0 rfl rfl 3 (by decide) hf44 (fun _ h9 => h9) rfl dX3_addDoor_39 ?_
      refine lv_iload_n hx hb dX3_addDoor_42 rfl (lv_at hl 1 rfl) ?_
      refine kc_ast (i := mD) (n := 8) hx hb hK hP hD hS 2 0 rfl rfl (by omega) (by decide) dX3_addDoor_43 (fun H locs hP hD hS => ?_)
      have hP : va_P D vwCl (wMd md cI 0 mK mc mD (upd mr mD r) mw my mC mk ms mu mt mp mb me) H := hP
      have hD : va_D A (wMd md cI 0 mK mc mD (upd mr mD r) mw my mC mk ms mu mt mp mb me) := hD
      refine lv_aload_n hx hb dX3_addDoor_44 rfl (lv_at hl 0 rfl) ?_
      refine lv_dup hx hb dX3_addDoor_45 rfl ?_
      refine va_get (D := D) (ci := 3) (v := .int (nI mD)) (C := RX3) (T := TX3) (N := 15) hx hb hts hinX3 hown hK.1 hP 0 rfl rfl 3 (by decide) hf44 (fun _ h9 => h9) rfl dX3_addDoor_46 ?_
      refine lv_iconst (v := 1) hx hb dX3_addDoor_49 (by decide) ?_
      refine lv_iadd hx hb dX3_addDoor_50 ?_
      refine kc_top (show (nI mD) + 1 = nI (mD + 1) from nI_add _ _) ?_
      refine va_put (D := D) (ci := 3) (v := .int (nI (mD + 1))) (ty := .int) (C := RX3) (T := TX3) (N := 15) hx hb hts hinX3 tyX3 tyX3_ok nmX3 hown hK.1 hP hD hS 0 rfl rfl 3 (by decide) hf44 (fun _ h9 => h9) rfl (by decide +kernel) rfl rfl (Nat.le_of_ble_eq_true rfl) dX3_addDoor_51 (fun H locs hP hD hS => ?_)
      have hP : va_P D vwCl (wMd md cI 0 mK mc (mD + 1) (upd mr mD r) mw my mC mk ms mu mt mp mb me) H := hP
      have hD : va_D A (wMd md cI 0 mK mc (mD + 1) (upd mr mD r) mw my mC mk ms mu mt mp mb me) := hD
      refine lv_aload_n hx hb dX3_addDoor_54 rfl (lv_at hl 0 rfl) ?_
      refine lv_dup hx hb dX3_addDoor_55 rfl ?_
      refine va_get (D := D) (ci := 3) (v := .int mw) (C := RX3) (T := TX3) (N := 15) hx hb hts hinX3 hown hK.1 hP 0 rfl rfl 5 (by decide) hf72 (fun _ h9 => h9) rfl dX3_addDoor_56 ?_
      refine lv_aload_n hx hb dX3_addDoor_59 rfl (lv_at hl 0 rfl) ?_
      refine lv_aload_n hx hb dX3_addDoor_60 rfl (lv_at hl 0 rfl) ?_
      refine va_get (D := D) (ci := 3) (v := .int (nI (mD + 1))) (C := RX3) (T := TX3) (N := 15) hx hb hts hinX3 hown hK.1 hP 0 rfl rfl 3 (by decide) hf44 (fun _ h9 => h9) rfl dX3_addDoor_61 ?_
      refine lv_iconst (v := 1) hx hb dX3_addDoor_64 (by decide) ?_
      refine lv_isub hx hb dX3_addDoor_65 ?_
      refine kc_top (show (nI (mD + 1)) - 1 = nI mD from nI_pred mD) ?_
      refine kc_rVi (As := [.int (nI mD)]) (rest := [.int mw, .ref (md 0)]) ⟨hx, hb, hml, hown, hts⟩ (c_X3_allPins l D md cI 0 mK mc (mD + 1) (upd mr mD r) mw my mC mk ms mu mt mp mb me mD hK8 (by first | assumption | omega)) (cwV 1 hts gX3_addDoor_X3_allPins rfl rfl rfl (by decide +kernel) ⟨Nat.le_of_ble_eq_true rfl, Nat.le_of_ble_eq_true rfl⟩) hK hP [0, 1, 2, 3, 4, 5, 6, 7, 8, 9] [0] rfl rfl 0 rfl rfl rfl rfl hl.1 rfl (Nat.le_of_ble_eq_true rfl) dX3_addDoor_66 ⟨Nat.le_of_ble_eq_true rfl, Nat.le_of_ble_eq_true rfl⟩ ?_
      refine kc_rSi (As := [.int (mAll (upd mr mD r) mc mK mD 5)]) (rest := [.int mw, .ref (md 0)]) ⟨hx, hb, hml, hown, hts⟩ (c_J6_bitCount_0f7a4 l (mAll (upd mr mD r) mc mK mD 5) ) (va_cwS 1 hts gX3_addDoor_J6_bitCount_0f7a4 rfl rfl rfl (by decide +kernel) ⟨Nat.le_of_ble_eq_true rfl, Nat.le_of_ble_eq_true rfl⟩) rfl hl.1 rfl (Nat.le_of_ble_eq_true rfl) dX3_addDoor_69 ⟨Nat.le_of_ble_eq_true rfl, Nat.le_of_ble_eq_true rfl⟩ ?_
      refine lv_iadd hx hb dX3_addDoor_72 ?_
      refine va_put (D := D) (ci := 3) (v := .int (mw + (jPop (mAll (upd mr mD r) mc mK mD 5)))) (ty := .int) (C := RX3) (T := TX3) (N := 15) hx hb hts hinX3 tyX3 tyX3_ok nmX3 hown hK.1 hP hD hS 0 rfl rfl 5 (by decide) hf72 (fun _ h9 => h9) rfl (by decide +kernel) rfl rfl (Nat.le_of_ble_eq_true rfl) dX3_addDoor_73 (fun H locs hP hD hS => ?_)
      have hP : va_P D vwCl (wMd md cI 0 mK mc (mD + 1) (upd mr mD r) (mw + (jPop (mAll (upd mr mD r) mc mK mD 5))) my mC mk ms mu mt mp mb me) H := hP
      have hD : va_D A (wMd md cI 0 mK mc (mD + 1) (upd mr mD r) (mw + (jPop (mAll (upd mr mD r) mc mK mD 5))) my mC mk ms mu mt mp mb me) := hD
      refine lv_aload_n hx hb dX3_addDoor_76 rfl (lv_at hl 0 rfl) ?_
      refine va_get (D := D) (ci := 3) (v := .int (nI (mD + 1))) (C := RX3) (T := TX3) (N := 15) hx hb hts hinX3 hown hK.1 hP 0 rfl rfl 3 (by decide) hf44 (fun _ h9 => h9) rfl dX3_addDoor_77 ?_
      refine lv_iconst (v := 1) hx hb dX3_addDoor_80 (by decide) ?_
      refine lv_isub hx hb dX3_addDoor_81 ?_
      refine kc_top (show (nI (mD + 1)) - 1 = nI mD from nI_pred mD) ?_
      have eqw_mw : mw + jPop (mAll (upd mr mD r) mc mK mD 5) = mw + (jPop (mAll (upd mr mD r) mc mK mD 5)) := by simp only [if_pos c_10, if_neg c_25]
      have hP : va_P D vwCl (wMd md cI 0 mK mc (mD + 1) (upd mr mD r) (mw + jPop (mAll (upd mr mD r) mc mK mD 5)) my mC mk ms mu mt mp mb me) H := by rw [eqw_mw]; exact hP
      have hD : va_D A (wMd md cI 0 mK mc (mD + 1) (upd mr mD r) (mw + jPop (mAll (upd mr mD r) mc mK mD 5)) my mC mk ms mu mt mp mb me) := by rw [eqw_mw]; exact hD
      exact W.iret (v := nI mD) hx hb hr (fun tZ htZ hWZ => ⟨⟨_, (), rfl, rfl, by rw [htZ]; exact hP, by rw [hAe]; exact hD⟩, hS.F htZ⟩) hS.2.2 dX3_addDoor_82
    · exact absurd ((nI_eq (a := mD) (b := 8) (by omega) (by omega)).mp c_25) (by omega)
  · exact absurd hs c_10
set_option maxHeartbeats 4000000 in
set_option maxRecDepth 100000 in
theorem c_X3_setRights_f2 (l : Launch) (D : va_G) (md : Nat → Nat) (cI : ClassId) (th : Int32) (mK : Nat) (mc : Nat → Int32) (mD : Nat) (mr : Nat → Int32) (mw : Int32) (my : Int32) (mC : Nat) (mk : Nat → Int32) (ms : Nat → Int32) (mu : Nat → Int32) (mt : Nat → Int32) (mp : Nat → Int32) (mb : Nat → Int32) (me : Nat → Int32) (d : Nat) (r : Int32) (sz : Nat) (hD8 : mD ≤ 8) (hd : d < mD) (hBad : ¬ jSet mK r = true) : Met l yX3_setRights wsX3_setRights ({ frames := 1, cells := 0, slots := 0, locals := 21 } : Room) (wrP [.ref (md 0), .int (nI d), .int r] D sz (wMd md cI th mK mc mD mr mw my mC mk ms mu mt mp mb me) [(cI, .int)]) (va_Qi (fun rZ (_ : Unit) => rZ = 0) (wrB D sz (wMd md cI th mK mc mD mr mw my mC mk ms mu mt mp mb me) (wMd md cI 2 mK mc mD mr mw my mC mk ms mu mt mp mb me)) (va_A (wMd md cI th mK mc mD mr mw my mC mk ms mu mt mp mb me) sz)) 0 0 (va_A (wMd md cI th mK mc mD mr mw my mC mk ms mu mt mp mb me) sz) := by
  refine Met.ofW (cc := cX3_setRights) (maxL := 5) (ret := (some .int)) (by decide) rfl ?_
  intro p e s m args below meth c s₁ B hml hv
  obtain ⟨rfl, hsz, hP, hD0, hK⟩ := hv
  have hx := B.exec
  have hb := B.bytes
  have hr := B.returns
  have hts := atoms_spec (ws := wsX3_setRights) B.pre
  have hown : s.vm.findClass RX3 = some m.cls := findClass_of_methodNamed B.named
  have hlocks := B.notSynchronized
  subst hsz
  have hD := hD0.self (sz := s.heap.size)
  generalize hAe : va_A (wMd md cI th mK mc mD mr mw my mC mk ms mu mt mp mb me) s.heap.size = A at hD ⊢
  have hA : ∀ q : Nat, s.heap.size ≤ q → A q := fun q h => by rw [← hAe]; exact Or.inr h
  have hinX3 : ∀ w ∈ u_ws RX3 TX3 15, w ∈ wsX3_setRights := by decide +kernel
  have hf37 := hts (.fieldLink RX3 37 "KeyCabinetModel" "thrown" "I") (by decide +kernel)
  have hl := lv_entry ([.ref (md 0), .int (nI d), .int r]) (n := 5) (Nat.le_of_ble_eq_true rfl)
  rw [lg_entry_eq]
  generalize (lg_sl ([.ref (md 0), .int (nI d), .int r]) ++ List.replicate (5 - (lg_sl ([.ref (md 0), .int (nI d), .int r])).length) Slot.unset).toArray = ls at hl ⊢
  have hl : lv_has ls 5 [(0, .ref (md 0)), (1, .int (nI d)), (2, .int r)] := hl
  refine W.genH (fun H locs eH eL => ?_)
  have hS : va_S A s.heap H locs := by rw [eH, eL]; exact va_S.rf
  have hP : va_P D vwCl (wMd md cI th mK mc mD mr mw my mC mk ms mu mt mp mb me) H := by rw [eH]; exact hP
  clear eH eL
  refine lv_aload_n hx hb dX3_setRights_0 rfl (lv_at hl 0 rfl) ?_
  refine lv_iconst (v := 0) hx hb dX3_setRights_1 (by decide) ?_
  refine va_put (D := D) (ci := 3) (v := .int 0) (ty := .int) (C := RX3) (T := TX3) (N := 15) hx hb hts hinX3 tyX3 tyX3_ok nmX3 hown hK.1 hP hD hS 0 rfl rfl 0 (by decide) hf37 (fun _ h9 => h9) rfl (by decide +kernel) rfl rfl (Nat.le_of_ble_eq_true rfl) dX3_setRights_2 (fun H locs hP hD hS => ?_)
  have hP : va_P D vwCl (wMd md cI 0 mK mc mD mr mw my mC mk ms mu mt mp mb me) H := hP
  have hD : va_D A (wMd md cI 0 mK mc mD mr mw my mC mk ms mu mt mp mb me) := hD
  refine lv_aload_n hx hb dX3_setRights_5 rfl (lv_at hl 0 rfl) ?_
  refine lv_iload_n hx hb dX3_setRights_6 rfl (lv_at hl 1 rfl) ?_
  refine kc_rVi (As := [.int (nI d)]) (rest := []) ⟨hx, hb, hml, hown, hts⟩ (c_X3_isDoor l D md cI 0 mK mc mD mr mw my mC mk ms mu mt mp mb me (nI d) ) (cwV 1 hts gX3_setRights_X3_isDoor rfl rfl rfl (by decide +kernel) ⟨Nat.le_of_ble_eq_true rfl, Nat.le_of_ble_eq_true rfl⟩) hK hP [0, 1, 2, 3, 4, 5, 6, 7, 8, 9] [0] rfl rfl 0 rfl rfl rfl rfl hl.1 rfl (Nat.le_of_ble_eq_true rfl) dX3_setRights_7 ⟨Nat.le_of_ble_eq_true rfl, Nat.le_of_ble_eq_true rfl⟩ ?_
  refine kc_ifneB (tgt := 19) hx hb dX3_setRights_10 (by decide) (fun c_10 => ?_) (fun c_10 => ?_)
  · refine lv_aload_n hx hb dX3_setRights_19 rfl (lv_at hl 0 rfl) ?_
    refine lv_iload_n hx hb dX3_setRights_20 rfl (lv_at hl 2 rfl) ?_
    refine kc_rVi (As := [.int r]) (rest := []) ⟨hx, hb, hml, hown, hts⟩ (c_X3_areKeys l D md cI 0 mK mc mD mr mw my mC mk ms mu mt mp mb me r ) (cwV 1 hts gX3_setRights_X3_areKeys rfl rfl rfl (by decide +kernel) ⟨Nat.le_of_ble_eq_true rfl, Nat.le_of_ble_eq_true rfl⟩) hK hP [0, 1, 2, 3, 4, 5, 6, 7, 8, 9] [0] rfl rfl 0 rfl rfl rfl rfl hl.1 rfl (Nat.le_of_ble_eq_true rfl) dX3_setRights_21 ⟨Nat.le_of_ble_eq_true rfl, Nat.le_of_ble_eq_true rfl⟩ ?_
    refine kc_ifneB (tgt := 33) hx hb dX3_setRights_24 (by decide) (fun c_24 => ?_) (fun c_24 => ?_)
    · exact absurd c_24 hBad
    · refine lv_aload_n hx hb dX3_setRights_27 rfl (lv_at hl 0 rfl) ?_
      refine lv_iconst (v := 2) hx hb dX3_setRights_28 (by decide) ?_
      refine kc_wVi (w1 := wMd md cI 2 mK mc mD mr mw my mC mk ms mu mt mp mb me) (wr := []) (ws1 := wMd md cI 2 mK mc mD mr mw my mC mk ms mu mt mp mb me) (As := [.int 2]) (rest := []) ⟨hx, hb, hml, hown, hts⟩ (c_X3_fail l D md cI 0 mK mc mD mr mw my mC mk ms mu mt mp mb me 2 H.size ) (cwV 1 hts gX3_setRights_X3_fail rfl rfl rfl (by decide +kernel) ⟨Nat.le_of_ble_eq_true rfl, Nat.le_of_ble_eq_true rfl⟩) hK hP hD hS hA [0, 1, 2, 3, 4, 5, 6, 7, 8, 9] [] [0, 1, 2, 3, 4, 5, 6, 7, 8, 9] [0] rfl rfl rfl rfl (by decide) rfl rfl rfl 0 rfl rfl rfl rfl hl.1 rfl (Nat.le_of_ble_eq_true rfl) dX3_setRights_29 ⟨Nat.le_of_ble_eq_true rfl, Nat.le_of_ble_eq_true rfl⟩ (fun H locs hP hD hS => ?_)
      exact W.iret (v := 0) hx hb hr (fun tZ htZ hWZ => ⟨⟨_, (), rfl, rfl, by rw [htZ]; exact hP, by rw [hAe]; exact hD⟩, hS.F htZ⟩) hS.2.2 dX3_setRights_32
  · exact absurd (jIn_ok hd (by omega)) c_10
set_option maxHeartbeats 4000000 in
set_option maxRecDepth 100000 in
theorem c_X3_setRights_ok (l : Launch) (D : va_G) (md : Nat → Nat) (cI : ClassId) (th : Int32) (mK : Nat) (mc : Nat → Int32) (mD : Nat) (mr : Nat → Int32) (mw : Int32) (my : Int32) (mC : Nat) (mk : Nat → Int32) (ms : Nat → Int32) (mu : Nat → Int32) (mt : Nat → Int32) (mp : Nat → Int32) (mb : Nat → Int32) (me : Nat → Int32) (d : Nat) (r : Int32) (sz : Nat) (hK8 : mK ≤ 8) (hD8 : mD ≤ 8) (hd : d < mD) (hs : jSet mK r = true) : Met l yX3_setRights wsX3_setRights ({ frames := 3, cells := 0, slots := 0, locals := 68 } : Room) (wrP [.ref (md 0), .int (nI d), .int r] D sz (wMd md cI th mK mc mD mr mw my mC mk ms mu mt mp mb me) [(cI, .int)]) (va_Qi (fun rZ (_ : Unit) => rZ = mr d) (wrB D sz (wMd md cI th mK mc mD mr mw my mC mk ms mu mt mp mb me) (wMd md cI 0 mK mc mD (upd mr d r) (mw + jPop (mAll mr mc mK d 5 ^^^ mAll (upd mr d r) mc mK d 5)) my mC mk ms mu mt mp mb me)) (va_A (wMd md cI th mK mc mD mr mw my mC mk ms mu mt mp mb me) sz)) 0 0 (va_A (wMd md cI th mK mc mD mr mw my mC mk ms mu mt mp mb me) sz) := by
  refine Met.ofW (cc := cX3_setRights) (maxL := 5) (ret := (some .int)) (by decide) rfl ?_
  intro p e s m args below meth c s₁ B hml hv
  obtain ⟨rfl, hsz, hP, hD0, hK⟩ := hv
  have hx := B.exec
  have hb := B.bytes
  have hr := B.returns
  have hts := atoms_spec (ws := wsX3_setRights) B.pre
  have hown : s.vm.findClass RX3 = some m.cls := findClass_of_methodNamed B.named
  have hlocks := B.notSynchronized
  subst hsz
  have hD := hD0.self (sz := s.heap.size)
  generalize hAe : va_A (wMd md cI th mK mc mD mr mw my mC mk ms mu mt mp mb me) s.heap.size = A at hD ⊢
  have hA : ∀ q : Nat, s.heap.size ≤ q → A q := fun q h => by rw [← hAe]; exact Or.inr h
  have hinX3 : ∀ w ∈ u_ws RX3 TX3 15, w ∈ wsX3_setRights := by decide +kernel
  have hf37 := hts (.fieldLink RX3 37 "KeyCabinetModel" "thrown" "I") (by decide +kernel)
  have hf13 := hts (.fieldLink RX3 13 "KeyCabinetModel" "rights" "[I") (by decide +kernel)
  have hf72 := hts (.fieldLink RX3 72 "KeyCabinetModel" "work" "I") (by decide +kernel)
  have hl := lv_entry ([.ref (md 0), .int (nI d), .int r]) (n := 5) (Nat.le_of_ble_eq_true rfl)
  rw [lg_entry_eq]
  generalize (lg_sl ([.ref (md 0), .int (nI d), .int r]) ++ List.replicate (5 - (lg_sl ([.ref (md 0), .int (nI d), .int r])).length) Slot.unset).toArray = ls at hl ⊢
  have hl : lv_has ls 5 [(0, .ref (md 0)), (1, .int (nI d)), (2, .int r)] := hl
  refine W.genH (fun H locs eH eL => ?_)
  have hS : va_S A s.heap H locs := by rw [eH, eL]; exact va_S.rf
  have hP : va_P D vwCl (wMd md cI th mK mc mD mr mw my mC mk ms mu mt mp mb me) H := by rw [eH]; exact hP
  clear eH eL
  refine lv_aload_n hx hb dX3_setRights_0 rfl (lv_at hl 0 rfl) ?_
  refine lv_iconst (v := 0) hx hb dX3_setRights_1 (by decide) ?_
  refine va_put (D := D) (ci := 3) (v := .int 0) (ty := .int) (C := RX3) (T := TX3) (N := 15) hx hb hts hinX3 tyX3 tyX3_ok nmX3 hown hK.1 hP hD hS 0 rfl rfl 0 (by decide) hf37 (fun _ h9 => h9) rfl (by decide +kernel) rfl rfl (Nat.le_of_ble_eq_true rfl) dX3_setRights_2 (fun H locs hP hD hS => ?_)
  have hP : va_P D vwCl (wMd md cI 0 mK mc mD mr mw my mC mk ms mu mt mp mb me) H := hP
  have hD : va_D A (wMd md cI 0 mK mc mD mr mw my mC mk ms mu mt mp mb me) := hD
  refine lv_aload_n hx hb dX3_setRights_5 rfl (lv_at hl 0 rfl) ?_
  refine lv_iload_n hx hb dX3_setRights_6 rfl (lv_at hl 1 rfl) ?_
  refine kc_rVi (As := [.int (nI d)]) (rest := []) ⟨hx, hb, hml, hown, hts⟩ (c_X3_isDoor l D md cI 0 mK mc mD mr mw my mC mk ms mu mt mp mb me (nI d) ) (cwV 1 hts gX3_setRights_X3_isDoor rfl rfl rfl (by decide +kernel) ⟨Nat.le_of_ble_eq_true rfl, Nat.le_of_ble_eq_true rfl⟩) hK hP [0, 1, 2, 3, 4, 5, 6, 7, 8, 9] [0] rfl rfl 0 rfl rfl rfl rfl hl.1 rfl (Nat.le_of_ble_eq_true rfl) dX3_setRights_7 ⟨Nat.le_of_ble_eq_true rfl, Nat.le_of_ble_eq_true rfl⟩ ?_
  refine kc_ifneB (tgt := 19) hx hb dX3_setRights_10 (by decide) (fun c_10 => ?_) (fun c_10 => ?_)
  · refine lv_aload_n hx hb dX3_setRights_19 rfl (lv_at hl 0 rfl) ?_
    refine lv_iload_n hx hb dX3_setRights_20 rfl (lv_at hl 2 rfl) ?_
    refine kc_rVi (As := [.int r]) (rest := []) ⟨hx, hb, hml, hown, hts⟩ (c_X3_areKeys l D md cI 0 mK mc mD mr mw my mC mk ms mu mt mp mb me r ) (cwV 1 hts gX3_setRights_X3_areKeys rfl rfl rfl (by decide +kernel) ⟨Nat.le_of_ble_eq_true rfl, Nat.le_of_ble_eq_true rfl⟩) hK hP [0, 1, 2, 3, 4, 5, 6, 7, 8, 9] [0] rfl rfl 0 rfl rfl rfl rfl hl.1 rfl (Nat.le_of_ble_eq_true rfl) dX3_setRights_21 ⟨Nat.le_of_ble_eq_true rfl, Nat.le_of_ble_eq_true rfl⟩ ?_
    refine kc_ifneB (tgt := 33) hx hb dX3_setRights_24 (by decide) (fun c_24 => ?_) (fun c_24 => ?_)
    · refine lv_aload_n hx hb dX3_setRights_33 rfl (lv_at hl 0 rfl) ?_
      refine va_get (D := D) (ci := 3) (v := .ref (md 2)) (C := RX3) (T := TX3) (N := 15) hx hb hts hinX3 hown hK.1 hP 0 rfl rfl 4 (by decide) hf13 (fun _ h9 => h9) rfl dX3_setRights_34 ?_
      refine lv_iload_n hx hb dX3_setRights_37 rfl (lv_at hl 1 rfl) ?_
      refine kc_ald (i := d) (n := 8) hx hb hK hP 2 0 rfl rfl (by omega) (by decide) dX3_setRights_38 ?_
      refine lv_istore_n (lv' := [(3, .int (mr d)), (0, .ref (md 0)), (1, .int (nI d)), (2, .int r)]) hx hb dX3_setRights_39 rfl hl (by decide) rfl (fun ls hl => ?_)
      refine lv_aload_n hx hb dX3_setRights_40 rfl (lv_at hl 1 rfl) ?_
      refine lv_iload_n hx hb dX3_setRights_41 rfl (lv_at hl 2 rfl) ?_
      refine kc_rVi (As := [.int (nI d)]) (rest := []) ⟨hx, hb, hml, hown, hts⟩ (c_X3_allPins l D md cI 0 mK mc mD mr mw my mC mk ms mu mt mp mb me d hK8 (by first | assumption | omega)) (cwV 1 hts gX3_setRights_X3_allPins rfl rfl rfl (by decide +kernel) ⟨Nat.le_of_ble_eq_true rfl, Nat.le_of_ble_eq_true rfl⟩) hK hP [0, 1, 2, 3, 4, 5, 6, 7, 8, 9] [0] rfl rfl 0 rfl rfl rfl rfl hl.1 rfl (Nat.le_of_ble_eq_true rfl) dX3_setRights_42 ⟨Nat.le_of_ble_eq_true rfl, Nat.le_of_ble_eq_true rfl⟩ ?_
      refine lv_istore (lv' := [(4, .int (mAll mr mc mK d 5)), (3, .int (mr d)), (0, .ref (md 0)), (1, .int (nI d)), (2, .int r)]) hx hb dX3_setRights_45 hl (by decide) rfl (fun ls hl => ?_)
      refine lv_aload_n hx hb dX3_setRights_47 rfl (lv_at hl 2 rfl) ?_
      refine va_get (D := D) (ci := 3) (v := .ref (md 2)) (C := RX3) (T := TX3) (N := 15) hx hb hts hinX3 hown hK.1 hP 0 rfl rfl 4 (by decide) hf13 (fun _ h9 => h9) rfl dX3_setRights_48 ?_
      refine lv_iload_n hx hb dX3_setRights_51 rfl (lv_at hl 3 rfl) ?_
      refine lv_iload_n hx hb dX3_setRights_52 rfl (lv_at hl 4 rfl) ?_
      refine kc_ast (i := d) (n := 8) hx hb hK hP hD hS 2 0 rfl rfl (by omega) (by decide) dX3_setRights_53 (fun H locs hP hD hS => ?_)
      have hP : va_P D vwCl (wMd md cI 0 mK mc mD (upd mr d r) mw my mC mk ms mu mt mp mb me) H := hP
      have hD : va_D A (wMd md cI 0 mK mc mD (upd mr d r) mw my mC mk ms mu mt mp mb me) := hD
      refine lv_aload_n hx hb dX3_setRights_54 rfl (lv_at hl 2 rfl) ?_
      refine lv_dup hx hb dX3_setRights_55 rfl ?_
      refine va_get (D := D) (ci := 3) (v := .int mw) (C := RX3) (T := TX3) (N := 15) hx hb hts hinX3 hown hK.1 hP 0 rfl rfl 5 (by decide) hf72 (fun _ h9 => h9) rfl dX3_setRights_56 ?_
      refine lv_iload hx hb dX3_setRights_59 (lv_at hl 0 rfl) ?_
      refine lv_aload_n hx hb dX3_setRights_61 rfl (lv_at hl 2 rfl) ?_
      refine lv_iload_n hx hb dX3_setRights_62 rfl (lv_at hl 3 rfl) ?_
      refine kc_rVi (As := [.int (nI d)]) (rest := [.int (mAll mr mc mK d 5), .int mw, .ref (md 0)]) ⟨hx, hb, hml, hown, hts⟩ (c_X3_allPins l D md cI 0 mK mc mD (upd mr d r) mw my mC mk ms mu mt mp mb me d hK8 (by first | assumption | omega)) (cwV 1 hts gX3_setRights_X3_allPins rfl rfl rfl (by decide +kernel) ⟨Nat.le_of_ble_eq_true rfl, Nat.le_of_ble_eq_true rfl⟩) hK hP [0, 1, 2, 3, 4, 5, 6, 7, 8, 9] [0] rfl rfl 0 rfl rfl rfl rfl hl.1 rfl (Nat.le_of_ble_eq_true rfl) dX3_setRights_63 ⟨Nat.le_of_ble_eq_true rfl, Nat.le_of_ble_eq_true rfl⟩ ?_
      refine lv_ixor hx hb dX3_setRights_66 ?_
      refine kc_rSi (As := [.int ((mAll mr mc mK d 5) ^^^ (mAll (upd mr d r) mc mK d 5))]) (rest := [.int mw, .ref (md 0)]) ⟨hx, hb, hml, hown, hts⟩ (c_J6_bitCount_0f7a4 l ((mAll mr mc mK d 5) ^^^ (mAll (upd mr d r) mc mK d 5)) ) (va_cwS 1 hts gX3_setRights_J6_bitCount_0f7a4 rfl rfl rfl (by decide +kernel) ⟨Nat.le_of_ble_eq_true rfl, Nat.le_of_ble_eq_true rfl⟩) rfl hl.1 rfl (Nat.le_of_ble_eq_true rfl) dX3_setRights_67 ⟨Nat.le_of_ble_eq_true rfl, Nat.le_of_ble_eq_true rfl⟩ ?_
      refine lv_iadd hx hb dX3_setRights_70 ?_
      refine va_put (D := D) (ci := 3) (v := .int (mw + (jPop ((mAll mr mc mK d 5) ^^^ (mAll (upd mr d r) mc mK d 5))))) (ty := .int) (C := RX3) (T := TX3) (N := 15) hx hb hts hinX3 tyX3 tyX3_ok nmX3 hown hK.1 hP hD hS 0 rfl rfl 5 (by decide) hf72 (fun _ h9 => h9) rfl (by decide +kernel) rfl rfl (Nat.le_of_ble_eq_true rfl) dX3_setRights_71 (fun H locs hP hD hS => ?_)
      have hP : va_P D vwCl (wMd md cI 0 mK mc mD (upd mr d r) (mw + (jPop ((mAll mr mc mK d 5) ^^^ (mAll (upd mr d r) mc mK d 5)))) my mC mk ms mu mt mp mb me) H := hP
      have hD : va_D A (wMd md cI 0 mK mc mD (upd mr d r) (mw + (jPop ((mAll mr mc mK d 5) ^^^ (mAll (upd mr d r) mc mK d 5)))) my mC mk ms mu mt mp mb me) := hD
      refine lv_iload_n hx hb dX3_setRights_74 rfl (lv_at hl 1 rfl) ?_
      have eqw_mw : mw + jPop (mAll mr mc mK d 5 ^^^ mAll (upd mr d r) mc mK d 5) = mw + (jPop ((mAll mr mc mK d 5) ^^^ (mAll (upd mr d r) mc mK d 5))) := by simp only [if_pos c_10, if_pos c_24]
      have hP : va_P D vwCl (wMd md cI 0 mK mc mD (upd mr d r) (mw + jPop (mAll mr mc mK d 5 ^^^ mAll (upd mr d r) mc mK d 5)) my mC mk ms mu mt mp mb me) H := by rw [eqw_mw]; exact hP
      have hD : va_D A (wMd md cI 0 mK mc mD (upd mr d r) (mw + jPop (mAll mr mc mK d 5 ^^^ mAll (upd mr d r) mc mK d 5)) my mC mk ms mu mt mp mb me) := by rw [eqw_mw]; exact hD
      exact W.iret (v := mr d) hx hb hr (fun tZ htZ hWZ => ⟨⟨_, (), rfl, rfl, by rw [htZ]; exact hP, by rw [hAe]; exact hD⟩, hS.F htZ⟩) hS.2.2 dX3_setRights_75
    · exact absurd hs c_24
  · exact absurd (jIn_ok hd (by omega)) c_10
set_option maxHeartbeats 4000000 in
set_option maxRecDepth 100000 in
theorem c_X3_pins_f2 (l : Launch) (D : va_G) (md : Nat → Nat) (cI : ClassId) (th : Int32) (mK : Nat) (mc : Nat → Int32) (mD : Nat) (mr : Nat → Int32) (mw : Int32) (my : Int32) (mC : Nat) (mk : Nat → Int32) (ms : Nat → Int32) (mu : Nat → Int32) (mt : Nat → Int32) (mp : Nat → Int32) (mb : Nat → Int32) (me : Nat → Int32) (d : Nat) (po : Int32) (sz : Nat) (hD8 : mD ≤ 8) (hd : d < mD) (hBad : ¬ jIn 5 po = true) : Met l yX3_pins wsX3_pins ({ frames := 1, cells := 0, slots := 0, locals := 21 } : Room) (wrP [.ref (md 0), .int (nI d), .int po] D sz (wMd md cI th mK mc mD mr mw my mC mk ms mu mt mp mb me) [(cI, .int)]) (va_Qi (fun rZ (_ : Unit) => rZ = 0) (wrB D sz (wMd md cI th mK mc mD mr mw my mC mk ms mu mt mp mb me) (wMd md cI 1 mK mc mD mr mw my mC mk ms mu mt mp mb me)) (va_A (wMd md cI th mK mc mD mr mw my mC mk ms mu mt mp mb me) sz)) 0 0 (va_A (wMd md cI th mK mc mD mr mw my mC mk ms mu mt mp mb me) sz) := by
  refine Met.ofW (cc := cX3_pins) (maxL := 3) (ret := (some .int)) (by decide) rfl ?_
  intro p e s m args below meth c s₁ B hml hv
  obtain ⟨rfl, hsz, hP, hD0, hK⟩ := hv
  have hx := B.exec
  have hb := B.bytes
  have hr := B.returns
  have hts := atoms_spec (ws := wsX3_pins) B.pre
  have hown : s.vm.findClass RX3 = some m.cls := findClass_of_methodNamed B.named
  have hlocks := B.notSynchronized
  subst hsz
  have hD := hD0.self (sz := s.heap.size)
  generalize hAe : va_A (wMd md cI th mK mc mD mr mw my mC mk ms mu mt mp mb me) s.heap.size = A at hD ⊢
  have hA : ∀ q : Nat, s.heap.size ≤ q → A q := fun q h => by rw [← hAe]; exact Or.inr h
  have hinX3 : ∀ w ∈ u_ws RX3 TX3 15, w ∈ wsX3_pins := by decide +kernel
  have hf37 := hts (.fieldLink RX3 37 "KeyCabinetModel" "thrown" "I") (by decide +kernel)
  have hl := lv_entry ([.ref (md 0), .int (nI d), .int po]) (n := 3) (Nat.le_of_ble_eq_true rfl)
  rw [lg_entry_eq]
  generalize (lg_sl ([.ref (md 0), .int (nI d), .int po]) ++ List.replicate (3 - (lg_sl ([.ref (md 0), .int (nI d), .int po])).length) Slot.unset).toArray = ls at hl ⊢
  have hl : lv_has ls 3 [(0, .ref (md 0)), (1, .int (nI d)), (2, .int po)] := hl
  refine W.genH (fun H locs eH eL => ?_)
  have hS : va_S A s.heap H locs := by rw [eH, eL]; exact va_S.rf
  have hP : va_P D vwCl (wMd md cI th mK mc mD mr mw my mC mk ms mu mt mp mb me) H := by rw [eH]; exact hP
  clear eH eL
  refine lv_aload_n hx hb dX3_pins_0 rfl (lv_at hl 0 rfl) ?_
  refine lv_iconst (v := 0) hx hb dX3_pins_1 (by decide) ?_
  refine va_put (D := D) (ci := 3) (v := .int 0) (ty := .int) (C := RX3) (T := TX3) (N := 15) hx hb hts hinX3 tyX3 tyX3_ok nmX3 hown hK.1 hP hD hS 0 rfl rfl 0 (by decide) hf37 (fun _ h9 => h9) rfl (by decide +kernel) rfl rfl (Nat.le_of_ble_eq_true rfl) dX3_pins_2 (fun H locs hP hD hS => ?_)
  have hP : va_P D vwCl (wMd md cI 0 mK mc mD mr mw my mC mk ms mu mt mp mb me) H := hP
  have hD : va_D A (wMd md cI 0 mK mc mD mr mw my mC mk ms mu mt mp mb me) := hD
  refine lv_aload_n hx hb dX3_pins_5 rfl (lv_at hl 0 rfl) ?_
  refine lv_iload_n hx hb dX3_pins_6 rfl (lv_at hl 1 rfl) ?_
  refine kc_rVi (As := [.int (nI d)]) (rest := []) ⟨hx, hb, hml, hown, hts⟩ (c_X3_isDoor l D md cI 0 mK mc mD mr mw my mC mk ms mu mt mp mb me (nI d) ) (cwV 1 hts gX3_pins_X3_isDoor rfl rfl rfl (by decide +kernel) ⟨Nat.le_of_ble_eq_true rfl, Nat.le_of_ble_eq_true rfl⟩) hK hP [0, 1, 2, 3, 4, 5, 6, 7, 8, 9] [0] rfl rfl 0 rfl rfl rfl rfl hl.1 rfl (Nat.le_of_ble_eq_true rfl) dX3_pins_7 ⟨Nat.le_of_ble_eq_true rfl, Nat.le_of_ble_eq_true rfl⟩ ?_
  refine kc_ifeqB (tgt := 31) hx hb dX3_pins_10 (by decide) (fun c_10 => ?_) (fun c_10 => ?_)
  · exact absurd (jIn_ok hd (by omega)) c_10
  · refine lv_iload_n hx hb dX3_pins_13 rfl (lv_at hl 2 rfl) ?_
    refine lv_if_lt (tgt := 31) hx hb dX3_pins_14 (by decide) (fun c_14 => ?_) (fun c_14 => ?_)
    · refine lv_aload_n hx hb dX3_pins_31 rfl (lv_at hl 0 rfl) ?_
      refine lv_iconst (v := 1) hx hb dX3_pins_32 (by decide) ?_
      refine kc_wVi (w1 := wMd md cI 1 mK mc mD mr mw my mC mk ms mu mt mp mb me) (wr := []) (ws1 := wMd md cI 1 mK mc mD mr mw my mC mk ms mu mt mp mb me) (As := [.int 1]) (rest := []) ⟨hx, hb, hml, hown, hts⟩ (c_X3_fail l D md cI 0 mK mc mD mr mw my mC mk ms mu mt mp mb me 1 H.size ) (cwV 1 hts gX3_pins_X3_fail rfl rfl rfl (by decide +kernel) ⟨Nat.le_of_ble_eq_true rfl, Nat.le_of_ble_eq_true rfl⟩) hK hP hD hS hA [0, 1, 2, 3, 4, 5, 6, 7, 8, 9] [] [0, 1, 2, 3, 4, 5, 6, 7, 8, 9] [0] rfl rfl rfl rfl (by decide) rfl rfl rfl 0 rfl rfl rfl rfl hl.1 rfl (Nat.le_of_ble_eq_true rfl) dX3_pins_33 ⟨Nat.le_of_ble_eq_true rfl, Nat.le_of_ble_eq_true rfl⟩ (fun H locs hP hD hS => ?_)
      exact W.iret (v := 0) hx hb hr (fun tZ htZ hWZ => ⟨⟨_, (), rfl, rfl, by rw [htZ]; exact hP, by rw [hAe]; exact hD⟩, hS.F htZ⟩) hS.2.2 dX3_pins_36
    · refine lv_iload_n hx hb dX3_pins_17 rfl (lv_at hl 2 rfl) ?_
      refine lv_iconst (v := 5) hx hb dX3_pins_18 (by decide) ?_
      refine lv_icmp_ge (tgt := 31) hx hb dX3_pins_19 (by decide) (fun c_19 => ?_) (fun c_19 => ?_)
      · refine lv_aload_n hx hb dX3_pins_31 rfl (lv_at hl 0 rfl) ?_
        refine lv_iconst (v := 1) hx hb dX3_pins_32 (by decide) ?_
        refine kc_wVi (w1 := wMd md cI 1 mK mc mD mr mw my mC mk ms mu mt mp mb me) (wr := []) (ws1 := wMd md cI 1 mK mc mD mr mw my mC mk ms mu mt mp mb me) (As := [.int 1]) (rest := []) ⟨hx, hb, hml, hown, hts⟩ (c_X3_fail l D md cI 0 mK mc mD mr mw my mC mk ms mu mt mp mb me 1 H.size ) (cwV 1 hts gX3_pins_X3_fail rfl rfl rfl (by decide +kernel) ⟨Nat.le_of_ble_eq_true rfl, Nat.le_of_ble_eq_true rfl⟩) hK hP hD hS hA [0, 1, 2, 3, 4, 5, 6, 7, 8, 9] [] [0, 1, 2, 3, 4, 5, 6, 7, 8, 9] [0] rfl rfl rfl rfl (by decide) rfl rfl rfl 0 rfl rfl rfl rfl hl.1 rfl (Nat.le_of_ble_eq_true rfl) dX3_pins_33 ⟨Nat.le_of_ble_eq_true rfl, Nat.le_of_ble_eq_true rfl⟩ (fun H locs hP hD hS => ?_)
        exact W.iret (v := 0) hx hb hr (fun tZ htZ hWZ => ⟨⟨_, (), rfl, rfl, by rw [htZ]; exact hP, by rw [hAe]; exact hD⟩, hS.F htZ⟩) hS.2.2 dX3_pins_36
      · exact absurd (decide_eq_true ⟨c_14, c_19⟩) hBad
set_option maxHeartbeats 4000000 in
set_option maxRecDepth 100000 in
theorem c_X3_pins_ok (l : Launch) (D : va_G) (md : Nat → Nat) (cI : ClassId) (th : Int32) (mK : Nat) (mc : Nat → Int32) (mD : Nat) (mr : Nat → Int32) (mw : Int32) (my : Int32) (mC : Nat) (mk : Nat → Int32) (ms : Nat → Int32) (mu : Nat → Int32) (mt : Nat → Int32) (mp : Nat → Int32) (mb : Nat → Int32) (me : Nat → Int32) (d : Nat) (q : Nat) (sz : Nat) (hK8 : mK ≤ 8) (hD8 : mD ≤ 8) (hd : d < mD) (hq : q < 5) : Met l yX3_pins wsX3_pins ({ frames := 2, cells := 0, slots := 0, locals := 45 } : Room) (wrP [.ref (md 0), .int (nI d), .int (nI q)] D sz (wMd md cI th mK mc mD mr mw my mC mk ms mu mt mp mb me) [(cI, .int)]) (va_Qi (fun rZ (_ : Unit) => rZ = mPins mr mc d (nI q) mK) (wrB D sz (wMd md cI th mK mc mD mr mw my mC mk ms mu mt mp mb me) (wMd md cI 0 mK mc mD mr mw my mC mk ms mu mt mp mb me)) (va_A (wMd md cI th mK mc mD mr mw my mC mk ms mu mt mp mb me) sz)) 0 0 (va_A (wMd md cI th mK mc mD mr mw my mC mk ms mu mt mp mb me) sz) := by
  refine Met.ofW (cc := cX3_pins) (maxL := 3) (ret := (some .int)) (by decide) rfl ?_
  intro p e s m args below meth c s₁ B hml hv
  obtain ⟨rfl, hsz, hP, hD0, hK⟩ := hv
  have hx := B.exec
  have hb := B.bytes
  have hr := B.returns
  have hts := atoms_spec (ws := wsX3_pins) B.pre
  have hown : s.vm.findClass RX3 = some m.cls := findClass_of_methodNamed B.named
  have hlocks := B.notSynchronized
  subst hsz
  have hD := hD0.self (sz := s.heap.size)
  generalize hAe : va_A (wMd md cI th mK mc mD mr mw my mC mk ms mu mt mp mb me) s.heap.size = A at hD ⊢
  have hA : ∀ q : Nat, s.heap.size ≤ q → A q := fun q h => by rw [← hAe]; exact Or.inr h
  have hinX3 : ∀ w ∈ u_ws RX3 TX3 15, w ∈ wsX3_pins := by decide +kernel
  have hf37 := hts (.fieldLink RX3 37 "KeyCabinetModel" "thrown" "I") (by decide +kernel)
  have hl := lv_entry ([.ref (md 0), .int (nI d), .int (nI q)]) (n := 3) (Nat.le_of_ble_eq_true rfl)
  rw [lg_entry_eq]
  generalize (lg_sl ([.ref (md 0), .int (nI d), .int (nI q)]) ++ List.replicate (3 - (lg_sl ([.ref (md 0), .int (nI d), .int (nI q)])).length) Slot.unset).toArray = ls at hl ⊢
  have hl : lv_has ls 3 [(0, .ref (md 0)), (1, .int (nI d)), (2, .int (nI q))] := hl
  refine W.genH (fun H locs eH eL => ?_)
  have hS : va_S A s.heap H locs := by rw [eH, eL]; exact va_S.rf
  have hP : va_P D vwCl (wMd md cI th mK mc mD mr mw my mC mk ms mu mt mp mb me) H := by rw [eH]; exact hP
  clear eH eL
  refine lv_aload_n hx hb dX3_pins_0 rfl (lv_at hl 0 rfl) ?_
  refine lv_iconst (v := 0) hx hb dX3_pins_1 (by decide) ?_
  refine va_put (D := D) (ci := 3) (v := .int 0) (ty := .int) (C := RX3) (T := TX3) (N := 15) hx hb hts hinX3 tyX3 tyX3_ok nmX3 hown hK.1 hP hD hS 0 rfl rfl 0 (by decide) hf37 (fun _ h9 => h9) rfl (by decide +kernel) rfl rfl (Nat.le_of_ble_eq_true rfl) dX3_pins_2 (fun H locs hP hD hS => ?_)
  have hP : va_P D vwCl (wMd md cI 0 mK mc mD mr mw my mC mk ms mu mt mp mb me) H := hP
  have hD : va_D A (wMd md cI 0 mK mc mD mr mw my mC mk ms mu mt mp mb me) := hD
  refine lv_aload_n hx hb dX3_pins_5 rfl (lv_at hl 0 rfl) ?_
  refine lv_iload_n hx hb dX3_pins_6 rfl (lv_at hl 1 rfl) ?_
  refine kc_rVi (As := [.int (nI d)]) (rest := []) ⟨hx, hb, hml, hown, hts⟩ (c_X3_isDoor l D md cI 0 mK mc mD mr mw my mC mk ms mu mt mp mb me (nI d) ) (cwV 1 hts gX3_pins_X3_isDoor rfl rfl rfl (by decide +kernel) ⟨Nat.le_of_ble_eq_true rfl, Nat.le_of_ble_eq_true rfl⟩) hK hP [0, 1, 2, 3, 4, 5, 6, 7, 8, 9] [0] rfl rfl 0 rfl rfl rfl rfl hl.1 rfl (Nat.le_of_ble_eq_true rfl) dX3_pins_7 ⟨Nat.le_of_ble_eq_true rfl, Nat.le_of_ble_eq_true rfl⟩ ?_
  refine kc_ifeqB (tgt := 31) hx hb dX3_pins_10 (by decide) (fun c_10 => ?_) (fun c_10 => ?_)
  · exact absurd (jIn_ok hd (by omega)) c_10
  · refine lv_iload_n hx hb dX3_pins_13 rfl (lv_at hl 2 rfl) ?_
    refine lv_if_lt (tgt := 31) hx hb dX3_pins_14 (by decide) (fun c_14 => ?_) (fun c_14 => ?_)
    · exact absurd c_14 (nI_pos (by omega))
    · refine lv_iload_n hx hb dX3_pins_17 rfl (lv_at hl 2 rfl) ?_
      refine lv_iconst (v := 5) hx hb dX3_pins_18 (by decide) ?_
      refine lv_icmp_ge (tgt := 31) hx hb dX3_pins_19 (by decide) (fun c_19 => ?_) (fun c_19 => ?_)
      · exact absurd c_19 (nI_ge (b := 5) hq (by omega))
      · refine lv_aload_n hx hb dX3_pins_22 rfl (lv_at hl 0 rfl) ?_
        refine lv_iload_n hx hb dX3_pins_23 rfl (lv_at hl 1 rfl) ?_
        refine lv_iload_n hx hb dX3_pins_24 rfl (lv_at hl 2 rfl) ?_
        refine kc_rVi (As := [.int (nI d), .int (nI q)]) (rest := []) ⟨hx, hb, hml, hown, hts⟩ (c_X3_pinsOf l D md cI 0 mK mc mD mr mw my mC mk ms mu mt mp mb me d (nI q) hK8 (by first | assumption | omega)) (cwV 2 hts gX3_pins_X3_pinsOf rfl rfl rfl (by decide +kernel) ⟨Nat.le_of_ble_eq_true rfl, Nat.le_of_ble_eq_true rfl⟩) hK hP [0, 1, 2, 3, 4, 5, 6, 7, 8, 9] [0] rfl rfl 0 rfl rfl rfl rfl hl.1 rfl (Nat.le_of_ble_eq_true rfl) dX3_pins_25 ⟨Nat.le_of_ble_eq_true rfl, Nat.le_of_ble_eq_true rfl⟩ ?_
        refine lv_goto (tgt := 36) hx hb dX3_pins_28 (by decide) ?_
        exact W.iret (v := mPins mr mc d (nI q) mK) hx hb hr (fun tZ htZ hWZ => ⟨⟨_, (), rfl, rfl, by rw [htZ]; exact hP, by rw [hAe]; exact hD⟩, hS.F htZ⟩) hS.2.2 dX3_pins_36
set_option maxHeartbeats 4000000 in
set_option maxRecDepth 100000 in
theorem c_X3_opens_f2 (l : Launch) (D : va_G) (md : Nat → Nat) (cI : ClassId) (th : Int32) (mK : Nat) (mc : Nat → Int32) (mD : Nat) (mr : Nat → Int32) (mw : Int32) (my : Int32) (mC : Nat) (mk : Nat → Int32) (ms : Nat → Int32) (mu : Nat → Int32) (mt : Nat → Int32) (mp : Nat → Int32) (mb : Nat → Int32) (me : Nat → Int32) (k : Nat) (y : Int32) (sz : Nat) (hK8 : mK ≤ 8) (hk : k < mK) (hBad : ¬ jIn mD y = true) : Met l yX3_opens wsX3_opens ({ frames := 1, cells := 0, slots := 0, locals := 21 } : Room) (wrP [.ref (md 0), .int (nI k), .int y] D sz (wMd md cI th mK mc mD mr mw my mC mk ms mu mt mp mb me) [(cI, .int)]) (va_Qi (fun rZ (_ : Unit) => rZ = 0) (wrB D sz (wMd md cI th mK mc mD mr mw my mC mk ms mu mt mp mb me) (wMd md cI 1 mK mc mD mr mw my mC mk ms mu mt mp mb me)) (va_A (wMd md cI th mK mc mD mr mw my mC mk ms mu mt mp mb me) sz)) 0 0 (va_A (wMd md cI th mK mc mD mr mw my mC mk ms mu mt mp mb me) sz) := by
  refine Met.ofW (cc := cX3_opens) (maxL := 3) (ret := (some .boolean)) (by decide) rfl ?_
  intro p e s m args below meth c s₁ B hml hv
  obtain ⟨rfl, hsz, hP, hD0, hK⟩ := hv
  have hx := B.exec
  have hb := B.bytes
  have hr := B.returns
  have hts := atoms_spec (ws := wsX3_opens) B.pre
  have hown : s.vm.findClass RX3 = some m.cls := findClass_of_methodNamed B.named
  have hlocks := B.notSynchronized
  subst hsz
  have hD := hD0.self (sz := s.heap.size)
  generalize hAe : va_A (wMd md cI th mK mc mD mr mw my mC mk ms mu mt mp mb me) s.heap.size = A at hD ⊢
  have hA : ∀ q : Nat, s.heap.size ≤ q → A q := fun q h => by rw [← hAe]; exact Or.inr h
  have hinX3 : ∀ w ∈ u_ws RX3 TX3 15, w ∈ wsX3_opens := by decide +kernel
  have hf37 := hts (.fieldLink RX3 37 "KeyCabinetModel" "thrown" "I") (by decide +kernel)
  have hl := lv_entry ([.ref (md 0), .int (nI k), .int y]) (n := 3) (Nat.le_of_ble_eq_true rfl)
  rw [lg_entry_eq]
  generalize (lg_sl ([.ref (md 0), .int (nI k), .int y]) ++ List.replicate (3 - (lg_sl ([.ref (md 0), .int (nI k), .int y])).length) Slot.unset).toArray = ls at hl ⊢
  have hl : lv_has ls 3 [(0, .ref (md 0)), (1, .int (nI k)), (2, .int y)] := hl
  refine W.genH (fun H locs eH eL => ?_)
  have hS : va_S A s.heap H locs := by rw [eH, eL]; exact va_S.rf
  have hP : va_P D vwCl (wMd md cI th mK mc mD mr mw my mC mk ms mu mt mp mb me) H := by rw [eH]; exact hP
  clear eH eL
  refine lv_aload_n hx hb dX3_opens_0 rfl (lv_at hl 0 rfl) ?_
  refine lv_aload_n hx hb dX3_opens_1 rfl (lv_at hl 0 rfl) ?_
  refine lv_iload_n hx hb dX3_opens_2 rfl (lv_at hl 1 rfl) ?_
  refine kc_rVi (As := [.int (nI k)]) (rest := [.ref (md 0)]) ⟨hx, hb, hml, hown, hts⟩ (c_X3_isKey l D md cI th mK mc mD mr mw my mC mk ms mu mt mp mb me (nI k) ) (cwV 1 hts gX3_opens_X3_isKey rfl rfl rfl (by decide +kernel) ⟨Nat.le_of_ble_eq_true rfl, Nat.le_of_ble_eq_true rfl⟩) hK hP [0, 1, 2, 3, 4, 5, 6, 7, 8, 9] [0] rfl rfl 0 rfl rfl rfl rfl hl.1 rfl (Nat.le_of_ble_eq_true rfl) dX3_opens_3 ⟨Nat.le_of_ble_eq_true rfl, Nat.le_of_ble_eq_true rfl⟩ ?_
  refine kc_ifeqB (tgt := 21) hx hb dX3_opens_6 (by decide) (fun c_6 => ?_) (fun c_6 => ?_)
  · exact absurd (jIn_ok hk (by omega)) c_6
  · refine lv_aload_n hx hb dX3_opens_9 rfl (lv_at hl 0 rfl) ?_
    refine lv_iload_n hx hb dX3_opens_10 rfl (lv_at hl 2 rfl) ?_
    refine kc_rVi (As := [.int y]) (rest := [.ref (md 0)]) ⟨hx, hb, hml, hown, hts⟩ (c_X3_isDoor l D md cI th mK mc mD mr mw my mC mk ms mu mt mp mb me y ) (cwV 1 hts gX3_opens_X3_isDoor rfl rfl rfl (by decide +kernel) ⟨Nat.le_of_ble_eq_true rfl, Nat.le_of_ble_eq_true rfl⟩) hK hP [0, 1, 2, 3, 4, 5, 6, 7, 8, 9] [0] rfl rfl 0 rfl rfl rfl rfl hl.1 rfl (Nat.le_of_ble_eq_true rfl) dX3_opens_11 ⟨Nat.le_of_ble_eq_true rfl, Nat.le_of_ble_eq_true rfl⟩ ?_
    refine kc_ifeqB (tgt := 21) hx hb dX3_opens_14 (by decide) (fun c_14 => ?_) (fun c_14 => ?_)
    · refine lv_iconst (v := 1) hx hb dX3_opens_21 (by decide) ?_
      refine va_put (D := D) (ci := 3) (v := .int 1) (ty := .int) (C := RX3) (T := TX3) (N := 15) hx hb hts hinX3 tyX3 tyX3_ok nmX3 hown hK.1 hP hD hS 0 rfl rfl 0 (by decide) hf37 (fun _ h9 => h9) rfl (by decide +kernel) rfl rfl (Nat.le_of_ble_eq_true rfl) dX3_opens_22 (fun H locs hP hD hS => ?_)
      have hP : va_P D vwCl (wMd md cI 1 mK mc mD mr mw my mC mk ms mu mt mp mb me) H := hP
      have hD : va_D A (wMd md cI 1 mK mc mD mr mw my mC mk ms mu mt mp mb me) := hD
      refine lv_aload_n hx hb dX3_opens_25 rfl (lv_at hl 0 rfl) ?_
      refine va_get (D := D) (ci := 3) (v := .int 1) (C := RX3) (T := TX3) (N := 15) hx hb hts hinX3 hown hK.1 hP 0 rfl rfl 0 (by decide) hf37 (fun _ h9 => h9) rfl dX3_opens_26 ?_
      refine lv_if_ne (tgt := 50) hx hb dX3_opens_29 (by decide) (fun c_29 => ?_) (fun c_29 => absurd c_29 (by decide))
      refine lv_iconst (v := 0) hx hb dX3_opens_50 (by decide) ?_
      exact W.zret (v := 0) hx hb hr rfl (fun tZ htZ hWZ => ⟨⟨_, (), rfl, rfl, by rw [htZ]; exact hP, by rw [hAe]; exact hD⟩, hS.F htZ⟩) hS.2.2 dX3_opens_51
    · exact absurd c_14 hBad
set_option maxHeartbeats 4000000 in
set_option maxRecDepth 100000 in
theorem c_X3_opens_ok (l : Launch) (D : va_G) (md : Nat → Nat) (cI : ClassId) (th : Int32) (mK : Nat) (mc : Nat → Int32) (mD : Nat) (mr : Nat → Int32) (mw : Int32) (my : Int32) (mC : Nat) (mk : Nat → Int32) (ms : Nat → Int32) (mu : Nat → Int32) (mt : Nat → Int32) (mp : Nat → Int32) (mb : Nat → Int32) (me : Nat → Int32) (k : Nat) (d : Nat) (sz : Nat) (hK8 : mK ≤ 8) (hD8 : mD ≤ 8) (hk : k < mK) (hd : d < mD) : Met l yX3_opens wsX3_opens ({ frames := 3, cells := 0, slots := 0, locals := 69 } : Room) (wrP [.ref (md 0), .int (nI k), .int (nI d)] D sz (wMd md cI th mK mc mD mr mw my mC mk ms mu mt mp mb me) [(cI, .int)]) (va_Qi (fun rZ (_ : Unit) => rZ = bI (mOpens mr mc mK (mc k) d 5)) (wrB D sz (wMd md cI th mK mc mD mr mw my mC mk ms mu mt mp mb me) (wMd md cI 0 mK mc mD mr mw my mC mk ms mu mt mp mb me)) (va_A (wMd md cI th mK mc mD mr mw my mC mk ms mu mt mp mb me) sz)) 0 0 (va_A (wMd md cI th mK mc mD mr mw my mC mk ms mu mt mp mb me) sz) := by
  refine Met.ofW (cc := cX3_opens) (maxL := 3) (ret := (some .boolean)) (by decide) rfl ?_
  intro p e s m args below meth c s₁ B hml hv
  obtain ⟨rfl, hsz, hP, hD0, hK⟩ := hv
  have hx := B.exec
  have hb := B.bytes
  have hr := B.returns
  have hts := atoms_spec (ws := wsX3_opens) B.pre
  have hown : s.vm.findClass RX3 = some m.cls := findClass_of_methodNamed B.named
  have hlocks := B.notSynchronized
  subst hsz
  have hD := hD0.self (sz := s.heap.size)
  generalize hAe : va_A (wMd md cI th mK mc mD mr mw my mC mk ms mu mt mp mb me) s.heap.size = A at hD ⊢
  have hA : ∀ q : Nat, s.heap.size ≤ q → A q := fun q h => by rw [← hAe]; exact Or.inr h
  have hinX3 : ∀ w ∈ u_ws RX3 TX3 15, w ∈ wsX3_opens := by decide +kernel
  have hf37 := hts (.fieldLink RX3 37 "KeyCabinetModel" "thrown" "I") (by decide +kernel)
  have hf9 := hts (.fieldLink RX3 9 "KeyCabinetModel" "codes" "[I") (by decide +kernel)
  have hl := lv_entry ([.ref (md 0), .int (nI k), .int (nI d)]) (n := 3) (Nat.le_of_ble_eq_true rfl)
  rw [lg_entry_eq]
  generalize (lg_sl ([.ref (md 0), .int (nI k), .int (nI d)]) ++ List.replicate (3 - (lg_sl ([.ref (md 0), .int (nI k), .int (nI d)])).length) Slot.unset).toArray = ls at hl ⊢
  have hl : lv_has ls 3 [(0, .ref (md 0)), (1, .int (nI k)), (2, .int (nI d))] := hl
  refine W.genH (fun H locs eH eL => ?_)
  have hS : va_S A s.heap H locs := by rw [eH, eL]; exact va_S.rf
  have hP : va_P D vwCl (wMd md cI th mK mc mD mr mw my mC mk ms mu mt mp mb me) H := by rw [eH]; exact hP
  clear eH eL
  refine lv_aload_n hx hb dX3_opens_0 rfl (lv_at hl 0 rfl) ?_
  refine lv_aload_n hx hb dX3_opens_1 rfl (lv_at hl 0 rfl) ?_
  refine lv_iload_n hx hb dX3_opens_2 rfl (lv_at hl 1 rfl) ?_
  refine kc_rVi (As := [.int (nI k)]) (rest := [.ref (md 0)]) ⟨hx, hb, hml, hown, hts⟩ (c_X3_isKey l D md cI th mK mc mD mr mw my mC mk ms mu mt mp mb me (nI k) ) (cwV 1 hts gX3_opens_X3_isKey rfl rfl rfl (by decide +kernel) ⟨Nat.le_of_ble_eq_true rfl, Nat.le_of_ble_eq_true rfl⟩) hK hP [0, 1, 2, 3, 4, 5, 6, 7, 8, 9] [0] rfl rfl 0 rfl rfl rfl rfl hl.1 rfl (Nat.le_of_ble_eq_true rfl) dX3_opens_3 ⟨Nat.le_of_ble_eq_true rfl, Nat.le_of_ble_eq_true rfl⟩ ?_
  refine kc_ifeqB (tgt := 21) hx hb dX3_opens_6 (by decide) (fun c_6 => ?_) (fun c_6 => ?_)
  · exact absurd (jIn_ok hk (by omega)) c_6
  · refine lv_aload_n hx hb dX3_opens_9 rfl (lv_at hl 0 rfl) ?_
    refine lv_iload_n hx hb dX3_opens_10 rfl (lv_at hl 2 rfl) ?_
    refine kc_rVi (As := [.int (nI d)]) (rest := [.ref (md 0)]) ⟨hx, hb, hml, hown, hts⟩ (c_X3_isDoor l D md cI th mK mc mD mr mw my mC mk ms mu mt mp mb me (nI d) ) (cwV 1 hts gX3_opens_X3_isDoor rfl rfl rfl (by decide +kernel) ⟨Nat.le_of_ble_eq_true rfl, Nat.le_of_ble_eq_true rfl⟩) hK hP [0, 1, 2, 3, 4, 5, 6, 7, 8, 9] [0] rfl rfl 0 rfl rfl rfl rfl hl.1 rfl (Nat.le_of_ble_eq_true rfl) dX3_opens_11 ⟨Nat.le_of_ble_eq_true rfl, Nat.le_of_ble_eq_true rfl⟩ ?_
    refine kc_ifeqB (tgt := 21) hx hb dX3_opens_14 (by decide) (fun c_14 => ?_) (fun c_14 => ?_)
    · exact absurd (jIn_ok hd (by omega)) c_14
    · refine lv_iconst (v := 0) hx hb dX3_opens_17 (by decide) ?_
      refine lv_goto (tgt := 22) hx hb dX3_opens_18 (by decide) ?_
      refine va_put (D := D) (ci := 3) (v := .int 0) (ty := .int) (C := RX3) (T := TX3) (N := 15) hx hb hts hinX3 tyX3 tyX3_ok nmX3 hown hK.1 hP hD hS 0 rfl rfl 0 (by decide) hf37 (fun _ h9 => h9) rfl (by decide +kernel) rfl rfl (Nat.le_of_ble_eq_true rfl) dX3_opens_22 (fun H locs hP hD hS => ?_)
      have hP : va_P D vwCl (wMd md cI 0 mK mc mD mr mw my mC mk ms mu mt mp mb me) H := hP
      have hD : va_D A (wMd md cI 0 mK mc mD mr mw my mC mk ms mu mt mp mb me) := hD
      refine lv_aload_n hx hb dX3_opens_25 rfl (lv_at hl 0 rfl) ?_
      refine va_get (D := D) (ci := 3) (v := .int 0) (C := RX3) (T := TX3) (N := 15) hx hb hts hinX3 hown hK.1 hP 0 rfl rfl 0 (by decide) hf37 (fun _ h9 => h9) rfl dX3_opens_26 ?_
      refine lv_if_ne (tgt := 50) hx hb dX3_opens_29 (by decide) (fun c_29 => absurd c_29 (by decide)) (fun c_29 => ?_)
      refine lv_aload_n hx hb dX3_opens_32 rfl (lv_at hl 0 rfl) ?_
      refine lv_aload_n hx hb dX3_opens_33 rfl (lv_at hl 0 rfl) ?_
      refine va_get (D := D) (ci := 3) (v := .ref (md 1)) (C := RX3) (T := TX3) (N := 15) hx hb hts hinX3 hown hK.1 hP 0 rfl rfl 2 (by decide) hf9 (fun _ h9 => h9) rfl dX3_opens_34 ?_
      refine lv_iload_n hx hb dX3_opens_37 rfl (lv_at hl 1 rfl) ?_
      refine kc_ald (i := k) (n := 8) hx hb hK hP 1 0 rfl rfl (by omega) (by decide) dX3_opens_38 ?_
      refine lv_iload_n hx hb dX3_opens_39 rfl (lv_at hl 2 rfl) ?_
      refine kc_rVi (As := [.int (mc k), .int (nI d)]) (rest := []) ⟨hx, hb, hml, hown, hts⟩ (c_X3_opensWith l D md cI 0 mK mc mD mr mw my mC mk ms mu mt mp mb me (mc k) d hK8 (by first | assumption | omega)) (cwV 2 hts gX3_opens_X3_opensWith rfl rfl rfl (by decide +kernel) ⟨Nat.le_of_ble_eq_true rfl, Nat.le_of_ble_eq_true rfl⟩) hK hP [0, 1, 2, 3, 4, 5, 6, 7, 8, 9] [0] rfl rfl 0 rfl rfl rfl rfl hl.1 rfl (Nat.le_of_ble_eq_true rfl) dX3_opens_40 ⟨Nat.le_of_ble_eq_true rfl, Nat.le_of_ble_eq_true rfl⟩ ?_
      refine kc_ifeqB (tgt := 50) hx hb dX3_opens_43 (by decide) (fun c_43 => ?_) (fun c_43 => ?_)
      · refine lv_iconst (v := 0) hx hb dX3_opens_50 (by decide) ?_
        exact W.zret (v := 0) hx hb hr rfl (fun tZ htZ hWZ => ⟨⟨_, (), rfl, (bI_f c_43).symm, by rw [htZ]; exact hP, by rw [hAe]; exact hD⟩, hS.F htZ⟩) hS.2.2 dX3_opens_51
      · refine lv_iconst (v := 1) hx hb dX3_opens_46 (by decide) ?_
        refine lv_goto (tgt := 51) hx hb dX3_opens_47 (by decide) ?_
        exact W.zret (v := 1) hx hb hr rfl (fun tZ htZ hWZ => ⟨⟨_, (), rfl, (bI_t c_43).symm, by rw [htZ]; exact hP, by rw [hAe]; exact hD⟩, hS.F htZ⟩) hS.2.2 dX3_opens_51
set_option maxHeartbeats 4000000 in
set_option maxRecDepth 100000 in
theorem c_X3_isAbove_f2 (l : Launch) (D : va_G) (md : Nat → Nat) (cI : ClassId) (th : Int32) (mK : Nat) (mc : Nat → Int32) (mD : Nat) (mr : Nat → Int32) (mw : Int32) (my : Int32) (mC : Nat) (mk : Nat → Int32) (ms : Nat → Int32) (mu : Nat → Int32) (mt : Nat → Int32) (mp : Nat → Int32) (mb : Nat → Int32) (me : Nat → Int32) (k : Nat) (y : Int32) (sz : Nat) (hK8 : mK ≤ 8) (hk : k < mK) (hBad : ¬ jIn mK y = true) : Met l yX3_isAbove wsX3_isAbove ({ frames := 1, cells := 0, slots := 0, locals := 21 } : Room) (wrP [.ref (md 0), .int (nI k), .int y] D sz (wMd md cI th mK mc mD mr mw my mC mk ms mu mt mp mb me) [(cI, .int)]) (va_Qi (fun rZ (_ : Unit) => rZ = 0) (wrB D sz (wMd md cI th mK mc mD mr mw my mC mk ms mu mt mp mb me) (wMd md cI 1 mK mc mD mr mw my mC mk ms mu mt mp mb me)) (va_A (wMd md cI th mK mc mD mr mw my mC mk ms mu mt mp mb me) sz)) 0 0 (va_A (wMd md cI th mK mc mD mr mw my mC mk ms mu mt mp mb me) sz) := by
  refine Met.ofW (cc := cX3_isAbove) (maxL := 5) (ret := (some .boolean)) (by decide) rfl ?_
  intro p e s m args below meth c s₁ B hml hv
  obtain ⟨rfl, hsz, hP, hD0, hK⟩ := hv
  have hx := B.exec
  have hb := B.bytes
  have hr := B.returns
  have hts := atoms_spec (ws := wsX3_isAbove) B.pre
  have hown : s.vm.findClass RX3 = some m.cls := findClass_of_methodNamed B.named
  have hlocks := B.notSynchronized
  subst hsz
  have hD := hD0.self (sz := s.heap.size)
  generalize hAe : va_A (wMd md cI th mK mc mD mr mw my mC mk ms mu mt mp mb me) s.heap.size = A at hD ⊢
  have hA : ∀ q : Nat, s.heap.size ≤ q → A q := fun q h => by rw [← hAe]; exact Or.inr h
  have hinX3 : ∀ w ∈ u_ws RX3 TX3 15, w ∈ wsX3_isAbove := by decide +kernel
  have hf37 := hts (.fieldLink RX3 37 "KeyCabinetModel" "thrown" "I") (by decide +kernel)
  have hl := lv_entry ([.ref (md 0), .int (nI k), .int y]) (n := 5) (Nat.le_of_ble_eq_true rfl)
  rw [lg_entry_eq]
  generalize (lg_sl ([.ref (md 0), .int (nI k), .int y]) ++ List.replicate (5 - (lg_sl ([.ref (md 0), .int (nI k), .int y])).length) Slot.unset).toArray = ls at hl ⊢
  have hl : lv_has ls 5 [(0, .ref (md 0)), (1, .int (nI k)), (2, .int y)] := hl
  refine W.genH (fun H locs eH eL => ?_)
  have hS : va_S A s.heap H locs := by rw [eH, eL]; exact va_S.rf
  have hP : va_P D vwCl (wMd md cI th mK mc mD mr mw my mC mk ms mu mt mp mb me) H := by rw [eH]; exact hP
  clear eH eL
  refine lv_aload_n hx hb dX3_isAbove_0 rfl (lv_at hl 0 rfl) ?_
  refine lv_aload_n hx hb dX3_isAbove_1 rfl (lv_at hl 0 rfl) ?_
  refine lv_iload_n hx hb dX3_isAbove_2 rfl (lv_at hl 1 rfl) ?_
  refine kc_rVi (As := [.int (nI k)]) (rest := [.ref (md 0)]) ⟨hx, hb, hml, hown, hts⟩ (c_X3_isKey l D md cI th mK mc mD mr mw my mC mk ms mu mt mp mb me (nI k) ) (cwV 1 hts gX3_isAbove_X3_isKey rfl rfl rfl (by decide +kernel) ⟨Nat.le_of_ble_eq_true rfl, Nat.le_of_ble_eq_true rfl⟩) hK hP [0, 1, 2, 3, 4, 5, 6, 7, 8, 9] [0] rfl rfl 0 rfl rfl rfl rfl hl.1 rfl (Nat.le_of_ble_eq_true rfl) dX3_isAbove_3 ⟨Nat.le_of_ble_eq_true rfl, Nat.le_of_ble_eq_true rfl⟩ ?_
  refine kc_ifeqB (tgt := 21) hx hb dX3_isAbove_6 (by decide) (fun c_6 => ?_) (fun c_6 => ?_)
  · exact absurd (jIn_ok hk (by omega)) c_6
  · refine lv_aload_n hx hb dX3_isAbove_9 rfl (lv_at hl 0 rfl) ?_
    refine lv_iload_n hx hb dX3_isAbove_10 rfl (lv_at hl 2 rfl) ?_
    refine kc_rVi (As := [.int y]) (rest := [.ref (md 0)]) ⟨hx, hb, hml, hown, hts⟩ (c_X3_isKey l D md cI th mK mc mD mr mw my mC mk ms mu mt mp mb me y ) (cwV 1 hts gX3_isAbove_X3_isKey rfl rfl rfl (by decide +kernel) ⟨Nat.le_of_ble_eq_true rfl, Nat.le_of_ble_eq_true rfl⟩) hK hP [0, 1, 2, 3, 4, 5, 6, 7, 8, 9] [0] rfl rfl 0 rfl rfl rfl rfl hl.1 rfl (Nat.le_of_ble_eq_true rfl) dX3_isAbove_11 ⟨Nat.le_of_ble_eq_true rfl, Nat.le_of_ble_eq_true rfl⟩ ?_
    refine kc_ifeqB (tgt := 21) hx hb dX3_isAbove_14 (by decide) (fun c_14 => ?_) (fun c_14 => ?_)
    · refine lv_iconst (v := 1) hx hb dX3_isAbove_21 (by decide) ?_
      refine va_put (D := D) (ci := 3) (v := .int 1) (ty := .int) (C := RX3) (T := TX3) (N := 15) hx hb hts hinX3 tyX3 tyX3_ok nmX3 hown hK.1 hP hD hS 0 rfl rfl 0 (by decide) hf37 (fun _ h9 => h9) rfl (by decide +kernel) rfl rfl (Nat.le_of_ble_eq_true rfl) dX3_isAbove_22 (fun H locs hP hD hS => ?_)
      have hP : va_P D vwCl (wMd md cI 1 mK mc mD mr mw my mC mk ms mu mt mp mb me) H := hP
      have hD : va_D A (wMd md cI 1 mK mc mD mr mw my mC mk ms mu mt mp mb me) := hD
      refine lv_aload_n hx hb dX3_isAbove_25 rfl (lv_at hl 0 rfl) ?_
      refine va_get (D := D) (ci := 3) (v := .int 1) (C := RX3) (T := TX3) (N := 15) hx hb hts hinX3 hown hK.1 hP 0 rfl rfl 0 (by decide) hf37 (fun _ h9 => h9) rfl dX3_isAbove_26 ?_
      refine lv_if_eq (tgt := 34) hx hb dX3_isAbove_29 (by decide) (fun c_29 => absurd c_29 (by decide)) (fun c_29 => ?_)
      refine lv_iconst (v := 0) hx hb dX3_isAbove_32 (by decide) ?_
      exact W.zret (v := 0) hx hb hr rfl (fun tZ htZ hWZ => ⟨⟨_, (), rfl, rfl, by rw [htZ]; exact hP, by rw [hAe]; exact hD⟩, hS.F htZ⟩) hS.2.2 dX3_isAbove_33
    · exact absurd c_14 hBad
set_option maxHeartbeats 4000000 in
set_option maxRecDepth 100000 in
theorem c_X3_isAbove_ok (l : Launch) (D : va_G) (md : Nat → Nat) (cI : ClassId) (th : Int32) (mK : Nat) (mc : Nat → Int32) (mD : Nat) (mr : Nat → Int32) (mw : Int32) (my : Int32) (mC : Nat) (mk : Nat → Int32) (ms : Nat → Int32) (mu : Nat → Int32) (mt : Nat → Int32) (mp : Nat → Int32) (mb : Nat → Int32) (me : Nat → Int32) (k : Nat) (k2 : Nat) (sz : Nat) (hK8 : mK ≤ 8) (hD8 : mD ≤ 8) (hk : k < mK) (hk2 : k2 < mK) : Met l yX3_isAbove wsX3_isAbove ({ frames := 4, cells := 0, slots := 0, locals := 92 } : Room) (wrP [.ref (md 0), .int (nI k), .int (nI k2)] D sz (wMd md cI th mK mc mD mr mw my mC mk ms mu mt mp mb me) [(cI, .int)]) (va_Qi (fun rZ (_ : Unit) => rZ = bI (mAbove (mDoors mr mc mK (mc k) mD) (mDoors mr mc mK (mc k2) mD))) (wrB D sz (wMd md cI th mK mc mD mr mw my mC mk ms mu mt mp mb me) (wMd md cI 0 mK mc mD mr mw my mC mk ms mu mt mp mb me)) (va_A (wMd md cI th mK mc mD mr mw my mC mk ms mu mt mp mb me) sz)) 0 0 (va_A (wMd md cI th mK mc mD mr mw my mC mk ms mu mt mp mb me) sz) := by
  refine Met.ofW (cc := cX3_isAbove) (maxL := 5) (ret := (some .boolean)) (by decide) rfl ?_
  intro p e s m args below meth c s₁ B hml hv
  obtain ⟨rfl, hsz, hP, hD0, hK⟩ := hv
  have hx := B.exec
  have hb := B.bytes
  have hr := B.returns
  have hts := atoms_spec (ws := wsX3_isAbove) B.pre
  have hown : s.vm.findClass RX3 = some m.cls := findClass_of_methodNamed B.named
  have hlocks := B.notSynchronized
  subst hsz
  have hD := hD0.self (sz := s.heap.size)
  generalize hAe : va_A (wMd md cI th mK mc mD mr mw my mC mk ms mu mt mp mb me) s.heap.size = A at hD ⊢
  have hA : ∀ q : Nat, s.heap.size ≤ q → A q := fun q h => by rw [← hAe]; exact Or.inr h
  have hinX3 : ∀ w ∈ u_ws RX3 TX3 15, w ∈ wsX3_isAbove := by decide +kernel
  have hf37 := hts (.fieldLink RX3 37 "KeyCabinetModel" "thrown" "I") (by decide +kernel)
  have hf9 := hts (.fieldLink RX3 9 "KeyCabinetModel" "codes" "[I") (by decide +kernel)
  have hl := lv_entry ([.ref (md 0), .int (nI k), .int (nI k2)]) (n := 5) (Nat.le_of_ble_eq_true rfl)
  rw [lg_entry_eq]
  generalize (lg_sl ([.ref (md 0), .int (nI k), .int (nI k2)]) ++ List.replicate (5 - (lg_sl ([.ref (md 0), .int (nI k), .int (nI k2)])).length) Slot.unset).toArray = ls at hl ⊢
  have hl : lv_has ls 5 [(0, .ref (md 0)), (1, .int (nI k)), (2, .int (nI k2))] := hl
  refine W.genH (fun H locs eH eL => ?_)
  have hS : va_S A s.heap H locs := by rw [eH, eL]; exact va_S.rf
  have hP : va_P D vwCl (wMd md cI th mK mc mD mr mw my mC mk ms mu mt mp mb me) H := by rw [eH]; exact hP
  clear eH eL
  refine lv_aload_n hx hb dX3_isAbove_0 rfl (lv_at hl 0 rfl) ?_
  refine lv_aload_n hx hb dX3_isAbove_1 rfl (lv_at hl 0 rfl) ?_
  refine lv_iload_n hx hb dX3_isAbove_2 rfl (lv_at hl 1 rfl) ?_
  refine kc_rVi (As := [.int (nI k)]) (rest := [.ref (md 0)]) ⟨hx, hb, hml, hown, hts⟩ (c_X3_isKey l D md cI th mK mc mD mr mw my mC mk ms mu mt mp mb me (nI k) ) (cwV 1 hts gX3_isAbove_X3_isKey rfl rfl rfl (by decide +kernel) ⟨Nat.le_of_ble_eq_true rfl, Nat.le_of_ble_eq_true rfl⟩) hK hP [0, 1, 2, 3, 4, 5, 6, 7, 8, 9] [0] rfl rfl 0 rfl rfl rfl rfl hl.1 rfl (Nat.le_of_ble_eq_true rfl) dX3_isAbove_3 ⟨Nat.le_of_ble_eq_true rfl, Nat.le_of_ble_eq_true rfl⟩ ?_
  refine kc_ifeqB (tgt := 21) hx hb dX3_isAbove_6 (by decide) (fun c_6 => ?_) (fun c_6 => ?_)
  · exact absurd (jIn_ok hk (by omega)) c_6
  · refine lv_aload_n hx hb dX3_isAbove_9 rfl (lv_at hl 0 rfl) ?_
    refine lv_iload_n hx hb dX3_isAbove_10 rfl (lv_at hl 2 rfl) ?_
    refine kc_rVi (As := [.int (nI k2)]) (rest := [.ref (md 0)]) ⟨hx, hb, hml, hown, hts⟩ (c_X3_isKey l D md cI th mK mc mD mr mw my mC mk ms mu mt mp mb me (nI k2) ) (cwV 1 hts gX3_isAbove_X3_isKey rfl rfl rfl (by decide +kernel) ⟨Nat.le_of_ble_eq_true rfl, Nat.le_of_ble_eq_true rfl⟩) hK hP [0, 1, 2, 3, 4, 5, 6, 7, 8, 9] [0] rfl rfl 0 rfl rfl rfl rfl hl.1 rfl (Nat.le_of_ble_eq_true rfl) dX3_isAbove_11 ⟨Nat.le_of_ble_eq_true rfl, Nat.le_of_ble_eq_true rfl⟩ ?_
    refine kc_ifeqB (tgt := 21) hx hb dX3_isAbove_14 (by decide) (fun c_14 => ?_) (fun c_14 => ?_)
    · exact absurd (jIn_ok hk2 (by omega)) c_14
    · refine lv_iconst (v := 0) hx hb dX3_isAbove_17 (by decide) ?_
      refine lv_goto (tgt := 22) hx hb dX3_isAbove_18 (by decide) ?_
      refine va_put (D := D) (ci := 3) (v := .int 0) (ty := .int) (C := RX3) (T := TX3) (N := 15) hx hb hts hinX3 tyX3 tyX3_ok nmX3 hown hK.1 hP hD hS 0 rfl rfl 0 (by decide) hf37 (fun _ h9 => h9) rfl (by decide +kernel) rfl rfl (Nat.le_of_ble_eq_true rfl) dX3_isAbove_22 (fun H locs hP hD hS => ?_)
      have hP : va_P D vwCl (wMd md cI 0 mK mc mD mr mw my mC mk ms mu mt mp mb me) H := hP
      have hD : va_D A (wMd md cI 0 mK mc mD mr mw my mC mk ms mu mt mp mb me) := hD
      refine lv_aload_n hx hb dX3_isAbove_25 rfl (lv_at hl 0 rfl) ?_
      refine va_get (D := D) (ci := 3) (v := .int 0) (C := RX3) (T := TX3) (N := 15) hx hb hts hinX3 hown hK.1 hP 0 rfl rfl 0 (by decide) hf37 (fun _ h9 => h9) rfl dX3_isAbove_26 ?_
      refine lv_if_eq (tgt := 34) hx hb dX3_isAbove_29 (by decide) (fun c_29 => ?_) (fun c_29 => absurd c_29 (by decide))
      refine lv_aload_n hx hb dX3_isAbove_34 rfl (lv_at hl 0 rfl) ?_
      refine lv_aload_n hx hb dX3_isAbove_35 rfl (lv_at hl 0 rfl) ?_
      refine va_get (D := D) (ci := 3) (v := .ref (md 1)) (C := RX3) (T := TX3) (N := 15) hx hb hts hinX3 hown hK.1 hP 0 rfl rfl 2 (by decide) hf9 (fun _ h9 => h9) rfl dX3_isAbove_36 ?_
      refine lv_iload_n hx hb dX3_isAbove_39 rfl (lv_at hl 1 rfl) ?_
      refine kc_ald (i := k) (n := 8) hx hb hK hP 1 0 rfl rfl (by omega) (by decide) dX3_isAbove_40 ?_
      refine kc_rVi (As := [.int (mc k)]) (rest := []) ⟨hx, hb, hml, hown, hts⟩ (c_X3_doorsOf l D md cI 0 mK mc mD mr mw my mC mk ms mu mt mp mb me (mc k) hK8 hD8) (cwV 1 hts gX3_isAbove_X3_doorsOf rfl rfl rfl (by decide +kernel) ⟨Nat.le_of_ble_eq_true rfl, Nat.le_of_ble_eq_true rfl⟩) hK hP [0, 1, 2, 3, 4, 5, 6, 7, 8, 9] [0] rfl rfl 0 rfl rfl rfl rfl hl.1 rfl (Nat.le_of_ble_eq_true rfl) dX3_isAbove_41 ⟨Nat.le_of_ble_eq_true rfl, Nat.le_of_ble_eq_true rfl⟩ ?_
      refine lv_istore_n (lv' := [(3, .int (mDoors mr mc mK (mc k) mD)), (0, .ref (md 0)), (1, .int (nI k)), (2, .int (nI k2))]) hx hb dX3_isAbove_44 rfl hl (by decide) rfl (fun ls hl => ?_)
      refine lv_aload_n hx hb dX3_isAbove_45 rfl (lv_at hl 1 rfl) ?_
      refine lv_aload_n hx hb dX3_isAbove_46 rfl (lv_at hl 1 rfl) ?_
      refine va_get (D := D) (ci := 3) (v := .ref (md 1)) (C := RX3) (T := TX3) (N := 15) hx hb hts hinX3 hown hK.1 hP 0 rfl rfl 2 (by decide) hf9 (fun _ h9 => h9) rfl dX3_isAbove_47 ?_
      refine lv_iload_n hx hb dX3_isAbove_50 rfl (lv_at hl 3 rfl) ?_
      refine kc_ald (i := k2) (n := 8) hx hb hK hP 1 0 rfl rfl (by omega) (by decide) dX3_isAbove_51 ?_
      refine kc_rVi (As := [.int (mc k2)]) (rest := []) ⟨hx, hb, hml, hown, hts⟩ (c_X3_doorsOf l D md cI 0 mK mc mD mr mw my mC mk ms mu mt mp mb me (mc k2) hK8 hD8) (cwV 1 hts gX3_isAbove_X3_doorsOf rfl rfl rfl (by decide +kernel) ⟨Nat.le_of_ble_eq_true rfl, Nat.le_of_ble_eq_true rfl⟩) hK hP [0, 1, 2, 3, 4, 5, 6, 7, 8, 9] [0] rfl rfl 0 rfl rfl rfl rfl hl.1 rfl (Nat.le_of_ble_eq_true rfl) dX3_isAbove_52 ⟨Nat.le_of_ble_eq_true rfl, Nat.le_of_ble_eq_true rfl⟩ ?_
      refine lv_istore (lv' := [(4, .int (mDoors mr mc mK (mc k2) mD)), (3, .int (mDoors mr mc mK (mc k) mD)), (0, .ref (md 0)), (1, .int (nI k)), (2, .int (nI k2))]) hx hb dX3_isAbove_55 hl (by decide) rfl (fun ls hl => ?_)
      refine lv_iload hx hb dX3_isAbove_57 (lv_at hl 0 rfl) ?_
      refine lv_iload_n hx hb dX3_isAbove_59 rfl (lv_at hl 1 rfl) ?_
      refine lv_iconst (v := (-1)) hx hb dX3_isAbove_60 (by decide) ?_
      refine lv_ixor hx hb dX3_isAbove_61 ?_
      refine lv_iand hx hb dX3_isAbove_62 ?_
      refine lv_if_ne (tgt := 76) hx hb dX3_isAbove_63 (by decide) (fun c_63 => ?_) (fun c_63 => ?_)
      · refine lv_iconst (v := 0) hx hb dX3_isAbove_76 (by decide) ?_
        exact W.zret (v := 0) hx hb hr rfl (fun tZ htZ hWZ => ⟨⟨_, (), rfl, (bI_n (fun h => c_63 h.1)).symm, by rw [htZ]; exact hP, by rw [hAe]; exact hD⟩, hS.F htZ⟩) hS.2.2 dX3_isAbove_77
      · refine lv_iload_n hx hb dX3_isAbove_66 rfl (lv_at hl 1 rfl) ?_
        refine lv_iload hx hb dX3_isAbove_67 (lv_at hl 0 rfl) ?_
        refine lv_icmp_eq (tgt := 76) hx hb dX3_isAbove_69 (by decide) (fun c_69 => ?_) (fun c_69 => ?_)
        · refine lv_iconst (v := 0) hx hb dX3_isAbove_76 (by decide) ?_
          exact W.zret (v := 0) hx hb hr rfl (fun tZ htZ hWZ => ⟨⟨_, (), rfl, (bI_n (fun h => h.2 c_69)).symm, by rw [htZ]; exact hP, by rw [hAe]; exact hD⟩, hS.F htZ⟩) hS.2.2 dX3_isAbove_77
        · refine lv_iconst (v := 1) hx hb dX3_isAbove_72 (by decide) ?_
          refine lv_goto (tgt := 77) hx hb dX3_isAbove_73 (by decide) ?_
          exact W.zret (v := 1) hx hb hr rfl (fun tZ htZ hWZ => ⟨⟨_, (), rfl, (bI_d ⟨c_63, c_69⟩).symm, by rw [htZ]; exact hP, by rw [hAe]; exact hD⟩, hS.F htZ⟩) hS.2.2 dX3_isAbove_77
set_option maxHeartbeats 4000000 in
set_option maxRecDepth 100000 in
theorem c_X3_cut_f2 (l : Launch) (D : va_G) (md : Nat → Nat) (cI : ClassId) (th : Int32) (mK : Nat) (mc : Nat → Int32) (mD : Nat) (mr : Nat → Int32) (mw : Int32) (my : Int32) (mC : Nat) (mk : Nat → Int32) (ms : Nat → Int32) (mu : Nat → Int32) (mt : Nat → Int32) (mp : Nat → Int32) (mb : Nat → Int32) (me : Nat → Int32) (k : Nat) (sz : Nat) (hK8 : mK ≤ 8) (hk : k < mK) (hCe : mC = 24) : Met l yX3_cut wsX3_cut ({ frames := 1, cells := 0, slots := 0, locals := 21 } : Room) (wrP [.ref (md 0), .int (nI k)] D sz (wMd md cI th mK mc mD mr mw my mC mk ms mu mt mp mb me) [(cI, .int)]) (va_Qi (fun rZ (_ : Unit) => rZ = 0) (wrB D sz (wMd md cI th mK mc mD mr mw my mC mk ms mu mt mp mb me) (wMd md cI 2 mK mc mD mr mw my mC mk ms mu mt mp mb me)) (va_A (wMd md cI th mK mc mD mr mw my mC mk ms mu mt mp mb me) sz)) 0 0 (va_A (wMd md cI th mK mc mD mr mw my mC mk ms mu mt mp mb me) sz) := by
  refine Met.ofW (cc := cX3_cut) (maxL := 2) (ret := (some .int)) (by decide) rfl ?_
  intro p e s m args below meth c s₁ B hml hv
  obtain ⟨rfl, hsz, hP, hD0, hK⟩ := hv
  have hx := B.exec
  have hb := B.bytes
  have hr := B.returns
  have hts := atoms_spec (ws := wsX3_cut) B.pre
  have hown : s.vm.findClass RX3 = some m.cls := findClass_of_methodNamed B.named
  have hlocks := B.notSynchronized
  subst hsz
  have hD := hD0.self (sz := s.heap.size)
  generalize hAe : va_A (wMd md cI th mK mc mD mr mw my mC mk ms mu mt mp mb me) s.heap.size = A at hD ⊢
  have hA : ∀ q : Nat, s.heap.size ≤ q → A q := fun q h => by rw [← hAe]; exact Or.inr h
  have hinX3 : ∀ w ∈ u_ws RX3 TX3 15, w ∈ wsX3_cut := by decide +kernel
  have hf37 := hts (.fieldLink RX3 37 "KeyCabinetModel" "thrown" "I") (by decide +kernel)
  have hf47 := hts (.fieldLink RX3 47 "KeyCabinetModel" "copies" "I") (by decide +kernel)
  have hl := lv_entry ([.ref (md 0), .int (nI k)]) (n := 2) (Nat.le_of_ble_eq_true rfl)
  rw [lg_entry_eq]
  generalize (lg_sl ([.ref (md 0), .int (nI k)]) ++ List.replicate (2 - (lg_sl ([.ref (md 0), .int (nI k)])).length) Slot.unset).toArray = ls at hl ⊢
  have hl : lv_has ls 2 [(0, .ref (md 0)), (1, .int (nI k))] := hl
  refine W.genH (fun H locs eH eL => ?_)
  have hS : va_S A s.heap H locs := by rw [eH, eL]; exact va_S.rf
  have hP : va_P D vwCl (wMd md cI th mK mc mD mr mw my mC mk ms mu mt mp mb me) H := by rw [eH]; exact hP
  clear eH eL
  refine lv_aload_n hx hb dX3_cut_0 rfl (lv_at hl 0 rfl) ?_
  refine lv_iconst (v := 0) hx hb dX3_cut_1 (by decide) ?_
  refine va_put (D := D) (ci := 3) (v := .int 0) (ty := .int) (C := RX3) (T := TX3) (N := 15) hx hb hts hinX3 tyX3 tyX3_ok nmX3 hown hK.1 hP hD hS 0 rfl rfl 0 (by decide) hf37 (fun _ h9 => h9) rfl (by decide +kernel) rfl rfl (Nat.le_of_ble_eq_true rfl) dX3_cut_2 (fun H locs hP hD hS => ?_)
  have hP : va_P D vwCl (wMd md cI 0 mK mc mD mr mw my mC mk ms mu mt mp mb me) H := hP
  have hD : va_D A (wMd md cI 0 mK mc mD mr mw my mC mk ms mu mt mp mb me) := hD
  refine lv_aload_n hx hb dX3_cut_5 rfl (lv_at hl 0 rfl) ?_
  refine lv_iload_n hx hb dX3_cut_6 rfl (lv_at hl 1 rfl) ?_
  refine kc_rVi (As := [.int (nI k)]) (rest := []) ⟨hx, hb, hml, hown, hts⟩ (c_X3_isKey l D md cI 0 mK mc mD mr mw my mC mk ms mu mt mp mb me (nI k) ) (cwV 1 hts gX3_cut_X3_isKey rfl rfl rfl (by decide +kernel) ⟨Nat.le_of_ble_eq_true rfl, Nat.le_of_ble_eq_true rfl⟩) hK hP [0, 1, 2, 3, 4, 5, 6, 7, 8, 9] [0] rfl rfl 0 rfl rfl rfl rfl hl.1 rfl (Nat.le_of_ble_eq_true rfl) dX3_cut_7 ⟨Nat.le_of_ble_eq_true rfl, Nat.le_of_ble_eq_true rfl⟩ ?_
  refine kc_ifneB (tgt := 19) hx hb dX3_cut_10 (by decide) (fun c_10 => ?_) (fun c_10 => ?_)
  · refine lv_aload_n hx hb dX3_cut_19 rfl (lv_at hl 0 rfl) ?_
    refine va_get (D := D) (ci := 3) (v := .int (nI mC)) (C := RX3) (T := TX3) (N := 15) hx hb hts hinX3 hown hK.1 hP 0 rfl rfl 7 (by decide) hf47 (fun _ h9 => h9) rfl dX3_cut_20 ?_
    refine lv_bipush (v := 24) hx hb dX3_cut_23 (by decide) ?_
    refine lv_icmp_ne (tgt := 34) hx hb dX3_cut_25 (by decide) (fun c_25 => ?_) (fun c_25 => ?_)
    · exact absurd (by rw [hCe]; rfl) c_25
    · refine lv_aload_n hx hb dX3_cut_28 rfl (lv_at hl 0 rfl) ?_
      refine lv_iconst (v := 2) hx hb dX3_cut_29 (by decide) ?_
      refine kc_wVi (w1 := wMd md cI 2 mK mc mD mr mw my mC mk ms mu mt mp mb me) (wr := []) (ws1 := wMd md cI 2 mK mc mD mr mw my mC mk ms mu mt mp mb me) (As := [.int 2]) (rest := []) ⟨hx, hb, hml, hown, hts⟩ (c_X3_fail l D md cI 0 mK mc mD mr mw my mC mk ms mu mt mp mb me 2 H.size ) (cwV 1 hts gX3_cut_X3_fail rfl rfl rfl (by decide +kernel) ⟨Nat.le_of_ble_eq_true rfl, Nat.le_of_ble_eq_true rfl⟩) hK hP hD hS hA [0, 1, 2, 3, 4, 5, 6, 7, 8, 9] [] [0, 1, 2, 3, 4, 5, 6, 7, 8, 9] [0] rfl rfl rfl rfl (by decide) rfl rfl rfl 0 rfl rfl rfl rfl hl.1 rfl (Nat.le_of_ble_eq_true rfl) dX3_cut_30 ⟨Nat.le_of_ble_eq_true rfl, Nat.le_of_ble_eq_true rfl⟩ (fun H locs hP hD hS => ?_)
      exact W.iret (v := 0) hx hb hr (fun tZ htZ hWZ => ⟨⟨_, (), rfl, rfl, by rw [htZ]; exact hP, by rw [hAe]; exact hD⟩, hS.F htZ⟩) hS.2.2 dX3_cut_33
  · exact absurd (jIn_ok hk (by omega)) c_10
set_option maxHeartbeats 4000000 in
set_option maxRecDepth 100000 in
theorem c_X3_cut_ok (l : Launch) (D : va_G) (md : Nat → Nat) (cI : ClassId) (th : Int32) (mK : Nat) (mc : Nat → Int32) (mD : Nat) (mr : Nat → Int32) (mw : Int32) (my : Int32) (mC : Nat) (mk : Nat → Int32) (ms : Nat → Int32) (mu : Nat → Int32) (mt : Nat → Int32) (mp : Nat → Int32) (mb : Nat → Int32) (me : Nat → Int32) (k : Nat) (sz : Nat) (hK8 : mK ≤ 8) (hk : k < mK) (hC23 : mC < 24) : Met l yX3_cut wsX3_cut ({ frames := 1, cells := 0, slots := 0, locals := 21 } : Room) (wrP [.ref (md 0), .int (nI k)] D sz (wMd md cI th mK mc mD mr mw my mC mk ms mu mt mp mb me) [(cI, .int)]) (va_Qi (fun rZ (_ : Unit) => rZ = nI mC) (wrB D sz (wMd md cI th mK mc mD mr mw my mC mk ms mu mt mp mb me) (wMd md cI 0 mK mc mD mr mw my (mC + 1) (upd mk mC (nI k)) (upd ms mC 0) mu (upd mt mC 0) mp mb me)) (va_A (wMd md cI th mK mc mD mr mw my mC mk ms mu mt mp mb me) sz)) 0 0 (va_A (wMd md cI th mK mc mD mr mw my mC mk ms mu mt mp mb me) sz) := by
  refine Met.ofW (cc := cX3_cut) (maxL := 2) (ret := (some .int)) (by decide) rfl ?_
  intro p e s m args below meth c s₁ B hml hv
  obtain ⟨rfl, hsz, hP, hD0, hK⟩ := hv
  have hx := B.exec
  have hb := B.bytes
  have hr := B.returns
  have hts := atoms_spec (ws := wsX3_cut) B.pre
  have hown : s.vm.findClass RX3 = some m.cls := findClass_of_methodNamed B.named
  have hlocks := B.notSynchronized
  subst hsz
  have hD := hD0.self (sz := s.heap.size)
  generalize hAe : va_A (wMd md cI th mK mc mD mr mw my mC mk ms mu mt mp mb me) s.heap.size = A at hD ⊢
  have hA : ∀ q : Nat, s.heap.size ≤ q → A q := fun q h => by rw [← hAe]; exact Or.inr h
  have hinX3 : ∀ w ∈ u_ws RX3 TX3 15, w ∈ wsX3_cut := by decide +kernel
  have hf37 := hts (.fieldLink RX3 37 "KeyCabinetModel" "thrown" "I") (by decide +kernel)
  have hf47 := hts (.fieldLink RX3 47 "KeyCabinetModel" "copies" "I") (by decide +kernel)
  have hf16 := hts (.fieldLink RX3 16 "KeyCabinetModel" "copyKeys" "[I") (by decide +kernel)
  have hf19 := hts (.fieldLink RX3 19 "KeyCabinetModel" "states" "[I") (by decide +kernel)
  have hf25 := hts (.fieldLink RX3 25 "KeyCabinetModel" "times" "[I") (by decide +kernel)
  have hl := lv_entry ([.ref (md 0), .int (nI k)]) (n := 2) (Nat.le_of_ble_eq_true rfl)
  rw [lg_entry_eq]
  generalize (lg_sl ([.ref (md 0), .int (nI k)]) ++ List.replicate (2 - (lg_sl ([.ref (md 0), .int (nI k)])).length) Slot.unset).toArray = ls at hl ⊢
  have hl : lv_has ls 2 [(0, .ref (md 0)), (1, .int (nI k))] := hl
  refine W.genH (fun H locs eH eL => ?_)
  have hS : va_S A s.heap H locs := by rw [eH, eL]; exact va_S.rf
  have hP : va_P D vwCl (wMd md cI th mK mc mD mr mw my mC mk ms mu mt mp mb me) H := by rw [eH]; exact hP
  clear eH eL
  refine lv_aload_n hx hb dX3_cut_0 rfl (lv_at hl 0 rfl) ?_
  refine lv_iconst (v := 0) hx hb dX3_cut_1 (by decide) ?_
  refine va_put (D := D) (ci := 3) (v := .int 0) (ty := .int) (C := RX3) (T := TX3) (N := 15) hx hb hts hinX3 tyX3 tyX3_ok nmX3 hown hK.1 hP hD hS 0 rfl rfl 0 (by decide) hf37 (fun _ h9 => h9) rfl (by decide +kernel) rfl rfl (Nat.le_of_ble_eq_true rfl) dX3_cut_2 (fun H locs hP hD hS => ?_)
  have hP : va_P D vwCl (wMd md cI 0 mK mc mD mr mw my mC mk ms mu mt mp mb me) H := hP
  have hD : va_D A (wMd md cI 0 mK mc mD mr mw my mC mk ms mu mt mp mb me) := hD
  refine lv_aload_n hx hb dX3_cut_5 rfl (lv_at hl 0 rfl) ?_
  refine lv_iload_n hx hb dX3_cut_6 rfl (lv_at hl 1 rfl) ?_
  refine kc_rVi (As := [.int (nI k)]) (rest := []) ⟨hx, hb, hml, hown, hts⟩ (c_X3_isKey l D md cI 0 mK mc mD mr mw my mC mk ms mu mt mp mb me (nI k) ) (cwV 1 hts gX3_cut_X3_isKey rfl rfl rfl (by decide +kernel) ⟨Nat.le_of_ble_eq_true rfl, Nat.le_of_ble_eq_true rfl⟩) hK hP [0, 1, 2, 3, 4, 5, 6, 7, 8, 9] [0] rfl rfl 0 rfl rfl rfl rfl hl.1 rfl (Nat.le_of_ble_eq_true rfl) dX3_cut_7 ⟨Nat.le_of_ble_eq_true rfl, Nat.le_of_ble_eq_true rfl⟩ ?_
  refine kc_ifneB (tgt := 19) hx hb dX3_cut_10 (by decide) (fun c_10 => ?_) (fun c_10 => ?_)
  · refine lv_aload_n hx hb dX3_cut_19 rfl (lv_at hl 0 rfl) ?_
    refine va_get (D := D) (ci := 3) (v := .int (nI mC)) (C := RX3) (T := TX3) (N := 15) hx hb hts hinX3 hown hK.1 hP 0 rfl rfl 7 (by decide) hf47 (fun _ h9 => h9) rfl dX3_cut_20 ?_
    refine lv_bipush (v := 24) hx hb dX3_cut_23 (by decide) ?_
    refine lv_icmp_ne (tgt := 34) hx hb dX3_cut_25 (by decide) (fun c_25 => ?_) (fun c_25 => ?_)
    · refine lv_aload_n hx hb dX3_cut_34 rfl (lv_at hl 0 rfl) ?_
      refine va_get (D := D) (ci := 3) (v := .ref (md 3)) (C := RX3) (T := TX3) (N := 15) hx hb hts hinX3 hown hK.1 hP 0 rfl rfl 8 (by decide) hf16 (fun _ h9 => h9) rfl dX3_cut_35 ?_
      refine lv_aload_n hx hb dX3_cut_38 rfl (lv_at hl 0 rfl) ?_
      refine va_get (D := D) (ci := 3) (v := .int (nI mC)) (C := RX3) (T := TX3) (N := 15) hx hb hts hinX3 hown hK.1 hP 0 rfl rfl 7 (by decide) hf47 (fun _ h9 => h9) rfl dX3_cut_39 ?_
      refine lv_iload_n hx hb dX3_cut_42 rfl (lv_at hl 1 rfl) ?_
      refine kc_ast (i := mC) (n := 24) hx hb hK hP hD hS 3 0 rfl rfl (by omega) (by decide) dX3_cut_43 (fun H locs hP hD hS => ?_)
      have hP : va_P D vwCl (wMd md cI 0 mK mc mD mr mw my mC (upd mk mC (nI k)) ms mu mt mp mb me) H := hP
      have hD : va_D A (wMd md cI 0 mK mc mD mr mw my mC (upd mk mC (nI k)) ms mu mt mp mb me) := hD
      refine lv_aload_n hx hb dX3_cut_44 rfl (lv_at hl 0 rfl) ?_
      refine va_get (D := D) (ci := 3) (v := .ref (md 4)) (C := RX3) (T := TX3) (N := 15) hx hb hts hinX3 hown hK.1 hP 0 rfl rfl 9 (by decide) hf19 (fun _ h9 => h9) rfl dX3_cut_45 ?_
      refine lv_aload_n hx hb dX3_cut_48 rfl (lv_at hl 0 rfl) ?_
      refine va_get (D := D) (ci := 3) (v := .int (nI mC)) (C := RX3) (T := TX3) (N := 15) hx hb hts hinX3 hown hK.1 hP 0 rfl rfl 7 (by decide) hf47 (fun _ h9 => h9) rfl dX3_cut_49 ?_
      refine lv_iconst (v := 0) hx hb dX3_cut_52 (by decide) ?_
      refine kc_ast (i := mC) (n := 24) hx hb hK hP hD hS 4 0 rfl rfl (by omega) (by decide) dX3_cut_53 (fun H locs hP hD hS => ?_)
      have hP : va_P D vwCl (wMd md cI 0 mK mc mD mr mw my mC (upd mk mC (nI k)) (upd ms mC 0) mu mt mp mb me) H := hP
      have hD : va_D A (wMd md cI 0 mK mc mD mr mw my mC (upd mk mC (nI k)) (upd ms mC 0) mu mt mp mb me) := hD
      refine lv_aload_n hx hb dX3_cut_54 rfl (lv_at hl 0 rfl) ?_
      refine va_get (D := D) (ci := 3) (v := .ref (md 6)) (C := RX3) (T := TX3) (N := 15) hx hb hts hinX3 hown hK.1 hP 0 rfl rfl 11 (by decide) hf25 (fun _ h9 => h9) rfl dX3_cut_55 ?_
      refine lv_aload_n hx hb dX3_cut_58 rfl (lv_at hl 0 rfl) ?_
      refine va_get (D := D) (ci := 3) (v := .int (nI mC)) (C := RX3) (T := TX3) (N := 15) hx hb hts hinX3 hown hK.1 hP 0 rfl rfl 7 (by decide) hf47 (fun _ h9 => h9) rfl dX3_cut_59 ?_
      refine lv_iconst (v := 0) hx hb dX3_cut_62 (by decide) ?_
      refine kc_ast (i := mC) (n := 24) hx hb hK hP hD hS 6 0 rfl rfl (by omega) (by decide) dX3_cut_63 (fun H locs hP hD hS => ?_)
      have hP : va_P D vwCl (wMd md cI 0 mK mc mD mr mw my mC (upd mk mC (nI k)) (upd ms mC 0) mu (upd mt mC 0) mp mb me) H := hP
      have hD : va_D A (wMd md cI 0 mK mc mD mr mw my mC (upd mk mC (nI k)) (upd ms mC 0) mu (upd mt mC 0) mp mb me) := hD
      refine lv_aload_n hx hb dX3_cut_64 rfl (lv_at hl 0 rfl) ?_
      refine lv_dup hx hb dX3_cut_65 rfl ?_
      refine va_get (D := D) (ci := 3) (v := .int (nI mC)) (C := RX3) (T := TX3) (N := 15) hx hb hts hinX3 hown hK.1 hP 0 rfl rfl 7 (by decide) hf47 (fun _ h9 => h9) rfl dX3_cut_66 ?_
      refine lv_iconst (v := 1) hx hb dX3_cut_69 (by decide) ?_
      refine lv_iadd hx hb dX3_cut_70 ?_
      refine kc_top (show (nI mC) + 1 = nI (mC + 1) from nI_add _ _) ?_
      refine va_put (D := D) (ci := 3) (v := .int (nI (mC + 1))) (ty := .int) (C := RX3) (T := TX3) (N := 15) hx hb hts hinX3 tyX3 tyX3_ok nmX3 hown hK.1 hP hD hS 0 rfl rfl 7 (by decide) hf47 (fun _ h9 => h9) rfl (by decide +kernel) rfl rfl (Nat.le_of_ble_eq_true rfl) dX3_cut_71 (fun H locs hP hD hS => ?_)
      have hP : va_P D vwCl (wMd md cI 0 mK mc mD mr mw my (mC + 1) (upd mk mC (nI k)) (upd ms mC 0) mu (upd mt mC 0) mp mb me) H := hP
      have hD : va_D A (wMd md cI 0 mK mc mD mr mw my (mC + 1) (upd mk mC (nI k)) (upd ms mC 0) mu (upd mt mC 0) mp mb me) := hD
      refine lv_aload_n hx hb dX3_cut_74 rfl (lv_at hl 0 rfl) ?_
      refine va_get (D := D) (ci := 3) (v := .int (nI (mC + 1))) (C := RX3) (T := TX3) (N := 15) hx hb hts hinX3 hown hK.1 hP 0 rfl rfl 7 (by decide) hf47 (fun _ h9 => h9) rfl dX3_cut_75 ?_
      refine lv_iconst (v := 1) hx hb dX3_cut_78 (by decide) ?_
      refine lv_isub hx hb dX3_cut_79 ?_
      refine kc_top (show (nI (mC + 1)) - 1 = nI mC from nI_pred mC) ?_
      exact W.iret (v := nI mC) hx hb hr (fun tZ htZ hWZ => ⟨⟨_, (), rfl, rfl, by rw [htZ]; exact hP, by rw [hAe]; exact hD⟩, hS.F htZ⟩) hS.2.2 dX3_cut_80
    · exact absurd ((nI_eq (a := mC) (b := 24) (by omega) (by omega)).mp c_25) (by omega)
  · exact absurd (jIn_ok hk (by omega)) c_10
set_option maxHeartbeats 4000000 in
set_option maxRecDepth 100000 in
theorem c_X3_lend_f1b (l : Launch) (D : va_G) (md : Nat → Nat) (cI : ClassId) (th : Int32) (mK : Nat) (mc : Nat → Int32) (mD : Nat) (mr : Nat → Int32) (mw : Int32) (my : Int32) (mC : Nat) (mk : Nat → Int32) (ms : Nat → Int32) (mu : Nat → Int32) (mt : Nat → Int32) (mp : Nat → Int32) (mb : Nat → Int32) (me : Nat → Int32) (cx : Nat) (pe : Int32) (dz : Int32) (sz : Nat) (hC24 : mC ≤ 24) (hc : cx < mC) (hBad : ¬ jIn 8 pe = true) : Met l yX3_lend wsX3_lend ({ frames := 1, cells := 0, slots := 0, locals := 21 } : Room) (wrP [.ref (md 0), .int (nI cx), .int pe, .int dz] D sz (wMd md cI th mK mc mD mr mw my mC mk ms mu mt mp mb me) [(cI, .int)]) (va_Qi (fun rZ (_ : Unit) => rZ = 0) (wrB D sz (wMd md cI th mK mc mD mr mw my mC mk ms mu mt mp mb me) (wMd md cI 1 mK mc mD mr mw my mC mk ms mu mt mp mb me)) (va_A (wMd md cI th mK mc mD mr mw my mC mk ms mu mt mp mb me) sz)) 0 0 (va_A (wMd md cI th mK mc mD mr mw my mC mk ms mu mt mp mb me) sz) := by
  refine Met.ofW (cc := cX3_lend) (maxL := 5) (ret := (some .int)) (by decide) rfl ?_
  intro p e s m args below meth c s₁ B hml hv
  obtain ⟨rfl, hsz, hP, hD0, hK⟩ := hv
  have hx := B.exec
  have hb := B.bytes
  have hr := B.returns
  have hts := atoms_spec (ws := wsX3_lend) B.pre
  have hown : s.vm.findClass RX3 = some m.cls := findClass_of_methodNamed B.named
  have hlocks := B.notSynchronized
  subst hsz
  have hD := hD0.self (sz := s.heap.size)
  generalize hAe : va_A (wMd md cI th mK mc mD mr mw my mC mk ms mu mt mp mb me) s.heap.size = A at hD ⊢
  have hA : ∀ q : Nat, s.heap.size ≤ q → A q := fun q h => by rw [← hAe]; exact Or.inr h
  have hinX3 : ∀ w ∈ u_ws RX3 TX3 15, w ∈ wsX3_lend := by decide +kernel
  have hf37 := hts (.fieldLink RX3 37 "KeyCabinetModel" "thrown" "I") (by decide +kernel)
  have hl := lv_entry ([.ref (md 0), .int (nI cx), .int pe, .int dz]) (n := 5) (Nat.le_of_ble_eq_true rfl)
  rw [lg_entry_eq]
  generalize (lg_sl ([.ref (md 0), .int (nI cx), .int pe, .int dz]) ++ List.replicate (5 - (lg_sl ([.ref (md 0), .int (nI cx), .int pe, .int dz])).length) Slot.unset).toArray = ls at hl ⊢
  have hl : lv_has ls 5 [(0, .ref (md 0)), (1, .int (nI cx)), (2, .int pe), (3, .int dz)] := hl
  refine W.genH (fun H locs eH eL => ?_)
  have hS : va_S A s.heap H locs := by rw [eH, eL]; exact va_S.rf
  have hP : va_P D vwCl (wMd md cI th mK mc mD mr mw my mC mk ms mu mt mp mb me) H := by rw [eH]; exact hP
  clear eH eL
  refine lv_aload_n hx hb dX3_lend_0 rfl (lv_at hl 0 rfl) ?_
  refine lv_iconst (v := 0) hx hb dX3_lend_1 (by decide) ?_
  refine va_put (D := D) (ci := 3) (v := .int 0) (ty := .int) (C := RX3) (T := TX3) (N := 15) hx hb hts hinX3 tyX3 tyX3_ok nmX3 hown hK.1 hP hD hS 0 rfl rfl 0 (by decide) hf37 (fun _ h9 => h9) rfl (by decide +kernel) rfl rfl (Nat.le_of_ble_eq_true rfl) dX3_lend_2 (fun H locs hP hD hS => ?_)
  have hP : va_P D vwCl (wMd md cI 0 mK mc mD mr mw my mC mk ms mu mt mp mb me) H := hP
  have hD : va_D A (wMd md cI 0 mK mc mD mr mw my mC mk ms mu mt mp mb me) := hD
  refine lv_aload_n hx hb dX3_lend_5 rfl (lv_at hl 0 rfl) ?_
  refine lv_iload_n hx hb dX3_lend_6 rfl (lv_at hl 1 rfl) ?_
  refine kc_rVi (As := [.int (nI cx)]) (rest := []) ⟨hx, hb, hml, hown, hts⟩ (c_X3_isCopy l D md cI 0 mK mc mD mr mw my mC mk ms mu mt mp mb me (nI cx) ) (cwV 1 hts gX3_lend_X3_isCopy rfl rfl rfl (by decide +kernel) ⟨Nat.le_of_ble_eq_true rfl, Nat.le_of_ble_eq_true rfl⟩) hK hP [0, 1, 2, 3, 4, 5, 6, 7, 8, 9] [0] rfl rfl 0 rfl rfl rfl rfl hl.1 rfl (Nat.le_of_ble_eq_true rfl) dX3_lend_7 ⟨Nat.le_of_ble_eq_true rfl, Nat.le_of_ble_eq_true rfl⟩ ?_
  refine kc_ifeqB (tgt := 20) hx hb dX3_lend_10 (by decide) (fun c_10 => ?_) (fun c_10 => ?_)
  · exact absurd (jIn_ok hc (by omega)) c_10
  · refine lv_iload_n hx hb dX3_lend_13 rfl (lv_at hl 2 rfl) ?_
    refine kc_rSi (As := [.int pe]) (rest := []) ⟨hx, hb, hml, hown, hts⟩ (c_X3_isPerson l pe ) (va_cwS 1 hts gX3_lend_X3_isPerson rfl rfl rfl (by decide +kernel) ⟨Nat.le_of_ble_eq_true rfl, Nat.le_of_ble_eq_true rfl⟩) rfl hl.1 rfl (Nat.le_of_ble_eq_true rfl) dX3_lend_14 ⟨Nat.le_of_ble_eq_true rfl, Nat.le_of_ble_eq_true rfl⟩ ?_
    refine kc_ifneB (tgt := 26) hx hb dX3_lend_17 (by decide) (fun c_17 => ?_) (fun c_17 => ?_)
    · exact absurd c_17 hBad
    · refine lv_aload_n hx hb dX3_lend_20 rfl (lv_at hl 0 rfl) ?_
      refine lv_iconst (v := 1) hx hb dX3_lend_21 (by decide) ?_
      refine kc_wVi (w1 := wMd md cI 1 mK mc mD mr mw my mC mk ms mu mt mp mb me) (wr := []) (ws1 := wMd md cI 1 mK mc mD mr mw my mC mk ms mu mt mp mb me) (As := [.int 1]) (rest := []) ⟨hx, hb, hml, hown, hts⟩ (c_X3_fail l D md cI 0 mK mc mD mr mw my mC mk ms mu mt mp mb me 1 H.size ) (cwV 1 hts gX3_lend_X3_fail rfl rfl rfl (by decide +kernel) ⟨Nat.le_of_ble_eq_true rfl, Nat.le_of_ble_eq_true rfl⟩) hK hP hD hS hA [0, 1, 2, 3, 4, 5, 6, 7, 8, 9] [] [0, 1, 2, 3, 4, 5, 6, 7, 8, 9] [0] rfl rfl rfl rfl (by decide) rfl rfl rfl 0 rfl rfl rfl rfl hl.1 rfl (Nat.le_of_ble_eq_true rfl) dX3_lend_22 ⟨Nat.le_of_ble_eq_true rfl, Nat.le_of_ble_eq_true rfl⟩ (fun H locs hP hD hS => ?_)
      exact W.iret (v := 0) hx hb hr (fun tZ htZ hWZ => ⟨⟨_, (), rfl, rfl, by rw [htZ]; exact hP, by rw [hAe]; exact hD⟩, hS.F htZ⟩) hS.2.2 dX3_lend_25
set_option maxHeartbeats 4000000 in
set_option maxRecDepth 100000 in
theorem c_X3_lend_f2 (l : Launch) (D : va_G) (md : Nat → Nat) (cI : ClassId) (th : Int32) (mK : Nat) (mc : Nat → Int32) (mD : Nat) (mr : Nat → Int32) (mw : Int32) (my : Int32) (mC : Nat) (mk : Nat → Int32) (ms : Nat → Int32) (mu : Nat → Int32) (mt : Nat → Int32) (mp : Nat → Int32) (mb : Nat → Int32) (me : Nat → Int32) (cx : Nat) (pe : Int32) (dz : Int32) (sz : Nat) (hC24 : mC ≤ 24) (hc : cx < mC) (hp : jIn 8 pe = true) (hz : dz < 1 ∨ (99 : Int32) < dz) : Met l yX3_lend wsX3_lend ({ frames := 1, cells := 0, slots := 0, locals := 21 } : Room) (wrP [.ref (md 0), .int (nI cx), .int pe, .int dz] D sz (wMd md cI th mK mc mD mr mw my mC mk ms mu mt mp mb me) [(cI, .int)]) (va_Qi (fun rZ (_ : Unit) => rZ = 0) (wrB D sz (wMd md cI th mK mc mD mr mw my mC mk ms mu mt mp mb me) (wMd md cI 2 mK mc mD mr mw my mC mk ms mu mt mp mb me)) (va_A (wMd md cI th mK mc mD mr mw my mC mk ms mu mt mp mb me) sz)) 0 0 (va_A (wMd md cI th mK mc mD mr mw my mC mk ms mu mt mp mb me) sz) := by
  refine Met.ofW (cc := cX3_lend) (maxL := 5) (ret := (some .int)) (by decide) rfl ?_
  intro p e s m args below meth c s₁ B hml hv
  obtain ⟨rfl, hsz, hP, hD0, hK⟩ := hv
  have hx := B.exec
  have hb := B.bytes
  have hr := B.returns
  have hts := atoms_spec (ws := wsX3_lend) B.pre
  have hown : s.vm.findClass RX3 = some m.cls := findClass_of_methodNamed B.named
  have hlocks := B.notSynchronized
  subst hsz
  have hD := hD0.self (sz := s.heap.size)
  generalize hAe : va_A (wMd md cI th mK mc mD mr mw my mC mk ms mu mt mp mb me) s.heap.size = A at hD ⊢
  have hA : ∀ q : Nat, s.heap.size ≤ q → A q := fun q h => by rw [← hAe]; exact Or.inr h
  have hinX3 : ∀ w ∈ u_ws RX3 TX3 15, w ∈ wsX3_lend := by decide +kernel
  have hf37 := hts (.fieldLink RX3 37 "KeyCabinetModel" "thrown" "I") (by decide +kernel)
  have hl := lv_entry ([.ref (md 0), .int (nI cx), .int pe, .int dz]) (n := 5) (Nat.le_of_ble_eq_true rfl)
  rw [lg_entry_eq]
  generalize (lg_sl ([.ref (md 0), .int (nI cx), .int pe, .int dz]) ++ List.replicate (5 - (lg_sl ([.ref (md 0), .int (nI cx), .int pe, .int dz])).length) Slot.unset).toArray = ls at hl ⊢
  have hl : lv_has ls 5 [(0, .ref (md 0)), (1, .int (nI cx)), (2, .int pe), (3, .int dz)] := hl
  refine W.genH (fun H locs eH eL => ?_)
  have hS : va_S A s.heap H locs := by rw [eH, eL]; exact va_S.rf
  have hP : va_P D vwCl (wMd md cI th mK mc mD mr mw my mC mk ms mu mt mp mb me) H := by rw [eH]; exact hP
  clear eH eL
  refine lv_aload_n hx hb dX3_lend_0 rfl (lv_at hl 0 rfl) ?_
  refine lv_iconst (v := 0) hx hb dX3_lend_1 (by decide) ?_
  refine va_put (D := D) (ci := 3) (v := .int 0) (ty := .int) (C := RX3) (T := TX3) (N := 15) hx hb hts hinX3 tyX3 tyX3_ok nmX3 hown hK.1 hP hD hS 0 rfl rfl 0 (by decide) hf37 (fun _ h9 => h9) rfl (by decide +kernel) rfl rfl (Nat.le_of_ble_eq_true rfl) dX3_lend_2 (fun H locs hP hD hS => ?_)
  have hP : va_P D vwCl (wMd md cI 0 mK mc mD mr mw my mC mk ms mu mt mp mb me) H := hP
  have hD : va_D A (wMd md cI 0 mK mc mD mr mw my mC mk ms mu mt mp mb me) := hD
  refine lv_aload_n hx hb dX3_lend_5 rfl (lv_at hl 0 rfl) ?_
  refine lv_iload_n hx hb dX3_lend_6 rfl (lv_at hl 1 rfl) ?_
  refine kc_rVi (As := [.int (nI cx)]) (rest := []) ⟨hx, hb, hml, hown, hts⟩ (c_X3_isCopy l D md cI 0 mK mc mD mr mw my mC mk ms mu mt mp mb me (nI cx) ) (cwV 1 hts gX3_lend_X3_isCopy rfl rfl rfl (by decide +kernel) ⟨Nat.le_of_ble_eq_true rfl, Nat.le_of_ble_eq_true rfl⟩) hK hP [0, 1, 2, 3, 4, 5, 6, 7, 8, 9] [0] rfl rfl 0 rfl rfl rfl rfl hl.1 rfl (Nat.le_of_ble_eq_true rfl) dX3_lend_7 ⟨Nat.le_of_ble_eq_true rfl, Nat.le_of_ble_eq_true rfl⟩ ?_
  refine kc_ifeqB (tgt := 20) hx hb dX3_lend_10 (by decide) (fun c_10 => ?_) (fun c_10 => ?_)
  · exact absurd (jIn_ok hc (by omega)) c_10
  · refine lv_iload_n hx hb dX3_lend_13 rfl (lv_at hl 2 rfl) ?_
    refine kc_rSi (As := [.int pe]) (rest := []) ⟨hx, hb, hml, hown, hts⟩ (c_X3_isPerson l pe ) (va_cwS 1 hts gX3_lend_X3_isPerson rfl rfl rfl (by decide +kernel) ⟨Nat.le_of_ble_eq_true rfl, Nat.le_of_ble_eq_true rfl⟩) rfl hl.1 rfl (Nat.le_of_ble_eq_true rfl) dX3_lend_14 ⟨Nat.le_of_ble_eq_true rfl, Nat.le_of_ble_eq_true rfl⟩ ?_
    refine kc_ifneB (tgt := 26) hx hb dX3_lend_17 (by decide) (fun c_17 => ?_) (fun c_17 => ?_)
    · refine lv_iload_n hx hb dX3_lend_26 rfl (lv_at hl 3 rfl) ?_
      refine lv_iconst (v := 1) hx hb dX3_lend_27 (by decide) ?_
      refine lv_icmp_lt (tgt := 37) hx hb dX3_lend_28 (by decide) (fun c_28 => ?_) (fun c_28 => ?_)
      · refine lv_aload_n hx hb dX3_lend_37 rfl (lv_at hl 0 rfl) ?_
        refine lv_iconst (v := 2) hx hb dX3_lend_38 (by decide) ?_
        refine kc_wVi (w1 := wMd md cI 2 mK mc mD mr mw my mC mk ms mu mt mp mb me) (wr := []) (ws1 := wMd md cI 2 mK mc mD mr mw my mC mk ms mu mt mp mb me) (As := [.int 2]) (rest := []) ⟨hx, hb, hml, hown, hts⟩ (c_X3_fail l D md cI 0 mK mc mD mr mw my mC mk ms mu mt mp mb me 2 H.size ) (cwV 1 hts gX3_lend_X3_fail rfl rfl rfl (by decide +kernel) ⟨Nat.le_of_ble_eq_true rfl, Nat.le_of_ble_eq_true rfl⟩) hK hP hD hS hA [0, 1, 2, 3, 4, 5, 6, 7, 8, 9] [] [0, 1, 2, 3, 4, 5, 6, 7, 8, 9] [0] rfl rfl rfl rfl (by decide) rfl rfl rfl 0 rfl rfl rfl rfl hl.1 rfl (Nat.le_of_ble_eq_true rfl) dX3_lend_39 ⟨Nat.le_of_ble_eq_true rfl, Nat.le_of_ble_eq_true rfl⟩ (fun H locs hP hD hS => ?_)
        exact W.iret (v := 0) hx hb hr (fun tZ htZ hWZ => ⟨⟨_, (), rfl, rfl, by rw [htZ]; exact hP, by rw [hAe]; exact hD⟩, hS.F htZ⟩) hS.2.2 dX3_lend_42
      · refine lv_iload_n hx hb dX3_lend_31 rfl (lv_at hl 3 rfl) ?_
        refine lv_bipush (v := 99) hx hb dX3_lend_32 (by decide) ?_
        refine lv_icmp_le (tgt := 43) hx hb dX3_lend_34 (by decide) (fun c_34 => ?_) (fun c_34 => ?_)
        · exact hz.elim (fun h => absurd h c_28) (fun h => absurd c_34 (kc_nle h))
        · refine lv_aload_n hx hb dX3_lend_37 rfl (lv_at hl 0 rfl) ?_
          refine lv_iconst (v := 2) hx hb dX3_lend_38 (by decide) ?_
          refine kc_wVi (w1 := wMd md cI 2 mK mc mD mr mw my mC mk ms mu mt mp mb me) (wr := []) (ws1 := wMd md cI 2 mK mc mD mr mw my mC mk ms mu mt mp mb me) (As := [.int 2]) (rest := []) ⟨hx, hb, hml, hown, hts⟩ (c_X3_fail l D md cI 0 mK mc mD mr mw my mC mk ms mu mt mp mb me 2 H.size ) (cwV 1 hts gX3_lend_X3_fail rfl rfl rfl (by decide +kernel) ⟨Nat.le_of_ble_eq_true rfl, Nat.le_of_ble_eq_true rfl⟩) hK hP hD hS hA [0, 1, 2, 3, 4, 5, 6, 7, 8, 9] [] [0, 1, 2, 3, 4, 5, 6, 7, 8, 9] [0] rfl rfl rfl rfl (by decide) rfl rfl rfl 0 rfl rfl rfl rfl hl.1 rfl (Nat.le_of_ble_eq_true rfl) dX3_lend_39 ⟨Nat.le_of_ble_eq_true rfl, Nat.le_of_ble_eq_true rfl⟩ (fun H locs hP hD hS => ?_)
          exact W.iret (v := 0) hx hb hr (fun tZ htZ hWZ => ⟨⟨_, (), rfl, rfl, by rw [htZ]; exact hP, by rw [hAe]; exact hD⟩, hS.F htZ⟩) hS.2.2 dX3_lend_42
    · exact absurd hp c_17
set_option maxHeartbeats 4000000 in
set_option maxRecDepth 100000 in
theorem c_X3_lend_f3a (l : Launch) (D : va_G) (md : Nat → Nat) (cI : ClassId) (th : Int32) (mK : Nat) (mc : Nat → Int32) (mD : Nat) (mr : Nat → Int32) (mw : Int32) (my : Int32) (mC : Nat) (mk : Nat → Int32) (ms : Nat → Int32) (mu : Nat → Int32) (mt : Nat → Int32) (mp : Nat → Int32) (mb : Nat → Int32) (me : Nat → Int32) (cx : Nat) (pe : Int32) (dz : Int32) (sz : Nat) (hC24 : mC ≤ 24) (hc : cx < mC) (hp : jIn 8 pe = true) (hz1 : ¬ dz < 1) (hz2 : dz ≤ 99) (hn : ¬ ms cx = 0) : Met l yX3_lend wsX3_lend ({ frames := 1, cells := 0, slots := 0, locals := 21 } : Room) (wrP [.ref (md 0), .int (nI cx), .int pe, .int dz] D sz (wMd md cI th mK mc mD mr mw my mC mk ms mu mt mp mb me) [(cI, .int)]) (va_Qi (fun rZ (_ : Unit) => rZ = 0) (wrB D sz (wMd md cI th mK mc mD mr mw my mC mk ms mu mt mp mb me) (wMd md cI 3 mK mc mD mr mw my mC mk ms mu mt mp mb me)) (va_A (wMd md cI th mK mc mD mr mw my mC mk ms mu mt mp mb me) sz)) 0 0 (va_A (wMd md cI th mK mc mD mr mw my mC mk ms mu mt mp mb me) sz) := by
  refine Met.ofW (cc := cX3_lend) (maxL := 5) (ret := (some .int)) (by decide) rfl ?_
  intro p e s m args below meth c s₁ B hml hv
  obtain ⟨rfl, hsz, hP, hD0, hK⟩ := hv
  have hx := B.exec
  have hb := B.bytes
  have hr := B.returns
  have hts := atoms_spec (ws := wsX3_lend) B.pre
  have hown : s.vm.findClass RX3 = some m.cls := findClass_of_methodNamed B.named
  have hlocks := B.notSynchronized
  subst hsz
  have hD := hD0.self (sz := s.heap.size)
  generalize hAe : va_A (wMd md cI th mK mc mD mr mw my mC mk ms mu mt mp mb me) s.heap.size = A at hD ⊢
  have hA : ∀ q : Nat, s.heap.size ≤ q → A q := fun q h => by rw [← hAe]; exact Or.inr h
  have hinX3 : ∀ w ∈ u_ws RX3 TX3 15, w ∈ wsX3_lend := by decide +kernel
  have hf37 := hts (.fieldLink RX3 37 "KeyCabinetModel" "thrown" "I") (by decide +kernel)
  have hf19 := hts (.fieldLink RX3 19 "KeyCabinetModel" "states" "[I") (by decide +kernel)
  have hl := lv_entry ([.ref (md 0), .int (nI cx), .int pe, .int dz]) (n := 5) (Nat.le_of_ble_eq_true rfl)
  rw [lg_entry_eq]
  generalize (lg_sl ([.ref (md 0), .int (nI cx), .int pe, .int dz]) ++ List.replicate (5 - (lg_sl ([.ref (md 0), .int (nI cx), .int pe, .int dz])).length) Slot.unset).toArray = ls at hl ⊢
  have hl : lv_has ls 5 [(0, .ref (md 0)), (1, .int (nI cx)), (2, .int pe), (3, .int dz)] := hl
  refine W.genH (fun H locs eH eL => ?_)
  have hS : va_S A s.heap H locs := by rw [eH, eL]; exact va_S.rf
  have hP : va_P D vwCl (wMd md cI th mK mc mD mr mw my mC mk ms mu mt mp mb me) H := by rw [eH]; exact hP
  clear eH eL
  refine lv_aload_n hx hb dX3_lend_0 rfl (lv_at hl 0 rfl) ?_
  refine lv_iconst (v := 0) hx hb dX3_lend_1 (by decide) ?_
  refine va_put (D := D) (ci := 3) (v := .int 0) (ty := .int) (C := RX3) (T := TX3) (N := 15) hx hb hts hinX3 tyX3 tyX3_ok nmX3 hown hK.1 hP hD hS 0 rfl rfl 0 (by decide) hf37 (fun _ h9 => h9) rfl (by decide +kernel) rfl rfl (Nat.le_of_ble_eq_true rfl) dX3_lend_2 (fun H locs hP hD hS => ?_)
  have hP : va_P D vwCl (wMd md cI 0 mK mc mD mr mw my mC mk ms mu mt mp mb me) H := hP
  have hD : va_D A (wMd md cI 0 mK mc mD mr mw my mC mk ms mu mt mp mb me) := hD
  refine lv_aload_n hx hb dX3_lend_5 rfl (lv_at hl 0 rfl) ?_
  refine lv_iload_n hx hb dX3_lend_6 rfl (lv_at hl 1 rfl) ?_
  refine kc_rVi (As := [.int (nI cx)]) (rest := []) ⟨hx, hb, hml, hown, hts⟩ (c_X3_isCopy l D md cI 0 mK mc mD mr mw my mC mk ms mu mt mp mb me (nI cx) ) (cwV 1 hts gX3_lend_X3_isCopy rfl rfl rfl (by decide +kernel) ⟨Nat.le_of_ble_eq_true rfl, Nat.le_of_ble_eq_true rfl⟩) hK hP [0, 1, 2, 3, 4, 5, 6, 7, 8, 9] [0] rfl rfl 0 rfl rfl rfl rfl hl.1 rfl (Nat.le_of_ble_eq_true rfl) dX3_lend_7 ⟨Nat.le_of_ble_eq_true rfl, Nat.le_of_ble_eq_true rfl⟩ ?_
  refine kc_ifeqB (tgt := 20) hx hb dX3_lend_10 (by decide) (fun c_10 => ?_) (fun c_10 => ?_)
  · exact absurd (jIn_ok hc (by omega)) c_10
  · refine lv_iload_n hx hb dX3_lend_13 rfl (lv_at hl 2 rfl) ?_
    refine kc_rSi (As := [.int pe]) (rest := []) ⟨hx, hb, hml, hown, hts⟩ (c_X3_isPerson l pe ) (va_cwS 1 hts gX3_lend_X3_isPerson rfl rfl rfl (by decide +kernel) ⟨Nat.le_of_ble_eq_true rfl, Nat.le_of_ble_eq_true rfl⟩) rfl hl.1 rfl (Nat.le_of_ble_eq_true rfl) dX3_lend_14 ⟨Nat.le_of_ble_eq_true rfl, Nat.le_of_ble_eq_true rfl⟩ ?_
    refine kc_ifneB (tgt := 26) hx hb dX3_lend_17 (by decide) (fun c_17 => ?_) (fun c_17 => ?_)
    · refine lv_iload_n hx hb dX3_lend_26 rfl (lv_at hl 3 rfl) ?_
      refine lv_iconst (v := 1) hx hb dX3_lend_27 (by decide) ?_
      refine lv_icmp_lt (tgt := 37) hx hb dX3_lend_28 (by decide) (fun c_28 => ?_) (fun c_28 => ?_)
      · exact absurd c_28 hz1
      · refine lv_iload_n hx hb dX3_lend_31 rfl (lv_at hl 3 rfl) ?_
        refine lv_bipush (v := 99) hx hb dX3_lend_32 (by decide) ?_
        refine lv_icmp_le (tgt := 43) hx hb dX3_lend_34 (by decide) (fun c_34 => ?_) (fun c_34 => ?_)
        · refine lv_aload_n hx hb dX3_lend_43 rfl (lv_at hl 0 rfl) ?_
          refine va_get (D := D) (ci := 3) (v := .ref (md 4)) (C := RX3) (T := TX3) (N := 15) hx hb hts hinX3 hown hK.1 hP 0 rfl rfl 9 (by decide) hf19 (fun _ h9 => h9) rfl dX3_lend_44 ?_
          refine lv_iload_n hx hb dX3_lend_47 rfl (lv_at hl 1 rfl) ?_
          refine kc_ald (i := cx) (n := 24) hx hb hK hP 4 0 rfl rfl (by omega) (by decide) dX3_lend_48 ?_
          refine lv_if_ne (tgt := 63) hx hb dX3_lend_49 (by decide) (fun c_49 => ?_) (fun c_49 => ?_)
          · refine lv_aload_n hx hb dX3_lend_63 rfl (lv_at hl 0 rfl) ?_
            refine lv_iconst (v := 3) hx hb dX3_lend_64 (by decide) ?_
            refine kc_wVi (w1 := wMd md cI 3 mK mc mD mr mw my mC mk ms mu mt mp mb me) (wr := []) (ws1 := wMd md cI 3 mK mc mD mr mw my mC mk ms mu mt mp mb me) (As := [.int 3]) (rest := []) ⟨hx, hb, hml, hown, hts⟩ (c_X3_fail l D md cI 0 mK mc mD mr mw my mC mk ms mu mt mp mb me 3 H.size ) (cwV 1 hts gX3_lend_X3_fail rfl rfl rfl (by decide +kernel) ⟨Nat.le_of_ble_eq_true rfl, Nat.le_of_ble_eq_true rfl⟩) hK hP hD hS hA [0, 1, 2, 3, 4, 5, 6, 7, 8, 9] [] [0, 1, 2, 3, 4, 5, 6, 7, 8, 9] [0] rfl rfl rfl rfl (by decide) rfl rfl rfl 0 rfl rfl rfl rfl hl.1 rfl (Nat.le_of_ble_eq_true rfl) dX3_lend_65 ⟨Nat.le_of_ble_eq_true rfl, Nat.le_of_ble_eq_true rfl⟩ (fun H locs hP hD hS => ?_)
            exact W.iret (v := 0) hx hb hr (fun tZ htZ hWZ => ⟨⟨_, (), rfl, rfl, by rw [htZ]; exact hP, by rw [hAe]; exact hD⟩, hS.F htZ⟩) hS.2.2 dX3_lend_68
          · exact absurd c_49 hn
        · exact absurd hz2 c_34
    · exact absurd hp c_17
set_option maxHeartbeats 4000000 in
set_option maxRecDepth 100000 in
theorem c_X3_lend_f3b (l : Launch) (D : va_G) (md : Nat → Nat) (cI : ClassId) (th : Int32) (mK : Nat) (mc : Nat → Int32) (mD : Nat) (mr : Nat → Int32) (mw : Int32) (my : Int32) (mC : Nat) (mk : Nat → Int32) (ms : Nat → Int32) (mu : Nat → Int32) (mt : Nat → Int32) (mp : Nat → Int32) (mb : Nat → Int32) (me : Nat → Int32) (cx : Nat) (pe : Int32) (dz : Int32) (sz : Nat) (hC24 : mC ≤ 24) (hc : cx < mC) (hp : jIn 8 pe = true) (hz1 : ¬ dz < 1) (hz2 : dz ≤ 99) (h0 : ms cx = 0) (h9 : mt cx = 9) : Met l yX3_lend wsX3_lend ({ frames := 1, cells := 0, slots := 0, locals := 21 } : Room) (wrP [.ref (md 0), .int (nI cx), .int pe, .int dz] D sz (wMd md cI th mK mc mD mr mw my mC mk ms mu mt mp mb me) [(cI, .int)]) (va_Qi (fun rZ (_ : Unit) => rZ = 0) (wrB D sz (wMd md cI th mK mc mD mr mw my mC mk ms mu mt mp mb me) (wMd md cI 3 mK mc mD mr mw my mC mk ms mu mt mp mb me)) (va_A (wMd md cI th mK mc mD mr mw my mC mk ms mu mt mp mb me) sz)) 0 0 (va_A (wMd md cI th mK mc mD mr mw my mC mk ms mu mt mp mb me) sz) := by
  refine Met.ofW (cc := cX3_lend) (maxL := 5) (ret := (some .int)) (by decide) rfl ?_
  intro p e s m args below meth c s₁ B hml hv
  obtain ⟨rfl, hsz, hP, hD0, hK⟩ := hv
  have hx := B.exec
  have hb := B.bytes
  have hr := B.returns
  have hts := atoms_spec (ws := wsX3_lend) B.pre
  have hown : s.vm.findClass RX3 = some m.cls := findClass_of_methodNamed B.named
  have hlocks := B.notSynchronized
  subst hsz
  have hD := hD0.self (sz := s.heap.size)
  generalize hAe : va_A (wMd md cI th mK mc mD mr mw my mC mk ms mu mt mp mb me) s.heap.size = A at hD ⊢
  have hA : ∀ q : Nat, s.heap.size ≤ q → A q := fun q h => by rw [← hAe]; exact Or.inr h
  have hinX3 : ∀ w ∈ u_ws RX3 TX3 15, w ∈ wsX3_lend := by decide +kernel
  have hf37 := hts (.fieldLink RX3 37 "KeyCabinetModel" "thrown" "I") (by decide +kernel)
  have hf19 := hts (.fieldLink RX3 19 "KeyCabinetModel" "states" "[I") (by decide +kernel)
  have hf25 := hts (.fieldLink RX3 25 "KeyCabinetModel" "times" "[I") (by decide +kernel)
  have hl := lv_entry ([.ref (md 0), .int (nI cx), .int pe, .int dz]) (n := 5) (Nat.le_of_ble_eq_true rfl)
  rw [lg_entry_eq]
  generalize (lg_sl ([.ref (md 0), .int (nI cx), .int pe, .int dz]) ++ List.replicate (5 - (lg_sl ([.ref (md 0), .int (nI cx), .int pe, .int dz])).length) Slot.unset).toArray = ls at hl ⊢
  have hl : lv_has ls 5 [(0, .ref (md 0)), (1, .int (nI cx)), (2, .int pe), (3, .int dz)] := hl
  refine W.genH (fun H locs eH eL => ?_)
  have hS : va_S A s.heap H locs := by rw [eH, eL]; exact va_S.rf
  have hP : va_P D vwCl (wMd md cI th mK mc mD mr mw my mC mk ms mu mt mp mb me) H := by rw [eH]; exact hP
  clear eH eL
  refine lv_aload_n hx hb dX3_lend_0 rfl (lv_at hl 0 rfl) ?_
  refine lv_iconst (v := 0) hx hb dX3_lend_1 (by decide) ?_
  refine va_put (D := D) (ci := 3) (v := .int 0) (ty := .int) (C := RX3) (T := TX3) (N := 15) hx hb hts hinX3 tyX3 tyX3_ok nmX3 hown hK.1 hP hD hS 0 rfl rfl 0 (by decide) hf37 (fun _ h9 => h9) rfl (by decide +kernel) rfl rfl (Nat.le_of_ble_eq_true rfl) dX3_lend_2 (fun H locs hP hD hS => ?_)
  have hP : va_P D vwCl (wMd md cI 0 mK mc mD mr mw my mC mk ms mu mt mp mb me) H := hP
  have hD : va_D A (wMd md cI 0 mK mc mD mr mw my mC mk ms mu mt mp mb me) := hD
  refine lv_aload_n hx hb dX3_lend_5 rfl (lv_at hl 0 rfl) ?_
  refine lv_iload_n hx hb dX3_lend_6 rfl (lv_at hl 1 rfl) ?_
  refine kc_rVi (As := [.int (nI cx)]) (rest := []) ⟨hx, hb, hml, hown, hts⟩ (c_X3_isCopy l D md cI 0 mK mc mD mr mw my mC mk ms mu mt mp mb me (nI cx) ) (cwV 1 hts gX3_lend_X3_isCopy rfl rfl rfl (by decide +kernel) ⟨Nat.le_of_ble_eq_true rfl, Nat.le_of_ble_eq_true rfl⟩) hK hP [0, 1, 2, 3, 4, 5, 6, 7, 8, 9] [0] rfl rfl 0 rfl rfl rfl rfl hl.1 rfl (Nat.le_of_ble_eq_true rfl) dX3_lend_7 ⟨Nat.le_of_ble_eq_true rfl, Nat.le_of_ble_eq_true rfl⟩ ?_
  refine kc_ifeqB (tgt := 20) hx hb dX3_lend_10 (by decide) (fun c_10 => ?_) (fun c_10 => ?_)
  · exact absurd (jIn_ok hc (by omega)) c_10
  · refine lv_iload_n hx hb dX3_lend_13 rfl (lv_at hl 2 rfl) ?_
    refine kc_rSi (As := [.int pe]) (rest := []) ⟨hx, hb, hml, hown, hts⟩ (c_X3_isPerson l pe ) (va_cwS 1 hts gX3_lend_X3_isPerson rfl rfl rfl (by decide +kernel) ⟨Nat.le_of_ble_eq_true rfl, Nat.le_of_ble_eq_true rfl⟩) rfl hl.1 rfl (Nat.le_of_ble_eq_true rfl) dX3_lend_14 ⟨Nat.le_of_ble_eq_true rfl, Nat.le_of_ble_eq_true rfl⟩ ?_
    refine kc_ifneB (tgt := 26) hx hb dX3_lend_17 (by decide) (fun c_17 => ?_) (fun c_17 => ?_)
    · refine lv_iload_n hx hb dX3_lend_26 rfl (lv_at hl 3 rfl) ?_
      refine lv_iconst (v := 1) hx hb dX3_lend_27 (by decide) ?_
      refine lv_icmp_lt (tgt := 37) hx hb dX3_lend_28 (by decide) (fun c_28 => ?_) (fun c_28 => ?_)
      · exact absurd c_28 hz1
      · refine lv_iload_n hx hb dX3_lend_31 rfl (lv_at hl 3 rfl) ?_
        refine lv_bipush (v := 99) hx hb dX3_lend_32 (by decide) ?_
        refine lv_icmp_le (tgt := 43) hx hb dX3_lend_34 (by decide) (fun c_34 => ?_) (fun c_34 => ?_)
        · refine lv_aload_n hx hb dX3_lend_43 rfl (lv_at hl 0 rfl) ?_
          refine va_get (D := D) (ci := 3) (v := .ref (md 4)) (C := RX3) (T := TX3) (N := 15) hx hb hts hinX3 hown hK.1 hP 0 rfl rfl 9 (by decide) hf19 (fun _ h9 => h9) rfl dX3_lend_44 ?_
          refine lv_iload_n hx hb dX3_lend_47 rfl (lv_at hl 1 rfl) ?_
          refine kc_ald (i := cx) (n := 24) hx hb hK hP 4 0 rfl rfl (by omega) (by decide) dX3_lend_48 ?_
          refine lv_if_ne (tgt := 63) hx hb dX3_lend_49 (by decide) (fun c_49 => ?_) (fun c_49 => ?_)
          · exact absurd h0 c_49
          · refine lv_aload_n hx hb dX3_lend_52 rfl (lv_at hl 0 rfl) ?_
            refine va_get (D := D) (ci := 3) (v := .ref (md 6)) (C := RX3) (T := TX3) (N := 15) hx hb hts hinX3 hown hK.1 hP 0 rfl rfl 11 (by decide) hf25 (fun _ h9 => h9) rfl dX3_lend_53 ?_
            refine lv_iload_n hx hb dX3_lend_56 rfl (lv_at hl 1 rfl) ?_
            refine kc_ald (i := cx) (n := 24) hx hb hK hP 6 0 rfl rfl (by omega) (by decide) dX3_lend_57 ?_
            refine lv_bipush (v := 9) hx hb dX3_lend_58 (by decide) ?_
            refine lv_icmp_ne (tgt := 69) hx hb dX3_lend_60 (by decide) (fun c_60 => ?_) (fun c_60 => ?_)
            · exact absurd h9 c_60
            · refine lv_aload_n hx hb dX3_lend_63 rfl (lv_at hl 0 rfl) ?_
              refine lv_iconst (v := 3) hx hb dX3_lend_64 (by decide) ?_
              refine kc_wVi (w1 := wMd md cI 3 mK mc mD mr mw my mC mk ms mu mt mp mb me) (wr := []) (ws1 := wMd md cI 3 mK mc mD mr mw my mC mk ms mu mt mp mb me) (As := [.int 3]) (rest := []) ⟨hx, hb, hml, hown, hts⟩ (c_X3_fail l D md cI 0 mK mc mD mr mw my mC mk ms mu mt mp mb me 3 H.size ) (cwV 1 hts gX3_lend_X3_fail rfl rfl rfl (by decide +kernel) ⟨Nat.le_of_ble_eq_true rfl, Nat.le_of_ble_eq_true rfl⟩) hK hP hD hS hA [0, 1, 2, 3, 4, 5, 6, 7, 8, 9] [] [0, 1, 2, 3, 4, 5, 6, 7, 8, 9] [0] rfl rfl rfl rfl (by decide) rfl rfl rfl 0 rfl rfl rfl rfl hl.1 rfl (Nat.le_of_ble_eq_true rfl) dX3_lend_65 ⟨Nat.le_of_ble_eq_true rfl, Nat.le_of_ble_eq_true rfl⟩ (fun H locs hP hD hS => ?_)
              exact W.iret (v := 0) hx hb hr (fun tZ htZ hWZ => ⟨⟨_, (), rfl, rfl, by rw [htZ]; exact hP, by rw [hAe]; exact hD⟩, hS.F htZ⟩) hS.2.2 dX3_lend_68
        · exact absurd hz2 c_34
    · exact absurd hp c_17
set_option maxHeartbeats 4000000 in
set_option maxRecDepth 100000 in
theorem c_X3_lend_ok (l : Launch) (D : va_G) (md : Nat → Nat) (cI : ClassId) (th : Int32) (mK : Nat) (mc : Nat → Int32) (mD : Nat) (mr : Nat → Int32) (mw : Int32) (my : Int32) (mC : Nat) (mk : Nat → Int32) (ms : Nat → Int32) (mu : Nat → Int32) (mt : Nat → Int32) (mp : Nat → Int32) (mb : Nat → Int32) (me : Nat → Int32) (cx : Nat) (pe : Int32) (dz : Int32) (tn : Nat → Nat) (sz : Nat) (hC24 : mC ≤ 24) (hc : cx < mC) (hp : jIn 8 pe = true) (hz1 : ¬ dz < 1) (hz2 : dz ≤ 99) (h0 : ms cx = 0) (ht : mt cx = nI (tn cx)) (ht8 : tn cx < 9) : Met l yX3_lend wsX3_lend ({ frames := 1, cells := 0, slots := 0, locals := 21 } : Room) (wrP [.ref (md 0), .int (nI cx), .int pe, .int dz] D sz (wMd md cI th mK mc mD mr mw my mC mk ms mu mt mp mb me) [(cI, .int)]) (va_Qi (fun rZ (_ : Unit) => rZ = my + dz) (wrB D sz (wMd md cI th mK mc mD mr mw my mC mk ms mu mt mp mb me) (wMd md cI 0 mK mc mD mr mw my mC mk (upd ms cx 1) (upd mu cx (my + dz)) (upd mt cx (nI (tn cx + 1))) (upd mp (cx * 9 + tn cx) pe) (upd mb (cx * 9 + tn cx) my) (upd me (cx * 9 + tn cx) (-1)))) (va_A (wMd md cI th mK mc mD mr mw my mC mk ms mu mt mp mb me) sz)) 0 0 (va_A (wMd md cI th mK mc mD mr mw my mC mk ms mu mt mp mb me) sz) := by
  refine Met.ofW (cc := cX3_lend) (maxL := 5) (ret := (some .int)) (by decide) rfl ?_
  intro p e s m args below meth c s₁ B hml hv
  obtain ⟨rfl, hsz, hP, hD0, hK⟩ := hv
  have hx := B.exec
  have hb := B.bytes
  have hr := B.returns
  have hts := atoms_spec (ws := wsX3_lend) B.pre
  have hown : s.vm.findClass RX3 = some m.cls := findClass_of_methodNamed B.named
  have hlocks := B.notSynchronized
  subst hsz
  have hD := hD0.self (sz := s.heap.size)
  generalize hAe : va_A (wMd md cI th mK mc mD mr mw my mC mk ms mu mt mp mb me) s.heap.size = A at hD ⊢
  have hA : ∀ q : Nat, s.heap.size ≤ q → A q := fun q h => by rw [← hAe]; exact Or.inr h
  have hinX3 : ∀ w ∈ u_ws RX3 TX3 15, w ∈ wsX3_lend := by decide +kernel
  have hf37 := hts (.fieldLink RX3 37 "KeyCabinetModel" "thrown" "I") (by decide +kernel)
  have hf19 := hts (.fieldLink RX3 19 "KeyCabinetModel" "states" "[I") (by decide +kernel)
  have hf25 := hts (.fieldLink RX3 25 "KeyCabinetModel" "times" "[I") (by decide +kernel)
  have hf28 := hts (.fieldLink RX3 28 "KeyCabinetModel" "persons" "[I") (by decide +kernel)
  have hf31 := hts (.fieldLink RX3 31 "KeyCabinetModel" "begins" "[I") (by decide +kernel)
  have hf100 := hts (.fieldLink RX3 100 "KeyCabinetModel" "day" "I") (by decide +kernel)
  have hf34 := hts (.fieldLink RX3 34 "KeyCabinetModel" "ends" "[I") (by decide +kernel)
  have hf22 := hts (.fieldLink RX3 22 "KeyCabinetModel" "dues" "[I") (by decide +kernel)
  have hl := lv_entry ([.ref (md 0), .int (nI cx), .int pe, .int dz]) (n := 5) (Nat.le_of_ble_eq_true rfl)
  rw [lg_entry_eq]
  generalize (lg_sl ([.ref (md 0), .int (nI cx), .int pe, .int dz]) ++ List.replicate (5 - (lg_sl ([.ref (md 0), .int (nI cx), .int pe, .int dz])).length) Slot.unset).toArray = ls at hl ⊢
  have hl : lv_has ls 5 [(0, .ref (md 0)), (1, .int (nI cx)), (2, .int pe), (3, .int dz)] := hl
  refine W.genH (fun H locs eH eL => ?_)
  have hS : va_S A s.heap H locs := by rw [eH, eL]; exact va_S.rf
  have hP : va_P D vwCl (wMd md cI th mK mc mD mr mw my mC mk ms mu mt mp mb me) H := by rw [eH]; exact hP
  clear eH eL
  refine lv_aload_n hx hb dX3_lend_0 rfl (lv_at hl 0 rfl) ?_
  refine lv_iconst (v := 0) hx hb dX3_lend_1 (by decide) ?_
  refine va_put (D := D) (ci := 3) (v := .int 0) (ty := .int) (C := RX3) (T := TX3) (N := 15) hx hb hts hinX3 tyX3 tyX3_ok nmX3 hown hK.1 hP hD hS 0 rfl rfl 0 (by decide) hf37 (fun _ h9 => h9) rfl (by decide +kernel) rfl rfl (Nat.le_of_ble_eq_true rfl) dX3_lend_2 (fun H locs hP hD hS => ?_)
  have hP : va_P D vwCl (wMd md cI 0 mK mc mD mr mw my mC mk ms mu mt mp mb me) H := hP
  have hD : va_D A (wMd md cI 0 mK mc mD mr mw my mC mk ms mu mt mp mb me) := hD
  refine lv_aload_n hx hb dX3_lend_5 rfl (lv_at hl 0 rfl) ?_
  refine lv_iload_n hx hb dX3_lend_6 rfl (lv_at hl 1 rfl) ?_
  refine kc_rVi (As := [.int (nI cx)]) (rest := []) ⟨hx, hb, hml, hown, hts⟩ (c_X3_isCopy l D md cI 0 mK mc mD mr mw my mC mk ms mu mt mp mb me (nI cx) ) (cwV 1 hts gX3_lend_X3_isCopy rfl rfl rfl (by decide +kernel) ⟨Nat.le_of_ble_eq_true rfl, Nat.le_of_ble_eq_true rfl⟩) hK hP [0, 1, 2, 3, 4, 5, 6, 7, 8, 9] [0] rfl rfl 0 rfl rfl rfl rfl hl.1 rfl (Nat.le_of_ble_eq_true rfl) dX3_lend_7 ⟨Nat.le_of_ble_eq_true rfl, Nat.le_of_ble_eq_true rfl⟩ ?_
  refine kc_ifeqB (tgt := 20) hx hb dX3_lend_10 (by decide) (fun c_10 => ?_) (fun c_10 => ?_)
  · exact absurd (jIn_ok hc (by omega)) c_10
  · refine lv_iload_n hx hb dX3_lend_13 rfl (lv_at hl 2 rfl) ?_
    refine kc_rSi (As := [.int pe]) (rest := []) ⟨hx, hb, hml, hown, hts⟩ (c_X3_isPerson l pe ) (va_cwS 1 hts gX3_lend_X3_isPerson rfl rfl rfl (by decide +kernel) ⟨Nat.le_of_ble_eq_true rfl, Nat.le_of_ble_eq_true rfl⟩) rfl hl.1 rfl (Nat.le_of_ble_eq_true rfl) dX3_lend_14 ⟨Nat.le_of_ble_eq_true rfl, Nat.le_of_ble_eq_true rfl⟩ ?_
    refine kc_ifneB (tgt := 26) hx hb dX3_lend_17 (by decide) (fun c_17 => ?_) (fun c_17 => ?_)
    · refine lv_iload_n hx hb dX3_lend_26 rfl (lv_at hl 3 rfl) ?_
      refine lv_iconst (v := 1) hx hb dX3_lend_27 (by decide) ?_
      refine lv_icmp_lt (tgt := 37) hx hb dX3_lend_28 (by decide) (fun c_28 => ?_) (fun c_28 => ?_)
      · exact absurd c_28 hz1
      · refine lv_iload_n hx hb dX3_lend_31 rfl (lv_at hl 3 rfl) ?_
        refine lv_bipush (v := 99) hx hb dX3_lend_32 (by decide) ?_
        refine lv_icmp_le (tgt := 43) hx hb dX3_lend_34 (by decide) (fun c_34 => ?_) (fun c_34 => ?_)
        · refine lv_aload_n hx hb dX3_lend_43 rfl (lv_at hl 0 rfl) ?_
          refine va_get (D := D) (ci := 3) (v := .ref (md 4)) (C := RX3) (T := TX3) (N := 15) hx hb hts hinX3 hown hK.1 hP 0 rfl rfl 9 (by decide) hf19 (fun _ h9 => h9) rfl dX3_lend_44 ?_
          refine lv_iload_n hx hb dX3_lend_47 rfl (lv_at hl 1 rfl) ?_
          refine kc_ald (i := cx) (n := 24) hx hb hK hP 4 0 rfl rfl (by omega) (by decide) dX3_lend_48 ?_
          refine lv_if_ne (tgt := 63) hx hb dX3_lend_49 (by decide) (fun c_49 => ?_) (fun c_49 => ?_)
          · exact absurd h0 c_49
          · refine lv_aload_n hx hb dX3_lend_52 rfl (lv_at hl 0 rfl) ?_
            refine va_get (D := D) (ci := 3) (v := .ref (md 6)) (C := RX3) (T := TX3) (N := 15) hx hb hts hinX3 hown hK.1 hP 0 rfl rfl 11 (by decide) hf25 (fun _ h9 => h9) rfl dX3_lend_53 ?_
            refine lv_iload_n hx hb dX3_lend_56 rfl (lv_at hl 1 rfl) ?_
            refine kc_ald (i := cx) (n := 24) hx hb hK hP 6 0 rfl rfl (by omega) (by decide) dX3_lend_57 ?_
            refine lv_bipush (v := 9) hx hb dX3_lend_58 (by decide) ?_
            refine lv_icmp_ne (tgt := 69) hx hb dX3_lend_60 (by decide) (fun c_60 => ?_) (fun c_60 => ?_)
            · refine lv_bipush (v := 9) hx hb dX3_lend_69 (by decide) ?_
              refine lv_iload_n hx hb dX3_lend_71 rfl (lv_at hl 1 rfl) ?_
              refine lv_imul hx hb dX3_lend_72 ?_
              refine kc_top (show 9 * (nI cx) = nI (cx * 9) from kc_9 cx) ?_
              refine lv_aload_n hx hb dX3_lend_73 rfl (lv_at hl 0 rfl) ?_
              refine va_get (D := D) (ci := 3) (v := .ref (md 6)) (C := RX3) (T := TX3) (N := 15) hx hb hts hinX3 hown hK.1 hP 0 rfl rfl 11 (by decide) hf25 (fun _ h9 => h9) rfl dX3_lend_74 ?_
              refine lv_iload_n hx hb dX3_lend_77 rfl (lv_at hl 1 rfl) ?_
              refine kc_ald (i := cx) (n := 24) hx hb hK hP 6 0 rfl rfl (by omega) (by decide) dX3_lend_78 ?_
              refine kc_top (show mt cx = nI (tn cx) from ht) ?_
              refine lv_iadd hx hb dX3_lend_79 ?_
              refine kc_top (show (nI (cx * 9)) + (nI (tn cx)) = nI ((cx * 9) + (tn cx)) from nI_add _ _) ?_
              refine lv_istore (lv' := [(4, .int (nI ((cx * 9) + (tn cx)))), (0, .ref (md 0)), (1, .int (nI cx)), (2, .int pe), (3, .int dz)]) hx hb dX3_lend_80 hl (by decide) rfl (fun ls hl => ?_)
              refine lv_aload_n hx hb dX3_lend_82 rfl (lv_at hl 1 rfl) ?_
              refine va_get (D := D) (ci := 3) (v := .ref (md 7)) (C := RX3) (T := TX3) (N := 15) hx hb hts hinX3 hown hK.1 hP 0 rfl rfl 12 (by decide) hf28 (fun _ h9 => h9) rfl dX3_lend_83 ?_
              refine lv_iload hx hb dX3_lend_86 (lv_at hl 0 rfl) ?_
              refine lv_iload_n hx hb dX3_lend_88 rfl (lv_at hl 3 rfl) ?_
              refine kc_ast (i := ((cx * 9) + (tn cx))) (n := 216) hx hb hK hP hD hS 7 0 rfl rfl (by omega) (by decide) dX3_lend_89 (fun H locs hP hD hS => ?_)
              have hP : va_P D vwCl (wMd md cI 0 mK mc mD mr mw my mC mk ms mu mt (upd mp ((cx * 9) + (tn cx)) pe) mb me) H := hP
              have hD : va_D A (wMd md cI 0 mK mc mD mr mw my mC mk ms mu mt (upd mp ((cx * 9) + (tn cx)) pe) mb me) := hD
              refine lv_aload_n hx hb dX3_lend_90 rfl (lv_at hl 1 rfl) ?_
              refine va_get (D := D) (ci := 3) (v := .ref (md 8)) (C := RX3) (T := TX3) (N := 15) hx hb hts hinX3 hown hK.1 hP 0 rfl rfl 13 (by decide) hf31 (fun _ h9 => h9) rfl dX3_lend_91 ?_
              refine lv_iload hx hb dX3_lend_94 (lv_at hl 0 rfl) ?_
              refine lv_aload_n hx hb dX3_lend_96 rfl (lv_at hl 1 rfl) ?_
              refine va_get (D := D) (ci := 3) (v := .int my) (C := RX3) (T := TX3) (N := 15) hx hb hts hinX3 hown hK.1 hP 0 rfl rfl 6 (by decide) hf100 (fun _ h9 => h9) rfl dX3_lend_97 ?_
              refine kc_ast (i := ((cx * 9) + (tn cx))) (n := 216) hx hb hK hP hD hS 8 0 rfl rfl (by omega) (by decide) dX3_lend_100 (fun H locs hP hD hS => ?_)
              have hP : va_P D vwCl (wMd md cI 0 mK mc mD mr mw my mC mk ms mu mt (upd mp ((cx * 9) + (tn cx)) pe) (upd mb ((cx * 9) + (tn cx)) my) me) H := hP
              have hD : va_D A (wMd md cI 0 mK mc mD mr mw my mC mk ms mu mt (upd mp ((cx * 9) + (tn cx)) pe) (upd mb ((cx * 9) + (tn cx)) my) me) := hD
              refine lv_aload_n hx hb dX3_lend_101 rfl (lv_at hl 1 rfl) ?_
              refine va_get (D := D) (ci := 3) (v := .ref (md 9)) (C := RX3) (T := TX3) (N := 15) hx hb hts hinX3 hown hK.1 hP 0 rfl rfl 14 (by decide) hf34 (fun _ h9 => h9) rfl dX3_lend_102 ?_
              refine lv_iload hx hb dX3_lend_105 (lv_at hl 0 rfl) ?_
              refine lv_iconst (v := (-1)) hx hb dX3_lend_107 (by decide) ?_
              refine kc_ast (i := ((cx * 9) + (tn cx))) (n := 216) hx hb hK hP hD hS 9 0 rfl rfl (by omega) (by decide) dX3_lend_108 (fun H locs hP hD hS => ?_)
              have hP : va_P D vwCl (wMd md cI 0 mK mc mD mr mw my mC mk ms mu mt (upd mp ((cx * 9) + (tn cx)) pe) (upd mb ((cx * 9) + (tn cx)) my) (upd me ((cx * 9) + (tn cx)) (-1))) H := hP
              have hD : va_D A (wMd md cI 0 mK mc mD mr mw my mC mk ms mu mt (upd mp ((cx * 9) + (tn cx)) pe) (upd mb ((cx * 9) + (tn cx)) my) (upd me ((cx * 9) + (tn cx)) (-1))) := hD
              refine lv_aload_n hx hb dX3_lend_109 rfl (lv_at hl 1 rfl) ?_
              refine va_get (D := D) (ci := 3) (v := .ref (md 6)) (C := RX3) (T := TX3) (N := 15) hx hb hts hinX3 hown hK.1 hP 0 rfl rfl 11 (by decide) hf25 (fun _ h9 => h9) rfl dX3_lend_110 ?_
              refine lv_iload_n hx hb dX3_lend_113 rfl (lv_at hl 2 rfl) ?_
              refine lv_dup2_11 hx hb dX3_lend_114 rfl rfl ?_
              refine kc_ald (i := cx) (n := 24) hx hb hK hP 6 0 rfl rfl (by omega) (by decide) dX3_lend_115 ?_
              refine kc_top (show mt cx = nI (tn cx) from ht) ?_
              refine lv_iconst (v := 1) hx hb dX3_lend_116 (by decide) ?_
              refine lv_iadd hx hb dX3_lend_117 ?_
              refine kc_top (show (nI (tn cx)) + 1 = nI ((tn cx) + 1) from nI_add _ _) ?_
              refine kc_ast (i := cx) (n := 24) hx hb hK hP hD hS 6 0 rfl rfl (by omega) (by decide) dX3_lend_118 (fun H locs hP hD hS => ?_)
              have hP : va_P D vwCl (wMd md cI 0 mK mc mD mr mw my mC mk ms mu (upd mt cx (nI ((tn cx) + 1))) (upd mp ((cx * 9) + (tn cx)) pe) (upd mb ((cx * 9) + (tn cx)) my) (upd me ((cx * 9) + (tn cx)) (-1))) H := hP
              have hD : va_D A (wMd md cI 0 mK mc mD mr mw my mC mk ms mu (upd mt cx (nI ((tn cx) + 1))) (upd mp ((cx * 9) + (tn cx)) pe) (upd mb ((cx * 9) + (tn cx)) my) (upd me ((cx * 9) + (tn cx)) (-1))) := hD
              refine lv_aload_n hx hb dX3_lend_119 rfl (lv_at hl 1 rfl) ?_
              refine va_get (D := D) (ci := 3) (v := .ref (md 4)) (C := RX3) (T := TX3) (N := 15) hx hb hts hinX3 hown hK.1 hP 0 rfl rfl 9 (by decide) hf19 (fun _ h9 => h9) rfl dX3_lend_120 ?_
              refine lv_iload_n hx hb dX3_lend_123 rfl (lv_at hl 2 rfl) ?_
              refine lv_iconst (v := 1) hx hb dX3_lend_124 (by decide) ?_
              refine kc_ast (i := cx) (n := 24) hx hb hK hP hD hS 4 0 rfl rfl (by omega) (by decide) dX3_lend_125 (fun H locs hP hD hS => ?_)
              have hP : va_P D vwCl (wMd md cI 0 mK mc mD mr mw my mC mk (upd ms cx 1) mu (upd mt cx (nI ((tn cx) + 1))) (upd mp ((cx * 9) + (tn cx)) pe) (upd mb ((cx * 9) + (tn cx)) my) (upd me ((cx * 9) + (tn cx)) (-1))) H := hP
              have hD : va_D A (wMd md cI 0 mK mc mD mr mw my mC mk (upd ms cx 1) mu (upd mt cx (nI ((tn cx) + 1))) (upd mp ((cx * 9) + (tn cx)) pe) (upd mb ((cx * 9) + (tn cx)) my) (upd me ((cx * 9) + (tn cx)) (-1))) := hD
              refine lv_aload_n hx hb dX3_lend_126 rfl (lv_at hl 1 rfl) ?_
              refine va_get (D := D) (ci := 3) (v := .ref (md 5)) (C := RX3) (T := TX3) (N := 15) hx hb hts hinX3 hown hK.1 hP 0 rfl rfl 10 (by decide) hf22 (fun _ h9 => h9) rfl dX3_lend_127 ?_
              refine lv_iload_n hx hb dX3_lend_130 rfl (lv_at hl 2 rfl) ?_
              refine lv_aload_n hx hb dX3_lend_131 rfl (lv_at hl 1 rfl) ?_
              refine va_get (D := D) (ci := 3) (v := .int my) (C := RX3) (T := TX3) (N := 15) hx hb hts hinX3 hown hK.1 hP 0 rfl rfl 6 (by decide) hf100 (fun _ h9 => h9) rfl dX3_lend_132 ?_
              refine lv_iload_n hx hb dX3_lend_135 rfl (lv_at hl 4 rfl) ?_
              refine lv_iadd hx hb dX3_lend_136 ?_
              refine kc_ast (i := cx) (n := 24) hx hb hK hP hD hS 5 0 rfl rfl (by omega) (by decide) dX3_lend_137 (fun H locs hP hD hS => ?_)
              have hP : va_P D vwCl (wMd md cI 0 mK mc mD mr mw my mC mk (upd ms cx 1) (upd mu cx (my + dz)) (upd mt cx (nI ((tn cx) + 1))) (upd mp ((cx * 9) + (tn cx)) pe) (upd mb ((cx * 9) + (tn cx)) my) (upd me ((cx * 9) + (tn cx)) (-1))) H := hP
              have hD : va_D A (wMd md cI 0 mK mc mD mr mw my mC mk (upd ms cx 1) (upd mu cx (my + dz)) (upd mt cx (nI ((tn cx) + 1))) (upd mp ((cx * 9) + (tn cx)) pe) (upd mb ((cx * 9) + (tn cx)) my) (upd me ((cx * 9) + (tn cx)) (-1))) := hD
              refine lv_aload_n hx hb dX3_lend_138 rfl (lv_at hl 1 rfl) ?_
              refine va_get (D := D) (ci := 3) (v := .ref (md 5)) (C := RX3) (T := TX3) (N := 15) hx hb hts hinX3 hown hK.1 hP 0 rfl rfl 10 (by decide) hf22 (fun _ h9 => h9) rfl dX3_lend_139 ?_
              refine lv_iload_n hx hb dX3_lend_142 rfl (lv_at hl 2 rfl) ?_
              refine kc_ald (i := cx) (n := 24) hx hb hK hP 5 0 rfl rfl (by omega) (by decide) dX3_lend_143 ?_
              refine kc_top (show (upd mu cx (my + dz)) cx = my + dz from pk_us) ?_
              have eqw_mt : upd mt cx (nI (tn cx + 1)) = upd mt cx (nI ((tn cx) + 1)) := by simp only [if_pos c_10, if_pos c_17, if_neg c_28, if_pos c_34, if_pos c_49, if_neg c_60]
              have eqw_mp : upd mp (cx * 9 + tn cx) pe = upd mp ((cx * 9) + (tn cx)) pe := by simp only [if_pos c_10, if_pos c_17, if_neg c_28, if_pos c_34, if_pos c_49, if_neg c_60]
              have eqw_mb : upd mb (cx * 9 + tn cx) my = upd mb ((cx * 9) + (tn cx)) my := by simp only [if_pos c_10, if_pos c_17, if_neg c_28, if_pos c_34, if_pos c_49, if_neg c_60]
              have eqw_me : upd me (cx * 9 + tn cx) (-1) = upd me ((cx * 9) + (tn cx)) (-1) := by simp only [if_pos c_10, if_pos c_17, if_neg c_28, if_pos c_34, if_pos c_49, if_neg c_60]
              have hP : va_P D vwCl (wMd md cI 0 mK mc mD mr mw my mC mk (upd ms cx 1) (upd mu cx (my + dz)) (upd mt cx (nI (tn cx + 1))) (upd mp (cx * 9 + tn cx) pe) (upd mb (cx * 9 + tn cx) my) (upd me (cx * 9 + tn cx) (-1))) H := by rw [eqw_mt, eqw_mp, eqw_mb, eqw_me]; exact hP
              have hD : va_D A (wMd md cI 0 mK mc mD mr mw my mC mk (upd ms cx 1) (upd mu cx (my + dz)) (upd mt cx (nI (tn cx + 1))) (upd mp (cx * 9 + tn cx) pe) (upd mb (cx * 9 + tn cx) my) (upd me (cx * 9 + tn cx) (-1))) := by rw [eqw_mt, eqw_mp, eqw_mb, eqw_me]; exact hD
              exact W.iret (v := my + dz) hx hb hr (fun tZ htZ hWZ => ⟨⟨_, (), rfl, rfl, by rw [htZ]; exact hP, by rw [hAe]; exact hD⟩, hS.F htZ⟩) hS.2.2 dX3_lend_144
            · exact absurd ((nI_eq (a := tn cx) (b := 9) (by omega) (by omega)).mp (ht.symm.trans c_60)) (by omega)
        · exact absurd hz2 c_34
    · exact absurd hp c_17
set_option maxHeartbeats 4000000 in
set_option maxRecDepth 100000 in
theorem c_X3_giveBack_f2 (l : Launch) (D : va_G) (md : Nat → Nat) (cI : ClassId) (th : Int32) (mK : Nat) (mc : Nat → Int32) (mD : Nat) (mr : Nat → Int32) (mw : Int32) (my : Int32) (mC : Nat) (mk : Nat → Int32) (ms : Nat → Int32) (mu : Nat → Int32) (mt : Nat → Int32) (mp : Nat → Int32) (mb : Nat → Int32) (me : Nat → Int32) (cx : Nat) (sz : Nat) (hC24 : mC ≤ 24) (hc : cx < mC) (hn : ¬ ms cx = 1) : Met l yX3_giveBack wsX3_giveBack ({ frames := 1, cells := 0, slots := 0, locals := 21 } : Room) (wrP [.ref (md 0), .int (nI cx)] D sz (wMd md cI th mK mc mD mr mw my mC mk ms mu mt mp mb me) [(cI, .int)]) (va_Qi (fun rZ (_ : Unit) => rZ = 0) (wrB D sz (wMd md cI th mK mc mD mr mw my mC mk ms mu mt mp mb me) (wMd md cI 2 mK mc mD mr mw my mC mk ms mu mt mp mb me)) (va_A (wMd md cI th mK mc mD mr mw my mC mk ms mu mt mp mb me) sz)) 0 0 (va_A (wMd md cI th mK mc mD mr mw my mC mk ms mu mt mp mb me) sz) := by
  refine Met.ofW (cc := cX3_giveBack) (maxL := 2) (ret := (some .int)) (by decide) rfl ?_
  intro p e s m args below meth c s₁ B hml hv
  obtain ⟨rfl, hsz, hP, hD0, hK⟩ := hv
  have hx := B.exec
  have hb := B.bytes
  have hr := B.returns
  have hts := atoms_spec (ws := wsX3_giveBack) B.pre
  have hown : s.vm.findClass RX3 = some m.cls := findClass_of_methodNamed B.named
  have hlocks := B.notSynchronized
  subst hsz
  have hD := hD0.self (sz := s.heap.size)
  generalize hAe : va_A (wMd md cI th mK mc mD mr mw my mC mk ms mu mt mp mb me) s.heap.size = A at hD ⊢
  have hA : ∀ q : Nat, s.heap.size ≤ q → A q := fun q h => by rw [← hAe]; exact Or.inr h
  have hinX3 : ∀ w ∈ u_ws RX3 TX3 15, w ∈ wsX3_giveBack := by decide +kernel
  have hf37 := hts (.fieldLink RX3 37 "KeyCabinetModel" "thrown" "I") (by decide +kernel)
  have hf19 := hts (.fieldLink RX3 19 "KeyCabinetModel" "states" "[I") (by decide +kernel)
  have hl := lv_entry ([.ref (md 0), .int (nI cx)]) (n := 2) (Nat.le_of_ble_eq_true rfl)
  rw [lg_entry_eq]
  generalize (lg_sl ([.ref (md 0), .int (nI cx)]) ++ List.replicate (2 - (lg_sl ([.ref (md 0), .int (nI cx)])).length) Slot.unset).toArray = ls at hl ⊢
  have hl : lv_has ls 2 [(0, .ref (md 0)), (1, .int (nI cx))] := hl
  refine W.genH (fun H locs eH eL => ?_)
  have hS : va_S A s.heap H locs := by rw [eH, eL]; exact va_S.rf
  have hP : va_P D vwCl (wMd md cI th mK mc mD mr mw my mC mk ms mu mt mp mb me) H := by rw [eH]; exact hP
  clear eH eL
  refine lv_aload_n hx hb dX3_giveBack_0 rfl (lv_at hl 0 rfl) ?_
  refine lv_iconst (v := 0) hx hb dX3_giveBack_1 (by decide) ?_
  refine va_put (D := D) (ci := 3) (v := .int 0) (ty := .int) (C := RX3) (T := TX3) (N := 15) hx hb hts hinX3 tyX3 tyX3_ok nmX3 hown hK.1 hP hD hS 0 rfl rfl 0 (by decide) hf37 (fun _ h9 => h9) rfl (by decide +kernel) rfl rfl (Nat.le_of_ble_eq_true rfl) dX3_giveBack_2 (fun H locs hP hD hS => ?_)
  have hP : va_P D vwCl (wMd md cI 0 mK mc mD mr mw my mC mk ms mu mt mp mb me) H := hP
  have hD : va_D A (wMd md cI 0 mK mc mD mr mw my mC mk ms mu mt mp mb me) := hD
  refine lv_aload_n hx hb dX3_giveBack_5 rfl (lv_at hl 0 rfl) ?_
  refine lv_iload_n hx hb dX3_giveBack_6 rfl (lv_at hl 1 rfl) ?_
  refine kc_rVi (As := [.int (nI cx)]) (rest := []) ⟨hx, hb, hml, hown, hts⟩ (c_X3_isCopy l D md cI 0 mK mc mD mr mw my mC mk ms mu mt mp mb me (nI cx) ) (cwV 1 hts gX3_giveBack_X3_isCopy rfl rfl rfl (by decide +kernel) ⟨Nat.le_of_ble_eq_true rfl, Nat.le_of_ble_eq_true rfl⟩) hK hP [0, 1, 2, 3, 4, 5, 6, 7, 8, 9] [0] rfl rfl 0 rfl rfl rfl rfl hl.1 rfl (Nat.le_of_ble_eq_true rfl) dX3_giveBack_7 ⟨Nat.le_of_ble_eq_true rfl, Nat.le_of_ble_eq_true rfl⟩ ?_
  refine kc_ifneB (tgt := 19) hx hb dX3_giveBack_10 (by decide) (fun c_10 => ?_) (fun c_10 => ?_)
  · refine lv_aload_n hx hb dX3_giveBack_19 rfl (lv_at hl 0 rfl) ?_
    refine va_get (D := D) (ci := 3) (v := .ref (md 4)) (C := RX3) (T := TX3) (N := 15) hx hb hts hinX3 hown hK.1 hP 0 rfl rfl 9 (by decide) hf19 (fun _ h9 => h9) rfl dX3_giveBack_20 ?_
    refine lv_iload_n hx hb dX3_giveBack_23 rfl (lv_at hl 1 rfl) ?_
    refine kc_ald (i := cx) (n := 24) hx hb hK hP 4 0 rfl rfl (by omega) (by decide) dX3_giveBack_24 ?_
    refine lv_iconst (v := 1) hx hb dX3_giveBack_25 (by decide) ?_
    refine lv_icmp_eq (tgt := 35) hx hb dX3_giveBack_26 (by decide) (fun c_26 => ?_) (fun c_26 => ?_)
    · exact absurd c_26 hn
    · refine lv_aload_n hx hb dX3_giveBack_29 rfl (lv_at hl 0 rfl) ?_
      refine lv_iconst (v := 2) hx hb dX3_giveBack_30 (by decide) ?_
      refine kc_wVi (w1 := wMd md cI 2 mK mc mD mr mw my mC mk ms mu mt mp mb me) (wr := []) (ws1 := wMd md cI 2 mK mc mD mr mw my mC mk ms mu mt mp mb me) (As := [.int 2]) (rest := []) ⟨hx, hb, hml, hown, hts⟩ (c_X3_fail l D md cI 0 mK mc mD mr mw my mC mk ms mu mt mp mb me 2 H.size ) (cwV 1 hts gX3_giveBack_X3_fail rfl rfl rfl (by decide +kernel) ⟨Nat.le_of_ble_eq_true rfl, Nat.le_of_ble_eq_true rfl⟩) hK hP hD hS hA [0, 1, 2, 3, 4, 5, 6, 7, 8, 9] [] [0, 1, 2, 3, 4, 5, 6, 7, 8, 9] [0] rfl rfl rfl rfl (by decide) rfl rfl rfl 0 rfl rfl rfl rfl hl.1 rfl (Nat.le_of_ble_eq_true rfl) dX3_giveBack_31 ⟨Nat.le_of_ble_eq_true rfl, Nat.le_of_ble_eq_true rfl⟩ (fun H locs hP hD hS => ?_)
      exact W.iret (v := 0) hx hb hr (fun tZ htZ hWZ => ⟨⟨_, (), rfl, rfl, by rw [htZ]; exact hP, by rw [hAe]; exact hD⟩, hS.F htZ⟩) hS.2.2 dX3_giveBack_34
  · exact absurd (jIn_ok hc (by omega)) c_10
set_option maxHeartbeats 4000000 in
set_option maxRecDepth 100000 in
theorem c_X3_giveBack_ok (l : Launch) (D : va_G) (md : Nat → Nat) (cI : ClassId) (th : Int32) (mK : Nat) (mc : Nat → Int32) (mD : Nat) (mr : Nat → Int32) (mw : Int32) (my : Int32) (mC : Nat) (mk : Nat → Int32) (ms : Nat → Int32) (mu : Nat → Int32) (mt : Nat → Int32) (mp : Nat → Int32) (mb : Nat → Int32) (me : Nat → Int32) (cx : Nat) (tn : Nat → Nat) (sz : Nat) (hC24 : mC ≤ 24) (hc : cx < mC) (hok : okLe ms mt tn) (h1 : ms cx = 1) : Met l yX3_giveBack wsX3_giveBack ({ frames := 1, cells := 0, slots := 0, locals := 21 } : Room) (wrP [.ref (md 0), .int (nI cx)] D sz (wMd md cI th mK mc mD mr mw my mC mk ms mu mt mp mb me) [(cI, .int)]) (va_Qi (fun rZ (_ : Unit) => rZ = if 0 < my - mu cx then my - mu cx else 0) (wrB D sz (wMd md cI th mK mc mD mr mw my mC mk ms mu mt mp mb me) (wMd md cI 0 mK mc mD mr mw my mC mk (upd ms cx 0) mu mt mp mb (jMoveEnd ms me tn cx my))) (va_A (wMd md cI th mK mc mD mr mw my mC mk ms mu mt mp mb me) sz)) 0 0 (va_A (wMd md cI th mK mc mD mr mw my mC mk ms mu mt mp mb me) sz) := by
  refine Met.ofW (cc := cX3_giveBack) (maxL := 2) (ret := (some .int)) (by decide) rfl ?_
  intro p e s m args below meth c s₁ B hml hv
  obtain ⟨rfl, hsz, hP, hD0, hK⟩ := hv
  have hx := B.exec
  have hb := B.bytes
  have hr := B.returns
  have hts := atoms_spec (ws := wsX3_giveBack) B.pre
  have hown : s.vm.findClass RX3 = some m.cls := findClass_of_methodNamed B.named
  have hlocks := B.notSynchronized
  subst hsz
  have hD := hD0.self (sz := s.heap.size)
  generalize hAe : va_A (wMd md cI th mK mc mD mr mw my mC mk ms mu mt mp mb me) s.heap.size = A at hD ⊢
  have hA : ∀ q : Nat, s.heap.size ≤ q → A q := fun q h => by rw [← hAe]; exact Or.inr h
  have hinX3 : ∀ w ∈ u_ws RX3 TX3 15, w ∈ wsX3_giveBack := by decide +kernel
  have hf37 := hts (.fieldLink RX3 37 "KeyCabinetModel" "thrown" "I") (by decide +kernel)
  have hf19 := hts (.fieldLink RX3 19 "KeyCabinetModel" "states" "[I") (by decide +kernel)
  have hf100 := hts (.fieldLink RX3 100 "KeyCabinetModel" "day" "I") (by decide +kernel)
  have hf22 := hts (.fieldLink RX3 22 "KeyCabinetModel" "dues" "[I") (by decide +kernel)
  have hl := lv_entry ([.ref (md 0), .int (nI cx)]) (n := 2) (Nat.le_of_ble_eq_true rfl)
  rw [lg_entry_eq]
  generalize (lg_sl ([.ref (md 0), .int (nI cx)]) ++ List.replicate (2 - (lg_sl ([.ref (md 0), .int (nI cx)])).length) Slot.unset).toArray = ls at hl ⊢
  have hl : lv_has ls 2 [(0, .ref (md 0)), (1, .int (nI cx))] := hl
  refine W.genH (fun H locs eH eL => ?_)
  have hS : va_S A s.heap H locs := by rw [eH, eL]; exact va_S.rf
  have hP : va_P D vwCl (wMd md cI th mK mc mD mr mw my mC mk ms mu mt mp mb me) H := by rw [eH]; exact hP
  clear eH eL
  refine lv_aload_n hx hb dX3_giveBack_0 rfl (lv_at hl 0 rfl) ?_
  refine lv_iconst (v := 0) hx hb dX3_giveBack_1 (by decide) ?_
  refine va_put (D := D) (ci := 3) (v := .int 0) (ty := .int) (C := RX3) (T := TX3) (N := 15) hx hb hts hinX3 tyX3 tyX3_ok nmX3 hown hK.1 hP hD hS 0 rfl rfl 0 (by decide) hf37 (fun _ h9 => h9) rfl (by decide +kernel) rfl rfl (Nat.le_of_ble_eq_true rfl) dX3_giveBack_2 (fun H locs hP hD hS => ?_)
  have hP : va_P D vwCl (wMd md cI 0 mK mc mD mr mw my mC mk ms mu mt mp mb me) H := hP
  have hD : va_D A (wMd md cI 0 mK mc mD mr mw my mC mk ms mu mt mp mb me) := hD
  refine lv_aload_n hx hb dX3_giveBack_5 rfl (lv_at hl 0 rfl) ?_
  refine lv_iload_n hx hb dX3_giveBack_6 rfl (lv_at hl 1 rfl) ?_
  refine kc_rVi (As := [.int (nI cx)]) (rest := []) ⟨hx, hb, hml, hown, hts⟩ (c_X3_isCopy l D md cI 0 mK mc mD mr mw my mC mk ms mu mt mp mb me (nI cx) ) (cwV 1 hts gX3_giveBack_X3_isCopy rfl rfl rfl (by decide +kernel) ⟨Nat.le_of_ble_eq_true rfl, Nat.le_of_ble_eq_true rfl⟩) hK hP [0, 1, 2, 3, 4, 5, 6, 7, 8, 9] [0] rfl rfl 0 rfl rfl rfl rfl hl.1 rfl (Nat.le_of_ble_eq_true rfl) dX3_giveBack_7 ⟨Nat.le_of_ble_eq_true rfl, Nat.le_of_ble_eq_true rfl⟩ ?_
  refine kc_ifneB (tgt := 19) hx hb dX3_giveBack_10 (by decide) (fun c_10 => ?_) (fun c_10 => ?_)
  · refine lv_aload_n hx hb dX3_giveBack_19 rfl (lv_at hl 0 rfl) ?_
    refine va_get (D := D) (ci := 3) (v := .ref (md 4)) (C := RX3) (T := TX3) (N := 15) hx hb hts hinX3 hown hK.1 hP 0 rfl rfl 9 (by decide) hf19 (fun _ h9 => h9) rfl dX3_giveBack_20 ?_
    refine lv_iload_n hx hb dX3_giveBack_23 rfl (lv_at hl 1 rfl) ?_
    refine kc_ald (i := cx) (n := 24) hx hb hK hP 4 0 rfl rfl (by omega) (by decide) dX3_giveBack_24 ?_
    refine lv_iconst (v := 1) hx hb dX3_giveBack_25 (by decide) ?_
    refine lv_icmp_eq (tgt := 35) hx hb dX3_giveBack_26 (by decide) (fun c_26 => ?_) (fun c_26 => ?_)
    · refine lv_aload_n hx hb dX3_giveBack_35 rfl (lv_at hl 0 rfl) ?_
      refine lv_iload_n hx hb dX3_giveBack_36 rfl (lv_at hl 1 rfl) ?_
      refine kc_wVv (w1 := wMd md cI 0 mK mc mD mr mw my mC mk ms mu mt mp mb (jMoveEnd ms me tn cx my)) (wr := []) (ws1 := wMd md cI 0 mK mc mD mr mw my mC mk ms mu mt mp mb (jMoveEnd ms me tn cx my)) (As := [.int (nI cx)]) (rest := []) ⟨hx, hb, hml, hown, hts⟩ (c_X3_stop l D md cI 0 mK mc mD mr mw my mC mk ms mu mt mp mb me tn cx H.size (by first | assumption | omega) hok) (cwV 1 hts gX3_giveBack_X3_stop rfl rfl rfl (by decide +kernel) ⟨Nat.le_of_ble_eq_true rfl, Nat.le_of_ble_eq_true rfl⟩) hK hP hD hS hA [0, 1, 2, 3, 4, 5, 6, 7, 8, 9] [] [0, 1, 2, 3, 4, 5, 6, 7, 8, 9] [0] rfl rfl rfl rfl (by decide) rfl rfl rfl 0 rfl rfl rfl rfl hl.1 rfl (Nat.le_of_ble_eq_true rfl) dX3_giveBack_37 ⟨Nat.le_of_ble_eq_true rfl, Nat.le_of_ble_eq_true rfl⟩ (fun H locs hP hD hS => ?_)
      refine lv_aload_n hx hb dX3_giveBack_40 rfl (lv_at hl 0 rfl) ?_
      refine va_get (D := D) (ci := 3) (v := .ref (md 4)) (C := RX3) (T := TX3) (N := 15) hx hb hts hinX3 hown hK.1 hP 0 rfl rfl 9 (by decide) hf19 (fun _ h9 => h9) rfl dX3_giveBack_41 ?_
      refine lv_iload_n hx hb dX3_giveBack_44 rfl (lv_at hl 1 rfl) ?_
      refine lv_iconst (v := 0) hx hb dX3_giveBack_45 (by decide) ?_
      refine kc_ast (i := cx) (n := 24) hx hb hK hP hD hS 4 0 rfl rfl (by omega) (by decide) dX3_giveBack_46 (fun H locs hP hD hS => ?_)
      have hP : va_P D vwCl (wMd md cI 0 mK mc mD mr mw my mC mk (upd ms cx 0) mu mt mp mb (jMoveEnd ms me tn cx my)) H := hP
      have hD : va_D A (wMd md cI 0 mK mc mD mr mw my mC mk (upd ms cx 0) mu mt mp mb (jMoveEnd ms me tn cx my)) := hD
      refine lv_iconst (v := 0) hx hb dX3_giveBack_47 (by decide) ?_
      refine lv_aload_n hx hb dX3_giveBack_48 rfl (lv_at hl 0 rfl) ?_
      refine va_get (D := D) (ci := 3) (v := .int my) (C := RX3) (T := TX3) (N := 15) hx hb hts hinX3 hown hK.1 hP 0 rfl rfl 6 (by decide) hf100 (fun _ h9 => h9) rfl dX3_giveBack_49 ?_
      refine lv_aload_n hx hb dX3_giveBack_52 rfl (lv_at hl 0 rfl) ?_
      refine va_get (D := D) (ci := 3) (v := .ref (md 5)) (C := RX3) (T := TX3) (N := 15) hx hb hts hinX3 hown hK.1 hP 0 rfl rfl 10 (by decide) hf22 (fun _ h9 => h9) rfl dX3_giveBack_53 ?_
      refine lv_iload_n hx hb dX3_giveBack_56 rfl (lv_at hl 1 rfl) ?_
      refine kc_ald (i := cx) (n := 24) hx hb hK hP 5 0 rfl rfl (by omega) (by decide) dX3_giveBack_57 ?_
      refine lv_isub hx hb dX3_giveBack_58 ?_
      refine va_mmax hx hb (hml.trans hl.1.symm) hown (hts (.methodLink RX3 109 Lib.Math.max.name) (by decide +kernel)) (hts (.static Lib.Math.max.name) (by decide +kernel)) (hts (.initialized "java/lang/Math") (by decide +kernel)) (hts (.code Lib.Math.max.name Lib.Math.max.code 2 (some .int)) (by decide +kernel)) (Nat.le_of_ble_eq_true rfl) (Nat.le_of_ble_eq_true rfl) (Nat.le_of_ble_eq_true rfl) (Nat.le_of_ble_eq_true rfl) dX3_giveBack_59 ?_
      exact W.iret (v := if 0 < (my - (mu cx)) then (my - (mu cx)) else 0) hx hb hr (fun tZ htZ hWZ => ⟨⟨_, (), rfl, (by simp only [if_pos c_10, if_pos c_26]), by rw [htZ]; exact hP, by rw [hAe]; exact hD⟩, hS.F htZ⟩) hS.2.2 dX3_giveBack_62
    · exact absurd h1 c_26
  · exact absurd (jIn_ok hc (by omega)) c_10
set_option maxHeartbeats 4000000 in
set_option maxRecDepth 100000 in
theorem c_X3_lose_f2 (l : Launch) (D : va_G) (md : Nat → Nat) (cI : ClassId) (th : Int32) (mK : Nat) (mc : Nat → Int32) (mD : Nat) (mr : Nat → Int32) (mw : Int32) (my : Int32) (mC : Nat) (mk : Nat → Int32) (ms : Nat → Int32) (mu : Nat → Int32) (mt : Nat → Int32) (mp : Nat → Int32) (mb : Nat → Int32) (me : Nat → Int32) (cx : Nat) (sz : Nat) (hC24 : mC ≤ 24) (hc : cx < mC) (hn : ms cx = 2 ∨ ms cx = 3) : Met l yX3_lose wsX3_lose ({ frames := 1, cells := 0, slots := 0, locals := 21 } : Room) (wrP [.ref (md 0), .int (nI cx)] D sz (wMd md cI th mK mc mD mr mw my mC mk ms mu mt mp mb me) [(cI, .int)]) (va_Qi (fun rZ (_ : Unit) => rZ = 0) (wrB D sz (wMd md cI th mK mc mD mr mw my mC mk ms mu mt mp mb me) (wMd md cI 2 mK mc mD mr mw my mC mk ms mu mt mp mb me)) (va_A (wMd md cI th mK mc mD mr mw my mC mk ms mu mt mp mb me) sz)) 0 0 (va_A (wMd md cI th mK mc mD mr mw my mC mk ms mu mt mp mb me) sz) := by
  refine Met.ofW (cc := cX3_lose) (maxL := 2) (ret := (some .int)) (by decide) rfl ?_
  intro p e s m args below meth c s₁ B hml hv
  obtain ⟨rfl, hsz, hP, hD0, hK⟩ := hv
  have hx := B.exec
  have hb := B.bytes
  have hr := B.returns
  have hts := atoms_spec (ws := wsX3_lose) B.pre
  have hown : s.vm.findClass RX3 = some m.cls := findClass_of_methodNamed B.named
  have hlocks := B.notSynchronized
  subst hsz
  have hD := hD0.self (sz := s.heap.size)
  generalize hAe : va_A (wMd md cI th mK mc mD mr mw my mC mk ms mu mt mp mb me) s.heap.size = A at hD ⊢
  have hA : ∀ q : Nat, s.heap.size ≤ q → A q := fun q h => by rw [← hAe]; exact Or.inr h
  have hinX3 : ∀ w ∈ u_ws RX3 TX3 15, w ∈ wsX3_lose := by decide +kernel
  have hf37 := hts (.fieldLink RX3 37 "KeyCabinetModel" "thrown" "I") (by decide +kernel)
  have hf19 := hts (.fieldLink RX3 19 "KeyCabinetModel" "states" "[I") (by decide +kernel)
  have hl := lv_entry ([.ref (md 0), .int (nI cx)]) (n := 2) (Nat.le_of_ble_eq_true rfl)
  rw [lg_entry_eq]
  generalize (lg_sl ([.ref (md 0), .int (nI cx)]) ++ List.replicate (2 - (lg_sl ([.ref (md 0), .int (nI cx)])).length) Slot.unset).toArray = ls at hl ⊢
  have hl : lv_has ls 2 [(0, .ref (md 0)), (1, .int (nI cx))] := hl
  refine W.genH (fun H locs eH eL => ?_)
  have hS : va_S A s.heap H locs := by rw [eH, eL]; exact va_S.rf
  have hP : va_P D vwCl (wMd md cI th mK mc mD mr mw my mC mk ms mu mt mp mb me) H := by rw [eH]; exact hP
  clear eH eL
  refine lv_aload_n hx hb dX3_lose_0 rfl (lv_at hl 0 rfl) ?_
  refine lv_iconst (v := 0) hx hb dX3_lose_1 (by decide) ?_
  refine va_put (D := D) (ci := 3) (v := .int 0) (ty := .int) (C := RX3) (T := TX3) (N := 15) hx hb hts hinX3 tyX3 tyX3_ok nmX3 hown hK.1 hP hD hS 0 rfl rfl 0 (by decide) hf37 (fun _ h9 => h9) rfl (by decide +kernel) rfl rfl (Nat.le_of_ble_eq_true rfl) dX3_lose_2 (fun H locs hP hD hS => ?_)
  have hP : va_P D vwCl (wMd md cI 0 mK mc mD mr mw my mC mk ms mu mt mp mb me) H := hP
  have hD : va_D A (wMd md cI 0 mK mc mD mr mw my mC mk ms mu mt mp mb me) := hD
  refine lv_aload_n hx hb dX3_lose_5 rfl (lv_at hl 0 rfl) ?_
  refine lv_iload_n hx hb dX3_lose_6 rfl (lv_at hl 1 rfl) ?_
  refine kc_rVi (As := [.int (nI cx)]) (rest := []) ⟨hx, hb, hml, hown, hts⟩ (c_X3_isCopy l D md cI 0 mK mc mD mr mw my mC mk ms mu mt mp mb me (nI cx) ) (cwV 1 hts gX3_lose_X3_isCopy rfl rfl rfl (by decide +kernel) ⟨Nat.le_of_ble_eq_true rfl, Nat.le_of_ble_eq_true rfl⟩) hK hP [0, 1, 2, 3, 4, 5, 6, 7, 8, 9] [0] rfl rfl 0 rfl rfl rfl rfl hl.1 rfl (Nat.le_of_ble_eq_true rfl) dX3_lose_7 ⟨Nat.le_of_ble_eq_true rfl, Nat.le_of_ble_eq_true rfl⟩ ?_
  refine kc_ifneB (tgt := 19) hx hb dX3_lose_10 (by decide) (fun c_10 => ?_) (fun c_10 => ?_)
  · refine lv_aload_n hx hb dX3_lose_19 rfl (lv_at hl 0 rfl) ?_
    refine va_get (D := D) (ci := 3) (v := .ref (md 4)) (C := RX3) (T := TX3) (N := 15) hx hb hts hinX3 hown hK.1 hP 0 rfl rfl 9 (by decide) hf19 (fun _ h9 => h9) rfl dX3_lose_20 ?_
    refine lv_iload_n hx hb dX3_lose_23 rfl (lv_at hl 1 rfl) ?_
    refine kc_ald (i := cx) (n := 24) hx hb hK hP 4 0 rfl rfl (by omega) (by decide) dX3_lose_24 ?_
    refine lv_iconst (v := 2) hx hb dX3_lose_25 (by decide) ?_
    refine lv_icmp_eq (tgt := 39) hx hb dX3_lose_26 (by decide) (fun c_26 => ?_) (fun c_26 => ?_)
    · refine lv_aload_n hx hb dX3_lose_39 rfl (lv_at hl 0 rfl) ?_
      refine lv_iconst (v := 2) hx hb dX3_lose_40 (by decide) ?_
      refine kc_wVi (w1 := wMd md cI 2 mK mc mD mr mw my mC mk ms mu mt mp mb me) (wr := []) (ws1 := wMd md cI 2 mK mc mD mr mw my mC mk ms mu mt mp mb me) (As := [.int 2]) (rest := []) ⟨hx, hb, hml, hown, hts⟩ (c_X3_fail l D md cI 0 mK mc mD mr mw my mC mk ms mu mt mp mb me 2 H.size ) (cwV 1 hts gX3_lose_X3_fail rfl rfl rfl (by decide +kernel) ⟨Nat.le_of_ble_eq_true rfl, Nat.le_of_ble_eq_true rfl⟩) hK hP hD hS hA [0, 1, 2, 3, 4, 5, 6, 7, 8, 9] [] [0, 1, 2, 3, 4, 5, 6, 7, 8, 9] [0] rfl rfl rfl rfl (by decide) rfl rfl rfl 0 rfl rfl rfl rfl hl.1 rfl (Nat.le_of_ble_eq_true rfl) dX3_lose_41 ⟨Nat.le_of_ble_eq_true rfl, Nat.le_of_ble_eq_true rfl⟩ (fun H locs hP hD hS => ?_)
      exact W.iret (v := 0) hx hb hr (fun tZ htZ hWZ => ⟨⟨_, (), rfl, rfl, by rw [htZ]; exact hP, by rw [hAe]; exact hD⟩, hS.F htZ⟩) hS.2.2 dX3_lose_44
    · refine lv_aload_n hx hb dX3_lose_29 rfl (lv_at hl 0 rfl) ?_
      refine va_get (D := D) (ci := 3) (v := .ref (md 4)) (C := RX3) (T := TX3) (N := 15) hx hb hts hinX3 hown hK.1 hP 0 rfl rfl 9 (by decide) hf19 (fun _ h9 => h9) rfl dX3_lose_30 ?_
      refine lv_iload_n hx hb dX3_lose_33 rfl (lv_at hl 1 rfl) ?_
      refine kc_ald (i := cx) (n := 24) hx hb hK hP 4 0 rfl rfl (by omega) (by decide) dX3_lose_34 ?_
      refine lv_iconst (v := 3) hx hb dX3_lose_35 (by decide) ?_
      refine lv_icmp_ne (tgt := 45) hx hb dX3_lose_36 (by decide) (fun c_36 => ?_) (fun c_36 => ?_)
      · exact hn.elim (fun h => absurd h c_26) (fun h => absurd h c_36)
      · refine lv_aload_n hx hb dX3_lose_39 rfl (lv_at hl 0 rfl) ?_
        refine lv_iconst (v := 2) hx hb dX3_lose_40 (by decide) ?_
        refine kc_wVi (w1 := wMd md cI 2 mK mc mD mr mw my mC mk ms mu mt mp mb me) (wr := []) (ws1 := wMd md cI 2 mK mc mD mr mw my mC mk ms mu mt mp mb me) (As := [.int 2]) (rest := []) ⟨hx, hb, hml, hown, hts⟩ (c_X3_fail l D md cI 0 mK mc mD mr mw my mC mk ms mu mt mp mb me 2 H.size ) (cwV 1 hts gX3_lose_X3_fail rfl rfl rfl (by decide +kernel) ⟨Nat.le_of_ble_eq_true rfl, Nat.le_of_ble_eq_true rfl⟩) hK hP hD hS hA [0, 1, 2, 3, 4, 5, 6, 7, 8, 9] [] [0, 1, 2, 3, 4, 5, 6, 7, 8, 9] [0] rfl rfl rfl rfl (by decide) rfl rfl rfl 0 rfl rfl rfl rfl hl.1 rfl (Nat.le_of_ble_eq_true rfl) dX3_lose_41 ⟨Nat.le_of_ble_eq_true rfl, Nat.le_of_ble_eq_true rfl⟩ (fun H locs hP hD hS => ?_)
        exact W.iret (v := 0) hx hb hr (fun tZ htZ hWZ => ⟨⟨_, (), rfl, rfl, by rw [htZ]; exact hP, by rw [hAe]; exact hD⟩, hS.F htZ⟩) hS.2.2 dX3_lose_44
  · exact absurd (jIn_ok hc (by omega)) c_10
set_option maxHeartbeats 4000000 in
set_option maxRecDepth 100000 in
theorem c_X3_lose_ok (l : Launch) (D : va_G) (md : Nat → Nat) (cI : ClassId) (th : Int32) (mK : Nat) (mc : Nat → Int32) (mD : Nat) (mr : Nat → Int32) (mw : Int32) (my : Int32) (mC : Nat) (mk : Nat → Int32) (ms : Nat → Int32) (mu : Nat → Int32) (mt : Nat → Int32) (mp : Nat → Int32) (mb : Nat → Int32) (me : Nat → Int32) (cx : Nat) (tn : Nat → Nat) (kn : Nat → Nat) (sz : Nat) (hK8 : mK ≤ 8) (hD8 : mD ≤ 8) (hC24 : mC ≤ 24) (hc : cx < mC) (hok : okLe ms mt tn) (hkn : okKe mC mk kn) (h2 : ¬ ms cx = 2) (h3 : ¬ ms cx = 3) : Met l yX3_lose wsX3_lose ({ frames := 4, cells := 0, slots := 0, locals := 92 } : Room) (wrP [.ref (md 0), .int (nI cx)] D sz (wMd md cI th mK mc mD mr mw my mC mk ms mu mt mp mb me) [(cI, .int)]) (va_Qi (fun rZ (_ : Unit) => rZ = mDoors mr mc mK (mc (kn cx)) mD) (wrB D sz (wMd md cI th mK mc mD mr mw my mC mk ms mu mt mp mb me) (wMd md cI 0 mK mc mD mr mw my mC mk (upd ms cx 2) mu mt mp mb (jMoveEnd ms me tn cx my))) (va_A (wMd md cI th mK mc mD mr mw my mC mk ms mu mt mp mb me) sz)) 0 0 (va_A (wMd md cI th mK mc mD mr mw my mC mk ms mu mt mp mb me) sz) := by
  refine Met.ofW (cc := cX3_lose) (maxL := 2) (ret := (some .int)) (by decide) rfl ?_
  intro p e s m args below meth c s₁ B hml hv
  obtain ⟨rfl, hsz, hP, hD0, hK⟩ := hv
  have hx := B.exec
  have hb := B.bytes
  have hr := B.returns
  have hts := atoms_spec (ws := wsX3_lose) B.pre
  have hown : s.vm.findClass RX3 = some m.cls := findClass_of_methodNamed B.named
  have hlocks := B.notSynchronized
  subst hsz
  have hD := hD0.self (sz := s.heap.size)
  generalize hAe : va_A (wMd md cI th mK mc mD mr mw my mC mk ms mu mt mp mb me) s.heap.size = A at hD ⊢
  have hA : ∀ q : Nat, s.heap.size ≤ q → A q := fun q h => by rw [← hAe]; exact Or.inr h
  have hinX3 : ∀ w ∈ u_ws RX3 TX3 15, w ∈ wsX3_lose := by decide +kernel
  have hf37 := hts (.fieldLink RX3 37 "KeyCabinetModel" "thrown" "I") (by decide +kernel)
  have hf19 := hts (.fieldLink RX3 19 "KeyCabinetModel" "states" "[I") (by decide +kernel)
  have hf9 := hts (.fieldLink RX3 9 "KeyCabinetModel" "codes" "[I") (by decide +kernel)
  have hf16 := hts (.fieldLink RX3 16 "KeyCabinetModel" "copyKeys" "[I") (by decide +kernel)
  have hl := lv_entry ([.ref (md 0), .int (nI cx)]) (n := 2) (Nat.le_of_ble_eq_true rfl)
  rw [lg_entry_eq]
  generalize (lg_sl ([.ref (md 0), .int (nI cx)]) ++ List.replicate (2 - (lg_sl ([.ref (md 0), .int (nI cx)])).length) Slot.unset).toArray = ls at hl ⊢
  have hl : lv_has ls 2 [(0, .ref (md 0)), (1, .int (nI cx))] := hl
  refine W.genH (fun H locs eH eL => ?_)
  have hS : va_S A s.heap H locs := by rw [eH, eL]; exact va_S.rf
  have hP : va_P D vwCl (wMd md cI th mK mc mD mr mw my mC mk ms mu mt mp mb me) H := by rw [eH]; exact hP
  clear eH eL
  refine lv_aload_n hx hb dX3_lose_0 rfl (lv_at hl 0 rfl) ?_
  refine lv_iconst (v := 0) hx hb dX3_lose_1 (by decide) ?_
  refine va_put (D := D) (ci := 3) (v := .int 0) (ty := .int) (C := RX3) (T := TX3) (N := 15) hx hb hts hinX3 tyX3 tyX3_ok nmX3 hown hK.1 hP hD hS 0 rfl rfl 0 (by decide) hf37 (fun _ h9 => h9) rfl (by decide +kernel) rfl rfl (Nat.le_of_ble_eq_true rfl) dX3_lose_2 (fun H locs hP hD hS => ?_)
  have hP : va_P D vwCl (wMd md cI 0 mK mc mD mr mw my mC mk ms mu mt mp mb me) H := hP
  have hD : va_D A (wMd md cI 0 mK mc mD mr mw my mC mk ms mu mt mp mb me) := hD
  refine lv_aload_n hx hb dX3_lose_5 rfl (lv_at hl 0 rfl) ?_
  refine lv_iload_n hx hb dX3_lose_6 rfl (lv_at hl 1 rfl) ?_
  refine kc_rVi (As := [.int (nI cx)]) (rest := []) ⟨hx, hb, hml, hown, hts⟩ (c_X3_isCopy l D md cI 0 mK mc mD mr mw my mC mk ms mu mt mp mb me (nI cx) ) (cwV 1 hts gX3_lose_X3_isCopy rfl rfl rfl (by decide +kernel) ⟨Nat.le_of_ble_eq_true rfl, Nat.le_of_ble_eq_true rfl⟩) hK hP [0, 1, 2, 3, 4, 5, 6, 7, 8, 9] [0] rfl rfl 0 rfl rfl rfl rfl hl.1 rfl (Nat.le_of_ble_eq_true rfl) dX3_lose_7 ⟨Nat.le_of_ble_eq_true rfl, Nat.le_of_ble_eq_true rfl⟩ ?_
  refine kc_ifneB (tgt := 19) hx hb dX3_lose_10 (by decide) (fun c_10 => ?_) (fun c_10 => ?_)
  · refine lv_aload_n hx hb dX3_lose_19 rfl (lv_at hl 0 rfl) ?_
    refine va_get (D := D) (ci := 3) (v := .ref (md 4)) (C := RX3) (T := TX3) (N := 15) hx hb hts hinX3 hown hK.1 hP 0 rfl rfl 9 (by decide) hf19 (fun _ h9 => h9) rfl dX3_lose_20 ?_
    refine lv_iload_n hx hb dX3_lose_23 rfl (lv_at hl 1 rfl) ?_
    refine kc_ald (i := cx) (n := 24) hx hb hK hP 4 0 rfl rfl (by omega) (by decide) dX3_lose_24 ?_
    refine lv_iconst (v := 2) hx hb dX3_lose_25 (by decide) ?_
    refine lv_icmp_eq (tgt := 39) hx hb dX3_lose_26 (by decide) (fun c_26 => ?_) (fun c_26 => ?_)
    · exact absurd c_26 h2
    · refine lv_aload_n hx hb dX3_lose_29 rfl (lv_at hl 0 rfl) ?_
      refine va_get (D := D) (ci := 3) (v := .ref (md 4)) (C := RX3) (T := TX3) (N := 15) hx hb hts hinX3 hown hK.1 hP 0 rfl rfl 9 (by decide) hf19 (fun _ h9 => h9) rfl dX3_lose_30 ?_
      refine lv_iload_n hx hb dX3_lose_33 rfl (lv_at hl 1 rfl) ?_
      refine kc_ald (i := cx) (n := 24) hx hb hK hP 4 0 rfl rfl (by omega) (by decide) dX3_lose_34 ?_
      refine lv_iconst (v := 3) hx hb dX3_lose_35 (by decide) ?_
      refine lv_icmp_ne (tgt := 45) hx hb dX3_lose_36 (by decide) (fun c_36 => ?_) (fun c_36 => ?_)
      · refine lv_aload_n hx hb dX3_lose_45 rfl (lv_at hl 0 rfl) ?_
        refine lv_iload_n hx hb dX3_lose_46 rfl (lv_at hl 1 rfl) ?_
        refine kc_wVv (w1 := wMd md cI 0 mK mc mD mr mw my mC mk ms mu mt mp mb (jMoveEnd ms me tn cx my)) (wr := []) (ws1 := wMd md cI 0 mK mc mD mr mw my mC mk ms mu mt mp mb (jMoveEnd ms me tn cx my)) (As := [.int (nI cx)]) (rest := []) ⟨hx, hb, hml, hown, hts⟩ (c_X3_stop l D md cI 0 mK mc mD mr mw my mC mk ms mu mt mp mb me tn cx H.size (by first | assumption | omega) hok) (cwV 1 hts gX3_lose_X3_stop rfl rfl rfl (by decide +kernel) ⟨Nat.le_of_ble_eq_true rfl, Nat.le_of_ble_eq_true rfl⟩) hK hP hD hS hA [0, 1, 2, 3, 4, 5, 6, 7, 8, 9] [] [0, 1, 2, 3, 4, 5, 6, 7, 8, 9] [0] rfl rfl rfl rfl (by decide) rfl rfl rfl 0 rfl rfl rfl rfl hl.1 rfl (Nat.le_of_ble_eq_true rfl) dX3_lose_47 ⟨Nat.le_of_ble_eq_true rfl, Nat.le_of_ble_eq_true rfl⟩ (fun H locs hP hD hS => ?_)
        refine lv_aload_n hx hb dX3_lose_50 rfl (lv_at hl 0 rfl) ?_
        refine va_get (D := D) (ci := 3) (v := .ref (md 4)) (C := RX3) (T := TX3) (N := 15) hx hb hts hinX3 hown hK.1 hP 0 rfl rfl 9 (by decide) hf19 (fun _ h9 => h9) rfl dX3_lose_51 ?_
        refine lv_iload_n hx hb dX3_lose_54 rfl (lv_at hl 1 rfl) ?_
        refine lv_iconst (v := 2) hx hb dX3_lose_55 (by decide) ?_
        refine kc_ast (i := cx) (n := 24) hx hb hK hP hD hS 4 0 rfl rfl (by omega) (by decide) dX3_lose_56 (fun H locs hP hD hS => ?_)
        have hP : va_P D vwCl (wMd md cI 0 mK mc mD mr mw my mC mk (upd ms cx 2) mu mt mp mb (jMoveEnd ms me tn cx my)) H := hP
        have hD : va_D A (wMd md cI 0 mK mc mD mr mw my mC mk (upd ms cx 2) mu mt mp mb (jMoveEnd ms me tn cx my)) := hD
        refine lv_aload_n hx hb dX3_lose_57 rfl (lv_at hl 0 rfl) ?_
        refine lv_aload_n hx hb dX3_lose_58 rfl (lv_at hl 0 rfl) ?_
        refine va_get (D := D) (ci := 3) (v := .ref (md 1)) (C := RX3) (T := TX3) (N := 15) hx hb hts hinX3 hown hK.1 hP 0 rfl rfl 2 (by decide) hf9 (fun _ h9 => h9) rfl dX3_lose_59 ?_
        refine lv_aload_n hx hb dX3_lose_62 rfl (lv_at hl 0 rfl) ?_
        refine va_get (D := D) (ci := 3) (v := .ref (md 3)) (C := RX3) (T := TX3) (N := 15) hx hb hts hinX3 hown hK.1 hP 0 rfl rfl 8 (by decide) hf16 (fun _ h9 => h9) rfl dX3_lose_63 ?_
        refine lv_iload_n hx hb dX3_lose_66 rfl (lv_at hl 1 rfl) ?_
        refine kc_ald (i := cx) (n := 24) hx hb hK hP 3 0 rfl rfl (by omega) (by decide) dX3_lose_67 ?_
        refine kc_top (show mk cx = nI (kn cx) from (hkn cx hc).1) ?_
        refine kc_ald (i := (kn cx)) (n := 8) hx hb hK hP 1 0 rfl rfl ((hkn cx hc).2) (by decide) dX3_lose_68 ?_
        refine kc_rVi (As := [.int (mc (kn cx))]) (rest := []) ⟨hx, hb, hml, hown, hts⟩ (c_X3_doorsOf l D md cI 0 mK mc mD mr mw my mC mk (upd ms cx 2) mu mt mp mb (jMoveEnd ms me tn cx my) (mc (kn cx)) hK8 hD8) (cwV 1 hts gX3_lose_X3_doorsOf rfl rfl rfl (by decide +kernel) ⟨Nat.le_of_ble_eq_true rfl, Nat.le_of_ble_eq_true rfl⟩) hK hP [0, 1, 2, 3, 4, 5, 6, 7, 8, 9] [0] rfl rfl 0 rfl rfl rfl rfl hl.1 rfl (Nat.le_of_ble_eq_true rfl) dX3_lose_69 ⟨Nat.le_of_ble_eq_true rfl, Nat.le_of_ble_eq_true rfl⟩ ?_
        exact W.iret (v := mDoors mr mc mK (mc (kn cx)) mD) hx hb hr (fun tZ htZ hWZ => ⟨⟨_, (), rfl, rfl, by rw [htZ]; exact hP, by rw [hAe]; exact hD⟩, hS.F htZ⟩) hS.2.2 dX3_lose_72
      · exact absurd c_36 h3
  · exact absurd (jIn_ok hc (by omega)) c_10
set_option maxHeartbeats 4000000 in
set_option maxRecDepth 100000 in
theorem c_X3_find_f2 (l : Launch) (D : va_G) (md : Nat → Nat) (cI : ClassId) (th : Int32) (mK : Nat) (mc : Nat → Int32) (mD : Nat) (mr : Nat → Int32) (mw : Int32) (my : Int32) (mC : Nat) (mk : Nat → Int32) (ms : Nat → Int32) (mu : Nat → Int32) (mt : Nat → Int32) (mp : Nat → Int32) (mb : Nat → Int32) (me : Nat → Int32) (cx : Nat) (sz : Nat) (hC24 : mC ≤ 24) (hc : cx < mC) (hn : ¬ ms cx = 2) : Met l yX3_find wsX3_find ({ frames := 1, cells := 0, slots := 0, locals := 21 } : Room) (wrP [.ref (md 0), .int (nI cx)] D sz (wMd md cI th mK mc mD mr mw my mC mk ms mu mt mp mb me) [(cI, .int)]) (va_Qi (fun rZ (_ : Unit) => rZ = 0) (wrB D sz (wMd md cI th mK mc mD mr mw my mC mk ms mu mt mp mb me) (wMd md cI 2 mK mc mD mr mw my mC mk ms mu mt mp mb me)) (va_A (wMd md cI th mK mc mD mr mw my mC mk ms mu mt mp mb me) sz)) 0 0 (va_A (wMd md cI th mK mc mD mr mw my mC mk ms mu mt mp mb me) sz) := by
  refine Met.ofW (cc := cX3_find) (maxL := 2) (ret := (some .int)) (by decide) rfl ?_
  intro p e s m args below meth c s₁ B hml hv
  obtain ⟨rfl, hsz, hP, hD0, hK⟩ := hv
  have hx := B.exec
  have hb := B.bytes
  have hr := B.returns
  have hts := atoms_spec (ws := wsX3_find) B.pre
  have hown : s.vm.findClass RX3 = some m.cls := findClass_of_methodNamed B.named
  have hlocks := B.notSynchronized
  subst hsz
  have hD := hD0.self (sz := s.heap.size)
  generalize hAe : va_A (wMd md cI th mK mc mD mr mw my mC mk ms mu mt mp mb me) s.heap.size = A at hD ⊢
  have hA : ∀ q : Nat, s.heap.size ≤ q → A q := fun q h => by rw [← hAe]; exact Or.inr h
  have hinX3 : ∀ w ∈ u_ws RX3 TX3 15, w ∈ wsX3_find := by decide +kernel
  have hf37 := hts (.fieldLink RX3 37 "KeyCabinetModel" "thrown" "I") (by decide +kernel)
  have hf19 := hts (.fieldLink RX3 19 "KeyCabinetModel" "states" "[I") (by decide +kernel)
  have hl := lv_entry ([.ref (md 0), .int (nI cx)]) (n := 2) (Nat.le_of_ble_eq_true rfl)
  rw [lg_entry_eq]
  generalize (lg_sl ([.ref (md 0), .int (nI cx)]) ++ List.replicate (2 - (lg_sl ([.ref (md 0), .int (nI cx)])).length) Slot.unset).toArray = ls at hl ⊢
  have hl : lv_has ls 2 [(0, .ref (md 0)), (1, .int (nI cx))] := hl
  refine W.genH (fun H locs eH eL => ?_)
  have hS : va_S A s.heap H locs := by rw [eH, eL]; exact va_S.rf
  have hP : va_P D vwCl (wMd md cI th mK mc mD mr mw my mC mk ms mu mt mp mb me) H := by rw [eH]; exact hP
  clear eH eL
  refine lv_aload_n hx hb dX3_find_0 rfl (lv_at hl 0 rfl) ?_
  refine lv_iconst (v := 0) hx hb dX3_find_1 (by decide) ?_
  refine va_put (D := D) (ci := 3) (v := .int 0) (ty := .int) (C := RX3) (T := TX3) (N := 15) hx hb hts hinX3 tyX3 tyX3_ok nmX3 hown hK.1 hP hD hS 0 rfl rfl 0 (by decide) hf37 (fun _ h9 => h9) rfl (by decide +kernel) rfl rfl (Nat.le_of_ble_eq_true rfl) dX3_find_2 (fun H locs hP hD hS => ?_)
  have hP : va_P D vwCl (wMd md cI 0 mK mc mD mr mw my mC mk ms mu mt mp mb me) H := hP
  have hD : va_D A (wMd md cI 0 mK mc mD mr mw my mC mk ms mu mt mp mb me) := hD
  refine lv_aload_n hx hb dX3_find_5 rfl (lv_at hl 0 rfl) ?_
  refine lv_iload_n hx hb dX3_find_6 rfl (lv_at hl 1 rfl) ?_
  refine kc_rVi (As := [.int (nI cx)]) (rest := []) ⟨hx, hb, hml, hown, hts⟩ (c_X3_isCopy l D md cI 0 mK mc mD mr mw my mC mk ms mu mt mp mb me (nI cx) ) (cwV 1 hts gX3_find_X3_isCopy rfl rfl rfl (by decide +kernel) ⟨Nat.le_of_ble_eq_true rfl, Nat.le_of_ble_eq_true rfl⟩) hK hP [0, 1, 2, 3, 4, 5, 6, 7, 8, 9] [0] rfl rfl 0 rfl rfl rfl rfl hl.1 rfl (Nat.le_of_ble_eq_true rfl) dX3_find_7 ⟨Nat.le_of_ble_eq_true rfl, Nat.le_of_ble_eq_true rfl⟩ ?_
  refine kc_ifneB (tgt := 19) hx hb dX3_find_10 (by decide) (fun c_10 => ?_) (fun c_10 => ?_)
  · refine lv_aload_n hx hb dX3_find_19 rfl (lv_at hl 0 rfl) ?_
    refine va_get (D := D) (ci := 3) (v := .ref (md 4)) (C := RX3) (T := TX3) (N := 15) hx hb hts hinX3 hown hK.1 hP 0 rfl rfl 9 (by decide) hf19 (fun _ h9 => h9) rfl dX3_find_20 ?_
    refine lv_iload_n hx hb dX3_find_23 rfl (lv_at hl 1 rfl) ?_
    refine kc_ald (i := cx) (n := 24) hx hb hK hP 4 0 rfl rfl (by omega) (by decide) dX3_find_24 ?_
    refine lv_iconst (v := 2) hx hb dX3_find_25 (by decide) ?_
    refine lv_icmp_eq (tgt := 35) hx hb dX3_find_26 (by decide) (fun c_26 => ?_) (fun c_26 => ?_)
    · exact absurd c_26 hn
    · refine lv_aload_n hx hb dX3_find_29 rfl (lv_at hl 0 rfl) ?_
      refine lv_iconst (v := 2) hx hb dX3_find_30 (by decide) ?_
      refine kc_wVi (w1 := wMd md cI 2 mK mc mD mr mw my mC mk ms mu mt mp mb me) (wr := []) (ws1 := wMd md cI 2 mK mc mD mr mw my mC mk ms mu mt mp mb me) (As := [.int 2]) (rest := []) ⟨hx, hb, hml, hown, hts⟩ (c_X3_fail l D md cI 0 mK mc mD mr mw my mC mk ms mu mt mp mb me 2 H.size ) (cwV 1 hts gX3_find_X3_fail rfl rfl rfl (by decide +kernel) ⟨Nat.le_of_ble_eq_true rfl, Nat.le_of_ble_eq_true rfl⟩) hK hP hD hS hA [0, 1, 2, 3, 4, 5, 6, 7, 8, 9] [] [0, 1, 2, 3, 4, 5, 6, 7, 8, 9] [0] rfl rfl rfl rfl (by decide) rfl rfl rfl 0 rfl rfl rfl rfl hl.1 rfl (Nat.le_of_ble_eq_true rfl) dX3_find_31 ⟨Nat.le_of_ble_eq_true rfl, Nat.le_of_ble_eq_true rfl⟩ (fun H locs hP hD hS => ?_)
      exact W.iret (v := 0) hx hb hr (fun tZ htZ hWZ => ⟨⟨_, (), rfl, rfl, by rw [htZ]; exact hP, by rw [hAe]; exact hD⟩, hS.F htZ⟩) hS.2.2 dX3_find_34
  · exact absurd (jIn_ok hc (by omega)) c_10
set_option maxHeartbeats 4000000 in
set_option maxRecDepth 100000 in
theorem c_X3_find_ok (l : Launch) (D : va_G) (md : Nat → Nat) (cI : ClassId) (th : Int32) (mK : Nat) (mc : Nat → Int32) (mD : Nat) (mr : Nat → Int32) (mw : Int32) (my : Int32) (mC : Nat) (mk : Nat → Int32) (ms : Nat → Int32) (mu : Nat → Int32) (mt : Nat → Int32) (mp : Nat → Int32) (mb : Nat → Int32) (me : Nat → Int32) (cx : Nat) (kn : Nat → Nat) (sz : Nat) (hK8 : mK ≤ 8) (hD8 : mD ≤ 8) (hC24 : mC ≤ 24) (hc : cx < mC) (hkn : okKe mC mk kn) (h2 : ms cx = 2) : Met l yX3_find wsX3_find ({ frames := 5, cells := 0, slots := 0, locals := 114 } : Room) (wrP [.ref (md 0), .int (nI cx)] D sz (wMd md cI th mK mc mD mr mw my mC mk ms mu mt mp mb me) [(cI, .int)]) (va_Qi (fun rZ (_ : Unit) => rZ = mRisk mr mc (upd ms cx 0) mK mD kn mC) (wrB D sz (wMd md cI th mK mc mD mr mw my mC mk ms mu mt mp mb me) (wMd md cI 0 mK mc mD mr mw my mC mk (upd ms cx 0) mu mt mp mb me)) (va_A (wMd md cI th mK mc mD mr mw my mC mk ms mu mt mp mb me) sz)) 0 0 (va_A (wMd md cI th mK mc mD mr mw my mC mk ms mu mt mp mb me) sz) := by
  refine Met.ofW (cc := cX3_find) (maxL := 2) (ret := (some .int)) (by decide) rfl ?_
  intro p e s m args below meth c s₁ B hml hv
  obtain ⟨rfl, hsz, hP, hD0, hK⟩ := hv
  have hx := B.exec
  have hb := B.bytes
  have hr := B.returns
  have hts := atoms_spec (ws := wsX3_find) B.pre
  have hown : s.vm.findClass RX3 = some m.cls := findClass_of_methodNamed B.named
  have hlocks := B.notSynchronized
  subst hsz
  have hD := hD0.self (sz := s.heap.size)
  generalize hAe : va_A (wMd md cI th mK mc mD mr mw my mC mk ms mu mt mp mb me) s.heap.size = A at hD ⊢
  have hA : ∀ q : Nat, s.heap.size ≤ q → A q := fun q h => by rw [← hAe]; exact Or.inr h
  have hinX3 : ∀ w ∈ u_ws RX3 TX3 15, w ∈ wsX3_find := by decide +kernel
  have hf37 := hts (.fieldLink RX3 37 "KeyCabinetModel" "thrown" "I") (by decide +kernel)
  have hf19 := hts (.fieldLink RX3 19 "KeyCabinetModel" "states" "[I") (by decide +kernel)
  have hl := lv_entry ([.ref (md 0), .int (nI cx)]) (n := 2) (Nat.le_of_ble_eq_true rfl)
  rw [lg_entry_eq]
  generalize (lg_sl ([.ref (md 0), .int (nI cx)]) ++ List.replicate (2 - (lg_sl ([.ref (md 0), .int (nI cx)])).length) Slot.unset).toArray = ls at hl ⊢
  have hl : lv_has ls 2 [(0, .ref (md 0)), (1, .int (nI cx))] := hl
  refine W.genH (fun H locs eH eL => ?_)
  have hS : va_S A s.heap H locs := by rw [eH, eL]; exact va_S.rf
  have hP : va_P D vwCl (wMd md cI th mK mc mD mr mw my mC mk ms mu mt mp mb me) H := by rw [eH]; exact hP
  clear eH eL
  refine lv_aload_n hx hb dX3_find_0 rfl (lv_at hl 0 rfl) ?_
  refine lv_iconst (v := 0) hx hb dX3_find_1 (by decide) ?_
  refine va_put (D := D) (ci := 3) (v := .int 0) (ty := .int) (C := RX3) (T := TX3) (N := 15) hx hb hts hinX3 tyX3 tyX3_ok nmX3 hown hK.1 hP hD hS 0 rfl rfl 0 (by decide) hf37 (fun _ h9 => h9) rfl (by decide +kernel) rfl rfl (Nat.le_of_ble_eq_true rfl) dX3_find_2 (fun H locs hP hD hS => ?_)
  have hP : va_P D vwCl (wMd md cI 0 mK mc mD mr mw my mC mk ms mu mt mp mb me) H := hP
  have hD : va_D A (wMd md cI 0 mK mc mD mr mw my mC mk ms mu mt mp mb me) := hD
  refine lv_aload_n hx hb dX3_find_5 rfl (lv_at hl 0 rfl) ?_
  refine lv_iload_n hx hb dX3_find_6 rfl (lv_at hl 1 rfl) ?_
  refine kc_rVi (As := [.int (nI cx)]) (rest := []) ⟨hx, hb, hml, hown, hts⟩ (c_X3_isCopy l D md cI 0 mK mc mD mr mw my mC mk ms mu mt mp mb me (nI cx) ) (cwV 1 hts gX3_find_X3_isCopy rfl rfl rfl (by decide +kernel) ⟨Nat.le_of_ble_eq_true rfl, Nat.le_of_ble_eq_true rfl⟩) hK hP [0, 1, 2, 3, 4, 5, 6, 7, 8, 9] [0] rfl rfl 0 rfl rfl rfl rfl hl.1 rfl (Nat.le_of_ble_eq_true rfl) dX3_find_7 ⟨Nat.le_of_ble_eq_true rfl, Nat.le_of_ble_eq_true rfl⟩ ?_
  refine kc_ifneB (tgt := 19) hx hb dX3_find_10 (by decide) (fun c_10 => ?_) (fun c_10 => ?_)
  · refine lv_aload_n hx hb dX3_find_19 rfl (lv_at hl 0 rfl) ?_
    refine va_get (D := D) (ci := 3) (v := .ref (md 4)) (C := RX3) (T := TX3) (N := 15) hx hb hts hinX3 hown hK.1 hP 0 rfl rfl 9 (by decide) hf19 (fun _ h9 => h9) rfl dX3_find_20 ?_
    refine lv_iload_n hx hb dX3_find_23 rfl (lv_at hl 1 rfl) ?_
    refine kc_ald (i := cx) (n := 24) hx hb hK hP 4 0 rfl rfl (by omega) (by decide) dX3_find_24 ?_
    refine lv_iconst (v := 2) hx hb dX3_find_25 (by decide) ?_
    refine lv_icmp_eq (tgt := 35) hx hb dX3_find_26 (by decide) (fun c_26 => ?_) (fun c_26 => ?_)
    · refine lv_aload_n hx hb dX3_find_35 rfl (lv_at hl 0 rfl) ?_
      refine va_get (D := D) (ci := 3) (v := .ref (md 4)) (C := RX3) (T := TX3) (N := 15) hx hb hts hinX3 hown hK.1 hP 0 rfl rfl 9 (by decide) hf19 (fun _ h9 => h9) rfl dX3_find_36 ?_
      refine lv_iload_n hx hb dX3_find_39 rfl (lv_at hl 1 rfl) ?_
      refine lv_iconst (v := 0) hx hb dX3_find_40 (by decide) ?_
      refine kc_ast (i := cx) (n := 24) hx hb hK hP hD hS 4 0 rfl rfl (by omega) (by decide) dX3_find_41 (fun H locs hP hD hS => ?_)
      have hP : va_P D vwCl (wMd md cI 0 mK mc mD mr mw my mC mk (upd ms cx 0) mu mt mp mb me) H := hP
      have hD : va_D A (wMd md cI 0 mK mc mD mr mw my mC mk (upd ms cx 0) mu mt mp mb me) := hD
      refine lv_aload_n hx hb dX3_find_42 rfl (lv_at hl 0 rfl) ?_
      refine kc_rVi (As := []) (rest := []) ⟨hx, hb, hml, hown, hts⟩ (c_X3_riskyDoors l D md cI 0 mK mc mD mr mw my mC mk (upd ms cx 0) mu mt mp mb me kn hK8 hD8 hC24 hkn) (cwV 0 hts gX3_find_X3_riskyDoors rfl rfl rfl (by decide +kernel) ⟨Nat.le_of_ble_eq_true rfl, Nat.le_of_ble_eq_true rfl⟩) hK hP [0, 1, 2, 3, 4, 5, 6, 7, 8, 9] [0] rfl rfl 0 rfl rfl rfl rfl hl.1 rfl (Nat.le_of_ble_eq_true rfl) dX3_find_43 ⟨Nat.le_of_ble_eq_true rfl, Nat.le_of_ble_eq_true rfl⟩ ?_
      exact W.iret (v := mRisk mr mc (upd ms cx 0) mK mD kn mC) hx hb hr (fun tZ htZ hWZ => ⟨⟨_, (), rfl, rfl, by rw [htZ]; exact hP, by rw [hAe]; exact hD⟩, hS.F htZ⟩) hS.2.2 dX3_find_46
    · exact absurd h2 c_26
  · exact absurd (jIn_ok hc (by omega)) c_10
set_option maxHeartbeats 4000000 in
set_option maxRecDepth 100000 in
theorem c_X3_pass_f1 (l : Launch) (D : va_G) (md : Nat → Nat) (cI : ClassId) (th : Int32) (mK : Nat) (mc : Nat → Int32) (mD : Nat) (mr : Nat → Int32) (mw : Int32) (my : Int32) (mC : Nat) (mk : Nat → Int32) (ms : Nat → Int32) (mu : Nat → Int32) (mt : Nat → Int32) (mp : Nat → Int32) (mb : Nat → Int32) (me : Nat → Int32) (dz : Int32) (sz : Nat) (hz : dz < 1 ∨ (99 : Int32) < dz) : Met l yX3_pass wsX3_pass ({ frames := 1, cells := 0, slots := 0, locals := 21 } : Room) (wrP [.ref (md 0), .int dz] D sz (wMd md cI th mK mc mD mr mw my mC mk ms mu mt mp mb me) [(cI, .int)]) (va_Qi (fun rZ (_ : Unit) => rZ = 0) (wrB D sz (wMd md cI th mK mc mD mr mw my mC mk ms mu mt mp mb me) (wMd md cI 1 mK mc mD mr mw my mC mk ms mu mt mp mb me)) (va_A (wMd md cI th mK mc mD mr mw my mC mk ms mu mt mp mb me) sz)) 0 0 (va_A (wMd md cI th mK mc mD mr mw my mC mk ms mu mt mp mb me) sz) := by
  refine Met.ofW (cc := cX3_pass) (maxL := 2) (ret := (some .int)) (by decide) rfl ?_
  intro p e s m args below meth c s₁ B hml hv
  obtain ⟨rfl, hsz, hP, hD0, hK⟩ := hv
  have hx := B.exec
  have hb := B.bytes
  have hr := B.returns
  have hts := atoms_spec (ws := wsX3_pass) B.pre
  have hown : s.vm.findClass RX3 = some m.cls := findClass_of_methodNamed B.named
  have hlocks := B.notSynchronized
  subst hsz
  have hD := hD0.self (sz := s.heap.size)
  generalize hAe : va_A (wMd md cI th mK mc mD mr mw my mC mk ms mu mt mp mb me) s.heap.size = A at hD ⊢
  have hA : ∀ q : Nat, s.heap.size ≤ q → A q := fun q h => by rw [← hAe]; exact Or.inr h
  have hinX3 : ∀ w ∈ u_ws RX3 TX3 15, w ∈ wsX3_pass := by decide +kernel
  have hf37 := hts (.fieldLink RX3 37 "KeyCabinetModel" "thrown" "I") (by decide +kernel)
  have hl := lv_entry ([.ref (md 0), .int dz]) (n := 2) (Nat.le_of_ble_eq_true rfl)
  rw [lg_entry_eq]
  generalize (lg_sl ([.ref (md 0), .int dz]) ++ List.replicate (2 - (lg_sl ([.ref (md 0), .int dz])).length) Slot.unset).toArray = ls at hl ⊢
  have hl : lv_has ls 2 [(0, .ref (md 0)), (1, .int dz)] := hl
  refine W.genH (fun H locs eH eL => ?_)
  have hS : va_S A s.heap H locs := by rw [eH, eL]; exact va_S.rf
  have hP : va_P D vwCl (wMd md cI th mK mc mD mr mw my mC mk ms mu mt mp mb me) H := by rw [eH]; exact hP
  clear eH eL
  refine lv_aload_n hx hb dX3_pass_0 rfl (lv_at hl 0 rfl) ?_
  refine lv_iconst (v := 0) hx hb dX3_pass_1 (by decide) ?_
  refine va_put (D := D) (ci := 3) (v := .int 0) (ty := .int) (C := RX3) (T := TX3) (N := 15) hx hb hts hinX3 tyX3 tyX3_ok nmX3 hown hK.1 hP hD hS 0 rfl rfl 0 (by decide) hf37 (fun _ h9 => h9) rfl (by decide +kernel) rfl rfl (Nat.le_of_ble_eq_true rfl) dX3_pass_2 (fun H locs hP hD hS => ?_)
  have hP : va_P D vwCl (wMd md cI 0 mK mc mD mr mw my mC mk ms mu mt mp mb me) H := hP
  have hD : va_D A (wMd md cI 0 mK mc mD mr mw my mC mk ms mu mt mp mb me) := hD
  refine lv_iload_n hx hb dX3_pass_5 rfl (lv_at hl 1 rfl) ?_
  refine lv_iconst (v := 1) hx hb dX3_pass_6 (by decide) ?_
  refine lv_icmp_lt (tgt := 16) hx hb dX3_pass_7 (by decide) (fun c_7 => ?_) (fun c_7 => ?_)
  · refine lv_aload_n hx hb dX3_pass_16 rfl (lv_at hl 0 rfl) ?_
    refine lv_iconst (v := 1) hx hb dX3_pass_17 (by decide) ?_
    refine kc_wVi (w1 := wMd md cI 1 mK mc mD mr mw my mC mk ms mu mt mp mb me) (wr := []) (ws1 := wMd md cI 1 mK mc mD mr mw my mC mk ms mu mt mp mb me) (As := [.int 1]) (rest := []) ⟨hx, hb, hml, hown, hts⟩ (c_X3_fail l D md cI 0 mK mc mD mr mw my mC mk ms mu mt mp mb me 1 H.size ) (cwV 1 hts gX3_pass_X3_fail rfl rfl rfl (by decide +kernel) ⟨Nat.le_of_ble_eq_true rfl, Nat.le_of_ble_eq_true rfl⟩) hK hP hD hS hA [0, 1, 2, 3, 4, 5, 6, 7, 8, 9] [] [0, 1, 2, 3, 4, 5, 6, 7, 8, 9] [0] rfl rfl rfl rfl (by decide) rfl rfl rfl 0 rfl rfl rfl rfl hl.1 rfl (Nat.le_of_ble_eq_true rfl) dX3_pass_18 ⟨Nat.le_of_ble_eq_true rfl, Nat.le_of_ble_eq_true rfl⟩ (fun H locs hP hD hS => ?_)
    exact W.iret (v := 0) hx hb hr (fun tZ htZ hWZ => ⟨⟨_, (), rfl, rfl, by rw [htZ]; exact hP, by rw [hAe]; exact hD⟩, hS.F htZ⟩) hS.2.2 dX3_pass_21
  · refine lv_iload_n hx hb dX3_pass_10 rfl (lv_at hl 1 rfl) ?_
    refine lv_bipush (v := 99) hx hb dX3_pass_11 (by decide) ?_
    refine lv_icmp_le (tgt := 22) hx hb dX3_pass_13 (by decide) (fun c_13 => ?_) (fun c_13 => ?_)
    · exact hz.elim (fun h => absurd h c_7) (fun h => absurd c_13 (kc_nle h))
    · refine lv_aload_n hx hb dX3_pass_16 rfl (lv_at hl 0 rfl) ?_
      refine lv_iconst (v := 1) hx hb dX3_pass_17 (by decide) ?_
      refine kc_wVi (w1 := wMd md cI 1 mK mc mD mr mw my mC mk ms mu mt mp mb me) (wr := []) (ws1 := wMd md cI 1 mK mc mD mr mw my mC mk ms mu mt mp mb me) (As := [.int 1]) (rest := []) ⟨hx, hb, hml, hown, hts⟩ (c_X3_fail l D md cI 0 mK mc mD mr mw my mC mk ms mu mt mp mb me 1 H.size ) (cwV 1 hts gX3_pass_X3_fail rfl rfl rfl (by decide +kernel) ⟨Nat.le_of_ble_eq_true rfl, Nat.le_of_ble_eq_true rfl⟩) hK hP hD hS hA [0, 1, 2, 3, 4, 5, 6, 7, 8, 9] [] [0, 1, 2, 3, 4, 5, 6, 7, 8, 9] [0] rfl rfl rfl rfl (by decide) rfl rfl rfl 0 rfl rfl rfl rfl hl.1 rfl (Nat.le_of_ble_eq_true rfl) dX3_pass_18 ⟨Nat.le_of_ble_eq_true rfl, Nat.le_of_ble_eq_true rfl⟩ (fun H locs hP hD hS => ?_)
      exact W.iret (v := 0) hx hb hr (fun tZ htZ hWZ => ⟨⟨_, (), rfl, rfl, by rw [htZ]; exact hP, by rw [hAe]; exact hD⟩, hS.F htZ⟩) hS.2.2 dX3_pass_21
set_option maxHeartbeats 4000000 in
set_option maxRecDepth 100000 in
theorem c_X3_pass_f2 (l : Launch) (D : va_G) (md : Nat → Nat) (cI : ClassId) (th : Int32) (mK : Nat) (mc : Nat → Int32) (mD : Nat) (mr : Nat → Int32) (mw : Int32) (my : Int32) (mC : Nat) (mk : Nat → Int32) (ms : Nat → Int32) (mu : Nat → Int32) (mt : Nat → Int32) (mp : Nat → Int32) (mb : Nat → Int32) (me : Nat → Int32) (dz : Int32) (sz : Nat) (hz1 : ¬ dz < 1) (hz2 : dz ≤ 99) (hn : ¬ my + dz ≤ 9999) : Met l yX3_pass wsX3_pass ({ frames := 1, cells := 0, slots := 0, locals := 21 } : Room) (wrP [.ref (md 0), .int dz] D sz (wMd md cI th mK mc mD mr mw my mC mk ms mu mt mp mb me) [(cI, .int)]) (va_Qi (fun rZ (_ : Unit) => rZ = 0) (wrB D sz (wMd md cI th mK mc mD mr mw my mC mk ms mu mt mp mb me) (wMd md cI 2 mK mc mD mr mw my mC mk ms mu mt mp mb me)) (va_A (wMd md cI th mK mc mD mr mw my mC mk ms mu mt mp mb me) sz)) 0 0 (va_A (wMd md cI th mK mc mD mr mw my mC mk ms mu mt mp mb me) sz) := by
  refine Met.ofW (cc := cX3_pass) (maxL := 2) (ret := (some .int)) (by decide) rfl ?_
  intro p e s m args below meth c s₁ B hml hv
  obtain ⟨rfl, hsz, hP, hD0, hK⟩ := hv
  have hx := B.exec
  have hb := B.bytes
  have hr := B.returns
  have hts := atoms_spec (ws := wsX3_pass) B.pre
  have hown : s.vm.findClass RX3 = some m.cls := findClass_of_methodNamed B.named
  have hlocks := B.notSynchronized
  subst hsz
  have hD := hD0.self (sz := s.heap.size)
  generalize hAe : va_A (wMd md cI th mK mc mD mr mw my mC mk ms mu mt mp mb me) s.heap.size = A at hD ⊢
  have hA : ∀ q : Nat, s.heap.size ≤ q → A q := fun q h => by rw [← hAe]; exact Or.inr h
  have hinX3 : ∀ w ∈ u_ws RX3 TX3 15, w ∈ wsX3_pass := by decide +kernel
  have hf37 := hts (.fieldLink RX3 37 "KeyCabinetModel" "thrown" "I") (by decide +kernel)
  have hf100 := hts (.fieldLink RX3 100 "KeyCabinetModel" "day" "I") (by decide +kernel)
  have hl := lv_entry ([.ref (md 0), .int dz]) (n := 2) (Nat.le_of_ble_eq_true rfl)
  rw [lg_entry_eq]
  generalize (lg_sl ([.ref (md 0), .int dz]) ++ List.replicate (2 - (lg_sl ([.ref (md 0), .int dz])).length) Slot.unset).toArray = ls at hl ⊢
  have hl : lv_has ls 2 [(0, .ref (md 0)), (1, .int dz)] := hl
  refine W.genH (fun H locs eH eL => ?_)
  have hS : va_S A s.heap H locs := by rw [eH, eL]; exact va_S.rf
  have hP : va_P D vwCl (wMd md cI th mK mc mD mr mw my mC mk ms mu mt mp mb me) H := by rw [eH]; exact hP
  clear eH eL
  refine lv_aload_n hx hb dX3_pass_0 rfl (lv_at hl 0 rfl) ?_
  refine lv_iconst (v := 0) hx hb dX3_pass_1 (by decide) ?_
  refine va_put (D := D) (ci := 3) (v := .int 0) (ty := .int) (C := RX3) (T := TX3) (N := 15) hx hb hts hinX3 tyX3 tyX3_ok nmX3 hown hK.1 hP hD hS 0 rfl rfl 0 (by decide) hf37 (fun _ h9 => h9) rfl (by decide +kernel) rfl rfl (Nat.le_of_ble_eq_true rfl) dX3_pass_2 (fun H locs hP hD hS => ?_)
  have hP : va_P D vwCl (wMd md cI 0 mK mc mD mr mw my mC mk ms mu mt mp mb me) H := hP
  have hD : va_D A (wMd md cI 0 mK mc mD mr mw my mC mk ms mu mt mp mb me) := hD
  refine lv_iload_n hx hb dX3_pass_5 rfl (lv_at hl 1 rfl) ?_
  refine lv_iconst (v := 1) hx hb dX3_pass_6 (by decide) ?_
  refine lv_icmp_lt (tgt := 16) hx hb dX3_pass_7 (by decide) (fun c_7 => ?_) (fun c_7 => ?_)
  · exact absurd c_7 hz1
  · refine lv_iload_n hx hb dX3_pass_10 rfl (lv_at hl 1 rfl) ?_
    refine lv_bipush (v := 99) hx hb dX3_pass_11 (by decide) ?_
    refine lv_icmp_le (tgt := 22) hx hb dX3_pass_13 (by decide) (fun c_13 => ?_) (fun c_13 => ?_)
    · refine lv_aload_n hx hb dX3_pass_22 rfl (lv_at hl 0 rfl) ?_
      refine va_get (D := D) (ci := 3) (v := .int my) (C := RX3) (T := TX3) (N := 15) hx hb hts hinX3 hown hK.1 hP 0 rfl rfl 6 (by decide) hf100 (fun _ h9 => h9) rfl dX3_pass_23 ?_
      refine lv_iload_n hx hb dX3_pass_26 rfl (lv_at hl 1 rfl) ?_
      refine lv_iadd hx hb dX3_pass_27 ?_
      refine lv_sipush (v := 9999) hx hb dX3_pass_28 (by decide) ?_
      refine lv_icmp_le (tgt := 40) hx hb dX3_pass_31 (by decide) (fun c_31 => ?_) (fun c_31 => ?_)
      · exact absurd c_31 hn
      · refine lv_aload_n hx hb dX3_pass_34 rfl (lv_at hl 0 rfl) ?_
        refine lv_iconst (v := 2) hx hb dX3_pass_35 (by decide) ?_
        refine kc_wVi (w1 := wMd md cI 2 mK mc mD mr mw my mC mk ms mu mt mp mb me) (wr := []) (ws1 := wMd md cI 2 mK mc mD mr mw my mC mk ms mu mt mp mb me) (As := [.int 2]) (rest := []) ⟨hx, hb, hml, hown, hts⟩ (c_X3_fail l D md cI 0 mK mc mD mr mw my mC mk ms mu mt mp mb me 2 H.size ) (cwV 1 hts gX3_pass_X3_fail rfl rfl rfl (by decide +kernel) ⟨Nat.le_of_ble_eq_true rfl, Nat.le_of_ble_eq_true rfl⟩) hK hP hD hS hA [0, 1, 2, 3, 4, 5, 6, 7, 8, 9] [] [0, 1, 2, 3, 4, 5, 6, 7, 8, 9] [0] rfl rfl rfl rfl (by decide) rfl rfl rfl 0 rfl rfl rfl rfl hl.1 rfl (Nat.le_of_ble_eq_true rfl) dX3_pass_36 ⟨Nat.le_of_ble_eq_true rfl, Nat.le_of_ble_eq_true rfl⟩ (fun H locs hP hD hS => ?_)
        exact W.iret (v := 0) hx hb hr (fun tZ htZ hWZ => ⟨⟨_, (), rfl, rfl, by rw [htZ]; exact hP, by rw [hAe]; exact hD⟩, hS.F htZ⟩) hS.2.2 dX3_pass_39
    · exact absurd hz2 c_13
set_option maxHeartbeats 4000000 in
set_option maxRecDepth 100000 in
theorem c_X3_pass_ok (l : Launch) (D : va_G) (md : Nat → Nat) (cI : ClassId) (th : Int32) (mK : Nat) (mc : Nat → Int32) (mD : Nat) (mr : Nat → Int32) (mw : Int32) (my : Int32) (mC : Nat) (mk : Nat → Int32) (ms : Nat → Int32) (mu : Nat → Int32) (mt : Nat → Int32) (mp : Nat → Int32) (mb : Nat → Int32) (me : Nat → Int32) (dz : Int32) (sz : Nat) (hz1 : ¬ dz < 1) (hz2 : dz ≤ 99) (h9 : my + dz ≤ 9999) : Met l yX3_pass wsX3_pass ({ frames := 0, cells := 0, slots := 0, locals := 0 } : Room) (wrP [.ref (md 0), .int dz] D sz (wMd md cI th mK mc mD mr mw my mC mk ms mu mt mp mb me) [(cI, .int)]) (va_Qi (fun rZ (_ : Unit) => rZ = my + dz) (wrB D sz (wMd md cI th mK mc mD mr mw my mC mk ms mu mt mp mb me) (wMd md cI 0 mK mc mD mr mw (my + dz) mC mk ms mu mt mp mb me)) (va_A (wMd md cI th mK mc mD mr mw my mC mk ms mu mt mp mb me) sz)) 0 0 (va_A (wMd md cI th mK mc mD mr mw my mC mk ms mu mt mp mb me) sz) := by
  refine Met.ofW (cc := cX3_pass) (maxL := 2) (ret := (some .int)) (by decide) rfl ?_
  intro p e s m args below meth c s₁ B hml hv
  obtain ⟨rfl, hsz, hP, hD0, hK⟩ := hv
  have hx := B.exec
  have hb := B.bytes
  have hr := B.returns
  have hts := atoms_spec (ws := wsX3_pass) B.pre
  have hown : s.vm.findClass RX3 = some m.cls := findClass_of_methodNamed B.named
  have hlocks := B.notSynchronized
  subst hsz
  have hD := hD0.self (sz := s.heap.size)
  generalize hAe : va_A (wMd md cI th mK mc mD mr mw my mC mk ms mu mt mp mb me) s.heap.size = A at hD ⊢
  have hA : ∀ q : Nat, s.heap.size ≤ q → A q := fun q h => by rw [← hAe]; exact Or.inr h
  have hinX3 : ∀ w ∈ u_ws RX3 TX3 15, w ∈ wsX3_pass := by decide +kernel
  have hf37 := hts (.fieldLink RX3 37 "KeyCabinetModel" "thrown" "I") (by decide +kernel)
  have hf100 := hts (.fieldLink RX3 100 "KeyCabinetModel" "day" "I") (by decide +kernel)
  have hl := lv_entry ([.ref (md 0), .int dz]) (n := 2) (Nat.le_of_ble_eq_true rfl)
  rw [lg_entry_eq]
  generalize (lg_sl ([.ref (md 0), .int dz]) ++ List.replicate (2 - (lg_sl ([.ref (md 0), .int dz])).length) Slot.unset).toArray = ls at hl ⊢
  have hl : lv_has ls 2 [(0, .ref (md 0)), (1, .int dz)] := hl
  refine W.genH (fun H locs eH eL => ?_)
  have hS : va_S A s.heap H locs := by rw [eH, eL]; exact va_S.rf
  have hP : va_P D vwCl (wMd md cI th mK mc mD mr mw my mC mk ms mu mt mp mb me) H := by rw [eH]; exact hP
  clear eH eL
  refine lv_aload_n hx hb dX3_pass_0 rfl (lv_at hl 0 rfl) ?_
  refine lv_iconst (v := 0) hx hb dX3_pass_1 (by decide) ?_
  refine va_put (D := D) (ci := 3) (v := .int 0) (ty := .int) (C := RX3) (T := TX3) (N := 15) hx hb hts hinX3 tyX3 tyX3_ok nmX3 hown hK.1 hP hD hS 0 rfl rfl 0 (by decide) hf37 (fun _ h9 => h9) rfl (by decide +kernel) rfl rfl (Nat.le_of_ble_eq_true rfl) dX3_pass_2 (fun H locs hP hD hS => ?_)
  have hP : va_P D vwCl (wMd md cI 0 mK mc mD mr mw my mC mk ms mu mt mp mb me) H := hP
  have hD : va_D A (wMd md cI 0 mK mc mD mr mw my mC mk ms mu mt mp mb me) := hD
  refine lv_iload_n hx hb dX3_pass_5 rfl (lv_at hl 1 rfl) ?_
  refine lv_iconst (v := 1) hx hb dX3_pass_6 (by decide) ?_
  refine lv_icmp_lt (tgt := 16) hx hb dX3_pass_7 (by decide) (fun c_7 => ?_) (fun c_7 => ?_)
  · exact absurd c_7 hz1
  · refine lv_iload_n hx hb dX3_pass_10 rfl (lv_at hl 1 rfl) ?_
    refine lv_bipush (v := 99) hx hb dX3_pass_11 (by decide) ?_
    refine lv_icmp_le (tgt := 22) hx hb dX3_pass_13 (by decide) (fun c_13 => ?_) (fun c_13 => ?_)
    · refine lv_aload_n hx hb dX3_pass_22 rfl (lv_at hl 0 rfl) ?_
      refine va_get (D := D) (ci := 3) (v := .int my) (C := RX3) (T := TX3) (N := 15) hx hb hts hinX3 hown hK.1 hP 0 rfl rfl 6 (by decide) hf100 (fun _ h9 => h9) rfl dX3_pass_23 ?_
      refine lv_iload_n hx hb dX3_pass_26 rfl (lv_at hl 1 rfl) ?_
      refine lv_iadd hx hb dX3_pass_27 ?_
      refine lv_sipush (v := 9999) hx hb dX3_pass_28 (by decide) ?_
      refine lv_icmp_le (tgt := 40) hx hb dX3_pass_31 (by decide) (fun c_31 => ?_) (fun c_31 => ?_)
      · refine lv_aload_n hx hb dX3_pass_40 rfl (lv_at hl 0 rfl) ?_
        refine lv_dup hx hb dX3_pass_41 rfl ?_
        refine va_get (D := D) (ci := 3) (v := .int my) (C := RX3) (T := TX3) (N := 15) hx hb hts hinX3 hown hK.1 hP 0 rfl rfl 6 (by decide) hf100 (fun _ h9 => h9) rfl dX3_pass_42 ?_
        refine lv_iload_n hx hb dX3_pass_45 rfl (lv_at hl 1 rfl) ?_
        refine lv_iadd hx hb dX3_pass_46 ?_
        refine va_put (D := D) (ci := 3) (v := .int (my + dz)) (ty := .int) (C := RX3) (T := TX3) (N := 15) hx hb hts hinX3 tyX3 tyX3_ok nmX3 hown hK.1 hP hD hS 0 rfl rfl 6 (by decide) hf100 (fun _ h9 => h9) rfl (by decide +kernel) rfl rfl (Nat.le_of_ble_eq_true rfl) dX3_pass_47 (fun H locs hP hD hS => ?_)
        have hP : va_P D vwCl (wMd md cI 0 mK mc mD mr mw (my + dz) mC mk ms mu mt mp mb me) H := hP
        have hD : va_D A (wMd md cI 0 mK mc mD mr mw (my + dz) mC mk ms mu mt mp mb me) := hD
        refine lv_aload_n hx hb dX3_pass_50 rfl (lv_at hl 0 rfl) ?_
        refine va_get (D := D) (ci := 3) (v := .int (my + dz)) (C := RX3) (T := TX3) (N := 15) hx hb hts hinX3 hown hK.1 hP 0 rfl rfl 6 (by decide) hf100 (fun _ h9 => h9) rfl dX3_pass_51 ?_
        exact W.iret (v := (my + dz)) hx hb hr (fun tZ htZ hWZ => ⟨⟨_, (), rfl, rfl, by rw [htZ]; exact hP, by rw [hAe]; exact hD⟩, hS.F htZ⟩) hS.2.2 dX3_pass_54
      · exact absurd h9 c_31
    · exact absurd hz2 c_13
set_option maxHeartbeats 4000000 in
set_option maxRecDepth 100000 in
theorem c_X3_copy_f2 (l : Launch) (D : va_G) (md : Nat → Nat) (cI : ClassId) (th : Int32) (mK : Nat) (mc : Nat → Int32) (mD : Nat) (mr : Nat → Int32) (mw : Int32) (my : Int32) (mC : Nat) (mk : Nat → Int32) (ms : Nat → Int32) (mu : Nat → Int32) (mt : Nat → Int32) (mp : Nat → Int32) (mb : Nat → Int32) (me : Nat → Int32) (cx : Nat) (wh : Int32) (sz : Nat) (hC24 : mC ≤ 24) (hc : cx < mC) (hBad : ¬ jIn 5 wh = true) : Met l yX3_copy wsX3_copy ({ frames := 1, cells := 0, slots := 0, locals := 21 } : Room) (wrP [.ref (md 0), .int (nI cx), .int wh] D sz (wMd md cI th mK mc mD mr mw my mC mk ms mu mt mp mb me) [(cI, .int)]) (va_Qi (fun rZ (_ : Unit) => rZ = 0) (wrB D sz (wMd md cI th mK mc mD mr mw my mC mk ms mu mt mp mb me) (wMd md cI 1 mK mc mD mr mw my mC mk ms mu mt mp mb me)) (va_A (wMd md cI th mK mc mD mr mw my mC mk ms mu mt mp mb me) sz)) 0 0 (va_A (wMd md cI th mK mc mD mr mw my mC mk ms mu mt mp mb me) sz) := by
  refine Met.ofW (cc := cX3_copy) (maxL := 3) (ret := (some .int)) (by decide) rfl ?_
  intro p e s m args below meth c s₁ B hml hv
  obtain ⟨rfl, hsz, hP, hD0, hK⟩ := hv
  have hx := B.exec
  have hb := B.bytes
  have hr := B.returns
  have hts := atoms_spec (ws := wsX3_copy) B.pre
  have hown : s.vm.findClass RX3 = some m.cls := findClass_of_methodNamed B.named
  have hlocks := B.notSynchronized
  subst hsz
  have hD := hD0.self (sz := s.heap.size)
  generalize hAe : va_A (wMd md cI th mK mc mD mr mw my mC mk ms mu mt mp mb me) s.heap.size = A at hD ⊢
  have hA : ∀ q : Nat, s.heap.size ≤ q → A q := fun q h => by rw [← hAe]; exact Or.inr h
  have hinX3 : ∀ w ∈ u_ws RX3 TX3 15, w ∈ wsX3_copy := by decide +kernel
  have hf37 := hts (.fieldLink RX3 37 "KeyCabinetModel" "thrown" "I") (by decide +kernel)
  have hl := lv_entry ([.ref (md 0), .int (nI cx), .int wh]) (n := 3) (Nat.le_of_ble_eq_true rfl)
  rw [lg_entry_eq]
  generalize (lg_sl ([.ref (md 0), .int (nI cx), .int wh]) ++ List.replicate (3 - (lg_sl ([.ref (md 0), .int (nI cx), .int wh])).length) Slot.unset).toArray = ls at hl ⊢
  have hl : lv_has ls 3 [(0, .ref (md 0)), (1, .int (nI cx)), (2, .int wh)] := hl
  refine W.genH (fun H locs eH eL => ?_)
  have hS : va_S A s.heap H locs := by rw [eH, eL]; exact va_S.rf
  have hP : va_P D vwCl (wMd md cI th mK mc mD mr mw my mC mk ms mu mt mp mb me) H := by rw [eH]; exact hP
  clear eH eL
  refine lv_aload_n hx hb dX3_copy_0 rfl (lv_at hl 0 rfl) ?_
  refine lv_iconst (v := 0) hx hb dX3_copy_1 (by decide) ?_
  refine va_put (D := D) (ci := 3) (v := .int 0) (ty := .int) (C := RX3) (T := TX3) (N := 15) hx hb hts hinX3 tyX3 tyX3_ok nmX3 hown hK.1 hP hD hS 0 rfl rfl 0 (by decide) hf37 (fun _ h9 => h9) rfl (by decide +kernel) rfl rfl (Nat.le_of_ble_eq_true rfl) dX3_copy_2 (fun H locs hP hD hS => ?_)
  have hP : va_P D vwCl (wMd md cI 0 mK mc mD mr mw my mC mk ms mu mt mp mb me) H := hP
  have hD : va_D A (wMd md cI 0 mK mc mD mr mw my mC mk ms mu mt mp mb me) := hD
  refine lv_aload_n hx hb dX3_copy_5 rfl (lv_at hl 0 rfl) ?_
  refine lv_iload_n hx hb dX3_copy_6 rfl (lv_at hl 1 rfl) ?_
  refine kc_rVi (As := [.int (nI cx)]) (rest := []) ⟨hx, hb, hml, hown, hts⟩ (c_X3_isCopy l D md cI 0 mK mc mD mr mw my mC mk ms mu mt mp mb me (nI cx) ) (cwV 1 hts gX3_copy_X3_isCopy rfl rfl rfl (by decide +kernel) ⟨Nat.le_of_ble_eq_true rfl, Nat.le_of_ble_eq_true rfl⟩) hK hP [0, 1, 2, 3, 4, 5, 6, 7, 8, 9] [0] rfl rfl 0 rfl rfl rfl rfl hl.1 rfl (Nat.le_of_ble_eq_true rfl) dX3_copy_7 ⟨Nat.le_of_ble_eq_true rfl, Nat.le_of_ble_eq_true rfl⟩ ?_
  refine kc_ifeqB (tgt := 31) hx hb dX3_copy_10 (by decide) (fun c_10 => ?_) (fun c_10 => ?_)
  · exact absurd (jIn_ok hc (by omega)) c_10
  · refine lv_iload_n hx hb dX3_copy_13 rfl (lv_at hl 2 rfl) ?_
    refine lv_if_lt (tgt := 31) hx hb dX3_copy_14 (by decide) (fun c_14 => ?_) (fun c_14 => ?_)
    · refine lv_aload_n hx hb dX3_copy_31 rfl (lv_at hl 0 rfl) ?_
      refine lv_iconst (v := 1) hx hb dX3_copy_32 (by decide) ?_
      refine kc_wVi (w1 := wMd md cI 1 mK mc mD mr mw my mC mk ms mu mt mp mb me) (wr := []) (ws1 := wMd md cI 1 mK mc mD mr mw my mC mk ms mu mt mp mb me) (As := [.int 1]) (rest := []) ⟨hx, hb, hml, hown, hts⟩ (c_X3_fail l D md cI 0 mK mc mD mr mw my mC mk ms mu mt mp mb me 1 H.size ) (cwV 1 hts gX3_copy_X3_fail rfl rfl rfl (by decide +kernel) ⟨Nat.le_of_ble_eq_true rfl, Nat.le_of_ble_eq_true rfl⟩) hK hP hD hS hA [0, 1, 2, 3, 4, 5, 6, 7, 8, 9] [] [0, 1, 2, 3, 4, 5, 6, 7, 8, 9] [0] rfl rfl rfl rfl (by decide) rfl rfl rfl 0 rfl rfl rfl rfl hl.1 rfl (Nat.le_of_ble_eq_true rfl) dX3_copy_33 ⟨Nat.le_of_ble_eq_true rfl, Nat.le_of_ble_eq_true rfl⟩ (fun H locs hP hD hS => ?_)
      exact W.iret (v := 0) hx hb hr (fun tZ htZ hWZ => ⟨⟨_, (), rfl, rfl, by rw [htZ]; exact hP, by rw [hAe]; exact hD⟩, hS.F htZ⟩) hS.2.2 dX3_copy_36
    · refine lv_iload_n hx hb dX3_copy_17 rfl (lv_at hl 2 rfl) ?_
      refine lv_iconst (v := 4) hx hb dX3_copy_18 (by decide) ?_
      refine lv_icmp_gt (tgt := 31) hx hb dX3_copy_19 (by decide) (fun c_19 => ?_) (fun c_19 => ?_)
      · refine lv_aload_n hx hb dX3_copy_31 rfl (lv_at hl 0 rfl) ?_
        refine lv_iconst (v := 1) hx hb dX3_copy_32 (by decide) ?_
        refine kc_wVi (w1 := wMd md cI 1 mK mc mD mr mw my mC mk ms mu mt mp mb me) (wr := []) (ws1 := wMd md cI 1 mK mc mD mr mw my mC mk ms mu mt mp mb me) (As := [.int 1]) (rest := []) ⟨hx, hb, hml, hown, hts⟩ (c_X3_fail l D md cI 0 mK mc mD mr mw my mC mk ms mu mt mp mb me 1 H.size ) (cwV 1 hts gX3_copy_X3_fail rfl rfl rfl (by decide +kernel) ⟨Nat.le_of_ble_eq_true rfl, Nat.le_of_ble_eq_true rfl⟩) hK hP hD hS hA [0, 1, 2, 3, 4, 5, 6, 7, 8, 9] [] [0, 1, 2, 3, 4, 5, 6, 7, 8, 9] [0] rfl rfl rfl rfl (by decide) rfl rfl rfl 0 rfl rfl rfl rfl hl.1 rfl (Nat.le_of_ble_eq_true rfl) dX3_copy_33 ⟨Nat.le_of_ble_eq_true rfl, Nat.le_of_ble_eq_true rfl⟩ (fun H locs hP hD hS => ?_)
        exact W.iret (v := 0) hx hb hr (fun tZ htZ hWZ => ⟨⟨_, (), rfl, rfl, by rw [htZ]; exact hP, by rw [hAe]; exact hD⟩, hS.F htZ⟩) hS.2.2 dX3_copy_36
      · exact absurd (jIn_5 c_14 c_19) hBad
set_option maxHeartbeats 4000000 in
set_option maxRecDepth 100000 in
theorem c_X3_copy_ok (l : Launch) (D : va_G) (md : Nat → Nat) (cI : ClassId) (th : Int32) (mK : Nat) (mc : Nat → Int32) (mD : Nat) (mr : Nat → Int32) (mw : Int32) (my : Int32) (mC : Nat) (mk : Nat → Int32) (ms : Nat → Int32) (mu : Nat → Int32) (mt : Nat → Int32) (mp : Nat → Int32) (mb : Nat → Int32) (me : Nat → Int32) (cx : Nat) (q : Nat) (tn : Nat → Nat) (sz : Nat) (hC24 : mC ≤ 24) (hc : cx < mC) (hok : okLe ms mt tn) (hq : q < 5) : Met l yX3_copy wsX3_copy ({ frames := 1, cells := 0, slots := 0, locals := 23 } : Room) (wrP [.ref (md 0), .int (nI cx), .int (nI q)] D sz (wMd md cI th mK mc mD mr mw my mC mk ms mu mt mp mb me) [(cI, .int)]) (va_Qi (fun rZ (_ : Unit) => rZ = mTold mk ms mu mt mp tn cx (nI q)) (wrB D sz (wMd md cI th mK mc mD mr mw my mC mk ms mu mt mp mb me) (wMd md cI 0 mK mc mD mr mw my mC mk ms mu mt mp mb me)) (va_A (wMd md cI th mK mc mD mr mw my mC mk ms mu mt mp mb me) sz)) 0 0 (va_A (wMd md cI th mK mc mD mr mw my mC mk ms mu mt mp mb me) sz) := by
  refine Met.ofW (cc := cX3_copy) (maxL := 3) (ret := (some .int)) (by decide) rfl ?_
  intro p e s m args below meth c s₁ B hml hv
  obtain ⟨rfl, hsz, hP, hD0, hK⟩ := hv
  have hx := B.exec
  have hb := B.bytes
  have hr := B.returns
  have hts := atoms_spec (ws := wsX3_copy) B.pre
  have hown : s.vm.findClass RX3 = some m.cls := findClass_of_methodNamed B.named
  have hlocks := B.notSynchronized
  subst hsz
  have hD := hD0.self (sz := s.heap.size)
  generalize hAe : va_A (wMd md cI th mK mc mD mr mw my mC mk ms mu mt mp mb me) s.heap.size = A at hD ⊢
  have hA : ∀ q : Nat, s.heap.size ≤ q → A q := fun q h => by rw [← hAe]; exact Or.inr h
  have hinX3 : ∀ w ∈ u_ws RX3 TX3 15, w ∈ wsX3_copy := by decide +kernel
  have hf37 := hts (.fieldLink RX3 37 "KeyCabinetModel" "thrown" "I") (by decide +kernel)
  have hl := lv_entry ([.ref (md 0), .int (nI cx), .int (nI q)]) (n := 3) (Nat.le_of_ble_eq_true rfl)
  rw [lg_entry_eq]
  generalize (lg_sl ([.ref (md 0), .int (nI cx), .int (nI q)]) ++ List.replicate (3 - (lg_sl ([.ref (md 0), .int (nI cx), .int (nI q)])).length) Slot.unset).toArray = ls at hl ⊢
  have hl : lv_has ls 3 [(0, .ref (md 0)), (1, .int (nI cx)), (2, .int (nI q))] := hl
  refine W.genH (fun H locs eH eL => ?_)
  have hS : va_S A s.heap H locs := by rw [eH, eL]; exact va_S.rf
  have hP : va_P D vwCl (wMd md cI th mK mc mD mr mw my mC mk ms mu mt mp mb me) H := by rw [eH]; exact hP
  clear eH eL
  refine lv_aload_n hx hb dX3_copy_0 rfl (lv_at hl 0 rfl) ?_
  refine lv_iconst (v := 0) hx hb dX3_copy_1 (by decide) ?_
  refine va_put (D := D) (ci := 3) (v := .int 0) (ty := .int) (C := RX3) (T := TX3) (N := 15) hx hb hts hinX3 tyX3 tyX3_ok nmX3 hown hK.1 hP hD hS 0 rfl rfl 0 (by decide) hf37 (fun _ h9 => h9) rfl (by decide +kernel) rfl rfl (Nat.le_of_ble_eq_true rfl) dX3_copy_2 (fun H locs hP hD hS => ?_)
  have hP : va_P D vwCl (wMd md cI 0 mK mc mD mr mw my mC mk ms mu mt mp mb me) H := hP
  have hD : va_D A (wMd md cI 0 mK mc mD mr mw my mC mk ms mu mt mp mb me) := hD
  refine lv_aload_n hx hb dX3_copy_5 rfl (lv_at hl 0 rfl) ?_
  refine lv_iload_n hx hb dX3_copy_6 rfl (lv_at hl 1 rfl) ?_
  refine kc_rVi (As := [.int (nI cx)]) (rest := []) ⟨hx, hb, hml, hown, hts⟩ (c_X3_isCopy l D md cI 0 mK mc mD mr mw my mC mk ms mu mt mp mb me (nI cx) ) (cwV 1 hts gX3_copy_X3_isCopy rfl rfl rfl (by decide +kernel) ⟨Nat.le_of_ble_eq_true rfl, Nat.le_of_ble_eq_true rfl⟩) hK hP [0, 1, 2, 3, 4, 5, 6, 7, 8, 9] [0] rfl rfl 0 rfl rfl rfl rfl hl.1 rfl (Nat.le_of_ble_eq_true rfl) dX3_copy_7 ⟨Nat.le_of_ble_eq_true rfl, Nat.le_of_ble_eq_true rfl⟩ ?_
  refine kc_ifeqB (tgt := 31) hx hb dX3_copy_10 (by decide) (fun c_10 => ?_) (fun c_10 => ?_)
  · exact absurd (jIn_ok hc (by omega)) c_10
  · refine lv_iload_n hx hb dX3_copy_13 rfl (lv_at hl 2 rfl) ?_
    refine lv_if_lt (tgt := 31) hx hb dX3_copy_14 (by decide) (fun c_14 => ?_) (fun c_14 => ?_)
    · exact absurd c_14 (nI_pos (by omega))
    · refine lv_iload_n hx hb dX3_copy_17 rfl (lv_at hl 2 rfl) ?_
      refine lv_iconst (v := 4) hx hb dX3_copy_18 (by decide) ?_
      refine lv_icmp_gt (tgt := 31) hx hb dX3_copy_19 (by decide) (fun c_19 => ?_) (fun c_19 => ?_)
      · exact absurd c_19 (nI_nlt (a := 4) (by omega) (by omega))
      · refine lv_aload_n hx hb dX3_copy_22 rfl (lv_at hl 0 rfl) ?_
        refine lv_iload_n hx hb dX3_copy_23 rfl (lv_at hl 1 rfl) ?_
        refine lv_iload_n hx hb dX3_copy_24 rfl (lv_at hl 2 rfl) ?_
        refine kc_rVi (As := [.int (nI cx), .int (nI q)]) (rest := []) ⟨hx, hb, hml, hown, hts⟩ (c_X3_told l D md cI 0 mK mc mD mr mw my mC mk ms mu mt mp mb me tn cx (nI q) (by first | assumption | omega) hok) (cwV 2 hts gX3_copy_X3_told rfl rfl rfl (by decide +kernel) ⟨Nat.le_of_ble_eq_true rfl, Nat.le_of_ble_eq_true rfl⟩) hK hP [0, 1, 2, 3, 4, 5, 6, 7, 8, 9] [0] rfl rfl 0 rfl rfl rfl rfl hl.1 rfl (Nat.le_of_ble_eq_true rfl) dX3_copy_25 ⟨Nat.le_of_ble_eq_true rfl, Nat.le_of_ble_eq_true rfl⟩ ?_
        refine lv_goto (tgt := 36) hx hb dX3_copy_28 (by decide) ?_
        exact W.iret (v := mTold mk ms mu mt mp tn cx (nI q)) hx hb hr (fun tZ htZ hWZ => ⟨⟨_, (), rfl, rfl, by rw [htZ]; exact hP, by rw [hAe]; exact hD⟩, hS.F htZ⟩) hS.2.2 dX3_copy_36
set_option maxHeartbeats 4000000 in
set_option maxRecDepth 100000 in
theorem c_X3_overdue_ok (l : Launch) (D : va_G) (md : Nat → Nat) (cI : ClassId) (th : Int32) (mK : Nat) (mc : Nat → Int32) (mD : Nat) (mr : Nat → Int32) (mw : Int32) (my : Int32) (mC : Nat) (mk : Nat → Int32) (ms : Nat → Int32) (mu : Nat → Int32) (mt : Nat → Int32) (mp : Nat → Int32) (mb : Nat → Int32) (me : Nat → Int32) (sz : Nat) (hC24 : mC ≤ 24) : Met l yX3_overdue wsX3_overdue ({ frames := 0, cells := 0, slots := 0, locals := 0 } : Room) (wrP [.ref (md 0)] D sz (wMd md cI th mK mc mD mr mw my mC mk ms mu mt mp mb me) [(cI, .int)]) (va_Qi (fun rZ (_ : Unit) => rZ = mLate ms mu my mC) (wrB D sz (wMd md cI th mK mc mD mr mw my mC mk ms mu mt mp mb me) (wMd md cI 0 mK mc mD mr mw my mC mk ms mu mt mp mb me)) (va_A (wMd md cI th mK mc mD mr mw my mC mk ms mu mt mp mb me) sz)) 0 0 (va_A (wMd md cI th mK mc mD mr mw my mC mk ms mu mt mp mb me) sz) := by
  refine Met.ofW (cc := cX3_overdue) (maxL := 3) (ret := (some .int)) (by decide) rfl ?_
  intro p e s m args below meth c s₁ B hml hv
  obtain ⟨rfl, hsz, hP, hD0, hK⟩ := hv
  have hx := B.exec
  have hb := B.bytes
  have hr := B.returns
  have hts := atoms_spec (ws := wsX3_overdue) B.pre
  have hown : s.vm.findClass RX3 = some m.cls := findClass_of_methodNamed B.named
  have hlocks := B.notSynchronized
  subst hsz
  have hD := hD0.self (sz := s.heap.size)
  generalize hAe : va_A (wMd md cI th mK mc mD mr mw my mC mk ms mu mt mp mb me) s.heap.size = A at hD ⊢
  have hA : ∀ q : Nat, s.heap.size ≤ q → A q := fun q h => by rw [← hAe]; exact Or.inr h
  have hinX3 : ∀ w ∈ u_ws RX3 TX3 15, w ∈ wsX3_overdue := by decide +kernel
  have hf37 := hts (.fieldLink RX3 37 "KeyCabinetModel" "thrown" "I") (by decide +kernel)
  have hf47 := hts (.fieldLink RX3 47 "KeyCabinetModel" "copies" "I") (by decide +kernel)
  have hf19 := hts (.fieldLink RX3 19 "KeyCabinetModel" "states" "[I") (by decide +kernel)
  have hf100 := hts (.fieldLink RX3 100 "KeyCabinetModel" "day" "I") (by decide +kernel)
  have hf22 := hts (.fieldLink RX3 22 "KeyCabinetModel" "dues" "[I") (by decide +kernel)
  have hl := lv_entry ([.ref (md 0)]) (n := 3) (Nat.le_of_ble_eq_true rfl)
  rw [lg_entry_eq]
  generalize (lg_sl ([.ref (md 0)]) ++ List.replicate (3 - (lg_sl ([.ref (md 0)])).length) Slot.unset).toArray = ls at hl ⊢
  have hl : lv_has ls 3 [(0, .ref (md 0))] := hl
  refine W.genH (fun H locs eH eL => ?_)
  have hS : va_S A s.heap H locs := by rw [eH, eL]; exact va_S.rf
  have hP : va_P D vwCl (wMd md cI th mK mc mD mr mw my mC mk ms mu mt mp mb me) H := by rw [eH]; exact hP
  clear eH eL
  refine lv_aload_n hx hb dX3_overdue_0 rfl (lv_at hl 0 rfl) ?_
  refine lv_iconst (v := 0) hx hb dX3_overdue_1 (by decide) ?_
  refine va_put (D := D) (ci := 3) (v := .int 0) (ty := .int) (C := RX3) (T := TX3) (N := 15) hx hb hts hinX3 tyX3 tyX3_ok nmX3 hown hK.1 hP hD hS 0 rfl rfl 0 (by decide) hf37 (fun _ h9 => h9) rfl (by decide +kernel) rfl rfl (Nat.le_of_ble_eq_true rfl) dX3_overdue_2 (fun H locs hP hD hS => ?_)
  have hP : va_P D vwCl (wMd md cI 0 mK mc mD mr mw my mC mk ms mu mt mp mb me) H := hP
  have hD : va_D A (wMd md cI 0 mK mc mD mr mw my mC mk ms mu mt mp mb me) := hD
  refine lv_iconst (v := 0) hx hb dX3_overdue_5 (by decide) ?_
  refine lv_istore_n (lv' := [(1, .int 0), (0, .ref (md 0))]) hx hb dX3_overdue_6 rfl hl (by decide) rfl (fun ls hl => ?_)
  refine lv_iconst (v := 0) hx hb dX3_overdue_7 (by decide) ?_
  refine lv_istore_n (lv' := [(2, .int 0), (1, .int 0), (0, .ref (md 0))]) hx hb dX3_overdue_8 rfl hl (by decide) rfl (fun ls hl => ?_)
  refine kc_forW (pc := 9) (N := mC) (P := fun j ls => lv_has ls 3 [(2, .int (nI j)), (1, .int (mLate ms mu my j)), (0, .ref (md 0))]) (fun j ls hj_9 hp ih_9 => ?_) ls ?_
  · have hl := hp
    refine lv_iload_n hx hb dX3_overdue_9 rfl (lv_at hl 0 rfl) ?_
    refine lv_aload_n hx hb dX3_overdue_10 rfl (lv_at hl 2 rfl) ?_
    refine va_get (D := D) (ci := 3) (v := .int (nI mC)) (C := RX3) (T := TX3) (N := 15) hx hb hts hinX3 hown hK.1 hP 0 rfl rfl 7 (by decide) hf47 (fun _ h9 => h9) rfl dX3_overdue_11 ?_
    refine kc_tst (j := j) (N := mC) (tgt := 52) hx hb dX3_overdue_14 (by decide) hj_9 (by omega) (fun hN => ?_) (fun hlt_9 => ?_)
    · subst hN
      refine lv_iload_n hx hb dX3_overdue_52 rfl (lv_at hl 1 rfl) ?_
      exact W.iret (v := mLate ms mu my mC) hx hb hr (fun tZ htZ hWZ => ⟨⟨_, (), rfl, rfl, by rw [htZ]; exact hP, by rw [hAe]; exact hD⟩, hS.F htZ⟩) hS.2.2 dX3_overdue_53
    · refine lv_aload_n hx hb dX3_overdue_17 rfl (lv_at hl 2 rfl) ?_
      refine va_get (D := D) (ci := 3) (v := .ref (md 4)) (C := RX3) (T := TX3) (N := 15) hx hb hts hinX3 hown hK.1 hP 0 rfl rfl 9 (by decide) hf19 (fun _ h9 => h9) rfl dX3_overdue_18 ?_
      refine lv_iload_n hx hb dX3_overdue_21 rfl (lv_at hl 0 rfl) ?_
      refine kc_ald (i := j) (n := 24) hx hb hK hP 4 0 rfl rfl (by omega) (by decide) dX3_overdue_22 ?_
      refine lv_iconst (v := 1) hx hb dX3_overdue_23 (by decide) ?_
      refine lv_icmp_ne (tgt := 46) hx hb dX3_overdue_24 (by decide) (fun c_24 => ?_) (fun c_24 => ?_)
      · refine lv_iinc (v := nI (j + 1)) (lv' := [(2, .int (nI (j + 1))), (1, .int (mLate ms mu my j)), (0, .ref (md 0))]) hx hb dX3_overdue_46 hl (k := 0) rfl (kc_inc j) (by decide) rfl (fun ls hl => ?_)
        refine lv_goto (tgt := 9) hx hb dX3_overdue_49 (by decide) ?_
        refine ih_9 _ hlt_9 ?_
        have eq_1 : mLate ms mu my (j + 1) = mLate ms mu my j := by simp only [mLate, fo_s, if_neg c_24]
        show lv_has _ 3 [(2, .int (nI (j + 1))), (1, .int (mLate ms mu my (j + 1))), (0, .ref (md 0))]
        rw [eq_1]
        exact lv_sub hl [0, 1, 2] rfl
      · refine lv_aload_n hx hb dX3_overdue_27 rfl (lv_at hl 2 rfl) ?_
        refine va_get (D := D) (ci := 3) (v := .int my) (C := RX3) (T := TX3) (N := 15) hx hb hts hinX3 hown hK.1 hP 0 rfl rfl 6 (by decide) hf100 (fun _ h9 => h9) rfl dX3_overdue_28 ?_
        refine lv_aload_n hx hb dX3_overdue_31 rfl (lv_at hl 2 rfl) ?_
        refine va_get (D := D) (ci := 3) (v := .ref (md 5)) (C := RX3) (T := TX3) (N := 15) hx hb hts hinX3 hown hK.1 hP 0 rfl rfl 10 (by decide) hf22 (fun _ h9 => h9) rfl dX3_overdue_32 ?_
        refine lv_iload_n hx hb dX3_overdue_35 rfl (lv_at hl 0 rfl) ?_
        refine kc_ald (i := j) (n := 24) hx hb hK hP 5 0 rfl rfl (by omega) (by decide) dX3_overdue_36 ?_
        refine lv_icmp_le (tgt := 46) hx hb dX3_overdue_37 (by decide) (fun c_37 => ?_) (fun c_37 => ?_)
        · refine lv_iinc (v := nI (j + 1)) (lv' := [(2, .int (nI (j + 1))), (1, .int (mLate ms mu my j)), (0, .ref (md 0))]) hx hb dX3_overdue_46 hl (k := 0) rfl (kc_inc j) (by decide) rfl (fun ls hl => ?_)
          refine lv_goto (tgt := 9) hx hb dX3_overdue_49 (by decide) ?_
          refine ih_9 _ hlt_9 ?_
          have eq_1 : mLate ms mu my (j + 1) = mLate ms mu my j := by simp only [mLate, fo_s, if_pos c_24, if_pos c_37]
          show lv_has _ 3 [(2, .int (nI (j + 1))), (1, .int (mLate ms mu my (j + 1))), (0, .ref (md 0))]
          rw [eq_1]
          exact lv_sub hl [0, 1, 2] rfl
        · refine lv_iload_n hx hb dX3_overdue_40 rfl (lv_at hl 1 rfl) ?_
          refine lv_iconst (v := 1) hx hb dX3_overdue_41 (by decide) ?_
          refine lv_iload_n hx hb dX3_overdue_42 rfl (lv_at hl 0 rfl) ?_
          refine lv_ishl hx hb dX3_overdue_43 ?_
          refine lv_ior hx hb dX3_overdue_44 ?_
          refine lv_istore_n (lv' := [(1, .int ((mLate ms mu my j) ||| (1 <<< ((nI j) &&& 31)))), (2, .int (nI j)), (0, .ref (md 0))]) hx hb dX3_overdue_45 rfl hl (by decide) rfl (fun ls hl => ?_)
          refine lv_iinc (v := nI (j + 1)) (lv' := [(2, .int (nI (j + 1))), (1, .int ((mLate ms mu my j) ||| (1 <<< ((nI j) &&& 31)))), (0, .ref (md 0))]) hx hb dX3_overdue_46 hl (k := 1) rfl (kc_inc j) (by decide) rfl (fun ls hl => ?_)
          refine lv_goto (tgt := 9) hx hb dX3_overdue_49 (by decide) ?_
          refine ih_9 _ hlt_9 ?_
          have eq_1 : mLate ms mu my (j + 1) = (mLate ms mu my j) ||| (1 <<< ((nI j) &&& 31)) := by simp only [mLate, fo_s, if_pos c_24, if_neg c_37]
          show lv_has _ 3 [(2, .int (nI (j + 1))), (1, .int (mLate ms mu my (j + 1))), (0, .ref (md 0))]
          rw [eq_1]
          exact lv_sub hl [0, 1, 2] rfl
  · exact lv_sub hl [0, 1, 2] rfl
set_option maxHeartbeats 4000000 in
set_option maxRecDepth 100000 in
theorem c_X3_holderAt_f2 (l : Launch) (D : va_G) (md : Nat → Nat) (cI : ClassId) (th : Int32) (mK : Nat) (mc : Nat → Int32) (mD : Nat) (mr : Nat → Int32) (mw : Int32) (my : Int32) (mC : Nat) (mk : Nat → Int32) (ms : Nat → Int32) (mu : Nat → Int32) (mt : Nat → Int32) (mp : Nat → Int32) (mb : Nat → Int32) (me : Nat → Int32) (cx : Nat) (dy : Int32) (sz : Nat) (hC24 : mC ≤ 24) (hc : cx < mC) (hz : dy < 0 ∨ my < dy) : Met l yX3_holderAt wsX3_holderAt ({ frames := 1, cells := 0, slots := 0, locals := 21 } : Room) (wrP [.ref (md 0), .int (nI cx), .int dy] D sz (wMd md cI th mK mc mD mr mw my mC mk ms mu mt mp mb me) [(cI, .int)]) (va_Qi (fun rZ (_ : Unit) => rZ = 0) (wrB D sz (wMd md cI th mK mc mD mr mw my mC mk ms mu mt mp mb me) (wMd md cI 2 mK mc mD mr mw my mC mk ms mu mt mp mb me)) (va_A (wMd md cI th mK mc mD mr mw my mC mk ms mu mt mp mb me) sz)) 0 0 (va_A (wMd md cI th mK mc mD mr mw my mC mk ms mu mt mp mb me) sz) := by
  refine Met.ofW (cc := cX3_holderAt) (maxL := 6) (ret := (some .int)) (by decide) rfl ?_
  intro p e s m args below meth c s₁ B hml hv
  obtain ⟨rfl, hsz, hP, hD0, hK⟩ := hv
  have hx := B.exec
  have hb := B.bytes
  have hr := B.returns
  have hts := atoms_spec (ws := wsX3_holderAt) B.pre
  have hown : s.vm.findClass RX3 = some m.cls := findClass_of_methodNamed B.named
  have hlocks := B.notSynchronized
  subst hsz
  have hD := hD0.self (sz := s.heap.size)
  generalize hAe : va_A (wMd md cI th mK mc mD mr mw my mC mk ms mu mt mp mb me) s.heap.size = A at hD ⊢
  have hA : ∀ q : Nat, s.heap.size ≤ q → A q := fun q h => by rw [← hAe]; exact Or.inr h
  have hinX3 : ∀ w ∈ u_ws RX3 TX3 15, w ∈ wsX3_holderAt := by decide +kernel
  have hf37 := hts (.fieldLink RX3 37 "KeyCabinetModel" "thrown" "I") (by decide +kernel)
  have hf100 := hts (.fieldLink RX3 100 "KeyCabinetModel" "day" "I") (by decide +kernel)
  have hl := lv_entry ([.ref (md 0), .int (nI cx), .int dy]) (n := 6) (Nat.le_of_ble_eq_true rfl)
  rw [lg_entry_eq]
  generalize (lg_sl ([.ref (md 0), .int (nI cx), .int dy]) ++ List.replicate (6 - (lg_sl ([.ref (md 0), .int (nI cx), .int dy])).length) Slot.unset).toArray = ls at hl ⊢
  have hl : lv_has ls 6 [(0, .ref (md 0)), (1, .int (nI cx)), (2, .int dy)] := hl
  refine W.genH (fun H locs eH eL => ?_)
  have hS : va_S A s.heap H locs := by rw [eH, eL]; exact va_S.rf
  have hP : va_P D vwCl (wMd md cI th mK mc mD mr mw my mC mk ms mu mt mp mb me) H := by rw [eH]; exact hP
  clear eH eL
  refine lv_aload_n hx hb dX3_holderAt_0 rfl (lv_at hl 0 rfl) ?_
  refine lv_iconst (v := 0) hx hb dX3_holderAt_1 (by decide) ?_
  refine va_put (D := D) (ci := 3) (v := .int 0) (ty := .int) (C := RX3) (T := TX3) (N := 15) hx hb hts hinX3 tyX3 tyX3_ok nmX3 hown hK.1 hP hD hS 0 rfl rfl 0 (by decide) hf37 (fun _ h9 => h9) rfl (by decide +kernel) rfl rfl (Nat.le_of_ble_eq_true rfl) dX3_holderAt_2 (fun H locs hP hD hS => ?_)
  have hP : va_P D vwCl (wMd md cI 0 mK mc mD mr mw my mC mk ms mu mt mp mb me) H := hP
  have hD : va_D A (wMd md cI 0 mK mc mD mr mw my mC mk ms mu mt mp mb me) := hD
  refine lv_aload_n hx hb dX3_holderAt_5 rfl (lv_at hl 0 rfl) ?_
  refine lv_iload_n hx hb dX3_holderAt_6 rfl (lv_at hl 1 rfl) ?_
  refine kc_rVi (As := [.int (nI cx)]) (rest := []) ⟨hx, hb, hml, hown, hts⟩ (c_X3_isCopy l D md cI 0 mK mc mD mr mw my mC mk ms mu mt mp mb me (nI cx) ) (cwV 1 hts gX3_holderAt_X3_isCopy rfl rfl rfl (by decide +kernel) ⟨Nat.le_of_ble_eq_true rfl, Nat.le_of_ble_eq_true rfl⟩) hK hP [0, 1, 2, 3, 4, 5, 6, 7, 8, 9] [0] rfl rfl 0 rfl rfl rfl rfl hl.1 rfl (Nat.le_of_ble_eq_true rfl) dX3_holderAt_7 ⟨Nat.le_of_ble_eq_true rfl, Nat.le_of_ble_eq_true rfl⟩ ?_
  refine kc_ifneB (tgt := 19) hx hb dX3_holderAt_10 (by decide) (fun c_10 => ?_) (fun c_10 => ?_)
  · refine lv_iload_n hx hb dX3_holderAt_19 rfl (lv_at hl 2 rfl) ?_
    refine lv_if_lt (tgt := 31) hx hb dX3_holderAt_20 (by decide) (fun c_20 => ?_) (fun c_20 => ?_)
    · refine lv_aload_n hx hb dX3_holderAt_31 rfl (lv_at hl 0 rfl) ?_
      refine lv_iconst (v := 2) hx hb dX3_holderAt_32 (by decide) ?_
      refine kc_wVi (w1 := wMd md cI 2 mK mc mD mr mw my mC mk ms mu mt mp mb me) (wr := []) (ws1 := wMd md cI 2 mK mc mD mr mw my mC mk ms mu mt mp mb me) (As := [.int 2]) (rest := []) ⟨hx, hb, hml, hown, hts⟩ (c_X3_fail l D md cI 0 mK mc mD mr mw my mC mk ms mu mt mp mb me 2 H.size ) (cwV 1 hts gX3_holderAt_X3_fail rfl rfl rfl (by decide +kernel) ⟨Nat.le_of_ble_eq_true rfl, Nat.le_of_ble_eq_true rfl⟩) hK hP hD hS hA [0, 1, 2, 3, 4, 5, 6, 7, 8, 9] [] [0, 1, 2, 3, 4, 5, 6, 7, 8, 9] [0] rfl rfl rfl rfl (by decide) rfl rfl rfl 0 rfl rfl rfl rfl hl.1 rfl (Nat.le_of_ble_eq_true rfl) dX3_holderAt_33 ⟨Nat.le_of_ble_eq_true rfl, Nat.le_of_ble_eq_true rfl⟩ (fun H locs hP hD hS => ?_)
      exact W.iret (v := 0) hx hb hr (fun tZ htZ hWZ => ⟨⟨_, (), rfl, rfl, by rw [htZ]; exact hP, by rw [hAe]; exact hD⟩, hS.F htZ⟩) hS.2.2 dX3_holderAt_36
    · refine lv_iload_n hx hb dX3_holderAt_23 rfl (lv_at hl 2 rfl) ?_
      refine lv_aload_n hx hb dX3_holderAt_24 rfl (lv_at hl 0 rfl) ?_
      refine va_get (D := D) (ci := 3) (v := .int my) (C := RX3) (T := TX3) (N := 15) hx hb hts hinX3 hown hK.1 hP 0 rfl rfl 6 (by decide) hf100 (fun _ h9 => h9) rfl dX3_holderAt_25 ?_
      refine lv_icmp_le (tgt := 37) hx hb dX3_holderAt_28 (by decide) (fun c_28 => ?_) (fun c_28 => ?_)
      · exact hz.elim (fun h => absurd h c_20) (fun h => absurd c_28 (kc_nle h))
      · refine lv_aload_n hx hb dX3_holderAt_31 rfl (lv_at hl 0 rfl) ?_
        refine lv_iconst (v := 2) hx hb dX3_holderAt_32 (by decide) ?_
        refine kc_wVi (w1 := wMd md cI 2 mK mc mD mr mw my mC mk ms mu mt mp mb me) (wr := []) (ws1 := wMd md cI 2 mK mc mD mr mw my mC mk ms mu mt mp mb me) (As := [.int 2]) (rest := []) ⟨hx, hb, hml, hown, hts⟩ (c_X3_fail l D md cI 0 mK mc mD mr mw my mC mk ms mu mt mp mb me 2 H.size ) (cwV 1 hts gX3_holderAt_X3_fail rfl rfl rfl (by decide +kernel) ⟨Nat.le_of_ble_eq_true rfl, Nat.le_of_ble_eq_true rfl⟩) hK hP hD hS hA [0, 1, 2, 3, 4, 5, 6, 7, 8, 9] [] [0, 1, 2, 3, 4, 5, 6, 7, 8, 9] [0] rfl rfl rfl rfl (by decide) rfl rfl rfl 0 rfl rfl rfl rfl hl.1 rfl (Nat.le_of_ble_eq_true rfl) dX3_holderAt_33 ⟨Nat.le_of_ble_eq_true rfl, Nat.le_of_ble_eq_true rfl⟩ (fun H locs hP hD hS => ?_)
        exact W.iret (v := 0) hx hb hr (fun tZ htZ hWZ => ⟨⟨_, (), rfl, rfl, by rw [htZ]; exact hP, by rw [hAe]; exact hD⟩, hS.F htZ⟩) hS.2.2 dX3_holderAt_36
  · exact absurd (jIn_ok hc (by omega)) c_10
set_option maxHeartbeats 4000000 in
set_option maxRecDepth 100000 in
theorem c_X3_holderAt_ok (l : Launch) (D : va_G) (md : Nat → Nat) (cI : ClassId) (th : Int32) (mK : Nat) (mc : Nat → Int32) (mD : Nat) (mr : Nat → Int32) (mw : Int32) (my : Int32) (mC : Nat) (mk : Nat → Int32) (ms : Nat → Int32) (mu : Nat → Int32) (mt : Nat → Int32) (mp : Nat → Int32) (mb : Nat → Int32) (me : Nat → Int32) (cx : Nat) (dy : Int32) (tn : Nat → Nat) (sz : Nat) (hC24 : mC ≤ 24) (hc : cx < mC) (hok : okLe ms mt tn) (hz1 : ¬ dy < 0) (hz2 : dy ≤ my) : Met l yX3_holderAt wsX3_holderAt ({ frames := 1, cells := 0, slots := 0, locals := 21 } : Room) (wrP [.ref (md 0), .int (nI cx), .int dy] D sz (wMd md cI th mK mc mD mr mw my mC mk ms mu mt mp mb me) [(cI, .int)]) (va_Qi (fun rZ (_ : Unit) => rZ = mHolderAt mp mb me cx dy (tn cx)) (wrB D sz (wMd md cI th mK mc mD mr mw my mC mk ms mu mt mp mb me) (wMd md cI 0 mK mc mD mr mw my mC mk ms mu mt mp mb me)) (va_A (wMd md cI th mK mc mD mr mw my mC mk ms mu mt mp mb me) sz)) 0 0 (va_A (wMd md cI th mK mc mD mr mw my mC mk ms mu mt mp mb me) sz) := by
  refine Met.ofW (cc := cX3_holderAt) (maxL := 6) (ret := (some .int)) (by decide) rfl ?_
  intro p e s m args below meth c s₁ B hml hv
  obtain ⟨rfl, hsz, hP, hD0, hK⟩ := hv
  have hx := B.exec
  have hb := B.bytes
  have hr := B.returns
  have hts := atoms_spec (ws := wsX3_holderAt) B.pre
  have hown : s.vm.findClass RX3 = some m.cls := findClass_of_methodNamed B.named
  have hlocks := B.notSynchronized
  subst hsz
  have hD := hD0.self (sz := s.heap.size)
  generalize hAe : va_A (wMd md cI th mK mc mD mr mw my mC mk ms mu mt mp mb me) s.heap.size = A at hD ⊢
  have hA : ∀ q : Nat, s.heap.size ≤ q → A q := fun q h => by rw [← hAe]; exact Or.inr h
  have hinX3 : ∀ w ∈ u_ws RX3 TX3 15, w ∈ wsX3_holderAt := by decide +kernel
  have hf37 := hts (.fieldLink RX3 37 "KeyCabinetModel" "thrown" "I") (by decide +kernel)
  have hf100 := hts (.fieldLink RX3 100 "KeyCabinetModel" "day" "I") (by decide +kernel)
  have hf25 := hts (.fieldLink RX3 25 "KeyCabinetModel" "times" "[I") (by decide +kernel)
  have hf31 := hts (.fieldLink RX3 31 "KeyCabinetModel" "begins" "[I") (by decide +kernel)
  have hf34 := hts (.fieldLink RX3 34 "KeyCabinetModel" "ends" "[I") (by decide +kernel)
  have hf28 := hts (.fieldLink RX3 28 "KeyCabinetModel" "persons" "[I") (by decide +kernel)
  have hokc := hok cx (by omega)
  have hl := lv_entry ([.ref (md 0), .int (nI cx), .int dy]) (n := 6) (Nat.le_of_ble_eq_true rfl)
  rw [lg_entry_eq]
  generalize (lg_sl ([.ref (md 0), .int (nI cx), .int dy]) ++ List.replicate (6 - (lg_sl ([.ref (md 0), .int (nI cx), .int dy])).length) Slot.unset).toArray = ls at hl ⊢
  have hl : lv_has ls 6 [(0, .ref (md 0)), (1, .int (nI cx)), (2, .int dy)] := hl
  refine W.genH (fun H locs eH eL => ?_)
  have hS : va_S A s.heap H locs := by rw [eH, eL]; exact va_S.rf
  have hP : va_P D vwCl (wMd md cI th mK mc mD mr mw my mC mk ms mu mt mp mb me) H := by rw [eH]; exact hP
  clear eH eL
  refine lv_aload_n hx hb dX3_holderAt_0 rfl (lv_at hl 0 rfl) ?_
  refine lv_iconst (v := 0) hx hb dX3_holderAt_1 (by decide) ?_
  refine va_put (D := D) (ci := 3) (v := .int 0) (ty := .int) (C := RX3) (T := TX3) (N := 15) hx hb hts hinX3 tyX3 tyX3_ok nmX3 hown hK.1 hP hD hS 0 rfl rfl 0 (by decide) hf37 (fun _ h9 => h9) rfl (by decide +kernel) rfl rfl (Nat.le_of_ble_eq_true rfl) dX3_holderAt_2 (fun H locs hP hD hS => ?_)
  have hP : va_P D vwCl (wMd md cI 0 mK mc mD mr mw my mC mk ms mu mt mp mb me) H := hP
  have hD : va_D A (wMd md cI 0 mK mc mD mr mw my mC mk ms mu mt mp mb me) := hD
  refine lv_aload_n hx hb dX3_holderAt_5 rfl (lv_at hl 0 rfl) ?_
  refine lv_iload_n hx hb dX3_holderAt_6 rfl (lv_at hl 1 rfl) ?_
  refine kc_rVi (As := [.int (nI cx)]) (rest := []) ⟨hx, hb, hml, hown, hts⟩ (c_X3_isCopy l D md cI 0 mK mc mD mr mw my mC mk ms mu mt mp mb me (nI cx) ) (cwV 1 hts gX3_holderAt_X3_isCopy rfl rfl rfl (by decide +kernel) ⟨Nat.le_of_ble_eq_true rfl, Nat.le_of_ble_eq_true rfl⟩) hK hP [0, 1, 2, 3, 4, 5, 6, 7, 8, 9] [0] rfl rfl 0 rfl rfl rfl rfl hl.1 rfl (Nat.le_of_ble_eq_true rfl) dX3_holderAt_7 ⟨Nat.le_of_ble_eq_true rfl, Nat.le_of_ble_eq_true rfl⟩ ?_
  refine kc_ifneB (tgt := 19) hx hb dX3_holderAt_10 (by decide) (fun c_10 => ?_) (fun c_10 => ?_)
  · refine lv_iload_n hx hb dX3_holderAt_19 rfl (lv_at hl 2 rfl) ?_
    refine lv_if_lt (tgt := 31) hx hb dX3_holderAt_20 (by decide) (fun c_20 => ?_) (fun c_20 => ?_)
    · exact absurd c_20 hz1
    · refine lv_iload_n hx hb dX3_holderAt_23 rfl (lv_at hl 2 rfl) ?_
      refine lv_aload_n hx hb dX3_holderAt_24 rfl (lv_at hl 0 rfl) ?_
      refine va_get (D := D) (ci := 3) (v := .int my) (C := RX3) (T := TX3) (N := 15) hx hb hts hinX3 hown hK.1 hP 0 rfl rfl 6 (by decide) hf100 (fun _ h9 => h9) rfl dX3_holderAt_25 ?_
      refine lv_icmp_le (tgt := 37) hx hb dX3_holderAt_28 (by decide) (fun c_28 => ?_) (fun c_28 => ?_)
      · refine lv_iconst (v := (-1)) hx hb dX3_holderAt_37 (by decide) ?_
        refine lv_istore_n (lv' := [(3, .int (-1)), (0, .ref (md 0)), (1, .int (nI cx)), (2, .int dy)]) hx hb dX3_holderAt_38 rfl hl (by decide) rfl (fun ls hl => ?_)
        refine lv_iconst (v := 0) hx hb dX3_holderAt_39 (by decide) ?_
        refine lv_istore (lv' := [(4, .int 0), (3, .int (-1)), (0, .ref (md 0)), (1, .int (nI cx)), (2, .int dy)]) hx hb dX3_holderAt_40 hl (by decide) rfl (fun ls hl => ?_)
        refine kc_forW (pc := 42) (N := tn cx) (P := fun j ls => lv_has ls 6 [(4, .int (nI j)), (3, .int (mHolderAt mp mb me cx dy j)), (0, .ref (md 0)), (1, .int (nI cx)), (2, .int dy)]) (fun j ls hj_42 hp ih_42 => ?_) ls ?_
        · have hl := hp
          refine lv_iload hx hb dX3_holderAt_42 (lv_at hl 0 rfl) ?_
          refine lv_aload_n hx hb dX3_holderAt_44 rfl (lv_at hl 2 rfl) ?_
          refine va_get (D := D) (ci := 3) (v := .ref (md 6)) (C := RX3) (T := TX3) (N := 15) hx hb hts hinX3 hown hK.1 hP 0 rfl rfl 11 (by decide) hf25 (fun _ h9 => h9) rfl dX3_holderAt_45 ?_
          refine lv_iload_n hx hb dX3_holderAt_48 rfl (lv_at hl 3 rfl) ?_
          refine kc_ald (i := cx) (n := 24) hx hb hK hP 6 0 rfl rfl (by omega) (by decide) dX3_holderAt_49 ?_
          refine kc_top (show mt cx = nI (tn cx) from hokc.1) ?_
          refine kc_tst (j := j) (N := tn cx) (tgt := 109) hx hb dX3_holderAt_50 (by decide) hj_42 (by omega) (fun hN => ?_) (fun hlt_42 => ?_)
          · subst hN
            refine lv_iload_n hx hb dX3_holderAt_109 rfl (lv_at hl 1 rfl) ?_
            exact W.iret (v := mHolderAt mp mb me cx dy (tn cx)) hx hb hr (fun tZ htZ hWZ => ⟨⟨_, (), rfl, rfl, by rw [htZ]; exact hP, by rw [hAe]; exact hD⟩, hS.F htZ⟩) hS.2.2 dX3_holderAt_110
          · refine lv_bipush (v := 9) hx hb dX3_holderAt_53 (by decide) ?_
            refine lv_iload_n hx hb dX3_holderAt_55 rfl (lv_at hl 3 rfl) ?_
            refine lv_imul hx hb dX3_holderAt_56 ?_
            refine kc_top (show 9 * (nI cx) = nI (cx * 9) from kc_9 cx) ?_
            refine lv_iload hx hb dX3_holderAt_57 (lv_at hl 0 rfl) ?_
            refine lv_iadd hx hb dX3_holderAt_59 ?_
            refine kc_top (show (nI (cx * 9)) + (nI j) = nI ((cx * 9) + j) from nI_add _ _) ?_
            refine lv_istore (lv' := [(5, .int (nI ((cx * 9) + j))), (4, .int (nI j)), (3, .int (mHolderAt mp mb me cx dy j)), (0, .ref (md 0)), (1, .int (nI cx)), (2, .int dy)]) hx hb dX3_holderAt_60 hl (by decide) rfl (fun ls hl => ?_)
            refine lv_aload_n hx hb dX3_holderAt_62 rfl (lv_at hl 3 rfl) ?_
            refine va_get (D := D) (ci := 3) (v := .ref (md 8)) (C := RX3) (T := TX3) (N := 15) hx hb hts hinX3 hown hK.1 hP 0 rfl rfl 13 (by decide) hf31 (fun _ h9 => h9) rfl dX3_holderAt_63 ?_
            refine lv_iload hx hb dX3_holderAt_66 (lv_at hl 0 rfl) ?_
            refine kc_ald (i := ((cx * 9) + j)) (n := 216) hx hb hK hP 8 0 rfl rfl (by omega) (by decide) dX3_holderAt_68 ?_
            refine lv_iload_n hx hb dX3_holderAt_69 rfl (lv_at hl 5 rfl) ?_
            refine lv_icmp_gt (tgt := 103) hx hb dX3_holderAt_70 (by decide) (fun c_70 => ?_) (fun c_70 => ?_)
            · refine lv_iinc (v := nI (j + 1)) (lv' := [(4, .int (nI (j + 1))), (5, .int (nI ((cx * 9) + j))), (3, .int (mHolderAt mp mb me cx dy j)), (0, .ref (md 0)), (1, .int (nI cx)), (2, .int dy)]) hx hb dX3_holderAt_103 hl (k := 1) rfl (kc_inc j) (by decide) rfl (fun ls hl => ?_)
              refine lv_goto (tgt := 42) hx hb dX3_holderAt_106 (by decide) ?_
              refine ih_42 _ hlt_42 ?_
              have eq_3 : mHolderAt mp mb me cx dy (j + 1) = mHolderAt mp mb me cx dy j := by simp only [mHolderAt, fo_s, if_pos c_10, if_neg c_20, if_pos c_28, if_pos c_70]
              show lv_has _ 6 [(4, .int (nI (j + 1))), (3, .int (mHolderAt mp mb me cx dy (j + 1))), (0, .ref (md 0)), (1, .int (nI cx)), (2, .int dy)]
              rw [eq_3]
              exact lv_sub hl [0, 2, 3, 4, 5] rfl
            · refine lv_aload_n hx hb dX3_holderAt_73 rfl (lv_at hl 3 rfl) ?_
              refine va_get (D := D) (ci := 3) (v := .ref (md 9)) (C := RX3) (T := TX3) (N := 15) hx hb hts hinX3 hown hK.1 hP 0 rfl rfl 14 (by decide) hf34 (fun _ h9 => h9) rfl dX3_holderAt_74 ?_
              refine lv_iload hx hb dX3_holderAt_77 (lv_at hl 0 rfl) ?_
              refine kc_ald (i := ((cx * 9) + j)) (n := 216) hx hb hK hP 9 0 rfl rfl (by omega) (by decide) dX3_holderAt_79 ?_
              refine lv_iconst (v := (-1)) hx hb dX3_holderAt_80 (by decide) ?_
              refine lv_icmp_eq (tgt := 95) hx hb dX3_holderAt_81 (by decide) (fun c_81 => ?_) (fun c_81 => ?_)
              · refine lv_aload_n hx hb dX3_holderAt_95 rfl (lv_at hl 3 rfl) ?_
                refine va_get (D := D) (ci := 3) (v := .ref (md 7)) (C := RX3) (T := TX3) (N := 15) hx hb hts hinX3 hown hK.1 hP 0 rfl rfl 12 (by decide) hf28 (fun _ h9 => h9) rfl dX3_holderAt_96 ?_
                refine lv_iload hx hb dX3_holderAt_99 (lv_at hl 0 rfl) ?_
                refine kc_ald (i := ((cx * 9) + j)) (n := 216) hx hb hK hP 7 0 rfl rfl (by omega) (by decide) dX3_holderAt_101 ?_
                refine lv_istore_n (lv' := [(3, .int (mp ((cx * 9) + j))), (5, .int (nI ((cx * 9) + j))), (4, .int (nI j)), (0, .ref (md 0)), (1, .int (nI cx)), (2, .int dy)]) hx hb dX3_holderAt_102 rfl hl (by decide) rfl (fun ls hl => ?_)
                refine lv_iinc (v := nI (j + 1)) (lv' := [(4, .int (nI (j + 1))), (3, .int (mp ((cx * 9) + j))), (5, .int (nI ((cx * 9) + j))), (0, .ref (md 0)), (1, .int (nI cx)), (2, .int dy)]) hx hb dX3_holderAt_103 hl (k := 2) rfl (kc_inc j) (by decide) rfl (fun ls hl => ?_)
                refine lv_goto (tgt := 42) hx hb dX3_holderAt_106 (by decide) ?_
                refine ih_42 _ hlt_42 ?_
                have eq_3 : mHolderAt mp mb me cx dy (j + 1) = mp ((cx * 9) + j) := by simp only [mHolderAt, fo_s, if_pos c_10, if_neg c_20, if_pos c_28, if_neg c_70, if_pos c_81]
                show lv_has _ 6 [(4, .int (nI (j + 1))), (3, .int (mHolderAt mp mb me cx dy (j + 1))), (0, .ref (md 0)), (1, .int (nI cx)), (2, .int dy)]
                rw [eq_3]
                exact lv_sub hl [0, 1, 3, 4, 5] rfl
              · refine lv_iload_n hx hb dX3_holderAt_84 rfl (lv_at hl 5 rfl) ?_
                refine lv_aload_n hx hb dX3_holderAt_85 rfl (lv_at hl 3 rfl) ?_
                refine va_get (D := D) (ci := 3) (v := .ref (md 9)) (C := RX3) (T := TX3) (N := 15) hx hb hts hinX3 hown hK.1 hP 0 rfl rfl 14 (by decide) hf34 (fun _ h9 => h9) rfl dX3_holderAt_86 ?_
                refine lv_iload hx hb dX3_holderAt_89 (lv_at hl 0 rfl) ?_
                refine kc_ald (i := ((cx * 9) + j)) (n := 216) hx hb hK hP 9 0 rfl rfl (by omega) (by decide) dX3_holderAt_91 ?_
                refine lv_icmp_ge (tgt := 103) hx hb dX3_holderAt_92 (by decide) (fun c_92 => ?_) (fun c_92 => ?_)
                · refine lv_iinc (v := nI (j + 1)) (lv' := [(4, .int (nI (j + 1))), (5, .int (nI ((cx * 9) + j))), (3, .int (mHolderAt mp mb me cx dy j)), (0, .ref (md 0)), (1, .int (nI cx)), (2, .int dy)]) hx hb dX3_holderAt_103 hl (k := 1) rfl (kc_inc j) (by decide) rfl (fun ls hl => ?_)
                  refine lv_goto (tgt := 42) hx hb dX3_holderAt_106 (by decide) ?_
                  refine ih_42 _ hlt_42 ?_
                  have eq_3 : mHolderAt mp mb me cx dy (j + 1) = mHolderAt mp mb me cx dy j := by simp only [mHolderAt, fo_s, if_pos c_10, if_neg c_20, if_pos c_28, if_neg c_70, if_neg c_81, if_pos c_92]
                  show lv_has _ 6 [(4, .int (nI (j + 1))), (3, .int (mHolderAt mp mb me cx dy (j + 1))), (0, .ref (md 0)), (1, .int (nI cx)), (2, .int dy)]
                  rw [eq_3]
                  exact lv_sub hl [0, 2, 3, 4, 5] rfl
                · refine lv_aload_n hx hb dX3_holderAt_95 rfl (lv_at hl 3 rfl) ?_
                  refine va_get (D := D) (ci := 3) (v := .ref (md 7)) (C := RX3) (T := TX3) (N := 15) hx hb hts hinX3 hown hK.1 hP 0 rfl rfl 12 (by decide) hf28 (fun _ h9 => h9) rfl dX3_holderAt_96 ?_
                  refine lv_iload hx hb dX3_holderAt_99 (lv_at hl 0 rfl) ?_
                  refine kc_ald (i := ((cx * 9) + j)) (n := 216) hx hb hK hP 7 0 rfl rfl (by omega) (by decide) dX3_holderAt_101 ?_
                  refine lv_istore_n (lv' := [(3, .int (mp ((cx * 9) + j))), (5, .int (nI ((cx * 9) + j))), (4, .int (nI j)), (0, .ref (md 0)), (1, .int (nI cx)), (2, .int dy)]) hx hb dX3_holderAt_102 rfl hl (by decide) rfl (fun ls hl => ?_)
                  refine lv_iinc (v := nI (j + 1)) (lv' := [(4, .int (nI (j + 1))), (3, .int (mp ((cx * 9) + j))), (5, .int (nI ((cx * 9) + j))), (0, .ref (md 0)), (1, .int (nI cx)), (2, .int dy)]) hx hb dX3_holderAt_103 hl (k := 2) rfl (kc_inc j) (by decide) rfl (fun ls hl => ?_)
                  refine lv_goto (tgt := 42) hx hb dX3_holderAt_106 (by decide) ?_
                  refine ih_42 _ hlt_42 ?_
                  have eq_3 : mHolderAt mp mb me cx dy (j + 1) = mp ((cx * 9) + j) := by simp only [mHolderAt, fo_s, if_pos c_10, if_neg c_20, if_pos c_28, if_neg c_70, if_neg c_81, if_neg c_92]
                  show lv_has _ 6 [(4, .int (nI (j + 1))), (3, .int (mHolderAt mp mb me cx dy (j + 1))), (0, .ref (md 0)), (1, .int (nI cx)), (2, .int dy)]
                  rw [eq_3]
                  exact lv_sub hl [0, 1, 3, 4, 5] rfl
        · exact lv_sub hl [0, 1, 2, 3, 4] rfl
      · exact absurd hz2 c_28
  · exact absurd (jIn_ok hc (by omega)) c_10
set_option maxHeartbeats 4000000 in
set_option maxRecDepth 100000 in
theorem c_X3_reach_ok (l : Launch) (D : va_G) (md : Nat → Nat) (cI : ClassId) (th : Int32) (mK : Nat) (mc : Nat → Int32) (mD : Nat) (mr : Nat → Int32) (mw : Int32) (my : Int32) (mC : Nat) (mk : Nat → Int32) (ms : Nat → Int32) (mu : Nat → Int32) (mt : Nat → Int32) (mp : Nat → Int32) (mb : Nat → Int32) (me : Nat → Int32) (pe : Int32) (tn : Nat → Nat) (kn : Nat → Nat) (sz : Nat) (hK8 : mK ≤ 8) (hD8 : mD ≤ 8) (hC24 : mC ≤ 24) (hkn : okKe mC mk kn) (hok : okLe ms mt tn) (hp : jIn 8 pe = true) : Met l yX3_reach wsX3_reach ({ frames := 5, cells := 0, slots := 0, locals := 115 } : Room) (wrP [.ref (md 0), .int pe] D sz (wMd md cI th mK mc mD mr mw my mC mk ms mu mt mp mb me) [(cI, .int)]) (va_Qi (fun rZ (_ : Unit) => rZ = mReach mr mc mk ms mu mt mp mK mD kn tn pe mC) (wrB D sz (wMd md cI th mK mc mD mr mw my mC mk ms mu mt mp mb me) (wMd md cI 0 mK mc mD mr mw my mC mk ms mu mt mp mb me)) (va_A (wMd md cI th mK mc mD mr mw my mC mk ms mu mt mp mb me) sz)) 0 0 (va_A (wMd md cI th mK mc mD mr mw my mC mk ms mu mt mp mb me) sz) := by
  refine Met.ofW (cc := cX3_reach) (maxL := 2) (ret := (some .int)) (by decide) rfl ?_
  intro p e s m args below meth c s₁ B hml hv
  obtain ⟨rfl, hsz, hP, hD0, hK⟩ := hv
  have hx := B.exec
  have hb := B.bytes
  have hr := B.returns
  have hts := atoms_spec (ws := wsX3_reach) B.pre
  have hown : s.vm.findClass RX3 = some m.cls := findClass_of_methodNamed B.named
  have hlocks := B.notSynchronized
  subst hsz
  have hD := hD0.self (sz := s.heap.size)
  generalize hAe : va_A (wMd md cI th mK mc mD mr mw my mC mk ms mu mt mp mb me) s.heap.size = A at hD ⊢
  have hA : ∀ q : Nat, s.heap.size ≤ q → A q := fun q h => by rw [← hAe]; exact Or.inr h
  have hinX3 : ∀ w ∈ u_ws RX3 TX3 15, w ∈ wsX3_reach := by decide +kernel
  have hf37 := hts (.fieldLink RX3 37 "KeyCabinetModel" "thrown" "I") (by decide +kernel)
  have hl := lv_entry ([.ref (md 0), .int pe]) (n := 2) (Nat.le_of_ble_eq_true rfl)
  rw [lg_entry_eq]
  generalize (lg_sl ([.ref (md 0), .int pe]) ++ List.replicate (2 - (lg_sl ([.ref (md 0), .int pe])).length) Slot.unset).toArray = ls at hl ⊢
  have hl : lv_has ls 2 [(0, .ref (md 0)), (1, .int pe)] := hl
  refine W.genH (fun H locs eH eL => ?_)
  have hS : va_S A s.heap H locs := by rw [eH, eL]; exact va_S.rf
  have hP : va_P D vwCl (wMd md cI th mK mc mD mr mw my mC mk ms mu mt mp mb me) H := by rw [eH]; exact hP
  clear eH eL
  refine lv_aload_n hx hb dX3_reach_0 rfl (lv_at hl 0 rfl) ?_
  refine lv_iconst (v := 0) hx hb dX3_reach_1 (by decide) ?_
  refine va_put (D := D) (ci := 3) (v := .int 0) (ty := .int) (C := RX3) (T := TX3) (N := 15) hx hb hts hinX3 tyX3 tyX3_ok nmX3 hown hK.1 hP hD hS 0 rfl rfl 0 (by decide) hf37 (fun _ h9 => h9) rfl (by decide +kernel) rfl rfl (Nat.le_of_ble_eq_true rfl) dX3_reach_2 (fun H locs hP hD hS => ?_)
  have hP : va_P D vwCl (wMd md cI 0 mK mc mD mr mw my mC mk ms mu mt mp mb me) H := hP
  have hD : va_D A (wMd md cI 0 mK mc mD mr mw my mC mk ms mu mt mp mb me) := hD
  refine lv_iload_n hx hb dX3_reach_5 rfl (lv_at hl 1 rfl) ?_
  refine kc_rSi (As := [.int pe]) (rest := []) ⟨hx, hb, hml, hown, hts⟩ (c_X3_isPerson l pe ) (va_cwS 1 hts gX3_reach_X3_isPerson rfl rfl rfl (by decide +kernel) ⟨Nat.le_of_ble_eq_true rfl, Nat.le_of_ble_eq_true rfl⟩) rfl hl.1 rfl (Nat.le_of_ble_eq_true rfl) dX3_reach_6 ⟨Nat.le_of_ble_eq_true rfl, Nat.le_of_ble_eq_true rfl⟩ ?_
  refine kc_ifeqB (tgt := 20) hx hb dX3_reach_9 (by decide) (fun c_9 => ?_) (fun c_9 => ?_)
  · exact absurd hp c_9
  · refine lv_aload_n hx hb dX3_reach_12 rfl (lv_at hl 0 rfl) ?_
    refine lv_iload_n hx hb dX3_reach_13 rfl (lv_at hl 1 rfl) ?_
    refine kc_rVi (As := [.int pe]) (rest := []) ⟨hx, hb, hml, hown, hts⟩ (c_X3_reachOf l D md cI 0 mK mc mD mr mw my mC mk ms mu mt mp mb me kn tn pe hK8 hD8 hC24 hkn hok) (cwV 1 hts gX3_reach_X3_reachOf rfl rfl rfl (by decide +kernel) ⟨Nat.le_of_ble_eq_true rfl, Nat.le_of_ble_eq_true rfl⟩) hK hP [0, 1, 2, 3, 4, 5, 6, 7, 8, 9] [0] rfl rfl 0 rfl rfl rfl rfl hl.1 rfl (Nat.le_of_ble_eq_true rfl) dX3_reach_14 ⟨Nat.le_of_ble_eq_true rfl, Nat.le_of_ble_eq_true rfl⟩ ?_
    refine lv_goto (tgt := 25) hx hb dX3_reach_17 (by decide) ?_
    exact W.iret (v := mReach mr mc mk ms mu mt mp mK mD kn tn pe mC) hx hb hr (fun tZ htZ hWZ => ⟨⟨_, (), rfl, rfl, by rw [htZ]; exact hP, by rw [hAe]; exact hD⟩, hS.F htZ⟩) hS.2.2 dX3_reach_25
set_option maxHeartbeats 4000000 in
set_option maxRecDepth 100000 in
theorem c_X3_suggest_f2 (l : Launch) (D : va_G) (md : Nat → Nat) (cI : ClassId) (th : Int32) (mK : Nat) (mc : Nat → Int32) (mD : Nat) (mr : Nat → Int32) (mw : Int32) (my : Int32) (mC : Nat) (mk : Nat → Int32) (ms : Nat → Int32) (mu : Nat → Int32) (mt : Nat → Int32) (mp : Nat → Int32) (mb : Nat → Int32) (me : Nat → Int32) (pe : Int32) (wa : Int32) (sz : Nat) (hD8 : mD ≤ 8) (hp : jIn 8 pe = true) (hBad : ¬ jSet mD wa = true) : Met l yX3_suggest wsX3_suggest ({ frames := 1, cells := 0, slots := 0, locals := 21 } : Room) (wrP [.ref (md 0), .int pe, .int wa] D sz (wMd md cI th mK mc mD mr mw my mC mk ms mu mt mp mb me) [(cI, .int)]) (va_Qi (fun rZ (_ : Unit) => rZ = 0) (wrB D sz (wMd md cI th mK mc mD mr mw my mC mk ms mu mt mp mb me) (wMd md cI 2 mK mc mD mr mw my mC mk ms mu mt mp mb me)) (va_A (wMd md cI th mK mc mD mr mw my mC mk ms mu mt mp mb me) sz)) 0 0 (va_A (wMd md cI th mK mc mD mr mw my mC mk ms mu mt mp mb me) sz) := by
  refine Met.ofW (cc := cX3_suggest) (maxL := 13) (ret := (some .int)) (by decide) rfl ?_
  intro p e s m args below meth c s₁ B hml hv
  obtain ⟨rfl, hsz, hP, hD0, hK⟩ := hv
  have hx := B.exec
  have hb := B.bytes
  have hr := B.returns
  have hts := atoms_spec (ws := wsX3_suggest) B.pre
  have hown : s.vm.findClass RX3 = some m.cls := findClass_of_methodNamed B.named
  have hlocks := B.notSynchronized
  subst hsz
  have hD := hD0.self (sz := s.heap.size)
  generalize hAe : va_A (wMd md cI th mK mc mD mr mw my mC mk ms mu mt mp mb me) s.heap.size = A at hD ⊢
  have hA : ∀ q : Nat, s.heap.size ≤ q → A q := fun q h => by rw [← hAe]; exact Or.inr h
  have hinX3 : ∀ w ∈ u_ws RX3 TX3 15, w ∈ wsX3_suggest := by decide +kernel
  have hf37 := hts (.fieldLink RX3 37 "KeyCabinetModel" "thrown" "I") (by decide +kernel)
  have hf44 := hts (.fieldLink RX3 44 "KeyCabinetModel" "doors" "I") (by decide +kernel)
  have hl := lv_entry ([.ref (md 0), .int pe, .int wa]) (n := 13) (Nat.le_of_ble_eq_true rfl)
  rw [lg_entry_eq]
  generalize (lg_sl ([.ref (md 0), .int pe, .int wa]) ++ List.replicate (13 - (lg_sl ([.ref (md 0), .int pe, .int wa])).length) Slot.unset).toArray = ls at hl ⊢
  have hl : lv_has ls 13 [(0, .ref (md 0)), (1, .int pe), (2, .int wa)] := hl
  refine W.genH (fun H locs eH eL => ?_)
  have hS : va_S A s.heap H locs := by rw [eH, eL]; exact va_S.rf
  have hP : va_P D vwCl (wMd md cI th mK mc mD mr mw my mC mk ms mu mt mp mb me) H := by rw [eH]; exact hP
  clear eH eL
  refine lv_aload_n hx hb dX3_suggest_0 rfl (lv_at hl 0 rfl) ?_
  refine lv_iconst (v := 0) hx hb dX3_suggest_1 (by decide) ?_
  refine va_put (D := D) (ci := 3) (v := .int 0) (ty := .int) (C := RX3) (T := TX3) (N := 15) hx hb hts hinX3 tyX3 tyX3_ok nmX3 hown hK.1 hP hD hS 0 rfl rfl 0 (by decide) hf37 (fun _ h9 => h9) rfl (by decide +kernel) rfl rfl (Nat.le_of_ble_eq_true rfl) dX3_suggest_2 (fun H locs hP hD hS => ?_)
  have hP : va_P D vwCl (wMd md cI 0 mK mc mD mr mw my mC mk ms mu mt mp mb me) H := hP
  have hD : va_D A (wMd md cI 0 mK mc mD mr mw my mC mk ms mu mt mp mb me) := hD
  refine lv_iload_n hx hb dX3_suggest_5 rfl (lv_at hl 1 rfl) ?_
  refine kc_rSi (As := [.int pe]) (rest := []) ⟨hx, hb, hml, hown, hts⟩ (c_X3_isPerson l pe ) (va_cwS 1 hts gX3_suggest_X3_isPerson rfl rfl rfl (by decide +kernel) ⟨Nat.le_of_ble_eq_true rfl, Nat.le_of_ble_eq_true rfl⟩) rfl hl.1 rfl (Nat.le_of_ble_eq_true rfl) dX3_suggest_6 ⟨Nat.le_of_ble_eq_true rfl, Nat.le_of_ble_eq_true rfl⟩ ?_
  refine kc_ifneB (tgt := 18) hx hb dX3_suggest_9 (by decide) (fun c_9 => ?_) (fun c_9 => ?_)
  · refine lv_iload_n hx hb dX3_suggest_18 rfl (lv_at hl 2 rfl) ?_
    refine lv_if_lt (tgt := 32) hx hb dX3_suggest_19 (by decide) (fun c_19 => ?_) (fun c_19 => ?_)
    · refine lv_aload_n hx hb dX3_suggest_32 rfl (lv_at hl 0 rfl) ?_
      refine lv_iconst (v := 2) hx hb dX3_suggest_33 (by decide) ?_
      refine kc_wVi (w1 := wMd md cI 2 mK mc mD mr mw my mC mk ms mu mt mp mb me) (wr := []) (ws1 := wMd md cI 2 mK mc mD mr mw my mC mk ms mu mt mp mb me) (As := [.int 2]) (rest := []) ⟨hx, hb, hml, hown, hts⟩ (c_X3_fail l D md cI 0 mK mc mD mr mw my mC mk ms mu mt mp mb me 2 H.size ) (cwV 1 hts gX3_suggest_X3_fail rfl rfl rfl (by decide +kernel) ⟨Nat.le_of_ble_eq_true rfl, Nat.le_of_ble_eq_true rfl⟩) hK hP hD hS hA [0, 1, 2, 3, 4, 5, 6, 7, 8, 9] [] [0, 1, 2, 3, 4, 5, 6, 7, 8, 9] [0] rfl rfl rfl rfl (by decide) rfl rfl rfl 0 rfl rfl rfl rfl hl.1 rfl (Nat.le_of_ble_eq_true rfl) dX3_suggest_34 ⟨Nat.le_of_ble_eq_true rfl, Nat.le_of_ble_eq_true rfl⟩ (fun H locs hP hD hS => ?_)
      exact W.iret (v := 0) hx hb hr (fun tZ htZ hWZ => ⟨⟨_, (), rfl, rfl, by rw [htZ]; exact hP, by rw [hAe]; exact hD⟩, hS.F htZ⟩) hS.2.2 dX3_suggest_37
    · refine lv_iload_n hx hb dX3_suggest_22 rfl (lv_at hl 2 rfl) ?_
      refine lv_iconst (v := 1) hx hb dX3_suggest_23 (by decide) ?_
      refine lv_aload_n hx hb dX3_suggest_24 rfl (lv_at hl 0 rfl) ?_
      refine va_get (D := D) (ci := 3) (v := .int (nI mD)) (C := RX3) (T := TX3) (N := 15) hx hb hts hinX3 hown hK.1 hP 0 rfl rfl 3 (by decide) hf44 (fun _ h9 => h9) rfl dX3_suggest_25 ?_
      refine lv_ishl hx hb dX3_suggest_28 ?_
      refine lv_icmp_lt (tgt := 38) hx hb dX3_suggest_29 (by decide) (fun c_29 => ?_) (fun c_29 => ?_)
      · exact absurd (decide_eq_true ⟨c_19, kc_nle c_29⟩) hBad
      · refine lv_aload_n hx hb dX3_suggest_32 rfl (lv_at hl 0 rfl) ?_
        refine lv_iconst (v := 2) hx hb dX3_suggest_33 (by decide) ?_
        refine kc_wVi (w1 := wMd md cI 2 mK mc mD mr mw my mC mk ms mu mt mp mb me) (wr := []) (ws1 := wMd md cI 2 mK mc mD mr mw my mC mk ms mu mt mp mb me) (As := [.int 2]) (rest := []) ⟨hx, hb, hml, hown, hts⟩ (c_X3_fail l D md cI 0 mK mc mD mr mw my mC mk ms mu mt mp mb me 2 H.size ) (cwV 1 hts gX3_suggest_X3_fail rfl rfl rfl (by decide +kernel) ⟨Nat.le_of_ble_eq_true rfl, Nat.le_of_ble_eq_true rfl⟩) hK hP hD hS hA [0, 1, 2, 3, 4, 5, 6, 7, 8, 9] [] [0, 1, 2, 3, 4, 5, 6, 7, 8, 9] [0] rfl rfl rfl rfl (by decide) rfl rfl rfl 0 rfl rfl rfl rfl hl.1 rfl (Nat.le_of_ble_eq_true rfl) dX3_suggest_34 ⟨Nat.le_of_ble_eq_true rfl, Nat.le_of_ble_eq_true rfl⟩ (fun H locs hP hD hS => ?_)
        exact W.iret (v := 0) hx hb hr (fun tZ htZ hWZ => ⟨⟨_, (), rfl, rfl, by rw [htZ]; exact hP, by rw [hAe]; exact hD⟩, hS.F htZ⟩) hS.2.2 dX3_suggest_37
  · exact absurd hp c_9
