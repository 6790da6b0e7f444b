set_option maxHeartbeats 4000000 in
set_option maxRecDepth 100000 in
theorem c_X3_replace_none (l : Launch) (D : va_G) (md : Nat → Nat) (cI : ClassId) (th : Int32) (mK : Nat) (mc : Nat → Int32) (mD : Nat) (mr : Nat → Int32) (mw : Int32) (my : Int32) (mC : Nat) (mk : Nat → Int32) (ms : Nat → Int32) (mu : Nat → Int32) (mt : Nat → Int32) (mp : Nat → Int32) (mb : Nat → Int32) (me : Nat → Int32) (k : Nat) (tn : Nat → Nat) (sz : Nat) (hK8 : mK ≤ 8) (hD8 : mD ≤ 8) (hC24 : mC ≤ 24) (hk : k < mK) (hok : okLe ms mt tn) (hne : (mR mr mc (mPinsAll mr mc mK mD) mK mD k (mc k) 1024).2.1 = (-1)) : Met l yX3_replace wsX3_replace ({ frames := 4, cells := 1, slots := 8, locals := 92 } : Room) (wrP [.ref (md 0), .int (nI k)] D sz (wMd md cI th mK mc mD mr mw my mC mk ms mu mt mp mb me) [(cI, .int)]) (va_Qi (fun rZ (_ : Unit) => rZ = -1) (wrB D sz (wMd md cI th mK mc mD mr mw my mC mk ms mu mt mp mb me) (wMd md cI 0 mK (upd (mR mr mc (mPinsAll mr mc mK mD) mK mD k (mc k) 1024).1 k (mc k)) mD mr mw my mC mk ms mu mt mp mb me)) (va_A (wMd md cI th mK mc mD mr mw my mC mk ms mu mt mp mb me) sz)) 1 8 (va_A (wMd md cI th mK mc mD mr mw my mC mk ms mu mt mp mb me) sz) := by
  refine Met.ofW (cc := cX3_replace) (maxL := 12) (ret := (some .int)) (by decide) rfl ?_
  intro p e s m args below meth c s₁ B hml hv
  obtain ⟨rfl, hsz, hP, hD0, hK⟩ := hv
  have hx := B.exec
  have hb := B.bytes
  have hr := B.returns
  have hts := atoms_spec (ws := wsX3_replace) B.pre
  have hown : s.vm.findClass RX3 = some m.cls := findClass_of_methodNamed B.named
  have hlocks := B.notSynchronized
  subst hsz
  have hD := hD0.self (sz := s.heap.size)
  generalize hAe : va_A (wMd md cI th mK mc mD mr mw my mC mk ms mu mt mp mb me) s.heap.size = A at hD ⊢
  have hA : ∀ q : Nat, s.heap.size ≤ q → A q := fun q h => by rw [← hAe]; exact Or.inr h
  have hinX3 : ∀ w ∈ u_ws RX3 TX3 15, w ∈ wsX3_replace := by decide +kernel
  have hf37 := hts (.fieldLink RX3 37 "KeyCabinetModel" "thrown" "I") (by decide +kernel)
  have hf9 := hts (.fieldLink RX3 9 "KeyCabinetModel" "codes" "[I") (by decide +kernel)
  have hf44 := hts (.fieldLink RX3 44 "KeyCabinetModel" "doors" "I") (by decide +kernel)
  have hf41 := hts (.fieldLink RX3 41 "KeyCabinetModel" "keys" "I") (by decide +kernel)
  have hl := lv_entry ([.ref (md 0), .int (nI k)]) (n := 12) (Nat.le_of_ble_eq_true rfl)
  rw [lg_entry_eq]
  generalize (lg_sl ([.ref (md 0), .int (nI k)]) ++ List.replicate (12 - (lg_sl ([.ref (md 0), .int (nI k)])).length) Slot.unset).toArray = ls at hl ⊢
  have hl : lv_has ls 12 [(0, .ref (md 0)), (1, .int (nI k))] := hl
  refine W.genH (fun H locs eH eL => ?_)
  have hS : va_S A s.heap H locs := by rw [eH, eL]; exact va_S.rf
  have hP : va_P D vwCl (wMd md cI th mK mc mD mr mw my mC mk ms mu mt mp mb me) H := by rw [eH]; exact hP
  clear eH eL
  refine lv_aload_n hx hb dX3_replace_0 rfl (lv_at hl 0 rfl) ?_
  refine lv_iconst (v := 0) hx hb dX3_replace_1 (by decide) ?_
  refine va_put (D := D) (ci := 3) (v := .int 0) (ty := .int) (C := RX3) (T := TX3) (N := 15) hx hb hts hinX3 tyX3 tyX3_ok nmX3 hown hK.1 hP hD hS 0 rfl rfl 0 (by decide) hf37 (fun _ h9 => h9) rfl (by decide +kernel) rfl rfl (Nat.le_of_ble_eq_true rfl) dX3_replace_2 (fun H locs hP hD hS => ?_)
  have hP : va_P D vwCl (wMd md cI 0 mK mc mD mr mw my mC mk ms mu mt mp mb me) H := hP
  have hD : va_D A (wMd md cI 0 mK mc mD mr mw my mC mk ms mu mt mp mb me) := hD
  refine lv_aload_n hx hb dX3_replace_5 rfl (lv_at hl 0 rfl) ?_
  refine lv_iload_n hx hb dX3_replace_6 rfl (lv_at hl 1 rfl) ?_
  refine kc_rVi (As := [.int (nI k)]) (rest := []) ⟨hx, hb, hml, hown, hts⟩ (c_X3_isKey l D md cI 0 mK mc mD mr mw my mC mk ms mu mt mp mb me (nI k) ) (cwV 1 hts gX3_replace_X3_isKey rfl rfl rfl (by decide +kernel) ⟨Nat.le_of_ble_eq_true rfl, Nat.le_of_ble_eq_true rfl⟩) hK hP [0, 1, 2, 3, 4, 5, 6, 7, 8, 9] [0] rfl rfl 0 rfl rfl rfl rfl hl.1 rfl (Nat.le_of_ble_eq_true rfl) dX3_replace_7 ⟨Nat.le_of_ble_eq_true rfl, Nat.le_of_ble_eq_true rfl⟩ ?_
  refine kc_ifneB (tgt := 19) hx hb dX3_replace_10 (by decide) (fun c_10 => ?_) (fun c_10 => ?_)
  · refine lv_aload_n hx hb dX3_replace_19 rfl (lv_at hl 0 rfl) ?_
    refine va_get (D := D) (ci := 3) (v := .ref (md 1)) (C := RX3) (T := TX3) (N := 15) hx hb hts hinX3 hown hK.1 hP 0 rfl rfl 2 (by decide) hf9 (fun _ h9 => h9) rfl dX3_replace_20 ?_
    refine lv_iload_n hx hb dX3_replace_23 rfl (lv_at hl 1 rfl) ?_
    refine kc_ald (i := k) (n := 8) hx hb hK hP 1 0 rfl rfl (by omega) (by decide) dX3_replace_24 ?_
    refine lv_istore_n (lv' := [(2, .int (mc k)), (0, .ref (md 0)), (1, .int (nI k))]) hx hb dX3_replace_25 rfl hl (by decide) rfl (fun ls hl => ?_)
    refine lv_aload_n hx hb dX3_replace_26 rfl (lv_at hl 1 rfl) ?_
    refine va_get (D := D) (ci := 3) (v := .int (nI mD)) (C := RX3) (T := TX3) (N := 15) hx hb hts hinX3 hown hK.1 hP 0 rfl rfl 3 (by decide) hf44 (fun _ h9 => h9) rfl dX3_replace_27 ?_
    refine kc_newI (N := mD) hx hb (hts (.arrayClass .int) (by decide +kernel)) hK 0 rfl hP hD hS hA (by omega) (Nat.le_of_ble_eq_true rfl) (by show 0 + mD ≤ 8; omega) dX3_replace_30 (fun q30 H hP hD hS => ?_)
    have hP : va_P D vwCl (wMdX md cI 0 mK mc mD mr mw my mC mk ms mu mt mp mb me q30 mD (fun _ => 0)) H := hP
    have hD : va_D A (wMdX md cI 0 mK mc mD mr mw my mC mk ms mu mt mp mb me q30 mD (fun _ => 0)) := hD
    refine W.widen (k := 1) (n := 8) (by omega) (by omega) ?_
    refine lv_astore_n (lv' := [(3, .ref q30), (2, .int (mc k)), (0, .ref (md 0)), (1, .int (nI k))]) hx hb dX3_replace_32 rfl hl (by decide) rfl (fun ls hl => ?_)
    refine lv_iconst (v := 0) hx hb dX3_replace_33 (by decide) ?_
    refine lv_istore (lv' := [(4, .int 0), (3, .ref q30), (2, .int (mc k)), (0, .ref (md 0)), (1, .int (nI k))]) hx hb dX3_replace_34 hl (by decide) rfl (fun ls hl => ?_)
    refine kc_forHW (pc := 36) (N := mD) (P := fun j H locs ls => va_P D vwCl (wMdX md cI 0 mK mc mD mr mw my mC mk ms mu mt mp mb me q30 mD (mPinsAll mr mc mK j)) H ∧ va_D A (wMdX md cI 0 mK mc mD mr mw my mC mk ms mu mt mp mb me q30 mD (mPinsAll mr mc mK j)) ∧ va_S A s.heap H locs ∧ lv_has ls 12 [(4, .int (nI j)), (3, .ref q30), (2, .int (mc k)), (0, .ref (md 0)), (1, .int (nI k))]) (fun j H locs ls hj_36 hp ih_36 => ?_) H locs ls ?_
    · obtain ⟨hP, hD, hS, hl⟩ := hp
      refine lv_iload hx hb dX3_replace_36 (lv_at hl 0 rfl) ?_
      refine lv_aload_n hx hb dX3_replace_38 rfl (lv_at hl 3 rfl) ?_
      refine va_get (D := D) (ci := 3) (v := .int (nI mD)) (C := RX3) (T := TX3) (N := 15) hx hb hts hinX3 hown hK.1 hP 0 rfl rfl 3 (by decide) hf44 (fun _ h9 => h9) rfl dX3_replace_39 ?_
      refine kc_tst (j := j) (N := mD) (tgt := 61) hx hb dX3_replace_42 (by decide) hj_36 (by omega) (fun hN => ?_) (fun hlt_36 => ?_)
      · subst hN
        refine lv_iconst (v := (-1)) hx hb dX3_replace_61 (by decide) ?_
        refine lv_istore (lv' := [(4, .int (-1)), (3, .ref q30), (2, .int (mc k)), (0, .ref (md 0)), (1, .int (nI k))]) hx hb dX3_replace_62 hl (by decide) rfl (fun ls hl => ?_)
        refine lv_iconst (v := 0) hx hb dX3_replace_64 (by decide) ?_
        refine lv_istore (lv' := [(5, .int 0), (4, .int (-1)), (3, .ref q30), (2, .int (mc k)), (0, .ref (md 0)), (1, .int (nI k))]) hx hb dX3_replace_65 hl (by decide) rfl (fun ls hl => ?_)
        refine lv_iconst (v := 0) hx hb dX3_replace_67 (by decide) ?_
        refine lv_istore (lv' := [(6, .int 0), (5, .int 0), (4, .int (-1)), (3, .ref q30), (2, .int (mc k)), (0, .ref (md 0)), (1, .int (nI k))]) hx hb dX3_replace_68 hl (by decide) rfl (fun ls hl => ?_)
        refine lv_iconst (v := 0) hx hb dX3_replace_70 (by decide) ?_
        refine lv_istore (lv' := [(7, .int 0), (6, .int 0), (5, .int 0), (4, .int (-1)), (3, .ref q30), (2, .int (mc k)), (0, .ref (md 0)), (1, .int (nI k))]) hx hb dX3_replace_71 hl (by decide) rfl (fun ls hl => ?_)
        refine kc_forHW (pc := 73) (N := 1024) (P := fun j H locs ls => va_P D vwCl (wMdX md cI 0 mK ((mR mr mc (mPinsAll mr mc mK mD) mK mD k (mc k) j).1) mD mr mw my mC mk ms mu mt mp mb me q30 mD (mPinsAll mr mc mK mD)) H ∧ va_D A (wMdX md cI 0 mK ((mR mr mc (mPinsAll mr mc mK mD) mK mD k (mc k) j).1) mD mr mw my mC mk ms mu mt mp mb me q30 mD (mPinsAll mr mc mK mD)) ∧ va_S A s.heap H locs ∧ lv_has ls 12 [(7, .int (nI j)), (6, .int ((mR mr mc (mPinsAll mr mc mK mD) mK mD k (mc k) j).2.2.2)), (5, .int ((mR mr mc (mPinsAll mr mc mK mD) mK mD k (mc k) j).2.2.1)), (4, .int ((mR mr mc (mPinsAll mr mc mK mD) mK mD k (mc k) j).2.1)), (3, .ref q30), (2, .int (mc k)), (0, .ref (md 0)), (1, .int (nI k))]) (fun j H locs ls hj_73 hp ih_73 => ?_) H locs ls ?_
        · obtain ⟨hP, hD, hS, hl⟩ := hp
          refine lv_iload hx hb dX3_replace_73 (lv_at hl 0 rfl) ?_
          refine lv_sipush (v := 1024) hx hb dX3_replace_75 (by decide) ?_
          refine kc_tst (j := j) (N := 1024) (tgt := 257) hx hb dX3_replace_78 (by decide) hj_73 (by omega) (fun hN => ?_) (fun hlt_73 => ?_)
          · subst hN
            refine lv_aload_n hx hb dX3_replace_257 rfl (lv_at hl 6 rfl) ?_
            refine va_get (D := D) (ci := 3) (v := .ref (md 1)) (C := RX3) (T := TX3) (N := 15) hx hb hts hinX3 hown hK.1 hP 0 rfl rfl 2 (by decide) hf9 (fun _ h9 => h9) rfl dX3_replace_258 ?_
            refine lv_iload_n hx hb dX3_replace_261 rfl (lv_at hl 7 rfl) ?_
            refine lv_iload hx hb dX3_replace_262 (lv_at hl 3 rfl) ?_
            refine lv_iconst (v := (-1)) hx hb dX3_replace_264 (by decide) ?_
            refine lv_icmp_ne (tgt := 272) hx hb dX3_replace_265 (by decide) (fun c_265 => ?_) (fun c_265 => ?_)
            · exact absurd hne c_265
            · refine lv_iload_n hx hb dX3_replace_268 rfl (lv_at hl 5 rfl) ?_
              refine lv_goto (tgt := 274) hx hb dX3_replace_269 (by decide) ?_
              refine kc_ast (i := k) (n := 8) hx hb hK hP hD hS 1 0 rfl rfl (by omega) (by decide) dX3_replace_274 (fun H locs hP hD hS => ?_)
              have hP : va_P D vwCl (wMdX md cI 0 mK (upd ((mR mr mc (mPinsAll mr mc mK mD) mK mD k (mc k) 1024).1) k (mc k)) mD mr mw my mC mk ms mu mt mp mb me q30 mD (mPinsAll mr mc mK mD)) H := hP
              have hD : va_D A (wMdX md cI 0 mK (upd ((mR mr mc (mPinsAll mr mc mK mD) mK mD k (mc k) 1024).1) k (mc k)) mD mr mw my mC mk ms mu mt mp mb me q30 mD (mPinsAll mr mc mK mD)) := hD
              refine lv_iload hx hb dX3_replace_275 (lv_at hl 3 rfl) ?_
              refine lv_iconst (v := (-1)) hx hb dX3_replace_277 (by decide) ?_
              refine lv_icmp_ne (tgt := 283) hx hb dX3_replace_278 (by decide) (fun c_278 => ?_) (fun c_278 => ?_)
              · exact absurd c_265 c_278
              · refine lv_iconst (v := (-1)) hx hb dX3_replace_281 (by decide) ?_
                have hP : va_P D vwCl (wMd md cI 0 mK (upd ((mR mr mc (mPinsAll mr mc mK mD) mK mD k (mc k) 1024).1) k (mc k)) mD mr mw my mC mk ms mu mt mp mb me) H := hP.sub [0, 1, 2, 3, 4, 5, 6, 7, 8, 9] rfl
                have hD : va_D A (wMd md cI 0 mK (upd ((mR mr mc (mPinsAll mr mc mK mD) mK mD k (mc k) 1024).1) k (mc k)) mD mr mw my mC mk ms mu mt mp mb me) := hD.sub [0, 1, 2, 3, 4, 5, 6, 7, 8, 9] (by decide) rfl
                have eqw_mc : upd (mR mr mc (mPinsAll mr mc mK mD) mK mD k (mc k) 1024).1 k (mc k) = upd ((mR mr mc (mPinsAll mr mc mK mD) mK mD k (mc k) 1024).1) k (mc k) := by simp only [if_pos c_10, if_pos c_265, if_pos c_278]
                have hP : va_P D vwCl (wMd md cI 0 mK (upd (mR mr mc (mPinsAll mr mc mK mD) mK mD k (mc k) 1024).1 k (mc k)) mD mr mw my mC mk ms mu mt mp mb me) H := by rw [eqw_mc]; exact hP
                have hD : va_D A (wMd md cI 0 mK (upd (mR mr mc (mPinsAll mr mc mK mD) mK mD k (mc k) 1024).1 k (mc k)) mD mr mw my mC mk ms mu mt mp mb me) := by rw [eqw_mc]; exact hD
                exact W.iret (v := (-1)) hx hb hr (fun tZ htZ hWZ => ⟨⟨_, (), rfl, rfl, by rw [htZ]; exact hP, by rw [hAe]; exact hD⟩, hS.F htZ⟩) hS.2.2 dX3_replace_282
          · refine lv_iconst (v := 1) hx hb dX3_replace_81 (by decide) ?_
            refine lv_istore (lv' := [(8, .int 1), (7, .int (nI j)), (6, .int ((mR mr mc (mPinsAll mr mc mK mD) mK mD k (mc k) j).2.2.2)), (5, .int ((mR mr mc (mPinsAll mr mc mK mD) mK mD k (mc k) j).2.2.1)), (4, .int ((mR mr mc (mPinsAll mr mc mK mD) mK mD k (mc k) j).2.1)), (3, .ref q30), (2, .int (mc k)), (0, .ref (md 0)), (1, .int (nI k))]) hx hb dX3_replace_82 hl (by decide) rfl (fun ls hl => ?_)
            refine lv_iconst (v := 0) hx hb dX3_replace_84 (by decide) ?_
            refine lv_istore (lv' := [(9, .int 0), (8, .int 1), (7, .int (nI j)), (6, .int ((mR mr mc (mPinsAll mr mc mK mD) mK mD k (mc k) j).2.2.2)), (5, .int ((mR mr mc (mPinsAll mr mc mK mD) mK mD k (mc k) j).2.2.1)), (4, .int ((mR mr mc (mPinsAll mr mc mK mD) mK mD k (mc k) j).2.1)), (3, .ref q30), (2, .int (mc k)), (0, .ref (md 0)), (1, .int (nI k))]) hx hb dX3_replace_85 hl (by decide) rfl (fun ls hl => ?_)
            refine kc_forW (pc := 87) (N := mK) (P := fun i ls => lv_has ls 12 [(9, .int (nI i)), (8, .int (bI (mFree (mR mr mc (mPinsAll mr mc mK mD) mK mD k (mc k) j).1 k (mc k) (nI j) i))), (7, .int (nI j)), (6, .int ((mR mr mc (mPinsAll mr mc mK mD) mK mD k (mc k) j).2.2.2)), (5, .int ((mR mr mc (mPinsAll mr mc mK mD) mK mD k (mc k) j).2.2.1)), (4, .int ((mR mr mc (mPinsAll mr mc mK mD) mK mD k (mc k) j).2.1)), (3, .ref q30), (2, .int (mc k)), (0, .ref (md 0)), (1, .int (nI k))]) (fun i ls hj_87 hp ih_87 => ?_) ls ?_
            · have hl := hp
              refine lv_iload hx hb dX3_replace_87 (lv_at hl 0 rfl) ?_
              refine lv_aload_n hx hb dX3_replace_89 rfl (lv_at hl 8 rfl) ?_
              refine va_get (D := D) (ci := 3) (v := .int (nI mK)) (C := RX3) (T := TX3) (N := 15) hx hb hts hinX3 hown hK.1 hP 0 rfl rfl 1 (by decide) hf41 (fun _ h9 => h9) rfl dX3_replace_90 ?_
              refine kc_tst (j := i) (N := mK) (tgt := 136) hx hb dX3_replace_93 (by decide) hj_87 (by omega) (fun hN => ?_) (fun hlt_87 => ?_)
              · subst hN
                refine lv_iload hx hb dX3_replace_136 (lv_at hl 1 rfl) ?_
                refine kc_ifneB (tgt := 144) hx hb dX3_replace_138 (by decide) (fun c_138 => ?_) (fun c_138 => ?_)
                · refine lv_aload_n hx hb dX3_replace_144 rfl (lv_at hl 8 rfl) ?_
                  refine va_get (D := D) (ci := 3) (v := .ref (md 1)) (C := RX3) (T := TX3) (N := 15) hx hb hts hinX3 hown hK.1 hP 0 rfl rfl 2 (by decide) hf9 (fun _ h9 => h9) rfl dX3_replace_145 ?_
                  refine lv_iload_n hx hb dX3_replace_148 rfl (lv_at hl 9 rfl) ?_
                  refine lv_iload hx hb dX3_replace_149 (lv_at hl 2 rfl) ?_
                  refine kc_ast (i := k) (n := 8) hx hb hK hP hD hS 1 0 rfl rfl (by omega) (by decide) dX3_replace_151 (fun H locs hP hD hS => ?_)
                  have hP : va_P D vwCl (wMdX md cI 0 mK (upd ((mR mr mc (mPinsAll mr mc mK mD) mK mD k (mc k) j).1) k (nI j)) mD mr mw my mC mk ms mu mt mp mb me q30 mD (mPinsAll mr mc mK mD)) H := hP
                  have hD : va_D A (wMdX md cI 0 mK (upd ((mR mr mc (mPinsAll mr mc mK mD) mK mD k (mc k) j).1) k (nI j)) mD mr mw my mC mk ms mu mt mp mb me q30 mD (mPinsAll mr mc mK mD)) := hD
                  refine lv_aload_n hx hb dX3_replace_152 rfl (lv_at hl 8 rfl) ?_
                  refine lv_iload_n hx hb dX3_replace_153 rfl (lv_at hl 7 rfl) ?_
                  refine kc_rVi (As := [.int (mc k)]) (rest := []) ⟨hx, hb, hml, hown, hts⟩ (c_X3_doorsOf l D md cI 0 mK (upd ((mR mr mc (mPinsAll mr mc mK mD) mK mD k (mc k) j).1) k (nI j)) mD mr mw my mC mk ms mu mt mp mb me (mc k) hK8 hD8) (cwV 1 hts gX3_replace_X3_doorsOf rfl rfl rfl (by decide +kernel) ⟨Nat.le_of_ble_eq_true rfl, Nat.le_of_ble_eq_true rfl⟩) hK hP [0, 1, 2, 3, 4, 5, 6, 7, 8, 9] [0] rfl rfl 0 rfl rfl rfl rfl hl.1 rfl (Nat.le_of_ble_eq_true rfl) dX3_replace_154 ⟨Nat.le_of_ble_eq_true rfl, Nat.le_of_ble_eq_true rfl⟩ ?_
                  refine lv_if_eq (tgt := 163) hx hb dX3_replace_157 (by decide) (fun c_157 => ?_) (fun c_157 => ?_)
                  · refine lv_aload_n hx hb dX3_replace_163 rfl (lv_at hl 8 rfl) ?_
                    refine kc_rVi (As := []) (rest := []) ⟨hx, hb, hml, hown, hts⟩ (c_X3_strayCount l D md cI 0 mK (upd ((mR mr mc (mPinsAll mr mc mK mD) mK mD k (mc k) j).1) k (nI j)) mD mr mw my mC mk ms mu mt mp mb me hK8 hD8) (cwV 0 hts gX3_replace_X3_strayCount rfl rfl rfl (by decide +kernel) ⟨Nat.le_of_ble_eq_true rfl, Nat.le_of_ble_eq_true rfl⟩) hK hP [0, 1, 2, 3, 4, 5, 6, 7, 8, 9] [0] rfl rfl 0 rfl rfl rfl rfl hl.1 rfl (Nat.le_of_ble_eq_true rfl) dX3_replace_164 ⟨Nat.le_of_ble_eq_true rfl, Nat.le_of_ble_eq_true rfl⟩ ?_
                    refine lv_istore (lv' := [(9, .int (mStrays mr (upd ((mR mr mc (mPinsAll mr mc mK mD) mK mD k (mc k) j).1) k (nI j)) mK mD mK)), (8, .int (bI (mFree (mR mr mc (mPinsAll mr mc mK mD) mK mD k (mc k) j).1 k (mc k) (nI j) mK))), (7, .int (nI j)), (6, .int ((mR mr mc (mPinsAll mr mc mK mD) mK mD k (mc k) j).2.2.2)), (5, .int ((mR mr mc (mPinsAll mr mc mK mD) mK mD k (mc k) j).2.2.1)), (4, .int ((mR mr mc (mPinsAll mr mc mK mD) mK mD k (mc k) j).2.1)), (3, .ref q30), (2, .int (mc k)), (0, .ref (md 0)), (1, .int (nI k))]) hx hb dX3_replace_167 hl (by decide) rfl (fun ls hl => ?_)
                    refine lv_iconst (v := 0) hx hb dX3_replace_169 (by decide) ?_
                    refine lv_istore (lv' := [(10, .int 0), (9, .int (mStrays mr (upd ((mR mr mc (mPinsAll mr mc mK mD) mK mD k (mc k) j).1) k (nI j)) mK mD mK)), (8, .int (bI (mFree (mR mr mc (mPinsAll mr mc mK mD) mK mD k (mc k) j).1 k (mc k) (nI j) mK))), (7, .int (nI j)), (6, .int ((mR mr mc (mPinsAll mr mc mK mD) mK mD k (mc k) j).2.2.2)), (5, .int ((mR mr mc (mPinsAll mr mc mK mD) mK mD k (mc k) j).2.2.1)), (4, .int ((mR mr mc (mPinsAll mr mc mK mD) mK mD k (mc k) j).2.1)), (3, .ref q30), (2, .int (mc k)), (0, .ref (md 0)), (1, .int (nI k))]) hx hb dX3_replace_170 hl (by decide) rfl (fun ls hl => ?_)
                    refine lv_iconst (v := 0) hx hb dX3_replace_172 (by decide) ?_
                    refine lv_istore (lv' := [(11, .int 0), (10, .int 0), (9, .int (mStrays mr (upd ((mR mr mc (mPinsAll mr mc mK mD) mK mD k (mc k) j).1) k (nI j)) mK mD mK)), (8, .int (bI (mFree (mR mr mc (mPinsAll mr mc mK mD) mK mD k (mc k) j).1 k (mc k) (nI j) mK))), (7, .int (nI j)), (6, .int ((mR mr mc (mPinsAll mr mc mK mD) mK mD k (mc k) j).2.2.2)), (5, .int ((mR mr mc (mPinsAll mr mc mK mD) mK mD k (mc k) j).2.2.1)), (4, .int ((mR mr mc (mPinsAll mr mc mK mD) mK mD k (mc k) j).2.1)), (3, .ref q30), (2, .int (mc k)), (0, .ref (md 0)), (1, .int (nI k))]) hx hb dX3_replace_173 hl (by decide) rfl (fun ls hl => ?_)
                    refine kc_forW (pc := 175) (N := mD) (P := fun i ls => lv_has ls 12 [(11, .int (nI i)), (10, .int (mTurned mr (upd (mR mr mc (mPinsAll mr mc mK mD) mK mD k (mc k) j).1 k (nI j)) (mPinsAll mr mc mK mD) mK i)), (9, .int (mStrays mr (upd ((mR mr mc (mPinsAll mr mc mK mD) mK mD k (mc k) j).1) k (nI j)) mK mD mK)), (7, .int (nI j)), (6, .int ((mR mr mc (mPinsAll mr mc mK mD) mK mD k (mc k) j).2.2.2)), (5, .int ((mR mr mc (mPinsAll mr mc mK mD) mK mD k (mc k) j).2.2.1)), (4, .int ((mR mr mc (mPinsAll mr mc mK mD) mK mD k (mc k) j).2.1)), (3, .ref q30), (2, .int (mc k)), (0, .ref (md 0)), (1, .int (nI k))]) (fun i ls hj_175 hp ih_175 => ?_) ls ?_
                    · have hl := hp
                      refine lv_iload hx hb dX3_replace_175 (lv_at hl 0 rfl) ?_
                      refine lv_aload_n hx hb dX3_replace_177 rfl (lv_at hl 9 rfl) ?_
                      refine va_get (D := D) (ci := 3) (v := .int (nI mD)) (C := RX3) (T := TX3) (N := 15) hx hb hts hinX3 hown hK.1 hP 0 rfl rfl 3 (by decide) hf44 (fun _ h9 => h9) rfl dX3_replace_178 ?_
                      refine kc_tst (j := i) (N := mD) (tgt := 209) hx hb dX3_replace_181 (by decide) hj_175 (by omega) (fun hN => ?_) (fun hlt_175 => ?_)
                      · subst hN
                        refine lv_iload hx hb dX3_replace_209 (lv_at hl 6 rfl) ?_
                        refine lv_iconst (v := (-1)) hx hb dX3_replace_211 (by decide) ?_
                        refine lv_icmp_eq (tgt := 239) hx hb dX3_replace_212 (by decide) (fun c_212 => ?_) (fun c_212 => ?_)
                        · refine lv_iload hx hb dX3_replace_239 (lv_at hl 3 rfl) ?_
                          refine lv_istore (lv' := [(4, .int (nI j)), (11, .int (nI mD)), (10, .int (mTurned mr (upd (mR mr mc (mPinsAll mr mc mK mD) mK mD k (mc k) j).1 k (nI j)) (mPinsAll mr mc mK mD) mK mD)), (9, .int (mStrays mr (upd ((mR mr mc (mPinsAll mr mc mK mD) mK mD k (mc k) j).1) k (nI j)) mK mD mK)), (7, .int (nI j)), (6, .int ((mR mr mc (mPinsAll mr mc mK mD) mK mD k (mc k) j).2.2.2)), (5, .int ((mR mr mc (mPinsAll mr mc mK mD) mK mD k (mc k) j).2.2.1)), (3, .ref q30), (2, .int (mc k)), (0, .ref (md 0)), (1, .int (nI k))]) hx hb dX3_replace_241 hl (by decide) rfl (fun ls hl => ?_)
                          refine lv_iload hx hb dX3_replace_243 (lv_at hl 3 rfl) ?_
                          refine lv_istore (lv' := [(5, .int (mStrays mr (upd ((mR mr mc (mPinsAll mr mc mK mD) mK mD k (mc k) j).1) k (nI j)) mK mD mK)), (4, .int (nI j)), (11, .int (nI mD)), (10, .int (mTurned mr (upd (mR mr mc (mPinsAll mr mc mK mD) mK mD k (mc k) j).1 k (nI j)) (mPinsAll mr mc mK mD) mK mD)), (9, .int (mStrays mr (upd ((mR mr mc (mPinsAll mr mc mK mD) mK mD k (mc k) j).1) k (nI j)) mK mD mK)), (7, .int (nI j)), (6, .int ((mR mr mc (mPinsAll mr mc mK mD) mK mD k (mc k) j).2.2.2)), (3, .ref q30), (2, .int (mc k)), (0, .ref (md 0)), (1, .int (nI k))]) hx hb dX3_replace_245 hl (by decide) rfl (fun ls hl => ?_)
                          refine lv_iload hx hb dX3_replace_247 (lv_at hl 3 rfl) ?_
                          refine lv_istore (lv' := [(6, .int (mTurned mr (upd (mR mr mc (mPinsAll mr mc mK mD) mK mD k (mc k) j).1 k (nI j)) (mPinsAll mr mc mK mD) mK mD)), (5, .int (mStrays mr (upd ((mR mr mc (mPinsAll mr mc mK mD) mK mD k (mc k) j).1) k (nI j)) mK mD mK)), (4, .int (nI j)), (11, .int (nI mD)), (10, .int (mTurned mr (upd (mR mr mc (mPinsAll mr mc mK mD) mK mD k (mc k) j).1 k (nI j)) (mPinsAll mr mc mK mD) mK mD)), (9, .int (mStrays mr (upd ((mR mr mc (mPinsAll mr mc mK mD) mK mD k (mc k) j).1) k (nI j)) mK mD mK)), (7, .int (nI j)), (3, .ref q30), (2, .int (mc k)), (0, .ref (md 0)), (1, .int (nI k))]) hx hb dX3_replace_249 hl (by decide) rfl (fun ls hl => ?_)
                          refine lv_iinc (v := nI (j + 1)) (lv' := [(7, .int (nI (j + 1))), (6, .int (mTurned mr (upd (mR mr mc (mPinsAll mr mc mK mD) mK mD k (mc k) j).1 k (nI j)) (mPinsAll mr mc mK mD) mK mD)), (5, .int (mStrays mr (upd ((mR mr mc (mPinsAll mr mc mK mD) mK mD k (mc k) j).1) k (nI j)) mK mD mK)), (4, .int (nI j)), (11, .int (nI mD)), (10, .int (mTurned mr (upd (mR mr mc (mPinsAll mr mc mK mD) mK mD k (mc k) j).1 k (nI j)) (mPinsAll mr mc mK mD) mK mD)), (9, .int (mStrays mr (upd ((mR mr mc (mPinsAll mr mc mK mD) mK mD k (mc k) j).1) k (nI j)) mK mD mK)), (3, .ref q30), (2, .int (mc k)), (0, .ref (md 0)), (1, .int (nI k))]) hx hb dX3_replace_251 hl (k := 6) rfl (kc_inc j) (by decide) rfl (fun ls hl => ?_)
                          refine lv_goto (tgt := 73) hx hb dX3_replace_254 (by decide) ?_
                          refine ih_73 _ _ _ hlt_73 ?_
                          have eq_6 : (mR mr mc (mPinsAll mr mc mK mD) mK mD k (mc k) (j + 1)).2.2.2 = mTurned mr (upd (mR mr mc (mPinsAll mr mc mK mD) mK mD k (mc k) j).1 k (nI j)) (mPinsAll mr mc mK mD) mK mD := by rw [mR_s]; simp only [mRStep, if_pos c_10, if_pos c_138, if_pos c_157, if_pos c_212]
                          have eq_5 : (mR mr mc (mPinsAll mr mc mK mD) mK mD k (mc k) (j + 1)).2.2.1 = mStrays mr (upd ((mR mr mc (mPinsAll mr mc mK mD) mK mD k (mc k) j).1) k (nI j)) mK mD mK := by rw [mR_s]; simp only [mRStep, if_pos c_10, if_pos c_138, if_pos c_157, if_pos c_212]
                          have eq_4 : (mR mr mc (mPinsAll mr mc mK mD) mK mD k (mc k) (j + 1)).2.1 = nI j := by rw [mR_s]; simp only [mRStep, if_pos c_10, if_pos c_138, if_pos c_157, if_pos c_212]
                          have eqw_mc : (mR mr mc (mPinsAll mr mc mK mD) mK mD k (mc k) (j + 1)).1 = upd ((mR mr mc (mPinsAll mr mc mK mD) mK mD k (mc k) j).1) k (nI j) := by rw [mR_s]; simp only [mRStep, if_pos c_10, if_pos c_138, if_pos c_157, if_pos c_212]
                          show va_P D vwCl (wMdX md cI 0 mK ((mR mr mc (mPinsAll mr mc mK mD) mK mD k (mc k) (j + 1)).1) mD mr mw my mC mk ms mu mt mp mb me q30 mD (mPinsAll mr mc mK mD)) _ ∧ va_D A (wMdX md cI 0 mK ((mR mr mc (mPinsAll mr mc mK mD) mK mD k (mc k) (j + 1)).1) mD mr mw my mC mk ms mu mt mp mb me q30 mD (mPinsAll mr mc mK mD)) ∧ va_S A s.heap _ _ ∧ lv_has _ 12 [(7, .int (nI (j + 1))), (6, .int ((mR mr mc (mPinsAll mr mc mK mD) mK mD k (mc k) (j + 1)).2.2.2)), (5, .int ((mR mr mc (mPinsAll mr mc mK mD) mK mD k (mc k) (j + 1)).2.2.1)), (4, .int ((mR mr mc (mPinsAll mr mc mK mD) mK mD k (mc k) (j + 1)).2.1)), (3, .ref q30), (2, .int (mc k)), (0, .ref (md 0)), (1, .int (nI k))]
                          rw [eq_6, eq_5, eq_4, eqw_mc]
                          exact ⟨hP, hD, hS, lv_sub hl [0, 1, 2, 3, 7, 8, 9, 10] rfl⟩
                        · refine lv_iload hx hb dX3_replace_215 (lv_at hl 2 rfl) ?_
                          refine lv_iload hx hb dX3_replace_217 (lv_at hl 5 rfl) ?_
                          refine lv_icmp_gt (tgt := 251) hx hb dX3_replace_219 (by decide) (fun c_219 => ?_) (fun c_219 => ?_)
                          · refine lv_iinc (v := nI (j + 1)) (lv' := [(7, .int (nI (j + 1))), (11, .int (nI mD)), (10, .int (mTurned mr (upd (mR mr mc (mPinsAll mr mc mK mD) mK mD k (mc k) j).1 k (nI j)) (mPinsAll mr mc mK mD) mK mD)), (9, .int (mStrays mr (upd ((mR mr mc (mPinsAll mr mc mK mD) mK mD k (mc k) j).1) k (nI j)) mK mD mK)), (6, .int ((mR mr mc (mPinsAll mr mc mK mD) mK mD k (mc k) j).2.2.2)), (5, .int ((mR mr mc (mPinsAll mr mc mK mD) mK mD k (mc k) j).2.2.1)), (4, .int ((mR mr mc (mPinsAll mr mc mK mD) mK mD k (mc k) j).2.1)), (3, .ref q30), (2, .int (mc k)), (0, .ref (md 0)), (1, .int (nI k))]) hx hb dX3_replace_251 hl (k := 3) rfl (kc_inc j) (by decide) rfl (fun ls hl => ?_)
                            refine lv_goto (tgt := 73) hx hb dX3_replace_254 (by decide) ?_
                            refine ih_73 _ _ _ hlt_73 ?_
                            have eq_6 : (mR mr mc (mPinsAll mr mc mK mD) mK mD k (mc k) (j + 1)).2.2.2 = (mR mr mc (mPinsAll mr mc mK mD) mK mD k (mc k) j).2.2.2 := by rw [mR_s]; simp only [mRStep, if_pos c_10, if_pos c_138, if_pos c_157, if_neg c_212, if_pos c_219]
                            have eq_5 : (mR mr mc (mPinsAll mr mc mK mD) mK mD k (mc k) (j + 1)).2.2.1 = (mR mr mc (mPinsAll mr mc mK mD) mK mD k (mc k) j).2.2.1 := by rw [mR_s]; simp only [mRStep, if_pos c_10, if_pos c_138, if_pos c_157, if_neg c_212, if_pos c_219]
                            have eq_4 : (mR mr mc (mPinsAll mr mc mK mD) mK mD k (mc k) (j + 1)).2.1 = (mR mr mc (mPinsAll mr mc mK mD) mK mD k (mc k) j).2.1 := by rw [mR_s]; simp only [mRStep, if_pos c_10, if_pos c_138, if_pos c_157, if_neg c_212, if_pos c_219]
                            have eqw_mc : (mR mr mc (mPinsAll mr mc mK mD) mK mD k (mc k) (j + 1)).1 = upd ((mR mr mc (mPinsAll mr mc mK mD) mK mD k (mc k) j).1) k (nI j) := by rw [mR_s]; simp only [mRStep, if_pos c_10, if_pos c_138, if_pos c_157, if_neg c_212, if_pos c_219]
                            show va_P D vwCl (wMdX md cI 0 mK ((mR mr mc (mPinsAll mr mc mK mD) mK mD k (mc k) (j + 1)).1) mD mr mw my mC mk ms mu mt mp mb me q30 mD (mPinsAll mr mc mK mD)) _ ∧ va_D A (wMdX md cI 0 mK ((mR mr mc (mPinsAll mr mc mK mD) mK mD k (mc k) (j + 1)).1) mD mr mw my mC mk ms mu mt mp mb me q30 mD (mPinsAll mr mc mK mD)) ∧ va_S A s.heap _ _ ∧ lv_has _ 12 [(7, .int (nI (j + 1))), (6, .int ((mR mr mc (mPinsAll mr mc mK mD) mK mD k (mc k) (j + 1)).2.2.2)), (5, .int ((mR mr mc (mPinsAll mr mc mK mD) mK mD k (mc k) (j + 1)).2.2.1)), (4, .int ((mR mr mc (mPinsAll mr mc mK mD) mK mD k (mc k) (j + 1)).2.1)), (3, .ref q30), (2, .int (mc k)), (0, .ref (md 0)), (1, .int (nI k))]
                            rw [eq_6, eq_5, eq_4, eqw_mc]
                            exact ⟨hP, hD, hS, lv_sub hl [0, 4, 5, 6, 7, 8, 9, 10] rfl⟩
                          · refine lv_iload hx hb dX3_replace_222 (lv_at hl 2 rfl) ?_
                            refine lv_iload hx hb dX3_replace_224 (lv_at hl 5 rfl) ?_
                            refine lv_icmp_ne (tgt := 239) hx hb dX3_replace_226 (by decide) (fun c_226 => ?_) (fun c_226 => ?_)
                            · refine lv_iload hx hb dX3_replace_239 (lv_at hl 3 rfl) ?_
                              refine lv_istore (lv' := [(4, .int (nI j)), (11, .int (nI mD)), (10, .int (mTurned mr (upd (mR mr mc (mPinsAll mr mc mK mD) mK mD k (mc k) j).1 k (nI j)) (mPinsAll mr mc mK mD) mK mD)), (9, .int (mStrays mr (upd ((mR mr mc (mPinsAll mr mc mK mD) mK mD k (mc k) j).1) k (nI j)) mK mD mK)), (7, .int (nI j)), (6, .int ((mR mr mc (mPinsAll mr mc mK mD) mK mD k (mc k) j).2.2.2)), (5, .int ((mR mr mc (mPinsAll mr mc mK mD) mK mD k (mc k) j).2.2.1)), (3, .ref q30), (2, .int (mc k)), (0, .ref (md 0)), (1, .int (nI k))]) hx hb dX3_replace_241 hl (by decide) rfl (fun ls hl => ?_)
                              refine lv_iload hx hb dX3_replace_243 (lv_at hl 3 rfl) ?_
                              refine lv_istore (lv' := [(5, .int (mStrays mr (upd ((mR mr mc (mPinsAll mr mc mK mD) mK mD k (mc k) j).1) k (nI j)) mK mD mK)), (4, .int (nI j)), (11, .int (nI mD)), (10, .int (mTurned mr (upd (mR mr mc (mPinsAll mr mc mK mD) mK mD k (mc k) j).1 k (nI j)) (mPinsAll mr mc mK mD) mK mD)), (9, .int (mStrays mr (upd ((mR mr mc (mPinsAll mr mc mK mD) mK mD k (mc k) j).1) k (nI j)) mK mD mK)), (7, .int (nI j)), (6, .int ((mR mr mc (mPinsAll mr mc mK mD) mK mD k (mc k) j).2.2.2)), (3, .ref q30), (2, .int (mc k)), (0, .ref (md 0)), (1, .int (nI k))]) hx hb dX3_replace_245 hl (by decide) rfl (fun ls hl => ?_)
                              refine lv_iload hx hb dX3_replace_247 (lv_at hl 3 rfl) ?_
                              refine lv_istore (lv' := [(6, .int (mTurned mr (upd (mR mr mc (mPinsAll mr mc mK mD) mK mD k (mc k) j).1 k (nI j)) (mPinsAll mr mc mK mD) mK mD)), (5, .int (mStrays mr (upd ((mR mr mc (mPinsAll mr mc mK mD) mK mD k (mc k) j).1) k (nI j)) mK mD mK)), (4, .int (nI j)), (11, .int (nI mD)), (10, .int (mTurned mr (upd (mR mr mc (mPinsAll mr mc mK mD) mK mD k (mc k) j).1 k (nI j)) (mPinsAll mr mc mK mD) mK mD)), (9, .int (mStrays mr (upd ((mR mr mc (mPinsAll mr mc mK mD) mK mD k (mc k) j).1) k (nI j)) mK mD mK)), (7, .int (nI j)), (3, .ref q30), (2, .int (mc k)), (0, .ref (md 0)), (1, .int (nI k))]) hx hb dX3_replace_249 hl (by decide) rfl (fun ls hl => ?_)
                              refine lv_iinc (v := nI (j + 1)) (lv' := [(7, .int (nI (j + 1))), (6, .int (mTurned mr (upd (mR mr mc (mPinsAll mr mc mK mD) mK mD k (mc k) j).1 k (nI j)) (mPinsAll mr mc mK mD) mK mD)), (5, .int (mStrays mr (upd ((mR mr mc (mPinsAll mr mc mK mD) mK mD k (mc k) j).1) k (nI j)) mK mD mK)), (4, .int (nI j)), (11, .int (nI mD)), (10, .int (mTurned mr (upd (mR mr mc (mPinsAll mr mc mK mD) mK mD k (mc k) j).1 k (nI j)) (mPinsAll mr mc mK mD) mK mD)), (9, .int (mStrays mr (upd ((mR mr mc (mPinsAll mr mc mK mD) mK mD k (mc k) j).1) k (nI j)) mK mD mK)), (3, .ref q30), (2, .int (mc k)), (0, .ref (md 0)), (1, .int (nI k))]) hx hb dX3_replace_251 hl (k := 6) rfl (kc_inc j) (by decide) rfl (fun ls hl => ?_)
                              refine lv_goto (tgt := 73) hx hb dX3_replace_254 (by decide) ?_
                              refine ih_73 _ _ _ hlt_73 ?_
                              have eq_6 : (mR mr mc (mPinsAll mr mc mK mD) mK mD k (mc k) (j + 1)).2.2.2 = mTurned mr (upd (mR mr mc (mPinsAll mr mc mK mD) mK mD k (mc k) j).1 k (nI j)) (mPinsAll mr mc mK mD) mK mD := by rw [mR_s]; simp only [mRStep, if_pos c_10, if_pos c_138, if_pos c_157, if_neg c_212, if_neg c_219, if_neg c_226]
                              have eq_5 : (mR mr mc (mPinsAll mr mc mK mD) mK mD k (mc k) (j + 1)).2.2.1 = mStrays mr (upd ((mR mr mc (mPinsAll mr mc mK mD) mK mD k (mc k) j).1) k (nI j)) mK mD mK := by rw [mR_s]; simp only [mRStep, if_pos c_10, if_pos c_138, if_pos c_157, if_neg c_212, if_neg c_219, if_neg c_226]
                              have eq_4 : (mR mr mc (mPinsAll mr mc mK mD) mK mD k (mc k) (j + 1)).2.1 = nI j := by rw [mR_s]; simp only [mRStep, if_pos c_10, if_pos c_138, if_pos c_157, if_neg c_212, if_neg c_219, if_neg c_226]
                              have eqw_mc : (mR mr mc (mPinsAll mr mc mK mD) mK mD k (mc k) (j + 1)).1 = upd ((mR mr mc (mPinsAll mr mc mK mD) mK mD k (mc k) j).1) k (nI j) := by rw [mR_s]; simp only [mRStep, if_pos c_10, if_pos c_138, if_pos c_157, if_neg c_212, if_neg c_219, if_neg c_226]
                              show va_P D vwCl (wMdX md cI 0 mK ((mR mr mc (mPinsAll mr mc mK mD) mK mD k (mc k) (j + 1)).1) mD mr mw my mC mk ms mu mt mp mb me q30 mD (mPinsAll mr mc mK mD)) _ ∧ va_D A (wMdX md cI 0 mK ((mR mr mc (mPinsAll mr mc mK mD) mK mD k (mc k) (j + 1)).1) mD mr mw my mC mk ms mu mt mp mb me q30 mD (mPinsAll mr mc mK mD)) ∧ va_S A s.heap _ _ ∧ lv_has _ 12 [(7, .int (nI (j + 1))), (6, .int ((mR mr mc (mPinsAll mr mc mK mD) mK mD k (mc k) (j + 1)).2.2.2)), (5, .int ((mR mr mc (mPinsAll mr mc mK mD) mK mD k (mc k) (j + 1)).2.2.1)), (4, .int ((mR mr mc (mPinsAll mr mc mK mD) mK mD k (mc k) (j + 1)).2.1)), (3, .ref q30), (2, .int (mc k)), (0, .ref (md 0)), (1, .int (nI k))]
                              rw [eq_6, eq_5, eq_4, eqw_mc]
                              exact ⟨hP, hD, hS, lv_sub hl [0, 1, 2, 3, 7, 8, 9, 10] rfl⟩
                            · refine lv_iload hx hb dX3_replace_229 (lv_at hl 1 rfl) ?_
                              refine lv_iload hx hb dX3_replace_231 (lv_at hl 4 rfl) ?_
                              refine lv_icmp_lt (tgt := 239) hx hb dX3_replace_233 (by decide) (fun c_233 => ?_) (fun c_233 => ?_)
                              · refine lv_iload hx hb dX3_replace_239 (lv_at hl 3 rfl) ?_
                                refine lv_istore (lv' := [(4, .int (nI j)), (11, .int (nI mD)), (10, .int (mTurned mr (upd (mR mr mc (mPinsAll mr mc mK mD) mK mD k (mc k) j).1 k (nI j)) (mPinsAll mr mc mK mD) mK mD)), (9, .int (mStrays mr (upd ((mR mr mc (mPinsAll mr mc mK mD) mK mD k (mc k) j).1) k (nI j)) mK mD mK)), (7, .int (nI j)), (6, .int ((mR mr mc (mPinsAll mr mc mK mD) mK mD k (mc k) j).2.2.2)), (5, .int ((mR mr mc (mPinsAll mr mc mK mD) mK mD k (mc k) j).2.2.1)), (3, .ref q30), (2, .int (mc k)), (0, .ref (md 0)), (1, .int (nI k))]) hx hb dX3_replace_241 hl (by decide) rfl (fun ls hl => ?_)
                                refine lv_iload hx hb dX3_replace_243 (lv_at hl 3 rfl) ?_
                                refine lv_istore (lv' := [(5, .int (mStrays mr (upd ((mR mr mc (mPinsAll mr mc mK mD) mK mD k (mc k) j).1) k (nI j)) mK mD mK)), (4, .int (nI j)), (11, .int (nI mD)), (10, .int (mTurned mr (upd (mR mr mc (mPinsAll mr mc mK mD) mK mD k (mc k) j).1 k (nI j)) (mPinsAll mr mc mK mD) mK mD)), (9, .int (mStrays mr (upd ((mR mr mc (mPinsAll mr mc mK mD) mK mD k (mc k) j).1) k (nI j)) mK mD mK)), (7, .int (nI j)), (6, .int ((mR mr mc (mPinsAll mr mc mK mD) mK mD k (mc k) j).2.2.2)), (3, .ref q30), (2, .int (mc k)), (0, .ref (md 0)), (1, .int (nI k))]) hx hb dX3_replace_245 hl (by decide) rfl (fun ls hl => ?_)
                                refine lv_iload hx hb dX3_replace_247 (lv_at hl 3 rfl) ?_
                                refine lv_istore (lv' := [(6, .int (mTurned mr (upd (mR mr mc (mPinsAll mr mc mK mD) mK mD k (mc k) j).1 k (nI j)) (mPinsAll mr mc mK mD) mK mD)), (5, .int (mStrays mr (upd ((mR mr mc (mPinsAll mr mc mK mD) mK mD k (mc k) j).1) k (nI j)) mK mD mK)), (4, .int (nI j)), (11, .int (nI mD)), (10, .int (mTurned mr (upd (mR mr mc (mPinsAll mr mc mK mD) mK mD k (mc k) j).1 k (nI j)) (mPinsAll mr mc mK mD) mK mD)), (9, .int (mStrays mr (upd ((mR mr mc (mPinsAll mr mc mK mD) mK mD k (mc k) j).1) k (nI j)) mK mD mK)), (7, .int (nI j)), (3, .ref q30), (2, .int (mc k)), (0, .ref (md 0)), (1, .int (nI k))]) hx hb dX3_replace_249 hl (by decide) rfl (fun ls hl => ?_)
                                refine lv_iinc (v := nI (j + 1)) (lv' := [(7, .int (nI (j + 1))), (6, .int (mTurned mr (upd (mR mr mc (mPinsAll mr mc mK mD) mK mD k (mc k) j).1 k (nI j)) (mPinsAll mr mc mK mD) mK mD)), (5, .int (mStrays mr (upd ((mR mr mc (mPinsAll mr mc mK mD) mK mD k (mc k) j).1) k (nI j)) mK mD mK)), (4, .int (nI j)), (11, .int (nI mD)), (10, .int (mTurned mr (upd (mR mr mc (mPinsAll mr mc mK mD) mK mD k (mc k) j).1 k (nI j)) (mPinsAll mr mc mK mD) mK mD)), (9, .int (mStrays mr (upd ((mR mr mc (mPinsAll mr mc mK mD) mK mD k (mc k) j).1) k (nI j)) mK mD mK)), (3, .ref q30), (2, .int (mc k)), (0, .ref (md 0)), (1, .int (nI k))]) hx hb dX3_replace_251 hl (k := 6) rfl (kc_inc j) (by decide) rfl (fun ls hl => ?_)
                                refine lv_goto (tgt := 73) hx hb dX3_replace_254 (by decide) ?_
                                refine ih_73 _ _ _ hlt_73 ?_
                                have eq_6 : (mR mr mc (mPinsAll mr mc mK mD) mK mD k (mc k) (j + 1)).2.2.2 = mTurned mr (upd (mR mr mc (mPinsAll mr mc mK mD) mK mD k (mc k) j).1 k (nI j)) (mPinsAll mr mc mK mD) mK mD := by rw [mR_s]; simp only [mRStep, if_pos c_10, if_pos c_138, if_pos c_157, if_neg c_212, if_neg c_219, if_pos c_226, if_pos c_233]
                                have eq_5 : (mR mr mc (mPinsAll mr mc mK mD) mK mD k (mc k) (j + 1)).2.2.1 = mStrays mr (upd ((mR mr mc (mPinsAll mr mc mK mD) mK mD k (mc k) j).1) k (nI j)) mK mD mK := by rw [mR_s]; simp only [mRStep, if_pos c_10, if_pos c_138, if_pos c_157, if_neg c_212, if_neg c_219, if_pos c_226, if_pos c_233]
                                have eq_4 : (mR mr mc (mPinsAll mr mc mK mD) mK mD k (mc k) (j + 1)).2.1 = nI j := by rw [mR_s]; simp only [mRStep, if_pos c_10, if_pos c_138, if_pos c_157, if_neg c_212, if_neg c_219, if_pos c_226, if_pos c_233]
                                have eqw_mc : (mR mr mc (mPinsAll mr mc mK mD) mK mD k (mc k) (j + 1)).1 = upd ((mR mr mc (mPinsAll mr mc mK mD) mK mD k (mc k) j).1) k (nI j) := by rw [mR_s]; simp only [mRStep, if_pos c_10, if_pos c_138, if_pos c_157, if_neg c_212, if_neg c_219, if_pos c_226, if_pos c_233]
                                show va_P D vwCl (wMdX md cI 0 mK ((mR mr mc (mPinsAll mr mc mK mD) mK mD k (mc k) (j + 1)).1) mD mr mw my mC mk ms mu mt mp mb me q30 mD (mPinsAll mr mc mK mD)) _ ∧ va_D A (wMdX md cI 0 mK ((mR mr mc (mPinsAll mr mc mK mD) mK mD k (mc k) (j + 1)).1) mD mr mw my mC mk ms mu mt mp mb me q30 mD (mPinsAll mr mc mK mD)) ∧ va_S A s.heap _ _ ∧ lv_has _ 12 [(7, .int (nI (j + 1))), (6, .int ((mR mr mc (mPinsAll mr mc mK mD) mK mD k (mc k) (j + 1)).2.2.2)), (5, .int ((mR mr mc (mPinsAll mr mc mK mD) mK mD k (mc k) (j + 1)).2.2.1)), (4, .int ((mR mr mc (mPinsAll mr mc mK mD) mK mD k (mc k) (j + 1)).2.1)), (3, .ref q30), (2, .int (mc k)), (0, .ref (md 0)), (1, .int (nI k))]
                                rw [eq_6, eq_5, eq_4, eqw_mc]
                                exact ⟨hP, hD, hS, lv_sub hl [0, 1, 2, 3, 7, 8, 9, 10] rfl⟩
                              · refine lv_goto (tgt := 251) hx hb dX3_replace_236 (by decide) ?_
                                refine lv_iinc (v := nI (j + 1)) (lv' := [(7, .int (nI (j + 1))), (11, .int (nI mD)), (10, .int (mTurned mr (upd (mR mr mc (mPinsAll mr mc mK mD) mK mD k (mc k) j).1 k (nI j)) (mPinsAll mr mc mK mD) mK mD)), (9, .int (mStrays mr (upd ((mR mr mc (mPinsAll mr mc mK mD) mK mD k (mc k) j).1) k (nI j)) mK mD mK)), (6, .int ((mR mr mc (mPinsAll mr mc mK mD) mK mD k (mc k) j).2.2.2)), (5, .int ((mR mr mc (mPinsAll mr mc mK mD) mK mD k (mc k) j).2.2.1)), (4, .int ((mR mr mc (mPinsAll mr mc mK mD) mK mD k (mc k) j).2.1)), (3, .ref q30), (2, .int (mc k)), (0, .ref (md 0)), (1, .int (nI k))]) hx hb dX3_replace_251 hl (k := 3) rfl (kc_inc j) (by decide) rfl (fun ls hl => ?_)
                                refine lv_goto (tgt := 73) hx hb dX3_replace_254 (by decide) ?_
                                refine ih_73 _ _ _ hlt_73 ?_
                                have eq_6 : (mR mr mc (mPinsAll mr mc mK mD) mK mD k (mc k) (j + 1)).2.2.2 = (mR mr mc (mPinsAll mr mc mK mD) mK mD k (mc k) j).2.2.2 := by rw [mR_s]; simp only [mRStep, if_pos c_10, if_pos c_138, if_pos c_157, if_neg c_212, if_neg c_219, if_pos c_226, if_neg c_233]
                                have eq_5 : (mR mr mc (mPinsAll mr mc mK mD) mK mD k (mc k) (j + 1)).2.2.1 = (mR mr mc (mPinsAll mr mc mK mD) mK mD k (mc k) j).2.2.1 := by rw [mR_s]; simp only [mRStep, if_pos c_10, if_pos c_138, if_pos c_157, if_neg c_212, if_neg c_219, if_pos c_226, if_neg c_233]
                                have eq_4 : (mR mr mc (mPinsAll mr mc mK mD) mK mD k (mc k) (j + 1)).2.1 = (mR mr mc (mPinsAll mr mc mK mD) mK mD k (mc k) j).2.1 := by rw [mR_s]; simp only [mRStep, if_pos c_10, if_pos c_138, if_pos c_157, if_neg c_212, if_neg c_219, if_pos c_226, if_neg c_233]
                                have eqw_mc : (mR mr mc (mPinsAll mr mc mK mD) mK mD k (mc k) (j + 1)).1 = upd ((mR mr mc (mPinsAll mr mc mK mD) mK mD k (mc k) j).1) k (nI j) := by rw [mR_s]; simp only [mRStep, if_pos c_10, if_pos c_138, if_pos c_157, if_neg c_212, if_neg c_219, if_pos c_226, if_neg c_233]
                                show va_P D vwCl (wMdX md cI 0 mK ((mR mr mc (mPinsAll mr mc mK mD) mK mD k (mc k) (j + 1)).1) mD mr mw my mC mk ms mu mt mp mb me q30 mD (mPinsAll mr mc mK mD)) _ ∧ va_D A (wMdX md cI 0 mK ((mR mr mc (mPinsAll mr mc mK mD) mK mD k (mc k) (j + 1)).1) mD mr mw my mC mk ms mu mt mp mb me q30 mD (mPinsAll mr mc mK mD)) ∧ va_S A s.heap _ _ ∧ lv_has _ 12 [(7, .int (nI (j + 1))), (6, .int ((mR mr mc (mPinsAll mr mc mK mD) mK mD k (mc k) (j + 1)).2.2.2)), (5, .int ((mR mr mc (mPinsAll mr mc mK mD) mK mD k (mc k) (j + 1)).2.2.1)), (4, .int ((mR mr mc (mPinsAll mr mc mK mD) mK mD k (mc k) (j + 1)).2.1)), (3, .ref q30), (2, .int (mc k)), (0, .ref (md 0)), (1, .int (nI k))]
                                rw [eq_6, eq_5, eq_4, eqw_mc]
                                exact ⟨hP, hD, hS, lv_sub hl [0, 4, 5, 6, 7, 8, 9, 10] rfl⟩
                      · refine lv_iload hx hb dX3_replace_184 (lv_at hl 1 rfl) ?_
                        refine lv_aload_n hx hb dX3_replace_186 rfl (lv_at hl 7 rfl) ?_
                        refine lv_iload hx hb dX3_replace_187 (lv_at hl 0 rfl) ?_
                        refine kc_ald (i := i) (n := mD) hx hb hK hP 10 0 rfl rfl (by omega) (by omega) dX3_replace_189 ?_
                        refine lv_aload_n hx hb dX3_replace_190 rfl (lv_at hl 9 rfl) ?_
                        refine lv_iload hx hb dX3_replace_191 (lv_at hl 0 rfl) ?_
                        refine kc_rVi (As := [.int (nI i)]) (rest := [.int ((mPinsAll mr mc mK mD) i), .int (mTurned mr (upd (mR mr mc (mPinsAll mr mc mK mD) mK mD k (mc k) j).1 k (nI j)) (mPinsAll mr mc mK mD) mK i)]) ⟨hx, hb, hml, hown, hts⟩ (c_X3_allPins l D md cI 0 mK (upd ((mR mr mc (mPinsAll mr mc mK mD) mK mD k (mc k) j).1) k (nI j)) mD mr mw my mC mk ms mu mt mp mb me i hK8 (by first | assumption | omega)) (cwV 1 hts gX3_replace_X3_allPins rfl rfl rfl (by decide +kernel) ⟨Nat.le_of_ble_eq_true rfl, Nat.le_of_ble_eq_true rfl⟩) hK hP [0, 1, 2, 3, 4, 5, 6, 7, 8, 9] [0] rfl rfl 0 rfl rfl rfl rfl hl.1 rfl (Nat.le_of_ble_eq_true rfl) dX3_replace_193 ⟨Nat.le_of_ble_eq_true rfl, Nat.le_of_ble_eq_true rfl⟩ ?_
                        refine lv_ixor hx hb dX3_replace_196 ?_
                        refine kc_rSi (As := [.int (((mPinsAll mr mc mK mD) i) ^^^ (mAll mr (upd ((mR mr mc (mPinsAll mr mc mK mD) mK mD k (mc k) j).1) k (nI j)) mK i 5))]) (rest := [.int (mTurned mr (upd (mR mr mc (mPinsAll mr mc mK mD) mK mD k (mc k) j).1 k (nI j)) (mPinsAll mr mc mK mD) mK i)]) ⟨hx, hb, hml, hown, hts⟩ (c_J6_bitCount_0f7a4 l (((mPinsAll mr mc mK mD) i) ^^^ (mAll mr (upd ((mR mr mc (mPinsAll mr mc mK mD) mK mD k (mc k) j).1) k (nI j)) mK i 5)) ) (va_cwS 1 hts gX3_replace_J6_bitCount_0f7a4 rfl rfl rfl (by decide +kernel) ⟨Nat.le_of_ble_eq_true rfl, Nat.le_of_ble_eq_true rfl⟩) rfl hl.1 rfl (Nat.le_of_ble_eq_true rfl) dX3_replace_197 ⟨Nat.le_of_ble_eq_true rfl, Nat.le_of_ble_eq_true rfl⟩ ?_
                        refine lv_iadd hx hb dX3_replace_200 ?_
                        refine lv_istore (lv' := [(10, .int ((mTurned mr (upd (mR mr mc (mPinsAll mr mc mK mD) mK mD k (mc k) j).1 k (nI j)) (mPinsAll mr mc mK mD) mK i) + (jPop (((mPinsAll mr mc mK mD) i) ^^^ (mAll mr (upd ((mR mr mc (mPinsAll mr mc mK mD) mK mD k (mc k) j).1) k (nI j)) mK i 5))))), (11, .int (nI i)), (9, .int (mStrays mr (upd ((mR mr mc (mPinsAll mr mc mK mD) mK mD k (mc k) j).1) k (nI j)) mK mD mK)), (7, .int (nI j)), (6, .int ((mR mr mc (mPinsAll mr mc mK mD) mK mD k (mc k) j).2.2.2)), (5, .int ((mR mr mc (mPinsAll mr mc mK mD) mK mD k (mc k) j).2.2.1)), (4, .int ((mR mr mc (mPinsAll mr mc mK mD) mK mD k (mc k) j).2.1)), (3, .ref q30), (2, .int (mc k)), (0, .ref (md 0)), (1, .int (nI k))]) hx hb dX3_replace_201 hl (by decide) rfl (fun ls hl => ?_)
                        refine lv_iinc (v := nI (i + 1)) (lv' := [(11, .int (nI (i + 1))), (10, .int ((mTurned mr (upd (mR mr mc (mPinsAll mr mc mK mD) mK mD k (mc k) j).1 k (nI j)) (mPinsAll mr mc mK mD) mK i) + (jPop (((mPinsAll mr mc mK mD) i) ^^^ (mAll mr (upd ((mR mr mc (mPinsAll mr mc mK mD) mK mD k (mc k) j).1) k (nI j)) mK i 5))))), (9, .int (mStrays mr (upd ((mR mr mc (mPinsAll mr mc mK mD) mK mD k (mc k) j).1) k (nI j)) mK mD mK)), (7, .int (nI j)), (6, .int ((mR mr mc (mPinsAll mr mc mK mD) mK mD k (mc k) j).2.2.2)), (5, .int ((mR mr mc (mPinsAll mr mc mK mD) mK mD k (mc k) j).2.2.1)), (4, .int ((mR mr mc (mPinsAll mr mc mK mD) mK mD k (mc k) j).2.1)), (3, .ref q30), (2, .int (mc k)), (0, .ref (md 0)), (1, .int (nI k))]) hx hb dX3_replace_203 hl (k := 1) rfl (kc_inc i) (by decide) rfl (fun ls hl => ?_)
                        refine lv_goto (tgt := 175) hx hb dX3_replace_206 (by decide) ?_
                        refine ih_175 _ hlt_175 ?_
                        have eq_10 : mTurned mr (upd (mR mr mc (mPinsAll mr mc mK mD) mK mD k (mc k) j).1 k (nI j)) (mPinsAll mr mc mK mD) mK (i + 1) = (mTurned mr (upd (mR mr mc (mPinsAll mr mc mK mD) mK mD k (mc k) j).1 k (nI j)) (mPinsAll mr mc mK mD) mK i) + (jPop (((mPinsAll mr mc mK mD) i) ^^^ (mAll mr (upd ((mR mr mc (mPinsAll mr mc mK mD) mK mD k (mc k) j).1) k (nI j)) mK i 5))) := rfl
                        show lv_has _ 12 [(11, .int (nI (i + 1))), (10, .int (mTurned mr (upd (mR mr mc (mPinsAll mr mc mK mD) mK mD k (mc k) j).1 k (nI j)) (mPinsAll mr mc mK mD) mK (i + 1))), (9, .int (mStrays mr (upd ((mR mr mc (mPinsAll mr mc mK mD) mK mD k (mc k) j).1) k (nI j)) mK mD mK)), (7, .int (nI j)), (6, .int ((mR mr mc (mPinsAll mr mc mK mD) mK mD k (mc k) j).2.2.2)), (5, .int ((mR mr mc (mPinsAll mr mc mK mD) mK mD k (mc k) j).2.2.1)), (4, .int ((mR mr mc (mPinsAll mr mc mK mD) mK mD k (mc k) j).2.1)), (3, .ref q30), (2, .int (mc k)), (0, .ref (md 0)), (1, .int (nI k))]
                        rw [eq_10]
                        exact lv_sub hl [0, 1, 2, 3, 4, 5, 6, 7, 8, 9, 10] rfl
                    · exact lv_sub hl [0, 1, 2, 4, 5, 6, 7, 8, 9, 10, 11] rfl
                  · refine lv_goto (tgt := 251) hx hb dX3_replace_160 (by decide) ?_
                    refine lv_iinc (v := nI (j + 1)) (lv' := [(7, .int (nI (j + 1))), (9, .int (nI mK)), (8, .int (bI (mFree (mR mr mc (mPinsAll mr mc mK mD) mK mD k (mc k) j).1 k (mc k) (nI j) mK))), (6, .int ((mR mr mc (mPinsAll mr mc mK mD) mK mD k (mc k) j).2.2.2)), (5, .int ((mR mr mc (mPinsAll mr mc mK mD) mK mD k (mc k) j).2.2.1)), (4, .int ((mR mr mc (mPinsAll mr mc mK mD) mK mD k (mc k) j).2.1)), (3, .ref q30), (2, .int (mc k)), (0, .ref (md 0)), (1, .int (nI k))]) hx hb dX3_replace_251 hl (k := 2) rfl (kc_inc j) (by decide) rfl (fun ls hl => ?_)
                    refine lv_goto (tgt := 73) hx hb dX3_replace_254 (by decide) ?_
                    refine ih_73 _ _ _ hlt_73 ?_
                    have eq_6 : (mR mr mc (mPinsAll mr mc mK mD) mK mD k (mc k) (j + 1)).2.2.2 = (mR mr mc (mPinsAll mr mc mK mD) mK mD k (mc k) j).2.2.2 := by rw [mR_s]; simp only [mRStep, if_pos c_10, if_pos c_138, if_neg c_157]
                    have eq_5 : (mR mr mc (mPinsAll mr mc mK mD) mK mD k (mc k) (j + 1)).2.2.1 = (mR mr mc (mPinsAll mr mc mK mD) mK mD k (mc k) j).2.2.1 := by rw [mR_s]; simp only [mRStep, if_pos c_10, if_pos c_138, if_neg c_157]
                    have eq_4 : (mR mr mc (mPinsAll mr mc mK mD) mK mD k (mc k) (j + 1)).2.1 = (mR mr mc (mPinsAll mr mc mK mD) mK mD k (mc k) j).2.1 := by rw [mR_s]; simp only [mRStep, if_pos c_10, if_pos c_138, if_neg c_157]
                    have eqw_mc : (mR mr mc (mPinsAll mr mc mK mD) mK mD k (mc k) (j + 1)).1 = upd ((mR mr mc (mPinsAll mr mc mK mD) mK mD k (mc k) j).1) k (nI j) := by rw [mR_s]; simp only [mRStep, if_pos c_10, if_pos c_138, if_neg c_157]
                    show va_P D vwCl (wMdX md cI 0 mK ((mR mr mc (mPinsAll mr mc mK mD) mK mD k (mc k) (j + 1)).1) mD mr mw my mC mk ms mu mt mp mb me q30 mD (mPinsAll mr mc mK mD)) _ ∧ va_D A (wMdX md cI 0 mK ((mR mr mc (mPinsAll mr mc mK mD) mK mD k (mc k) (j + 1)).1) mD mr mw my mC mk ms mu mt mp mb me q30 mD (mPinsAll mr mc mK mD)) ∧ va_S A s.heap _ _ ∧ lv_has _ 12 [(7, .int (nI (j + 1))), (6, .int ((mR mr mc (mPinsAll mr mc mK mD) mK mD k (mc k) (j + 1)).2.2.2)), (5, .int ((mR mr mc (mPinsAll mr mc mK mD) mK mD k (mc k) (j + 1)).2.2.1)), (4, .int ((mR mr mc (mPinsAll mr mc mK mD) mK mD k (mc k) (j + 1)).2.1)), (3, .ref q30), (2, .int (mc k)), (0, .ref (md 0)), (1, .int (nI k))]
                    rw [eq_6, eq_5, eq_4, eqw_mc]
                    exact ⟨hP, hD, hS, lv_sub hl [0, 3, 4, 5, 6, 7, 8, 9] rfl⟩
                · refine lv_goto (tgt := 251) hx hb dX3_replace_141 (by decide) ?_
                  refine lv_iinc (v := nI (j + 1)) (lv' := [(7, .int (nI (j + 1))), (9, .int (nI mK)), (8, .int (bI (mFree (mR mr mc (mPinsAll mr mc mK mD) mK mD k (mc k) j).1 k (mc k) (nI j) mK))), (6, .int ((mR mr mc (mPinsAll mr mc mK mD) mK mD k (mc k) j).2.2.2)), (5, .int ((mR mr mc (mPinsAll mr mc mK mD) mK mD k (mc k) j).2.2.1)), (4, .int ((mR mr mc (mPinsAll mr mc mK mD) mK mD k (mc k) j).2.1)), (3, .ref q30), (2, .int (mc k)), (0, .ref (md 0)), (1, .int (nI k))]) hx hb dX3_replace_251 hl (k := 2) rfl (kc_inc j) (by decide) rfl (fun ls hl => ?_)
                  refine lv_goto (tgt := 73) hx hb dX3_replace_254 (by decide) ?_
                  refine ih_73 _ _ _ hlt_73 ?_
                  have eq_6 : (mR mr mc (mPinsAll mr mc mK mD) mK mD k (mc k) (j + 1)).2.2.2 = (mR mr mc (mPinsAll mr mc mK mD) mK mD k (mc k) j).2.2.2 := by rw [mR_s]; simp only [mRStep, if_pos c_10, if_neg c_138]
                  have eq_5 : (mR mr mc (mPinsAll mr mc mK mD) mK mD k (mc k) (j + 1)).2.2.1 = (mR mr mc (mPinsAll mr mc mK mD) mK mD k (mc k) j).2.2.1 := by rw [mR_s]; simp only [mRStep, if_pos c_10, if_neg c_138]
                  have eq_4 : (mR mr mc (mPinsAll mr mc mK mD) mK mD k (mc k) (j + 1)).2.1 = (mR mr mc (mPinsAll mr mc mK mD) mK mD k (mc k) j).2.1 := by rw [mR_s]; simp only [mRStep, if_pos c_10, if_neg c_138]
                  have eqw_mc : (mR mr mc (mPinsAll mr mc mK mD) mK mD k (mc k) (j + 1)).1 = (mR mr mc (mPinsAll mr mc mK mD) mK mD k (mc k) j).1 := by rw [mR_s]; simp only [mRStep, if_pos c_10, if_neg c_138]
                  show va_P D vwCl (wMdX md cI 0 mK ((mR mr mc (mPinsAll mr mc mK mD) mK mD k (mc k) (j + 1)).1) mD mr mw my mC mk ms mu mt mp mb me q30 mD (mPinsAll mr mc mK mD)) _ ∧ va_D A (wMdX md cI 0 mK ((mR mr mc (mPinsAll mr mc mK mD) mK mD k (mc k) (j + 1)).1) mD mr mw my mC mk ms mu mt mp mb me q30 mD (mPinsAll mr mc mK mD)) ∧ va_S A s.heap _ _ ∧ lv_has _ 12 [(7, .int (nI (j + 1))), (6, .int ((mR mr mc (mPinsAll mr mc mK mD) mK mD k (mc k) (j + 1)).2.2.2)), (5, .int ((mR mr mc (mPinsAll mr mc mK mD) mK mD k (mc k) (j + 1)).2.2.1)), (4, .int ((mR mr mc (mPinsAll mr mc mK mD) mK mD k (mc k) (j + 1)).2.1)), (3, .ref q30), (2, .int (mc k)), (0, .ref (md 0)), (1, .int (nI k))]
                  rw [eq_6, eq_5, eq_4, eqw_mc]
                  exact ⟨hP, hD, hS, lv_sub hl [0, 3, 4, 5, 6, 7, 8, 9] rfl⟩
              · refine lv_iload hx hb dX3_replace_96 (lv_at hl 1 rfl) ?_
                refine kc_ifeqB (tgt := 127) hx hb dX3_replace_98 (by decide) (fun c_98 => ?_) (fun c_98 => ?_)
                · refine lv_iconst (v := 0) hx hb dX3_replace_127 (by decide) ?_
                  refine lv_istore (lv' := [(8, .int 0), (9, .int (nI i)), (7, .int (nI j)), (6, .int ((mR mr mc (mPinsAll mr mc mK mD) mK mD k (mc k) j).2.2.2)), (5, .int ((mR mr mc (mPinsAll mr mc mK mD) mK mD k (mc k) j).2.2.1)), (4, .int ((mR mr mc (mPinsAll mr mc mK mD) mK mD k (mc k) j).2.1)), (3, .ref q30), (2, .int (mc k)), (0, .ref (md 0)), (1, .int (nI k))]) hx hb dX3_replace_128 hl (by decide) rfl (fun ls hl => ?_)
                  refine lv_iinc (v := nI (i + 1)) (lv' := [(9, .int (nI (i + 1))), (8, .int 0), (7, .int (nI j)), (6, .int ((mR mr mc (mPinsAll mr mc mK mD) mK mD k (mc k) j).2.2.2)), (5, .int ((mR mr mc (mPinsAll mr mc mK mD) mK mD k (mc k) j).2.2.1)), (4, .int ((mR mr mc (mPinsAll mr mc mK mD) mK mD k (mc k) j).2.1)), (3, .ref q30), (2, .int (mc k)), (0, .ref (md 0)), (1, .int (nI k))]) hx hb dX3_replace_130 hl (k := 1) rfl (kc_inc i) (by decide) rfl (fun ls hl => ?_)
                  refine lv_goto (tgt := 87) hx hb dX3_replace_133 (by decide) ?_
                  refine ih_87 _ hlt_87 ?_
                  have eq_8 : bI (mFree (mR mr mc (mPinsAll mr mc mK mD) mK mD k (mc k) j).1 k (mc k) (nI j) (i + 1)) = 0 := by rw [mFree_s, kc_bf c_98]; rfl
                  show lv_has _ 12 [(9, .int (nI (i + 1))), (8, .int (bI (mFree (mR mr mc (mPinsAll mr mc mK mD) mK mD k (mc k) j).1 k (mc k) (nI j) (i + 1)))), (7, .int (nI j)), (6, .int ((mR mr mc (mPinsAll mr mc mK mD) mK mD k (mc k) j).2.2.2)), (5, .int ((mR mr mc (mPinsAll mr mc mK mD) mK mD k (mc k) j).2.2.1)), (4, .int ((mR mr mc (mPinsAll mr mc mK mD) mK mD k (mc k) j).2.1)), (3, .ref q30), (2, .int (mc k)), (0, .ref (md 0)), (1, .int (nI k))]
                  rw [eq_8]
                  exact lv_sub hl [0, 1, 2, 3, 4, 5, 6, 7, 8, 9] rfl
                · refine lv_iload hx hb dX3_replace_101 (lv_at hl 0 rfl) ?_
                  refine lv_iload_n hx hb dX3_replace_103 rfl (lv_at hl 9 rfl) ?_
                  refine lv_icmp_ne (tgt := 111) hx hb dX3_replace_104 (by decide) (fun c_104 => ?_) (fun c_104 => ?_)
                  · refine lv_aload_n hx hb dX3_replace_111 rfl (lv_at hl 8 rfl) ?_
                    refine va_get (D := D) (ci := 3) (v := .ref (md 1)) (C := RX3) (T := TX3) (N := 15) hx hb hts hinX3 hown hK.1 hP 0 rfl rfl 2 (by decide) hf9 (fun _ h9 => h9) rfl dX3_replace_112 ?_
                    refine lv_iload hx hb dX3_replace_115 (lv_at hl 0 rfl) ?_
                    refine kc_ald (i := i) (n := 8) hx hb hK hP 1 0 rfl rfl (by omega) (by decide) dX3_replace_117 ?_
                    refine lv_iload hx hb dX3_replace_118 (lv_at hl 2 rfl) ?_
                    refine lv_icmp_eq (tgt := 127) hx hb dX3_replace_120 (by decide) (fun c_120 => ?_) (fun c_120 => ?_)
                    · refine lv_iconst (v := 0) hx hb dX3_replace_127 (by decide) ?_
                      refine lv_istore (lv' := [(8, .int 0), (9, .int (nI i)), (7, .int (nI j)), (6, .int ((mR mr mc (mPinsAll mr mc mK mD) mK mD k (mc k) j).2.2.2)), (5, .int ((mR mr mc (mPinsAll mr mc mK mD) mK mD k (mc k) j).2.2.1)), (4, .int ((mR mr mc (mPinsAll mr mc mK mD) mK mD k (mc k) j).2.1)), (3, .ref q30), (2, .int (mc k)), (0, .ref (md 0)), (1, .int (nI k))]) hx hb dX3_replace_128 hl (by decide) rfl (fun ls hl => ?_)
                      refine lv_iinc (v := nI (i + 1)) (lv' := [(9, .int (nI (i + 1))), (8, .int 0), (7, .int (nI j)), (6, .int ((mR mr mc (mPinsAll mr mc mK mD) mK mD k (mc k) j).2.2.2)), (5, .int ((mR mr mc (mPinsAll mr mc mK mD) mK mD k (mc k) j).2.2.1)), (4, .int ((mR mr mc (mPinsAll mr mc mK mD) mK mD k (mc k) j).2.1)), (3, .ref q30), (2, .int (mc k)), (0, .ref (md 0)), (1, .int (nI k))]) hx hb dX3_replace_130 hl (k := 1) rfl (kc_inc i) (by decide) rfl (fun ls hl => ?_)
                      refine lv_goto (tgt := 87) hx hb dX3_replace_133 (by decide) ?_
                      refine ih_87 _ hlt_87 ?_
                      have eq_8 : bI (mFree (mR mr mc (mPinsAll mr mc mK mD) mK mD k (mc k) j).1 k (mc k) (nI j) (i + 1)) = 0 := by rw [mFree_s, c_98, if_neg c_104, decide_eq_true c_120]; rfl
                      show lv_has _ 12 [(9, .int (nI (i + 1))), (8, .int (bI (mFree (mR mr mc (mPinsAll mr mc mK mD) mK mD k (mc k) j).1 k (mc k) (nI j) (i + 1)))), (7, .int (nI j)), (6, .int ((mR mr mc (mPinsAll mr mc mK mD) mK mD k (mc k) j).2.2.2)), (5, .int ((mR mr mc (mPinsAll mr mc mK mD) mK mD k (mc k) j).2.2.1)), (4, .int ((mR mr mc (mPinsAll mr mc mK mD) mK mD k (mc k) j).2.1)), (3, .ref q30), (2, .int (mc k)), (0, .ref (md 0)), (1, .int (nI k))]
                      rw [eq_8]
                      exact lv_sub hl [0, 1, 2, 3, 4, 5, 6, 7, 8, 9] rfl
                    · refine lv_iconst (v := 1) hx hb dX3_replace_123 (by decide) ?_
                      refine lv_goto (tgt := 128) hx hb dX3_replace_124 (by decide) ?_
                      refine lv_istore (lv' := [(8, .int 1), (9, .int (nI i)), (7, .int (nI j)), (6, .int ((mR mr mc (mPinsAll mr mc mK mD) mK mD k (mc k) j).2.2.2)), (5, .int ((mR mr mc (mPinsAll mr mc mK mD) mK mD k (mc k) j).2.2.1)), (4, .int ((mR mr mc (mPinsAll mr mc mK mD) mK mD k (mc k) j).2.1)), (3, .ref q30), (2, .int (mc k)), (0, .ref (md 0)), (1, .int (nI k))]) hx hb dX3_replace_128 hl (by decide) rfl (fun ls hl => ?_)
                      refine lv_iinc (v := nI (i + 1)) (lv' := [(9, .int (nI (i + 1))), (8, .int 1), (7, .int (nI j)), (6, .int ((mR mr mc (mPinsAll mr mc mK mD) mK mD k (mc k) j).2.2.2)), (5, .int ((mR mr mc (mPinsAll mr mc mK mD) mK mD k (mc k) j).2.2.1)), (4, .int ((mR mr mc (mPinsAll mr mc mK mD) mK mD k (mc k) j).2.1)), (3, .ref q30), (2, .int (mc k)), (0, .ref (md 0)), (1, .int (nI k))]) hx hb dX3_replace_130 hl (k := 1) rfl (kc_inc i) (by decide) rfl (fun ls hl => ?_)
                      refine lv_goto (tgt := 87) hx hb dX3_replace_133 (by decide) ?_
                      refine ih_87 _ hlt_87 ?_
                      have eq_8 : bI (mFree (mR mr mc (mPinsAll mr mc mK mD) mK mD k (mc k) j).1 k (mc k) (nI j) (i + 1)) = 1 := by rw [mFree_s, c_98, if_neg c_104, decide_eq_false c_120]; rfl
                      show lv_has _ 12 [(9, .int (nI (i + 1))), (8, .int (bI (mFree (mR mr mc (mPinsAll mr mc mK mD) mK mD k (mc k) j).1 k (mc k) (nI j) (i + 1)))), (7, .int (nI j)), (6, .int ((mR mr mc (mPinsAll mr mc mK mD) mK mD k (mc k) j).2.2.2)), (5, .int ((mR mr mc (mPinsAll mr mc mK mD) mK mD k (mc k) j).2.2.1)), (4, .int ((mR mr mc (mPinsAll mr mc mK mD) mK mD k (mc k) j).2.1)), (3, .ref q30), (2, .int (mc k)), (0, .ref (md 0)), (1, .int (nI k))]
                      rw [eq_8]
                      exact lv_sub hl [0, 1, 2, 3, 4, 5, 6, 7, 8, 9] rfl
                  · refine lv_iload_n hx hb dX3_replace_107 rfl (lv_at hl 7 rfl) ?_
                    refine lv_goto (tgt := 118) hx hb dX3_replace_108 (by decide) ?_
                    refine lv_iload hx hb dX3_replace_118 (lv_at hl 2 rfl) ?_
                    refine lv_icmp_eq (tgt := 127) hx hb dX3_replace_120 (by decide) (fun c_120 => ?_) (fun c_120 => ?_)
                    · refine lv_iconst (v := 0) hx hb dX3_replace_127 (by decide) ?_
                      refine lv_istore (lv' := [(8, .int 0), (9, .int (nI i)), (7, .int (nI j)), (6, .int ((mR mr mc (mPinsAll mr mc mK mD) mK mD k (mc k) j).2.2.2)), (5, .int ((mR mr mc (mPinsAll mr mc mK mD) mK mD k (mc k) j).2.2.1)), (4, .int ((mR mr mc (mPinsAll mr mc mK mD) mK mD k (mc k) j).2.1)), (3, .ref q30), (2, .int (mc k)), (0, .ref (md 0)), (1, .int (nI k))]) hx hb dX3_replace_128 hl (by decide) rfl (fun ls hl => ?_)
                      refine lv_iinc (v := nI (i + 1)) (lv' := [(9, .int (nI (i + 1))), (8, .int 0), (7, .int (nI j)), (6, .int ((mR mr mc (mPinsAll mr mc mK mD) mK mD k (mc k) j).2.2.2)), (5, .int ((mR mr mc (mPinsAll mr mc mK mD) mK mD k (mc k) j).2.2.1)), (4, .int ((mR mr mc (mPinsAll mr mc mK mD) mK mD k (mc k) j).2.1)), (3, .ref q30), (2, .int (mc k)), (0, .ref (md 0)), (1, .int (nI k))]) hx hb dX3_replace_130 hl (k := 1) rfl (kc_inc i) (by decide) rfl (fun ls hl => ?_)
                      refine lv_goto (tgt := 87) hx hb dX3_replace_133 (by decide) ?_
                      refine ih_87 _ hlt_87 ?_
                      have eq_8 : bI (mFree (mR mr mc (mPinsAll mr mc mK mD) mK mD k (mc k) j).1 k (mc k) (nI j) (i + 1)) = 0 := by rw [mFree_s, c_98, if_pos c_104, decide_eq_true c_120]; rfl
                      show lv_has _ 12 [(9, .int (nI (i + 1))), (8, .int (bI (mFree (mR mr mc (mPinsAll mr mc mK mD) mK mD k (mc k) j).1 k (mc k) (nI j) (i + 1)))), (7, .int (nI j)), (6, .int ((mR mr mc (mPinsAll mr mc mK mD) mK mD k (mc k) j).2.2.2)), (5, .int ((mR mr mc (mPinsAll mr mc mK mD) mK mD k (mc k) j).2.2.1)), (4, .int ((mR mr mc (mPinsAll mr mc mK mD) mK mD k (mc k) j).2.1)), (3, .ref q30), (2, .int (mc k)), (0, .ref (md 0)), (1, .int (nI k))]
                      rw [eq_8]
                      exact lv_sub hl [0, 1, 2, 3, 4, 5, 6, 7, 8, 9] rfl
                    · refine lv_iconst (v := 1) hx hb dX3_replace_123 (by decide) ?_
                      refine lv_goto (tgt := 128) hx hb dX3_replace_124 (by decide) ?_
                      refine lv_istore (lv' := [(8, .int 1), (9, .int (nI i)), (7, .int (nI j)), (6, .int ((mR mr mc (mPinsAll mr mc mK mD) mK mD k (mc k) j).2.2.2)), (5, .int ((mR mr mc (mPinsAll mr mc mK mD) mK mD k (mc k) j).2.2.1)), (4, .int ((mR mr mc (mPinsAll mr mc mK mD) mK mD k (mc k) j).2.1)), (3, .ref q30), (2, .int (mc k)), (0, .ref (md 0)), (1, .int (nI k))]) hx hb dX3_replace_128 hl (by decide) rfl (fun ls hl => ?_)
                      refine lv_iinc (v := nI (i + 1)) (lv' := [(9, .int (nI (i + 1))), (8, .int 1), (7, .int (nI j)), (6, .int ((mR mr mc (mPinsAll mr mc mK mD) mK mD k (mc k) j).2.2.2)), (5, .int ((mR mr mc (mPinsAll mr mc mK mD) mK mD k (mc k) j).2.2.1)), (4, .int ((mR mr mc (mPinsAll mr mc mK mD) mK mD k (mc k) j).2.1)), (3, .ref q30), (2, .int (mc k)), (0, .ref (md 0)), (1, .int (nI k))]) hx hb dX3_replace_130 hl (k := 1) rfl (kc_inc i) (by decide) rfl (fun ls hl => ?_)
                      refine lv_goto (tgt := 87) hx hb dX3_replace_133 (by decide) ?_
                      refine ih_87 _ hlt_87 ?_
                      have eq_8 : bI (mFree (mR mr mc (mPinsAll mr mc mK mD) mK mD k (mc k) j).1 k (mc k) (nI j) (i + 1)) = 1 := by rw [mFree_s, c_98, if_pos c_104, decide_eq_false c_120]; rfl
                      show lv_has _ 12 [(9, .int (nI (i + 1))), (8, .int (bI (mFree (mR mr mc (mPinsAll mr mc mK mD) mK mD k (mc k) j).1 k (mc k) (nI j) (i + 1)))), (7, .int (nI j)), (6, .int ((mR mr mc (mPinsAll mr mc mK mD) mK mD k (mc k) j).2.2.2)), (5, .int ((mR mr mc (mPinsAll mr mc mK mD) mK mD k (mc k) j).2.2.1)), (4, .int ((mR mr mc (mPinsAll mr mc mK mD) mK mD k (mc k) j).2.1)), (3, .ref q30), (2, .int (mc k)), (0, .ref (md 0)), (1, .int (nI k))]
                      rw [eq_8]
                      exact lv_sub hl [0, 1, 2, 3, 4, 5, 6, 7, 8, 9] rfl
            · exact lv_sub hl [0, 1, 2, 3, 4, 5, 6, 7, 8, 9] rfl
        · exact ⟨hP, hD, hS, lv_sub hl [0, 1, 2, 3, 4, 5, 6, 7] rfl⟩
      · refine lv_aload_n hx hb dX3_replace_45 rfl (lv_at hl 1 rfl) ?_
        refine lv_iload hx hb dX3_replace_46 (lv_at hl 0 rfl) ?_
        refine lv_aload_n hx hb dX3_replace_48 rfl (lv_at hl 3 rfl) ?_
        refine lv_iload hx hb dX3_replace_49 (lv_at hl 0 rfl) ?_
        refine kc_rVi (As := [.int (nI j)]) (rest := [.int (nI j), .ref q30]) ⟨hx, hb, hml, hown, hts⟩ (c_X3_allPins l D md cI 0 mK mc mD mr mw my mC mk ms mu mt mp mb me j hK8 (by first | assumption | omega)) (cwV 1 hts gX3_replace_X3_allPins rfl rfl rfl (by decide +kernel) ⟨Nat.le_of_ble_eq_true rfl, Nat.le_of_ble_eq_true rfl⟩) hK hP [0, 1, 2, 3, 4, 5, 6, 7, 8, 9] [0] rfl rfl 0 rfl rfl rfl rfl hl.1 rfl (Nat.le_of_ble_eq_true rfl) dX3_replace_51 ⟨Nat.le_of_ble_eq_true rfl, Nat.le_of_ble_eq_true rfl⟩ ?_
        refine kc_ast (i := j) (n := mD) hx hb hK hP hD hS 10 0 rfl rfl (by omega) (by omega) dX3_replace_54 (fun H locs hP hD hS => ?_)
        have hP : va_P D vwCl (wMdX md cI 0 mK mc mD mr mw my mC mk ms mu mt mp mb me q30 mD (upd (mPinsAll mr mc mK j) j (mAll mr mc mK j 5))) H := hP
        have hD : va_D A (wMdX md cI 0 mK mc mD mr mw my mC mk ms mu mt mp mb me q30 mD (upd (mPinsAll mr mc mK j) j (mAll mr mc mK j 5))) := hD
        refine lv_iinc (v := nI (j + 1)) (lv' := [(4, .int (nI (j + 1))), (3, .ref q30), (2, .int (mc k)), (0, .ref (md 0)), (1, .int (nI k))]) hx hb dX3_replace_55 hl (k := 0) rfl (kc_inc j) (by decide) rfl (fun ls hl => ?_)
        refine lv_goto (tgt := 36) hx hb dX3_replace_58 (by decide) ?_
        refine ih_36 _ _ _ hlt_36 ?_
        have eqw_xf : mPinsAll mr mc mK (j + 1) = upd (mPinsAll mr mc mK j) j (mAll mr mc mK j 5) := rfl
        show va_P D vwCl (wMdX md cI 0 mK mc mD mr mw my mC mk ms mu mt mp mb me q30 mD (mPinsAll mr mc mK (j + 1))) _ ∧ va_D A (wMdX md cI 0 mK mc mD mr mw my mC mk ms mu mt mp mb me q30 mD (mPinsAll mr mc mK (j + 1))) ∧ va_S A s.heap _ _ ∧ lv_has _ 12 [(4, .int (nI (j + 1))), (3, .ref q30), (2, .int (mc k)), (0, .ref (md 0)), (1, .int (nI k))]
        rw [eqw_xf]
        exact ⟨hP, hD, hS, lv_sub hl [0, 1, 2, 3, 4] rfl⟩
    · exact ⟨hP, hD, hS, lv_sub hl [0, 1, 2, 3, 4] rfl⟩
  · exact absurd (jIn_ok hk (by omega)) c_10
set_option maxHeartbeats 4000000 in
set_option maxRecDepth 100000 in
theorem c_X3_replace_ok (l : Launch) (D : va_G) (md : Nat → Nat) (cI : ClassId) (th : Int32) (mK : Nat) (mc : Nat → Int32) (mD : Nat) (mr : Nat → Int32) (mw : Int32) (my : Int32) (mC : Nat) (mk : Nat → Int32) (ms : Nat → Int32) (mu : Nat → Int32) (mt : Nat → Int32) (mp : Nat → Int32) (mb : Nat → Int32) (me : Nat → Int32) (k : Nat) (tn : Nat → Nat) (sz : Nat) (hK8 : mK ≤ 8) (hD8 : mD ≤ 8) (hC24 : mC ≤ 24) (hk : k < mK) (hok : okLe ms mt tn) (hne : ¬ (mR mr mc (mPinsAll mr mc mK mD) mK mD k (mc k) 1024).2.1 = (-1)) : Met l yX3_replace wsX3_replace ({ frames := 4, cells := 1, slots := 8, locals := 92 } : Room) (wrP [.ref (md 0), .int (nI k)] D sz (wMd md cI th mK mc mD mr mw my mC mk ms mu mt mp mb me) [(cI, .int)]) (va_Qi (fun rZ (_ : Unit) => rZ = (mR mr mc (mPinsAll mr mc mK mD) mK mD k (mc k) 1024).2.1) (wrB D sz (wMd md cI th mK mc mD mr mw my mC mk ms mu mt mp mb me) (wMd md cI 0 mK (upd (mR mr mc (mPinsAll mr mc mK mD) mK mD k (mc k) 1024).1 k (mR mr mc (mPinsAll mr mc mK mD) mK mD k (mc k) 1024).2.1) mD mr (mw + (mR mr mc (mPinsAll mr mc mK mD) mK mD k (mc k) 1024).2.2.2) my mC mk (jVoidSo mk (nI k) ms mC) mu mt mp mb (jVoidEnd mk (nI k) ms me tn my mC))) (va_A (wMd md cI th mK mc mD mr mw my mC mk ms mu mt mp mb me) sz)) 1 8 (va_A (wMd md cI th mK mc mD mr mw my mC mk ms mu mt mp mb me) sz) := by
  refine Met.ofW (cc := cX3_replace) (maxL := 12) (ret := (some .int)) (by decide) rfl ?_
  intro p e s m args below meth c s₁ B hml hv
  obtain ⟨rfl, hsz, hP, hD0, hK⟩ := hv
  have hx := B.exec
  have hb := B.bytes
  have hr := B.returns
  have hts := atoms_spec (ws := wsX3_replace) B.pre
  have hown : s.vm.findClass RX3 = some m.cls := findClass_of_methodNamed B.named
  have hlocks := B.notSynchronized
  subst hsz
  have hD := hD0.self (sz := s.heap.size)
  generalize hAe : va_A (wMd md cI th mK mc mD mr mw my mC mk ms mu mt mp mb me) s.heap.size = A at hD ⊢
  have hA : ∀ q : Nat, s.heap.size ≤ q → A q := fun q h => by rw [← hAe]; exact Or.inr h
  have hinX3 : ∀ w ∈ u_ws RX3 TX3 15, w ∈ wsX3_replace := by decide +kernel
  have hf37 := hts (.fieldLink RX3 37 "KeyCabinetModel" "thrown" "I") (by decide +kernel)
  have hf9 := hts (.fieldLink RX3 9 "KeyCabinetModel" "codes" "[I") (by decide +kernel)
  have hf44 := hts (.fieldLink RX3 44 "KeyCabinetModel" "doors" "I") (by decide +kernel)
  have hf72 := hts (.fieldLink RX3 72 "KeyCabinetModel" "work" "I") (by decide +kernel)
  have hf47 := hts (.fieldLink RX3 47 "KeyCabinetModel" "copies" "I") (by decide +kernel)
  have hf16 := hts (.fieldLink RX3 16 "KeyCabinetModel" "copyKeys" "[I") (by decide +kernel)
  have hf19 := hts (.fieldLink RX3 19 "KeyCabinetModel" "states" "[I") (by decide +kernel)
  have hf41 := hts (.fieldLink RX3 41 "KeyCabinetModel" "keys" "I") (by decide +kernel)
  have hl := lv_entry ([.ref (md 0), .int (nI k)]) (n := 12) (Nat.le_of_ble_eq_true rfl)
  rw [lg_entry_eq]
  generalize (lg_sl ([.ref (md 0), .int (nI k)]) ++ List.replicate (12 - (lg_sl ([.ref (md 0), .int (nI k)])).length) Slot.unset).toArray = ls at hl ⊢
  have hl : lv_has ls 12 [(0, .ref (md 0)), (1, .int (nI k))] := hl
  refine W.genH (fun H locs eH eL => ?_)
  have hS : va_S A s.heap H locs := by rw [eH, eL]; exact va_S.rf
  have hP : va_P D vwCl (wMd md cI th mK mc mD mr mw my mC mk ms mu mt mp mb me) H := by rw [eH]; exact hP
  clear eH eL
  refine lv_aload_n hx hb dX3_replace_0 rfl (lv_at hl 0 rfl) ?_
  refine lv_iconst (v := 0) hx hb dX3_replace_1 (by decide) ?_
  refine va_put (D := D) (ci := 3) (v := .int 0) (ty := .int) (C := RX3) (T := TX3) (N := 15) hx hb hts hinX3 tyX3 tyX3_ok nmX3 hown hK.1 hP hD hS 0 rfl rfl 0 (by decide) hf37 (fun _ h9 => h9) rfl (by decide +kernel) rfl rfl (Nat.le_of_ble_eq_true rfl) dX3_replace_2 (fun H locs hP hD hS => ?_)
  have hP : va_P D vwCl (wMd md cI 0 mK mc mD mr mw my mC mk ms mu mt mp mb me) H := hP
  have hD : va_D A (wMd md cI 0 mK mc mD mr mw my mC mk ms mu mt mp mb me) := hD
  refine lv_aload_n hx hb dX3_replace_5 rfl (lv_at hl 0 rfl) ?_
  refine lv_iload_n hx hb dX3_replace_6 rfl (lv_at hl 1 rfl) ?_
  refine kc_rVi (As := [.int (nI k)]) (rest := []) ⟨hx, hb, hml, hown, hts⟩ (c_X3_isKey l D md cI 0 mK mc mD mr mw my mC mk ms mu mt mp mb me (nI k) ) (cwV 1 hts gX3_replace_X3_isKey rfl rfl rfl (by decide +kernel) ⟨Nat.le_of_ble_eq_true rfl, Nat.le_of_ble_eq_true rfl⟩) hK hP [0, 1, 2, 3, 4, 5, 6, 7, 8, 9] [0] rfl rfl 0 rfl rfl rfl rfl hl.1 rfl (Nat.le_of_ble_eq_true rfl) dX3_replace_7 ⟨Nat.le_of_ble_eq_true rfl, Nat.le_of_ble_eq_true rfl⟩ ?_
  refine kc_ifneB (tgt := 19) hx hb dX3_replace_10 (by decide) (fun c_10 => ?_) (fun c_10 => ?_)
  · refine lv_aload_n hx hb dX3_replace_19 rfl (lv_at hl 0 rfl) ?_
    refine va_get (D := D) (ci := 3) (v := .ref (md 1)) (C := RX3) (T := TX3) (N := 15) hx hb hts hinX3 hown hK.1 hP 0 rfl rfl 2 (by decide) hf9 (fun _ h9 => h9) rfl dX3_replace_20 ?_
    refine lv_iload_n hx hb dX3_replace_23 rfl (lv_at hl 1 rfl) ?_
    refine kc_ald (i := k) (n := 8) hx hb hK hP 1 0 rfl rfl (by omega) (by decide) dX3_replace_24 ?_
    refine lv_istore_n (lv' := [(2, .int (mc k)), (0, .ref (md 0)), (1, .int (nI k))]) hx hb dX3_replace_25 rfl hl (by decide) rfl (fun ls hl => ?_)
    refine lv_aload_n hx hb dX3_replace_26 rfl (lv_at hl 1 rfl) ?_
    refine va_get (D := D) (ci := 3) (v := .int (nI mD)) (C := RX3) (T := TX3) (N := 15) hx hb hts hinX3 hown hK.1 hP 0 rfl rfl 3 (by decide) hf44 (fun _ h9 => h9) rfl dX3_replace_27 ?_
    refine kc_newI (N := mD) hx hb (hts (.arrayClass .int) (by decide +kernel)) hK 0 rfl hP hD hS hA (by omega) (Nat.le_of_ble_eq_true rfl) (by show 0 + mD ≤ 8; omega) dX3_replace_30 (fun q30 H hP hD hS => ?_)
    have hP : va_P D vwCl (wMdX md cI 0 mK mc mD mr mw my mC mk ms mu mt mp mb me q30 mD (fun _ => 0)) H := hP
    have hD : va_D A (wMdX md cI 0 mK mc mD mr mw my mC mk ms mu mt mp mb me q30 mD (fun _ => 0)) := hD
    refine W.widen (k := 1) (n := 8) (by omega) (by omega) ?_
    refine lv_astore_n (lv' := [(3, .ref q30), (2, .int (mc k)), (0, .ref (md 0)), (1, .int (nI k))]) hx hb dX3_replace_32 rfl hl (by decide) rfl (fun ls hl => ?_)
    refine lv_iconst (v := 0) hx hb dX3_replace_33 (by decide) ?_
    refine lv_istore (lv' := [(4, .int 0), (3, .ref q30), (2, .int (mc k)), (0, .ref (md 0)), (1, .int (nI k))]) hx hb dX3_replace_34 hl (by decide) rfl (fun ls hl => ?_)
    refine kc_forHW (pc := 36) (N := mD) (P := fun j H locs ls => va_P D vwCl (wMdX md cI 0 mK mc mD mr mw my mC mk ms mu mt mp mb me q30 mD (mPinsAll mr mc mK j)) H ∧ va_D A (wMdX md cI 0 mK mc mD mr mw my mC mk ms mu mt mp mb me q30 mD (mPinsAll mr mc mK j)) ∧ va_S A s.heap H locs ∧ lv_has ls 12 [(4, .int (nI j)), (3, .ref q30), (2, .int (mc k)), (0, .ref (md 0)), (1, .int (nI k))]) (fun j H locs ls hj_36 hp ih_36 => ?_) H locs ls ?_
    · obtain ⟨hP, hD, hS, hl⟩ := hp
      refine lv_iload hx hb dX3_replace_36 (lv_at hl 0 rfl) ?_
      refine lv_aload_n hx hb dX3_replace_38 rfl (lv_at hl 3 rfl) ?_
      refine va_get (D := D) (ci := 3) (v := .int (nI mD)) (C := RX3) (T := TX3) (N := 15) hx hb hts hinX3 hown hK.1 hP 0 rfl rfl 3 (by decide) hf44 (fun _ h9 => h9) rfl dX3_replace_39 ?_
      refine kc_tst (j := j) (N := mD) (tgt := 61) hx hb dX3_replace_42 (by decide) hj_36 (by omega) (fun hN => ?_) (fun hlt_36 => ?_)
      · subst hN
        refine lv_iconst (v := (-1)) hx hb dX3_replace_61 (by decide) ?_
        refine lv_istore (lv' := [(4, .int (-1)), (3, .ref q30), (2, .int (mc k)), (0, .ref (md 0)), (1, .int (nI k))]) hx hb dX3_replace_62 hl (by decide) rfl (fun ls hl => ?_)
        refine lv_iconst (v := 0) hx hb dX3_replace_64 (by decide) ?_
        refine lv_istore (lv' := [(5, .int 0), (4, .int (-1)), (3, .ref q30), (2, .int (mc k)), (0, .ref (md 0)), (1, .int (nI k))]) hx hb dX3_replace_65 hl (by decide) rfl (fun ls hl => ?_)
        refine lv_iconst (v := 0) hx hb dX3_replace_67 (by decide) ?_
        refine lv_istore (lv' := [(6, .int 0), (5, .int 0), (4, .int (-1)), (3, .ref q30), (2, .int (mc k)), (0, .ref (md 0)), (1, .int (nI k))]) hx hb dX3_replace_68 hl (by decide) rfl (fun ls hl => ?_)
        refine lv_iconst (v := 0) hx hb dX3_replace_70 (by decide) ?_
        refine lv_istore (lv' := [(7, .int 0), (6, .int 0), (5, .int 0), (4, .int (-1)), (3, .ref q30), (2, .int (mc k)), (0, .ref (md 0)), (1, .int (nI k))]) hx hb dX3_replace_71 hl (by decide) rfl (fun ls hl => ?_)
        refine kc_forHW (pc := 73) (N := 1024) (P := fun j H locs ls => va_P D vwCl (wMdX md cI 0 mK ((mR mr mc (mPinsAll mr mc mK mD) mK mD k (mc k) j).1) mD mr mw my mC mk ms mu mt mp mb me q30 mD (mPinsAll mr mc mK mD)) H ∧ va_D A (wMdX md cI 0 mK ((mR mr mc (mPinsAll mr mc mK mD) mK mD k (mc k) j).1) mD mr mw my mC mk ms mu mt mp mb me q30 mD (mPinsAll mr mc mK mD)) ∧ va_S A s.heap H locs ∧ lv_has ls 12 [(7, .int (nI j)), (6, .int ((mR mr mc (mPinsAll mr mc mK mD) mK mD k (mc k) j).2.2.2)), (5, .int ((mR mr mc (mPinsAll mr mc mK mD) mK mD k (mc k) j).2.2.1)), (4, .int ((mR mr mc (mPinsAll mr mc mK mD) mK mD k (mc k) j).2.1)), (3, .ref q30), (2, .int (mc k)), (0, .ref (md 0)), (1, .int (nI k))]) (fun j H locs ls hj_73 hp ih_73 => ?_) H locs ls ?_
        · obtain ⟨hP, hD, hS, hl⟩ := hp
          refine lv_iload hx hb dX3_replace_73 (lv_at hl 0 rfl) ?_
          refine lv_sipush (v := 1024) hx hb dX3_replace_75 (by decide) ?_
          refine kc_tst (j := j) (N := 1024) (tgt := 257) hx hb dX3_replace_78 (by decide) hj_73 (by omega) (fun hN => ?_) (fun hlt_73 => ?_)
          · subst hN
            refine lv_aload_n hx hb dX3_replace_257 rfl (lv_at hl 6 rfl) ?_
            refine va_get (D := D) (ci := 3) (v := .ref (md 1)) (C := RX3) (T := TX3) (N := 15) hx hb hts hinX3 hown hK.1 hP 0 rfl rfl 2 (by decide) hf9 (fun _ h9 => h9) rfl dX3_replace_258 ?_
            refine lv_iload_n hx hb dX3_replace_261 rfl (lv_at hl 7 rfl) ?_
            refine lv_iload hx hb dX3_replace_262 (lv_at hl 3 rfl) ?_
            refine lv_iconst (v := (-1)) hx hb dX3_replace_264 (by decide) ?_
            refine lv_icmp_ne (tgt := 272) hx hb dX3_replace_265 (by decide) (fun c_265 => ?_) (fun c_265 => ?_)
            · refine lv_iload hx hb dX3_replace_272 (lv_at hl 3 rfl) ?_
              refine kc_ast (i := k) (n := 8) hx hb hK hP hD hS 1 0 rfl rfl (by omega) (by decide) dX3_replace_274 (fun H locs hP hD hS => ?_)
              have hP : va_P D vwCl (wMdX md cI 0 mK (upd ((mR mr mc (mPinsAll mr mc mK mD) mK mD k (mc k) 1024).1) k ((mR mr mc (mPinsAll mr mc mK mD) mK mD k (mc k) 1024).2.1)) mD mr mw my mC mk ms mu mt mp mb me q30 mD (mPinsAll mr mc mK mD)) H := hP
              have hD : va_D A (wMdX md cI 0 mK (upd ((mR mr mc (mPinsAll mr mc mK mD) mK mD k (mc k) 1024).1) k ((mR mr mc (mPinsAll mr mc mK mD) mK mD k (mc k) 1024).2.1)) mD mr mw my mC mk ms mu mt mp mb me q30 mD (mPinsAll mr mc mK mD)) := hD
              refine lv_iload hx hb dX3_replace_275 (lv_at hl 3 rfl) ?_
              refine lv_iconst (v := (-1)) hx hb dX3_replace_277 (by decide) ?_
              refine lv_icmp_ne (tgt := 283) hx hb dX3_replace_278 (by decide) (fun c_278 => ?_) (fun c_278 => ?_)
              · refine lv_aload_n hx hb dX3_replace_283 rfl (lv_at hl 6 rfl) ?_
                refine lv_dup hx hb dX3_replace_284 rfl ?_
                refine va_get (D := D) (ci := 3) (v := .int mw) (C := RX3) (T := TX3) (N := 15) hx hb hts hinX3 hown hK.1 hP 0 rfl rfl 5 (by decide) hf72 (fun _ h9 => h9) rfl dX3_replace_285 ?_
                refine lv_iload hx hb dX3_replace_288 (lv_at hl 1 rfl) ?_
                refine lv_iadd hx hb dX3_replace_290 ?_
                refine va_put (D := D) (ci := 3) (v := .int (mw + ((mR mr mc (mPinsAll mr mc mK mD) mK mD k (mc k) 1024).2.2.2))) (ty := .int) (C := RX3) (T := TX3) (N := 15) hx hb hts hinX3 tyX3 tyX3_ok nmX3 hown hK.1 hP hD hS 0 rfl rfl 5 (by decide) hf72 (fun _ h9 => h9) rfl (by decide +kernel) rfl rfl (Nat.le_of_ble_eq_true rfl) dX3_replace_291 (fun H locs hP hD hS => ?_)
                have hP : va_P D vwCl (wMdX md cI 0 mK (upd ((mR mr mc (mPinsAll mr mc mK mD) mK mD k (mc k) 1024).1) k ((mR mr mc (mPinsAll mr mc mK mD) mK mD k (mc k) 1024).2.1)) mD mr (mw + ((mR mr mc (mPinsAll mr mc mK mD) mK mD k (mc k) 1024).2.2.2)) my mC mk ms mu mt mp mb me q30 mD (mPinsAll mr mc mK mD)) H := hP
                have hD : va_D A (wMdX md cI 0 mK (upd ((mR mr mc (mPinsAll mr mc mK mD) mK mD k (mc k) 1024).1) k ((mR mr mc (mPinsAll mr mc mK mD) mK mD k (mc k) 1024).2.1)) mD mr (mw + ((mR mr mc (mPinsAll mr mc mK mD) mK mD k (mc k) 1024).2.2.2)) my mC mk ms mu mt mp mb me q30 mD (mPinsAll mr mc mK mD)) := hD
                refine lv_iconst (v := 0) hx hb dX3_replace_294 (by decide) ?_
                refine lv_istore (lv' := [(7, .int 0), (6, .int ((mR mr mc (mPinsAll mr mc mK mD) mK mD k (mc k) 1024).2.2.2)), (5, .int ((mR mr mc (mPinsAll mr mc mK mD) mK mD k (mc k) 1024).2.2.1)), (4, .int ((mR mr mc (mPinsAll mr mc mK mD) mK mD k (mc k) 1024).2.1)), (3, .ref q30), (2, .int (mc k)), (0, .ref (md 0)), (1, .int (nI k))]) hx hb dX3_replace_295 hl (by decide) rfl (fun ls hl => ?_)
                refine kc_forHW (pc := 297) (N := mC) (P := fun j H locs ls => va_P D vwCl (wMdX md cI 0 mK (upd ((mR mr mc (mPinsAll mr mc mK mD) mK mD k (mc k) 1024).1) k ((mR mr mc (mPinsAll mr mc mK mD) mK mD k (mc k) 1024).2.1)) mD mr (mw + ((mR mr mc (mPinsAll mr mc mK mD) mK mD k (mc k) 1024).2.2.2)) my mC mk (jVoidSo mk (nI k) ms j) mu mt mp mb (jVoidEnd mk (nI k) ms me tn my j) q30 mD (mPinsAll mr mc mK mD)) H ∧ va_D A (wMdX md cI 0 mK (upd ((mR mr mc (mPinsAll mr mc mK mD) mK mD k (mc k) 1024).1) k ((mR mr mc (mPinsAll mr mc mK mD) mK mD k (mc k) 1024).2.1)) mD mr (mw + ((mR mr mc (mPinsAll mr mc mK mD) mK mD k (mc k) 1024).2.2.2)) my mC mk (jVoidSo mk (nI k) ms j) mu mt mp mb (jVoidEnd mk (nI k) ms me tn my j) q30 mD (mPinsAll mr mc mK mD)) ∧ va_S A s.heap H locs ∧ lv_has ls 12 [(7, .int (nI j)), (6, .int ((mR mr mc (mPinsAll mr mc mK mD) mK mD k (mc k) 1024).2.2.2)), (5, .int ((mR mr mc (mPinsAll mr mc mK mD) mK mD k (mc k) 1024).2.2.1)), (4, .int ((mR mr mc (mPinsAll mr mc mK mD) mK mD k (mc k) 1024).2.1)), (3, .ref q30), (2, .int (mc k)), (0, .ref (md 0)), (1, .int (nI k))]) (fun j H locs ls hj_297 hp ih_297 => ?_) H locs ls ?_
                · obtain ⟨hP, hD, hS, hl⟩ := hp
                  refine lv_iload hx hb dX3_replace_297 (lv_at hl 0 rfl) ?_
                  refine lv_aload_n hx hb dX3_replace_299 rfl (lv_at hl 6 rfl) ?_
                  refine va_get (D := D) (ci := 3) (v := .int (nI mC)) (C := RX3) (T := TX3) (N := 15) hx hb hts hinX3 hown hK.1 hP 0 rfl rfl 7 (by decide) hf47 (fun _ h9 => h9) rfl dX3_replace_300 ?_
                  refine kc_tst (j := j) (N := mC) (tgt := 340) hx hb dX3_replace_303 (by decide) hj_297 (by omega) (fun hN => ?_) (fun hlt_297 => ?_)
                  · subst hN
                    refine lv_iload hx hb dX3_replace_340 (lv_at hl 3 rfl) ?_
                    have hP : va_P D vwCl (wMd md cI 0 mK (upd ((mR mr mc (mPinsAll mr mc mK mD) mK mD k (mc k) 1024).1) k ((mR mr mc (mPinsAll mr mc mK mD) mK mD k (mc k) 1024).2.1)) mD mr (mw + ((mR mr mc (mPinsAll mr mc mK mD) mK mD k (mc k) 1024).2.2.2)) my mC mk (jVoidSo mk (nI k) ms mC) mu mt mp mb (jVoidEnd mk (nI k) ms me tn my mC)) H := hP.sub [0, 1, 2, 3, 4, 5, 6, 7, 8, 9] rfl
                    have hD : va_D A (wMd md cI 0 mK (upd ((mR mr mc (mPinsAll mr mc mK mD) mK mD k (mc k) 1024).1) k ((mR mr mc (mPinsAll mr mc mK mD) mK mD k (mc k) 1024).2.1)) mD mr (mw + ((mR mr mc (mPinsAll mr mc mK mD) mK mD k (mc k) 1024).2.2.2)) my mC mk (jVoidSo mk (nI k) ms mC) mu mt mp mb (jVoidEnd mk (nI k) ms me tn my mC)) := hD.sub [0, 1, 2, 3, 4, 5, 6, 7, 8, 9] (by decide) rfl
                    have eqw_mc : upd (mR mr mc (mPinsAll mr mc mK mD) mK mD k (mc k) 1024).1 k (mR mr mc (mPinsAll mr mc mK mD) mK mD k (mc k) 1024).2.1 = upd ((mR mr mc (mPinsAll mr mc mK mD) mK mD k (mc k) 1024).1) k ((mR mr mc (mPinsAll mr mc mK mD) mK mD k (mc k) 1024).2.1) := by simp only [if_pos c_10, if_neg c_265, if_neg c_278]
                    have eqw_mw : mw + (mR mr mc (mPinsAll mr mc mK mD) mK mD k (mc k) 1024).2.2.2 = mw + ((mR mr mc (mPinsAll mr mc mK mD) mK mD k (mc k) 1024).2.2.2) := by simp only [if_pos c_10, if_neg c_265, if_neg c_278]
                    have hP : va_P D vwCl (wMd md cI 0 mK (upd (mR mr mc (mPinsAll mr mc mK mD) mK mD k (mc k) 1024).1 k (mR mr mc (mPinsAll mr mc mK mD) mK mD k (mc k) 1024).2.1) mD mr (mw + (mR mr mc (mPinsAll mr mc mK mD) mK mD k (mc k) 1024).2.2.2) my mC mk (jVoidSo mk (nI k) ms mC) mu mt mp mb (jVoidEnd mk (nI k) ms me tn my mC)) H := by rw [eqw_mc, eqw_mw]; exact hP
                    have hD : va_D A (wMd md cI 0 mK (upd (mR mr mc (mPinsAll mr mc mK mD) mK mD k (mc k) 1024).1 k (mR mr mc (mPinsAll mr mc mK mD) mK mD k (mc k) 1024).2.1) mD mr (mw + (mR mr mc (mPinsAll mr mc mK mD) mK mD k (mc k) 1024).2.2.2) my mC mk (jVoidSo mk (nI k) ms mC) mu mt mp mb (jVoidEnd mk (nI k) ms me tn my mC)) := by rw [eqw_mc, eqw_mw]; exact hD
                    exact W.iret (v := (mR mr mc (mPinsAll mr mc mK mD) mK mD k (mc k) 1024).2.1) hx hb hr (fun tZ htZ hWZ => ⟨⟨_, (), rfl, rfl, by rw [htZ]; exact hP, by rw [hAe]; exact hD⟩, hS.F htZ⟩) hS.2.2 dX3_replace_342
                  · refine lv_aload_n hx hb dX3_replace_306 rfl (lv_at hl 6 rfl) ?_
                    refine va_get (D := D) (ci := 3) (v := .ref (md 3)) (C := RX3) (T := TX3) (N := 15) hx hb hts hinX3 hown hK.1 hP 0 rfl rfl 8 (by decide) hf16 (fun _ h9 => h9) rfl dX3_replace_307 ?_
                    refine lv_iload hx hb dX3_replace_310 (lv_at hl 0 rfl) ?_
                    refine kc_ald (i := j) (n := 24) hx hb hK hP 3 0 rfl rfl (by omega) (by decide) dX3_replace_312 ?_
                    refine lv_iload_n hx hb dX3_replace_313 rfl (lv_at hl 7 rfl) ?_
                    refine lv_icmp_eq (tgt := 320) hx hb dX3_replace_314 (by decide) (fun c_314 => ?_) (fun c_314 => ?_)
                    · refine lv_aload_n hx hb dX3_replace_320 rfl (lv_at hl 6 rfl) ?_
                      refine lv_iload hx hb dX3_replace_321 (lv_at hl 0 rfl) ?_
                      refine kc_wVv (w1 := wMd md cI 0 mK (upd ((mR mr mc (mPinsAll mr mc mK mD) mK mD k (mc k) 1024).1) k ((mR mr mc (mPinsAll mr mc mK mD) mK mD k (mc k) 1024).2.1)) mD mr (mw + ((mR mr mc (mPinsAll mr mc mK mD) mK mD k (mc k) 1024).2.2.2)) my mC mk (jVoidSo mk (nI k) ms j) mu mt mp mb (jMoveEnd (jVoidSo mk (nI k) ms j) (jVoidEnd mk (nI k) ms me tn my j) tn j my)) (wr := [(q30, .inl (cI, mD, .inl (mPinsAll mr mc mK mD)))]) (ws1 := wMdX md cI 0 mK (upd ((mR mr mc (mPinsAll mr mc mK mD) mK mD k (mc k) 1024).1) k ((mR mr mc (mPinsAll mr mc mK mD) mK mD k (mc k) 1024).2.1)) mD mr (mw + ((mR mr mc (mPinsAll mr mc mK mD) mK mD k (mc k) 1024).2.2.2)) my mC mk (jVoidSo mk (nI k) ms j) mu mt mp mb (jMoveEnd (jVoidSo mk (nI k) ms j) (jVoidEnd mk (nI k) ms me tn my j) tn j my) q30 mD (mPinsAll mr mc mK mD)) (As := [.int (nI j)]) (rest := []) ⟨hx, hb, hml, hown, hts⟩ (c_X3_stop l D md cI 0 mK (upd ((mR mr mc (mPinsAll mr mc mK mD) mK mD k (mc k) 1024).1) k ((mR mr mc (mPinsAll mr mc mK mD) mK mD k (mc k) 1024).2.1)) mD mr (mw + ((mR mr mc (mPinsAll mr mc mK mD) mK mD k (mc k) 1024).2.2.2)) my mC mk (jVoidSo mk (nI k) ms j) mu mt mp mb (jVoidEnd mk (nI k) ms me tn my j) tn j H.size (by first | assumption | omega) (okLe_void hok j)) (cwV 1 hts gX3_replace_X3_stop rfl rfl rfl (by decide +kernel) ⟨Nat.le_of_ble_eq_true rfl, Nat.le_of_ble_eq_true rfl⟩) hK hP hD hS hA [0, 1, 2, 3, 4, 5, 6, 7, 8, 9] [10] [1, 2, 3, 4, 5, 6, 7, 8, 9, 10, 0] [0] rfl rfl rfl rfl (by decide) rfl rfl rfl 0 rfl rfl rfl rfl hl.1 rfl (Nat.le_of_ble_eq_true rfl) dX3_replace_323 ⟨Nat.le_of_ble_eq_true rfl, Nat.le_of_ble_eq_true rfl⟩ (fun H locs hP hD hS => ?_)
                      refine lv_aload_n hx hb dX3_replace_326 rfl (lv_at hl 6 rfl) ?_
                      refine va_get (D := D) (ci := 3) (v := .ref (md 4)) (C := RX3) (T := TX3) (N := 15) hx hb hts hinX3 hown hK.1 hP 0 rfl rfl 9 (by decide) hf19 (fun _ h9 => h9) rfl dX3_replace_327 ?_
                      refine lv_iload hx hb dX3_replace_330 (lv_at hl 0 rfl) ?_
                      refine lv_iconst (v := 3) hx hb dX3_replace_332 (by decide) ?_
                      refine kc_ast (i := j) (n := 24) hx hb hK hP hD hS 4 0 rfl rfl (by omega) (by decide) dX3_replace_333 (fun H locs hP hD hS => ?_)
                      have hP : va_P D vwCl (wMdX md cI 0 mK (upd ((mR mr mc (mPinsAll mr mc mK mD) mK mD k (mc k) 1024).1) k ((mR mr mc (mPinsAll mr mc mK mD) mK mD k (mc k) 1024).2.1)) mD mr (mw + ((mR mr mc (mPinsAll mr mc mK mD) mK mD k (mc k) 1024).2.2.2)) my mC mk (upd (jVoidSo mk (nI k) ms j) j 3) mu mt mp mb (jMoveEnd (jVoidSo mk (nI k) ms j) (jVoidEnd mk (nI k) ms me tn my j) tn j my) q30 mD (mPinsAll mr mc mK mD)) H := hP
                      have hD : va_D A (wMdX md cI 0 mK (upd ((mR mr mc (mPinsAll mr mc mK mD) mK mD k (mc k) 1024).1) k ((mR mr mc (mPinsAll mr mc mK mD) mK mD k (mc k) 1024).2.1)) mD mr (mw + ((mR mr mc (mPinsAll mr mc mK mD) mK mD k (mc k) 1024).2.2.2)) my mC mk (upd (jVoidSo mk (nI k) ms j) j 3) mu mt mp mb (jMoveEnd (jVoidSo mk (nI k) ms j) (jVoidEnd mk (nI k) ms me tn my j) tn j my) q30 mD (mPinsAll mr mc mK mD)) := hD
                      refine lv_iinc (v := nI (j + 1)) (lv' := [(7, .int (nI (j + 1))), (6, .int ((mR mr mc (mPinsAll mr mc mK mD) mK mD k (mc k) 1024).2.2.2)), (5, .int ((mR mr mc (mPinsAll mr mc mK mD) mK mD k (mc k) 1024).2.2.1)), (4, .int ((mR mr mc (mPinsAll mr mc mK mD) mK mD k (mc k) 1024).2.1)), (3, .ref q30), (2, .int (mc k)), (0, .ref (md 0)), (1, .int (nI k))]) hx hb dX3_replace_334 hl (k := 0) rfl (kc_inc j) (by decide) rfl (fun ls hl => ?_)
                      refine lv_goto (tgt := 297) hx hb dX3_replace_337 (by decide) ?_
                      refine ih_297 _ _ _ hlt_297 ?_
                      have eqw_ms : jVoidSo mk (nI k) ms (j + 1) = upd (jVoidSo mk (nI k) ms j) j 3 := by simp only [jVoidSo, fo_s, if_pos c_10, if_neg c_265, if_neg c_278, if_pos c_314]
                      have eqw_me : jVoidEnd mk (nI k) ms me tn my (j + 1) = jMoveEnd (jVoidSo mk (nI k) ms j) (jVoidEnd mk (nI k) ms me tn my j) tn j my := by simp only [jVoidEnd, fo_s, if_pos c_10, if_neg c_265, if_neg c_278, if_pos c_314, jMoveEnd, jVoidSo_at (Nat.le_refl _)]
                      show va_P D vwCl (wMdX md cI 0 mK (upd ((mR mr mc (mPinsAll mr mc mK mD) mK mD k (mc k) 1024).1) k ((mR mr mc (mPinsAll mr mc mK mD) mK mD k (mc k) 1024).2.1)) mD mr (mw + ((mR mr mc (mPinsAll mr mc mK mD) mK mD k (mc k) 1024).2.2.2)) my mC mk (jVoidSo mk (nI k) ms (j + 1)) mu mt mp mb (jVoidEnd mk (nI k) ms me tn my (j + 1)) q30 mD (mPinsAll mr mc mK mD)) _ ∧ va_D A (wMdX md cI 0 mK (upd ((mR mr mc (mPinsAll mr mc mK mD) mK mD k (mc k) 1024).1) k ((mR mr mc (mPinsAll mr mc mK mD) mK mD k (mc k) 1024).2.1)) mD mr (mw + ((mR mr mc (mPinsAll mr mc mK mD) mK mD k (mc k) 1024).2.2.2)) my mC mk (jVoidSo mk (nI k) ms (j + 1)) mu mt mp mb (jVoidEnd mk (nI k) ms me tn my (j + 1)) q30 mD (mPinsAll mr mc mK mD)) ∧ va_S A s.heap _ _ ∧ lv_has _ 12 [(7, .int (nI (j + 1))), (6, .int ((mR mr mc (mPinsAll mr mc mK mD) mK mD k (mc k) 1024).2.2.2)), (5, .int ((mR mr mc (mPinsAll mr mc mK mD) mK mD k (mc k) 1024).2.2.1)), (4, .int ((mR mr mc (mPinsAll mr mc mK mD) mK mD k (mc k) 1024).2.1)), (3, .ref q30), (2, .int (mc k)), (0, .ref (md 0)), (1, .int (nI k))]
                      rw [eqw_ms, eqw_me]
                      exact ⟨hP, hD, hS, lv_sub hl [0, 1, 2, 3, 4, 5, 6, 7] rfl⟩
                    · refine lv_goto (tgt := 334) hx hb dX3_replace_317 (by decide) ?_
                      refine lv_iinc (v := nI (j + 1)) (lv' := [(7, .int (nI (j + 1))), (6, .int ((mR mr mc (mPinsAll mr mc mK mD) mK mD k (mc k) 1024).2.2.2)), (5, .int ((mR mr mc (mPinsAll mr mc mK mD) mK mD k (mc k) 1024).2.2.1)), (4, .int ((mR mr mc (mPinsAll mr mc mK mD) mK mD k (mc k) 1024).2.1)), (3, .ref q30), (2, .int (mc k)), (0, .ref (md 0)), (1, .int (nI k))]) hx hb dX3_replace_334 hl (k := 0) rfl (kc_inc j) (by decide) rfl (fun ls hl => ?_)
                      refine lv_goto (tgt := 297) hx hb dX3_replace_337 (by decide) ?_
                      refine ih_297 _ _ _ hlt_297 ?_
                      have eqw_ms : jVoidSo mk (nI k) ms (j + 1) = jVoidSo mk (nI k) ms j := by simp only [jVoidSo, fo_s, if_pos c_10, if_neg c_265, if_neg c_278, if_neg c_314]
                      have eqw_me : jVoidEnd mk (nI k) ms me tn my (j + 1) = jVoidEnd mk (nI k) ms me tn my j := by simp only [jVoidEnd, fo_s, if_pos c_10, if_neg c_265, if_neg c_278, if_neg c_314, jMoveEnd, jVoidSo_at (Nat.le_refl _)]
                      show va_P D vwCl (wMdX md cI 0 mK (upd ((mR mr mc (mPinsAll mr mc mK mD) mK mD k (mc k) 1024).1) k ((mR mr mc (mPinsAll mr mc mK mD) mK mD k (mc k) 1024).2.1)) mD mr (mw + ((mR mr mc (mPinsAll mr mc mK mD) mK mD k (mc k) 1024).2.2.2)) my mC mk (jVoidSo mk (nI k) ms (j + 1)) mu mt mp mb (jVoidEnd mk (nI k) ms me tn my (j + 1)) q30 mD (mPinsAll mr mc mK mD)) _ ∧ va_D A (wMdX md cI 0 mK (upd ((mR mr mc (mPinsAll mr mc mK mD) mK mD k (mc k) 1024).1) k ((mR mr mc (mPinsAll mr mc mK mD) mK mD k (mc k) 1024).2.1)) mD mr (mw + ((mR mr mc (mPinsAll mr mc mK mD) mK mD k (mc k) 1024).2.2.2)) my mC mk (jVoidSo mk (nI k) ms (j + 1)) mu mt mp mb (jVoidEnd mk (nI k) ms me tn my (j + 1)) q30 mD (mPinsAll mr mc mK mD)) ∧ va_S A s.heap _ _ ∧ lv_has _ 12 [(7, .int (nI (j + 1))), (6, .int ((mR mr mc (mPinsAll mr mc mK mD) mK mD k (mc k) 1024).2.2.2)), (5, .int ((mR mr mc (mPinsAll mr mc mK mD) mK mD k (mc k) 1024).2.2.1)), (4, .int ((mR mr mc (mPinsAll mr mc mK mD) mK mD k (mc k) 1024).2.1)), (3, .ref q30), (2, .int (mc k)), (0, .ref (md 0)), (1, .int (nI k))]
                      rw [eqw_ms, eqw_me]
                      exact ⟨hP, hD, hS, lv_sub hl [0, 1, 2, 3, 4, 5, 6, 7] rfl⟩
                · exact ⟨hP, hD, hS, lv_sub hl [0, 1, 2, 3, 4, 5, 6, 7] rfl⟩
              · exact absurd c_278 c_265
            · exact absurd c_265 hne
          · refine lv_iconst (v := 1) hx hb dX3_replace_81 (by decide) ?_
            refine lv_istore (lv' := [(8, .int 1), (7, .int (nI j)), (6, .int ((mR mr mc (mPinsAll mr mc mK mD) mK mD k (mc k) j).2.2.2)), (5, .int ((mR mr mc (mPinsAll mr mc mK mD) mK mD k (mc k) j).2.2.1)), (4, .int ((mR mr mc (mPinsAll mr mc mK mD) mK mD k (mc k) j).2.1)), (3, .ref q30), (2, .int (mc k)), (0, .ref (md 0)), (1, .int (nI k))]) hx hb dX3_replace_82 hl (by decide) rfl (fun ls hl => ?_)
            refine lv_iconst (v := 0) hx hb dX3_replace_84 (by decide) ?_
            refine lv_istore (lv' := [(9, .int 0), (8, .int 1), (7, .int (nI j)), (6, .int ((mR mr mc (mPinsAll mr mc mK mD) mK mD k (mc k) j).2.2.2)), (5, .int ((mR mr mc (mPinsAll mr mc mK mD) mK mD k (mc k) j).2.2.1)), (4, .int ((mR mr mc (mPinsAll mr mc mK mD) mK mD k (mc k) j).2.1)), (3, .ref q30), (2, .int (mc k)), (0, .ref (md 0)), (1, .int (nI k))]) hx hb dX3_replace_85 hl (by decide) rfl (fun ls hl => ?_)
            refine kc_forW (pc := 87) (N := mK) (P := fun i ls => lv_has ls 12 [(9, .int (nI i)), (8, .int (bI (mFree (mR mr mc (mPinsAll mr mc mK mD) mK mD k (mc k) j).1 k (mc k) (nI j) i))), (7, .int (nI j)), (6, .int ((mR mr mc (mPinsAll mr mc mK mD) mK mD k (mc k) j).2.2.2)), (5, .int ((mR mr mc (mPinsAll mr mc mK mD) mK mD k (mc k) j).2.2.1)), (4, .int ((mR mr mc (mPinsAll mr mc mK mD) mK mD k (mc k) j).2.1)), (3, .ref q30), (2, .int (mc k)), (0, .ref (md 0)), (1, .int (nI k))]) (fun i ls hj_87 hp ih_87 => ?_) ls ?_
            · have hl := hp
              refine lv_iload hx hb dX3_replace_87 (lv_at hl 0 rfl) ?_
              refine lv_aload_n hx hb dX3_replace_89 rfl (lv_at hl 8 rfl) ?_
              refine va_get (D := D) (ci := 3) (v := .int (nI mK)) (C := RX3) (T := TX3) (N := 15) hx hb hts hinX3 hown hK.1 hP 0 rfl rfl 1 (by decide) hf41 (fun _ h9 => h9) rfl dX3_replace_90 ?_
              refine kc_tst (j := i) (N := mK) (tgt := 136) hx hb dX3_replace_93 (by decide) hj_87 (by omega) (fun hN => ?_) (fun hlt_87 => ?_)
              · subst hN
                refine lv_iload hx hb dX3_replace_136 (lv_at hl 1 rfl) ?_
                refine kc_ifneB (tgt := 144) hx hb dX3_replace_138 (by decide) (fun c_138 => ?_) (fun c_138 => ?_)
                · refine lv_aload_n hx hb dX3_replace_144 rfl (lv_at hl 8 rfl) ?_
                  refine va_get (D := D) (ci := 3) (v := .ref (md 1)) (C := RX3) (T := TX3) (N := 15) hx hb hts hinX3 hown hK.1 hP 0 rfl rfl 2 (by decide) hf9 (fun _ h9 => h9) rfl dX3_replace_145 ?_
                  refine lv_iload_n hx hb dX3_replace_148 rfl (lv_at hl 9 rfl) ?_
                  refine lv_iload hx hb dX3_replace_149 (lv_at hl 2 rfl) ?_
                  refine kc_ast (i := k) (n := 8) hx hb hK hP hD hS 1 0 rfl rfl (by omega) (by decide) dX3_replace_151 (fun H locs hP hD hS => ?_)
                  have hP : va_P D vwCl (wMdX md cI 0 mK (upd ((mR mr mc (mPinsAll mr mc mK mD) mK mD k (mc k) j).1) k (nI j)) mD mr mw my mC mk ms mu mt mp mb me q30 mD (mPinsAll mr mc mK mD)) H := hP
                  have hD : va_D A (wMdX md cI 0 mK (upd ((mR mr mc (mPinsAll mr mc mK mD) mK mD k (mc k) j).1) k (nI j)) mD mr mw my mC mk ms mu mt mp mb me q30 mD (mPinsAll mr mc mK mD)) := hD
                  refine lv_aload_n hx hb dX3_replace_152 rfl (lv_at hl 8 rfl) ?_
                  refine lv_iload_n hx hb dX3_replace_153 rfl (lv_at hl 7 rfl) ?_
                  refine kc_rVi (As := [.int (mc k)]) (rest := []) ⟨hx, hb, hml, hown, hts⟩ (c_X3_doorsOf l D md cI 0 mK (upd ((mR mr mc (mPinsAll mr mc mK mD) mK mD k (mc k) j).1) k (nI j)) mD mr mw my mC mk ms mu mt mp mb me (mc k) hK8 hD8) (cwV 1 hts gX3_replace_X3_doorsOf rfl rfl rfl (by decide +kernel) ⟨Nat.le_of_ble_eq_true rfl, Nat.le_of_ble_eq_true rfl⟩) hK hP [0, 1, 2, 3, 4, 5, 6, 7, 8, 9] [0] rfl rfl 0 rfl rfl rfl rfl hl.1 rfl (Nat.le_of_ble_eq_true rfl) dX3_replace_154 ⟨Nat.le_of_ble_eq_true rfl, Nat.le_of_ble_eq_true rfl⟩ ?_
                  refine lv_if_eq (tgt := 163) hx hb dX3_replace_157 (by decide) (fun c_157 => ?_) (fun c_157 => ?_)
                  · refine lv_aload_n hx hb dX3_replace_163 rfl (lv_at hl 8 rfl) ?_
                    refine kc_rVi (As := []) (rest := []) ⟨hx, hb, hml, hown, hts⟩ (c_X3_strayCount l D md cI 0 mK (upd ((mR mr mc (mPinsAll mr mc mK mD) mK mD k (mc k) j).1) k (nI j)) mD mr mw my mC mk ms mu mt mp mb me hK8 hD8) (cwV 0 hts gX3_replace_X3_strayCount rfl rfl rfl (by decide +kernel) ⟨Nat.le_of_ble_eq_true rfl, Nat.le_of_ble_eq_true rfl⟩) hK hP [0, 1, 2, 3, 4, 5, 6, 7, 8, 9] [0] rfl rfl 0 rfl rfl rfl rfl hl.1 rfl (Nat.le_of_ble_eq_true rfl) dX3_replace_164 ⟨Nat.le_of_ble_eq_true rfl, Nat.le_of_ble_eq_true rfl⟩ ?_
                    refine lv_istore (lv' := [(9, .int (mStrays mr (upd ((mR mr mc (mPinsAll mr mc mK mD) mK mD k (mc k) j).1) k (nI j)) mK mD mK)), (8, .int (bI (mFree (mR mr mc (mPinsAll mr mc mK mD) mK mD k (mc k) j).1 k (mc k) (nI j) mK))), (7, .int (nI j)), (6, .int ((mR mr mc (mPinsAll mr mc mK mD) mK mD k (mc k) j).2.2.2)), (5, .int ((mR mr mc (mPinsAll mr mc mK mD) mK mD k (mc k) j).2.2.1)), (4, .int ((mR mr mc (mPinsAll mr mc mK mD) mK mD k (mc k) j).2.1)), (3, .ref q30), (2, .int (mc k)), (0, .ref (md 0)), (1, .int (nI k))]) hx hb dX3_replace_167 hl (by decide) rfl (fun ls hl => ?_)
                    refine lv_iconst (v := 0) hx hb dX3_replace_169 (by decide) ?_
                    refine lv_istore (lv' := [(10, .int 0), (9, .int (mStrays mr (upd ((mR mr mc (mPinsAll mr mc mK mD) mK mD k (mc k) j).1) k (nI j)) mK mD mK)), (8, .int (bI (mFree (mR mr mc (mPinsAll mr mc mK mD) mK mD k (mc k) j).1 k (mc k) (nI j) mK))), (7, .int (nI j)), (6, .int ((mR mr mc (mPinsAll mr mc mK mD) mK mD k (mc k) j).2.2.2)), (5, .int ((mR mr mc (mPinsAll mr mc mK mD) mK mD k (mc k) j).2.2.1)), (4, .int ((mR mr mc (mPinsAll mr mc mK mD) mK mD k (mc k) j).2.1)), (3, .ref q30), (2, .int (mc k)), (0, .ref (md 0)), (1, .int (nI k))]) hx hb dX3_replace_170 hl (by decide) rfl (fun ls hl => ?_)
                    refine lv_iconst (v := 0) hx hb dX3_replace_172 (by decide) ?_
                    refine lv_istore (lv' := [(11, .int 0), (10, .int 0), (9, .int (mStrays mr (upd ((mR mr mc (mPinsAll mr mc mK mD) mK mD k (mc k) j).1) k (nI j)) mK mD mK)), (8, .int (bI (mFree (mR mr mc (mPinsAll mr mc mK mD) mK mD k (mc k) j).1 k (mc k) (nI j) mK))), (7, .int (nI j)), (6, .int ((mR mr mc (mPinsAll mr mc mK mD) mK mD k (mc k) j).2.2.2)), (5, .int ((mR mr mc (mPinsAll mr mc mK mD) mK mD k (mc k) j).2.2.1)), (4, .int ((mR mr mc (mPinsAll mr mc mK mD) mK mD k (mc k) j).2.1)), (3, .ref q30), (2, .int (mc k)), (0, .ref (md 0)), (1, .int (nI k))]) hx hb dX3_replace_173 hl (by decide) rfl (fun ls hl => ?_)
                    refine kc_forW (pc := 175) (N := mD) (P := fun i ls => lv_has ls 12 [(11, .int (nI i)), (10, .int (mTurned mr (upd (mR mr mc (mPinsAll mr mc mK mD) mK mD k (mc k) j).1 k (nI j)) (mPinsAll mr mc mK mD) mK i)), (9, .int (mStrays mr (upd ((mR mr mc (mPinsAll mr mc mK mD) mK mD k (mc k) j).1) k (nI j)) mK mD mK)), (7, .int (nI j)), (6, .int ((mR mr mc (mPinsAll mr mc mK mD) mK mD k (mc k) j).2.2.2)), (5, .int ((mR mr mc (mPinsAll mr mc mK mD) mK mD k (mc k) j).2.2.1)), (4, .int ((mR mr mc (mPinsAll mr mc mK mD) mK mD k (mc k) j).2.1)), (3, .ref q30), (2, .int (mc k)), (0, .ref (md 0)), (1, .int (nI k))]) (fun i ls hj_175 hp ih_175 => ?_) ls ?_
                    · have hl := hp
                      refine lv_iload hx hb dX3_replace_175 (lv_at hl 0 rfl) ?_
                      refine lv_aload_n hx hb dX3_replace_177 rfl (lv_at hl 9 rfl) ?_
                      refine va_get (D := D) (ci := 3) (v := .int (nI mD)) (C := RX3) (T := TX3) (N := 15) hx hb hts hinX3 hown hK.1 hP 0 rfl rfl 3 (by decide) hf44 (fun _ h9 => h9) rfl dX3_replace_178 ?_
                      refine kc_tst (j := i) (N := mD) (tgt := 209) hx hb dX3_replace_181 (by decide) hj_175 (by omega) (fun hN => ?_) (fun hlt_175 => ?_)
                      · subst hN
                        refine lv_iload hx hb dX3_replace_209 (lv_at hl 6 rfl) ?_
                        refine lv_iconst (v := (-1)) hx hb dX3_replace_211 (by decide) ?_
                        refine lv_icmp_eq (tgt := 239) hx hb dX3_replace_212 (by decide) (fun c_212 => ?_) (fun c_212 => ?_)
                        · refine lv_iload hx hb dX3_replace_239 (lv_at hl 3 rfl) ?_
                          refine lv_istore (lv' := [(4, .int (nI j)), (11, .int (nI mD)), (10, .int (mTurned mr (upd (mR mr mc (mPinsAll mr mc mK mD) mK mD k (mc k) j).1 k (nI j)) (mPinsAll mr mc mK mD) mK mD)), (9, .int (mStrays mr (upd ((mR mr mc (mPinsAll mr mc mK mD) mK mD k (mc k) j).1) k (nI j)) mK mD mK)), (7, .int (nI j)), (6, .int ((mR mr mc (mPinsAll mr mc mK mD) mK mD k (mc k) j).2.2.2)), (5, .int ((mR mr mc (mPinsAll mr mc mK mD) mK mD k (mc k) j).2.2.1)), (3, .ref q30), (2, .int (mc k)), (0, .ref (md 0)), (1, .int (nI k))]) hx hb dX3_replace_241 hl (by decide) rfl (fun ls hl => ?_)
                          refine lv_iload hx hb dX3_replace_243 (lv_at hl 3 rfl) ?_
                          refine lv_istore (lv' := [(5, .int (mStrays mr (upd ((mR mr mc (mPinsAll mr mc mK mD) mK mD k (mc k) j).1) k (nI j)) mK mD mK)), (4, .int (nI j)), (11, .int (nI mD)), (10, .int (mTurned mr (upd (mR mr mc (mPinsAll mr mc mK mD) mK mD k (mc k) j).1 k (nI j)) (mPinsAll mr mc mK mD) mK mD)), (9, .int (mStrays mr (upd ((mR mr mc (mPinsAll mr mc mK mD) mK mD k (mc k) j).1) k (nI j)) mK mD mK)), (7, .int (nI j)), (6, .int ((mR mr mc (mPinsAll mr mc mK mD) mK mD k (mc k) j).2.2.2)), (3, .ref q30), (2, .int (mc k)), (0, .ref (md 0)), (1, .int (nI k))]) hx hb dX3_replace_245 hl (by decide) rfl (fun ls hl => ?_)
                          refine lv_iload hx hb dX3_replace_247 (lv_at hl 3 rfl) ?_
                          refine lv_istore (lv' := [(6, .int (mTurned mr (upd (mR mr mc (mPinsAll mr mc mK mD) mK mD k (mc k) j).1 k (nI j)) (mPinsAll mr mc mK mD) mK mD)), (5, .int (mStrays mr (upd ((mR mr mc (mPinsAll mr mc mK mD) mK mD k (mc k) j).1) k (nI j)) mK mD mK)), (4, .int (nI j)), (11, .int (nI mD)), (10, .int (mTurned mr (upd (mR mr mc (mPinsAll mr mc mK mD) mK mD k (mc k) j).1 k (nI j)) (mPinsAll mr mc mK mD) mK mD)), (9, .int (mStrays mr (upd ((mR mr mc (mPinsAll mr mc mK mD) mK mD k (mc k) j).1) k (nI j)) mK mD mK)), (7, .int (nI j)), (3, .ref q30), (2, .int (mc k)), (0, .ref (md 0)), (1, .int (nI k))]) hx hb dX3_replace_249 hl (by decide) rfl (fun ls hl => ?_)
                          refine lv_iinc (v := nI (j + 1)) (lv' := [(7, .int (nI (j + 1))), (6, .int (mTurned mr (upd (mR mr mc (mPinsAll mr mc mK mD) mK mD k (mc k) j).1 k (nI j)) (mPinsAll mr mc mK mD) mK mD)), (5, .int (mStrays mr (upd ((mR mr mc (mPinsAll mr mc mK mD) mK mD k (mc k) j).1) k (nI j)) mK mD mK)), (4, .int (nI j)), (11, .int (nI mD)), (10, .int (mTurned mr (upd (mR mr mc (mPinsAll mr mc mK mD) mK mD k (mc k) j).1 k (nI j)) (mPinsAll mr mc mK mD) mK mD)), (9, .int (mStrays mr (upd ((mR mr mc (mPinsAll mr mc mK mD) mK mD k (mc k) j).1) k (nI j)) mK mD mK)), (3, .ref q30), (2, .int (mc k)), (0, .ref (md 0)), (1, .int (nI k))]) hx hb dX3_replace_251 hl (k := 6) rfl (kc_inc j) (by decide) rfl (fun ls hl => ?_)
                          refine lv_goto (tgt := 73) hx hb dX3_replace_254 (by decide) ?_
                          refine ih_73 _ _ _ hlt_73 ?_
                          have eq_6 : (mR mr mc (mPinsAll mr mc mK mD) mK mD k (mc k) (j + 1)).2.2.2 = mTurned mr (upd (mR mr mc (mPinsAll mr mc mK mD) mK mD k (mc k) j).1 k (nI j)) (mPinsAll mr mc mK mD) mK mD := by rw [mR_s]; simp only [mRStep, if_pos c_10, if_pos c_138, if_pos c_157, if_pos c_212]
                          have eq_5 : (mR mr mc (mPinsAll mr mc mK mD) mK mD k (mc k) (j + 1)).2.2.1 = mStrays mr (upd ((mR mr mc (mPinsAll mr mc mK mD) mK mD k (mc k) j).1) k (nI j)) mK mD mK := by rw [mR_s]; simp only [mRStep, if_pos c_10, if_pos c_138, if_pos c_157, if_pos c_212]
                          have eq_4 : (mR mr mc (mPinsAll mr mc mK mD) mK mD k (mc k) (j + 1)).2.1 = nI j := by rw [mR_s]; simp only [mRStep, if_pos c_10, if_pos c_138, if_pos c_157, if_pos c_212]
                          have eqw_mc : (mR mr mc (mPinsAll mr mc mK mD) mK mD k (mc k) (j + 1)).1 = upd ((mR mr mc (mPinsAll mr mc mK mD) mK mD k (mc k) j).1) k (nI j) := by rw [mR_s]; simp only [mRStep, if_pos c_10, if_pos c_138, if_pos c_157, if_pos c_212]
                          show va_P D vwCl (wMdX md cI 0 mK ((mR mr mc (mPinsAll mr mc mK mD) mK mD k (mc k) (j + 1)).1) mD mr mw my mC mk ms mu mt mp mb me q30 mD (mPinsAll mr mc mK mD)) _ ∧ va_D A (wMdX md cI 0 mK ((mR mr mc (mPinsAll mr mc mK mD) mK mD k (mc k) (j + 1)).1) mD mr mw my mC mk ms mu mt mp mb me q30 mD (mPinsAll mr mc mK mD)) ∧ va_S A s.heap _ _ ∧ lv_has _ 12 [(7, .int (nI (j + 1))), (6, .int ((mR mr mc (mPinsAll mr mc mK mD) mK mD k (mc k) (j + 1)).2.2.2)), (5, .int ((mR mr mc (mPinsAll mr mc mK mD) mK mD k (mc k) (j + 1)).2.2.1)), (4, .int ((mR mr mc (mPinsAll mr mc mK mD) mK mD k (mc k) (j + 1)).2.1)), (3, .ref q30), (2, .int (mc k)), (0, .ref (md 0)), (1, .int (nI k))]
                          rw [eq_6, eq_5, eq_4, eqw_mc]
                          exact ⟨hP, hD, hS, lv_sub hl [0, 1, 2, 3, 7, 8, 9, 10] rfl⟩
                        · refine lv_iload hx hb dX3_replace_215 (lv_at hl 2 rfl) ?_
                          refine lv_iload hx hb dX3_replace_217 (lv_at hl 5 rfl) ?_
                          refine lv_icmp_gt (tgt := 251) hx hb dX3_replace_219 (by decide) (fun c_219 => ?_) (fun c_219 => ?_)
                          · refine lv_iinc (v := nI (j + 1)) (lv' := [(7, .int (nI (j + 1))), (11, .int (nI mD)), (10, .int (mTurned mr (upd (mR mr mc (mPinsAll mr mc mK mD) mK mD k (mc k) j).1 k (nI j)) (mPinsAll mr mc mK mD) mK mD)), (9, .int (mStrays mr (upd ((mR mr mc (mPinsAll mr mc mK mD) mK mD k (mc k) j).1) k (nI j)) mK mD mK)), (6, .int ((mR mr mc (mPinsAll mr mc mK mD) mK mD k (mc k) j).2.2.2)), (5, .int ((mR mr mc (mPinsAll mr mc mK mD) mK mD k (mc k) j).2.2.1)), (4, .int ((mR mr mc (mPinsAll mr mc mK mD) mK mD k (mc k) j).2.1)), (3, .ref q30), (2, .int (mc k)), (0, .ref (md 0)), (1, .int (nI k))]) hx hb dX3_replace_251 hl (k := 3) rfl (kc_inc j) (by decide) rfl (fun ls hl => ?_)
                            refine lv_goto (tgt := 73) hx hb dX3_replace_254 (by decide) ?_
                            refine ih_73 _ _ _ hlt_73 ?_
                            have eq_6 : (mR mr mc (mPinsAll mr mc mK mD) mK mD k (mc k) (j + 1)).2.2.2 = (mR mr mc (mPinsAll mr mc mK mD) mK mD k (mc k) j).2.2.2 := by rw [mR_s]; simp only [mRStep, if_pos c_10, if_pos c_138, if_pos c_157, if_neg c_212, if_pos c_219]
                            have eq_5 : (mR mr mc (mPinsAll mr mc mK mD) mK mD k (mc k) (j + 1)).2.2.1 = (mR mr mc (mPinsAll mr mc mK mD) mK mD k (mc k) j).2.2.1 := by rw [mR_s]; simp only [mRStep, if_pos c_10, if_pos c_138, if_pos c_157, if_neg c_212, if_pos c_219]
                            have eq_4 : (mR mr mc (mPinsAll mr mc mK mD) mK mD k (mc k) (j + 1)).2.1 = (mR mr mc (mPinsAll mr mc mK mD) mK mD k (mc k) j).2.1 := by rw [mR_s]; simp only [mRStep, if_pos c_10, if_pos c_138, if_pos c_157, if_neg c_212, if_pos c_219]
                            have eqw_mc : (mR mr mc (mPinsAll mr mc mK mD) mK mD k (mc k) (j + 1)).1 = upd ((mR mr mc (mPinsAll mr mc mK mD) mK mD k (mc k) j).1) k (nI j) := by rw [mR_s]; simp only [mRStep, if_pos c_10, if_pos c_138, if_pos c_157, if_neg c_212, if_pos c_219]
                            show va_P D vwCl (wMdX md cI 0 mK ((mR mr mc (mPinsAll mr mc mK mD) mK mD k (mc k) (j + 1)).1) mD mr mw my mC mk ms mu mt mp mb me q30 mD (mPinsAll mr mc mK mD)) _ ∧ va_D A (wMdX md cI 0 mK ((mR mr mc (mPinsAll mr mc mK mD) mK mD k (mc k) (j + 1)).1) mD mr mw my mC mk ms mu mt mp mb me q30 mD (mPinsAll mr mc mK mD)) ∧ va_S A s.heap _ _ ∧ lv_has _ 12 [(7, .int (nI (j + 1))), (6, .int ((mR mr mc (mPinsAll mr mc mK mD) mK mD k (mc k) (j + 1)).2.2.2)), (5, .int ((mR mr mc (mPinsAll mr mc mK mD) mK mD k (mc k) (j + 1)).2.2.1)), (4, .int ((mR mr mc (mPinsAll mr mc mK mD) mK mD k (mc k) (j + 1)).2.1)), (3, .ref q30), (2, .int (mc k)), (0, .ref (md 0)), (1, .int (nI k))]
                            rw [eq_6, eq_5, eq_4, eqw_mc]
                            exact ⟨hP, hD, hS, lv_sub hl [0, 4, 5, 6, 7, 8, 9, 10] rfl⟩
                          · refine lv_iload hx hb dX3_replace_222 (lv_at hl 2 rfl) ?_
                            refine lv_iload hx hb dX3_replace_224 (lv_at hl 5 rfl) ?_
                            refine lv_icmp_ne (tgt := 239) hx hb dX3_replace_226 (by decide) (fun c_226 => ?_) (fun c_226 => ?_)
                            · refine lv_iload hx hb dX3_replace_239 (lv_at hl 3 rfl) ?_
                              refine lv_istore (lv' := [(4, .int (nI j)), (11, .int (nI mD)), (10, .int (mTurned mr (upd (mR mr mc (mPinsAll mr mc mK mD) mK mD k (mc k) j).1 k (nI j)) (mPinsAll mr mc mK mD) mK mD)), (9, .int (mStrays mr (upd ((mR mr mc (mPinsAll mr mc mK mD) mK mD k (mc k) j).1) k (nI j)) mK mD mK)), (7, .int (nI j)), (6, .int ((mR mr mc (mPinsAll mr mc mK mD) mK mD k (mc k) j).2.2.2)), (5, .int ((mR mr mc (mPinsAll mr mc mK mD) mK mD k (mc k) j).2.2.1)), (3, .ref q30), (2, .int (mc k)), (0, .ref (md 0)), (1, .int (nI k))]) hx hb dX3_replace_241 hl (by decide) rfl (fun ls hl => ?_)
                              refine lv_iload hx hb dX3_replace_243 (lv_at hl 3 rfl) ?_
                              refine lv_istore (lv' := [(5, .int (mStrays mr (upd ((mR mr mc (mPinsAll mr mc mK mD) mK mD k (mc k) j).1) k (nI j)) mK mD mK)), (4, .int (nI j)), (11, .int (nI mD)), (10, .int (mTurned mr (upd (mR mr mc (mPinsAll mr mc mK mD) mK mD k (mc k) j).1 k (nI j)) (mPinsAll mr mc mK mD) mK mD)), (9, .int (mStrays mr (upd ((mR mr mc (mPinsAll mr mc mK mD) mK mD k (mc k) j).1) k (nI j)) mK mD mK)), (7, .int (nI j)), (6, .int ((mR mr mc (mPinsAll mr mc mK mD) mK mD k (mc k) j).2.2.2)), (3, .ref q30), (2, .int (mc k)), (0, .ref (md 0)), (1, .int (nI k))]) hx hb dX3_replace_245 hl (by decide) rfl (fun ls hl => ?_)
                              refine lv_iload hx hb dX3_replace_247 (lv_at hl 3 rfl) ?_
                              refine lv_istore (lv' := [(6, .int (mTurned mr (upd (mR mr mc (mPinsAll mr mc mK mD) mK mD k (mc k) j).1 k (nI j)) (mPinsAll mr mc mK mD) mK mD)), (5, .int (mStrays mr (upd ((mR mr mc (mPinsAll mr mc mK mD) mK mD k (mc k) j).1) k (nI j)) mK mD mK)), (4, .int (nI j)), (11, .int (nI mD)), (10, .int (mTurned mr (upd (mR mr mc (mPinsAll mr mc mK mD) mK mD k (mc k) j).1 k (nI j)) (mPinsAll mr mc mK mD) mK mD)), (9, .int (mStrays mr (upd ((mR mr mc (mPinsAll mr mc mK mD) mK mD k (mc k) j).1) k (nI j)) mK mD mK)), (7, .int (nI j)), (3, .ref q30), (2, .int (mc k)), (0, .ref (md 0)), (1, .int (nI k))]) hx hb dX3_replace_249 hl (by decide) rfl (fun ls hl => ?_)
                              refine lv_iinc (v := nI (j + 1)) (lv' := [(7, .int (nI (j + 1))), (6, .int (mTurned mr (upd (mR mr mc (mPinsAll mr mc mK mD) mK mD k (mc k) j).1 k (nI j)) (mPinsAll mr mc mK mD) mK mD)), (5, .int (mStrays mr (upd ((mR mr mc (mPinsAll mr mc mK mD) mK mD k (mc k) j).1) k (nI j)) mK mD mK)), (4, .int (nI j)), (11, .int (nI mD)), (10, .int (mTurned mr (upd (mR mr mc (mPinsAll mr mc mK mD) mK mD k (mc k) j).1 k (nI j)) (mPinsAll mr mc mK mD) mK mD)), (9, .int (mStrays mr (upd ((mR mr mc (mPinsAll mr mc mK mD) mK mD k (mc k) j).1) k (nI j)) mK mD mK)), (3, .ref q30), (2, .int (mc k)), (0, .ref (md 0)), (1, .int (nI k))]) hx hb dX3_replace_251 hl (k := 6) rfl (kc_inc j) (by decide) rfl (fun ls hl => ?_)
                              refine lv_goto (tgt := 73) hx hb dX3_replace_254 (by decide) ?_
                              refine ih_73 _ _ _ hlt_73 ?_
                              have eq_6 : (mR mr mc (mPinsAll mr mc mK mD) mK mD k (mc k) (j + 1)).2.2.2 = mTurned mr (upd (mR mr mc (mPinsAll mr mc mK mD) mK mD k (mc k) j).1 k (nI j)) (mPinsAll mr mc mK mD) mK mD := by rw [mR_s]; simp only [mRStep, if_pos c_10, if_pos c_138, if_pos c_157, if_neg c_212, if_neg c_219, if_neg c_226]
                              have eq_5 : (mR mr mc (mPinsAll mr mc mK mD) mK mD k (mc k) (j + 1)).2.2.1 = mStrays mr (upd ((mR mr mc (mPinsAll mr mc mK mD) mK mD k (mc k) j).1) k (nI j)) mK mD mK := by rw [mR_s]; simp only [mRStep, if_pos c_10, if_pos c_138, if_pos c_157, if_neg c_212, if_neg c_219, if_neg c_226]
                              have eq_4 : (mR mr mc (mPinsAll mr mc mK mD) mK mD k (mc k) (j + 1)).2.1 = nI j := by rw [mR_s]; simp only [mRStep, if_pos c_10, if_pos c_138, if_pos c_157, if_neg c_212, if_neg c_219, if_neg c_226]
                              have eqw_mc : (mR mr mc (mPinsAll mr mc mK mD) mK mD k (mc k) (j + 1)).1 = upd ((mR mr mc (mPinsAll mr mc mK mD) mK mD k (mc k) j).1) k (nI j) := by rw [mR_s]; simp only [mRStep, if_pos c_10, if_pos c_138, if_pos c_157, if_neg c_212, if_neg c_219, if_neg c_226]
                              show va_P D vwCl (wMdX md cI 0 mK ((mR mr mc (mPinsAll mr mc mK mD) mK mD k (mc k) (j + 1)).1) mD mr mw my mC mk ms mu mt mp mb me q30 mD (mPinsAll mr mc mK mD)) _ ∧ va_D A (wMdX md cI 0 mK ((mR mr mc (mPinsAll mr mc mK mD) mK mD k (mc k) (j + 1)).1) mD mr mw my mC mk ms mu mt mp mb me q30 mD (mPinsAll mr mc mK mD)) ∧ va_S A s.heap _ _ ∧ lv_has _ 12 [(7, .int (nI (j + 1))), (6, .int ((mR mr mc (mPinsAll mr mc mK mD) mK mD k (mc k) (j + 1)).2.2.2)), (5, .int ((mR mr mc (mPinsAll mr mc mK mD) mK mD k (mc k) (j + 1)).2.2.1)), (4, .int ((mR mr mc (mPinsAll mr mc mK mD) mK mD k (mc k) (j + 1)).2.1)), (3, .ref q30), (2, .int (mc k)), (0, .ref (md 0)), (1, .int (nI k))]
                              rw [eq_6, eq_5, eq_4, eqw_mc]
                              exact ⟨hP, hD, hS, lv_sub hl [0, 1, 2, 3, 7, 8, 9, 10] rfl⟩
                            · refine lv_iload hx hb dX3_replace_229 (lv_at hl 1 rfl) ?_
                              refine lv_iload hx hb dX3_replace_231 (lv_at hl 4 rfl) ?_
                              refine lv_icmp_lt (tgt := 239) hx hb dX3_replace_233 (by decide) (fun c_233 => ?_) (fun c_233 => ?_)
                              · refine lv_iload hx hb dX3_replace_239 (lv_at hl 3 rfl) ?_
                                refine lv_istore (lv' := [(4, .int (nI j)), (11, .int (nI mD)), (10, .int (mTurned mr (upd (mR mr mc (mPinsAll mr mc mK mD) mK mD k (mc k) j).1 k (nI j)) (mPinsAll mr mc mK mD) mK mD)), (9, .int (mStrays mr (upd ((mR mr mc (mPinsAll mr mc mK mD) mK mD k (mc k) j).1) k (nI j)) mK mD mK)), (7, .int (nI j)), (6, .int ((mR mr mc (mPinsAll mr mc mK mD) mK mD k (mc k) j).2.2.2)), (5, .int ((mR mr mc (mPinsAll mr mc mK mD) mK mD k (mc k) j).2.2.1)), (3, .ref q30), (2, .int (mc k)), (0, .ref (md 0)), (1, .int (nI k))]) hx hb dX3_replace_241 hl (by decide) rfl (fun ls hl => ?_)
                                refine lv_iload hx hb dX3_replace_243 (lv_at hl 3 rfl) ?_
                                refine lv_istore (lv' := [(5, .int (mStrays mr (upd ((mR mr mc (mPinsAll mr mc mK mD) mK mD k (mc k) j).1) k (nI j)) mK mD mK)), (4, .int (nI j)), (11, .int (nI mD)), (10, .int (mTurned mr (upd (mR mr mc (mPinsAll mr mc mK mD) mK mD k (mc k) j).1 k (nI j)) (mPinsAll mr mc mK mD) mK mD)), (9, .int (mStrays mr (upd ((mR mr mc (mPinsAll mr mc mK mD) mK mD k (mc k) j).1) k (nI j)) mK mD mK)), (7, .int (nI j)), (6, .int ((mR mr mc (mPinsAll mr mc mK mD) mK mD k (mc k) j).2.2.2)), (3, .ref q30), (2, .int (mc k)), (0, .ref (md 0)), (1, .int (nI k))]) hx hb dX3_replace_245 hl (by decide) rfl (fun ls hl => ?_)
                                refine lv_iload hx hb dX3_replace_247 (lv_at hl 3 rfl) ?_
                                refine lv_istore (lv' := [(6, .int (mTurned mr (upd (mR mr mc (mPinsAll mr mc mK mD) mK mD k (mc k) j).1 k (nI j)) (mPinsAll mr mc mK mD) mK mD)), (5, .int (mStrays mr (upd ((mR mr mc (mPinsAll mr mc mK mD) mK mD k (mc k) j).1) k (nI j)) mK mD mK)), (4, .int (nI j)), (11, .int (nI mD)), (10, .int (mTurned mr (upd (mR mr mc (mPinsAll mr mc mK mD) mK mD k (mc k) j).1 k (nI j)) (mPinsAll mr mc mK mD) mK mD)), (9, .int (mStrays mr (upd ((mR mr mc (mPinsAll mr mc mK mD) mK mD k (mc k) j).1) k (nI j)) mK mD mK)), (7, .int (nI j)), (3, .ref q30), (2, .int (mc k)), (0, .ref (md 0)), (1, .int (nI k))]) hx hb dX3_replace_249 hl (by decide) rfl (fun ls hl => ?_)
                                refine lv_iinc (v := nI (j + 1)) (lv' := [(7, .int (nI (j + 1))), (6, .int (mTurned mr (upd (mR mr mc (mPinsAll mr mc mK mD) mK mD k (mc k) j).1 k (nI j)) (mPinsAll mr mc mK mD) mK mD)), (5, .int (mStrays mr (upd ((mR mr mc (mPinsAll mr mc mK mD) mK mD k (mc k) j).1) k (nI j)) mK mD mK)), (4, .int (nI j)), (11, .int (nI mD)), (10, .int (mTurned mr (upd (mR mr mc (mPinsAll mr mc mK mD) mK mD k (mc k) j).1 k (nI j)) (mPinsAll mr mc mK mD) mK mD)), (9, .int (mStrays mr (upd ((mR mr mc (mPinsAll mr mc mK mD) mK mD k (mc k) j).1) k (nI j)) mK mD mK)), (3, .ref q30), (2, .int (mc k)), (0, .ref (md 0)), (1, .int (nI k))]) hx hb dX3_replace_251 hl (k := 6) rfl (kc_inc j) (by decide) rfl (fun ls hl => ?_)
                                refine lv_goto (tgt := 73) hx hb dX3_replace_254 (by decide) ?_
                                refine ih_73 _ _ _ hlt_73 ?_
                                have eq_6 : (mR mr mc (mPinsAll mr mc mK mD) mK mD k (mc k) (j + 1)).2.2.2 = mTurned mr (upd (mR mr mc (mPinsAll mr mc mK mD) mK mD k (mc k) j).1 k (nI j)) (mPinsAll mr mc mK mD) mK mD := by rw [mR_s]; simp only [mRStep, if_pos c_10, if_pos c_138, if_pos c_157, if_neg c_212, if_neg c_219, if_pos c_226, if_pos c_233]
                                have eq_5 : (mR mr mc (mPinsAll mr mc mK mD) mK mD k (mc k) (j + 1)).2.2.1 = mStrays mr (upd ((mR mr mc (mPinsAll mr mc mK mD) mK mD k (mc k) j).1) k (nI j)) mK mD mK := by rw [mR_s]; simp only [mRStep, if_pos c_10, if_pos c_138, if_pos c_157, if_neg c_212, if_neg c_219, if_pos c_226, if_pos c_233]
                                have eq_4 : (mR mr mc (mPinsAll mr mc mK mD) mK mD k (mc k) (j + 1)).2.1 = nI j := by rw [mR_s]; simp only [mRStep, if_pos c_10, if_pos c_138, if_pos c_157, if_neg c_212, if_neg c_219, if_pos c_226, if_pos c_233]
                                have eqw_mc : (mR mr mc (mPinsAll mr mc mK mD) mK mD k (mc k) (j + 1)).1 = upd ((mR mr mc (mPinsAll mr mc mK mD) mK mD k (mc k) j).1) k (nI j) := by rw [mR_s]; simp only [mRStep, if_pos c_10, if_pos c_138, if_pos c_157, if_neg c_212, if_neg c_219, if_pos c_226, if_pos c_233]
                                show va_P D vwCl (wMdX md cI 0 mK ((mR mr mc (mPinsAll mr mc mK mD) mK mD k (mc k) (j + 1)).1) mD mr mw my mC mk ms mu mt mp mb me q30 mD (mPinsAll mr mc mK mD)) _ ∧ va_D A (wMdX md cI 0 mK ((mR mr mc (mPinsAll mr mc mK mD) mK mD k (mc k) (j + 1)).1) mD mr mw my mC mk ms mu mt mp mb me q30 mD (mPinsAll mr mc mK mD)) ∧ va_S A s.heap _ _ ∧ lv_has _ 12 [(7, .int (nI (j + 1))), (6, .int ((mR mr mc (mPinsAll mr mc mK mD) mK mD k (mc k) (j + 1)).2.2.2)), (5, .int ((mR mr mc (mPinsAll mr mc mK mD) mK mD k (mc k) (j + 1)).2.2.1)), (4, .int ((mR mr mc (mPinsAll mr mc mK mD) mK mD k (mc k) (j + 1)).2.1)), (3, .ref q30), (2, .int (mc k)), (0, .ref (md 0)), (1, .int (nI k))]
                                rw [eq_6, eq_5, eq_4, eqw_mc]
                                exact ⟨hP, hD, hS, lv_sub hl [0, 1, 2, 3, 7, 8, 9, 10] rfl⟩
                              · refine lv_goto (tgt := 251) hx hb dX3_replace_236 (by decide) ?_
                                refine lv_iinc (v := nI (j + 1)) (lv' := [(7, .int (nI (j + 1))), (11, .int (nI mD)), (10, .int (mTurned mr (upd (mR mr mc (mPinsAll mr mc mK mD) mK mD k (mc k) j).1 k (nI j)) (mPinsAll mr mc mK mD) mK mD)), (9, .int (mStrays mr (upd ((mR mr mc (mPinsAll mr mc mK mD) mK mD k (mc k) j).1) k (nI j)) mK mD mK)), (6, .int ((mR mr mc (mPinsAll mr mc mK mD) mK mD k (mc k) j).2.2.2)), (5, .int ((mR mr mc (mPinsAll mr mc mK mD) mK mD k (mc k) j).2.2.1)), (4, .int ((mR mr mc (mPinsAll mr mc mK mD) mK mD k (mc k) j).2.1)), (3, .ref q30), (2, .int (mc k)), (0, .ref (md 0)), (1, .int (nI k))]) hx hb dX3_replace_251 hl (k := 3) rfl (kc_inc j) (by decide) rfl (fun ls hl => ?_)
                                refine lv_goto (tgt := 73) hx hb dX3_replace_254 (by decide) ?_
                                refine ih_73 _ _ _ hlt_73 ?_
                                have eq_6 : (mR mr mc (mPinsAll mr mc mK mD) mK mD k (mc k) (j + 1)).2.2.2 = (mR mr mc (mPinsAll mr mc mK mD) mK mD k (mc k) j).2.2.2 := by rw [mR_s]; simp only [mRStep, if_pos c_10, if_pos c_138, if_pos c_157, if_neg c_212, if_neg c_219, if_pos c_226, if_neg c_233]
                                have eq_5 : (mR mr mc (mPinsAll mr mc mK mD) mK mD k (mc k) (j + 1)).2.2.1 = (mR mr mc (mPinsAll mr mc mK mD) mK mD k (mc k) j).2.2.1 := by rw [mR_s]; simp only [mRStep, if_pos c_10, if_pos c_138, if_pos c_157, if_neg c_212, if_neg c_219, if_pos c_226, if_neg c_233]
                                have eq_4 : (mR mr mc (mPinsAll mr mc mK mD) mK mD k (mc k) (j + 1)).2.1 = (mR mr mc (mPinsAll mr mc mK mD) mK mD k (mc k) j).2.1 := by rw [mR_s]; simp only [mRStep, if_pos c_10, if_pos c_138, if_pos c_157, if_neg c_212, if_neg c_219, if_pos c_226, if_neg c_233]
                                have eqw_mc : (mR mr mc (mPinsAll mr mc mK mD) mK mD k (mc k) (j + 1)).1 = upd ((mR mr mc (mPinsAll mr mc mK mD) mK mD k (mc k) j).1) k (nI j) := by rw [mR_s]; simp only [mRStep, if_pos c_10, if_pos c_138, if_pos c_157, if_neg c_212, if_neg c_219, if_pos c_226, if_neg c_233]
                                show va_P D vwCl (wMdX md cI 0 mK ((mR mr mc (mPinsAll mr mc mK mD) mK mD k (mc k) (j + 1)).1) mD mr mw my mC mk ms mu mt mp mb me q30 mD (mPinsAll mr mc mK mD)) _ ∧ va_D A (wMdX md cI 0 mK ((mR mr mc (mPinsAll mr mc mK mD) mK mD k (mc k) (j + 1)).1) mD mr mw my mC mk ms mu mt mp mb me q30 mD (mPinsAll mr mc mK mD)) ∧ va_S A s.heap _ _ ∧ lv_has _ 12 [(7, .int (nI (j + 1))), (6, .int ((mR mr mc (mPinsAll mr mc mK mD) mK mD k (mc k) (j + 1)).2.2.2)), (5, .int ((mR mr mc (mPinsAll mr mc mK mD) mK mD k (mc k) (j + 1)).2.2.1)), (4, .int ((mR mr mc (mPinsAll mr mc mK mD) mK mD k (mc k) (j + 1)).2.1)), (3, .ref q30), (2, .int (mc k)), (0, .ref (md 0)), (1, .int (nI k))]
                                rw [eq_6, eq_5, eq_4, eqw_mc]
                                exact ⟨hP, hD, hS, lv_sub hl [0, 4, 5, 6, 7, 8, 9, 10] rfl⟩
                      · refine lv_iload hx hb dX3_replace_184 (lv_at hl 1 rfl) ?_
                        refine lv_aload_n hx hb dX3_replace_186 rfl (lv_at hl 7 rfl) ?_
                        refine lv_iload hx hb dX3_replace_187 (lv_at hl 0 rfl) ?_
                        refine kc_ald (i := i) (n := mD) hx hb hK hP 10 0 rfl rfl (by omega) (by omega) dX3_replace_189 ?_
                        refine lv_aload_n hx hb dX3_replace_190 rfl (lv_at hl 9 rfl) ?_
                        refine lv_iload hx hb dX3_replace_191 (lv_at hl 0 rfl) ?_
                        refine kc_rVi (As := [.int (nI i)]) (rest := [.int ((mPinsAll mr mc mK mD) i), .int (mTurned mr (upd (mR mr mc (mPinsAll mr mc mK mD) mK mD k (mc k) j).1 k (nI j)) (mPinsAll mr mc mK mD) mK i)]) ⟨hx, hb, hml, hown, hts⟩ (c_X3_allPins l D md cI 0 mK (upd ((mR mr mc (mPinsAll mr mc mK mD) mK mD k (mc k) j).1) k (nI j)) mD mr mw my mC mk ms mu mt mp mb me i hK8 (by first | assumption | omega)) (cwV 1 hts gX3_replace_X3_allPins rfl rfl rfl (by decide +kernel) ⟨Nat.le_of_ble_eq_true rfl, Nat.le_of_ble_eq_true rfl⟩) hK hP [0, 1, 2, 3, 4, 5, 6, 7, 8, 9] [0] rfl rfl 0 rfl rfl rfl rfl hl.1 rfl (Nat.le_of_ble_eq_true rfl) dX3_replace_193 ⟨Nat.le_of_ble_eq_true rfl, Nat.le_of_ble_eq_true rfl⟩ ?_
                        refine lv_ixor hx hb dX3_replace_196 ?_
                        refine kc_rSi (As := [.int (((mPinsAll mr mc mK mD) i) ^^^ (mAll mr (upd ((mR mr mc (mPinsAll mr mc mK mD) mK mD k (mc k) j).1) k (nI j)) mK i 5))]) (rest := [.int (mTurned mr (upd (mR mr mc (mPinsAll mr mc mK mD) mK mD k (mc k) j).1 k (nI j)) (mPinsAll mr mc mK mD) mK i)]) ⟨hx, hb, hml, hown, hts⟩ (c_J6_bitCount_0f7a4 l (((mPinsAll mr mc mK mD) i) ^^^ (mAll mr (upd ((mR mr mc (mPinsAll mr mc mK mD) mK mD k (mc k) j).1) k (nI j)) mK i 5)) ) (va_cwS 1 hts gX3_replace_J6_bitCount_0f7a4 rfl rfl rfl (by decide +kernel) ⟨Nat.le_of_ble_eq_true rfl, Nat.le_of_ble_eq_true rfl⟩) rfl hl.1 rfl (Nat.le_of_ble_eq_true rfl) dX3_replace_197 ⟨Nat.le_of_ble_eq_true rfl, Nat.le_of_ble_eq_true rfl⟩ ?_
                        refine lv_iadd hx hb dX3_replace_200 ?_
                        refine lv_istore (lv' := [(10, .int ((mTurned mr (upd (mR mr mc (mPinsAll mr mc mK mD) mK mD k (mc k) j).1 k (nI j)) (mPinsAll mr mc mK mD) mK i) + (jPop (((mPinsAll mr mc mK mD) i) ^^^ (mAll mr (upd ((mR mr mc (mPinsAll mr mc mK mD) mK mD k (mc k) j).1) k (nI j)) mK i 5))))), (11, .int (nI i)), (9, .int (mStrays mr (upd ((mR mr mc (mPinsAll mr mc mK mD) mK mD k (mc k) j).1) k (nI j)) mK mD mK)), (7, .int (nI j)), (6, .int ((mR mr mc (mPinsAll mr mc mK mD) mK mD k (mc k) j).2.2.2)), (5, .int ((mR mr mc (mPinsAll mr mc mK mD) mK mD k (mc k) j).2.2.1)), (4, .int ((mR mr mc (mPinsAll mr mc mK mD) mK mD k (mc k) j).2.1)), (3, .ref q30), (2, .int (mc k)), (0, .ref (md 0)), (1, .int (nI k))]) hx hb dX3_replace_201 hl (by decide) rfl (fun ls hl => ?_)
                        refine lv_iinc (v := nI (i + 1)) (lv' := [(11, .int (nI (i + 1))), (10, .int ((mTurned mr (upd (mR mr mc (mPinsAll mr mc mK mD) mK mD k (mc k) j).1 k (nI j)) (mPinsAll mr mc mK mD) mK i) + (jPop (((mPinsAll mr mc mK mD) i) ^^^ (mAll mr (upd ((mR mr mc (mPinsAll mr mc mK mD) mK mD k (mc k) j).1) k (nI j)) mK i 5))))), (9, .int (mStrays mr (upd ((mR mr mc (mPinsAll mr mc mK mD) mK mD k (mc k) j).1) k (nI j)) mK mD mK)), (7, .int (nI j)), (6, .int ((mR mr mc (mPinsAll mr mc mK mD) mK mD k (mc k) j).2.2.2)), (5, .int ((mR mr mc (mPinsAll mr mc mK mD) mK mD k (mc k) j).2.2.1)), (4, .int ((mR mr mc (mPinsAll mr mc mK mD) mK mD k (mc k) j).2.1)), (3, .ref q30), (2, .int (mc k)), (0, .ref (md 0)), (1, .int (nI k))]) hx hb dX3_replace_203 hl (k := 1) rfl (kc_inc i) (by decide) rfl (fun ls hl => ?_)
                        refine lv_goto (tgt := 175) hx hb dX3_replace_206 (by decide) ?_
                        refine ih_175 _ hlt_175 ?_
                        have eq_10 : mTurned mr (upd (mR mr mc (mPinsAll mr mc mK mD) mK mD k (mc k) j).1 k (nI j)) (mPinsAll mr mc mK mD) mK (i + 1) = (mTurned mr (upd (mR mr mc (mPinsAll mr mc mK mD) mK mD k (mc k) j).1 k (nI j)) (mPinsAll mr mc mK mD) mK i) + (jPop (((mPinsAll mr mc mK mD) i) ^^^ (mAll mr (upd ((mR mr mc (mPinsAll mr mc mK mD) mK mD k (mc k) j).1) k (nI j)) mK i 5))) := rfl
                        show lv_has _ 12 [(11, .int (nI (i + 1))), (10, .int (mTurned mr (upd (mR mr mc (mPinsAll mr mc mK mD) mK mD k (mc k) j).1 k (nI j)) (mPinsAll mr mc mK mD) mK (i + 1))), (9, .int (mStrays mr (upd ((mR mr mc (mPinsAll mr mc mK mD) mK mD k (mc k) j).1) k (nI j)) mK mD mK)), (7, .int (nI j)), (6, .int ((mR mr mc (mPinsAll mr mc mK mD) mK mD k (mc k) j).2.2.2)), (5, .int ((mR mr mc (mPinsAll mr mc mK mD) mK mD k (mc k) j).2.2.1)), (4, .int ((mR mr mc (mPinsAll mr mc mK mD) mK mD k (mc k) j).2.1)), (3, .ref q30), (2, .int (mc k)), (0, .ref (md 0)), (1, .int (nI k))]
                        rw [eq_10]
                        exact lv_sub hl [0, 1, 2, 3, 4, 5, 6, 7, 8, 9, 10] rfl
                    · exact lv_sub hl [0, 1, 2, 4, 5, 6, 7, 8, 9, 10, 11] rfl
                  · refine lv_goto (tgt := 251) hx hb dX3_replace_160 (by decide) ?_
                    refine lv_iinc (v := nI (j + 1)) (lv' := [(7, .int (nI (j + 1))), (9, .int (nI mK)), (8, .int (bI (mFree (mR mr mc (mPinsAll mr mc mK mD) mK mD k (mc k) j).1 k (mc k) (nI j) mK))), (6, .int ((mR mr mc (mPinsAll mr mc mK mD) mK mD k (mc k) j).2.2.2)), (5, .int ((mR mr mc (mPinsAll mr mc mK mD) mK mD k (mc k) j).2.2.1)), (4, .int ((mR mr mc (mPinsAll mr mc mK mD) mK mD k (mc k) j).2.1)), (3, .ref q30), (2, .int (mc k)), (0, .ref (md 0)), (1, .int (nI k))]) hx hb dX3_replace_251 hl (k := 2) rfl (kc_inc j) (by decide) rfl (fun ls hl => ?_)
                    refine lv_goto (tgt := 73) hx hb dX3_replace_254 (by decide) ?_
                    refine ih_73 _ _ _ hlt_73 ?_
                    have eq_6 : (mR mr mc (mPinsAll mr mc mK mD) mK mD k (mc k) (j + 1)).2.2.2 = (mR mr mc (mPinsAll mr mc mK mD) mK mD k (mc k) j).2.2.2 := by rw [mR_s]; simp only [mRStep, if_pos c_10, if_pos c_138, if_neg c_157]
                    have eq_5 : (mR mr mc (mPinsAll mr mc mK mD) mK mD k (mc k) (j + 1)).2.2.1 = (mR mr mc (mPinsAll mr mc mK mD) mK mD k (mc k) j).2.2.1 := by rw [mR_s]; simp only [mRStep, if_pos c_10, if_pos c_138, if_neg c_157]
                    have eq_4 : (mR mr mc (mPinsAll mr mc mK mD) mK mD k (mc k) (j + 1)).2.1 = (mR mr mc (mPinsAll mr mc mK mD) mK mD k (mc k) j).2.1 := by rw [mR_s]; simp only [mRStep, if_pos c_10, if_pos c_138, if_neg c_157]
                    have eqw_mc : (mR mr mc (mPinsAll mr mc mK mD) mK mD k (mc k) (j + 1)).1 = upd ((mR mr mc (mPinsAll mr mc mK mD) mK mD k (mc k) j).1) k (nI j) := by rw [mR_s]; simp only [mRStep, if_pos c_10, if_pos c_138, if_neg c_157]
                    show va_P D vwCl (wMdX md cI 0 mK ((mR mr mc (mPinsAll mr mc mK mD) mK mD k (mc k) (j + 1)).1) mD mr mw my mC mk ms mu mt mp mb me q30 mD (mPinsAll mr mc mK mD)) _ ∧ va_D A (wMdX md cI 0 mK ((mR mr mc (mPinsAll mr mc mK mD) mK mD k (mc k) (j + 1)).1) mD mr mw my mC mk ms mu mt mp mb me q30 mD (mPinsAll mr mc mK mD)) ∧ va_S A s.heap _ _ ∧ lv_has _ 12 [(7, .int (nI (j + 1))), (6, .int ((mR mr mc (mPinsAll mr mc mK mD) mK mD k (mc k) (j + 1)).2.2.2)), (5, .int ((mR mr mc (mPinsAll mr mc mK mD) mK mD k (mc k) (j + 1)).2.2.1)), (4, .int ((mR mr mc (mPinsAll mr mc mK mD) mK mD k (mc k) (j + 1)).2.1)), (3, .ref q30), (2, .int (mc k)), (0, .ref (md 0)), (1, .int (nI k))]
                    rw [eq_6, eq_5, eq_4, eqw_mc]
                    exact ⟨hP, hD, hS, lv_sub hl [0, 3, 4, 5, 6, 7, 8, 9] rfl⟩
                · refine lv_goto (tgt := 251) hx hb dX3_replace_141 (by decide) ?_
                  refine lv_iinc (v := nI (j + 1)) (lv' := [(7, .int (nI (j + 1))), (9, .int (nI mK)), (8, .int (bI (mFree (mR mr mc (mPinsAll mr mc mK mD) mK mD k (mc k) j).1 k (mc k) (nI j) mK))), (6, .int ((mR mr mc (mPinsAll mr mc mK mD) mK mD k (mc k) j).2.2.2)), (5, .int ((mR mr mc (mPinsAll mr mc mK mD) mK mD k (mc k) j).2.2.1)), (4, .int ((mR mr mc (mPinsAll mr mc mK mD) mK mD k (mc k) j).2.1)), (3, .ref q30), (2, .int (mc k)), (0, .ref (md 0)), (1, .int (nI k))]) hx hb dX3_replace_251 hl (k := 2) rfl (kc_inc j) (by decide) rfl (fun ls hl => ?_)
                  refine lv_goto (tgt := 73) hx hb dX3_replace_254 (by decide) ?_
                  refine ih_73 _ _ _ hlt_73 ?_
                  have eq_6 : (mR mr mc (mPinsAll mr mc mK mD) mK mD k (mc k) (j + 1)).2.2.2 = (mR mr mc (mPinsAll mr mc mK mD) mK mD k (mc k) j).2.2.2 := by rw [mR_s]; simp only [mRStep, if_pos c_10, if_neg c_138]
                  have eq_5 : (mR mr mc (mPinsAll mr mc mK mD) mK mD k (mc k) (j + 1)).2.2.1 = (mR mr mc (mPinsAll mr mc mK mD) mK mD k (mc k) j).2.2.1 := by rw [mR_s]; simp only [mRStep, if_pos c_10, if_neg c_138]
                  have eq_4 : (mR mr mc (mPinsAll mr mc mK mD) mK mD k (mc k) (j + 1)).2.1 = (mR mr mc (mPinsAll mr mc mK mD) mK mD k (mc k) j).2.1 := by rw [mR_s]; simp only [mRStep, if_pos c_10, if_neg c_138]
                  have eqw_mc : (mR mr mc (mPinsAll mr mc mK mD) mK mD k (mc k) (j + 1)).1 = (mR mr mc (mPinsAll mr mc mK mD) mK mD k (mc k) j).1 := by rw [mR_s]; simp only [mRStep, if_pos c_10, if_neg c_138]
                  show va_P D vwCl (wMdX md cI 0 mK ((mR mr mc (mPinsAll mr mc mK mD) mK mD k (mc k) (j + 1)).1) mD mr mw my mC mk ms mu mt mp mb me q30 mD (mPinsAll mr mc mK mD)) _ ∧ va_D A (wMdX md cI 0 mK ((mR mr mc (mPinsAll mr mc mK mD) mK mD k (mc k) (j + 1)).1) mD mr mw my mC mk ms mu mt mp mb me q30 mD (mPinsAll mr mc mK mD)) ∧ va_S A s.heap _ _ ∧ lv_has _ 12 [(7, .int (nI (j + 1))), (6, .int ((mR mr mc (mPinsAll mr mc mK mD) mK mD k (mc k) (j + 1)).2.2.2)), (5, .int ((mR mr mc (mPinsAll mr mc mK mD) mK mD k (mc k) (j + 1)).2.2.1)), (4, .int ((mR mr mc (mPinsAll mr mc mK mD) mK mD k (mc k) (j + 1)).2.1)), (3, .ref q30), (2, .int (mc k)), (0, .ref (md 0)), (1, .int (nI k))]
                  rw [eq_6, eq_5, eq_4, eqw_mc]
                  exact ⟨hP, hD, hS, lv_sub hl [0, 3, 4, 5, 6, 7, 8, 9] rfl⟩
              · refine lv_iload hx hb dX3_replace_96 (lv_at hl 1 rfl) ?_
                refine kc_ifeqB (tgt := 127) hx hb dX3_replace_98 (by decide) (fun c_98 => ?_) (fun c_98 => ?_)
                · refine lv_iconst (v := 0) hx hb dX3_replace_127 (by decide) ?_
                  refine lv_istore (lv' := [(8, .int 0), (9, .int (nI i)), (7, .int (nI j)), (6, .int ((mR mr mc (mPinsAll mr mc mK mD) mK mD k (mc k) j).2.2.2)), (5, .int ((mR mr mc (mPinsAll mr mc mK mD) mK mD k (mc k) j).2.2.1)), (4, .int ((mR mr mc (mPinsAll mr mc mK mD) mK mD k (mc k) j).2.1)), (3, .ref q30), (2, .int (mc k)), (0, .ref (md 0)), (1, .int (nI k))]) hx hb dX3_replace_128 hl (by decide) rfl (fun ls hl => ?_)
                  refine lv_iinc (v := nI (i + 1)) (lv' := [(9, .int (nI (i + 1))), (8, .int 0), (7, .int (nI j)), (6, .int ((mR mr mc (mPinsAll mr mc mK mD) mK mD k (mc k) j).2.2.2)), (5, .int ((mR mr mc (mPinsAll mr mc mK mD) mK mD k (mc k) j).2.2.1)), (4, .int ((mR mr mc (mPinsAll mr mc mK mD) mK mD k (mc k) j).2.1)), (3, .ref q30), (2, .int (mc k)), (0, .ref (md 0)), (1, .int (nI k))]) hx hb dX3_replace_130 hl (k := 1) rfl (kc_inc i) (by decide) rfl (fun ls hl => ?_)
                  refine lv_goto (tgt := 87) hx hb dX3_replace_133 (by decide) ?_
                  refine ih_87 _ hlt_87 ?_
                  have eq_8 : bI (mFree (mR mr mc (mPinsAll mr mc mK mD) mK mD k (mc k) j).1 k (mc k) (nI j) (i + 1)) = 0 := by rw [mFree_s, kc_bf c_98]; rfl
                  show lv_has _ 12 [(9, .int (nI (i + 1))), (8, .int (bI (mFree (mR mr mc (mPinsAll mr mc mK mD) mK mD k (mc k) j).1 k (mc k) (nI j) (i + 1)))), (7, .int (nI j)), (6, .int ((mR mr mc (mPinsAll mr mc mK mD) mK mD k (mc k) j).2.2.2)), (5, .int ((mR mr mc (mPinsAll mr mc mK mD) mK mD k (mc k) j).2.2.1)), (4, .int ((mR mr mc (mPinsAll mr mc mK mD) mK mD k (mc k) j).2.1)), (3, .ref q30), (2, .int (mc k)), (0, .ref (md 0)), (1, .int (nI k))]
                  rw [eq_8]
                  exact lv_sub hl [0, 1, 2, 3, 4, 5, 6, 7, 8, 9] rfl
                · refine lv_iload hx hb dX3_replace_101 (lv_at hl 0 rfl) ?_
                  refine lv_iload_n hx hb dX3_replace_103 rfl (lv_at hl 9 rfl) ?_
                  refine lv_icmp_ne (tgt := 111) hx hb dX3_replace_104 (by decide) (fun c_104 => ?_) (fun c_104 => ?_)
                  · refine lv_aload_n hx hb dX3_replace_111 rfl (lv_at hl 8 rfl) ?_
                    refine va_get (D := D) (ci := 3) (v := .ref (md 1)) (C := RX3) (T := TX3) (N := 15) hx hb hts hinX3 hown hK.1 hP 0 rfl rfl 2 (by decide) hf9 (fun _ h9 => h9) rfl dX3_replace_112 ?_
                    refine lv_iload hx hb dX3_replace_115 (lv_at hl 0 rfl) ?_
                    refine kc_ald (i := i) (n := 8) hx hb hK hP 1 0 rfl rfl (by omega) (by decide) dX3_replace_117 ?_
                    refine lv_iload hx hb dX3_replace_118 (lv_at hl 2 rfl) ?_
                    refine lv_icmp_eq (tgt := 127) hx hb dX3_replace_120 (by decide) (fun c_120 => ?_) (fun c_120 => ?_)
                    · refine lv_iconst (v := 0) hx hb dX3_replace_127 (by decide) ?_
                      refine lv_istore (lv' := [(8, .int 0), (9, .int (nI i)), (7, .int (nI j)), (6, .int ((mR mr mc (mPinsAll mr mc mK mD) mK mD k (mc k) j).2.2.2)), (5, .int ((mR mr mc (mPinsAll mr mc mK mD) mK mD k (mc k) j).2.2.1)), (4, .int ((mR mr mc (mPinsAll mr mc mK mD) mK mD k (mc k) j).2.1)), (3, .ref q30), (2, .int (mc k)), (0, .ref (md 0)), (1, .int (nI k))]) hx hb dX3_replace_128 hl (by decide) rfl (fun ls hl => ?_)
                      refine lv_iinc (v := nI (i + 1)) (lv' := [(9, .int (nI (i + 1))), (8, .int 0), (7, .int (nI j)), (6, .int ((mR mr mc (mPinsAll mr mc mK mD) mK mD k (mc k) j).2.2.2)), (5, .int ((mR mr mc (mPinsAll mr mc mK mD) mK mD k (mc k) j).2.2.1)), (4, .int ((mR mr mc (mPinsAll mr mc mK mD) mK mD k (mc k) j).2.1)), (3, .ref q30), (2, .int (mc k)), (0, .ref (md 0)), (1, .int (nI k))]) hx hb dX3_replace_130 hl (k := 1) rfl (kc_inc i) (by decide) rfl (fun ls hl => ?_)
                      refine lv_goto (tgt := 87) hx hb dX3_replace_133 (by decide) ?_
                      refine ih_87 _ hlt_87 ?_
                      have eq_8 : bI (mFree (mR mr mc (mPinsAll mr mc mK mD) mK mD k (mc k) j).1 k (mc k) (nI j) (i + 1)) = 0 := by rw [mFree_s, c_98, if_neg c_104, decide_eq_true c_120]; rfl
                      show lv_has _ 12 [(9, .int (nI (i + 1))), (8, .int (bI (mFree (mR mr mc (mPinsAll mr mc mK mD) mK mD k (mc k) j).1 k (mc k) (nI j) (i + 1)))), (7, .int (nI j)), (6, .int ((mR mr mc (mPinsAll mr mc mK mD) mK mD k (mc k) j).2.2.2)), (5, .int ((mR mr mc (mPinsAll mr mc mK mD) mK mD k (mc k) j).2.2.1)), (4, .int ((mR mr mc (mPinsAll mr mc mK mD) mK mD k (mc k) j).2.1)), (3, .ref q30), (2, .int (mc k)), (0, .ref (md 0)), (1, .int (nI k))]
                      rw [eq_8]
                      exact lv_sub hl [0, 1, 2, 3, 4, 5, 6, 7, 8, 9] rfl
                    · refine lv_iconst (v := 1) hx hb dX3_replace_123 (by decide) ?_
                      refine lv_goto (tgt := 128) hx hb dX3_replace_124 (by decide) ?_
                      refine lv_istore (lv' := [(8, .int 1), (9, .int (nI i)), (7, .int (nI j)), (6, .int ((mR mr mc (mPinsAll mr mc mK mD) mK mD k (mc k) j).2.2.2)), (5, .int ((mR mr mc (mPinsAll mr mc mK mD) mK mD k (mc k) j).2.2.1)), (4, .int ((mR mr mc (mPinsAll mr mc mK mD) mK mD k (mc k) j).2.1)), (3, .ref q30), (2, .int (mc k)), (0, .ref (md 0)), (1, .int (nI k))]) hx hb dX3_replace_128 hl (by decide) rfl (fun ls hl => ?_)
                      refine lv_iinc (v := nI (i + 1)) (lv' := [(9, .int (nI (i + 1))), (8, .int 1), (7, .int (nI j)), (6, .int ((mR mr mc (mPinsAll mr mc mK mD) mK mD k (mc k) j).2.2.2)), (5, .int ((mR mr mc (mPinsAll mr mc mK mD) mK mD k (mc k) j).2.2.1)), (4, .int ((mR mr mc (mPinsAll mr mc mK mD) mK mD k (mc k) j).2.1)), (3, .ref q30), (2, .int (mc k)), (0, .ref (md 0)), (1, .int (nI k))]) hx hb dX3_replace_130 hl (k := 1) rfl (kc_inc i) (by decide) rfl (fun ls hl => ?_)
                      refine lv_goto (tgt := 87) hx hb dX3_replace_133 (by decide) ?_
                      refine ih_87 _ hlt_87 ?_
                      have eq_8 : bI (mFree (mR mr mc (mPinsAll mr mc mK mD) mK mD k (mc k) j).1 k (mc k) (nI j) (i + 1)) = 1 := by rw [mFree_s, c_98, if_neg c_104, decide_eq_false c_120]; rfl
                      show lv_has _ 12 [(9, .int (nI (i + 1))), (8, .int (bI (mFree (mR mr mc (mPinsAll mr mc mK mD) mK mD k (mc k) j).1 k (mc k) (nI j) (i + 1)))), (7, .int (nI j)), (6, .int ((mR mr mc (mPinsAll mr mc mK mD) mK mD k (mc k) j).2.2.2)), (5, .int ((mR mr mc (mPinsAll mr mc mK mD) mK mD k (mc k) j).2.2.1)), (4, .int ((mR mr mc (mPinsAll mr mc mK mD) mK mD k (mc k) j).2.1)), (3, .ref q30), (2, .int (mc k)), (0, .ref (md 0)), (1, .int (nI k))]
                      rw [eq_8]
                      exact lv_sub hl [0, 1, 2, 3, 4, 5, 6, 7, 8, 9] rfl
                  · refine lv_iload_n hx hb dX3_replace_107 rfl (lv_at hl 7 rfl) ?_
                    refine lv_goto (tgt := 118) hx hb dX3_replace_108 (by decide) ?_
                    refine lv_iload hx hb dX3_replace_118 (lv_at hl 2 rfl) ?_
                    refine lv_icmp_eq (tgt := 127) hx hb dX3_replace_120 (by decide) (fun c_120 => ?_) (fun c_120 => ?_)
                    · refine lv_iconst (v := 0) hx hb dX3_replace_127 (by decide) ?_
                      refine lv_istore (lv' := [(8, .int 0), (9, .int (nI i)), (7, .int (nI j)), (6, .int ((mR mr mc (mPinsAll mr mc mK mD) mK mD k (mc k) j).2.2.2)), (5, .int ((mR mr mc (mPinsAll mr mc mK mD) mK mD k (mc k) j).2.2.1)), (4, .int ((mR mr mc (mPinsAll mr mc mK mD) mK mD k (mc k) j).2.1)), (3, .ref q30), (2, .int (mc k)), (0, .ref (md 0)), (1, .int (nI k))]) hx hb dX3_replace_128 hl (by decide) rfl (fun ls hl => ?_)
                      refine lv_iinc (v := nI (i + 1)) (lv' := [(9, .int (nI (i + 1))), (8, .int 0), (7, .int (nI j)), (6, .int ((mR mr mc (mPinsAll mr mc mK mD) mK mD k (mc k) j).2.2.2)), (5, .int ((mR mr mc (mPinsAll mr mc mK mD) mK mD k (mc k) j).2.2.1)), (4, .int ((mR mr mc (mPinsAll mr mc mK mD) mK mD k (mc k) j).2.1)), (3, .ref q30), (2, .int (mc k)), (0, .ref (md 0)), (1, .int (nI k))]) hx hb dX3_replace_130 hl (k := 1) rfl (kc_inc i) (by decide) rfl (fun ls hl => ?_)
                      refine lv_goto (tgt := 87) hx hb dX3_replace_133 (by decide) ?_
                      refine ih_87 _ hlt_87 ?_
                      have eq_8 : bI (mFree (mR mr mc (mPinsAll mr mc mK mD) mK mD k (mc k) j).1 k (mc k) (nI j) (i + 1)) = 0 := by rw [mFree_s, c_98, if_pos c_104, decide_eq_true c_120]; rfl
                      show lv_has _ 12 [(9, .int (nI (i + 1))), (8, .int (bI (mFree (mR mr mc (mPinsAll mr mc mK mD) mK mD k (mc k) j).1 k (mc k) (nI j) (i + 1)))), (7, .int (nI j)), (6, .int ((mR mr mc (mPinsAll mr mc mK mD) mK mD k (mc k) j).2.2.2)), (5, .int ((mR mr mc (mPinsAll mr mc mK mD) mK mD k (mc k) j).2.2.1)), (4, .int ((mR mr mc (mPinsAll mr mc mK mD) mK mD k (mc k) j).2.1)), (3, .ref q30), (2, .int (mc k)), (0, .ref (md 0)), (1, .int (nI k))]
                      rw [eq_8]
                      exact lv_sub hl [0, 1, 2, 3, 4, 5, 6, 7, 8, 9] rfl
                    · refine lv_iconst (v := 1) hx hb dX3_replace_123 (by decide) ?_
                      refine lv_goto (tgt := 128) hx hb dX3_replace_124 (by decide) ?_
                      refine lv_istore (lv' := [(8, .int 1), (9, .int (nI i)), (7, .int (nI j)), (6, .int ((mR mr mc (mPinsAll mr mc mK mD) mK mD k (mc k) j).2.2.2)), (5, .int ((mR mr mc (mPinsAll mr mc mK mD) mK mD k (mc k) j).2.2.1)), (4, .int ((mR mr mc (mPinsAll mr mc mK mD) mK mD k (mc k) j).2.1)), (3, .ref q30), (2, .int (mc k)), (0, .ref (md 0)), (1, .int (nI k))]) hx hb dX3_replace_128 hl (by decide) rfl (fun ls hl => ?_)
                      refine lv_iinc (v := nI (i + 1)) (lv' := [(9, .int (nI (i + 1))), (8, .int 1), (7, .int (nI j)), (6, .int ((mR mr mc (mPinsAll mr mc mK mD) mK mD k (mc k) j).2.2.2)), (5, .int ((mR mr mc (mPinsAll mr mc mK mD) mK mD k (mc k) j).2.2.1)), (4, .int ((mR mr mc (mPinsAll mr mc mK mD) mK mD k (mc k) j).2.1)), (3, .ref q30), (2, .int (mc k)), (0, .ref (md 0)), (1, .int (nI k))]) hx hb dX3_replace_130 hl (k := 1) rfl (kc_inc i) (by decide) rfl (fun ls hl => ?_)
                      refine lv_goto (tgt := 87) hx hb dX3_replace_133 (by decide) ?_
                      refine ih_87 _ hlt_87 ?_
                      have eq_8 : bI (mFree (mR mr mc (mPinsAll mr mc mK mD) mK mD k (mc k) j).1 k (mc k) (nI j) (i + 1)) = 1 := by rw [mFree_s, c_98, if_pos c_104, decide_eq_false c_120]; rfl
                      show lv_has _ 12 [(9, .int (nI (i + 1))), (8, .int (bI (mFree (mR mr mc (mPinsAll mr mc mK mD) mK mD k (mc k) j).1 k (mc k) (nI j) (i + 1)))), (7, .int (nI j)), (6, .int ((mR mr mc (mPinsAll mr mc mK mD) mK mD k (mc k) j).2.2.2)), (5, .int ((mR mr mc (mPinsAll mr mc mK mD) mK mD k (mc k) j).2.2.1)), (4, .int ((mR mr mc (mPinsAll mr mc mK mD) mK mD k (mc k) j).2.1)), (3, .ref q30), (2, .int (mc k)), (0, .ref (md 0)), (1, .int (nI k))]
                      rw [eq_8]
                      exact lv_sub hl [0, 1, 2, 3, 4, 5, 6, 7, 8, 9] rfl
            · exact lv_sub hl [0, 1, 2, 3, 4, 5, 6, 7, 8, 9] rfl
        · exact ⟨hP, hD, hS, lv_sub hl [0, 1, 2, 3, 4, 5, 6, 7] rfl⟩
      · refine lv_aload_n hx hb dX3_replace_45 rfl (lv_at hl 1 rfl) ?_
        refine lv_iload hx hb dX3_replace_46 (lv_at hl 0 rfl) ?_
        refine lv_aload_n hx hb dX3_replace_48 rfl (lv_at hl 3 rfl) ?_
        refine lv_iload hx hb dX3_replace_49 (lv_at hl 0 rfl) ?_
        refine kc_rVi (As := [.int (nI j)]) (rest := [.int (nI j), .ref q30]) ⟨hx, hb, hml, hown, hts⟩ (c_X3_allPins l D md cI 0 mK mc mD mr mw my mC mk ms mu mt mp mb me j hK8 (by first | assumption | omega)) (cwV 1 hts gX3_replace_X3_allPins rfl rfl rfl (by decide +kernel) ⟨Nat.le_of_ble_eq_true rfl, Nat.le_of_ble_eq_true rfl⟩) hK hP [0, 1, 2, 3, 4, 5, 6, 7, 8, 9] [0] rfl rfl 0 rfl rfl rfl rfl hl.1 rfl (Nat.le_of_ble_eq_true rfl) dX3_replace_51 ⟨Nat.le_of_ble_eq_true rfl, Nat.le_of_ble_eq_true rfl⟩ ?_
        refine kc_ast (i := j) (n := mD) hx hb hK hP hD hS 10 0 rfl rfl (by omega) (by omega) dX3_replace_54 (fun H locs hP hD hS => ?_)
        have hP : va_P D vwCl (wMdX md cI 0 mK mc mD mr mw my mC mk ms mu mt mp mb me q30 mD (upd (mPinsAll mr mc mK j) j (mAll mr mc mK j 5))) H := hP
        have hD : va_D A (wMdX md cI 0 mK mc mD mr mw my mC mk ms mu mt mp mb me q30 mD (upd (mPinsAll mr mc mK j) j (mAll mr mc mK j 5))) := hD
        refine lv_iinc (v := nI (j + 1)) (lv' := [(4, .int (nI (j + 1))), (3, .ref q30), (2, .int (mc k)), (0, .ref (md 0)), (1, .int (nI k))]) hx hb dX3_replace_55 hl (k := 0) rfl (kc_inc j) (by decide) rfl (fun ls hl => ?_)
        refine lv_goto (tgt := 36) hx hb dX3_replace_58 (by decide) ?_
        refine ih_36 _ _ _ hlt_36 ?_
        have eqw_xf : mPinsAll mr mc mK (j + 1) = upd (mPinsAll mr mc mK j) j (mAll mr mc mK j 5) := rfl
        show va_P D vwCl (wMdX md cI 0 mK mc mD mr mw my mC mk ms mu mt mp mb me q30 mD (mPinsAll mr mc mK (j + 1))) _ ∧ va_D A (wMdX md cI 0 mK mc mD mr mw my mC mk ms mu mt mp mb me q30 mD (mPinsAll mr mc mK (j + 1))) ∧ va_S A s.heap _ _ ∧ lv_has _ 12 [(4, .int (nI (j + 1))), (3, .ref q30), (2, .int (mc k)), (0, .ref (md 0)), (1, .int (nI k))]
        rw [eqw_xf]
        exact ⟨hP, hD, hS, lv_sub hl [0, 1, 2, 3, 4] rfl⟩
    · exact ⟨hP, hD, hS, lv_sub hl [0, 1, 2, 3, 4] rfl⟩
  · exact absurd (jIn_ok hk (by omega)) c_10
set_option maxHeartbeats 4000000 in
set_option maxRecDepth 100000 in
theorem c_X3_suggest_ok (l : Launch) (D : va_G) (md : Nat → Nat) (cI : ClassId) (th : Int32) (mK : Nat) (mc : Nat → Int32) (mD : Nat) (mr : Nat → Int32) (mw : Int32) (my : Int32) (mC : Nat) (mk : Nat → Int32) (ms : Nat → Int32) (mu : Nat → Int32) (mt : Nat → Int32) (mp : Nat → Int32) (mb : Nat → Int32) (me : Nat → Int32) (pe : Int32) (wa : Int32) (tn : Nat → Nat) (kn : Nat → Nat) (sz : Nat) (hK8 : mK ≤ 8) (hD8 : mD ≤ 8) (hC24 : mC ≤ 24) (hkn : okKe mC mk kn) (hok : okLe ms mt tn) (hp : jIn 8 pe = true) (hs : jSet mD wa = true) : Met l yX3_suggest wsX3_suggest ({ frames := 5, cells := 1, slots := 8, locals := 115 } : Room) (wrP [.ref (md 0), .int pe, .int wa] D sz (wMd md cI th mK mc mD mr mw my mC mk ms mu mt mp mb me) [(cI, .int)]) (va_Qi (fun rZ (_ : Unit) => rZ = (mSug mr mc (mFirst ms mt kn mC mC) mK mD (mReach mr mc mk ms mu mt mp mK mD kn tn pe mC) wa (2 ^ mK)).1) (wrB D sz (wMd md cI th mK mc mD mr mw my mC mk ms mu mt mp mb me) (wMd md cI 0 mK mc mD mr mw my mC mk ms mu mt mp mb me)) (va_A (wMd md cI th mK mc mD mr mw my mC mk ms mu mt mp mb me) sz)) 1 8 (va_A (wMd md cI th mK mc mD mr mw my mC mk ms mu mt mp mb me) sz) := by
  refine Met.ofW (cc := cX3_suggest) (maxL := 13) (ret := (some .int)) (by decide) rfl ?_
  intro p e s m args below meth c s₁ B hml hv
  obtain ⟨rfl, hsz, hP, hD0, hK⟩ := hv
  have hx := B.exec
  have hb := B.bytes
  have hr := B.returns
  have hts := atoms_spec (ws := wsX3_suggest) B.pre
  have hown : s.vm.findClass RX3 = some m.cls := findClass_of_methodNamed B.named
  have hlocks := B.notSynchronized
  subst hsz
  have hD := hD0.self (sz := s.heap.size)
  generalize hAe : va_A (wMd md cI th mK mc mD mr mw my mC mk ms mu mt mp mb me) s.heap.size = A at hD ⊢
  have hA : ∀ q : Nat, s.heap.size ≤ q → A q := fun q h => by rw [← hAe]; exact Or.inr h
  have hinX3 : ∀ w ∈ u_ws RX3 TX3 15, w ∈ wsX3_suggest := by decide +kernel
  have hf37 := hts (.fieldLink RX3 37 "KeyCabinetModel" "thrown" "I") (by decide +kernel)
  have hf44 := hts (.fieldLink RX3 44 "KeyCabinetModel" "doors" "I") (by decide +kernel)
  have hf47 := hts (.fieldLink RX3 47 "KeyCabinetModel" "copies" "I") (by decide +kernel)
  have hf41 := hts (.fieldLink RX3 41 "KeyCabinetModel" "keys" "I") (by decide +kernel)
  have hf9 := hts (.fieldLink RX3 9 "KeyCabinetModel" "codes" "[I") (by decide +kernel)
  have hf19 := hts (.fieldLink RX3 19 "KeyCabinetModel" "states" "[I") (by decide +kernel)
  have hf25 := hts (.fieldLink RX3 25 "KeyCabinetModel" "times" "[I") (by decide +kernel)
  have hf16 := hts (.fieldLink RX3 16 "KeyCabinetModel" "copyKeys" "[I") (by decide +kernel)
  have hl := lv_entry ([.ref (md 0), .int pe, .int wa]) (n := 13) (Nat.le_of_ble_eq_true rfl)
  rw [lg_entry_eq]
  generalize (lg_sl ([.ref (md 0), .int pe, .int wa]) ++ List.replicate (13 - (lg_sl ([.ref (md 0), .int pe, .int wa])).length) Slot.unset).toArray = ls at hl ⊢
  have hl : lv_has ls 13 [(0, .ref (md 0)), (1, .int pe), (2, .int wa)] := hl
  refine W.genH (fun H locs eH eL => ?_)
  have hS : va_S A s.heap H locs := by rw [eH, eL]; exact va_S.rf
  have hP : va_P D vwCl (wMd md cI th mK mc mD mr mw my mC mk ms mu mt mp mb me) H := by rw [eH]; exact hP
  clear eH eL
  refine lv_aload_n hx hb dX3_suggest_0 rfl (lv_at hl 0 rfl) ?_
  refine lv_iconst (v := 0) hx hb dX3_suggest_1 (by decide) ?_
  refine va_put (D := D) (ci := 3) (v := .int 0) (ty := .int) (C := RX3) (T := TX3) (N := 15) hx hb hts hinX3 tyX3 tyX3_ok nmX3 hown hK.1 hP hD hS 0 rfl rfl 0 (by decide) hf37 (fun _ h9 => h9) rfl (by decide +kernel) rfl rfl (Nat.le_of_ble_eq_true rfl) dX3_suggest_2 (fun H locs hP hD hS => ?_)
  have hP : va_P D vwCl (wMd md cI 0 mK mc mD mr mw my mC mk ms mu mt mp mb me) H := hP
  have hD : va_D A (wMd md cI 0 mK mc mD mr mw my mC mk ms mu mt mp mb me) := hD
  refine lv_iload_n hx hb dX3_suggest_5 rfl (lv_at hl 1 rfl) ?_
  refine kc_rSi (As := [.int pe]) (rest := []) ⟨hx, hb, hml, hown, hts⟩ (c_X3_isPerson l pe ) (va_cwS 1 hts gX3_suggest_X3_isPerson rfl rfl rfl (by decide +kernel) ⟨Nat.le_of_ble_eq_true rfl, Nat.le_of_ble_eq_true rfl⟩) rfl hl.1 rfl (Nat.le_of_ble_eq_true rfl) dX3_suggest_6 ⟨Nat.le_of_ble_eq_true rfl, Nat.le_of_ble_eq_true rfl⟩ ?_
  refine kc_ifneB (tgt := 18) hx hb dX3_suggest_9 (by decide) (fun c_9 => ?_) (fun c_9 => ?_)
  · refine lv_iload_n hx hb dX3_suggest_18 rfl (lv_at hl 2 rfl) ?_
    refine lv_if_lt (tgt := 32) hx hb dX3_suggest_19 (by decide) (fun c_19 => ?_) (fun c_19 => ?_)
    · exact absurd c_19 (of_decide_eq_true hs).1
    · refine lv_iload_n hx hb dX3_suggest_22 rfl (lv_at hl 2 rfl) ?_
      refine lv_iconst (v := 1) hx hb dX3_suggest_23 (by decide) ?_
      refine lv_aload_n hx hb dX3_suggest_24 rfl (lv_at hl 0 rfl) ?_
      refine va_get (D := D) (ci := 3) (v := .int (nI mD)) (C := RX3) (T := TX3) (N := 15) hx hb hts hinX3 hown hK.1 hP 0 rfl rfl 3 (by decide) hf44 (fun _ h9 => h9) rfl dX3_suggest_25 ?_
      refine lv_ishl hx hb dX3_suggest_28 ?_
      refine lv_icmp_lt (tgt := 38) hx hb dX3_suggest_29 (by decide) (fun c_29 => ?_) (fun c_29 => ?_)
      · refine lv_bipush (v := 8) hx hb dX3_suggest_38 (by decide) ?_
        refine kc_newI (N := 8) hx hb (hts (.arrayClass .int) (by decide +kernel)) hK 0 rfl hP hD hS hA (by omega) (Nat.le_of_ble_eq_true rfl) (by show 0 + 8 ≤ 8; omega) dX3_suggest_40 (fun q40 H hP hD hS => ?_)
        have hP : va_P D vwCl (wMdX md cI 0 mK mc mD mr mw my mC mk ms mu mt mp mb me q40 8 (fun _ => 0)) H := hP
        have hD : va_D A (wMdX md cI 0 mK mc mD mr mw my mC mk ms mu mt mp mb me q40 8 (fun _ => 0)) := hD
        refine W.widen (k := 1) (n := 8) (by omega) (by omega) ?_
        refine lv_astore_n (lv' := [(3, .ref q40), (0, .ref (md 0)), (1, .int pe), (2, .int wa)]) hx hb dX3_suggest_42 rfl hl (by decide) rfl (fun ls hl => ?_)
        refine lv_iconst (v := 0) hx hb dX3_suggest_43 (by decide) ?_
        refine lv_istore (lv' := [(4, .int 0), (3, .ref q40), (0, .ref (md 0)), (1, .int pe), (2, .int wa)]) hx hb dX3_suggest_44 hl (by decide) rfl (fun ls hl => ?_)
        refine kc_forHW (pc := 46) (N := 8) (P := fun j H locs ls => va_P D vwCl (wMdX md cI 0 mK mc mD mr mw my mC mk ms mu mt mp mb me q40 8 (mFirst0 j)) H ∧ va_D A (wMdX md cI 0 mK mc mD mr mw my mC mk ms mu mt mp mb me q40 8 (mFirst0 j)) ∧ va_S A s.heap H locs ∧ lv_has ls 13 [(4, .int (nI j)), (3, .ref q40), (0, .ref (md 0)), (1, .int pe), (2, .int wa)]) (fun j H locs ls hj_46 hp ih_46 => ?_) H locs ls ?_
        · obtain ⟨hP, hD, hS, hl⟩ := hp
          refine lv_iload hx hb dX3_suggest_46 (lv_at hl 0 rfl) ?_
          refine lv_bipush (v := 8) hx hb dX3_suggest_48 (by decide) ?_
          refine kc_tst (j := j) (N := 8) (tgt := 64) hx hb dX3_suggest_50 (by decide) hj_46 (by omega) (fun hN => ?_) (fun hlt_46 => ?_)
          · subst hN
            refine lv_aload_n hx hb dX3_suggest_64 rfl (lv_at hl 2 rfl) ?_
            refine va_get (D := D) (ci := 3) (v := .int (nI mC)) (C := RX3) (T := TX3) (N := 15) hx hb hts hinX3 hown hK.1 hP 0 rfl rfl 7 (by decide) hf47 (fun _ h9 => h9) rfl dX3_suggest_65 ?_
            refine lv_iconst (v := 1) hx hb dX3_suggest_68 (by decide) ?_
            refine lv_isub hx hb dX3_suggest_69 ?_
            refine lv_istore (lv' := [(4, .int ((nI mC) - 1)), (3, .ref q40), (0, .ref (md 0)), (1, .int pe), (2, .int wa)]) hx hb dX3_suggest_70 hl (by decide) rfl (fun ls hl => ?_)
            refine kc_forHW (pc := 72) (N := mC) (P := fun j H locs ls => va_P D vwCl (wMdX md cI 0 mK mc mD mr mw my mC mk ms mu mt mp mb me q40 8 (mFirst ms mt kn mC j)) H ∧ va_D A (wMdX md cI 0 mK mc mD mr mw my mC mk ms mu mt mp mb me q40 8 (mFirst ms mt kn mC j)) ∧ va_S A s.heap H locs ∧ lv_has ls 13 [(4, .int (nI (mC - j) - 1)), (3, .ref q40), (0, .ref (md 0)), (1, .int pe), (2, .int wa)]) (fun j H locs ls hj_72 hp ih_72 => ?_) H locs ls ?_
            · obtain ⟨hP, hD, hS, hl⟩ := hp
              refine lv_iload hx hb dX3_suggest_72 (lv_at hl 0 rfl) ?_
              refine kc_tst0 (j := j) (N := mC) (tgt := 116) hx hb dX3_suggest_74 (by decide) hj_72 (by omega) (fun hN => ?_) (fun hlt_72 => ?_)
              · subst hN
                refine lv_aload_n hx hb dX3_suggest_116 rfl (lv_at hl 2 rfl) ?_
                refine lv_iload_n hx hb dX3_suggest_117 rfl (lv_at hl 3 rfl) ?_
                refine kc_rVi (As := [.int pe]) (rest := []) ⟨hx, hb, hml, hown, hts⟩ (c_X3_reachOf l D md cI 0 mK mc mD mr mw my mC mk ms mu mt mp mb me kn tn pe hK8 hD8 hC24 hkn hok) (cwV 1 hts gX3_suggest_X3_reachOf rfl rfl rfl (by decide +kernel) ⟨Nat.le_of_ble_eq_true rfl, Nat.le_of_ble_eq_true rfl⟩) hK hP [0, 1, 2, 3, 4, 5, 6, 7, 8, 9] [0] rfl rfl 0 rfl rfl rfl rfl hl.1 rfl (Nat.le_of_ble_eq_true rfl) dX3_suggest_118 ⟨Nat.le_of_ble_eq_true rfl, Nat.le_of_ble_eq_true rfl⟩ ?_
                refine lv_istore (lv' := [(4, .int (mReach mr mc mk ms mu mt mp mK mD kn tn pe mC)), (3, .ref q40), (0, .ref (md 0)), (1, .int pe), (2, .int wa)]) hx hb dX3_suggest_121 hl (by decide) rfl (fun ls hl => ?_)
                refine lv_iconst (v := (-1)) hx hb dX3_suggest_123 (by decide) ?_
                refine lv_istore (lv' := [(5, .int (-1)), (4, .int (mReach mr mc mk ms mu mt mp mK mD kn tn pe mC)), (3, .ref q40), (0, .ref (md 0)), (1, .int pe), (2, .int wa)]) hx hb dX3_suggest_124 hl (by decide) rfl (fun ls hl => ?_)
                refine lv_iconst (v := 0) hx hb dX3_suggest_126 (by decide) ?_
                refine lv_istore (lv' := [(6, .int 0), (5, .int (-1)), (4, .int (mReach mr mc mk ms mu mt mp mK mD kn tn pe mC)), (3, .ref q40), (0, .ref (md 0)), (1, .int pe), (2, .int wa)]) hx hb dX3_suggest_127 hl (by decide) rfl (fun ls hl => ?_)
                refine lv_iconst (v := 0) hx hb dX3_suggest_129 (by decide) ?_
                refine lv_istore (lv' := [(7, .int 0), (6, .int 0), (5, .int (-1)), (4, .int (mReach mr mc mk ms mu mt mp mK mD kn tn pe mC)), (3, .ref q40), (0, .ref (md 0)), (1, .int pe), (2, .int wa)]) hx hb dX3_suggest_130 hl (by decide) rfl (fun ls hl => ?_)
                refine kc_forW (pc := 132) (N := 2 ^ mK) (P := fun i ls => lv_has ls 13 [(7, .int (nI i)), (6, .int ((mSug mr mc (mFirst ms mt kn mC mC) mK mD (mReach mr mc mk ms mu mt mp mK mD kn tn pe mC) wa i).2)), (5, .int ((mSug mr mc (mFirst ms mt kn mC mC) mK mD (mReach mr mc mk ms mu mt mp mK mD kn tn pe mC) wa i).1)), (4, .int (mReach mr mc mk ms mu mt mp mK mD kn tn pe mC)), (3, .ref q40), (0, .ref (md 0)), (1, .int pe), (2, .int wa)]) (fun i ls hj_132 hp ih_132 => ?_) ls ?_
                · have hl := hp
                  refine lv_iload hx hb dX3_suggest_132 (lv_at hl 0 rfl) ?_
                  refine lv_iconst (v := 1) hx hb dX3_suggest_134 (by decide) ?_
                  refine lv_aload_n hx hb dX3_suggest_135 rfl (lv_at hl 5 rfl) ?_
                  refine va_get (D := D) (ci := 3) (v := .int (nI mK)) (C := RX3) (T := TX3) (N := 15) hx hb hts hinX3 hown hK.1 hP 0 rfl rfl 1 (by decide) hf41 (fun _ h9 => h9) rfl dX3_suggest_136 ?_
                  refine lv_ishl hx hb dX3_suggest_139 ?_
                  refine kc_top (show 1 <<< ((nI mK) &&& 31) = nI (2 ^ mK) from kc_sh hK8) ?_
                  refine kc_tst (j := i) (N := 2 ^ mK) (tgt := 337) hx hb dX3_suggest_140 (by decide) hj_132 (kc_2lt hK8) (fun hN => ?_) (fun hlt_132 => ?_)
                  · subst hN
                    refine lv_iload hx hb dX3_suggest_337 (lv_at hl 2 rfl) ?_
                    have hP : va_P D vwCl (wMd md cI 0 mK mc mD mr mw my mC mk ms mu mt mp mb me) H := hP.sub [0, 1, 2, 3, 4, 5, 6, 7, 8, 9] rfl
                    have hD : va_D A (wMd md cI 0 mK mc mD mr mw my mC mk ms mu mt mp mb me) := hD.sub [0, 1, 2, 3, 4, 5, 6, 7, 8, 9] (by decide) rfl
                    exact W.iret (v := (mSug mr mc (mFirst ms mt kn mC mC) mK mD (mReach mr mc mk ms mu mt mp mK mD kn tn pe mC) wa (2 ^ mK)).1) hx hb hr (fun tZ htZ hWZ => ⟨⟨_, (), rfl, rfl, by rw [htZ]; exact hP, by rw [hAe]; exact hD⟩, hS.F htZ⟩) hS.2.2 dX3_suggest_339
                  · refine lv_iconst (v := 0) hx hb dX3_suggest_143 (by decide) ?_
                    refine lv_istore (lv' := [(8, .int 0), (7, .int (nI i)), (6, .int ((mSug mr mc (mFirst ms mt kn mC mC) mK mD (mReach mr mc mk ms mu mt mp mK mD kn tn pe mC) wa i).2)), (5, .int ((mSug mr mc (mFirst ms mt kn mC mC) mK mD (mReach mr mc mk ms mu mt mp mK mD kn tn pe mC) wa i).1)), (4, .int (mReach mr mc mk ms mu mt mp mK mD kn tn pe mC)), (3, .ref q40), (0, .ref (md 0)), (1, .int pe), (2, .int wa)]) hx hb dX3_suggest_144 hl (by decide) rfl (fun ls hl => ?_)
                    refine lv_iload hx hb dX3_suggest_146 (lv_at hl 4 rfl) ?_
                    refine lv_istore (lv' := [(9, .int (mReach mr mc mk ms mu mt mp mK mD kn tn pe mC)), (8, .int 0), (7, .int (nI i)), (6, .int ((mSug mr mc (mFirst ms mt kn mC mC) mK mD (mReach mr mc mk ms mu mt mp mK mD kn tn pe mC) wa i).2)), (5, .int ((mSug mr mc (mFirst ms mt kn mC mC) mK mD (mReach mr mc mk ms mu mt mp mK mD kn tn pe mC) wa i).1)), (4, .int (mReach mr mc mk ms mu mt mp mK mD kn tn pe mC)), (3, .ref q40), (0, .ref (md 0)), (1, .int pe), (2, .int wa)]) hx hb dX3_suggest_148 hl (by decide) rfl (fun ls hl => ?_)
                    refine lv_iconst (v := 1) hx hb dX3_suggest_150 (by decide) ?_
                    refine lv_istore (lv' := [(10, .int 1), (9, .int (mReach mr mc mk ms mu mt mp mK mD kn tn pe mC)), (8, .int 0), (7, .int (nI i)), (6, .int ((mSug mr mc (mFirst ms mt kn mC mC) mK mD (mReach mr mc mk ms mu mt mp mK mD kn tn pe mC) wa i).2)), (5, .int ((mSug mr mc (mFirst ms mt kn mC mC) mK mD (mReach mr mc mk ms mu mt mp mK mD kn tn pe mC) wa i).1)), (4, .int (mReach mr mc mk ms mu mt mp mK mD kn tn pe mC)), (3, .ref q40), (0, .ref (md 0)), (1, .int pe), (2, .int wa)]) hx hb dX3_suggest_151 hl (by decide) rfl (fun ls hl => ?_)
                    refine lv_iconst (v := 0) hx hb dX3_suggest_153 (by decide) ?_
                    refine lv_istore (lv' := [(11, .int 0), (10, .int 1), (9, .int (mReach mr mc mk ms mu mt mp mK mD kn tn pe mC)), (8, .int 0), (7, .int (nI i)), (6, .int ((mSug mr mc (mFirst ms mt kn mC mC) mK mD (mReach mr mc mk ms mu mt mp mK mD kn tn pe mC) wa i).2)), (5, .int ((mSug mr mc (mFirst ms mt kn mC mC) mK mD (mReach mr mc mk ms mu mt mp mK mD kn tn pe mC) wa i).1)), (4, .int (mReach mr mc mk ms mu mt mp mK mD kn tn pe mC)), (3, .ref q40), (0, .ref (md 0)), (1, .int pe), (2, .int wa)]) hx hb dX3_suggest_154 hl (by decide) rfl (fun ls hl => ?_)
                    refine kc_forW (pc := 156) (N := mK) (P := fun q ls => lv_has ls 13 [(11, .int (nI q)), (10, .int (bI (mSSet mr mc (mFirst ms mt kn mC mC) mK mD (mReach mr mc mk ms mu mt mp mK mD kn tn pe mC) (nI i) q).2.2)), (9, .int ((mSSet mr mc (mFirst ms mt kn mC mC) mK mD (mReach mr mc mk ms mu mt mp mK mD kn tn pe mC) (nI i) q).2.1)), (8, .int ((mSSet mr mc (mFirst ms mt kn mC mC) mK mD (mReach mr mc mk ms mu mt mp mK mD kn tn pe mC) (nI i) q).1)), (7, .int (nI i)), (6, .int ((mSug mr mc (mFirst ms mt kn mC mC) mK mD (mReach mr mc mk ms mu mt mp mK mD kn tn pe mC) wa i).2)), (5, .int ((mSug mr mc (mFirst ms mt kn mC mC) mK mD (mReach mr mc mk ms mu mt mp mK mD kn tn pe mC) wa i).1)), (4, .int (mReach mr mc mk ms mu mt mp mK mD kn tn pe mC)), (3, .ref q40), (0, .ref (md 0)), (1, .int pe), (2, .int wa)]) (fun q ls hj_156 hp ih_156 => ?_) ls ?_
                    · have hl := hp
                      refine lv_iload hx hb dX3_suggest_156 (lv_at hl 0 rfl) ?_
                      refine lv_aload_n hx hb dX3_suggest_158 rfl (lv_at hl 9 rfl) ?_
                      refine va_get (D := D) (ci := 3) (v := .int (nI mK)) (C := RX3) (T := TX3) (N := 15) hx hb hts hinX3 hown hK.1 hP 0 rfl rfl 1 (by decide) hf41 (fun _ h9 => h9) rfl dX3_suggest_159 ?_
                      refine kc_tst (j := q) (N := mK) (tgt := 239) hx hb dX3_suggest_162 (by decide) hj_156 (by omega) (fun hN => ?_) (fun hlt_156 => ?_)
                      · subst hN
                        refine lv_iload hx hb dX3_suggest_239 (lv_at hl 1 rfl) ?_
                        refine kc_ifeqB (tgt := 331) hx hb dX3_suggest_241 (by decide) (fun c_241 => ?_) (fun c_241 => ?_)
                        · refine lv_iinc (v := nI (i + 1)) (lv' := [(7, .int (nI (i + 1))), (11, .int (nI mK)), (10, .int (bI (mSSet mr mc (mFirst ms mt kn mC mC) mK mD (mReach mr mc mk ms mu mt mp mK mD kn tn pe mC) (nI i) mK).2.2)), (9, .int ((mSSet mr mc (mFirst ms mt kn mC mC) mK mD (mReach mr mc mk ms mu mt mp mK mD kn tn pe mC) (nI i) mK).2.1)), (8, .int ((mSSet mr mc (mFirst ms mt kn mC mC) mK mD (mReach mr mc mk ms mu mt mp mK mD kn tn pe mC) (nI i) mK).1)), (6, .int ((mSug mr mc (mFirst ms mt kn mC mC) mK mD (mReach mr mc mk ms mu mt mp mK mD kn tn pe mC) wa i).2)), (5, .int ((mSug mr mc (mFirst ms mt kn mC mC) mK mD (mReach mr mc mk ms mu mt mp mK mD kn tn pe mC) wa i).1)), (4, .int (mReach mr mc mk ms mu mt mp mK mD kn tn pe mC)), (3, .ref q40), (0, .ref (md 0)), (1, .int pe), (2, .int wa)]) hx hb dX3_suggest_331 hl (k := 4) rfl (kc_inc i) (by decide) rfl (fun ls hl => ?_)
                          refine lv_goto (tgt := 132) hx hb dX3_suggest_334 (by decide) ?_
                          refine ih_132 _ hlt_132 ?_
                          have eq_6 : (mSug mr mc (mFirst ms mt kn mC mC) mK mD (mReach mr mc mk ms mu mt mp mK mD kn tn pe mC) wa (i + 1)).2 = (mSug mr mc (mFirst ms mt kn mC mC) mK mD (mReach mr mc mk ms mu mt mp mK mD kn tn pe mC) wa i).2 := by rw [mSug_s]; simp only [mSStep, if_pos c_9, if_neg c_19, if_pos c_29, if_neg c_241]
                          have eq_5 : (mSug mr mc (mFirst ms mt kn mC mC) mK mD (mReach mr mc mk ms mu mt mp mK mD kn tn pe mC) wa (i + 1)).1 = (mSug mr mc (mFirst ms mt kn mC mC) mK mD (mReach mr mc mk ms mu mt mp mK mD kn tn pe mC) wa i).1 := by rw [mSug_s]; simp only [mSStep, if_pos c_9, if_neg c_19, if_pos c_29, if_neg c_241]
                          show lv_has _ 13 [(7, .int (nI (i + 1))), (6, .int ((mSug mr mc (mFirst ms mt kn mC mC) mK mD (mReach mr mc mk ms mu mt mp mK mD kn tn pe mC) wa (i + 1)).2)), (5, .int ((mSug mr mc (mFirst ms mt kn mC mC) mK mD (mReach mr mc mk ms mu mt mp mK mD kn tn pe mC) wa (i + 1)).1)), (4, .int (mReach mr mc mk ms mu mt mp mK mD kn tn pe mC)), (3, .ref q40), (0, .ref (md 0)), (1, .int pe), (2, .int wa)]
                          rw [eq_6, eq_5]
                          exact lv_sub hl [0, 5, 6, 7, 8, 9, 10, 11] rfl
                        · refine lv_iload_n hx hb dX3_suggest_244 rfl (lv_at hl 11 rfl) ?_
                          refine lv_iload hx hb dX3_suggest_245 (lv_at hl 2 rfl) ?_
                          refine lv_iconst (v := (-1)) hx hb dX3_suggest_247 (by decide) ?_
                          refine lv_ixor hx hb dX3_suggest_248 ?_
                          refine lv_iand hx hb dX3_suggest_249 ?_
                          refine lv_if_eq (tgt := 256) hx hb dX3_suggest_250 (by decide) (fun c_250 => ?_) (fun c_250 => ?_)
                          · refine lv_iload hx hb dX3_suggest_256 (lv_at hl 3 rfl) ?_
                            refine kc_rSi (As := [.int ((mSSet mr mc (mFirst ms mt kn mC mC) mK mD (mReach mr mc mk ms mu mt mp mK mD kn tn pe mC) (nI i) mK).1)]) (rest := []) ⟨hx, hb, hml, hown, hts⟩ (c_J6_bitCount_0f7a4 l ((mSSet mr mc (mFirst ms mt kn mC mC) mK mD (mReach mr mc mk ms mu mt mp mK mD kn tn pe mC) (nI i) mK).1) ) (va_cwS 1 hts gX3_suggest_J6_bitCount_0f7a4 rfl rfl rfl (by decide +kernel) ⟨Nat.le_of_ble_eq_true rfl, Nat.le_of_ble_eq_true rfl⟩) rfl hl.1 rfl (Nat.le_of_ble_eq_true rfl) dX3_suggest_258 ⟨Nat.le_of_ble_eq_true rfl, Nat.le_of_ble_eq_true rfl⟩ ?_
                            refine lv_iload hx hb dX3_suggest_261 (lv_at hl 6 rfl) ?_
                            refine lv_iconst (v := (-1)) hx hb dX3_suggest_263 (by decide) ?_
                            refine lv_icmp_ne (tgt := 272) hx hb dX3_suggest_264 (by decide) (fun c_264 => ?_) (fun c_264 => ?_)
                            · refine lv_iload hx hb dX3_suggest_272 (lv_at hl 6 rfl) ?_
                              refine kc_rSi (As := [.int ((mSug mr mc (mFirst ms mt kn mC mC) mK mD (mReach mr mc mk ms mu mt mp mK mD kn tn pe mC) wa i).1)]) (rest := [.int (jPop ((mSSet mr mc (mFirst ms mt kn mC mC) mK mD (mReach mr mc mk ms mu mt mp mK mD kn tn pe mC) (nI i) mK).1))]) ⟨hx, hb, hml, hown, hts⟩ (c_J6_bitCount_0f7a4 l ((mSug mr mc (mFirst ms mt kn mC mC) mK mD (mReach mr mc mk ms mu mt mp mK mD kn tn pe mC) wa i).1) ) (va_cwS 1 hts gX3_suggest_J6_bitCount_0f7a4 rfl rfl rfl (by decide +kernel) ⟨Nat.le_of_ble_eq_true rfl, Nat.le_of_ble_eq_true rfl⟩) rfl hl.1 rfl (Nat.le_of_ble_eq_true rfl) dX3_suggest_274 ⟨Nat.le_of_ble_eq_true rfl, Nat.le_of_ble_eq_true rfl⟩ ?_
                              refine lv_isub hx hb dX3_suggest_277 ?_
                              refine kc_top (show (jPop ((mSSet mr mc (mFirst ms mt kn mC mC) mK mD (mReach mr mc mk ms mu mt mp mK mD kn tn pe mC) (nI i) mK).1)) - (jPop ((mSug mr mc (mFirst ms mt kn mC mC) mK mD (mReach mr mc mk ms mu mt mp mK mD kn tn pe mC) wa i).1)) = mSize (mSSet mr mc (mFirst ms mt kn mC mC) mK mD (mReach mr mc mk ms mu mt mp mK mD kn tn pe mC) (nI i) mK).1 (mSug mr mc (mFirst ms mt kn mC mC) mK mD (mReach mr mc mk ms mu mt mp mK mD kn tn pe mC) wa i).1 from by simp only [mSize, if_pos c_9, if_neg c_19, if_pos c_29, if_pos c_241, if_pos c_250, if_neg c_264]) ?_
                              refine lv_istore (lv' := [(11, .int (mSize (mSSet mr mc (mFirst ms mt kn mC mC) mK mD (mReach mr mc mk ms mu mt mp mK mD kn tn pe mC) (nI i) mK).1 (mSug mr mc (mFirst ms mt kn mC mC) mK mD (mReach mr mc mk ms mu mt mp mK mD kn tn pe mC) wa i).1)), (10, .int (bI (mSSet mr mc (mFirst ms mt kn mC mC) mK mD (mReach mr mc mk ms mu mt mp mK mD kn tn pe mC) (nI i) mK).2.2)), (9, .int ((mSSet mr mc (mFirst ms mt kn mC mC) mK mD (mReach mr mc mk ms mu mt mp mK mD kn tn pe mC) (nI i) mK).2.1)), (8, .int ((mSSet mr mc (mFirst ms mt kn mC mC) mK mD (mReach mr mc mk ms mu mt mp mK mD kn tn pe mC) (nI i) mK).1)), (7, .int (nI i)), (6, .int ((mSug mr mc (mFirst ms mt kn mC mC) mK mD (mReach mr mc mk ms mu mt mp mK mD kn tn pe mC) wa i).2)), (5, .int ((mSug mr mc (mFirst ms mt kn mC mC) mK mD (mReach mr mc mk ms mu mt mp mK mD kn tn pe mC) wa i).1)), (4, .int (mReach mr mc mk ms mu mt mp mK mD kn tn pe mC)), (3, .ref q40), (0, .ref (md 0)), (1, .int pe), (2, .int wa)]) hx hb dX3_suggest_278 hl (by decide) rfl (fun ls hl => ?_)
                              refine lv_iload hx hb dX3_suggest_280 (lv_at hl 2 rfl) ?_
                              refine kc_rSi (As := [.int ((mSSet mr mc (mFirst ms mt kn mC mC) mK mD (mReach mr mc mk ms mu mt mp mK mD kn tn pe mC) (nI i) mK).2.1)]) (rest := []) ⟨hx, hb, hml, hown, hts⟩ (c_J6_bitCount_0f7a4 l ((mSSet mr mc (mFirst ms mt kn mC mC) mK mD (mReach mr mc mk ms mu mt mp mK mD kn tn pe mC) (nI i) mK).2.1) ) (va_cwS 1 hts gX3_suggest_J6_bitCount_0f7a4 rfl rfl rfl (by decide +kernel) ⟨Nat.le_of_ble_eq_true rfl, Nat.le_of_ble_eq_true rfl⟩) rfl hl.1 rfl (Nat.le_of_ble_eq_true rfl) dX3_suggest_282 ⟨Nat.le_of_ble_eq_true rfl, Nat.le_of_ble_eq_true rfl⟩ ?_
                              refine lv_iload hx hb dX3_suggest_285 (lv_at hl 5 rfl) ?_
                              refine lv_isub hx hb dX3_suggest_287 ?_
                              refine lv_istore (lv' := [(12, .int ((jPop ((mSSet mr mc (mFirst ms mt kn mC mC) mK mD (mReach mr mc mk ms mu mt mp mK mD kn tn pe mC) (nI i) mK).2.1)) - ((mSug mr mc (mFirst ms mt kn mC mC) mK mD (mReach mr mc mk ms mu mt mp mK mD kn tn pe mC) wa i).2))), (11, .int (mSize (mSSet mr mc (mFirst ms mt kn mC mC) mK mD (mReach mr mc mk ms mu mt mp mK mD kn tn pe mC) (nI i) mK).1 (mSug mr mc (mFirst ms mt kn mC mC) mK mD (mReach mr mc mk ms mu mt mp mK mD kn tn pe mC) wa i).1)), (10, .int (bI (mSSet mr mc (mFirst ms mt kn mC mC) mK mD (mReach mr mc mk ms mu mt mp mK mD kn tn pe mC) (nI i) mK).2.2)), (9, .int ((mSSet mr mc (mFirst ms mt kn mC mC) mK mD (mReach mr mc mk ms mu mt mp mK mD kn tn pe mC) (nI i) mK).2.1)), (8, .int ((mSSet mr mc (mFirst ms mt kn mC mC) mK mD (mReach mr mc mk ms mu mt mp mK mD kn tn pe mC) (nI i) mK).1)), (7, .int (nI i)), (6, .int ((mSug mr mc (mFirst ms mt kn mC mC) mK mD (mReach mr mc mk ms mu mt mp mK mD kn tn pe mC) wa i).2)), (5, .int ((mSug mr mc (mFirst ms mt kn mC mC) mK mD (mReach mr mc mk ms mu mt mp mK mD kn tn pe mC) wa i).1)), (4, .int (mReach mr mc mk ms mu mt mp mK mD kn tn pe mC)), (3, .ref q40), (0, .ref (md 0)), (1, .int pe), (2, .int wa)]) hx hb dX3_suggest_288 hl (by decide) rfl (fun ls hl => ?_)
                              refine lv_iload hx hb dX3_suggest_290 (lv_at hl 1 rfl) ?_
                              refine lv_if_gt (tgt := 331) hx hb dX3_suggest_292 (by decide) (fun c_292 => ?_) (fun c_292 => ?_)
                              · refine lv_iinc (v := nI (i + 1)) (lv' := [(7, .int (nI (i + 1))), (12, .int ((jPop ((mSSet mr mc (mFirst ms mt kn mC mC) mK mD (mReach mr mc mk ms mu mt mp mK mD kn tn pe mC) (nI i) mK).2.1)) - ((mSug mr mc (mFirst ms mt kn mC mC) mK mD (mReach mr mc mk ms mu mt mp mK mD kn tn pe mC) wa i).2))), (11, .int (mSize (mSSet mr mc (mFirst ms mt kn mC mC) mK mD (mReach mr mc mk ms mu mt mp mK mD kn tn pe mC) (nI i) mK).1 (mSug mr mc (mFirst ms mt kn mC mC) mK mD (mReach mr mc mk ms mu mt mp mK mD kn tn pe mC) wa i).1)), (10, .int (bI (mSSet mr mc (mFirst ms mt kn mC mC) mK mD (mReach mr mc mk ms mu mt mp mK mD kn tn pe mC) (nI i) mK).2.2)), (9, .int ((mSSet mr mc (mFirst ms mt kn mC mC) mK mD (mReach mr mc mk ms mu mt mp mK mD kn tn pe mC) (nI i) mK).2.1)), (8, .int ((mSSet mr mc (mFirst ms mt kn mC mC) mK mD (mReach mr mc mk ms mu mt mp mK mD kn tn pe mC) (nI i) mK).1)), (6, .int ((mSug mr mc (mFirst ms mt kn mC mC) mK mD (mReach mr mc mk ms mu mt mp mK mD kn tn pe mC) wa i).2)), (5, .int ((mSug mr mc (mFirst ms mt kn mC mC) mK mD (mReach mr mc mk ms mu mt mp mK mD kn tn pe mC) wa i).1)), (4, .int (mReach mr mc mk ms mu mt mp mK mD kn tn pe mC)), (3, .ref q40), (0, .ref (md 0)), (1, .int pe), (2, .int wa)]) hx hb dX3_suggest_331 hl (k := 5) rfl (kc_inc i) (by decide) rfl (fun ls hl => ?_)
                                refine lv_goto (tgt := 132) hx hb dX3_suggest_334 (by decide) ?_
                                refine ih_132 _ hlt_132 ?_
                                have eq_6 : (mSug mr mc (mFirst ms mt kn mC mC) mK mD (mReach mr mc mk ms mu mt mp mK mD kn tn pe mC) wa (i + 1)).2 = (mSug mr mc (mFirst ms mt kn mC mC) mK mD (mReach mr mc mk ms mu mt mp mK mD kn tn pe mC) wa i).2 := by rw [mSug_s]; simp only [mSStep, if_pos c_9, if_neg c_19, if_pos c_29, if_pos c_241, if_pos c_250, if_neg c_264, if_pos c_292]
                                have eq_5 : (mSug mr mc (mFirst ms mt kn mC mC) mK mD (mReach mr mc mk ms mu mt mp mK mD kn tn pe mC) wa (i + 1)).1 = (mSug mr mc (mFirst ms mt kn mC mC) mK mD (mReach mr mc mk ms mu mt mp mK mD kn tn pe mC) wa i).1 := by rw [mSug_s]; simp only [mSStep, if_pos c_9, if_neg c_19, if_pos c_29, if_pos c_241, if_pos c_250, if_neg c_264, if_pos c_292]
                                show lv_has _ 13 [(7, .int (nI (i + 1))), (6, .int ((mSug mr mc (mFirst ms mt kn mC mC) mK mD (mReach mr mc mk ms mu mt mp mK mD kn tn pe mC) wa (i + 1)).2)), (5, .int ((mSug mr mc (mFirst ms mt kn mC mC) mK mD (mReach mr mc mk ms mu mt mp mK mD kn tn pe mC) wa (i + 1)).1)), (4, .int (mReach mr mc mk ms mu mt mp mK mD kn tn pe mC)), (3, .ref q40), (0, .ref (md 0)), (1, .int pe), (2, .int wa)]
                                rw [eq_6, eq_5]
                                exact lv_sub hl [0, 6, 7, 8, 9, 10, 11, 12] rfl
                              · refine lv_iload hx hb dX3_suggest_295 (lv_at hl 1 rfl) ?_
                                refine lv_if_ne (tgt := 320) hx hb dX3_suggest_297 (by decide) (fun c_297 => ?_) (fun c_297 => ?_)
                                · refine lv_iload hx hb dX3_suggest_320 (lv_at hl 4 rfl) ?_
                                  refine lv_istore (lv' := [(5, .int ((mSSet mr mc (mFirst ms mt kn mC mC) mK mD (mReach mr mc mk ms mu mt mp mK mD kn tn pe mC) (nI i) mK).1)), (12, .int ((jPop ((mSSet mr mc (mFirst ms mt kn mC mC) mK mD (mReach mr mc mk ms mu mt mp mK mD kn tn pe mC) (nI i) mK).2.1)) - ((mSug mr mc (mFirst ms mt kn mC mC) mK mD (mReach mr mc mk ms mu mt mp mK mD kn tn pe mC) wa i).2))), (11, .int (mSize (mSSet mr mc (mFirst ms mt kn mC mC) mK mD (mReach mr mc mk ms mu mt mp mK mD kn tn pe mC) (nI i) mK).1 (mSug mr mc (mFirst ms mt kn mC mC) mK mD (mReach mr mc mk ms mu mt mp mK mD kn tn pe mC) wa i).1)), (10, .int (bI (mSSet mr mc (mFirst ms mt kn mC mC) mK mD (mReach mr mc mk ms mu mt mp mK mD kn tn pe mC) (nI i) mK).2.2)), (9, .int ((mSSet mr mc (mFirst ms mt kn mC mC) mK mD (mReach mr mc mk ms mu mt mp mK mD kn tn pe mC) (nI i) mK).2.1)), (8, .int ((mSSet mr mc (mFirst ms mt kn mC mC) mK mD (mReach mr mc mk ms mu mt mp mK mD kn tn pe mC) (nI i) mK).1)), (7, .int (nI i)), (6, .int ((mSug mr mc (mFirst ms mt kn mC mC) mK mD (mReach mr mc mk ms mu mt mp mK mD kn tn pe mC) wa i).2)), (4, .int (mReach mr mc mk ms mu mt mp mK mD kn tn pe mC)), (3, .ref q40), (0, .ref (md 0)), (1, .int pe), (2, .int wa)]) hx hb dX3_suggest_322 hl (by decide) rfl (fun ls hl => ?_)
                                  refine lv_iload hx hb dX3_suggest_324 (lv_at hl 4 rfl) ?_
                                  refine kc_rSi (As := [.int ((mSSet mr mc (mFirst ms mt kn mC mC) mK mD (mReach mr mc mk ms mu mt mp mK mD kn tn pe mC) (nI i) mK).2.1)]) (rest := []) ⟨hx, hb, hml, hown, hts⟩ (c_J6_bitCount_0f7a4 l ((mSSet mr mc (mFirst ms mt kn mC mC) mK mD (mReach mr mc mk ms mu mt mp mK mD kn tn pe mC) (nI i) mK).2.1) ) (va_cwS 1 hts gX3_suggest_J6_bitCount_0f7a4 rfl rfl rfl (by decide +kernel) ⟨Nat.le_of_ble_eq_true rfl, Nat.le_of_ble_eq_true rfl⟩) rfl hl.1 rfl (Nat.le_of_ble_eq_true rfl) dX3_suggest_326 ⟨Nat.le_of_ble_eq_true rfl, Nat.le_of_ble_eq_true rfl⟩ ?_
                                  refine lv_istore (lv' := [(6, .int (jPop ((mSSet mr mc (mFirst ms mt kn mC mC) mK mD (mReach mr mc mk ms mu mt mp mK mD kn tn pe mC) (nI i) mK).2.1))), (5, .int ((mSSet mr mc (mFirst ms mt kn mC mC) mK mD (mReach mr mc mk ms mu mt mp mK mD kn tn pe mC) (nI i) mK).1)), (12, .int ((jPop ((mSSet mr mc (mFirst ms mt kn mC mC) mK mD (mReach mr mc mk ms mu mt mp mK mD kn tn pe mC) (nI i) mK).2.1)) - ((mSug mr mc (mFirst ms mt kn mC mC) mK mD (mReach mr mc mk ms mu mt mp mK mD kn tn pe mC) wa i).2))), (11, .int (mSize (mSSet mr mc (mFirst ms mt kn mC mC) mK mD (mReach mr mc mk ms mu mt mp mK mD kn tn pe mC) (nI i) mK).1 (mSug mr mc (mFirst ms mt kn mC mC) mK mD (mReach mr mc mk ms mu mt mp mK mD kn tn pe mC) wa i).1)), (10, .int (bI (mSSet mr mc (mFirst ms mt kn mC mC) mK mD (mReach mr mc mk ms mu mt mp mK mD kn tn pe mC) (nI i) mK).2.2)), (9, .int ((mSSet mr mc (mFirst ms mt kn mC mC) mK mD (mReach mr mc mk ms mu mt mp mK mD kn tn pe mC) (nI i) mK).2.1)), (8, .int ((mSSet mr mc (mFirst ms mt kn mC mC) mK mD (mReach mr mc mk ms mu mt mp mK mD kn tn pe mC) (nI i) mK).1)), (7, .int (nI i)), (4, .int (mReach mr mc mk ms mu mt mp mK mD kn tn pe mC)), (3, .ref q40), (0, .ref (md 0)), (1, .int pe), (2, .int wa)]) hx hb dX3_suggest_329 hl (by decide) rfl (fun ls hl => ?_)
                                  refine lv_iinc (v := nI (i + 1)) (lv' := [(7, .int (nI (i + 1))), (6, .int (jPop ((mSSet mr mc (mFirst ms mt kn mC mC) mK mD (mReach mr mc mk ms mu mt mp mK mD kn tn pe mC) (nI i) mK).2.1))), (5, .int ((mSSet mr mc (mFirst ms mt kn mC mC) mK mD (mReach mr mc mk ms mu mt mp mK mD kn tn pe mC) (nI i) mK).1)), (12, .int ((jPop ((mSSet mr mc (mFirst ms mt kn mC mC) mK mD (mReach mr mc mk ms mu mt mp mK mD kn tn pe mC) (nI i) mK).2.1)) - ((mSug mr mc (mFirst ms mt kn mC mC) mK mD (mReach mr mc mk ms mu mt mp mK mD kn tn pe mC) wa i).2))), (11, .int (mSize (mSSet mr mc (mFirst ms mt kn mC mC) mK mD (mReach mr mc mk ms mu mt mp mK mD kn tn pe mC) (nI i) mK).1 (mSug mr mc (mFirst ms mt kn mC mC) mK mD (mReach mr mc mk ms mu mt mp mK mD kn tn pe mC) wa i).1)), (10, .int (bI (mSSet mr mc (mFirst ms mt kn mC mC) mK mD (mReach mr mc mk ms mu mt mp mK mD kn tn pe mC) (nI i) mK).2.2)), (9, .int ((mSSet mr mc (mFirst ms mt kn mC mC) mK mD (mReach mr mc mk ms mu mt mp mK mD kn tn pe mC) (nI i) mK).2.1)), (8, .int ((mSSet mr mc (mFirst ms mt kn mC mC) mK mD (mReach mr mc mk ms mu mt mp mK mD kn tn pe mC) (nI i) mK).1)), (4, .int (mReach mr mc mk ms mu mt mp mK mD kn tn pe mC)), (3, .ref q40), (0, .ref (md 0)), (1, .int pe), (2, .int wa)]) hx hb dX3_suggest_331 hl (k := 7) rfl (kc_inc i) (by decide) rfl (fun ls hl => ?_)
                                  refine lv_goto (tgt := 132) hx hb dX3_suggest_334 (by decide) ?_
                                  refine ih_132 _ hlt_132 ?_
                                  have eq_6 : (mSug mr mc (mFirst ms mt kn mC mC) mK mD (mReach mr mc mk ms mu mt mp mK mD kn tn pe mC) wa (i + 1)).2 = jPop ((mSSet mr mc (mFirst ms mt kn mC mC) mK mD (mReach mr mc mk ms mu mt mp mK mD kn tn pe mC) (nI i) mK).2.1) := by rw [mSug_s]; simp only [mSStep, if_pos c_9, if_neg c_19, if_pos c_29, if_pos c_241, if_pos c_250, if_neg c_264, if_neg c_292, if_neg c_297]
                                  have eq_5 : (mSug mr mc (mFirst ms mt kn mC mC) mK mD (mReach mr mc mk ms mu mt mp mK mD kn tn pe mC) wa (i + 1)).1 = (mSSet mr mc (mFirst ms mt kn mC mC) mK mD (mReach mr mc mk ms mu mt mp mK mD kn tn pe mC) (nI i) mK).1 := by rw [mSug_s]; simp only [mSStep, if_pos c_9, if_neg c_19, if_pos c_29, if_pos c_241, if_pos c_250, if_neg c_264, if_neg c_292, if_neg c_297]
                                  show lv_has _ 13 [(7, .int (nI (i + 1))), (6, .int ((mSug mr mc (mFirst ms mt kn mC mC) mK mD (mReach mr mc mk ms mu mt mp mK mD kn tn pe mC) wa (i + 1)).2)), (5, .int ((mSug mr mc (mFirst ms mt kn mC mC) mK mD (mReach mr mc mk ms mu mt mp mK mD kn tn pe mC) wa (i + 1)).1)), (4, .int (mReach mr mc mk ms mu mt mp mK mD kn tn pe mC)), (3, .ref q40), (0, .ref (md 0)), (1, .int pe), (2, .int wa)]
                                  rw [eq_6, eq_5]
                                  exact lv_sub hl [0, 1, 2, 8, 9, 10, 11, 12] rfl
                                · refine lv_iload hx hb dX3_suggest_300 (lv_at hl 0 rfl) ?_
                                  refine lv_if_gt (tgt := 331) hx hb dX3_suggest_302 (by decide) (fun c_302 => ?_) (fun c_302 => ?_)
                                  · refine lv_iinc (v := nI (i + 1)) (lv' := [(7, .int (nI (i + 1))), (12, .int ((jPop ((mSSet mr mc (mFirst ms mt kn mC mC) mK mD (mReach mr mc mk ms mu mt mp mK mD kn tn pe mC) (nI i) mK).2.1)) - ((mSug mr mc (mFirst ms mt kn mC mC) mK mD (mReach mr mc mk ms mu mt mp mK mD kn tn pe mC) wa i).2))), (11, .int (mSize (mSSet mr mc (mFirst ms mt kn mC mC) mK mD (mReach mr mc mk ms mu mt mp mK mD kn tn pe mC) (nI i) mK).1 (mSug mr mc (mFirst ms mt kn mC mC) mK mD (mReach mr mc mk ms mu mt mp mK mD kn tn pe mC) wa i).1)), (10, .int (bI (mSSet mr mc (mFirst ms mt kn mC mC) mK mD (mReach mr mc mk ms mu mt mp mK mD kn tn pe mC) (nI i) mK).2.2)), (9, .int ((mSSet mr mc (mFirst ms mt kn mC mC) mK mD (mReach mr mc mk ms mu mt mp mK mD kn tn pe mC) (nI i) mK).2.1)), (8, .int ((mSSet mr mc (mFirst ms mt kn mC mC) mK mD (mReach mr mc mk ms mu mt mp mK mD kn tn pe mC) (nI i) mK).1)), (6, .int ((mSug mr mc (mFirst ms mt kn mC mC) mK mD (mReach mr mc mk ms mu mt mp mK mD kn tn pe mC) wa i).2)), (5, .int ((mSug mr mc (mFirst ms mt kn mC mC) mK mD (mReach mr mc mk ms mu mt mp mK mD kn tn pe mC) wa i).1)), (4, .int (mReach mr mc mk ms mu mt mp mK mD kn tn pe mC)), (3, .ref q40), (0, .ref (md 0)), (1, .int pe), (2, .int wa)]) hx hb dX3_suggest_331 hl (k := 5) rfl (kc_inc i) (by decide) rfl (fun ls hl => ?_)
                                    refine lv_goto (tgt := 132) hx hb dX3_suggest_334 (by decide) ?_
                                    refine ih_132 _ hlt_132 ?_
                                    have eq_6 : (mSug mr mc (mFirst ms mt kn mC mC) mK mD (mReach mr mc mk ms mu mt mp mK mD kn tn pe mC) wa (i + 1)).2 = (mSug mr mc (mFirst ms mt kn mC mC) mK mD (mReach mr mc mk ms mu mt mp mK mD kn tn pe mC) wa i).2 := by rw [mSug_s]; simp only [mSStep, if_pos c_9, if_neg c_19, if_pos c_29, if_pos c_241, if_pos c_250, if_neg c_264, if_neg c_292, if_pos c_297, if_pos c_302]
                                    have eq_5 : (mSug mr mc (mFirst ms mt kn mC mC) mK mD (mReach mr mc mk ms mu mt mp mK mD kn tn pe mC) wa (i + 1)).1 = (mSug mr mc (mFirst ms mt kn mC mC) mK mD (mReach mr mc mk ms mu mt mp mK mD kn tn pe mC) wa i).1 := by rw [mSug_s]; simp only [mSStep, if_pos c_9, if_neg c_19, if_pos c_29, if_pos c_241, if_pos c_250, if_neg c_264, if_neg c_292, if_pos c_297, if_pos c_302]
                                    show lv_has _ 13 [(7, .int (nI (i + 1))), (6, .int ((mSug mr mc (mFirst ms mt kn mC mC) mK mD (mReach mr mc mk ms mu mt mp mK mD kn tn pe mC) wa (i + 1)).2)), (5, .int ((mSug mr mc (mFirst ms mt kn mC mC) mK mD (mReach mr mc mk ms mu mt mp mK mD kn tn pe mC) wa (i + 1)).1)), (4, .int (mReach mr mc mk ms mu mt mp mK mD kn tn pe mC)), (3, .ref q40), (0, .ref (md 0)), (1, .int pe), (2, .int wa)]
                                    rw [eq_6, eq_5]
                                    exact lv_sub hl [0, 6, 7, 8, 9, 10, 11, 12] rfl
                                  · refine lv_iload hx hb dX3_suggest_305 (lv_at hl 0 rfl) ?_
                                    refine lv_if_ne (tgt := 320) hx hb dX3_suggest_307 (by decide) (fun c_307 => ?_) (fun c_307 => ?_)
                                    · refine lv_iload hx hb dX3_suggest_320 (lv_at hl 4 rfl) ?_
                                      refine lv_istore (lv' := [(5, .int ((mSSet mr mc (mFirst ms mt kn mC mC) mK mD (mReach mr mc mk ms mu mt mp mK mD kn tn pe mC) (nI i) mK).1)), (12, .int ((jPop ((mSSet mr mc (mFirst ms mt kn mC mC) mK mD (mReach mr mc mk ms mu mt mp mK mD kn tn pe mC) (nI i) mK).2.1)) - ((mSug mr mc (mFirst ms mt kn mC mC) mK mD (mReach mr mc mk ms mu mt mp mK mD kn tn pe mC) wa i).2))), (11, .int (mSize (mSSet mr mc (mFirst ms mt kn mC mC) mK mD (mReach mr mc mk ms mu mt mp mK mD kn tn pe mC) (nI i) mK).1 (mSug mr mc (mFirst ms mt kn mC mC) mK mD (mReach mr mc mk ms mu mt mp mK mD kn tn pe mC) wa i).1)), (10, .int (bI (mSSet mr mc (mFirst ms mt kn mC mC) mK mD (mReach mr mc mk ms mu mt mp mK mD kn tn pe mC) (nI i) mK).2.2)), (9, .int ((mSSet mr mc (mFirst ms mt kn mC mC) mK mD (mReach mr mc mk ms mu mt mp mK mD kn tn pe mC) (nI i) mK).2.1)), (8, .int ((mSSet mr mc (mFirst ms mt kn mC mC) mK mD (mReach mr mc mk ms mu mt mp mK mD kn tn pe mC) (nI i) mK).1)), (7, .int (nI i)), (6, .int ((mSug mr mc (mFirst ms mt kn mC mC) mK mD (mReach mr mc mk ms mu mt mp mK mD kn tn pe mC) wa i).2)), (4, .int (mReach mr mc mk ms mu mt mp mK mD kn tn pe mC)), (3, .ref q40), (0, .ref (md 0)), (1, .int pe), (2, .int wa)]) hx hb dX3_suggest_322 hl (by decide) rfl (fun ls hl => ?_)
                                      refine lv_iload hx hb dX3_suggest_324 (lv_at hl 4 rfl) ?_
                                      refine kc_rSi (As := [.int ((mSSet mr mc (mFirst ms mt kn mC mC) mK mD (mReach mr mc mk ms mu mt mp mK mD kn tn pe mC) (nI i) mK).2.1)]) (rest := []) ⟨hx, hb, hml, hown, hts⟩ (c_J6_bitCount_0f7a4 l ((mSSet mr mc (mFirst ms mt kn mC mC) mK mD (mReach mr mc mk ms mu mt mp mK mD kn tn pe mC) (nI i) mK).2.1) ) (va_cwS 1 hts gX3_suggest_J6_bitCount_0f7a4 rfl rfl rfl (by decide +kernel) ⟨Nat.le_of_ble_eq_true rfl, Nat.le_of_ble_eq_true rfl⟩) rfl hl.1 rfl (Nat.le_of_ble_eq_true rfl) dX3_suggest_326 ⟨Nat.le_of_ble_eq_true rfl, Nat.le_of_ble_eq_true rfl⟩ ?_
                                      refine lv_istore (lv' := [(6, .int (jPop ((mSSet mr mc (mFirst ms mt kn mC mC) mK mD (mReach mr mc mk ms mu mt mp mK mD kn tn pe mC) (nI i) mK).2.1))), (5, .int ((mSSet mr mc (mFirst ms mt kn mC mC) mK mD (mReach mr mc mk ms mu mt mp mK mD kn tn pe mC) (nI i) mK).1)), (12, .int ((jPop ((mSSet mr mc (mFirst ms mt kn mC mC) mK mD (mReach mr mc mk ms mu mt mp mK mD kn tn pe mC) (nI i) mK).2.1)) - ((mSug mr mc (mFirst ms mt kn mC mC) mK mD (mReach mr mc mk ms mu mt mp mK mD kn tn pe mC) wa i).2))), (11, .int (mSize (mSSet mr mc (mFirst ms mt kn mC mC) mK mD (mReach mr mc mk ms mu mt mp mK mD kn tn pe mC) (nI i) mK).1 (mSug mr mc (mFirst ms mt kn mC mC) mK mD (mReach mr mc mk ms mu mt mp mK mD kn tn pe mC) wa i).1)), (10, .int (bI (mSSet mr mc (mFirst ms mt kn mC mC) mK mD (mReach mr mc mk ms mu mt mp mK mD kn tn pe mC) (nI i) mK).2.2)), (9, .int ((mSSet mr mc (mFirst ms mt kn mC mC) mK mD (mReach mr mc mk ms mu mt mp mK mD kn tn pe mC) (nI i) mK).2.1)), (8, .int ((mSSet mr mc (mFirst ms mt kn mC mC) mK mD (mReach mr mc mk ms mu mt mp mK mD kn tn pe mC) (nI i) mK).1)), (7, .int (nI i)), (4, .int (mReach mr mc mk ms mu mt mp mK mD kn tn pe mC)), (3, .ref q40), (0, .ref (md 0)), (1, .int pe), (2, .int wa)]) hx hb dX3_suggest_329 hl (by decide) rfl (fun ls hl => ?_)
                                      refine lv_iinc (v := nI (i + 1)) (lv' := [(7, .int (nI (i + 1))), (6, .int (jPop ((mSSet mr mc (mFirst ms mt kn mC mC) mK mD (mReach mr mc mk ms mu mt mp mK mD kn tn pe mC) (nI i) mK).2.1))), (5, .int ((mSSet mr mc (mFirst ms mt kn mC mC) mK mD (mReach mr mc mk ms mu mt mp mK mD kn tn pe mC) (nI i) mK).1)), (12, .int ((jPop ((mSSet mr mc (mFirst ms mt kn mC mC) mK mD (mReach mr mc mk ms mu mt mp mK mD kn tn pe mC) (nI i) mK).2.1)) - ((mSug mr mc (mFirst ms mt kn mC mC) mK mD (mReach mr mc mk ms mu mt mp mK mD kn tn pe mC) wa i).2))), (11, .int (mSize (mSSet mr mc (mFirst ms mt kn mC mC) mK mD (mReach mr mc mk ms mu mt mp mK mD kn tn pe mC) (nI i) mK).1 (mSug mr mc (mFirst ms mt kn mC mC) mK mD (mReach mr mc mk ms mu mt mp mK mD kn tn pe mC) wa i).1)), (10, .int (bI (mSSet mr mc (mFirst ms mt kn mC mC) mK mD (mReach mr mc mk ms mu mt mp mK mD kn tn pe mC) (nI i) mK).2.2)), (9, .int ((mSSet mr mc (mFirst ms mt kn mC mC) mK mD (mReach mr mc mk ms mu mt mp mK mD kn tn pe mC) (nI i) mK).2.1)), (8, .int ((mSSet mr mc (mFirst ms mt kn mC mC) mK mD (mReach mr mc mk ms mu mt mp mK mD kn tn pe mC) (nI i) mK).1)), (4, .int (mReach mr mc mk ms mu mt mp mK mD kn tn pe mC)), (3, .ref q40), (0, .ref (md 0)), (1, .int pe), (2, .int wa)]) hx hb dX3_suggest_331 hl (k := 7) rfl (kc_inc i) (by decide) rfl (fun ls hl => ?_)
                                      refine lv_goto (tgt := 132) hx hb dX3_suggest_334 (by decide) ?_
                                      refine ih_132 _ hlt_132 ?_
                                      have eq_6 : (mSug mr mc (mFirst ms mt kn mC mC) mK mD (mReach mr mc mk ms mu mt mp mK mD kn tn pe mC) wa (i + 1)).2 = jPop ((mSSet mr mc (mFirst ms mt kn mC mC) mK mD (mReach mr mc mk ms mu mt mp mK mD kn tn pe mC) (nI i) mK).2.1) := by rw [mSug_s]; simp only [mSStep, if_pos c_9, if_neg c_19, if_pos c_29, if_pos c_241, if_pos c_250, if_neg c_264, if_neg c_292, if_pos c_297, if_neg c_302, if_neg c_307]
                                      have eq_5 : (mSug mr mc (mFirst ms mt kn mC mC) mK mD (mReach mr mc mk ms mu mt mp mK mD kn tn pe mC) wa (i + 1)).1 = (mSSet mr mc (mFirst ms mt kn mC mC) mK mD (mReach mr mc mk ms mu mt mp mK mD kn tn pe mC) (nI i) mK).1 := by rw [mSug_s]; simp only [mSStep, if_pos c_9, if_neg c_19, if_pos c_29, if_pos c_241, if_pos c_250, if_neg c_264, if_neg c_292, if_pos c_297, if_neg c_302, if_neg c_307]
                                      show lv_has _ 13 [(7, .int (nI (i + 1))), (6, .int ((mSug mr mc (mFirst ms mt kn mC mC) mK mD (mReach mr mc mk ms mu mt mp mK mD kn tn pe mC) wa (i + 1)).2)), (5, .int ((mSug mr mc (mFirst ms mt kn mC mC) mK mD (mReach mr mc mk ms mu mt mp mK mD kn tn pe mC) wa (i + 1)).1)), (4, .int (mReach mr mc mk ms mu mt mp mK mD kn tn pe mC)), (3, .ref q40), (0, .ref (md 0)), (1, .int pe), (2, .int wa)]
                                      rw [eq_6, eq_5]
                                      exact lv_sub hl [0, 1, 2, 8, 9, 10, 11, 12] rfl
                                    · refine lv_iload hx hb dX3_suggest_310 (lv_at hl 4 rfl) ?_
                                      refine lv_iload hx hb dX3_suggest_312 (lv_at hl 7 rfl) ?_
                                      refine lv_icmp_le (tgt := 320) hx hb dX3_suggest_314 (by decide) (fun c_314 => ?_) (fun c_314 => ?_)
                                      · refine lv_iload hx hb dX3_suggest_320 (lv_at hl 4 rfl) ?_
                                        refine lv_istore (lv' := [(5, .int ((mSSet mr mc (mFirst ms mt kn mC mC) mK mD (mReach mr mc mk ms mu mt mp mK mD kn tn pe mC) (nI i) mK).1)), (12, .int ((jPop ((mSSet mr mc (mFirst ms mt kn mC mC) mK mD (mReach mr mc mk ms mu mt mp mK mD kn tn pe mC) (nI i) mK).2.1)) - ((mSug mr mc (mFirst ms mt kn mC mC) mK mD (mReach mr mc mk ms mu mt mp mK mD kn tn pe mC) wa i).2))), (11, .int (mSize (mSSet mr mc (mFirst ms mt kn mC mC) mK mD (mReach mr mc mk ms mu mt mp mK mD kn tn pe mC) (nI i) mK).1 (mSug mr mc (mFirst ms mt kn mC mC) mK mD (mReach mr mc mk ms mu mt mp mK mD kn tn pe mC) wa i).1)), (10, .int (bI (mSSet mr mc (mFirst ms mt kn mC mC) mK mD (mReach mr mc mk ms mu mt mp mK mD kn tn pe mC) (nI i) mK).2.2)), (9, .int ((mSSet mr mc (mFirst ms mt kn mC mC) mK mD (mReach mr mc mk ms mu mt mp mK mD kn tn pe mC) (nI i) mK).2.1)), (8, .int ((mSSet mr mc (mFirst ms mt kn mC mC) mK mD (mReach mr mc mk ms mu mt mp mK mD kn tn pe mC) (nI i) mK).1)), (7, .int (nI i)), (6, .int ((mSug mr mc (mFirst ms mt kn mC mC) mK mD (mReach mr mc mk ms mu mt mp mK mD kn tn pe mC) wa i).2)), (4, .int (mReach mr mc mk ms mu mt mp mK mD kn tn pe mC)), (3, .ref q40), (0, .ref (md 0)), (1, .int pe), (2, .int wa)]) hx hb dX3_suggest_322 hl (by decide) rfl (fun ls hl => ?_)
                                        refine lv_iload hx hb dX3_suggest_324 (lv_at hl 4 rfl) ?_
                                        refine kc_rSi (As := [.int ((mSSet mr mc (mFirst ms mt kn mC mC) mK mD (mReach mr mc mk ms mu mt mp mK mD kn tn pe mC) (nI i) mK).2.1)]) (rest := []) ⟨hx, hb, hml, hown, hts⟩ (c_J6_bitCount_0f7a4 l ((mSSet mr mc (mFirst ms mt kn mC mC) mK mD (mReach mr mc mk ms mu mt mp mK mD kn tn pe mC) (nI i) mK).2.1) ) (va_cwS 1 hts gX3_suggest_J6_bitCount_0f7a4 rfl rfl rfl (by decide +kernel) ⟨Nat.le_of_ble_eq_true rfl, Nat.le_of_ble_eq_true rfl⟩) rfl hl.1 rfl (Nat.le_of_ble_eq_true rfl) dX3_suggest_326 ⟨Nat.le_of_ble_eq_true rfl, Nat.le_of_ble_eq_true rfl⟩ ?_
                                        refine lv_istore (lv' := [(6, .int (jPop ((mSSet mr mc (mFirst ms mt kn mC mC) mK mD (mReach mr mc mk ms mu mt mp mK mD kn tn pe mC) (nI i) mK).2.1))), (5, .int ((mSSet mr mc (mFirst ms mt kn mC mC) mK mD (mReach mr mc mk ms mu mt mp mK mD kn tn pe mC) (nI i) mK).1)), (12, .int ((jPop ((mSSet mr mc (mFirst ms mt kn mC mC) mK mD (mReach mr mc mk ms mu mt mp mK mD kn tn pe mC) (nI i) mK).2.1)) - ((mSug mr mc (mFirst ms mt kn mC mC) mK mD (mReach mr mc mk ms mu mt mp mK mD kn tn pe mC) wa i).2))), (11, .int (mSize (mSSet mr mc (mFirst ms mt kn mC mC) mK mD (mReach mr mc mk ms mu mt mp mK mD kn tn pe mC) (nI i) mK).1 (mSug mr mc (mFirst ms mt kn mC mC) mK mD (mReach mr mc mk ms mu mt mp mK mD kn tn pe mC) wa i).1)), (10, .int (bI (mSSet mr mc (mFirst ms mt kn mC mC) mK mD (mReach mr mc mk ms mu mt mp mK mD kn tn pe mC) (nI i) mK).2.2)), (9, .int ((mSSet mr mc (mFirst ms mt kn mC mC) mK mD (mReach mr mc mk ms mu mt mp mK mD kn tn pe mC) (nI i) mK).2.1)), (8, .int ((mSSet mr mc (mFirst ms mt kn mC mC) mK mD (mReach mr mc mk ms mu mt mp mK mD kn tn pe mC) (nI i) mK).1)), (7, .int (nI i)), (4, .int (mReach mr mc mk ms mu mt mp mK mD kn tn pe mC)), (3, .ref q40), (0, .ref (md 0)), (1, .int pe), (2, .int wa)]) hx hb dX3_suggest_329 hl (by decide) rfl (fun ls hl => ?_)
                                        refine lv_iinc (v := nI (i + 1)) (lv' := [(7, .int (nI (i + 1))), (6, .int (jPop ((mSSet mr mc (mFirst ms mt kn mC mC) mK mD (mReach mr mc mk ms mu mt mp mK mD kn tn pe mC) (nI i) mK).2.1))), (5, .int ((mSSet mr mc (mFirst ms mt kn mC mC) mK mD (mReach mr mc mk ms mu mt mp mK mD kn tn pe mC) (nI i) mK).1)), (12, .int ((jPop ((mSSet mr mc (mFirst ms mt kn mC mC) mK mD (mReach mr mc mk ms mu mt mp mK mD kn tn pe mC) (nI i) mK).2.1)) - ((mSug mr mc (mFirst ms mt kn mC mC) mK mD (mReach mr mc mk ms mu mt mp mK mD kn tn pe mC) wa i).2))), (11, .int (mSize (mSSet mr mc (mFirst ms mt kn mC mC) mK mD (mReach mr mc mk ms mu mt mp mK mD kn tn pe mC) (nI i) mK).1 (mSug mr mc (mFirst ms mt kn mC mC) mK mD (mReach mr mc mk ms mu mt mp mK mD kn tn pe mC) wa i).1)), (10, .int (bI (mSSet mr mc (mFirst ms mt kn mC mC) mK mD (mReach mr mc mk ms mu mt mp mK mD kn tn pe mC) (nI i) mK).2.2)), (9, .int ((mSSet mr mc (mFirst ms mt kn mC mC) mK mD (mReach mr mc mk ms mu mt mp mK mD kn tn pe mC) (nI i) mK).2.1)), (8, .int ((mSSet mr mc (mFirst ms mt kn mC mC) mK mD (mReach mr mc mk ms mu mt mp mK mD kn tn pe mC) (nI i) mK).1)), (4, .int (mReach mr mc mk ms mu mt mp mK mD kn tn pe mC)), (3, .ref q40), (0, .ref (md 0)), (1, .int pe), (2, .int wa)]) hx hb dX3_suggest_331 hl (k := 7) rfl (kc_inc i) (by decide) rfl (fun ls hl => ?_)
                                        refine lv_goto (tgt := 132) hx hb dX3_suggest_334 (by decide) ?_
                                        refine ih_132 _ hlt_132 ?_
                                        have eq_6 : (mSug mr mc (mFirst ms mt kn mC mC) mK mD (mReach mr mc mk ms mu mt mp mK mD kn tn pe mC) wa (i + 1)).2 = jPop ((mSSet mr mc (mFirst ms mt kn mC mC) mK mD (mReach mr mc mk ms mu mt mp mK mD kn tn pe mC) (nI i) mK).2.1) := by rw [mSug_s]; simp only [mSStep, if_pos c_9, if_neg c_19, if_pos c_29, if_pos c_241, if_pos c_250, if_neg c_264, if_neg c_292, if_pos c_297, if_neg c_302, if_pos c_307, if_pos c_314]
                                        have eq_5 : (mSug mr mc (mFirst ms mt kn mC mC) mK mD (mReach mr mc mk ms mu mt mp mK mD kn tn pe mC) wa (i + 1)).1 = (mSSet mr mc (mFirst ms mt kn mC mC) mK mD (mReach mr mc mk ms mu mt mp mK mD kn tn pe mC) (nI i) mK).1 := by rw [mSug_s]; simp only [mSStep, if_pos c_9, if_neg c_19, if_pos c_29, if_pos c_241, if_pos c_250, if_neg c_264, if_neg c_292, if_pos c_297, if_neg c_302, if_pos c_307, if_pos c_314]
                                        show lv_has _ 13 [(7, .int (nI (i + 1))), (6, .int ((mSug mr mc (mFirst ms mt kn mC mC) mK mD (mReach mr mc mk ms mu mt mp mK mD kn tn pe mC) wa (i + 1)).2)), (5, .int ((mSug mr mc (mFirst ms mt kn mC mC) mK mD (mReach mr mc mk ms mu mt mp mK mD kn tn pe mC) wa (i + 1)).1)), (4, .int (mReach mr mc mk ms mu mt mp mK mD kn tn pe mC)), (3, .ref q40), (0, .ref (md 0)), (1, .int pe), (2, .int wa)]
                                        rw [eq_6, eq_5]
                                        exact lv_sub hl [0, 1, 2, 8, 9, 10, 11, 12] rfl
                                      · refine lv_goto (tgt := 331) hx hb dX3_suggest_317 (by decide) ?_
                                        refine lv_iinc (v := nI (i + 1)) (lv' := [(7, .int (nI (i + 1))), (12, .int ((jPop ((mSSet mr mc (mFirst ms mt kn mC mC) mK mD (mReach mr mc mk ms mu mt mp mK mD kn tn pe mC) (nI i) mK).2.1)) - ((mSug mr mc (mFirst ms mt kn mC mC) mK mD (mReach mr mc mk ms mu mt mp mK mD kn tn pe mC) wa i).2))), (11, .int (mSize (mSSet mr mc (mFirst ms mt kn mC mC) mK mD (mReach mr mc mk ms mu mt mp mK mD kn tn pe mC) (nI i) mK).1 (mSug mr mc (mFirst ms mt kn mC mC) mK mD (mReach mr mc mk ms mu mt mp mK mD kn tn pe mC) wa i).1)), (10, .int (bI (mSSet mr mc (mFirst ms mt kn mC mC) mK mD (mReach mr mc mk ms mu mt mp mK mD kn tn pe mC) (nI i) mK).2.2)), (9, .int ((mSSet mr mc (mFirst ms mt kn mC mC) mK mD (mReach mr mc mk ms mu mt mp mK mD kn tn pe mC) (nI i) mK).2.1)), (8, .int ((mSSet mr mc (mFirst ms mt kn mC mC) mK mD (mReach mr mc mk ms mu mt mp mK mD kn tn pe mC) (nI i) mK).1)), (6, .int ((mSug mr mc (mFirst ms mt kn mC mC) mK mD (mReach mr mc mk ms mu mt mp mK mD kn tn pe mC) wa i).2)), (5, .int ((mSug mr mc (mFirst ms mt kn mC mC) mK mD (mReach mr mc mk ms mu mt mp mK mD kn tn pe mC) wa i).1)), (4, .int (mReach mr mc mk ms mu mt mp mK mD kn tn pe mC)), (3, .ref q40), (0, .ref (md 0)), (1, .int pe), (2, .int wa)]) hx hb dX3_suggest_331 hl (k := 5) rfl (kc_inc i) (by decide) rfl (fun ls hl => ?_)
                                        refine lv_goto (tgt := 132) hx hb dX3_suggest_334 (by decide) ?_
                                        refine ih_132 _ hlt_132 ?_
                                        have eq_6 : (mSug mr mc (mFirst ms mt kn mC mC) mK mD (mReach mr mc mk ms mu mt mp mK mD kn tn pe mC) wa (i + 1)).2 = (mSug mr mc (mFirst ms mt kn mC mC) mK mD (mReach mr mc mk ms mu mt mp mK mD kn tn pe mC) wa i).2 := by rw [mSug_s]; simp only [mSStep, if_pos c_9, if_neg c_19, if_pos c_29, if_pos c_241, if_pos c_250, if_neg c_264, if_neg c_292, if_pos c_297, if_neg c_302, if_pos c_307, if_neg c_314]
                                        have eq_5 : (mSug mr mc (mFirst ms mt kn mC mC) mK mD (mReach mr mc mk ms mu mt mp mK mD kn tn pe mC) wa (i + 1)).1 = (mSug mr mc (mFirst ms mt kn mC mC) mK mD (mReach mr mc mk ms mu mt mp mK mD kn tn pe mC) wa i).1 := by rw [mSug_s]; simp only [mSStep, if_pos c_9, if_neg c_19, if_pos c_29, if_pos c_241, if_pos c_250, if_neg c_264, if_neg c_292, if_pos c_297, if_neg c_302, if_pos c_307, if_neg c_314]
                                        show lv_has _ 13 [(7, .int (nI (i + 1))), (6, .int ((mSug mr mc (mFirst ms mt kn mC mC) mK mD (mReach mr mc mk ms mu mt mp mK mD kn tn pe mC) wa (i + 1)).2)), (5, .int ((mSug mr mc (mFirst ms mt kn mC mC) mK mD (mReach mr mc mk ms mu mt mp mK mD kn tn pe mC) wa (i + 1)).1)), (4, .int (mReach mr mc mk ms mu mt mp mK mD kn tn pe mC)), (3, .ref q40), (0, .ref (md 0)), (1, .int pe), (2, .int wa)]
                                        rw [eq_6, eq_5]
                                        exact lv_sub hl [0, 6, 7, 8, 9, 10, 11, 12] rfl
                            · refine lv_bipush (v := 99) hx hb dX3_suggest_267 (by decide) ?_
                              refine lv_goto (tgt := 277) hx hb dX3_suggest_269 (by decide) ?_
                              refine lv_isub hx hb dX3_suggest_277 ?_
                              refine kc_top (show (jPop ((mSSet mr mc (mFirst ms mt kn mC mC) mK mD (mReach mr mc mk ms mu mt mp mK mD kn tn pe mC) (nI i) mK).1)) - 99 = mSize (mSSet mr mc (mFirst ms mt kn mC mC) mK mD (mReach mr mc mk ms mu mt mp mK mD kn tn pe mC) (nI i) mK).1 (mSug mr mc (mFirst ms mt kn mC mC) mK mD (mReach mr mc mk ms mu mt mp mK mD kn tn pe mC) wa i).1 from by simp only [mSize, if_pos c_9, if_neg c_19, if_pos c_29, if_pos c_241, if_pos c_250, if_pos c_264]) ?_
                              refine lv_istore (lv' := [(11, .int (mSize (mSSet mr mc (mFirst ms mt kn mC mC) mK mD (mReach mr mc mk ms mu mt mp mK mD kn tn pe mC) (nI i) mK).1 (mSug mr mc (mFirst ms mt kn mC mC) mK mD (mReach mr mc mk ms mu mt mp mK mD kn tn pe mC) wa i).1)), (10, .int (bI (mSSet mr mc (mFirst ms mt kn mC mC) mK mD (mReach mr mc mk ms mu mt mp mK mD kn tn pe mC) (nI i) mK).2.2)), (9, .int ((mSSet mr mc (mFirst ms mt kn mC mC) mK mD (mReach mr mc mk ms mu mt mp mK mD kn tn pe mC) (nI i) mK).2.1)), (8, .int ((mSSet mr mc (mFirst ms mt kn mC mC) mK mD (mReach mr mc mk ms mu mt mp mK mD kn tn pe mC) (nI i) mK).1)), (7, .int (nI i)), (6, .int ((mSug mr mc (mFirst ms mt kn mC mC) mK mD (mReach mr mc mk ms mu mt mp mK mD kn tn pe mC) wa i).2)), (5, .int ((mSug mr mc (mFirst ms mt kn mC mC) mK mD (mReach mr mc mk ms mu mt mp mK mD kn tn pe mC) wa i).1)), (4, .int (mReach mr mc mk ms mu mt mp mK mD kn tn pe mC)), (3, .ref q40), (0, .ref (md 0)), (1, .int pe), (2, .int wa)]) hx hb dX3_suggest_278 hl (by decide) rfl (fun ls hl => ?_)
                              refine lv_iload hx hb dX3_suggest_280 (lv_at hl 2 rfl) ?_
                              refine kc_rSi (As := [.int ((mSSet mr mc (mFirst ms mt kn mC mC) mK mD (mReach mr mc mk ms mu mt mp mK mD kn tn pe mC) (nI i) mK).2.1)]) (rest := []) ⟨hx, hb, hml, hown, hts⟩ (c_J6_bitCount_0f7a4 l ((mSSet mr mc (mFirst ms mt kn mC mC) mK mD (mReach mr mc mk ms mu mt mp mK mD kn tn pe mC) (nI i) mK).2.1) ) (va_cwS 1 hts gX3_suggest_J6_bitCount_0f7a4 rfl rfl rfl (by decide +kernel) ⟨Nat.le_of_ble_eq_true rfl, Nat.le_of_ble_eq_true rfl⟩) rfl hl.1 rfl (Nat.le_of_ble_eq_true rfl) dX3_suggest_282 ⟨Nat.le_of_ble_eq_true rfl, Nat.le_of_ble_eq_true rfl⟩ ?_
                              refine lv_iload hx hb dX3_suggest_285 (lv_at hl 5 rfl) ?_
                              refine lv_isub hx hb dX3_suggest_287 ?_
                              refine lv_istore (lv' := [(12, .int ((jPop ((mSSet mr mc (mFirst ms mt kn mC mC) mK mD (mReach mr mc mk ms mu mt mp mK mD kn tn pe mC) (nI i) mK).2.1)) - ((mSug mr mc (mFirst ms mt kn mC mC) mK mD (mReach mr mc mk ms mu mt mp mK mD kn tn pe mC) wa i).2))), (11, .int (mSize (mSSet mr mc (mFirst ms mt kn mC mC) mK mD (mReach mr mc mk ms mu mt mp mK mD kn tn pe mC) (nI i) mK).1 (mSug mr mc (mFirst ms mt kn mC mC) mK mD (mReach mr mc mk ms mu mt mp mK mD kn tn pe mC) wa i).1)), (10, .int (bI (mSSet mr mc (mFirst ms mt kn mC mC) mK mD (mReach mr mc mk ms mu mt mp mK mD kn tn pe mC) (nI i) mK).2.2)), (9, .int ((mSSet mr mc (mFirst ms mt kn mC mC) mK mD (mReach mr mc mk ms mu mt mp mK mD kn tn pe mC) (nI i) mK).2.1)), (8, .int ((mSSet mr mc (mFirst ms mt kn mC mC) mK mD (mReach mr mc mk ms mu mt mp mK mD kn tn pe mC) (nI i) mK).1)), (7, .int (nI i)), (6, .int ((mSug mr mc (mFirst ms mt kn mC mC) mK mD (mReach mr mc mk ms mu mt mp mK mD kn tn pe mC) wa i).2)), (5, .int ((mSug mr mc (mFirst ms mt kn mC mC) mK mD (mReach mr mc mk ms mu mt mp mK mD kn tn pe mC) wa i).1)), (4, .int (mReach mr mc mk ms mu mt mp mK mD kn tn pe mC)), (3, .ref q40), (0, .ref (md 0)), (1, .int pe), (2, .int wa)]) hx hb dX3_suggest_288 hl (by decide) rfl (fun ls hl => ?_)
                              refine lv_iload hx hb dX3_suggest_290 (lv_at hl 1 rfl) ?_
                              refine lv_if_gt (tgt := 331) hx hb dX3_suggest_292 (by decide) (fun c_292 => ?_) (fun c_292 => ?_)
                              · refine lv_iinc (v := nI (i + 1)) (lv' := [(7, .int (nI (i + 1))), (12, .int ((jPop ((mSSet mr mc (mFirst ms mt kn mC mC) mK mD (mReach mr mc mk ms mu mt mp mK mD kn tn pe mC) (nI i) mK).2.1)) - ((mSug mr mc (mFirst ms mt kn mC mC) mK mD (mReach mr mc mk ms mu mt mp mK mD kn tn pe mC) wa i).2))), (11, .int (mSize (mSSet mr mc (mFirst ms mt kn mC mC) mK mD (mReach mr mc mk ms mu mt mp mK mD kn tn pe mC) (nI i) mK).1 (mSug mr mc (mFirst ms mt kn mC mC) mK mD (mReach mr mc mk ms mu mt mp mK mD kn tn pe mC) wa i).1)), (10, .int (bI (mSSet mr mc (mFirst ms mt kn mC mC) mK mD (mReach mr mc mk ms mu mt mp mK mD kn tn pe mC) (nI i) mK).2.2)), (9, .int ((mSSet mr mc (mFirst ms mt kn mC mC) mK mD (mReach mr mc mk ms mu mt mp mK mD kn tn pe mC) (nI i) mK).2.1)), (8, .int ((mSSet mr mc (mFirst ms mt kn mC mC) mK mD (mReach mr mc mk ms mu mt mp mK mD kn tn pe mC) (nI i) mK).1)), (6, .int ((mSug mr mc (mFirst ms mt kn mC mC) mK mD (mReach mr mc mk ms mu mt mp mK mD kn tn pe mC) wa i).2)), (5, .int ((mSug mr mc (mFirst ms mt kn mC mC) mK mD (mReach mr mc mk ms mu mt mp mK mD kn tn pe mC) wa i).1)), (4, .int (mReach mr mc mk ms mu mt mp mK mD kn tn pe mC)), (3, .ref q40), (0, .ref (md 0)), (1, .int pe), (2, .int wa)]) hx hb dX3_suggest_331 hl (k := 5) rfl (kc_inc i) (by decide) rfl (fun ls hl => ?_)
                                refine lv_goto (tgt := 132) hx hb dX3_suggest_334 (by decide) ?_
                                refine ih_132 _ hlt_132 ?_
                                have eq_6 : (mSug mr mc (mFirst ms mt kn mC mC) mK mD (mReach mr mc mk ms mu mt mp mK mD kn tn pe mC) wa (i + 1)).2 = (mSug mr mc (mFirst ms mt kn mC mC) mK mD (mReach mr mc mk ms mu mt mp mK mD kn tn pe mC) wa i).2 := by rw [mSug_s]; simp only [mSStep, if_pos c_9, if_neg c_19, if_pos c_29, if_pos c_241, if_pos c_250, if_pos c_264, if_pos c_292]
                                have eq_5 : (mSug mr mc (mFirst ms mt kn mC mC) mK mD (mReach mr mc mk ms mu mt mp mK mD kn tn pe mC) wa (i + 1)).1 = (mSug mr mc (mFirst ms mt kn mC mC) mK mD (mReach mr mc mk ms mu mt mp mK mD kn tn pe mC) wa i).1 := by rw [mSug_s]; simp only [mSStep, if_pos c_9, if_neg c_19, if_pos c_29, if_pos c_241, if_pos c_250, if_pos c_264, if_pos c_292]
                                show lv_has _ 13 [(7, .int (nI (i + 1))), (6, .int ((mSug mr mc (mFirst ms mt kn mC mC) mK mD (mReach mr mc mk ms mu mt mp mK mD kn tn pe mC) wa (i + 1)).2)), (5, .int ((mSug mr mc (mFirst ms mt kn mC mC) mK mD (mReach mr mc mk ms mu mt mp mK mD kn tn pe mC) wa (i + 1)).1)), (4, .int (mReach mr mc mk ms mu mt mp mK mD kn tn pe mC)), (3, .ref q40), (0, .ref (md 0)), (1, .int pe), (2, .int wa)]
                                rw [eq_6, eq_5]
                                exact lv_sub hl [0, 6, 7, 8, 9, 10, 11, 12] rfl
                              · refine lv_iload hx hb dX3_suggest_295 (lv_at hl 1 rfl) ?_
                                refine lv_if_ne (tgt := 320) hx hb dX3_suggest_297 (by decide) (fun c_297 => ?_) (fun c_297 => ?_)
                                · refine lv_iload hx hb dX3_suggest_320 (lv_at hl 4 rfl) ?_
                                  refine lv_istore (lv' := [(5, .int ((mSSet mr mc (mFirst ms mt kn mC mC) mK mD (mReach mr mc mk ms mu mt mp mK mD kn tn pe mC) (nI i) mK).1)), (12, .int ((jPop ((mSSet mr mc (mFirst ms mt kn mC mC) mK mD (mReach mr mc mk ms mu mt mp mK mD kn tn pe mC) (nI i) mK).2.1)) - ((mSug mr mc (mFirst ms mt kn mC mC) mK mD (mReach mr mc mk ms mu mt mp mK mD kn tn pe mC) wa i).2))), (11, .int (mSize (mSSet mr mc (mFirst ms mt kn mC mC) mK mD (mReach mr mc mk ms mu mt mp mK mD kn tn pe mC) (nI i) mK).1 (mSug mr mc (mFirst ms mt kn mC mC) mK mD (mReach mr mc mk ms mu mt mp mK mD kn tn pe mC) wa i).1)), (10, .int (bI (mSSet mr mc (mFirst ms mt kn mC mC) mK mD (mReach mr mc mk ms mu mt mp mK mD kn tn pe mC) (nI i) mK).2.2)), (9, .int ((mSSet mr mc (mFirst ms mt kn mC mC) mK mD (mReach mr mc mk ms mu mt mp mK mD kn tn pe mC) (nI i) mK).2.1)), (8, .int ((mSSet mr mc (mFirst ms mt kn mC mC) mK mD (mReach mr mc mk ms mu mt mp mK mD kn tn pe mC) (nI i) mK).1)), (7, .int (nI i)), (6, .int ((mSug mr mc (mFirst ms mt kn mC mC) mK mD (mReach mr mc mk ms mu mt mp mK mD kn tn pe mC) wa i).2)), (4, .int (mReach mr mc mk ms mu mt mp mK mD kn tn pe mC)), (3, .ref q40), (0, .ref (md 0)), (1, .int pe), (2, .int wa)]) hx hb dX3_suggest_322 hl (by decide) rfl (fun ls hl => ?_)
                                  refine lv_iload hx hb dX3_suggest_324 (lv_at hl 4 rfl) ?_
                                  refine kc_rSi (As := [.int ((mSSet mr mc (mFirst ms mt kn mC mC) mK mD (mReach mr mc mk ms mu mt mp mK mD kn tn pe mC) (nI i) mK).2.1)]) (rest := []) ⟨hx, hb, hml, hown, hts⟩ (c_J6_bitCount_0f7a4 l ((mSSet mr mc (mFirst ms mt kn mC mC) mK mD (mReach mr mc mk ms mu mt mp mK mD kn tn pe mC) (nI i) mK).2.1) ) (va_cwS 1 hts gX3_suggest_J6_bitCount_0f7a4 rfl rfl rfl (by decide +kernel) ⟨Nat.le_of_ble_eq_true rfl, Nat.le_of_ble_eq_true rfl⟩) rfl hl.1 rfl (Nat.le_of_ble_eq_true rfl) dX3_suggest_326 ⟨Nat.le_of_ble_eq_true rfl, Nat.le_of_ble_eq_true rfl⟩ ?_
                                  refine lv_istore (lv' := [(6, .int (jPop ((mSSet mr mc (mFirst ms mt kn mC mC) mK mD (mReach mr mc mk ms mu mt mp mK mD kn tn pe mC) (nI i) mK).2.1))), (5, .int ((mSSet mr mc (mFirst ms mt kn mC mC) mK mD (mReach mr mc mk ms mu mt mp mK mD kn tn pe mC) (nI i) mK).1)), (12, .int ((jPop ((mSSet mr mc (mFirst ms mt kn mC mC) mK mD (mReach mr mc mk ms mu mt mp mK mD kn tn pe mC) (nI i) mK).2.1)) - ((mSug mr mc (mFirst ms mt kn mC mC) mK mD (mReach mr mc mk ms mu mt mp mK mD kn tn pe mC) wa i).2))), (11, .int (mSize (mSSet mr mc (mFirst ms mt kn mC mC) mK mD (mReach mr mc mk ms mu mt mp mK mD kn tn pe mC) (nI i) mK).1 (mSug mr mc (mFirst ms mt kn mC mC) mK mD (mReach mr mc mk ms mu mt mp mK mD kn tn pe mC) wa i).1)), (10, .int (bI (mSSet mr mc (mFirst ms mt kn mC mC) mK mD (mReach mr mc mk ms mu mt mp mK mD kn tn pe mC) (nI i) mK).2.2)), (9, .int ((mSSet mr mc (mFirst ms mt kn mC mC) mK mD (mReach mr mc mk ms mu mt mp mK mD kn tn pe mC) (nI i) mK).2.1)), (8, .int ((mSSet mr mc (mFirst ms mt kn mC mC) mK mD (mReach mr mc mk ms mu mt mp mK mD kn tn pe mC) (nI i) mK).1)), (7, .int (nI i)), (4, .int (mReach mr mc mk ms mu mt mp mK mD kn tn pe mC)), (3, .ref q40), (0, .ref (md 0)), (1, .int pe), (2, .int wa)]) hx hb dX3_suggest_329 hl (by decide) rfl (fun ls hl => ?_)
                                  refine lv_iinc (v := nI (i + 1)) (lv' := [(7, .int (nI (i + 1))), (6, .int (jPop ((mSSet mr mc (mFirst ms mt kn mC mC) mK mD (mReach mr mc mk ms mu mt mp mK mD kn tn pe mC) (nI i) mK).2.1))), (5, .int ((mSSet mr mc (mFirst ms mt kn mC mC) mK mD (mReach mr mc mk ms mu mt mp mK mD kn tn pe mC) (nI i) mK).1)), (12, .int ((jPop ((mSSet mr mc (mFirst ms mt kn mC mC) mK mD (mReach mr mc mk ms mu mt mp mK mD kn tn pe mC) (nI i) mK).2.1)) - ((mSug mr mc (mFirst ms mt kn mC mC) mK mD (mReach mr mc mk ms mu mt mp mK mD kn tn pe mC) wa i).2))), (11, .int (mSize (mSSet mr mc (mFirst ms mt kn mC mC) mK mD (mReach mr mc mk ms mu mt mp mK mD kn tn pe mC) (nI i) mK).1 (mSug mr mc (mFirst ms mt kn mC mC) mK mD (mReach mr mc mk ms mu mt mp mK mD kn tn pe mC) wa i).1)), (10, .int (bI (mSSet mr mc (mFirst ms mt kn mC mC) mK mD (mReach mr mc mk ms mu mt mp mK mD kn tn pe mC) (nI i) mK).2.2)), (9, .int ((mSSet mr mc (mFirst ms mt kn mC mC) mK mD (mReach mr mc mk ms mu mt mp mK mD kn tn pe mC) (nI i) mK).2.1)), (8, .int ((mSSet mr mc (mFirst ms mt kn mC mC) mK mD (mReach mr mc mk ms mu mt mp mK mD kn tn pe mC) (nI i) mK).1)), (4, .int (mReach mr mc mk ms mu mt mp mK mD kn tn pe mC)), (3, .ref q40), (0, .ref (md 0)), (1, .int pe), (2, .int wa)]) hx hb dX3_suggest_331 hl (k := 7) rfl (kc_inc i) (by decide) rfl (fun ls hl => ?_)
                                  refine lv_goto (tgt := 132) hx hb dX3_suggest_334 (by decide) ?_
                                  refine ih_132 _ hlt_132 ?_
                                  have eq_6 : (mSug mr mc (mFirst ms mt kn mC mC) mK mD (mReach mr mc mk ms mu mt mp mK mD kn tn pe mC) wa (i + 1)).2 = jPop ((mSSet mr mc (mFirst ms mt kn mC mC) mK mD (mReach mr mc mk ms mu mt mp mK mD kn tn pe mC) (nI i) mK).2.1) := by rw [mSug_s]; simp only [mSStep, if_pos c_9, if_neg c_19, if_pos c_29, if_pos c_241, if_pos c_250, if_pos c_264, if_neg c_292, if_neg c_297]
                                  have eq_5 : (mSug mr mc (mFirst ms mt kn mC mC) mK mD (mReach mr mc mk ms mu mt mp mK mD kn tn pe mC) wa (i + 1)).1 = (mSSet mr mc (mFirst ms mt kn mC mC) mK mD (mReach mr mc mk ms mu mt mp mK mD kn tn pe mC) (nI i) mK).1 := by rw [mSug_s]; simp only [mSStep, if_pos c_9, if_neg c_19, if_pos c_29, if_pos c_241, if_pos c_250, if_pos c_264, if_neg c_292, if_neg c_297]
                                  show lv_has _ 13 [(7, .int (nI (i + 1))), (6, .int ((mSug mr mc (mFirst ms mt kn mC mC) mK mD (mReach mr mc mk ms mu mt mp mK mD kn tn pe mC) wa (i + 1)).2)), (5, .int ((mSug mr mc (mFirst ms mt kn mC mC) mK mD (mReach mr mc mk ms mu mt mp mK mD kn tn pe mC) wa (i + 1)).1)), (4, .int (mReach mr mc mk ms mu mt mp mK mD kn tn pe mC)), (3, .ref q40), (0, .ref (md 0)), (1, .int pe), (2, .int wa)]
                                  rw [eq_6, eq_5]
                                  exact lv_sub hl [0, 1, 2, 8, 9, 10, 11, 12] rfl
                                · refine lv_iload hx hb dX3_suggest_300 (lv_at hl 0 rfl) ?_
                                  refine lv_if_gt (tgt := 331) hx hb dX3_suggest_302 (by decide) (fun c_302 => ?_) (fun c_302 => ?_)
                                  · refine lv_iinc (v := nI (i + 1)) (lv' := [(7, .int (nI (i + 1))), (12, .int ((jPop ((mSSet mr mc (mFirst ms mt kn mC mC) mK mD (mReach mr mc mk ms mu mt mp mK mD kn tn pe mC) (nI i) mK).2.1)) - ((mSug mr mc (mFirst ms mt kn mC mC) mK mD (mReach mr mc mk ms mu mt mp mK mD kn tn pe mC) wa i).2))), (11, .int (mSize (mSSet mr mc (mFirst ms mt kn mC mC) mK mD (mReach mr mc mk ms mu mt mp mK mD kn tn pe mC) (nI i) mK).1 (mSug mr mc (mFirst ms mt kn mC mC) mK mD (mReach mr mc mk ms mu mt mp mK mD kn tn pe mC) wa i).1)), (10, .int (bI (mSSet mr mc (mFirst ms mt kn mC mC) mK mD (mReach mr mc mk ms mu mt mp mK mD kn tn pe mC) (nI i) mK).2.2)), (9, .int ((mSSet mr mc (mFirst ms mt kn mC mC) mK mD (mReach mr mc mk ms mu mt mp mK mD kn tn pe mC) (nI i) mK).2.1)), (8, .int ((mSSet mr mc (mFirst ms mt kn mC mC) mK mD (mReach mr mc mk ms mu mt mp mK mD kn tn pe mC) (nI i) mK).1)), (6, .int ((mSug mr mc (mFirst ms mt kn mC mC) mK mD (mReach mr mc mk ms mu mt mp mK mD kn tn pe mC) wa i).2)), (5, .int ((mSug mr mc (mFirst ms mt kn mC mC) mK mD (mReach mr mc mk ms mu mt mp mK mD kn tn pe mC) wa i).1)), (4, .int (mReach mr mc mk ms mu mt mp mK mD kn tn pe mC)), (3, .ref q40), (0, .ref (md 0)), (1, .int pe), (2, .int wa)]) hx hb dX3_suggest_331 hl (k := 5) rfl (kc_inc i) (by decide) rfl (fun ls hl => ?_)
                                    refine lv_goto (tgt := 132) hx hb dX3_suggest_334 (by decide) ?_
                                    refine ih_132 _ hlt_132 ?_
                                    have eq_6 : (mSug mr mc (mFirst ms mt kn mC mC) mK mD (mReach mr mc mk ms mu mt mp mK mD kn tn pe mC) wa (i + 1)).2 = (mSug mr mc (mFirst ms mt kn mC mC) mK mD (mReach mr mc mk ms mu mt mp mK mD kn tn pe mC) wa i).2 := by rw [mSug_s]; simp only [mSStep, if_pos c_9, if_neg c_19, if_pos c_29, if_pos c_241, if_pos c_250, if_pos c_264, if_neg c_292, if_pos c_297, if_pos c_302]
                                    have eq_5 : (mSug mr mc (mFirst ms mt kn mC mC) mK mD (mReach mr mc mk ms mu mt mp mK mD kn tn pe mC) wa (i + 1)).1 = (mSug mr mc (mFirst ms mt kn mC mC) mK mD (mReach mr mc mk ms mu mt mp mK mD kn tn pe mC) wa i).1 := by rw [mSug_s]; simp only [mSStep, if_pos c_9, if_neg c_19, if_pos c_29, if_pos c_241, if_pos c_250, if_pos c_264, if_neg c_292, if_pos c_297, if_pos c_302]
                                    show lv_has _ 13 [(7, .int (nI (i + 1))), (6, .int ((mSug mr mc (mFirst ms mt kn mC mC) mK mD (mReach mr mc mk ms mu mt mp mK mD kn tn pe mC) wa (i + 1)).2)), (5, .int ((mSug mr mc (mFirst ms mt kn mC mC) mK mD (mReach mr mc mk ms mu mt mp mK mD kn tn pe mC) wa (i + 1)).1)), (4, .int (mReach mr mc mk ms mu mt mp mK mD kn tn pe mC)), (3, .ref q40), (0, .ref (md 0)), (1, .int pe), (2, .int wa)]
                                    rw [eq_6, eq_5]
                                    exact lv_sub hl [0, 6, 7, 8, 9, 10, 11, 12] rfl
                                  · refine lv_iload hx hb dX3_suggest_305 (lv_at hl 0 rfl) ?_
                                    refine lv_if_ne (tgt := 320) hx hb dX3_suggest_307 (by decide) (fun c_307 => ?_) (fun c_307 => ?_)
                                    · refine lv_iload hx hb dX3_suggest_320 (lv_at hl 4 rfl) ?_
                                      refine lv_istore (lv' := [(5, .int ((mSSet mr mc (mFirst ms mt kn mC mC) mK mD (mReach mr mc mk ms mu mt mp mK mD kn tn pe mC) (nI i) mK).1)), (12, .int ((jPop ((mSSet mr mc (mFirst ms mt kn mC mC) mK mD (mReach mr mc mk ms mu mt mp mK mD kn tn pe mC) (nI i) mK).2.1)) - ((mSug mr mc (mFirst ms mt kn mC mC) mK mD (mReach mr mc mk ms mu mt mp mK mD kn tn pe mC) wa i).2))), (11, .int (mSize (mSSet mr mc (mFirst ms mt kn mC mC) mK mD (mReach mr mc mk ms mu mt mp mK mD kn tn pe mC) (nI i) mK).1 (mSug mr mc (mFirst ms mt kn mC mC) mK mD (mReach mr mc mk ms mu mt mp mK mD kn tn pe mC) wa i).1)), (10, .int (bI (mSSet mr mc (mFirst ms mt kn mC mC) mK mD (mReach mr mc mk ms mu mt mp mK mD kn tn pe mC) (nI i) mK).2.2)), (9, .int ((mSSet mr mc (mFirst ms mt kn mC mC) mK mD (mReach mr mc mk ms mu mt mp mK mD kn tn pe mC) (nI i) mK).2.1)), (8, .int ((mSSet mr mc (mFirst ms mt kn mC mC) mK mD (mReach mr mc mk ms mu mt mp mK mD kn tn pe mC) (nI i) mK).1)), (7, .int (nI i)), (6, .int ((mSug mr mc (mFirst ms mt kn mC mC) mK mD (mReach mr mc mk ms mu mt mp mK mD kn tn pe mC) wa i).2)), (4, .int (mReach mr mc mk ms mu mt mp mK mD kn tn pe mC)), (3, .ref q40), (0, .ref (md 0)), (1, .int pe), (2, .int wa)]) hx hb dX3_suggest_322 hl (by decide) rfl (fun ls hl => ?_)
                                      refine lv_iload hx hb dX3_suggest_324 (lv_at hl 4 rfl) ?_
                                      refine kc_rSi (As := [.int ((mSSet mr mc (mFirst ms mt kn mC mC) mK mD (mReach mr mc mk ms mu mt mp mK mD kn tn pe mC) (nI i) mK).2.1)]) (rest := []) ⟨hx, hb, hml, hown, hts⟩ (c_J6_bitCount_0f7a4 l ((mSSet mr mc (mFirst ms mt kn mC mC) mK mD (mReach mr mc mk ms mu mt mp mK mD kn tn pe mC) (nI i) mK).2.1) ) (va_cwS 1 hts gX3_suggest_J6_bitCount_0f7a4 rfl rfl rfl (by decide +kernel) ⟨Nat.le_of_ble_eq_true rfl, Nat.le_of_ble_eq_true rfl⟩) rfl hl.1 rfl (Nat.le_of_ble_eq_true rfl) dX3_suggest_326 ⟨Nat.le_of_ble_eq_true rfl, Nat.le_of_ble_eq_true rfl⟩ ?_
                                      refine lv_istore (lv' := [(6, .int (jPop ((mSSet mr mc (mFirst ms mt kn mC mC) mK mD (mReach mr mc mk ms mu mt mp mK mD kn tn pe mC) (nI i) mK).2.1))), (5, .int ((mSSet mr mc (mFirst ms mt kn mC mC) mK mD (mReach mr mc mk ms mu mt mp mK mD kn tn pe mC) (nI i) mK).1)), (12, .int ((jPop ((mSSet mr mc (mFirst ms mt kn mC mC) mK mD (mReach mr mc mk ms mu mt mp mK mD kn tn pe mC) (nI i) mK).2.1)) - ((mSug mr mc (mFirst ms mt kn mC mC) mK mD (mReach mr mc mk ms mu mt mp mK mD kn tn pe mC) wa i).2))), (11, .int (mSize (mSSet mr mc (mFirst ms mt kn mC mC) mK mD (mReach mr mc mk ms mu mt mp mK mD kn tn pe mC) (nI i) mK).1 (mSug mr mc (mFirst ms mt kn mC mC) mK mD (mReach mr mc mk ms mu mt mp mK mD kn tn pe mC) wa i).1)), (10, .int (bI (mSSet mr mc (mFirst ms mt kn mC mC) mK mD (mReach mr mc mk ms mu mt mp mK mD kn tn pe mC) (nI i) mK).2.2)), (9, .int ((mSSet mr mc (mFirst ms mt kn mC mC) mK mD (mReach mr mc mk ms mu mt mp mK mD kn tn pe mC) (nI i) mK).2.1)), (8, .int ((mSSet mr mc (mFirst ms mt kn mC mC) mK mD (mReach mr mc mk ms mu mt mp mK mD kn tn pe mC) (nI i) mK).1)), (7, .int (nI i)), (4, .int (mReach mr mc mk ms mu mt mp mK mD kn tn pe mC)), (3, .ref q40), (0, .ref (md 0)), (1, .int pe), (2, .int wa)]) hx hb dX3_suggest_329 hl (by decide) rfl (fun ls hl => ?_)
                                      refine lv_iinc (v := nI (i + 1)) (lv' := [(7, .int (nI (i + 1))), (6, .int (jPop ((mSSet mr mc (mFirst ms mt kn mC mC) mK mD (mReach mr mc mk ms mu mt mp mK mD kn tn pe mC) (nI i) mK).2.1))), (5, .int ((mSSet mr mc (mFirst ms mt kn mC mC) mK mD (mReach mr mc mk ms mu mt mp mK mD kn tn pe mC) (nI i) mK).1)), (12, .int ((jPop ((mSSet mr mc (mFirst ms mt kn mC mC) mK mD (mReach mr mc mk ms mu mt mp mK mD kn tn pe mC) (nI i) mK).2.1)) - ((mSug mr mc (mFirst ms mt kn mC mC) mK mD (mReach mr mc mk ms mu mt mp mK mD kn tn pe mC) wa i).2))), (11, .int (mSize (mSSet mr mc (mFirst ms mt kn mC mC) mK mD (mReach mr mc mk ms mu mt mp mK mD kn tn pe mC) (nI i) mK).1 (mSug mr mc (mFirst ms mt kn mC mC) mK mD (mReach mr mc mk ms mu mt mp mK mD kn tn pe mC) wa i).1)), (10, .int (bI (mSSet mr mc (mFirst ms mt kn mC mC) mK mD (mReach mr mc mk ms mu mt mp mK mD kn tn pe mC) (nI i) mK).2.2)), (9, .int ((mSSet mr mc (mFirst ms mt kn mC mC) mK mD (mReach mr mc mk ms mu mt mp mK mD kn tn pe mC) (nI i) mK).2.1)), (8, .int ((mSSet mr mc (mFirst ms mt kn mC mC) mK mD (mReach mr mc mk ms mu mt mp mK mD kn tn pe mC) (nI i) mK).1)), (4, .int (mReach mr mc mk ms mu mt mp mK mD kn tn pe mC)), (3, .ref q40), (0, .ref (md 0)), (1, .int pe), (2, .int wa)]) hx hb dX3_suggest_331 hl (k := 7) rfl (kc_inc i) (by decide) rfl (fun ls hl => ?_)
                                      refine lv_goto (tgt := 132) hx hb dX3_suggest_334 (by decide) ?_
                                      refine ih_132 _ hlt_132 ?_
                                      have eq_6 : (mSug mr mc (mFirst ms mt kn mC mC) mK mD (mReach mr mc mk ms mu mt mp mK mD kn tn pe mC) wa (i + 1)).2 = jPop ((mSSet mr mc (mFirst ms mt kn mC mC) mK mD (mReach mr mc mk ms mu mt mp mK mD kn tn pe mC) (nI i) mK).2.1) := by rw [mSug_s]; simp only [mSStep, if_pos c_9, if_neg c_19, if_pos c_29, if_pos c_241, if_pos c_250, if_pos c_264, if_neg c_292, if_pos c_297, if_neg c_302, if_neg c_307]
                                      have eq_5 : (mSug mr mc (mFirst ms mt kn mC mC) mK mD (mReach mr mc mk ms mu mt mp mK mD kn tn pe mC) wa (i + 1)).1 = (mSSet mr mc (mFirst ms mt kn mC mC) mK mD (mReach mr mc mk ms mu mt mp mK mD kn tn pe mC) (nI i) mK).1 := by rw [mSug_s]; simp only [mSStep, if_pos c_9, if_neg c_19, if_pos c_29, if_pos c_241, if_pos c_250, if_pos c_264, if_neg c_292, if_pos c_297, if_neg c_302, if_neg c_307]
                                      show lv_has _ 13 [(7, .int (nI (i + 1))), (6, .int ((mSug mr mc (mFirst ms mt kn mC mC) mK mD (mReach mr mc mk ms mu mt mp mK mD kn tn pe mC) wa (i + 1)).2)), (5, .int ((mSug mr mc (mFirst ms mt kn mC mC) mK mD (mReach mr mc mk ms mu mt mp mK mD kn tn pe mC) wa (i + 1)).1)), (4, .int (mReach mr mc mk ms mu mt mp mK mD kn tn pe mC)), (3, .ref q40), (0, .ref (md 0)), (1, .int pe), (2, .int wa)]
                                      rw [eq_6, eq_5]
                                      exact lv_sub hl [0, 1, 2, 8, 9, 10, 11, 12] rfl
                                    · refine lv_iload hx hb dX3_suggest_310 (lv_at hl 4 rfl) ?_
                                      refine lv_iload hx hb dX3_suggest_312 (lv_at hl 7 rfl) ?_
                                      refine lv_icmp_le (tgt := 320) hx hb dX3_suggest_314 (by decide) (fun c_314 => ?_) (fun c_314 => ?_)
                                      · refine lv_iload hx hb dX3_suggest_320 (lv_at hl 4 rfl) ?_
                                        refine lv_istore (lv' := [(5, .int ((mSSet mr mc (mFirst ms mt kn mC mC) mK mD (mReach mr mc mk ms mu mt mp mK mD kn tn pe mC) (nI i) mK).1)), (12, .int ((jPop ((mSSet mr mc (mFirst ms mt kn mC mC) mK mD (mReach mr mc mk ms mu mt mp mK mD kn tn pe mC) (nI i) mK).2.1)) - ((mSug mr mc (mFirst ms mt kn mC mC) mK mD (mReach mr mc mk ms mu mt mp mK mD kn tn pe mC) wa i).2))), (11, .int (mSize (mSSet mr mc (mFirst ms mt kn mC mC) mK mD (mReach mr mc mk ms mu mt mp mK mD kn tn pe mC) (nI i) mK).1 (mSug mr mc (mFirst ms mt kn mC mC) mK mD (mReach mr mc mk ms mu mt mp mK mD kn tn pe mC) wa i).1)), (10, .int (bI (mSSet mr mc (mFirst ms mt kn mC mC) mK mD (mReach mr mc mk ms mu mt mp mK mD kn tn pe mC) (nI i) mK).2.2)), (9, .int ((mSSet mr mc (mFirst ms mt kn mC mC) mK mD (mReach mr mc mk ms mu mt mp mK mD kn tn pe mC) (nI i) mK).2.1)), (8, .int ((mSSet mr mc (mFirst ms mt kn mC mC) mK mD (mReach mr mc mk ms mu mt mp mK mD kn tn pe mC) (nI i) mK).1)), (7, .int (nI i)), (6, .int ((mSug mr mc (mFirst ms mt kn mC mC) mK mD (mReach mr mc mk ms mu mt mp mK mD kn tn pe mC) wa i).2)), (4, .int (mReach mr mc mk ms mu mt mp mK mD kn tn pe mC)), (3, .ref q40), (0, .ref (md 0)), (1, .int pe), (2, .int wa)]) hx hb dX3_suggest_322 hl (by decide) rfl (fun ls hl => ?_)
                                        refine lv_iload hx hb dX3_suggest_324 (lv_at hl 4 rfl) ?_
                                        refine kc_rSi (As := [.int ((mSSet mr mc (mFirst ms mt kn mC mC) mK mD (mReach mr mc mk ms mu mt mp mK mD kn tn pe mC) (nI i) mK).2.1)]) (rest := []) ⟨hx, hb, hml, hown, hts⟩ (c_J6_bitCount_0f7a4 l ((mSSet mr mc (mFirst ms mt kn mC mC) mK mD (mReach mr mc mk ms mu mt mp mK mD kn tn pe mC) (nI i) mK).2.1) ) (va_cwS 1 hts gX3_suggest_J6_bitCount_0f7a4 rfl rfl rfl (by decide +kernel) ⟨Nat.le_of_ble_eq_true rfl, Nat.le_of_ble_eq_true rfl⟩) rfl hl.1 rfl (Nat.le_of_ble_eq_true rfl) dX3_suggest_326 ⟨Nat.le_of_ble_eq_true rfl, Nat.le_of_ble_eq_true rfl⟩ ?_
                                        refine lv_istore (lv' := [(6, .int (jPop ((mSSet mr mc (mFirst ms mt kn mC mC) mK mD (mReach mr mc mk ms mu mt mp mK mD kn tn pe mC) (nI i) mK).2.1))), (5, .int ((mSSet mr mc (mFirst ms mt kn mC mC) mK mD (mReach mr mc mk ms mu mt mp mK mD kn tn pe mC) (nI i) mK).1)), (12, .int ((jPop ((mSSet mr mc (mFirst ms mt kn mC mC) mK mD (mReach mr mc mk ms mu mt mp mK mD kn tn pe mC) (nI i) mK).2.1)) - ((mSug mr mc (mFirst ms mt kn mC mC) mK mD (mReach mr mc mk ms mu mt mp mK mD kn tn pe mC) wa i).2))), (11, .int (mSize (mSSet mr mc (mFirst ms mt kn mC mC) mK mD (mReach mr mc mk ms mu mt mp mK mD kn tn pe mC) (nI i) mK).1 (mSug mr mc (mFirst ms mt kn mC mC) mK mD (mReach mr mc mk ms mu mt mp mK mD kn tn pe mC) wa i).1)), (10, .int (bI (mSSet mr mc (mFirst ms mt kn mC mC) mK mD (mReach mr mc mk ms mu mt mp mK mD kn tn pe mC) (nI i) mK).2.2)), (9, .int ((mSSet mr mc (mFirst ms mt kn mC mC) mK mD (mReach mr mc mk ms mu mt mp mK mD kn tn pe mC) (nI i) mK).2.1)), (8, .int ((mSSet mr mc (mFirst ms mt kn mC mC) mK mD (mReach mr mc mk ms mu mt mp mK mD kn tn pe mC) (nI i) mK).1)), (7, .int (nI i)), (4, .int (mReach mr mc mk ms mu mt mp mK mD kn tn pe mC)), (3, .ref q40), (0, .ref (md 0)), (1, .int pe), (2, .int wa)]) hx hb dX3_suggest_329 hl (by decide) rfl (fun ls hl => ?_)
                                        refine lv_iinc (v := nI (i + 1)) (lv' := [(7, .int (nI (i + 1))), (6, .int (jPop ((mSSet mr mc (mFirst ms mt kn mC mC) mK mD (mReach mr mc mk ms mu mt mp mK mD kn tn pe mC) (nI i) mK).2.1))), (5, .int ((mSSet mr mc (mFirst ms mt kn mC mC) mK mD (mReach mr mc mk ms mu mt mp mK mD kn tn pe mC) (nI i) mK).1)), (12, .int ((jPop ((mSSet mr mc (mFirst ms mt kn mC mC) mK mD (mReach mr mc mk ms mu mt mp mK mD kn tn pe mC) (nI i) mK).2.1)) - ((mSug mr mc (mFirst ms mt kn mC mC) mK mD (mReach mr mc mk ms mu mt mp mK mD kn tn pe mC) wa i).2))), (11, .int (mSize (mSSet mr mc (mFirst ms mt kn mC mC) mK mD (mReach mr mc mk ms mu mt mp mK mD kn tn pe mC) (nI i) mK).1 (mSug mr mc (mFirst ms mt kn mC mC) mK mD (mReach mr mc mk ms mu mt mp mK mD kn tn pe mC) wa i).1)), (10, .int (bI (mSSet mr mc (mFirst ms mt kn mC mC) mK mD (mReach mr mc mk ms mu mt mp mK mD kn tn pe mC) (nI i) mK).2.2)), (9, .int ((mSSet mr mc (mFirst ms mt kn mC mC) mK mD (mReach mr mc mk ms mu mt mp mK mD kn tn pe mC) (nI i) mK).2.1)), (8, .int ((mSSet mr mc (mFirst ms mt kn mC mC) mK mD (mReach mr mc mk ms mu mt mp mK mD kn tn pe mC) (nI i) mK).1)), (4, .int (mReach mr mc mk ms mu mt mp mK mD kn tn pe mC)), (3, .ref q40), (0, .ref (md 0)), (1, .int pe), (2, .int wa)]) hx hb dX3_suggest_331 hl (k := 7) rfl (kc_inc i) (by decide) rfl (fun ls hl => ?_)
                                        refine lv_goto (tgt := 132) hx hb dX3_suggest_334 (by decide) ?_
                                        refine ih_132 _ hlt_132 ?_
                                        have eq_6 : (mSug mr mc (mFirst ms mt kn mC mC) mK mD (mReach mr mc mk ms mu mt mp mK mD kn tn pe mC) wa (i + 1)).2 = jPop ((mSSet mr mc (mFirst ms mt kn mC mC) mK mD (mReach mr mc mk ms mu mt mp mK mD kn tn pe mC) (nI i) mK).2.1) := by rw [mSug_s]; simp only [mSStep, if_pos c_9, if_neg c_19, if_pos c_29, if_pos c_241, if_pos c_250, if_pos c_264, if_neg c_292, if_pos c_297, if_neg c_302, if_pos c_307, if_pos c_314]
                                        have eq_5 : (mSug mr mc (mFirst ms mt kn mC mC) mK mD (mReach mr mc mk ms mu mt mp mK mD kn tn pe mC) wa (i + 1)).1 = (mSSet mr mc (mFirst ms mt kn mC mC) mK mD (mReach mr mc mk ms mu mt mp mK mD kn tn pe mC) (nI i) mK).1 := by rw [mSug_s]; simp only [mSStep, if_pos c_9, if_neg c_19, if_pos c_29, if_pos c_241, if_pos c_250, if_pos c_264, if_neg c_292, if_pos c_297, if_neg c_302, if_pos c_307, if_pos c_314]
                                        show lv_has _ 13 [(7, .int (nI (i + 1))), (6, .int ((mSug mr mc (mFirst ms mt kn mC mC) mK mD (mReach mr mc mk ms mu mt mp mK mD kn tn pe mC) wa (i + 1)).2)), (5, .int ((mSug mr mc (mFirst ms mt kn mC mC) mK mD (mReach mr mc mk ms mu mt mp mK mD kn tn pe mC) wa (i + 1)).1)), (4, .int (mReach mr mc mk ms mu mt mp mK mD kn tn pe mC)), (3, .ref q40), (0, .ref (md 0)), (1, .int pe), (2, .int wa)]
                                        rw [eq_6, eq_5]
                                        exact lv_sub hl [0, 1, 2, 8, 9, 10, 11, 12] rfl
                                      · refine lv_goto (tgt := 331) hx hb dX3_suggest_317 (by decide) ?_
                                        refine lv_iinc (v := nI (i + 1)) (lv' := [(7, .int (nI (i + 1))), (12, .int ((jPop ((mSSet mr mc (mFirst ms mt kn mC mC) mK mD (mReach mr mc mk ms mu mt mp mK mD kn tn pe mC) (nI i) mK).2.1)) - ((mSug mr mc (mFirst ms mt kn mC mC) mK mD (mReach mr mc mk ms mu mt mp mK mD kn tn pe mC) wa i).2))), (11, .int (mSize (mSSet mr mc (mFirst ms mt kn mC mC) mK mD (mReach mr mc mk ms mu mt mp mK mD kn tn pe mC) (nI i) mK).1 (mSug mr mc (mFirst ms mt kn mC mC) mK mD (mReach mr mc mk ms mu mt mp mK mD kn tn pe mC) wa i).1)), (10, .int (bI (mSSet mr mc (mFirst ms mt kn mC mC) mK mD (mReach mr mc mk ms mu mt mp mK mD kn tn pe mC) (nI i) mK).2.2)), (9, .int ((mSSet mr mc (mFirst ms mt kn mC mC) mK mD (mReach mr mc mk ms mu mt mp mK mD kn tn pe mC) (nI i) mK).2.1)), (8, .int ((mSSet mr mc (mFirst ms mt kn mC mC) mK mD (mReach mr mc mk ms mu mt mp mK mD kn tn pe mC) (nI i) mK).1)), (6, .int ((mSug mr mc (mFirst ms mt kn mC mC) mK mD (mReach mr mc mk ms mu mt mp mK mD kn tn pe mC) wa i).2)), (5, .int ((mSug mr mc (mFirst ms mt kn mC mC) mK mD (mReach mr mc mk ms mu mt mp mK mD kn tn pe mC) wa i).1)), (4, .int (mReach mr mc mk ms mu mt mp mK mD kn tn pe mC)), (3, .ref q40), (0, .ref (md 0)), (1, .int pe), (2, .int wa)]) hx hb dX3_suggest_331 hl (k := 5) rfl (kc_inc i) (by decide) rfl (fun ls hl => ?_)
                                        refine lv_goto (tgt := 132) hx hb dX3_suggest_334 (by decide) ?_
                                        refine ih_132 _ hlt_132 ?_
                                        have eq_6 : (mSug mr mc (mFirst ms mt kn mC mC) mK mD (mReach mr mc mk ms mu mt mp mK mD kn tn pe mC) wa (i + 1)).2 = (mSug mr mc (mFirst ms mt kn mC mC) mK mD (mReach mr mc mk ms mu mt mp mK mD kn tn pe mC) wa i).2 := by rw [mSug_s]; simp only [mSStep, if_pos c_9, if_neg c_19, if_pos c_29, if_pos c_241, if_pos c_250, if_pos c_264, if_neg c_292, if_pos c_297, if_neg c_302, if_pos c_307, if_neg c_314]
                                        have eq_5 : (mSug mr mc (mFirst ms mt kn mC mC) mK mD (mReach mr mc mk ms mu mt mp mK mD kn tn pe mC) wa (i + 1)).1 = (mSug mr mc (mFirst ms mt kn mC mC) mK mD (mReach mr mc mk ms mu mt mp mK mD kn tn pe mC) wa i).1 := by rw [mSug_s]; simp only [mSStep, if_pos c_9, if_neg c_19, if_pos c_29, if_pos c_241, if_pos c_250, if_pos c_264, if_neg c_292, if_pos c_297, if_neg c_302, if_pos c_307, if_neg c_314]
                                        show lv_has _ 13 [(7, .int (nI (i + 1))), (6, .int ((mSug mr mc (mFirst ms mt kn mC mC) mK mD (mReach mr mc mk ms mu mt mp mK mD kn tn pe mC) wa (i + 1)).2)), (5, .int ((mSug mr mc (mFirst ms mt kn mC mC) mK mD (mReach mr mc mk ms mu mt mp mK mD kn tn pe mC) wa (i + 1)).1)), (4, .int (mReach mr mc mk ms mu mt mp mK mD kn tn pe mC)), (3, .ref q40), (0, .ref (md 0)), (1, .int pe), (2, .int wa)]
                                        rw [eq_6, eq_5]
                                        exact lv_sub hl [0, 6, 7, 8, 9, 10, 11, 12] rfl
                          · refine lv_goto (tgt := 331) hx hb dX3_suggest_253 (by decide) ?_
                            refine lv_iinc (v := nI (i + 1)) (lv' := [(7, .int (nI (i + 1))), (11, .int (nI mK)), (10, .int (bI (mSSet mr mc (mFirst ms mt kn mC mC) mK mD (mReach mr mc mk ms mu mt mp mK mD kn tn pe mC) (nI i) mK).2.2)), (9, .int ((mSSet mr mc (mFirst ms mt kn mC mC) mK mD (mReach mr mc mk ms mu mt mp mK mD kn tn pe mC) (nI i) mK).2.1)), (8, .int ((mSSet mr mc (mFirst ms mt kn mC mC) mK mD (mReach mr mc mk ms mu mt mp mK mD kn tn pe mC) (nI i) mK).1)), (6, .int ((mSug mr mc (mFirst ms mt kn mC mC) mK mD (mReach mr mc mk ms mu mt mp mK mD kn tn pe mC) wa i).2)), (5, .int ((mSug mr mc (mFirst ms mt kn mC mC) mK mD (mReach mr mc mk ms mu mt mp mK mD kn tn pe mC) wa i).1)), (4, .int (mReach mr mc mk ms mu mt mp mK mD kn tn pe mC)), (3, .ref q40), (0, .ref (md 0)), (1, .int pe), (2, .int wa)]) hx hb dX3_suggest_331 hl (k := 4) rfl (kc_inc i) (by decide) rfl (fun ls hl => ?_)
                            refine lv_goto (tgt := 132) hx hb dX3_suggest_334 (by decide) ?_
                            refine ih_132 _ hlt_132 ?_
                            have eq_6 : (mSug mr mc (mFirst ms mt kn mC mC) mK mD (mReach mr mc mk ms mu mt mp mK mD kn tn pe mC) wa (i + 1)).2 = (mSug mr mc (mFirst ms mt kn mC mC) mK mD (mReach mr mc mk ms mu mt mp mK mD kn tn pe mC) wa i).2 := by rw [mSug_s]; simp only [mSStep, if_pos c_9, if_neg c_19, if_pos c_29, if_pos c_241, if_neg c_250]
                            have eq_5 : (mSug mr mc (mFirst ms mt kn mC mC) mK mD (mReach mr mc mk ms mu mt mp mK mD kn tn pe mC) wa (i + 1)).1 = (mSug mr mc (mFirst ms mt kn mC mC) mK mD (mReach mr mc mk ms mu mt mp mK mD kn tn pe mC) wa i).1 := by rw [mSug_s]; simp only [mSStep, if_pos c_9, if_neg c_19, if_pos c_29, if_pos c_241, if_neg c_250]
                            show lv_has _ 13 [(7, .int (nI (i + 1))), (6, .int ((mSug mr mc (mFirst ms mt kn mC mC) mK mD (mReach mr mc mk ms mu mt mp mK mD kn tn pe mC) wa (i + 1)).2)), (5, .int ((mSug mr mc (mFirst ms mt kn mC mC) mK mD (mReach mr mc mk ms mu mt mp mK mD kn tn pe mC) wa (i + 1)).1)), (4, .int (mReach mr mc mk ms mu mt mp mK mD kn tn pe mC)), (3, .ref q40), (0, .ref (md 0)), (1, .int pe), (2, .int wa)]
                            rw [eq_6, eq_5]
                            exact lv_sub hl [0, 5, 6, 7, 8, 9, 10, 11] rfl
                      · refine lv_iload hx hb dX3_suggest_165 (lv_at hl 4 rfl) ?_
                        refine lv_iload hx hb dX3_suggest_167 (lv_at hl 0 rfl) ?_
                        refine kc_rSi (As := [.int (nI i), .int (nI q)]) (rest := []) ⟨hx, hb, hml, hown, hts⟩ (c_X3_has l (nI i) (nI q) ) (va_cwS 2 hts gX3_suggest_X3_has rfl rfl rfl (by decide +kernel) ⟨Nat.le_of_ble_eq_true rfl, Nat.le_of_ble_eq_true rfl⟩) rfl hl.1 rfl (Nat.le_of_ble_eq_true rfl) dX3_suggest_169 ⟨Nat.le_of_ble_eq_true rfl, Nat.le_of_ble_eq_true rfl⟩ ?_
                        refine kc_ifneB (tgt := 178) hx hb dX3_suggest_172 (by decide) (fun c_172 => ?_) (fun c_172 => ?_)
                        · refine lv_iload hx hb dX3_suggest_178 (lv_at hl 1 rfl) ?_
                          refine kc_ifeqB (tgt := 195) hx hb dX3_suggest_180 (by decide) (fun c_180 => ?_) (fun c_180 => ?_)
                          · refine lv_iconst (v := 0) hx hb dX3_suggest_195 (by decide) ?_
                            refine lv_istore (lv' := [(10, .int 0), (11, .int (nI q)), (9, .int ((mSSet mr mc (mFirst ms mt kn mC mC) mK mD (mReach mr mc mk ms mu mt mp mK mD kn tn pe mC) (nI i) q).2.1)), (8, .int ((mSSet mr mc (mFirst ms mt kn mC mC) mK mD (mReach mr mc mk ms mu mt mp mK mD kn tn pe mC) (nI i) q).1)), (7, .int (nI i)), (6, .int ((mSug mr mc (mFirst ms mt kn mC mC) mK mD (mReach mr mc mk ms mu mt mp mK mD kn tn pe mC) wa i).2)), (5, .int ((mSug mr mc (mFirst ms mt kn mC mC) mK mD (mReach mr mc mk ms mu mt mp mK mD kn tn pe mC) wa i).1)), (4, .int (mReach mr mc mk ms mu mt mp mK mD kn tn pe mC)), (3, .ref q40), (0, .ref (md 0)), (1, .int pe), (2, .int wa)]) hx hb dX3_suggest_196 hl (by decide) rfl (fun ls hl => ?_)
                            refine lv_aload_n hx hb dX3_suggest_198 rfl (lv_at hl 8 rfl) ?_
                            refine lv_iload hx hb dX3_suggest_199 (lv_at hl 1 rfl) ?_
                            refine kc_ald (i := q) (n := 8) hx hb hK hP 10 0 rfl rfl (by omega) (by decide) dX3_suggest_201 ?_
                            refine lv_iconst (v := (-1)) hx hb dX3_suggest_202 (by decide) ?_
                            refine lv_icmp_eq (tgt := 217) hx hb dX3_suggest_203 (by decide) (fun c_203 => ?_) (fun c_203 => ?_)
                            · refine lv_iload hx hb dX3_suggest_217 (lv_at hl 2 rfl) ?_
                              refine lv_aload_n hx hb dX3_suggest_219 rfl (lv_at hl 9 rfl) ?_
                              refine lv_aload_n hx hb dX3_suggest_220 rfl (lv_at hl 9 rfl) ?_
                              refine va_get (D := D) (ci := 3) (v := .ref (md 1)) (C := RX3) (T := TX3) (N := 15) hx hb hts hinX3 hown hK.1 hP 0 rfl rfl 2 (by decide) hf9 (fun _ h9 => h9) rfl dX3_suggest_221 ?_
                              refine lv_iload hx hb dX3_suggest_224 (lv_at hl 1 rfl) ?_
                              refine kc_ald (i := q) (n := 8) hx hb hK hP 1 0 rfl rfl (by omega) (by decide) dX3_suggest_226 ?_
                              refine kc_rVi (As := [.int (mc q)]) (rest := [.int ((mSSet mr mc (mFirst ms mt kn mC mC) mK mD (mReach mr mc mk ms mu mt mp mK mD kn tn pe mC) (nI i) q).2.1)]) ⟨hx, hb, hml, hown, hts⟩ (c_X3_doorsOf l D md cI 0 mK mc mD mr mw my mC mk ms mu mt mp mb me (mc q) hK8 hD8) (cwV 1 hts gX3_suggest_X3_doorsOf rfl rfl rfl (by decide +kernel) ⟨Nat.le_of_ble_eq_true rfl, Nat.le_of_ble_eq_true rfl⟩) hK hP [0, 1, 2, 3, 4, 5, 6, 7, 8, 9] [0] rfl rfl 0 rfl rfl rfl rfl hl.1 rfl (Nat.le_of_ble_eq_true rfl) dX3_suggest_227 ⟨Nat.le_of_ble_eq_true rfl, Nat.le_of_ble_eq_true rfl⟩ ?_
                              refine lv_ior hx hb dX3_suggest_230 ?_
                              refine lv_istore (lv' := [(9, .int (((mSSet mr mc (mFirst ms mt kn mC mC) mK mD (mReach mr mc mk ms mu mt mp mK mD kn tn pe mC) (nI i) q).2.1) ||| (mDoors mr mc mK (mc q) mD))), (10, .int 0), (11, .int (nI q)), (8, .int ((mSSet mr mc (mFirst ms mt kn mC mC) mK mD (mReach mr mc mk ms mu mt mp mK mD kn tn pe mC) (nI i) q).1)), (7, .int (nI i)), (6, .int ((mSug mr mc (mFirst ms mt kn mC mC) mK mD (mReach mr mc mk ms mu mt mp mK mD kn tn pe mC) wa i).2)), (5, .int ((mSug mr mc (mFirst ms mt kn mC mC) mK mD (mReach mr mc mk ms mu mt mp mK mD kn tn pe mC) wa i).1)), (4, .int (mReach mr mc mk ms mu mt mp mK mD kn tn pe mC)), (3, .ref q40), (0, .ref (md 0)), (1, .int pe), (2, .int wa)]) hx hb dX3_suggest_231 hl (by decide) rfl (fun ls hl => ?_)
                              refine lv_iinc (v := nI (q + 1)) (lv' := [(11, .int (nI (q + 1))), (9, .int (((mSSet mr mc (mFirst ms mt kn mC mC) mK mD (mReach mr mc mk ms mu mt mp mK mD kn tn pe mC) (nI i) q).2.1) ||| (mDoors mr mc mK (mc q) mD))), (10, .int 0), (8, .int ((mSSet mr mc (mFirst ms mt kn mC mC) mK mD (mReach mr mc mk ms mu mt mp mK mD kn tn pe mC) (nI i) q).1)), (7, .int (nI i)), (6, .int ((mSug mr mc (mFirst ms mt kn mC mC) mK mD (mReach mr mc mk ms mu mt mp mK mD kn tn pe mC) wa i).2)), (5, .int ((mSug mr mc (mFirst ms mt kn mC mC) mK mD (mReach mr mc mk ms mu mt mp mK mD kn tn pe mC) wa i).1)), (4, .int (mReach mr mc mk ms mu mt mp mK mD kn tn pe mC)), (3, .ref q40), (0, .ref (md 0)), (1, .int pe), (2, .int wa)]) hx hb dX3_suggest_233 hl (k := 2) rfl (kc_inc q) (by decide) rfl (fun ls hl => ?_)
                              refine lv_goto (tgt := 156) hx hb dX3_suggest_236 (by decide) ?_
                              refine ih_156 _ hlt_156 ?_
                              have eq_10 : bI (mSSet mr mc (mFirst ms mt kn mC mC) mK mD (mReach mr mc mk ms mu mt mp mK mD kn tn pe mC) (nI i) (q + 1)).2.2 = 0 := by rw [mSSet_s]; simp only [mSIn, if_pos c_172, kc_bf c_180]; rfl
                              have eq_9 : (mSSet mr mc (mFirst ms mt kn mC mC) mK mD (mReach mr mc mk ms mu mt mp mK mD kn tn pe mC) (nI i) (q + 1)).2.1 = ((mSSet mr mc (mFirst ms mt kn mC mC) mK mD (mReach mr mc mk ms mu mt mp mK mD kn tn pe mC) (nI i) q).2.1) ||| (mDoors mr mc mK (mc q) mD) := by rw [mSSet_s]; simp only [mSIn, if_pos c_172, if_pos c_203]
                              have eq_8 : (mSSet mr mc (mFirst ms mt kn mC mC) mK mD (mReach mr mc mk ms mu mt mp mK mD kn tn pe mC) (nI i) (q + 1)).1 = (mSSet mr mc (mFirst ms mt kn mC mC) mK mD (mReach mr mc mk ms mu mt mp mK mD kn tn pe mC) (nI i) q).1 := by rw [mSSet_s]; simp only [mSIn, if_pos c_172, if_pos c_203]
                              show lv_has _ 13 [(11, .int (nI (q + 1))), (10, .int (bI (mSSet mr mc (mFirst ms mt kn mC mC) mK mD (mReach mr mc mk ms mu mt mp mK mD kn tn pe mC) (nI i) (q + 1)).2.2)), (9, .int ((mSSet mr mc (mFirst ms mt kn mC mC) mK mD (mReach mr mc mk ms mu mt mp mK mD kn tn pe mC) (nI i) (q + 1)).2.1)), (8, .int ((mSSet mr mc (mFirst ms mt kn mC mC) mK mD (mReach mr mc mk ms mu mt mp mK mD kn tn pe mC) (nI i) (q + 1)).1)), (7, .int (nI i)), (6, .int ((mSug mr mc (mFirst ms mt kn mC mC) mK mD (mReach mr mc mk ms mu mt mp mK mD kn tn pe mC) wa i).2)), (5, .int ((mSug mr mc (mFirst ms mt kn mC mC) mK mD (mReach mr mc mk ms mu mt mp mK mD kn tn pe mC) wa i).1)), (4, .int (mReach mr mc mk ms mu mt mp mK mD kn tn pe mC)), (3, .ref q40), (0, .ref (md 0)), (1, .int pe), (2, .int wa)]
                              rw [eq_10, eq_9, eq_8]
                              exact lv_sub hl [0, 2, 1, 3, 4, 5, 6, 7, 8, 9, 10, 11] rfl
                            · refine lv_iload hx hb dX3_suggest_206 (lv_at hl 3 rfl) ?_
                              refine lv_iconst (v := 1) hx hb dX3_suggest_208 (by decide) ?_
                              refine lv_aload_n hx hb dX3_suggest_209 rfl (lv_at hl 8 rfl) ?_
                              refine lv_iload hx hb dX3_suggest_210 (lv_at hl 1 rfl) ?_
                              refine kc_ald (i := q) (n := 8) hx hb hK hP 10 0 rfl rfl (by omega) (by decide) dX3_suggest_212 ?_
                              refine lv_ishl hx hb dX3_suggest_213 ?_
                              refine lv_ior hx hb dX3_suggest_214 ?_
                              refine lv_istore (lv' := [(8, .int (((mSSet mr mc (mFirst ms mt kn mC mC) mK mD (mReach mr mc mk ms mu mt mp mK mD kn tn pe mC) (nI i) q).1) ||| (1 <<< (((mFirst ms mt kn mC mC) q) &&& 31)))), (10, .int 0), (11, .int (nI q)), (9, .int ((mSSet mr mc (mFirst ms mt kn mC mC) mK mD (mReach mr mc mk ms mu mt mp mK mD kn tn pe mC) (nI i) q).2.1)), (7, .int (nI i)), (6, .int ((mSug mr mc (mFirst ms mt kn mC mC) mK mD (mReach mr mc mk ms mu mt mp mK mD kn tn pe mC) wa i).2)), (5, .int ((mSug mr mc (mFirst ms mt kn mC mC) mK mD (mReach mr mc mk ms mu mt mp mK mD kn tn pe mC) wa i).1)), (4, .int (mReach mr mc mk ms mu mt mp mK mD kn tn pe mC)), (3, .ref q40), (0, .ref (md 0)), (1, .int pe), (2, .int wa)]) hx hb dX3_suggest_215 hl (by decide) rfl (fun ls hl => ?_)
                              refine lv_iload hx hb dX3_suggest_217 (lv_at hl 3 rfl) ?_
                              refine lv_aload_n hx hb dX3_suggest_219 rfl (lv_at hl 9 rfl) ?_
                              refine lv_aload_n hx hb dX3_suggest_220 rfl (lv_at hl 9 rfl) ?_
                              refine va_get (D := D) (ci := 3) (v := .ref (md 1)) (C := RX3) (T := TX3) (N := 15) hx hb hts hinX3 hown hK.1 hP 0 rfl rfl 2 (by decide) hf9 (fun _ h9 => h9) rfl dX3_suggest_221 ?_
                              refine lv_iload hx hb dX3_suggest_224 (lv_at hl 2 rfl) ?_
                              refine kc_ald (i := q) (n := 8) hx hb hK hP 1 0 rfl rfl (by omega) (by decide) dX3_suggest_226 ?_
                              refine kc_rVi (As := [.int (mc q)]) (rest := [.int ((mSSet mr mc (mFirst ms mt kn mC mC) mK mD (mReach mr mc mk ms mu mt mp mK mD kn tn pe mC) (nI i) q).2.1)]) ⟨hx, hb, hml, hown, hts⟩ (c_X3_doorsOf l D md cI 0 mK mc mD mr mw my mC mk ms mu mt mp mb me (mc q) hK8 hD8) (cwV 1 hts gX3_suggest_X3_doorsOf rfl rfl rfl (by decide +kernel) ⟨Nat.le_of_ble_eq_true rfl, Nat.le_of_ble_eq_true rfl⟩) hK hP [0, 1, 2, 3, 4, 5, 6, 7, 8, 9] [0] rfl rfl 0 rfl rfl rfl rfl hl.1 rfl (Nat.le_of_ble_eq_true rfl) dX3_suggest_227 ⟨Nat.le_of_ble_eq_true rfl, Nat.le_of_ble_eq_true rfl⟩ ?_
                              refine lv_ior hx hb dX3_suggest_230 ?_
                              refine lv_istore (lv' := [(9, .int (((mSSet mr mc (mFirst ms mt kn mC mC) mK mD (mReach mr mc mk ms mu mt mp mK mD kn tn pe mC) (nI i) q).2.1) ||| (mDoors mr mc mK (mc q) mD))), (8, .int (((mSSet mr mc (mFirst ms mt kn mC mC) mK mD (mReach mr mc mk ms mu mt mp mK mD kn tn pe mC) (nI i) q).1) ||| (1 <<< (((mFirst ms mt kn mC mC) q) &&& 31)))), (10, .int 0), (11, .int (nI q)), (7, .int (nI i)), (6, .int ((mSug mr mc (mFirst ms mt kn mC mC) mK mD (mReach mr mc mk ms mu mt mp mK mD kn tn pe mC) wa i).2)), (5, .int ((mSug mr mc (mFirst ms mt kn mC mC) mK mD (mReach mr mc mk ms mu mt mp mK mD kn tn pe mC) wa i).1)), (4, .int (mReach mr mc mk ms mu mt mp mK mD kn tn pe mC)), (3, .ref q40), (0, .ref (md 0)), (1, .int pe), (2, .int wa)]) hx hb dX3_suggest_231 hl (by decide) rfl (fun ls hl => ?_)
                              refine lv_iinc (v := nI (q + 1)) (lv' := [(11, .int (nI (q + 1))), (9, .int (((mSSet mr mc (mFirst ms mt kn mC mC) mK mD (mReach mr mc mk ms mu mt mp mK mD kn tn pe mC) (nI i) q).2.1) ||| (mDoors mr mc mK (mc q) mD))), (8, .int (((mSSet mr mc (mFirst ms mt kn mC mC) mK mD (mReach mr mc mk ms mu mt mp mK mD kn tn pe mC) (nI i) q).1) ||| (1 <<< (((mFirst ms mt kn mC mC) q) &&& 31)))), (10, .int 0), (7, .int (nI i)), (6, .int ((mSug mr mc (mFirst ms mt kn mC mC) mK mD (mReach mr mc mk ms mu mt mp mK mD kn tn pe mC) wa i).2)), (5, .int ((mSug mr mc (mFirst ms mt kn mC mC) mK mD (mReach mr mc mk ms mu mt mp mK mD kn tn pe mC) wa i).1)), (4, .int (mReach mr mc mk ms mu mt mp mK mD kn tn pe mC)), (3, .ref q40), (0, .ref (md 0)), (1, .int pe), (2, .int wa)]) hx hb dX3_suggest_233 hl (k := 3) rfl (kc_inc q) (by decide) rfl (fun ls hl => ?_)
                              refine lv_goto (tgt := 156) hx hb dX3_suggest_236 (by decide) ?_
                              refine ih_156 _ hlt_156 ?_
                              have eq_10 : bI (mSSet mr mc (mFirst ms mt kn mC mC) mK mD (mReach mr mc mk ms mu mt mp mK mD kn tn pe mC) (nI i) (q + 1)).2.2 = 0 := by rw [mSSet_s]; simp only [mSIn, if_pos c_172, kc_bf c_180]; rfl
                              have eq_9 : (mSSet mr mc (mFirst ms mt kn mC mC) mK mD (mReach mr mc mk ms mu mt mp mK mD kn tn pe mC) (nI i) (q + 1)).2.1 = ((mSSet mr mc (mFirst ms mt kn mC mC) mK mD (mReach mr mc mk ms mu mt mp mK mD kn tn pe mC) (nI i) q).2.1) ||| (mDoors mr mc mK (mc q) mD) := by rw [mSSet_s]; simp only [mSIn, if_pos c_172, if_neg c_203]
                              have eq_8 : (mSSet mr mc (mFirst ms mt kn mC mC) mK mD (mReach mr mc mk ms mu mt mp mK mD kn tn pe mC) (nI i) (q + 1)).1 = ((mSSet mr mc (mFirst ms mt kn mC mC) mK mD (mReach mr mc mk ms mu mt mp mK mD kn tn pe mC) (nI i) q).1) ||| (1 <<< (((mFirst ms mt kn mC mC) q) &&& 31)) := by rw [mSSet_s]; simp only [mSIn, if_pos c_172, if_neg c_203]
                              show lv_has _ 13 [(11, .int (nI (q + 1))), (10, .int (bI (mSSet mr mc (mFirst ms mt kn mC mC) mK mD (mReach mr mc mk ms mu mt mp mK mD kn tn pe mC) (nI i) (q + 1)).2.2)), (9, .int ((mSSet mr mc (mFirst ms mt kn mC mC) mK mD (mReach mr mc mk ms mu mt mp mK mD kn tn pe mC) (nI i) (q + 1)).2.1)), (8, .int ((mSSet mr mc (mFirst ms mt kn mC mC) mK mD (mReach mr mc mk ms mu mt mp mK mD kn tn pe mC) (nI i) (q + 1)).1)), (7, .int (nI i)), (6, .int ((mSug mr mc (mFirst ms mt kn mC mC) mK mD (mReach mr mc mk ms mu mt mp mK mD kn tn pe mC) wa i).2)), (5, .int ((mSug mr mc (mFirst ms mt kn mC mC) mK mD (mReach mr mc mk ms mu mt mp mK mD kn tn pe mC) wa i).1)), (4, .int (mReach mr mc mk ms mu mt mp mK mD kn tn pe mC)), (3, .ref q40), (0, .ref (md 0)), (1, .int pe), (2, .int wa)]
                              rw [eq_10, eq_9, eq_8]
                              exact lv_sub hl [0, 3, 1, 2, 4, 5, 6, 7, 8, 9, 10, 11] rfl
                          · refine lv_aload_n hx hb dX3_suggest_183 rfl (lv_at hl 8 rfl) ?_
                            refine lv_iload hx hb dX3_suggest_184 (lv_at hl 0 rfl) ?_
                            refine kc_ald (i := q) (n := 8) hx hb hK hP 10 0 rfl rfl (by omega) (by decide) dX3_suggest_186 ?_
                            refine lv_iconst (v := (-1)) hx hb dX3_suggest_187 (by decide) ?_
                            refine lv_icmp_eq (tgt := 195) hx hb dX3_suggest_188 (by decide) (fun c_188 => ?_) (fun c_188 => ?_)
                            · refine lv_iconst (v := 0) hx hb dX3_suggest_195 (by decide) ?_
                              refine lv_istore (lv' := [(10, .int 0), (11, .int (nI q)), (9, .int ((mSSet mr mc (mFirst ms mt kn mC mC) mK mD (mReach mr mc mk ms mu mt mp mK mD kn tn pe mC) (nI i) q).2.1)), (8, .int ((mSSet mr mc (mFirst ms mt kn mC mC) mK mD (mReach mr mc mk ms mu mt mp mK mD kn tn pe mC) (nI i) q).1)), (7, .int (nI i)), (6, .int ((mSug mr mc (mFirst ms mt kn mC mC) mK mD (mReach mr mc mk ms mu mt mp mK mD kn tn pe mC) wa i).2)), (5, .int ((mSug mr mc (mFirst ms mt kn mC mC) mK mD (mReach mr mc mk ms mu mt mp mK mD kn tn pe mC) wa i).1)), (4, .int (mReach mr mc mk ms mu mt mp mK mD kn tn pe mC)), (3, .ref q40), (0, .ref (md 0)), (1, .int pe), (2, .int wa)]) hx hb dX3_suggest_196 hl (by decide) rfl (fun ls hl => ?_)
                              refine lv_aload_n hx hb dX3_suggest_198 rfl (lv_at hl 8 rfl) ?_
                              refine lv_iload hx hb dX3_suggest_199 (lv_at hl 1 rfl) ?_
                              refine kc_ald (i := q) (n := 8) hx hb hK hP 10 0 rfl rfl (by omega) (by decide) dX3_suggest_201 ?_
                              refine lv_iconst (v := (-1)) hx hb dX3_suggest_202 (by decide) ?_
                              refine lv_icmp_eq (tgt := 217) hx hb dX3_suggest_203 (by decide) (fun c_203 => ?_) (fun c_203 => ?_)
                              · refine lv_iload hx hb dX3_suggest_217 (lv_at hl 2 rfl) ?_
                                refine lv_aload_n hx hb dX3_suggest_219 rfl (lv_at hl 9 rfl) ?_
                                refine lv_aload_n hx hb dX3_suggest_220 rfl (lv_at hl 9 rfl) ?_
                                refine va_get (D := D) (ci := 3) (v := .ref (md 1)) (C := RX3) (T := TX3) (N := 15) hx hb hts hinX3 hown hK.1 hP 0 rfl rfl 2 (by decide) hf9 (fun _ h9 => h9) rfl dX3_suggest_221 ?_
                                refine lv_iload hx hb dX3_suggest_224 (lv_at hl 1 rfl) ?_
                                refine kc_ald (i := q) (n := 8) hx hb hK hP 1 0 rfl rfl (by omega) (by decide) dX3_suggest_226 ?_
                                refine kc_rVi (As := [.int (mc q)]) (rest := [.int ((mSSet mr mc (mFirst ms mt kn mC mC) mK mD (mReach mr mc mk ms mu mt mp mK mD kn tn pe mC) (nI i) q).2.1)]) ⟨hx, hb, hml, hown, hts⟩ (c_X3_doorsOf l D md cI 0 mK mc mD mr mw my mC mk ms mu mt mp mb me (mc q) hK8 hD8) (cwV 1 hts gX3_suggest_X3_doorsOf rfl rfl rfl (by decide +kernel) ⟨Nat.le_of_ble_eq_true rfl, Nat.le_of_ble_eq_true rfl⟩) hK hP [0, 1, 2, 3, 4, 5, 6, 7, 8, 9] [0] rfl rfl 0 rfl rfl rfl rfl hl.1 rfl (Nat.le_of_ble_eq_true rfl) dX3_suggest_227 ⟨Nat.le_of_ble_eq_true rfl, Nat.le_of_ble_eq_true rfl⟩ ?_
                                refine lv_ior hx hb dX3_suggest_230 ?_
                                refine lv_istore (lv' := [(9, .int (((mSSet mr mc (mFirst ms mt kn mC mC) mK mD (mReach mr mc mk ms mu mt mp mK mD kn tn pe mC) (nI i) q).2.1) ||| (mDoors mr mc mK (mc q) mD))), (10, .int 0), (11, .int (nI q)), (8, .int ((mSSet mr mc (mFirst ms mt kn mC mC) mK mD (mReach mr mc mk ms mu mt mp mK mD kn tn pe mC) (nI i) q).1)), (7, .int (nI i)), (6, .int ((mSug mr mc (mFirst ms mt kn mC mC) mK mD (mReach mr mc mk ms mu mt mp mK mD kn tn pe mC) wa i).2)), (5, .int ((mSug mr mc (mFirst ms mt kn mC mC) mK mD (mReach mr mc mk ms mu mt mp mK mD kn tn pe mC) wa i).1)), (4, .int (mReach mr mc mk ms mu mt mp mK mD kn tn pe mC)), (3, .ref q40), (0, .ref (md 0)), (1, .int pe), (2, .int wa)]) hx hb dX3_suggest_231 hl (by decide) rfl (fun ls hl => ?_)
                                refine lv_iinc (v := nI (q + 1)) (lv' := [(11, .int (nI (q + 1))), (9, .int (((mSSet mr mc (mFirst ms mt kn mC mC) mK mD (mReach mr mc mk ms mu mt mp mK mD kn tn pe mC) (nI i) q).2.1) ||| (mDoors mr mc mK (mc q) mD))), (10, .int 0), (8, .int ((mSSet mr mc (mFirst ms mt kn mC mC) mK mD (mReach mr mc mk ms mu mt mp mK mD kn tn pe mC) (nI i) q).1)), (7, .int (nI i)), (6, .int ((mSug mr mc (mFirst ms mt kn mC mC) mK mD (mReach mr mc mk ms mu mt mp mK mD kn tn pe mC) wa i).2)), (5, .int ((mSug mr mc (mFirst ms mt kn mC mC) mK mD (mReach mr mc mk ms mu mt mp mK mD kn tn pe mC) wa i).1)), (4, .int (mReach mr mc mk ms mu mt mp mK mD kn tn pe mC)), (3, .ref q40), (0, .ref (md 0)), (1, .int pe), (2, .int wa)]) hx hb dX3_suggest_233 hl (k := 2) rfl (kc_inc q) (by decide) rfl (fun ls hl => ?_)
                                refine lv_goto (tgt := 156) hx hb dX3_suggest_236 (by decide) ?_
                                refine ih_156 _ hlt_156 ?_
                                have eq_10 : bI (mSSet mr mc (mFirst ms mt kn mC mC) mK mD (mReach mr mc mk ms mu mt mp mK mD kn tn pe mC) (nI i) (q + 1)).2.2 = 0 := by rw [mSSet_s]; simp only [mSIn, if_pos c_172, c_180, decide_eq_true c_188]; rfl
                                have eq_9 : (mSSet mr mc (mFirst ms mt kn mC mC) mK mD (mReach mr mc mk ms mu mt mp mK mD kn tn pe mC) (nI i) (q + 1)).2.1 = ((mSSet mr mc (mFirst ms mt kn mC mC) mK mD (mReach mr mc mk ms mu mt mp mK mD kn tn pe mC) (nI i) q).2.1) ||| (mDoors mr mc mK (mc q) mD) := by rw [mSSet_s]; simp only [mSIn, if_pos c_172, if_pos c_203]
                                have eq_8 : (mSSet mr mc (mFirst ms mt kn mC mC) mK mD (mReach mr mc mk ms mu mt mp mK mD kn tn pe mC) (nI i) (q + 1)).1 = (mSSet mr mc (mFirst ms mt kn mC mC) mK mD (mReach mr mc mk ms mu mt mp mK mD kn tn pe mC) (nI i) q).1 := by rw [mSSet_s]; simp only [mSIn, if_pos c_172, if_pos c_203]
                                show lv_has _ 13 [(11, .int (nI (q + 1))), (10, .int (bI (mSSet mr mc (mFirst ms mt kn mC mC) mK mD (mReach mr mc mk ms mu mt mp mK mD kn tn pe mC) (nI i) (q + 1)).2.2)), (9, .int ((mSSet mr mc (mFirst ms mt kn mC mC) mK mD (mReach mr mc mk ms mu mt mp mK mD kn tn pe mC) (nI i) (q + 1)).2.1)), (8, .int ((mSSet mr mc (mFirst ms mt kn mC mC) mK mD (mReach mr mc mk ms mu mt mp mK mD kn tn pe mC) (nI i) (q + 1)).1)), (7, .int (nI i)), (6, .int ((mSug mr mc (mFirst ms mt kn mC mC) mK mD (mReach mr mc mk ms mu mt mp mK mD kn tn pe mC) wa i).2)), (5, .int ((mSug mr mc (mFirst ms mt kn mC mC) mK mD (mReach mr mc mk ms mu mt mp mK mD kn tn pe mC) wa i).1)), (4, .int (mReach mr mc mk ms mu mt mp mK mD kn tn pe mC)), (3, .ref q40), (0, .ref (md 0)), (1, .int pe), (2, .int wa)]
                                rw [eq_10, eq_9, eq_8]
                                exact lv_sub hl [0, 2, 1, 3, 4, 5, 6, 7, 8, 9, 10, 11] rfl
                              · exact absurd c_188 c_203
                            · refine lv_iconst (v := 1) hx hb dX3_suggest_191 (by decide) ?_
                              refine lv_goto (tgt := 196) hx hb dX3_suggest_192 (by decide) ?_
                              refine lv_istore (lv' := [(10, .int 1), (11, .int (nI q)), (9, .int ((mSSet mr mc (mFirst ms mt kn mC mC) mK mD (mReach mr mc mk ms mu mt mp mK mD kn tn pe mC) (nI i) q).2.1)), (8, .int ((mSSet mr mc (mFirst ms mt kn mC mC) mK mD (mReach mr mc mk ms mu mt mp mK mD kn tn pe mC) (nI i) q).1)), (7, .int (nI i)), (6, .int ((mSug mr mc (mFirst ms mt kn mC mC) mK mD (mReach mr mc mk ms mu mt mp mK mD kn tn pe mC) wa i).2)), (5, .int ((mSug mr mc (mFirst ms mt kn mC mC) mK mD (mReach mr mc mk ms mu mt mp mK mD kn tn pe mC) wa i).1)), (4, .int (mReach mr mc mk ms mu mt mp mK mD kn tn pe mC)), (3, .ref q40), (0, .ref (md 0)), (1, .int pe), (2, .int wa)]) hx hb dX3_suggest_196 hl (by decide) rfl (fun ls hl => ?_)
                              refine lv_aload_n hx hb dX3_suggest_198 rfl (lv_at hl 8 rfl) ?_
                              refine lv_iload hx hb dX3_suggest_199 (lv_at hl 1 rfl) ?_
                              refine kc_ald (i := q) (n := 8) hx hb hK hP 10 0 rfl rfl (by omega) (by decide) dX3_suggest_201 ?_
                              refine lv_iconst (v := (-1)) hx hb dX3_suggest_202 (by decide) ?_
                              refine lv_icmp_eq (tgt := 217) hx hb dX3_suggest_203 (by decide) (fun c_203 => ?_) (fun c_203 => ?_)
                              · exact absurd c_203 c_188
                              · refine lv_iload hx hb dX3_suggest_206 (lv_at hl 3 rfl) ?_
                                refine lv_iconst (v := 1) hx hb dX3_suggest_208 (by decide) ?_
                                refine lv_aload_n hx hb dX3_suggest_209 rfl (lv_at hl 8 rfl) ?_
                                refine lv_iload hx hb dX3_suggest_210 (lv_at hl 1 rfl) ?_
                                refine kc_ald (i := q) (n := 8) hx hb hK hP 10 0 rfl rfl (by omega) (by decide) dX3_suggest_212 ?_
                                refine lv_ishl hx hb dX3_suggest_213 ?_
                                refine lv_ior hx hb dX3_suggest_214 ?_
                                refine lv_istore (lv' := [(8, .int (((mSSet mr mc (mFirst ms mt kn mC mC) mK mD (mReach mr mc mk ms mu mt mp mK mD kn tn pe mC) (nI i) q).1) ||| (1 <<< (((mFirst ms mt kn mC mC) q) &&& 31)))), (10, .int 1), (11, .int (nI q)), (9, .int ((mSSet mr mc (mFirst ms mt kn mC mC) mK mD (mReach mr mc mk ms mu mt mp mK mD kn tn pe mC) (nI i) q).2.1)), (7, .int (nI i)), (6, .int ((mSug mr mc (mFirst ms mt kn mC mC) mK mD (mReach mr mc mk ms mu mt mp mK mD kn tn pe mC) wa i).2)), (5, .int ((mSug mr mc (mFirst ms mt kn mC mC) mK mD (mReach mr mc mk ms mu mt mp mK mD kn tn pe mC) wa i).1)), (4, .int (mReach mr mc mk ms mu mt mp mK mD kn tn pe mC)), (3, .ref q40), (0, .ref (md 0)), (1, .int pe), (2, .int wa)]) hx hb dX3_suggest_215 hl (by decide) rfl (fun ls hl => ?_)
                                refine lv_iload hx hb dX3_suggest_217 (lv_at hl 3 rfl) ?_
                                refine lv_aload_n hx hb dX3_suggest_219 rfl (lv_at hl 9 rfl) ?_
                                refine lv_aload_n hx hb dX3_suggest_220 rfl (lv_at hl 9 rfl) ?_
                                refine va_get (D := D) (ci := 3) (v := .ref (md 1)) (C := RX3) (T := TX3) (N := 15) hx hb hts hinX3 hown hK.1 hP 0 rfl rfl 2 (by decide) hf9 (fun _ h9 => h9) rfl dX3_suggest_221 ?_
                                refine lv_iload hx hb dX3_suggest_224 (lv_at hl 2 rfl) ?_
                                refine kc_ald (i := q) (n := 8) hx hb hK hP 1 0 rfl rfl (by omega) (by decide) dX3_suggest_226 ?_
                                refine kc_rVi (As := [.int (mc q)]) (rest := [.int ((mSSet mr mc (mFirst ms mt kn mC mC) mK mD (mReach mr mc mk ms mu mt mp mK mD kn tn pe mC) (nI i) q).2.1)]) ⟨hx, hb, hml, hown, hts⟩ (c_X3_doorsOf l D md cI 0 mK mc mD mr mw my mC mk ms mu mt mp mb me (mc q) hK8 hD8) (cwV 1 hts gX3_suggest_X3_doorsOf rfl rfl rfl (by decide +kernel) ⟨Nat.le_of_ble_eq_true rfl, Nat.le_of_ble_eq_true rfl⟩) hK hP [0, 1, 2, 3, 4, 5, 6, 7, 8, 9] [0] rfl rfl 0 rfl rfl rfl rfl hl.1 rfl (Nat.le_of_ble_eq_true rfl) dX3_suggest_227 ⟨Nat.le_of_ble_eq_true rfl, Nat.le_of_ble_eq_true rfl⟩ ?_
                                refine lv_ior hx hb dX3_suggest_230 ?_
                                refine lv_istore (lv' := [(9, .int (((mSSet mr mc (mFirst ms mt kn mC mC) mK mD (mReach mr mc mk ms mu mt mp mK mD kn tn pe mC) (nI i) q).2.1) ||| (mDoors mr mc mK (mc q) mD))), (8, .int (((mSSet mr mc (mFirst ms mt kn mC mC) mK mD (mReach mr mc mk ms mu mt mp mK mD kn tn pe mC) (nI i) q).1) ||| (1 <<< (((mFirst ms mt kn mC mC) q) &&& 31)))), (10, .int 1), (11, .int (nI q)), (7, .int (nI i)), (6, .int ((mSug mr mc (mFirst ms mt kn mC mC) mK mD (mReach mr mc mk ms mu mt mp mK mD kn tn pe mC) wa i).2)), (5, .int ((mSug mr mc (mFirst ms mt kn mC mC) mK mD (mReach mr mc mk ms mu mt mp mK mD kn tn pe mC) wa i).1)), (4, .int (mReach mr mc mk ms mu mt mp mK mD kn tn pe mC)), (3, .ref q40), (0, .ref (md 0)), (1, .int pe), (2, .int wa)]) hx hb dX3_suggest_231 hl (by decide) rfl (fun ls hl => ?_)
                                refine lv_iinc (v := nI (q + 1)) (lv' := [(11, .int (nI (q + 1))), (9, .int (((mSSet mr mc (mFirst ms mt kn mC mC) mK mD (mReach mr mc mk ms mu mt mp mK mD kn tn pe mC) (nI i) q).2.1) ||| (mDoors mr mc mK (mc q) mD))), (8, .int (((mSSet mr mc (mFirst ms mt kn mC mC) mK mD (mReach mr mc mk ms mu mt mp mK mD kn tn pe mC) (nI i) q).1) ||| (1 <<< (((mFirst ms mt kn mC mC) q) &&& 31)))), (10, .int 1), (7, .int (nI i)), (6, .int ((mSug mr mc (mFirst ms mt kn mC mC) mK mD (mReach mr mc mk ms mu mt mp mK mD kn tn pe mC) wa i).2)), (5, .int ((mSug mr mc (mFirst ms mt kn mC mC) mK mD (mReach mr mc mk ms mu mt mp mK mD kn tn pe mC) wa i).1)), (4, .int (mReach mr mc mk ms mu mt mp mK mD kn tn pe mC)), (3, .ref q40), (0, .ref (md 0)), (1, .int pe), (2, .int wa)]) hx hb dX3_suggest_233 hl (k := 3) rfl (kc_inc q) (by decide) rfl (fun ls hl => ?_)
                                refine lv_goto (tgt := 156) hx hb dX3_suggest_236 (by decide) ?_
                                refine ih_156 _ hlt_156 ?_
                                have eq_10 : bI (mSSet mr mc (mFirst ms mt kn mC mC) mK mD (mReach mr mc mk ms mu mt mp mK mD kn tn pe mC) (nI i) (q + 1)).2.2 = 1 := by rw [mSSet_s]; simp only [mSIn, if_pos c_172, c_180, decide_eq_false c_188]; rfl
                                have eq_9 : (mSSet mr mc (mFirst ms mt kn mC mC) mK mD (mReach mr mc mk ms mu mt mp mK mD kn tn pe mC) (nI i) (q + 1)).2.1 = ((mSSet mr mc (mFirst ms mt kn mC mC) mK mD (mReach mr mc mk ms mu mt mp mK mD kn tn pe mC) (nI i) q).2.1) ||| (mDoors mr mc mK (mc q) mD) := by rw [mSSet_s]; simp only [mSIn, if_pos c_172, if_neg c_203]
                                have eq_8 : (mSSet mr mc (mFirst ms mt kn mC mC) mK mD (mReach mr mc mk ms mu mt mp mK mD kn tn pe mC) (nI i) (q + 1)).1 = ((mSSet mr mc (mFirst ms mt kn mC mC) mK mD (mReach mr mc mk ms mu mt mp mK mD kn tn pe mC) (nI i) q).1) ||| (1 <<< (((mFirst ms mt kn mC mC) q) &&& 31)) := by rw [mSSet_s]; simp only [mSIn, if_pos c_172, if_neg c_203]
                                show lv_has _ 13 [(11, .int (nI (q + 1))), (10, .int (bI (mSSet mr mc (mFirst ms mt kn mC mC) mK mD (mReach mr mc mk ms mu mt mp mK mD kn tn pe mC) (nI i) (q + 1)).2.2)), (9, .int ((mSSet mr mc (mFirst ms mt kn mC mC) mK mD (mReach mr mc mk ms mu mt mp mK mD kn tn pe mC) (nI i) (q + 1)).2.1)), (8, .int ((mSSet mr mc (mFirst ms mt kn mC mC) mK mD (mReach mr mc mk ms mu mt mp mK mD kn tn pe mC) (nI i) (q + 1)).1)), (7, .int (nI i)), (6, .int ((mSug mr mc (mFirst ms mt kn mC mC) mK mD (mReach mr mc mk ms mu mt mp mK mD kn tn pe mC) wa i).2)), (5, .int ((mSug mr mc (mFirst ms mt kn mC mC) mK mD (mReach mr mc mk ms mu mt mp mK mD kn tn pe mC) wa i).1)), (4, .int (mReach mr mc mk ms mu mt mp mK mD kn tn pe mC)), (3, .ref q40), (0, .ref (md 0)), (1, .int pe), (2, .int wa)]
                                rw [eq_10, eq_9, eq_8]
                                exact lv_sub hl [0, 3, 1, 2, 4, 5, 6, 7, 8, 9, 10, 11] rfl
                        · refine lv_goto (tgt := 233) hx hb dX3_suggest_175 (by decide) ?_
                          refine lv_iinc (v := nI (q + 1)) (lv' := [(11, .int (nI (q + 1))), (10, .int (bI (mSSet mr mc (mFirst ms mt kn mC mC) mK mD (mReach mr mc mk ms mu mt mp mK mD kn tn pe mC) (nI i) q).2.2)), (9, .int ((mSSet mr mc (mFirst ms mt kn mC mC) mK mD (mReach mr mc mk ms mu mt mp mK mD kn tn pe mC) (nI i) q).2.1)), (8, .int ((mSSet mr mc (mFirst ms mt kn mC mC) mK mD (mReach mr mc mk ms mu mt mp mK mD kn tn pe mC) (nI i) q).1)), (7, .int (nI i)), (6, .int ((mSug mr mc (mFirst ms mt kn mC mC) mK mD (mReach mr mc mk ms mu mt mp mK mD kn tn pe mC) wa i).2)), (5, .int ((mSug mr mc (mFirst ms mt kn mC mC) mK mD (mReach mr mc mk ms mu mt mp mK mD kn tn pe mC) wa i).1)), (4, .int (mReach mr mc mk ms mu mt mp mK mD kn tn pe mC)), (3, .ref q40), (0, .ref (md 0)), (1, .int pe), (2, .int wa)]) hx hb dX3_suggest_233 hl (k := 0) rfl (kc_inc q) (by decide) rfl (fun ls hl => ?_)
                          refine lv_goto (tgt := 156) hx hb dX3_suggest_236 (by decide) ?_
                          refine ih_156 _ hlt_156 ?_
                          have eq_10 : bI (mSSet mr mc (mFirst ms mt kn mC mC) mK mD (mReach mr mc mk ms mu mt mp mK mD kn tn pe mC) (nI i) (q + 1)).2.2 = bI (mSSet mr mc (mFirst ms mt kn mC mC) mK mD (mReach mr mc mk ms mu mt mp mK mD kn tn pe mC) (nI i) q).2.2 := by rw [mSSet_s]; simp only [mSIn, if_neg c_172]
                          have eq_9 : (mSSet mr mc (mFirst ms mt kn mC mC) mK mD (mReach mr mc mk ms mu mt mp mK mD kn tn pe mC) (nI i) (q + 1)).2.1 = (mSSet mr mc (mFirst ms mt kn mC mC) mK mD (mReach mr mc mk ms mu mt mp mK mD kn tn pe mC) (nI i) q).2.1 := by rw [mSSet_s]; simp only [mSIn, if_neg c_172]
                          have eq_8 : (mSSet mr mc (mFirst ms mt kn mC mC) mK mD (mReach mr mc mk ms mu mt mp mK mD kn tn pe mC) (nI i) (q + 1)).1 = (mSSet mr mc (mFirst ms mt kn mC mC) mK mD (mReach mr mc mk ms mu mt mp mK mD kn tn pe mC) (nI i) q).1 := by rw [mSSet_s]; simp only [mSIn, if_neg c_172]
                          show lv_has _ 13 [(11, .int (nI (q + 1))), (10, .int (bI (mSSet mr mc (mFirst ms mt kn mC mC) mK mD (mReach mr mc mk ms mu mt mp mK mD kn tn pe mC) (nI i) (q + 1)).2.2)), (9, .int ((mSSet mr mc (mFirst ms mt kn mC mC) mK mD (mReach mr mc mk ms mu mt mp mK mD kn tn pe mC) (nI i) (q + 1)).2.1)), (8, .int ((mSSet mr mc (mFirst ms mt kn mC mC) mK mD (mReach mr mc mk ms mu mt mp mK mD kn tn pe mC) (nI i) (q + 1)).1)), (7, .int (nI i)), (6, .int ((mSug mr mc (mFirst ms mt kn mC mC) mK mD (mReach mr mc mk ms mu mt mp mK mD kn tn pe mC) wa i).2)), (5, .int ((mSug mr mc (mFirst ms mt kn mC mC) mK mD (mReach mr mc mk ms mu mt mp mK mD kn tn pe mC) wa i).1)), (4, .int (mReach mr mc mk ms mu mt mp mK mD kn tn pe mC)), (3, .ref q40), (0, .ref (md 0)), (1, .int pe), (2, .int wa)]
                          rw [eq_10, eq_9, eq_8]
                          exact lv_sub hl [0, 1, 2, 3, 4, 5, 6, 7, 8, 9, 10, 11] rfl
                    · exact lv_sub hl [0, 1, 2, 3, 4, 5, 6, 7, 8, 9, 10, 11] rfl
                · exact lv_sub hl [0, 1, 2, 3, 4, 5, 6, 7] rfl
              · have hl : lv_has ls 13 [(4, .int (nI (mC - 1 - j))), (3, .ref q40), (0, .ref (md 0)), (1, .int pe), (2, .int wa)] := by rw [kc_pre hlt_72] at hl; exact hl
                refine lv_aload_n hx hb dX3_suggest_77 rfl (lv_at hl 2 rfl) ?_
                refine va_get (D := D) (ci := 3) (v := .ref (md 4)) (C := RX3) (T := TX3) (N := 15) hx hb hts hinX3 hown hK.1 hP 0 rfl rfl 9 (by decide) hf19 (fun _ h9 => h9) rfl dX3_suggest_78 ?_
                refine lv_iload hx hb dX3_suggest_81 (lv_at hl 0 rfl) ?_
                refine kc_ald (i := (mC - 1 - j)) (n := 24) hx hb hK hP 4 0 rfl rfl (by omega) (by decide) dX3_suggest_83 ?_
                refine lv_if_ne (tgt := 110) hx hb dX3_suggest_84 (by decide) (fun c_84 => ?_) (fun c_84 => ?_)
                · refine lv_iinc (v := nI (mC - (j + 1)) - 1) (lv' := [(4, .int (nI (mC - (j + 1)) - 1)), (3, .ref q40), (0, .ref (md 0)), (1, .int pe), (2, .int wa)]) hx hb dX3_suggest_110 hl (k := 0) rfl (kc_dec hlt_72) (by decide) rfl (fun ls hl => ?_)
                  refine lv_goto (tgt := 72) hx hb dX3_suggest_113 (by decide) ?_
                  refine ih_72 _ _ _ hlt_72 ?_
                  have eqw_xf : mFirst ms mt kn mC (j + 1) = mFirst ms mt kn mC j := by simp only [mFirst, fo_s, if_pos c_9, if_neg c_19, if_pos c_29, if_neg c_84]
                  show va_P D vwCl (wMdX md cI 0 mK mc mD mr mw my mC mk ms mu mt mp mb me q40 8 (mFirst ms mt kn mC (j + 1))) _ ∧ va_D A (wMdX md cI 0 mK mc mD mr mw my mC mk ms mu mt mp mb me q40 8 (mFirst ms mt kn mC (j + 1))) ∧ va_S A s.heap _ _ ∧ lv_has _ 13 [(4, .int (nI (mC - (j + 1)) - 1)), (3, .ref q40), (0, .ref (md 0)), (1, .int pe), (2, .int wa)]
                  rw [eqw_xf]
                  exact ⟨hP, hD, hS, lv_sub hl [0, 1, 2, 3, 4] rfl⟩
                · refine lv_aload_n hx hb dX3_suggest_87 rfl (lv_at hl 2 rfl) ?_
                  refine va_get (D := D) (ci := 3) (v := .ref (md 6)) (C := RX3) (T := TX3) (N := 15) hx hb hts hinX3 hown hK.1 hP 0 rfl rfl 11 (by decide) hf25 (fun _ h9 => h9) rfl dX3_suggest_88 ?_
                  refine lv_iload hx hb dX3_suggest_91 (lv_at hl 0 rfl) ?_
                  refine kc_ald (i := (mC - 1 - j)) (n := 24) hx hb hK hP 6 0 rfl rfl (by omega) (by decide) dX3_suggest_93 ?_
                  refine lv_bipush (v := 9) hx hb dX3_suggest_94 (by decide) ?_
                  refine lv_icmp_ge (tgt := 110) hx hb dX3_suggest_96 (by decide) (fun c_96 => ?_) (fun c_96 => ?_)
                  · refine lv_iinc (v := nI (mC - (j + 1)) - 1) (lv' := [(4, .int (nI (mC - (j + 1)) - 1)), (3, .ref q40), (0, .ref (md 0)), (1, .int pe), (2, .int wa)]) hx hb dX3_suggest_110 hl (k := 0) rfl (kc_dec hlt_72) (by decide) rfl (fun ls hl => ?_)
                    refine lv_goto (tgt := 72) hx hb dX3_suggest_113 (by decide) ?_
                    refine ih_72 _ _ _ hlt_72 ?_
                    have eqw_xf : mFirst ms mt kn mC (j + 1) = mFirst ms mt kn mC j := by simp only [mFirst, fo_s, if_pos c_9, if_neg c_19, if_pos c_29, if_pos c_84, if_pos c_96]
                    show va_P D vwCl (wMdX md cI 0 mK mc mD mr mw my mC mk ms mu mt mp mb me q40 8 (mFirst ms mt kn mC (j + 1))) _ ∧ va_D A (wMdX md cI 0 mK mc mD mr mw my mC mk ms mu mt mp mb me q40 8 (mFirst ms mt kn mC (j + 1))) ∧ va_S A s.heap _ _ ∧ lv_has _ 13 [(4, .int (nI (mC - (j + 1)) - 1)), (3, .ref q40), (0, .ref (md 0)), (1, .int pe), (2, .int wa)]
                    rw [eqw_xf]
                    exact ⟨hP, hD, hS, lv_sub hl [0, 1, 2, 3, 4] rfl⟩
                  · refine lv_aload_n hx hb dX3_suggest_99 rfl (lv_at hl 1 rfl) ?_
                    refine lv_aload_n hx hb dX3_suggest_100 rfl (lv_at hl 2 rfl) ?_
                    refine va_get (D := D) (ci := 3) (v := .ref (md 3)) (C := RX3) (T := TX3) (N := 15) hx hb hts hinX3 hown hK.1 hP 0 rfl rfl 8 (by decide) hf16 (fun _ h9 => h9) rfl dX3_suggest_101 ?_
                    refine lv_iload hx hb dX3_suggest_104 (lv_at hl 0 rfl) ?_
                    refine kc_ald (i := (mC - 1 - j)) (n := 24) hx hb hK hP 3 0 rfl rfl (by omega) (by decide) dX3_suggest_106 ?_
                    refine kc_top (show mk (mC - 1 - j) = nI (kn (mC - 1 - j)) from (hkn (mC - 1 - j) (by omega)).1) ?_
                    refine lv_iload hx hb dX3_suggest_107 (lv_at hl 0 rfl) ?_
                    refine kc_ast (i := (kn (mC - 1 - j))) (n := 8) hx hb hK hP hD hS 10 0 rfl rfl ((hkn (mC - 1 - j) (by omega)).2) (by decide) dX3_suggest_109 (fun H locs hP hD hS => ?_)
                    have hP : va_P D vwCl (wMdX md cI 0 mK mc mD mr mw my mC mk ms mu mt mp mb me q40 8 (upd (mFirst ms mt kn mC j) (kn (mC - 1 - j)) (nI (mC - 1 - j)))) H := hP
                    have hD : va_D A (wMdX md cI 0 mK mc mD mr mw my mC mk ms mu mt mp mb me q40 8 (upd (mFirst ms mt kn mC j) (kn (mC - 1 - j)) (nI (mC - 1 - j)))) := hD
                    refine lv_iinc (v := nI (mC - (j + 1)) - 1) (lv' := [(4, .int (nI (mC - (j + 1)) - 1)), (3, .ref q40), (0, .ref (md 0)), (1, .int pe), (2, .int wa)]) hx hb dX3_suggest_110 hl (k := 0) rfl (kc_dec hlt_72) (by decide) rfl (fun ls hl => ?_)
                    refine lv_goto (tgt := 72) hx hb dX3_suggest_113 (by decide) ?_
                    refine ih_72 _ _ _ hlt_72 ?_
                    have eqw_xf : mFirst ms mt kn mC (j + 1) = upd (mFirst ms mt kn mC j) (kn (mC - 1 - j)) (nI (mC - 1 - j)) := by simp only [mFirst, fo_s, if_pos c_9, if_neg c_19, if_pos c_29, if_pos c_84, if_neg c_96]
                    show va_P D vwCl (wMdX md cI 0 mK mc mD mr mw my mC mk ms mu mt mp mb me q40 8 (mFirst ms mt kn mC (j + 1))) _ ∧ va_D A (wMdX md cI 0 mK mc mD mr mw my mC mk ms mu mt mp mb me q40 8 (mFirst ms mt kn mC (j + 1))) ∧ va_S A s.heap _ _ ∧ lv_has _ 13 [(4, .int (nI (mC - (j + 1)) - 1)), (3, .ref q40), (0, .ref (md 0)), (1, .int pe), (2, .int wa)]
                    rw [eqw_xf]
                    exact ⟨hP, hD, hS, lv_sub hl [0, 1, 2, 3, 4] rfl⟩
            · exact ⟨hP, hD, hS, lv_sub hl [0, 1, 2, 3, 4] rfl⟩
          · refine lv_aload_n hx hb dX3_suggest_53 rfl (lv_at hl 1 rfl) ?_
            refine lv_iload hx hb dX3_suggest_54 (lv_at hl 0 rfl) ?_
            refine lv_iconst (v := (-1)) hx hb dX3_suggest_56 (by decide) ?_
            refine kc_ast (i := j) (n := 8) hx hb hK hP hD hS 10 0 rfl rfl (by omega) (by decide) dX3_suggest_57 (fun H locs hP hD hS => ?_)
            have hP : va_P D vwCl (wMdX md cI 0 mK mc mD mr mw my mC mk ms mu mt mp mb me q40 8 (upd (mFirst0 j) j (-1))) H := hP
            have hD : va_D A (wMdX md cI 0 mK mc mD mr mw my mC mk ms mu mt mp mb me q40 8 (upd (mFirst0 j) j (-1))) := hD
            refine lv_iinc (v := nI (j + 1)) (lv' := [(4, .int (nI (j + 1))), (3, .ref q40), (0, .ref (md 0)), (1, .int pe), (2, .int wa)]) hx hb dX3_suggest_58 hl (k := 0) rfl (kc_inc j) (by decide) rfl (fun ls hl => ?_)
            refine lv_goto (tgt := 46) hx hb dX3_suggest_61 (by decide) ?_
            refine ih_46 _ _ _ hlt_46 ?_
            have eqw_xf : mFirst0 (j + 1) = upd (mFirst0 j) j (-1) := rfl
            show va_P D vwCl (wMdX md cI 0 mK mc mD mr mw my mC mk ms mu mt mp mb me q40 8 (mFirst0 (j + 1))) _ ∧ va_D A (wMdX md cI 0 mK mc mD mr mw my mC mk ms mu mt mp mb me q40 8 (mFirst0 (j + 1))) ∧ va_S A s.heap _ _ ∧ lv_has _ 13 [(4, .int (nI (j + 1))), (3, .ref q40), (0, .ref (md 0)), (1, .int pe), (2, .int wa)]
            rw [eqw_xf]
            exact ⟨hP, hD, hS, lv_sub hl [0, 1, 2, 3, 4] rfl⟩
        · exact ⟨hP, hD, hS, lv_sub hl [0, 1, 2, 3, 4] rfl⟩
      · exact absurd (kc_nlt2 (of_decide_eq_true hs).2) c_29
  · exact absurd hp c_9
set_option maxHeartbeats 4000000 in
set_option maxRecDepth 100000 in
theorem c_X3_exposure_z (l : Launch) (D : va_G) (md : Nat → Nat) (cI : ClassId) (th : Int32) (mK : Nat) (mc : Nat → Int32) (mD : Nat) (mr : Nat → Int32) (mw : Int32) (my : Int32) (mC : Nat) (mk : Nat → Int32) (ms : Nat → Int32) (mu : Nat → Int32) (mt : Nat → Int32) (mp : Nat → Int32) (mb : Nat → Int32) (me : Nat → Int32) (tn : Nat → Nat) (kn : Nat → Nat) (sz : Nat) (hK8 : mK ≤ 8) (hD8 : mD ≤ 8) (hC24 : mC ≤ 24) (hkn : okKe mC mk kn) (hok : okLe ms mt tn) (hDe : mD = 0) : Met l yX3_exposure wsX3_exposure ({ frames := 5, cells := 0, slots := 0, locals := 115 } : Room) (wrP [.ref (md 0)] D sz (wMd md cI th mK mc mD mr mw my mC mk ms mu mt mp mb me) [(cI, .int)]) (va_Qd (fun rZ (_ : Unit) => rZ = FP.dconst0) (wrB D sz (wMd md cI th mK mc mD mr mw my mC mk ms mu mt mp mb me) (wMd md cI 0 mK mc mD mr mw my mC mk ms mu mt mp mb me)) (va_A (wMd md cI th mK mc mD mr mw my mC mk ms mu mt mp mb me) sz)) 0 0 (va_A (wMd md cI th mK mc mD mr mw my mC mk ms mu mt mp mb me) sz) := by
  refine Met.ofW (cc := cX3_exposure) (maxL := 3) (ret := (some .double)) (by decide) rfl ?_
  intro p e s m args below meth c s₁ B hml hv
  obtain ⟨rfl, hsz, hP, hD0, hK⟩ := hv
  have hx := B.exec
  have hb := B.bytes
  have hr := B.returns
  have hts := atoms_spec (ws := wsX3_exposure) B.pre
  have hown : s.vm.findClass RX3 = some m.cls := findClass_of_methodNamed B.named
  have hlocks := B.notSynchronized
  subst hsz
  have hD := hD0.self (sz := s.heap.size)
  generalize hAe : va_A (wMd md cI th mK mc mD mr mw my mC mk ms mu mt mp mb me) s.heap.size = A at hD ⊢
  have hA : ∀ q : Nat, s.heap.size ≤ q → A q := fun q h => by rw [← hAe]; exact Or.inr h
  have hinX3 : ∀ w ∈ u_ws RX3 TX3 15, w ∈ wsX3_exposure := by decide +kernel
  have hf37 := hts (.fieldLink RX3 37 "KeyCabinetModel" "thrown" "I") (by decide +kernel)
  have hf44 := hts (.fieldLink RX3 44 "KeyCabinetModel" "doors" "I") (by decide +kernel)
  have hl := lv_entry ([.ref (md 0)]) (n := 3) (Nat.le_of_ble_eq_true rfl)
  rw [lg_entry_eq]
  generalize (lg_sl ([.ref (md 0)]) ++ List.replicate (3 - (lg_sl ([.ref (md 0)])).length) Slot.unset).toArray = ls at hl ⊢
  have hl : lv_has ls 3 [(0, .ref (md 0))] := hl
  refine W.genH (fun H locs eH eL => ?_)
  have hS : va_S A s.heap H locs := by rw [eH, eL]; exact va_S.rf
  have hP : va_P D vwCl (wMd md cI th mK mc mD mr mw my mC mk ms mu mt mp mb me) H := by rw [eH]; exact hP
  clear eH eL
  refine lv_aload_n hx hb dX3_exposure_0 rfl (lv_at hl 0 rfl) ?_
  refine lv_iconst (v := 0) hx hb dX3_exposure_1 (by decide) ?_
  refine va_put (D := D) (ci := 3) (v := .int 0) (ty := .int) (C := RX3) (T := TX3) (N := 15) hx hb hts hinX3 tyX3 tyX3_ok nmX3 hown hK.1 hP hD hS 0 rfl rfl 0 (by decide) hf37 (fun _ h9 => h9) rfl (by decide +kernel) rfl rfl (Nat.le_of_ble_eq_true rfl) dX3_exposure_2 (fun H locs hP hD hS => ?_)
  have hP : va_P D vwCl (wMd md cI 0 mK mc mD mr mw my mC mk ms mu mt mp mb me) H := hP
  have hD : va_D A (wMd md cI 0 mK mc mD mr mw my mC mk ms mu mt mp mb me) := hD
  refine lv_aload_n hx hb dX3_exposure_5 rfl (lv_at hl 0 rfl) ?_
  refine kc_rVi (As := []) (rest := []) ⟨hx, hb, hml, hown, hts⟩ (c_X3_riskyDoors l D md cI 0 mK mc mD mr mw my mC mk ms mu mt mp mb me kn hK8 hD8 hC24 hkn) (cwV 0 hts gX3_exposure_X3_riskyDoors rfl rfl rfl (by decide +kernel) ⟨Nat.le_of_ble_eq_true rfl, Nat.le_of_ble_eq_true rfl⟩) hK hP [0, 1, 2, 3, 4, 5, 6, 7, 8, 9] [0] rfl rfl 0 rfl rfl rfl rfl hl.1 rfl (Nat.le_of_ble_eq_true rfl) dX3_exposure_6 ⟨Nat.le_of_ble_eq_true rfl, Nat.le_of_ble_eq_true rfl⟩ ?_
  refine lv_istore_n (lv' := [(1, .int (mRisk mr mc ms mK mD kn mC)), (0, .ref (md 0))]) hx hb dX3_exposure_9 rfl hl (by decide) rfl (fun ls hl => ?_)
  refine lv_iconst (v := 0) hx hb dX3_exposure_10 (by decide) ?_
  refine lv_istore_n (lv' := [(2, .int 0), (1, .int (mRisk mr mc ms mK mD kn mC)), (0, .ref (md 0))]) hx hb dX3_exposure_11 rfl hl (by decide) rfl (fun ls hl => ?_)
  refine kc_forW (pc := 12) (N := 8) (P := fun j ls => lv_has ls 3 [(2, .int (nI j)), (1, .int (mExp mr mc mk ms mu mt mp mK mD mC kn tn j)), (0, .ref (md 0))]) (fun j ls hj_12 hp ih_12 => ?_) ls ?_
  · have hl := hp
    refine lv_iload_n hx hb dX3_exposure_12 rfl (lv_at hl 0 rfl) ?_
    refine lv_bipush (v := 8) hx hb dX3_exposure_13 (by decide) ?_
    refine kc_tst (j := j) (N := 8) (tgt := 32) hx hb dX3_exposure_15 (by decide) hj_12 (by omega) (fun hN => ?_) (fun hlt_12 => ?_)
    · subst hN
      refine lv_aload_n hx hb dX3_exposure_32 rfl (lv_at hl 2 rfl) ?_
      refine va_get (D := D) (ci := 3) (v := .int (nI mD)) (C := RX3) (T := TX3) (N := 15) hx hb hts hinX3 hown hK.1 hP 0 rfl rfl 3 (by decide) hf44 (fun _ h9 => h9) rfl dX3_exposure_33 ?_
      refine lv_if_ne (tgt := 43) hx hb dX3_exposure_36 (by decide) (fun c_36 => ?_) (fun c_36 => ?_)
      · exact absurd (by rw [hDe]; rfl) c_36
      · refine lv_dconst0 hx hb dX3_exposure_39 ?_
        refine lv_goto (tgt := 54) hx hb dX3_exposure_40 (by decide) ?_
        exact W.dret (v := FP.dconst0) hx hb hr (fun tZ htZ hWZ => ⟨⟨_, (), rfl, rfl, by rw [htZ]; exact hP, by rw [hAe]; exact hD⟩, hS.F htZ⟩) hS.2.2 dX3_exposure_54
    · refine lv_iload_n hx hb dX3_exposure_18 rfl (lv_at hl 1 rfl) ?_
      refine lv_aload_n hx hb dX3_exposure_19 rfl (lv_at hl 2 rfl) ?_
      refine lv_iload_n hx hb dX3_exposure_20 rfl (lv_at hl 0 rfl) ?_
      refine kc_rVi (As := [.int (nI j)]) (rest := [.int (mExp mr mc mk ms mu mt mp mK mD mC kn tn j)]) ⟨hx, hb, hml, hown, hts⟩ (c_X3_reachOf l D md cI 0 mK mc mD mr mw my mC mk ms mu mt mp mb me kn tn (nI j) hK8 hD8 hC24 hkn hok) (cwV 1 hts gX3_exposure_X3_reachOf rfl rfl rfl (by decide +kernel) ⟨Nat.le_of_ble_eq_true rfl, Nat.le_of_ble_eq_true rfl⟩) hK hP [0, 1, 2, 3, 4, 5, 6, 7, 8, 9] [0] rfl rfl 0 rfl rfl rfl rfl hl.1 rfl (Nat.le_of_ble_eq_true rfl) dX3_exposure_21 ⟨Nat.le_of_ble_eq_true rfl, Nat.le_of_ble_eq_true rfl⟩ ?_
      refine lv_ior hx hb dX3_exposure_24 ?_
      refine lv_istore_n (lv' := [(1, .int ((mExp mr mc mk ms mu mt mp mK mD mC kn tn j) ||| (mReach mr mc mk ms mu mt mp mK mD kn tn (nI j) mC))), (2, .int (nI j)), (0, .ref (md 0))]) hx hb dX3_exposure_25 rfl hl (by decide) rfl (fun ls hl => ?_)
      refine lv_iinc (v := nI (j + 1)) (lv' := [(2, .int (nI (j + 1))), (1, .int ((mExp mr mc mk ms mu mt mp mK mD mC kn tn j) ||| (mReach mr mc mk ms mu mt mp mK mD kn tn (nI j) mC))), (0, .ref (md 0))]) hx hb dX3_exposure_26 hl (k := 1) rfl (kc_inc j) (by decide) rfl (fun ls hl => ?_)
      refine lv_goto (tgt := 12) hx hb dX3_exposure_29 (by decide) ?_
      refine ih_12 _ hlt_12 ?_
      have eq_1 : mExp mr mc mk ms mu mt mp mK mD mC kn tn (j + 1) = (mExp mr mc mk ms mu mt mp mK mD mC kn tn j) ||| (mReach mr mc mk ms mu mt mp mK mD kn tn (nI j) mC) := rfl
      show lv_has _ 3 [(2, .int (nI (j + 1))), (1, .int (mExp mr mc mk ms mu mt mp mK mD mC kn tn (j + 1))), (0, .ref (md 0))]
      rw [eq_1]
      exact lv_sub hl [0, 1, 2] rfl
  · exact lv_sub hl [0, 1, 2] rfl
set_option maxHeartbeats 4000000 in
set_option maxRecDepth 100000 in
theorem c_X3_exposure_ok (l : Launch) (D : va_G) (md : Nat → Nat) (cI : ClassId) (th : Int32) (mK : Nat) (mc : Nat → Int32) (mD : Nat) (mr : Nat → Int32) (mw : Int32) (my : Int32) (mC : Nat) (mk : Nat → Int32) (ms : Nat → Int32) (mu : Nat → Int32) (mt : Nat → Int32) (mp : Nat → Int32) (mb : Nat → Int32) (me : Nat → Int32) (tn : Nat → Nat) (kn : Nat → Nat) (sz : Nat) (hK8 : mK ≤ 8) (hD8 : mD ≤ 8) (hC24 : mC ≤ 24) (hkn : okKe mC mk kn) (hok : okLe ms mt tn) (hDp : 0 < mD) : Met l yX3_exposure wsX3_exposure ({ frames := 5, cells := 0, slots := 0, locals := 115 } : Room) (wrP [.ref (md 0)] D sz (wMd md cI th mK mc mD mr mw my mC mk ms mu mt mp mb me) [(cI, .int)]) (va_Qd (fun rZ (_ : Unit) => rZ = FP.ddiv (FP.i2d (jPop (mExp mr mc mk ms mu mt mp mK mD mC kn tn 8))) (FP.i2d (nI mD))) (wrB D sz (wMd md cI th mK mc mD mr mw my mC mk ms mu mt mp mb me) (wMd md cI 0 mK mc mD mr mw my mC mk ms mu mt mp mb me)) (va_A (wMd md cI th mK mc mD mr mw my mC mk ms mu mt mp mb me) sz)) 0 0 (va_A (wMd md cI th mK mc mD mr mw my mC mk ms mu mt mp mb me) sz) := by
  refine Met.ofW (cc := cX3_exposure) (maxL := 3) (ret := (some .double)) (by decide) rfl ?_
  intro p e s m args below meth c s₁ B hml hv
  obtain ⟨rfl, hsz, hP, hD0, hK⟩ := hv
  have hx := B.exec
  have hb := B.bytes
  have hr := B.returns
  have hts := atoms_spec (ws := wsX3_exposure) B.pre
  have hown : s.vm.findClass RX3 = some m.cls := findClass_of_methodNamed B.named
  have hlocks := B.notSynchronized
  subst hsz
  have hD := hD0.self (sz := s.heap.size)
  generalize hAe : va_A (wMd md cI th mK mc mD mr mw my mC mk ms mu mt mp mb me) s.heap.size = A at hD ⊢
  have hA : ∀ q : Nat, s.heap.size ≤ q → A q := fun q h => by rw [← hAe]; exact Or.inr h
  have hinX3 : ∀ w ∈ u_ws RX3 TX3 15, w ∈ wsX3_exposure := by decide +kernel
  have hf37 := hts (.fieldLink RX3 37 "KeyCabinetModel" "thrown" "I") (by decide +kernel)
  have hf44 := hts (.fieldLink RX3 44 "KeyCabinetModel" "doors" "I") (by decide +kernel)
  have hl := lv_entry ([.ref (md 0)]) (n := 3) (Nat.le_of_ble_eq_true rfl)
  rw [lg_entry_eq]
  generalize (lg_sl ([.ref (md 0)]) ++ List.replicate (3 - (lg_sl ([.ref (md 0)])).length) Slot.unset).toArray = ls at hl ⊢
  have hl : lv_has ls 3 [(0, .ref (md 0))] := hl
  refine W.genH (fun H locs eH eL => ?_)
  have hS : va_S A s.heap H locs := by rw [eH, eL]; exact va_S.rf
  have hP : va_P D vwCl (wMd md cI th mK mc mD mr mw my mC mk ms mu mt mp mb me) H := by rw [eH]; exact hP
  clear eH eL
  refine lv_aload_n hx hb dX3_exposure_0 rfl (lv_at hl 0 rfl) ?_
  refine lv_iconst (v := 0) hx hb dX3_exposure_1 (by decide) ?_
  refine va_put (D := D) (ci := 3) (v := .int 0) (ty := .int) (C := RX3) (T := TX3) (N := 15) hx hb hts hinX3 tyX3 tyX3_ok nmX3 hown hK.1 hP hD hS 0 rfl rfl 0 (by decide) hf37 (fun _ h9 => h9) rfl (by decide +kernel) rfl rfl (Nat.le_of_ble_eq_true rfl) dX3_exposure_2 (fun H locs hP hD hS => ?_)
  have hP : va_P D vwCl (wMd md cI 0 mK mc mD mr mw my mC mk ms mu mt mp mb me) H := hP
  have hD : va_D A (wMd md cI 0 mK mc mD mr mw my mC mk ms mu mt mp mb me) := hD
  refine lv_aload_n hx hb dX3_exposure_5 rfl (lv_at hl 0 rfl) ?_
  refine kc_rVi (As := []) (rest := []) ⟨hx, hb, hml, hown, hts⟩ (c_X3_riskyDoors l D md cI 0 mK mc mD mr mw my mC mk ms mu mt mp mb me kn hK8 hD8 hC24 hkn) (cwV 0 hts gX3_exposure_X3_riskyDoors rfl rfl rfl (by decide +kernel) ⟨Nat.le_of_ble_eq_true rfl, Nat.le_of_ble_eq_true rfl⟩) hK hP [0, 1, 2, 3, 4, 5, 6, 7, 8, 9] [0] rfl rfl 0 rfl rfl rfl rfl hl.1 rfl (Nat.le_of_ble_eq_true rfl) dX3_exposure_6 ⟨Nat.le_of_ble_eq_true rfl, Nat.le_of_ble_eq_true rfl⟩ ?_
  refine lv_istore_n (lv' := [(1, .int (mRisk mr mc ms mK mD kn mC)), (0, .ref (md 0))]) hx hb dX3_exposure_9 rfl hl (by decide) rfl (fun ls hl => ?_)
  refine lv_iconst (v := 0) hx hb dX3_exposure_10 (by decide) ?_
  refine lv_istore_n (lv' := [(2, .int 0), (1, .int (mRisk mr mc ms mK mD kn mC)), (0, .ref (md 0))]) hx hb dX3_exposure_11 rfl hl (by decide) rfl (fun ls hl => ?_)
  refine kc_forW (pc := 12) (N := 8) (P := fun j ls => lv_has ls 3 [(2, .int (nI j)), (1, .int (mExp mr mc mk ms mu mt mp mK mD mC kn tn j)), (0, .ref (md 0))]) (fun j ls hj_12 hp ih_12 => ?_) ls ?_
  · have hl := hp
    refine lv_iload_n hx hb dX3_exposure_12 rfl (lv_at hl 0 rfl) ?_
    refine lv_bipush (v := 8) hx hb dX3_exposure_13 (by decide) ?_
    refine kc_tst (j := j) (N := 8) (tgt := 32) hx hb dX3_exposure_15 (by decide) hj_12 (by omega) (fun hN => ?_) (fun hlt_12 => ?_)
    · subst hN
      refine lv_aload_n hx hb dX3_exposure_32 rfl (lv_at hl 2 rfl) ?_
      refine va_get (D := D) (ci := 3) (v := .int (nI mD)) (C := RX3) (T := TX3) (N := 15) hx hb hts hinX3 hown hK.1 hP 0 rfl rfl 3 (by decide) hf44 (fun _ h9 => h9) rfl dX3_exposure_33 ?_
      refine lv_if_ne (tgt := 43) hx hb dX3_exposure_36 (by decide) (fun c_36 => ?_) (fun c_36 => ?_)
      · refine lv_iload_n hx hb dX3_exposure_43 rfl (lv_at hl 1 rfl) ?_
        refine kc_rSi (As := [.int (mExp mr mc mk ms mu mt mp mK mD mC kn tn 8)]) (rest := []) ⟨hx, hb, hml, hown, hts⟩ (c_J6_bitCount_0f7a4 l (mExp mr mc mk ms mu mt mp mK mD mC kn tn 8) ) (va_cwS 1 hts gX3_exposure_J6_bitCount_0f7a4 rfl rfl rfl (by decide +kernel) ⟨Nat.le_of_ble_eq_true rfl, Nat.le_of_ble_eq_true rfl⟩) rfl hl.1 rfl (Nat.le_of_ble_eq_true rfl) dX3_exposure_44 ⟨Nat.le_of_ble_eq_true rfl, Nat.le_of_ble_eq_true rfl⟩ ?_
        refine lv_i2d hx hb dX3_exposure_47 ?_
        refine lv_aload_n hx hb dX3_exposure_48 rfl (lv_at hl 2 rfl) ?_
        refine va_get (D := D) (ci := 3) (v := .int (nI mD)) (C := RX3) (T := TX3) (N := 15) hx hb hts hinX3 hown hK.1 hP 0 rfl rfl 3 (by decide) hf44 (fun _ h9 => h9) rfl dX3_exposure_49 ?_
        refine lv_i2d hx hb dX3_exposure_52 ?_
        refine lv_ddiv hx hb dX3_exposure_53 (kc_ddn _ hDp hD8) ?_
        exact W.dret (v := FP.ddiv (FP.i2d (jPop (mExp mr mc mk ms mu mt mp mK mD mC kn tn 8))) (FP.i2d (nI mD))) hx hb hr (fun tZ htZ hWZ => ⟨⟨_, (), rfl, rfl, by rw [htZ]; exact hP, by rw [hAe]; exact hD⟩, hS.F htZ⟩) hS.2.2 dX3_exposure_54
      · exact absurd c_36 (nI_ne0 hDp (by omega))
    · refine lv_iload_n hx hb dX3_exposure_18 rfl (lv_at hl 1 rfl) ?_
      refine lv_aload_n hx hb dX3_exposure_19 rfl (lv_at hl 2 rfl) ?_
      refine lv_iload_n hx hb dX3_exposure_20 rfl (lv_at hl 0 rfl) ?_
      refine kc_rVi (As := [.int (nI j)]) (rest := [.int (mExp mr mc mk ms mu mt mp mK mD mC kn tn j)]) ⟨hx, hb, hml, hown, hts⟩ (c_X3_reachOf l D md cI 0 mK mc mD mr mw my mC mk ms mu mt mp mb me kn tn (nI j) hK8 hD8 hC24 hkn hok) (cwV 1 hts gX3_exposure_X3_reachOf rfl rfl rfl (by decide +kernel) ⟨Nat.le_of_ble_eq_true rfl, Nat.le_of_ble_eq_true rfl⟩) hK hP [0, 1, 2, 3, 4, 5, 6, 7, 8, 9] [0] rfl rfl 0 rfl rfl rfl rfl hl.1 rfl (Nat.le_of_ble_eq_true rfl) dX3_exposure_21 ⟨Nat.le_of_ble_eq_true rfl, Nat.le_of_ble_eq_true rfl⟩ ?_
      refine lv_ior hx hb dX3_exposure_24 ?_
      refine lv_istore_n (lv' := [(1, .int ((mExp mr mc mk ms mu mt mp mK mD mC kn tn j) ||| (mReach mr mc mk ms mu mt mp mK mD kn tn (nI j) mC))), (2, .int (nI j)), (0, .ref (md 0))]) hx hb dX3_exposure_25 rfl hl (by decide) rfl (fun ls hl => ?_)
      refine lv_iinc (v := nI (j + 1)) (lv' := [(2, .int (nI (j + 1))), (1, .int ((mExp mr mc mk ms mu mt mp mK mD mC kn tn j) ||| (mReach mr mc mk ms mu mt mp mK mD kn tn (nI j) mC))), (0, .ref (md 0))]) hx hb dX3_exposure_26 hl (k := 1) rfl (kc_inc j) (by decide) rfl (fun ls hl => ?_)
      refine lv_goto (tgt := 12) hx hb dX3_exposure_29 (by decide) ?_
      refine ih_12 _ hlt_12 ?_
      have eq_1 : mExp mr mc mk ms mu mt mp mK mD mC kn tn (j + 1) = (mExp mr mc mk ms mu mt mp mK mD mC kn tn j) ||| (mReach mr mc mk ms mu mt mp mK mD kn tn (nI j) mC) := rfl
      show lv_has _ 3 [(2, .int (nI (j + 1))), (1, .int (mExp mr mc mk ms mu mt mp mK mD mC kn tn (j + 1))), (0, .ref (md 0))]
      rw [eq_1]
      exact lv_sub hl [0, 1, 2] rfl
  · exact lv_sub hl [0, 1, 2] rfl
set_option maxHeartbeats 4000000 in
set_option maxRecDepth 100000 in
theorem c_X3_digest_ok (l : Launch) (D : va_G) (md : Nat → Nat) (cI : ClassId) (th : Int32) (mK : Nat) (mc : Nat → Int32) (mD : Nat) (mr : Nat → Int32) (mw : Int32) (my : Int32) (mC : Nat) (mk : Nat → Int32) (ms : Nat → Int32) (mu : Nat → Int32) (mt : Nat → Int32) (mp : Nat → Int32) (mb : Nat → Int32) (me : Nat → Int32) (tn : Nat → Nat) (sz : Nat) (hK8 : mK ≤ 8) (hD8 : mD ≤ 8) (hC24 : mC ≤ 24) (hok : okLe ms mt tn) : Met l yX3_digest wsX3_digest ({ frames := 2, cells := 0, slots := 0, locals := 45 } : Room) (wrP [.ref (md 0)] D sz (wMd md cI th mK mc mD mr mw my mC mk ms mu mt mp mb me) [(cI, .int)]) (va_Ql (fun rZ (_ : Unit) => rZ = mDigC mk ms mu mt mp tn (mix (mix (mix (mDigD mr mc mK (mix (mDigK mc (5363 + Int32.toInt64 (nI mK)) mK) (nI mD)) mD) mw) my) (nI mC)) mC) (wrB D sz (wMd md cI th mK mc mD mr mw my mC mk ms mu mt mp mb me) (wMd md cI 0 mK mc mD mr mw my mC mk ms mu mt mp mb me)) (va_A (wMd md cI th mK mc mD mr mw my mC mk ms mu mt mp mb me) sz)) 0 0 (va_A (wMd md cI th mK mc mD mr mw my mC mk ms mu mt mp mb me) sz) := by
  refine Met.ofW (cc := cX3_digest) (maxL := 5) (ret := (some .long)) (by decide) rfl ?_
  intro p e s m args below meth c s₁ B hml hv
  obtain ⟨rfl, hsz, hP, hD0, hK⟩ := hv
  have hx := B.exec
  have hb := B.bytes
  have hr := B.returns
  have hts := atoms_spec (ws := wsX3_digest) B.pre
  have hown : s.vm.findClass RX3 = some m.cls := findClass_of_methodNamed B.named
  have hlocks := B.notSynchronized
  subst hsz
  have hD := hD0.self (sz := s.heap.size)
  generalize hAe : va_A (wMd md cI th mK mc mD mr mw my mC mk ms mu mt mp mb me) s.heap.size = A at hD ⊢
  have hA : ∀ q : Nat, s.heap.size ≤ q → A q := fun q h => by rw [← hAe]; exact Or.inr h
  have hinX3 : ∀ w ∈ u_ws RX3 TX3 15, w ∈ wsX3_digest := by decide +kernel
  have hf37 := hts (.fieldLink RX3 37 "KeyCabinetModel" "thrown" "I") (by decide +kernel)
  have hf41 := hts (.fieldLink RX3 41 "KeyCabinetModel" "keys" "I") (by decide +kernel)
  have hf44 := hts (.fieldLink RX3 44 "KeyCabinetModel" "doors" "I") (by decide +kernel)
  have hf72 := hts (.fieldLink RX3 72 "KeyCabinetModel" "work" "I") (by decide +kernel)
  have hf100 := hts (.fieldLink RX3 100 "KeyCabinetModel" "day" "I") (by decide +kernel)
  have hf47 := hts (.fieldLink RX3 47 "KeyCabinetModel" "copies" "I") (by decide +kernel)
  have hf13 := hts (.fieldLink RX3 13 "KeyCabinetModel" "rights" "[I") (by decide +kernel)
  have hf9 := hts (.fieldLink RX3 9 "KeyCabinetModel" "codes" "[I") (by decide +kernel)
  have hl := lv_entry ([.ref (md 0)]) (n := 5) (Nat.le_of_ble_eq_true rfl)
  rw [lg_entry_eq]
  generalize (lg_sl ([.ref (md 0)]) ++ List.replicate (5 - (lg_sl ([.ref (md 0)])).length) Slot.unset).toArray = ls at hl ⊢
  have hl : lv_has ls 5 [(0, .ref (md 0))] := hl
  refine W.genH (fun H locs eH eL => ?_)
  have hS : va_S A s.heap H locs := by rw [eH, eL]; exact va_S.rf
  have hP : va_P D vwCl (wMd md cI th mK mc mD mr mw my mC mk ms mu mt mp mb me) H := by rw [eH]; exact hP
  clear eH eL
  refine lv_aload_n hx hb dX3_digest_0 rfl (lv_at hl 0 rfl) ?_
  refine lv_iconst (v := 0) hx hb dX3_digest_1 (by decide) ?_
  refine va_put (D := D) (ci := 3) (v := .int 0) (ty := .int) (C := RX3) (T := TX3) (N := 15) hx hb hts hinX3 tyX3 tyX3_ok nmX3 hown hK.1 hP hD hS 0 rfl rfl 0 (by decide) hf37 (fun _ h9 => h9) rfl (by decide +kernel) rfl rfl (Nat.le_of_ble_eq_true rfl) dX3_digest_2 (fun H locs hP hD hS => ?_)
  have hP : va_P D vwCl (wMd md cI 0 mK mc mD mr mw my mC mk ms mu mt mp mb me) H := hP
  have hD : va_D A (wMd md cI 0 mK mc mD mr mw my mC mk ms mu mt mp mb me) := hD
  refine lv_ldc2 (v := 5363) hx hb hown (hts (.constantLong RX3 123 (5363)) (by decide +kernel)) dX3_digest_5 ?_
  refine lv_aload_n hx hb dX3_digest_8 rfl (lv_at hl 0 rfl) ?_
  refine va_get (D := D) (ci := 3) (v := .int (nI mK)) (C := RX3) (T := TX3) (N := 15) hx hb hts hinX3 hown hK.1 hP 0 rfl rfl 1 (by decide) hf41 (fun _ h9 => h9) rfl dX3_digest_9 ?_
  refine lv_i2l (v := Int32.toInt64 (nI mK)) hx hb dX3_digest_12 rfl ?_
  refine lv_ladd hx hb dX3_digest_13 ?_
  refine lv_lstore_n (lv' := [(1, .long (5363 + (Int32.toInt64 (nI mK)))), (0, .ref (md 0))]) hx hb dX3_digest_14 rfl hl (by decide) rfl (fun ls hl => ?_)
  refine lv_iconst (v := 0) hx hb dX3_digest_15 (by decide) ?_
  refine lv_istore_n (lv' := [(3, .int 0), (1, .long (5363 + (Int32.toInt64 (nI mK)))), (0, .ref (md 0))]) hx hb dX3_digest_16 rfl hl (by decide) rfl (fun ls hl => ?_)
  refine kc_forW (pc := 17) (N := mK) (P := fun j ls => lv_has ls 5 [(3, .int (nI j)), (1, .long (mDigK mc (5363 + Int32.toInt64 (nI mK)) j)), (0, .ref (md 0))]) (fun j ls hj_17 hp ih_17 => ?_) ls ?_
  · have hl := hp
    refine lv_iload_n hx hb dX3_digest_17 rfl (lv_at hl 0 rfl) ?_
    refine lv_aload_n hx hb dX3_digest_18 rfl (lv_at hl 2 rfl) ?_
    refine va_get (D := D) (ci := 3) (v := .int (nI mK)) (C := RX3) (T := TX3) (N := 15) hx hb hts hinX3 hown hK.1 hP 0 rfl rfl 1 (by decide) hf41 (fun _ h9 => h9) rfl dX3_digest_19 ?_
    refine kc_tst (j := j) (N := mK) (tgt := 45) hx hb dX3_digest_22 (by decide) hj_17 (by omega) (fun hN => ?_) (fun hlt_17 => ?_)
    · subst hN
      refine lv_lload_n hx hb dX3_digest_45 rfl (lv_at hl 1 rfl) ?_
      refine lv_ldc2 (v := 31) hx hb hown (hts (.constantLong RX3 125 (31)) (by decide +kernel)) dX3_digest_46 ?_
      refine lv_lmul hx hb dX3_digest_49 ?_
      refine lv_aload_n hx hb dX3_digest_50 rfl (lv_at hl 2 rfl) ?_
      refine va_get (D := D) (ci := 3) (v := .int (nI mD)) (C := RX3) (T := TX3) (N := 15) hx hb hts hinX3 hown hK.1 hP 0 rfl rfl 3 (by decide) hf44 (fun _ h9 => h9) rfl dX3_digest_51 ?_
      refine lv_i2l (v := Int32.toInt64 (nI mD)) hx hb dX3_digest_54 rfl ?_
      refine lv_ladd hx hb dX3_digest_55 ?_
      refine lv_lstore_n (lv' := [(1, .long (((mDigK mc (5363 + Int32.toInt64 (nI mK)) mK) * 31) + (Int32.toInt64 (nI mD)))), (3, .int (nI mK)), (0, .ref (md 0))]) hx hb dX3_digest_56 rfl hl (by decide) rfl (fun ls hl => ?_)
      refine lv_iconst (v := 0) hx hb dX3_digest_57 (by decide) ?_
      refine lv_istore_n (lv' := [(3, .int 0), (1, .long (((mDigK mc (5363 + Int32.toInt64 (nI mK)) mK) * 31) + (Int32.toInt64 (nI mD)))), (0, .ref (md 0))]) hx hb dX3_digest_58 rfl hl (by decide) rfl (fun ls hl => ?_)
      refine kc_forW (pc := 59) (N := mD) (P := fun j ls => lv_has ls 5 [(3, .int (nI j)), (1, .long (mDigD mr mc mK (mix (mDigK mc (5363 + Int32.toInt64 (nI mK)) mK) (nI mD)) j)), (0, .ref (md 0))]) (fun j ls hj_59 hp ih_59 => ?_) ls ?_
      · have hl := hp
        refine lv_iload_n hx hb dX3_digest_59 rfl (lv_at hl 0 rfl) ?_
        refine lv_aload_n hx hb dX3_digest_60 rfl (lv_at hl 2 rfl) ?_
        refine va_get (D := D) (ci := 3) (v := .int (nI mD)) (C := RX3) (T := TX3) (N := 15) hx hb hts hinX3 hown hK.1 hP 0 rfl rfl 3 (by decide) hf44 (fun _ h9 => h9) rfl dX3_digest_61 ?_
        refine kc_tst (j := j) (N := mD) (tgt := 117) hx hb dX3_digest_64 (by decide) hj_59 (by omega) (fun hN => ?_) (fun hlt_59 => ?_)
        · subst hN
          refine lv_lload_n hx hb dX3_digest_117 rfl (lv_at hl 1 rfl) ?_
          refine lv_ldc2 (v := 31) hx hb hown (hts (.constantLong RX3 125 (31)) (by decide +kernel)) dX3_digest_118 ?_
          refine lv_lmul hx hb dX3_digest_121 ?_
          refine lv_aload_n hx hb dX3_digest_122 rfl (lv_at hl 2 rfl) ?_
          refine va_get (D := D) (ci := 3) (v := .int mw) (C := RX3) (T := TX3) (N := 15) hx hb hts hinX3 hown hK.1 hP 0 rfl rfl 5 (by decide) hf72 (fun _ h9 => h9) rfl dX3_digest_123 ?_
          refine lv_i2l (v := Int32.toInt64 mw) hx hb dX3_digest_126 rfl ?_
          refine lv_ladd hx hb dX3_digest_127 ?_
          refine lv_ldc2 (v := 31) hx hb hown (hts (.constantLong RX3 125 (31)) (by decide +kernel)) dX3_digest_128 ?_
          refine lv_lmul hx hb dX3_digest_131 ?_
          refine lv_aload_n hx hb dX3_digest_132 rfl (lv_at hl 2 rfl) ?_
          refine va_get (D := D) (ci := 3) (v := .int my) (C := RX3) (T := TX3) (N := 15) hx hb hts hinX3 hown hK.1 hP 0 rfl rfl 6 (by decide) hf100 (fun _ h9 => h9) rfl dX3_digest_133 ?_
          refine lv_i2l (v := Int32.toInt64 my) hx hb dX3_digest_136 rfl ?_
          refine lv_ladd hx hb dX3_digest_137 ?_
          refine lv_ldc2 (v := 31) hx hb hown (hts (.constantLong RX3 125 (31)) (by decide +kernel)) dX3_digest_138 ?_
          refine lv_lmul hx hb dX3_digest_141 ?_
          refine lv_aload_n hx hb dX3_digest_142 rfl (lv_at hl 2 rfl) ?_
          refine va_get (D := D) (ci := 3) (v := .int (nI mC)) (C := RX3) (T := TX3) (N := 15) hx hb hts hinX3 hown hK.1 hP 0 rfl rfl 7 (by decide) hf47 (fun _ h9 => h9) rfl dX3_digest_143 ?_
          refine lv_i2l (v := Int32.toInt64 (nI mC)) hx hb dX3_digest_146 rfl ?_
          refine lv_ladd hx hb dX3_digest_147 ?_
          refine lv_lstore_n (lv' := [(1, .long (((((((mDigD mr mc mK (mix (mDigK mc (5363 + Int32.toInt64 (nI mK)) mK) (nI mD)) mD) * 31) + (Int32.toInt64 mw)) * 31) + (Int32.toInt64 my)) * 31) + (Int32.toInt64 (nI mC)))), (3, .int (nI mD)), (0, .ref (md 0))]) hx hb dX3_digest_148 rfl hl (by decide) rfl (fun ls hl => ?_)
          refine lv_iconst (v := 0) hx hb dX3_digest_149 (by decide) ?_
          refine lv_istore_n (lv' := [(3, .int 0), (1, .long (((((((mDigD mr mc mK (mix (mDigK mc (5363 + Int32.toInt64 (nI mK)) mK) (nI mD)) mD) * 31) + (Int32.toInt64 mw)) * 31) + (Int32.toInt64 my)) * 31) + (Int32.toInt64 (nI mC)))), (0, .ref (md 0))]) hx hb dX3_digest_150 rfl hl (by decide) rfl (fun ls hl => ?_)
          refine kc_forW (pc := 151) (N := mC) (P := fun j ls => lv_has ls 5 [(3, .int (nI j)), (1, .long (mDigC mk ms mu mt mp tn (mix (mix (mix (mDigD mr mc mK (mix (mDigK mc (5363 + Int32.toInt64 (nI mK)) mK) (nI mD)) mD) mw) my) (nI mC)) j)), (0, .ref (md 0))]) (fun j ls hj_151 hp ih_151 => ?_) ls ?_
          · have hl := hp
            refine lv_iload_n hx hb dX3_digest_151 rfl (lv_at hl 0 rfl) ?_
            refine lv_aload_n hx hb dX3_digest_152 rfl (lv_at hl 2 rfl) ?_
            refine va_get (D := D) (ci := 3) (v := .int (nI mC)) (C := RX3) (T := TX3) (N := 15) hx hb hts hinX3 hown hK.1 hP 0 rfl rfl 7 (by decide) hf47 (fun _ h9 => h9) rfl dX3_digest_153 ?_
            refine kc_tst (j := j) (N := mC) (tgt := 195) hx hb dX3_digest_156 (by decide) hj_151 (by omega) (fun hN => ?_) (fun hlt_151 => ?_)
            · subst hN
              refine lv_lload_n hx hb dX3_digest_195 rfl (lv_at hl 1 rfl) ?_
              exact W.lret (v := mDigC mk ms mu mt mp tn (mix (mix (mix (mDigD mr mc mK (mix (mDigK mc (5363 + Int32.toInt64 (nI mK)) mK) (nI mD)) mD) mw) my) (nI mC)) mC) hx hb hr (fun tZ htZ hWZ => ⟨⟨_, (), rfl, rfl, by rw [htZ]; exact hP, by rw [hAe]; exact hD⟩, hS.F htZ⟩) hS.2.2 dX3_digest_196
            · refine lv_iconst (v := 0) hx hb dX3_digest_159 (by decide) ?_
              refine lv_istore (lv' := [(4, .int 0), (3, .int (nI j)), (1, .long (mDigC mk ms mu mt mp tn (mix (mix (mix (mDigD mr mc mK (mix (mDigK mc (5363 + Int32.toInt64 (nI mK)) mK) (nI mD)) mD) mw) my) (nI mC)) j)), (0, .ref (md 0))]) hx hb dX3_digest_160 hl (by decide) rfl (fun ls hl => ?_)
              refine kc_forW (pc := 162) (N := 5) (P := fun q ls => lv_has ls 5 [(4, .int (nI q)), (3, .int (nI j)), (1, .long (mDigW mk ms mu mt mp tn j (mDigC mk ms mu mt mp tn (mix (mix (mix (mDigD mr mc mK (mix (mDigK mc (5363 + Int32.toInt64 (nI mK)) mK) (nI mD)) mD) mw) my) (nI mC)) j) q)), (0, .ref (md 0))]) (fun q ls hj_162 hp ih_162 => ?_) ls ?_
              · have hl := hp
                refine lv_iload hx hb dX3_digest_162 (lv_at hl 0 rfl) ?_
                refine lv_iconst (v := 5) hx hb dX3_digest_164 (by decide) ?_
                refine kc_tst (j := q) (N := 5) (tgt := 189) hx hb dX3_digest_165 (by decide) hj_162 (by omega) (fun hN => ?_) (fun hlt_162 => ?_)
                · subst hN
                  refine lv_iinc (v := nI (j + 1)) (lv' := [(3, .int (nI (j + 1))), (4, .int (nI 5)), (1, .long (mDigW mk ms mu mt mp tn j (mDigC mk ms mu mt mp tn (mix (mix (mix (mDigD mr mc mK (mix (mDigK mc (5363 + Int32.toInt64 (nI mK)) mK) (nI mD)) mD) mw) my) (nI mC)) j) 5)), (0, .ref (md 0))]) hx hb dX3_digest_189 hl (k := 1) rfl (kc_inc j) (by decide) rfl (fun ls hl => ?_)
                  refine lv_goto (tgt := 151) hx hb dX3_digest_192 (by decide) ?_
                  refine ih_151 _ hlt_151 ?_
                  have eq_1 : mDigC mk ms mu mt mp tn (mix (mix (mix (mDigD mr mc mK (mix (mDigK mc (5363 + Int32.toInt64 (nI mK)) mK) (nI mD)) mD) mw) my) (nI mC)) (j + 1) = mDigW mk ms mu mt mp tn j (mDigC mk ms mu mt mp tn (mix (mix (mix (mDigD mr mc mK (mix (mDigK mc (5363 + Int32.toInt64 (nI mK)) mK) (nI mD)) mD) mw) my) (nI mC)) j) 5 := rfl
                  show lv_has _ 5 [(3, .int (nI (j + 1))), (1, .long (mDigC mk ms mu mt mp tn (mix (mix (mix (mDigD mr mc mK (mix (mDigK mc (5363 + Int32.toInt64 (nI mK)) mK) (nI mD)) mD) mw) my) (nI mC)) (j + 1))), (0, .ref (md 0))]
                  rw [eq_1]
                  exact lv_sub hl [0, 2, 3] rfl
                · refine lv_lload_n hx hb dX3_digest_168 rfl (lv_at hl 2 rfl) ?_
                  refine lv_ldc2 (v := 31) hx hb hown (hts (.constantLong RX3 125 (31)) (by decide +kernel)) dX3_digest_169 ?_
                  refine lv_lmul hx hb dX3_digest_172 ?_
                  refine lv_aload_n hx hb dX3_digest_173 rfl (lv_at hl 3 rfl) ?_
                  refine lv_iload_n hx hb dX3_digest_174 rfl (lv_at hl 1 rfl) ?_
                  refine lv_iload hx hb dX3_digest_175 (lv_at hl 0 rfl) ?_
                  refine kc_rVi (As := [.int (nI j), .int (nI q)]) (rest := [.long ((mDigW mk ms mu mt mp tn j (mDigC mk ms mu mt mp tn (mix (mix (mix (mDigD mr mc mK (mix (mDigK mc (5363 + Int32.toInt64 (nI mK)) mK) (nI mD)) mD) mw) my) (nI mC)) j) q) * 31)]) ⟨hx, hb, hml, hown, hts⟩ (c_X3_told l D md cI 0 mK mc mD mr mw my mC mk ms mu mt mp mb me tn j (nI q) (by first | assumption | omega) hok) (cwV 2 hts gX3_digest_X3_told rfl rfl rfl (by decide +kernel) ⟨Nat.le_of_ble_eq_true rfl, Nat.le_of_ble_eq_true rfl⟩) hK hP [0, 1, 2, 3, 4, 5, 6, 7, 8, 9] [0] rfl rfl 0 rfl rfl rfl rfl hl.1 rfl (Nat.le_of_ble_eq_true rfl) dX3_digest_177 ⟨Nat.le_of_ble_eq_true rfl, Nat.le_of_ble_eq_true rfl⟩ ?_
                  refine lv_i2l (v := Int32.toInt64 (mTold mk ms mu mt mp tn j (nI q))) hx hb dX3_digest_180 rfl ?_
                  refine lv_ladd hx hb dX3_digest_181 ?_
                  refine lv_lstore_n (lv' := [(1, .long (((mDigW mk ms mu mt mp tn j (mDigC mk ms mu mt mp tn (mix (mix (mix (mDigD mr mc mK (mix (mDigK mc (5363 + Int32.toInt64 (nI mK)) mK) (nI mD)) mD) mw) my) (nI mC)) j) q) * 31) + (Int32.toInt64 (mTold mk ms mu mt mp tn j (nI q))))), (4, .int (nI q)), (3, .int (nI j)), (0, .ref (md 0))]) hx hb dX3_digest_182 rfl hl (by decide) rfl (fun ls hl => ?_)
                  refine lv_iinc (v := nI (q + 1)) (lv' := [(4, .int (nI (q + 1))), (1, .long (((mDigW mk ms mu mt mp tn j (mDigC mk ms mu mt mp tn (mix (mix (mix (mDigD mr mc mK (mix (mDigK mc (5363 + Int32.toInt64 (nI mK)) mK) (nI mD)) mD) mw) my) (nI mC)) j) q) * 31) + (Int32.toInt64 (mTold mk ms mu mt mp tn j (nI q))))), (3, .int (nI j)), (0, .ref (md 0))]) hx hb dX3_digest_183 hl (k := 1) rfl (kc_inc q) (by decide) rfl (fun ls hl => ?_)
                  refine lv_goto (tgt := 162) hx hb dX3_digest_186 (by decide) ?_
                  refine ih_162 _ hlt_162 ?_
                  have eq_1 : mDigW mk ms mu mt mp tn j (mDigC mk ms mu mt mp tn (mix (mix (mix (mDigD mr mc mK (mix (mDigK mc (5363 + Int32.toInt64 (nI mK)) mK) (nI mD)) mD) mw) my) (nI mC)) j) (q + 1) = ((mDigW mk ms mu mt mp tn j (mDigC mk ms mu mt mp tn (mix (mix (mix (mDigD mr mc mK (mix (mDigK mc (5363 + Int32.toInt64 (nI mK)) mK) (nI mD)) mD) mw) my) (nI mC)) j) q) * 31) + (Int32.toInt64 (mTold mk ms mu mt mp tn j (nI q))) := rfl
                  show lv_has _ 5 [(4, .int (nI (q + 1))), (3, .int (nI j)), (1, .long (mDigW mk ms mu mt mp tn j (mDigC mk ms mu mt mp tn (mix (mix (mix (mDigD mr mc mK (mix (mDigK mc (5363 + Int32.toInt64 (nI mK)) mK) (nI mD)) mD) mw) my) (nI mC)) j) (q + 1))), (0, .ref (md 0))]
                  rw [eq_1]
                  exact lv_sub hl [0, 2, 1, 3] rfl
              · exact lv_sub hl [0, 1, 2, 3] rfl
          · exact lv_sub hl [0, 1, 2] rfl
        · refine lv_lload_n hx hb dX3_digest_67 rfl (lv_at hl 1 rfl) ?_
          refine lv_ldc2 (v := 31) hx hb hown (hts (.constantLong RX3 125 (31)) (by decide +kernel)) dX3_digest_68 ?_
          refine lv_lmul hx hb dX3_digest_71 ?_
          refine lv_aload_n hx hb dX3_digest_72 rfl (lv_at hl 2 rfl) ?_
          refine va_get (D := D) (ci := 3) (v := .ref (md 2)) (C := RX3) (T := TX3) (N := 15) hx hb hts hinX3 hown hK.1 hP 0 rfl rfl 4 (by decide) hf13 (fun _ h9 => h9) rfl dX3_digest_73 ?_
          refine lv_iload_n hx hb dX3_digest_76 rfl (lv_at hl 0 rfl) ?_
          refine kc_ald (i := j) (n := 8) hx hb hK hP 2 0 rfl rfl (by omega) (by decide) dX3_digest_77 ?_
          refine lv_i2l (v := Int32.toInt64 (mr j)) hx hb dX3_digest_78 rfl ?_
          refine lv_ladd hx hb dX3_digest_79 ?_
          refine lv_lstore_n (lv' := [(1, .long (((mDigD mr mc mK (mix (mDigK mc (5363 + Int32.toInt64 (nI mK)) mK) (nI mD)) j) * 31) + (Int32.toInt64 (mr j)))), (3, .int (nI j)), (0, .ref (md 0))]) hx hb dX3_digest_80 rfl hl (by decide) rfl (fun ls hl => ?_)
          refine lv_iconst (v := 0) hx hb dX3_digest_81 (by decide) ?_
          refine lv_istore (lv' := [(4, .int 0), (1, .long (((mDigD mr mc mK (mix (mDigK mc (5363 + Int32.toInt64 (nI mK)) mK) (nI mD)) j) * 31) + (Int32.toInt64 (mr j)))), (3, .int (nI j)), (0, .ref (md 0))]) hx hb dX3_digest_82 hl (by decide) rfl (fun ls hl => ?_)
          refine kc_forW (pc := 84) (N := 5) (P := fun q ls => lv_has ls 5 [(4, .int (nI q)), (1, .long (mDigP mr mc mK j (mix (mDigD mr mc mK (mix (mDigK mc (5363 + Int32.toInt64 (nI mK)) mK) (nI mD)) j) (mr j)) q)), (3, .int (nI j)), (0, .ref (md 0))]) (fun q ls hj_84 hp ih_84 => ?_) ls ?_
          · have hl := hp
            refine lv_iload hx hb dX3_digest_84 (lv_at hl 0 rfl) ?_
            refine lv_iconst (v := 5) hx hb dX3_digest_86 (by decide) ?_
            refine kc_tst (j := q) (N := 5) (tgt := 111) hx hb dX3_digest_87 (by decide) hj_84 (by omega) (fun hN => ?_) (fun hlt_84 => ?_)
            · subst hN
              refine lv_iinc (v := nI (j + 1)) (lv' := [(3, .int (nI (j + 1))), (4, .int (nI 5)), (1, .long (mDigP mr mc mK j (mix (mDigD mr mc mK (mix (mDigK mc (5363 + Int32.toInt64 (nI mK)) mK) (nI mD)) j) (mr j)) 5)), (0, .ref (md 0))]) hx hb dX3_digest_111 hl (k := 2) rfl (kc_inc j) (by decide) rfl (fun ls hl => ?_)
              refine lv_goto (tgt := 59) hx hb dX3_digest_114 (by decide) ?_
              refine ih_59 _ hlt_59 ?_
              have eq_1 : mDigD mr mc mK (mix (mDigK mc (5363 + Int32.toInt64 (nI mK)) mK) (nI mD)) (j + 1) = mDigP mr mc mK j (mix (mDigD mr mc mK (mix (mDigK mc (5363 + Int32.toInt64 (nI mK)) mK) (nI mD)) j) (mr j)) 5 := rfl
              show lv_has _ 5 [(3, .int (nI (j + 1))), (1, .long (mDigD mr mc mK (mix (mDigK mc (5363 + Int32.toInt64 (nI mK)) mK) (nI mD)) (j + 1))), (0, .ref (md 0))]
              rw [eq_1]
              exact lv_sub hl [0, 2, 3] rfl
            · refine lv_lload_n hx hb dX3_digest_90 rfl (lv_at hl 1 rfl) ?_
              refine lv_ldc2 (v := 31) hx hb hown (hts (.constantLong RX3 125 (31)) (by decide +kernel)) dX3_digest_91 ?_
              refine lv_lmul hx hb dX3_digest_94 ?_
              refine lv_aload_n hx hb dX3_digest_95 rfl (lv_at hl 3 rfl) ?_
              refine lv_iload_n hx hb dX3_digest_96 rfl (lv_at hl 2 rfl) ?_
              refine lv_iload hx hb dX3_digest_97 (lv_at hl 0 rfl) ?_
              refine kc_rVi (As := [.int (nI j), .int (nI q)]) (rest := [.long ((mDigP mr mc mK j (mix (mDigD mr mc mK (mix (mDigK mc (5363 + Int32.toInt64 (nI mK)) mK) (nI mD)) j) (mr j)) q) * 31)]) ⟨hx, hb, hml, hown, hts⟩ (c_X3_pinsOf l D md cI 0 mK mc mD mr mw my mC mk ms mu mt mp mb me j (nI q) hK8 (by first | assumption | omega)) (cwV 2 hts gX3_digest_X3_pinsOf rfl rfl rfl (by decide +kernel) ⟨Nat.le_of_ble_eq_true rfl, Nat.le_of_ble_eq_true rfl⟩) hK hP [0, 1, 2, 3, 4, 5, 6, 7, 8, 9] [0] rfl rfl 0 rfl rfl rfl rfl hl.1 rfl (Nat.le_of_ble_eq_true rfl) dX3_digest_99 ⟨Nat.le_of_ble_eq_true rfl, Nat.le_of_ble_eq_true rfl⟩ ?_
              refine lv_i2l (v := Int32.toInt64 (mPins mr mc j (nI q) mK)) hx hb dX3_digest_102 rfl ?_
              refine lv_ladd hx hb dX3_digest_103 ?_
              refine lv_lstore_n (lv' := [(1, .long (((mDigP mr mc mK j (mix (mDigD mr mc mK (mix (mDigK mc (5363 + Int32.toInt64 (nI mK)) mK) (nI mD)) j) (mr j)) q) * 31) + (Int32.toInt64 (mPins mr mc j (nI q) mK)))), (4, .int (nI q)), (3, .int (nI j)), (0, .ref (md 0))]) hx hb dX3_digest_104 rfl hl (by decide) rfl (fun ls hl => ?_)
              refine lv_iinc (v := nI (q + 1)) (lv' := [(4, .int (nI (q + 1))), (1, .long (((mDigP mr mc mK j (mix (mDigD mr mc mK (mix (mDigK mc (5363 + Int32.toInt64 (nI mK)) mK) (nI mD)) j) (mr j)) q) * 31) + (Int32.toInt64 (mPins mr mc j (nI q) mK)))), (3, .int (nI j)), (0, .ref (md 0))]) hx hb dX3_digest_105 hl (k := 1) rfl (kc_inc q) (by decide) rfl (fun ls hl => ?_)
              refine lv_goto (tgt := 84) hx hb dX3_digest_108 (by decide) ?_
              refine ih_84 _ hlt_84 ?_
              have eq_1 : mDigP mr mc mK j (mix (mDigD mr mc mK (mix (mDigK mc (5363 + Int32.toInt64 (nI mK)) mK) (nI mD)) j) (mr j)) (q + 1) = ((mDigP mr mc mK j (mix (mDigD mr mc mK (mix (mDigK mc (5363 + Int32.toInt64 (nI mK)) mK) (nI mD)) j) (mr j)) q) * 31) + (Int32.toInt64 (mPins mr mc j (nI q) mK)) := rfl
              show lv_has _ 5 [(4, .int (nI (q + 1))), (1, .long (mDigP mr mc mK j (mix (mDigD mr mc mK (mix (mDigK mc (5363 + Int32.toInt64 (nI mK)) mK) (nI mD)) j) (mr j)) (q + 1))), (3, .int (nI j)), (0, .ref (md 0))]
              rw [eq_1]
              exact lv_sub hl [0, 1, 2, 3] rfl
          · exact lv_sub hl [0, 1, 2, 3] rfl
      · exact lv_sub hl [0, 1, 2] rfl
    · refine lv_lload_n hx hb dX3_digest_25 rfl (lv_at hl 1 rfl) ?_
      refine lv_ldc2 (v := 31) hx hb hown (hts (.constantLong RX3 125 (31)) (by decide +kernel)) dX3_digest_26 ?_
      refine lv_lmul hx hb dX3_digest_29 ?_
      refine lv_aload_n hx hb dX3_digest_30 rfl (lv_at hl 2 rfl) ?_
      refine va_get (D := D) (ci := 3) (v := .ref (md 1)) (C := RX3) (T := TX3) (N := 15) hx hb hts hinX3 hown hK.1 hP 0 rfl rfl 2 (by decide) hf9 (fun _ h9 => h9) rfl dX3_digest_31 ?_
      refine lv_iload_n hx hb dX3_digest_34 rfl (lv_at hl 0 rfl) ?_
      refine kc_ald (i := j) (n := 8) hx hb hK hP 1 0 rfl rfl (by omega) (by decide) dX3_digest_35 ?_
      refine lv_i2l (v := Int32.toInt64 (mc j)) hx hb dX3_digest_36 rfl ?_
      refine lv_ladd hx hb dX3_digest_37 ?_
      refine lv_lstore_n (lv' := [(1, .long (((mDigK mc (5363 + Int32.toInt64 (nI mK)) j) * 31) + (Int32.toInt64 (mc j)))), (3, .int (nI j)), (0, .ref (md 0))]) hx hb dX3_digest_38 rfl hl (by decide) rfl (fun ls hl => ?_)
      refine lv_iinc (v := nI (j + 1)) (lv' := [(3, .int (nI (j + 1))), (1, .long (((mDigK mc (5363 + Int32.toInt64 (nI mK)) j) * 31) + (Int32.toInt64 (mc j)))), (0, .ref (md 0))]) hx hb dX3_digest_39 hl (k := 1) rfl (kc_inc j) (by decide) rfl (fun ls hl => ?_)
      refine lv_goto (tgt := 17) hx hb dX3_digest_42 (by decide) ?_
      refine ih_17 _ hlt_17 ?_
      have eq_1 : mDigK mc (5363 + Int32.toInt64 (nI mK)) (j + 1) = ((mDigK mc (5363 + Int32.toInt64 (nI mK)) j) * 31) + (Int32.toInt64 (mc j)) := rfl
      show lv_has _ 5 [(3, .int (nI (j + 1))), (1, .long (mDigK mc (5363 + Int32.toInt64 (nI mK)) (j + 1))), (0, .ref (md 0))]
      rw [eq_1]
      exact lv_sub hl [0, 1, 2] rfl
  · exact lv_sub hl [0, 1, 2] rfl
