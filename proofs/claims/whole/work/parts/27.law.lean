abbrev wLaw (ad : Nat → Nat) (cI : ClassId) (cd : Nat → Int32) (te : Nat → Int32) (ri : Nat → Int32) (pi : Nat → Int32) (pw : Nat → Int32) (K : Nat) (Dn : Nat) (mv : Int32) (ko : Nat → Int32) (so : Nat → Int32) (tl : Nat → Int32) (lp : Nat → Int32) (lb : Nat → Int32) (ld : Nat → Int32) (le : Nat → Int32) (C : Nat) (cl : Nat → Int32) (dq : Nat → Int32) (dy : Int32) (cL : ClassId) (ou : Nat → Int64) (md : Nat → Nat) (th : Int32) (mK : Nat) (mc : Nat → Int32) (mD : Nat) (mr : Nat → Int32) (mw : Int32) (my : Int32) (mC : Nat) (mk : Nat → Int32) (ms : Nat → Int32) (mu : Nat → Int32) (mt : Nat → Int32) (mp : Nat → Int32) (mb : Nat → Int32) (me : Nat → Int32) : va_W := [(ad 0, .inr (1, [.ref (ad 1), .ref (ad 2), .ref (ad 3), .ref (ad 4), .ref (ad 5), .int (nI K), .int (nI Dn), .int mv])), (ad 1, .inl (cI, 8, .inl cd)), (ad 2, .inl (cI, 8, .inl te)), (ad 3, .inl (cI, 8, .inl ri)), (ad 4, .inl (cI, 8, .inl pi)), (ad 5, .inl (cI, 8, .inl pw)), (ad 6, .inr (0, [.ref (ad 7), .ref (ad 8), .ref (ad 9), .ref (ad 10), .ref (ad 11), .ref (ad 12), .ref (ad 13), .int (nI C)])), (ad 7, .inl (cI, 24, .inl ko)), (ad 8, .inl (cI, 24, .inl so)), (ad 9, .inl (cI, 24, .inl tl)), (ad 10, .inl (cI, 216, .inl lp)), (ad 11, .inl (cI, 216, .inl lb)), (ad 12, .inl (cI, 216, .inl ld)), (ad 13, .inl (cI, 216, .inl le)), (ad 14, .inr (2, [.ref (ad 0), .ref (ad 6), .ref (ad 15), .ref (ad 16), .int dy])), (ad 15, .inl (cI, 8, .inl cl)), (ad 16, .inl (cI, 8, .inl dq)), (ad 17, .inl (cL, 1, .inr (.inl ou))), (md 0, .inr (3, [.int th, .int (nI mK), .ref (md 1), .int (nI mD), .ref (md 2), .int mw, .int my, .int (nI mC), .ref (md 3), .ref (md 4), .ref (md 5), .ref (md 6), .ref (md 7), .ref (md 8), .ref (md 9)])), (md 1, .inl (cI, 8, .inl mc)), (md 2, .inl (cI, 8, .inl mr)), (md 3, .inl (cI, 24, .inl mk)), (md 4, .inl (cI, 24, .inl ms)), (md 5, .inl (cI, 24, .inl mu)), (md 6, .inl (cI, 24, .inl mt)), (md 7, .inl (cI, 216, .inl mp)), (md 8, .inl (cI, 216, .inl mb)), (md 9, .inl (cI, 216, .inl me))]
set_option maxHeartbeats 4000000 in
set_option maxRecDepth 100000 in
theorem lw_addKey_ok_ok {p : Program} {l : Launch} {e : Env} {s : State} {m : MethodId} {below : List Frame} {meth : Method} {c : Code} {Q : State → Prop} {b L : Nat} {xs : Nat → Int32} (hlf : l.stackTraces = false) (C0 : lw_At p s m meth c b L xs) {D : va_G} {cI cL : ClassId} (hK : kcK D [(cI, .int), (cL, .long)] s) (hX0 : kcX (fun q => s.heap.size ≤ q) s s.heap) (hL : L ≤ 2048) (i : Nat) (hi : i + 3 < L) (ad : Nat → Nat) (cd : Nat → Int32) (te : Nat → Int32) (ri : Nat → Int32) (pi : Nat → Int32) (pw : Nat → Int32) (K : Nat) (Dn : Nat) (mv : Int32) (ko : Nat → Int32) (so : Nat → Int32) (tl : Nat → Int32) (lp : Nat → Int32) (lb : Nat → Int32) (ld : Nat → Int32) (le : Nat → Int32) (C : Nat) (cl : Nat → Int32) (dq : Nat → Int32) (dy : Int32) (ou : Nat → Int64) (md : Nat → Nat) (th : Int32) (mK : Nat) (mc : Nat → Int32) (mD : Nat) (mr : Nat → Int32) (mw : Int32) (my : Int32) (mC : Nat) (mk : Nat → Int32) (ms : Nat → Int32) (mu : Nat → Int32) (mt : Nat → Int32) (mp : Nat → Int32) (mb : Nat → Int32) (me : Nat → Int32) (code : Int32) (h1 : ¬ code < 0) (h2 : code < 1024) (hK7 : K < 8) (hf : ¬ jTaken cd K code = true) (m_h1 : ¬ code < 0) (m_h2 : code < 1024) (m_hK7 : mK < 8) (m_hf : ¬ jTaken mc mK code = true) (hp1 : xs (i + 1) = code) (hres : (nI K : Int32) = (nI mK)) {H : Heap} {locs : List Loc} {cells slots : Nat} (hce : cells + 2 ≤ 601024) (hsl : slots + 16 ≤ 7293034) (hP : va_P D vwCl (wLaw ad cI cd te ri pi pw K Dn mv ko so tl lp lb ld le C cl dq dy cL ou md th mK mc mD mr mw my mC mk ms mu mt mp mb me) H) (hD : va_D (fun q => s.heap.size ≤ q) (wLaw ad cI cd te ri pi pw K Dn mv ko so tl lp lb ld le C cl dq dy cL ou md th mK mc mD mr mw my mC mk ms mu mt mp mb me)) (hS : va_S (fun q => s.heap.size ≤ q) s.heap H locs) {ls : Array Slot} (hl : lv_has ls 9 [(0, .ref b), (1, .ref (ad 14)), (2, .ref (md 0)), (3, .ref (ad 17)), (4, .int (nI i))]) (K1 : ∀ (H : Heap) (locs : List Loc) (ls : Array Slot), va_P D vwCl (wLaw ad cI (upd cd K code) (upd te K (jTeeth code 5)) ri pi pw (K + 1) Dn mv ko so tl lp lb ld le C cl dq dy cL (vp_updL ou 0 (Int32.toInt64 (nI K))) md 0 (mK + 1) (upd mc mK code) mD mr mw my mC mk ms mu mt mp mb me) H → va_D (fun q => s.heap.size ≤ q) (wLaw ad cI (upd cd K code) (upd te K (jTeeth code 5)) ri pi pw (K + 1) Dn mv ko so tl lp lb ld le C cl dq dy cL (vp_updL ou 0 (Int32.toInt64 (nI K))) md 0 (mK + 1) (upd mc mK code) mD mr mw my mC mk ms mu mt mp mb me) → va_S (fun q => s.heap.size ≤ q) s.heap H locs → lv_has ls 9 [(0, .ref b), (1, .ref (ad 14)), (2, .ref (md 0)), (3, .ref (ad 17)), (4, .int (nI i))] → W p l e room_1 s m #[Value.ref b] below meth c H locs (cells + 2) (slots + 16) Q (F0 m 1633 ls [])) : W p l e room_1 s m #[Value.ref b] below meth c H locs cells slots Q (F0 m 176 ls []) := by
  obtain ⟨hx, hb, hr, hml, hown, hts, hXs, hbl, hlocks, hgv⟩ := id C0
  have hts := fun w h => hts w (wsL_law_in w h)
  have hb : c.code = cL_law := hb
  have hA : ∀ q : Nat, s.heap.size ≤ q → (fun q : Nat => s.heap.size ≤ q) q := fun _ h => h
  have hbA : ¬ (fun q : Nat => s.heap.size ≤ q) b := Nat.not_le.mpr hbl
  refine lv_aload_n hx hb dL_law_176 rfl (lv_at hl 1 rfl) ?_
  refine lv_aload_n hx hb dL_law_177 rfl (lv_at hl 0 rfl) ?_
  refine lv_iload hx hb dL_law_178 (lv_at hl 4 rfl) ?_
  refine lv_iconst (v := 1) hx hb dL_law_180 (by decide) ?_
  refine lv_iadd hx hb dL_law_181 ?_
  refine kc_top (show (nI i) + 1 = nI (i + 1) from nI_add _ _) ?_
  refine kc_sld (i := i + 1) hx hb hXs hbl hbA hS (by omega) (by omega) dL_law_182 ?_
  refine kc_top hp1 ?_
  refine lv_aload_n hx hb dL_law_183 rfl (lv_at hl 3 rfl) ?_
  refine kc_hSi (w1 := wLh ad cI (upd cd K code) (upd te K (jTeeth code 5)) ri pi pw (K + 1) Dn mv ko so tl lp lb ld le C cl dq dy cL (vp_updL ou 0 (Int32.toInt64 (nI K)))) (wr := [(md 0, .inr (3, [.int th, .int (nI mK), .ref (md 1), .int (nI mD), .ref (md 2), .int mw, .int my, .int (nI mC), .ref (md 3), .ref (md 4), .ref (md 5), .ref (md 6), .ref (md 7), .ref (md 8), .ref (md 9)])), (md 1, .inl (cI, 8, .inl mc)), (md 2, .inl (cI, 8, .inl mr)), (md 3, .inl (cI, 24, .inl mk)), (md 4, .inl (cI, 24, .inl ms)), (md 5, .inl (cI, 24, .inl mu)), (md 6, .inl (cI, 24, .inl mt)), (md 7, .inl (cI, 216, .inl mp)), (md 8, .inl (cI, 216, .inl mb)), (md 9, .inl (cI, 216, .inl me))]) (ws1 := wLaw ad cI (upd cd K code) (upd te K (jTeeth code 5)) ri pi pw (K + 1) Dn mv ko so tl lp lb ld le C cl dq dy cL (vp_updL ou 0 (Int32.toInt64 (nI K))) md th mK mc mD mr mw my mC mk ms mu mt mp mb me) (As := [.ref (ad 14), .int code, .ref (ad 17)]) (rest := []) ⟨hx, hb, hml, hown, hts⟩ (c_L_addKey_ok l D ad cI cd te ri pi pw K Dn mv ko so tl lp lb ld le C cl dq dy cL ou code H.size h1 h2 hK7 hf) (vx_cwSW 3 hts gL_law_L_addKey rfl rfl rfl (by decide +kernel) ⟨Nat.le_of_ble_eq_true rfl, Nat.le_of_ble_eq_true rfl⟩) hK hP hD hS hA [0, 1, 2, 3, 4, 5, 6, 7, 8, 9, 10, 11, 12, 13, 14, 15, 16, 17] [18, 19, 20, 21, 22, 23, 24, 25, 26, 27] [10, 11, 12, 13, 14, 15, 16, 17, 18, 19, 20, 21, 22, 23, 24, 25, 26, 27, 0, 1, 2, 3, 4, 5, 6, 7, 8, 9] [0, 1] rfl rfl rfl rfl (by decide) rfl rfl rfl rfl hl.1 rfl (Nat.le_of_ble_eq_true rfl) dL_law_184 ⟨kc_rc (by omega), kc_rs (by omega)⟩ (fun H locs hP hD hS => ?_)
  refine lv_istore (lv' := [(5, .int 0), (0, .ref b), (1, .ref (ad 14)), (2, .ref (md 0)), (3, .ref (ad 17)), (4, .int (nI i))]) hx hb dL_law_187 hl (by decide) rfl (fun ls hl => ?_)
  refine lv_aload_n hx hb dL_law_189 rfl (lv_at hl 3 rfl) ?_
  refine lv_aload_n hx hb dL_law_190 rfl (lv_at hl 1 rfl) ?_
  refine lv_iload hx hb dL_law_191 (lv_at hl 5 rfl) ?_
  refine lv_iconst (v := 1) hx hb dL_law_193 (by decide) ?_
  refine lv_iadd hx hb dL_law_194 ?_
  refine kc_top (show (nI i) + 1 = nI (i + 1) from nI_add _ _) ?_
  refine kc_sld (i := i + 1) hx hb hXs hbl hbA hS (by omega) (by omega) dL_law_195 ?_
  refine kc_top hp1 ?_
  refine kc_wVi (w1 := wMd md cI 0 (mK + 1) (upd mc mK code) mD mr mw my mC mk ms mu mt mp mb me) (wr := [(ad 0, .inr (1, [.ref (ad 1), .ref (ad 2), .ref (ad 3), .ref (ad 4), .ref (ad 5), .int (nI (K + 1)), .int (nI Dn), .int mv])), (ad 1, .inl (cI, 8, .inl (upd cd K code))), (ad 2, .inl (cI, 8, .inl (upd te K (jTeeth code 5)))), (ad 3, .inl (cI, 8, .inl ri)), (ad 4, .inl (cI, 8, .inl pi)), (ad 5, .inl (cI, 8, .inl pw)), (ad 6, .inr (0, [.ref (ad 7), .ref (ad 8), .ref (ad 9), .ref (ad 10), .ref (ad 11), .ref (ad 12), .ref (ad 13), .int (nI C)])), (ad 7, .inl (cI, 24, .inl ko)), (ad 8, .inl (cI, 24, .inl so)), (ad 9, .inl (cI, 24, .inl tl)), (ad 10, .inl (cI, 216, .inl lp)), (ad 11, .inl (cI, 216, .inl lb)), (ad 12, .inl (cI, 216, .inl ld)), (ad 13, .inl (cI, 216, .inl le)), (ad 14, .inr (2, [.ref (ad 0), .ref (ad 6), .ref (ad 15), .ref (ad 16), .int dy])), (ad 15, .inl (cI, 8, .inl cl)), (ad 16, .inl (cI, 8, .inl dq)), (ad 17, .inl (cL, 1, .inr (.inl (vp_updL ou 0 (Int32.toInt64 (nI K))))))]) (ws1 := wLaw ad cI (upd cd K code) (upd te K (jTeeth code 5)) ri pi pw (K + 1) Dn mv ko so tl lp lb ld le C cl dq dy cL (vp_updL ou 0 (Int32.toInt64 (nI K))) md 0 (mK + 1) (upd mc mK code) mD mr mw my mC mk ms mu mt mp mb me) (As := [.int code]) (rest := []) ⟨hx, hb, hml, hown, hts⟩ (c_X3_addKey_ok l D md cI th mK mc mD mr mw my mC mk ms mu mt mp mb me code H.size m_h1 m_h2 m_hK7 m_hf) (cwV 1 hts gL_law_X3_addKey rfl rfl rfl (by decide +kernel) ⟨Nat.le_of_ble_eq_true rfl, Nat.le_of_ble_eq_true rfl⟩) hK hP hD hS hA [18, 19, 20, 21, 22, 23, 24, 25, 26, 27] [0, 1, 2, 3, 4, 5, 6, 7, 8, 9, 10, 11, 12, 13, 14, 15, 16, 17] [0, 1, 2, 3, 4, 5, 6, 7, 8, 9, 10, 11, 12, 13, 14, 15, 16, 17, 18, 19, 20, 21, 22, 23, 24, 25, 26, 27] [0] rfl rfl rfl rfl (by decide) rfl rfl rfl 18 rfl rfl rfl rfl hl.1 rfl (Nat.le_of_ble_eq_true rfl) dL_law_196 ⟨kc_rc (by omega), kc_rs (by omega)⟩ (fun H locs hP hD hS => ?_)
  refine lv_istore (lv' := [(6, .int (nI mK)), (5, .int 0), (0, .ref b), (1, .ref (ad 14)), (2, .ref (md 0)), (3, .ref (ad 17)), (4, .int (nI i))]) hx hb dL_law_199 hl (by decide) rfl (fun ls hl => ?_)
  refine lv_aload_n hx hb dL_law_201 rfl (lv_at hl 4 rfl) ?_
  refine kc_rVi (As := []) (rest := []) ⟨hx, hb, hml, hown, hts⟩ (c_X3_thrown l D md cI 0 (mK + 1) (upd mc mK code) mD mr mw my mC mk ms mu mt mp mb me ) (cwV 0 hts gL_law_X3_thrown rfl rfl rfl (by decide +kernel) ⟨Nat.le_of_ble_eq_true rfl, Nat.le_of_ble_eq_true rfl⟩) hK hP [18, 19, 20, 21, 22, 23, 24, 25, 26, 27] [0] rfl rfl 18 rfl rfl rfl rfl hl.1 rfl (Nat.le_of_ble_eq_true rfl) dL_law_202 ⟨kc_rc (by omega), kc_rs (by omega)⟩ ?_
  refine lv_iload hx hb dL_law_205 (lv_at hl 1 rfl) ?_
  refine lv_icmp_eq (tgt := 212) hx hb dL_law_207 (by decide) (fun c_207 => ?_) (fun c_207 => absurd c_207 (by decide))
  refine lv_iload hx hb dL_law_212 (lv_at hl 1 rfl) ?_
  refine lv_if_ne (tgt := 229) hx hb dL_law_214 (by decide) (fun c_214 => absurd c_214 (by decide)) (fun c_214 => ?_)
  refine lv_aload_n hx hb dL_law_217 rfl (lv_at hl 5 rfl) ?_
  refine lv_iconst (v := 0) hx hb dL_law_218 (by decide) ?_
  refine kc_lld (i := 0) (n := 1) hx hb hK hP 17 1 rfl rfl (by decide) (by decide) dL_law_219 ?_
  refine kc_topl (show ((vp_updL ou 0 (Int32.toInt64 (nI K)))) 0 = Int32.toInt64 (nI K) from pk_uLs) ?_
  refine lv_iload hx hb dL_law_220 (lv_at hl 0 rfl) ?_
  refine lv_i2l (v := Int32.toInt64 (nI mK)) hx hb dL_law_222 rfl ?_
  refine W.lcmp hx hb dL_law_223 ?_
  refine kc_top (show lg_cmp (Int32.toInt64 (nI K)) (Int32.toInt64 (nI mK)) = 0 from kc_lcmp0 (congrArg Int32.toInt64 hres)) ?_
  refine lv_if_eq (tgt := 229) hx hb dL_law_224 (by decide) (fun c_224 => ?_) (fun c_224 => absurd c_224 (by decide))
  refine lv_goto (tgt := 1633) hx hb dL_law_229 (by decide) ?_
  refine W.widen (k := cells + 2) (n := slots + 16) (by omega) (by omega) ?_
  exact K1 _ _ _ hP hD hS (lv_sub hl [2, 3, 4, 5, 6] rfl)
set_option maxHeartbeats 4000000 in
set_option maxRecDepth 100000 in
theorem lw_addKey_f1_f1 {p : Program} {l : Launch} {e : Env} {s : State} {m : MethodId} {below : List Frame} {meth : Method} {c : Code} {Q : State → Prop} {b L : Nat} {xs : Nat → Int32} (hlf : l.stackTraces = false) (C0 : lw_At p s m meth c b L xs) {D : va_G} {cI cL : ClassId} (hK : kcK D [(cI, .int), (cL, .long)] s) (hX0 : kcX (fun q => s.heap.size ≤ q) s s.heap) (hL : L ≤ 2048) (i : Nat) (hi : i + 3 < L) (ad : Nat → Nat) (cd : Nat → Int32) (te : Nat → Int32) (ri : Nat → Int32) (pi : Nat → Int32) (pw : Nat → Int32) (K : Nat) (Dn : Nat) (mv : Int32) (ko : Nat → Int32) (so : Nat → Int32) (tl : Nat → Int32) (lp : Nat → Int32) (lb : Nat → Int32) (ld : Nat → Int32) (le : Nat → Int32) (C : Nat) (cl : Nat → Int32) (dq : Nat → Int32) (dy : Int32) (ou : Nat → Int64) (md : Nat → Nat) (th : Int32) (mK : Nat) (mc : Nat → Int32) (mD : Nat) (mr : Nat → Int32) (mw : Int32) (my : Int32) (mC : Nat) (mk : Nat → Int32) (ms : Nat → Int32) (mu : Nat → Int32) (mt : Nat → Int32) (mp : Nat → Int32) (mb : Nat → Int32) (me : Nat → Int32) (code : Int32) (hBad : code < 0 ∨ (1024 : Int32) ≤ code) (m_hBad : code < 0 ∨ (1024 : Int32) ≤ code) (hp1 : xs (i + 1) = code)  {H : Heap} {locs : List Loc} {cells slots : Nat} (hce : cells + 2 ≤ 601024) (hsl : slots + 16 ≤ 7293034) (hP : va_P D vwCl (wLaw ad cI cd te ri pi pw K Dn mv ko so tl lp lb ld le C cl dq dy cL ou md th mK mc mD mr mw my mC mk ms mu mt mp mb me) H) (hD : va_D (fun q => s.heap.size ≤ q) (wLaw ad cI cd te ri pi pw K Dn mv ko so tl lp lb ld le C cl dq dy cL ou md th mK mc mD mr mw my mC mk ms mu mt mp mb me)) (hS : va_S (fun q => s.heap.size ≤ q) s.heap H locs) {ls : Array Slot} (hl : lv_has ls 9 [(0, .ref b), (1, .ref (ad 14)), (2, .ref (md 0)), (3, .ref (ad 17)), (4, .int (nI i))]) (K1 : ∀ (H : Heap) (locs : List Loc) (ls : Array Slot), va_P D vwCl (wLaw ad cI cd te ri pi pw K Dn mv ko so tl lp lb ld le C cl dq dy cL ou md 1 mK mc mD mr mw my mC mk ms mu mt mp mb me) H → va_D (fun q => s.heap.size ≤ q) (wLaw ad cI cd te ri pi pw K Dn mv ko so tl lp lb ld le C cl dq dy cL ou md 1 mK mc mD mr mw my mC mk ms mu mt mp mb me) → va_S (fun q => s.heap.size ≤ q) s.heap H locs → lv_has ls 9 [(0, .ref b), (1, .ref (ad 14)), (2, .ref (md 0)), (3, .ref (ad 17)), (4, .int (nI i))] → W p l e room_1 s m #[Value.ref b] below meth c H locs (cells + 2) (slots + 16) Q (F0 m 1633 ls [])) : W p l e room_1 s m #[Value.ref b] below meth c H locs cells slots Q (F0 m 176 ls []) := by
  obtain ⟨hx, hb, hr, hml, hown, hts, hXs, hbl, hlocks, hgv⟩ := id C0
  have hts := fun w h => hts w (wsL_law_in w h)
  have hb : c.code = cL_law := hb
  have hA : ∀ q : Nat, s.heap.size ≤ q → (fun q : Nat => s.heap.size ≤ q) q := fun _ h => h
  have hbA : ¬ (fun q : Nat => s.heap.size ≤ q) b := Nat.not_le.mpr hbl
  refine lv_aload_n hx hb dL_law_176 rfl (lv_at hl 1 rfl) ?_
  refine lv_aload_n hx hb dL_law_177 rfl (lv_at hl 0 rfl) ?_
  refine lv_iload hx hb dL_law_178 (lv_at hl 4 rfl) ?_
  refine lv_iconst (v := 1) hx hb dL_law_180 (by decide) ?_
  refine lv_iadd hx hb dL_law_181 ?_
  refine kc_top (show (nI i) + 1 = nI (i + 1) from nI_add _ _) ?_
  refine kc_sld (i := i + 1) hx hb hXs hbl hbA hS (by omega) (by omega) dL_law_182 ?_
  refine kc_top hp1 ?_
  refine lv_aload_n hx hb dL_law_183 rfl (lv_at hl 3 rfl) ?_
  have hX := kc_xat hX0 hS
  refine kc_hXi (w1 := wLh ad cI cd te ri pi pw K Dn mv ko so tl lp lb ld le C cl dq dy cL ou) (wr := [(md 0, .inr (3, [.int th, .int (nI mK), .ref (md 1), .int (nI mD), .ref (md 2), .int mw, .int my, .int (nI mC), .ref (md 3), .ref (md 4), .ref (md 5), .ref (md 6), .ref (md 7), .ref (md 8), .ref (md 9)])), (md 1, .inl (cI, 8, .inl mc)), (md 2, .inl (cI, 8, .inl mr)), (md 3, .inl (cI, 24, .inl mk)), (md 4, .inl (cI, 24, .inl ms)), (md 5, .inl (cI, 24, .inl mu)), (md 6, .inl (cI, 24, .inl mt)), (md 7, .inl (cI, 216, .inl mp)), (md 8, .inl (cI, 216, .inl mb)), (md 9, .inl (cI, 216, .inl me))]) (ws1 := wLaw ad cI cd te ri pi pw K Dn mv ko so tl lp lb ld le C cl dq dy cL ou md th mK mc mD mr mw my mC mk ms mu mt mp mb me) (As := [.ref (ad 14), .int code, .ref (ad 17)]) (rest := []) ⟨hx, hb, hml, hown, hts⟩ (c_L_addKey_f1 l hlf D ad cI cd te ri pi pw K Dn mv ko so tl lp lb ld le C cl dq dy cL ou code H.size hBad) (vx_cwSW 3 hts gL_law_L_addKey rfl rfl rfl (by decide +kernel) ⟨Nat.le_of_ble_eq_true rfl, Nat.le_of_ble_eq_true rfl⟩) hK hP hD hX hS hA [0, 1, 2, 3, 4, 5, 6, 7, 8, 9, 10, 11, 12, 13, 14, 15, 16, 17] [18, 19, 20, 21, 22, 23, 24, 25, 26, 27] [10, 11, 12, 13, 14, 15, 16, 17, 18, 19, 20, 21, 22, 23, 24, 25, 26, 27, 0, 1, 2, 3, 4, 5, 6, 7, 8, 9] [0, 1] rfl rfl rfl rfl (by decide) rfl rfl rfl rfl hl.1 rfl (Nat.le_of_ble_eq_true rfl) dL_law_184 ⟨kc_rc (by omega), kc_rs (by omega)⟩ (fun H locs hP hD hS => ?_)
  refine lv_istore (lv' := [(5, .int 1), (0, .ref b), (1, .ref (ad 14)), (2, .ref (md 0)), (3, .ref (ad 17)), (4, .int (nI i))]) hx hb dL_law_187 hl (by decide) rfl (fun ls hl => ?_)
  refine lv_aload_n hx hb dL_law_189 rfl (lv_at hl 3 rfl) ?_
  refine lv_aload_n hx hb dL_law_190 rfl (lv_at hl 1 rfl) ?_
  refine lv_iload hx hb dL_law_191 (lv_at hl 5 rfl) ?_
  refine lv_iconst (v := 1) hx hb dL_law_193 (by decide) ?_
  refine lv_iadd hx hb dL_law_194 ?_
  refine kc_top (show (nI i) + 1 = nI (i + 1) from nI_add _ _) ?_
  refine kc_sld (i := i + 1) hx hb hXs hbl hbA hS (by omega) (by omega) dL_law_195 ?_
  refine kc_top hp1 ?_
  refine kc_wVi (w1 := wMd md cI 1 mK mc mD mr mw my mC mk ms mu mt mp mb me) (wr := [(ad 0, .inr (1, [.ref (ad 1), .ref (ad 2), .ref (ad 3), .ref (ad 4), .ref (ad 5), .int (nI K), .int (nI Dn), .int mv])), (ad 1, .inl (cI, 8, .inl cd)), (ad 2, .inl (cI, 8, .inl te)), (ad 3, .inl (cI, 8, .inl ri)), (ad 4, .inl (cI, 8, .inl pi)), (ad 5, .inl (cI, 8, .inl pw)), (ad 6, .inr (0, [.ref (ad 7), .ref (ad 8), .ref (ad 9), .ref (ad 10), .ref (ad 11), .ref (ad 12), .ref (ad 13), .int (nI C)])), (ad 7, .inl (cI, 24, .inl ko)), (ad 8, .inl (cI, 24, .inl so)), (ad 9, .inl (cI, 24, .inl tl)), (ad 10, .inl (cI, 216, .inl lp)), (ad 11, .inl (cI, 216, .inl lb)), (ad 12, .inl (cI, 216, .inl ld)), (ad 13, .inl (cI, 216, .inl le)), (ad 14, .inr (2, [.ref (ad 0), .ref (ad 6), .ref (ad 15), .ref (ad 16), .int dy])), (ad 15, .inl (cI, 8, .inl cl)), (ad 16, .inl (cI, 8, .inl dq)), (ad 17, .inl (cL, 1, .inr (.inl ou)))]) (ws1 := wLaw ad cI cd te ri pi pw K Dn mv ko so tl lp lb ld le C cl dq dy cL ou md 1 mK mc mD mr mw my mC mk ms mu mt mp mb me) (As := [.int code]) (rest := []) ⟨hx, hb, hml, hown, hts⟩ (c_X3_addKey_f1 l D md cI th mK mc mD mr mw my mC mk ms mu mt mp mb me code H.size m_hBad) (cwV 1 hts gL_law_X3_addKey rfl rfl rfl (by decide +kernel) ⟨Nat.le_of_ble_eq_true rfl, Nat.le_of_ble_eq_true rfl⟩) hK hP hD hS hA [18, 19, 20, 21, 22, 23, 24, 25, 26, 27] [0, 1, 2, 3, 4, 5, 6, 7, 8, 9, 10, 11, 12, 13, 14, 15, 16, 17] [0, 1, 2, 3, 4, 5, 6, 7, 8, 9, 10, 11, 12, 13, 14, 15, 16, 17, 18, 19, 20, 21, 22, 23, 24, 25, 26, 27] [0] rfl rfl rfl rfl (by decide) rfl rfl rfl 18 rfl rfl rfl rfl hl.1 rfl (Nat.le_of_ble_eq_true rfl) dL_law_196 ⟨kc_rc (by omega), kc_rs (by omega)⟩ (fun H locs hP hD hS => ?_)
  refine lv_istore (lv' := [(6, .int 0), (5, .int 1), (0, .ref b), (1, .ref (ad 14)), (2, .ref (md 0)), (3, .ref (ad 17)), (4, .int (nI i))]) hx hb dL_law_199 hl (by decide) rfl (fun ls hl => ?_)
  refine lv_aload_n hx hb dL_law_201 rfl (lv_at hl 4 rfl) ?_
  refine kc_rVi (As := []) (rest := []) ⟨hx, hb, hml, hown, hts⟩ (c_X3_thrown l D md cI 1 mK mc mD mr mw my mC mk ms mu mt mp mb me ) (cwV 0 hts gL_law_X3_thrown rfl rfl rfl (by decide +kernel) ⟨Nat.le_of_ble_eq_true rfl, Nat.le_of_ble_eq_true rfl⟩) hK hP [18, 19, 20, 21, 22, 23, 24, 25, 26, 27] [0] rfl rfl 18 rfl rfl rfl rfl hl.1 rfl (Nat.le_of_ble_eq_true rfl) dL_law_202 ⟨kc_rc (by omega), kc_rs (by omega)⟩ ?_
  refine lv_iload hx hb dL_law_205 (lv_at hl 1 rfl) ?_
  refine lv_icmp_eq (tgt := 212) hx hb dL_law_207 (by decide) (fun c_207 => ?_) (fun c_207 => absurd c_207 (by decide))
  refine lv_iload hx hb dL_law_212 (lv_at hl 1 rfl) ?_
  refine lv_if_ne (tgt := 229) hx hb dL_law_214 (by decide) (fun c_214 => ?_) (fun c_214 => absurd c_214 (by decide))
  refine lv_goto (tgt := 1633) hx hb dL_law_229 (by decide) ?_
  refine W.widen (k := cells + 2) (n := slots + 16) (by omega) (by omega) ?_
  exact K1 _ _ _ hP hD hS (lv_sub hl [2, 3, 4, 5, 6] rfl)
set_option maxHeartbeats 4000000 in
set_option maxRecDepth 100000 in
theorem lw_addKey_f2a_f2a {p : Program} {l : Launch} {e : Env} {s : State} {m : MethodId} {below : List Frame} {meth : Method} {c : Code} {Q : State → Prop} {b L : Nat} {xs : Nat → Int32} (hlf : l.stackTraces = false) (C0 : lw_At p s m meth c b L xs) {D : va_G} {cI cL : ClassId} (hK : kcK D [(cI, .int), (cL, .long)] s) (hX0 : kcX (fun q => s.heap.size ≤ q) s s.heap) (hL : L ≤ 2048) (i : Nat) (hi : i + 3 < L) (ad : Nat → Nat) (cd : Nat → Int32) (te : Nat → Int32) (ri : Nat → Int32) (pi : Nat → Int32) (pw : Nat → Int32) (K : Nat) (Dn : Nat) (mv : Int32) (ko : Nat → Int32) (so : Nat → Int32) (tl : Nat → Int32) (lp : Nat → Int32) (lb : Nat → Int32) (ld : Nat → Int32) (le : Nat → Int32) (C : Nat) (cl : Nat → Int32) (dq : Nat → Int32) (dy : Int32) (ou : Nat → Int64) (md : Nat → Nat) (th : Int32) (mK : Nat) (mc : Nat → Int32) (mD : Nat) (mr : Nat → Int32) (mw : Int32) (my : Int32) (mC : Nat) (mk : Nat → Int32) (ms : Nat → Int32) (mu : Nat → Int32) (mt : Nat → Int32) (mp : Nat → Int32) (mb : Nat → Int32) (me : Nat → Int32) (code : Int32) (h1 : ¬ code < 0) (h2 : code < 1024) (hKe : K = 8) (m_h1 : ¬ code < 0) (m_h2 : code < 1024) (m_hKe : mK = 8) (hp1 : xs (i + 1) = code)  {H : Heap} {locs : List Loc} {cells slots : Nat} (hce : cells + 2 ≤ 601024) (hsl : slots + 16 ≤ 7293034) (hP : va_P D vwCl (wLaw ad cI cd te ri pi pw K Dn mv ko so tl lp lb ld le C cl dq dy cL ou md th mK mc mD mr mw my mC mk ms mu mt mp mb me) H) (hD : va_D (fun q => s.heap.size ≤ q) (wLaw ad cI cd te ri pi pw K Dn mv ko so tl lp lb ld le C cl dq dy cL ou md th mK mc mD mr mw my mC mk ms mu mt mp mb me)) (hS : va_S (fun q => s.heap.size ≤ q) s.heap H locs) {ls : Array Slot} (hl : lv_has ls 9 [(0, .ref b), (1, .ref (ad 14)), (2, .ref (md 0)), (3, .ref (ad 17)), (4, .int (nI i))]) (K1 : ∀ (H : Heap) (locs : List Loc) (ls : Array Slot), va_P D vwCl (wLaw ad cI cd te ri pi pw K Dn mv ko so tl lp lb ld le C cl dq dy cL ou md 2 mK mc mD mr mw my mC mk ms mu mt mp mb me) H → va_D (fun q => s.heap.size ≤ q) (wLaw ad cI cd te ri pi pw K Dn mv ko so tl lp lb ld le C cl dq dy cL ou md 2 mK mc mD mr mw my mC mk ms mu mt mp mb me) → va_S (fun q => s.heap.size ≤ q) s.heap H locs → lv_has ls 9 [(0, .ref b), (1, .ref (ad 14)), (2, .ref (md 0)), (3, .ref (ad 17)), (4, .int (nI i))] → W p l e room_1 s m #[Value.ref b] below meth c H locs (cells + 2) (slots + 16) Q (F0 m 1633 ls [])) : W p l e room_1 s m #[Value.ref b] below meth c H locs cells slots Q (F0 m 176 ls []) := by
  obtain ⟨hx, hb, hr, hml, hown, hts, hXs, hbl, hlocks, hgv⟩ := id C0
  have hts := fun w h => hts w (wsL_law_in w h)
  have hb : c.code = cL_law := hb
  have hA : ∀ q : Nat, s.heap.size ≤ q → (fun q : Nat => s.heap.size ≤ q) q := fun _ h => h
  have hbA : ¬ (fun q : Nat => s.heap.size ≤ q) b := Nat.not_le.mpr hbl
  refine lv_aload_n hx hb dL_law_176 rfl (lv_at hl 1 rfl) ?_
  refine lv_aload_n hx hb dL_law_177 rfl (lv_at hl 0 rfl) ?_
  refine lv_iload hx hb dL_law_178 (lv_at hl 4 rfl) ?_
  refine lv_iconst (v := 1) hx hb dL_law_180 (by decide) ?_
  refine lv_iadd hx hb dL_law_181 ?_
  refine kc_top (show (nI i) + 1 = nI (i + 1) from nI_add _ _) ?_
  refine kc_sld (i := i + 1) hx hb hXs hbl hbA hS (by omega) (by omega) dL_law_182 ?_
  refine kc_top hp1 ?_
  refine lv_aload_n hx hb dL_law_183 rfl (lv_at hl 3 rfl) ?_
  have hX := kc_xat hX0 hS
  refine kc_hXi (w1 := wLh ad cI cd te ri pi pw K Dn mv ko so tl lp lb ld le C cl dq dy cL ou) (wr := [(md 0, .inr (3, [.int th, .int (nI mK), .ref (md 1), .int (nI mD), .ref (md 2), .int mw, .int my, .int (nI mC), .ref (md 3), .ref (md 4), .ref (md 5), .ref (md 6), .ref (md 7), .ref (md 8), .ref (md 9)])), (md 1, .inl (cI, 8, .inl mc)), (md 2, .inl (cI, 8, .inl mr)), (md 3, .inl (cI, 24, .inl mk)), (md 4, .inl (cI, 24, .inl ms)), (md 5, .inl (cI, 24, .inl mu)), (md 6, .inl (cI, 24, .inl mt)), (md 7, .inl (cI, 216, .inl mp)), (md 8, .inl (cI, 216, .inl mb)), (md 9, .inl (cI, 216, .inl me))]) (ws1 := wLaw ad cI cd te ri pi pw K Dn mv ko so tl lp lb ld le C cl dq dy cL ou md th mK mc mD mr mw my mC mk ms mu mt mp mb me) (As := [.ref (ad 14), .int code, .ref (ad 17)]) (rest := []) ⟨hx, hb, hml, hown, hts⟩ (c_L_addKey_f2a l hlf D ad cI cd te ri pi pw K Dn mv ko so tl lp lb ld le C cl dq dy cL ou code H.size h1 h2 hKe) (vx_cwSW 3 hts gL_law_L_addKey rfl rfl rfl (by decide +kernel) ⟨Nat.le_of_ble_eq_true rfl, Nat.le_of_ble_eq_true rfl⟩) hK hP hD hX hS hA [0, 1, 2, 3, 4, 5, 6, 7, 8, 9, 10, 11, 12, 13, 14, 15, 16, 17] [18, 19, 20, 21, 22, 23, 24, 25, 26, 27] [10, 11, 12, 13, 14, 15, 16, 17, 18, 19, 20, 21, 22, 23, 24, 25, 26, 27, 0, 1, 2, 3, 4, 5, 6, 7, 8, 9] [0, 1] rfl rfl rfl rfl (by decide) rfl rfl rfl rfl hl.1 rfl (Nat.le_of_ble_eq_true rfl) dL_law_184 ⟨kc_rc (by omega), kc_rs (by omega)⟩ (fun H locs hP hD hS => ?_)
  refine lv_istore (lv' := [(5, .int 2), (0, .ref b), (1, .ref (ad 14)), (2, .ref (md 0)), (3, .ref (ad 17)), (4, .int (nI i))]) hx hb dL_law_187 hl (by decide) rfl (fun ls hl => ?_)
  refine lv_aload_n hx hb dL_law_189 rfl (lv_at hl 3 rfl) ?_
  refine lv_aload_n hx hb dL_law_190 rfl (lv_at hl 1 rfl) ?_
  refine lv_iload hx hb dL_law_191 (lv_at hl 5 rfl) ?_
  refine lv_iconst (v := 1) hx hb dL_law_193 (by decide) ?_
  refine lv_iadd hx hb dL_law_194 ?_
  refine kc_top (show (nI i) + 1 = nI (i + 1) from nI_add _ _) ?_
  refine kc_sld (i := i + 1) hx hb hXs hbl hbA hS (by omega) (by omega) dL_law_195 ?_
  refine kc_top hp1 ?_
  refine kc_wVi (w1 := wMd md cI 2 mK mc mD mr mw my mC mk ms mu mt mp mb me) (wr := [(ad 0, .inr (1, [.ref (ad 1), .ref (ad 2), .ref (ad 3), .ref (ad 4), .ref (ad 5), .int (nI K), .int (nI Dn), .int mv])), (ad 1, .inl (cI, 8, .inl cd)), (ad 2, .inl (cI, 8, .inl te)), (ad 3, .inl (cI, 8, .inl ri)), (ad 4, .inl (cI, 8, .inl pi)), (ad 5, .inl (cI, 8, .inl pw)), (ad 6, .inr (0, [.ref (ad 7), .ref (ad 8), .ref (ad 9), .ref (ad 10), .ref (ad 11), .ref (ad 12), .ref (ad 13), .int (nI C)])), (ad 7, .inl (cI, 24, .inl ko)), (ad 8, .inl (cI, 24, .inl so)), (ad 9, .inl (cI, 24, .inl tl)), (ad 10, .inl (cI, 216, .inl lp)), (ad 11, .inl (cI, 216, .inl lb)), (ad 12, .inl (cI, 216, .inl ld)), (ad 13, .inl (cI, 216, .inl le)), (ad 14, .inr (2, [.ref (ad 0), .ref (ad 6), .ref (ad 15), .ref (ad 16), .int dy])), (ad 15, .inl (cI, 8, .inl cl)), (ad 16, .inl (cI, 8, .inl dq)), (ad 17, .inl (cL, 1, .inr (.inl ou)))]) (ws1 := wLaw ad cI cd te ri pi pw K Dn mv ko so tl lp lb ld le C cl dq dy cL ou md 2 mK mc mD mr mw my mC mk ms mu mt mp mb me) (As := [.int code]) (rest := []) ⟨hx, hb, hml, hown, hts⟩ (c_X3_addKey_f2a l D md cI th mK mc mD mr mw my mC mk ms mu mt mp mb me code H.size m_h1 m_h2 m_hKe) (cwV 1 hts gL_law_X3_addKey rfl rfl rfl (by decide +kernel) ⟨Nat.le_of_ble_eq_true rfl, Nat.le_of_ble_eq_true rfl⟩) hK hP hD hS hA [18, 19, 20, 21, 22, 23, 24, 25, 26, 27] [0, 1, 2, 3, 4, 5, 6, 7, 8, 9, 10, 11, 12, 13, 14, 15, 16, 17] [0, 1, 2, 3, 4, 5, 6, 7, 8, 9, 10, 11, 12, 13, 14, 15, 16, 17, 18, 19, 20, 21, 22, 23, 24, 25, 26, 27] [0] rfl rfl rfl rfl (by decide) rfl rfl rfl 18 rfl rfl rfl rfl hl.1 rfl (Nat.le_of_ble_eq_true rfl) dL_law_196 ⟨kc_rc (by omega), kc_rs (by omega)⟩ (fun H locs hP hD hS => ?_)
  refine lv_istore (lv' := [(6, .int 0), (5, .int 2), (0, .ref b), (1, .ref (ad 14)), (2, .ref (md 0)), (3, .ref (ad 17)), (4, .int (nI i))]) hx hb dL_law_199 hl (by decide) rfl (fun ls hl => ?_)
  refine lv_aload_n hx hb dL_law_201 rfl (lv_at hl 4 rfl) ?_
  refine kc_rVi (As := []) (rest := []) ⟨hx, hb, hml, hown, hts⟩ (c_X3_thrown l D md cI 2 mK mc mD mr mw my mC mk ms mu mt mp mb me ) (cwV 0 hts gL_law_X3_thrown rfl rfl rfl (by decide +kernel) ⟨Nat.le_of_ble_eq_true rfl, Nat.le_of_ble_eq_true rfl⟩) hK hP [18, 19, 20, 21, 22, 23, 24, 25, 26, 27] [0] rfl rfl 18 rfl rfl rfl rfl hl.1 rfl (Nat.le_of_ble_eq_true rfl) dL_law_202 ⟨kc_rc (by omega), kc_rs (by omega)⟩ ?_
  refine lv_iload hx hb dL_law_205 (lv_at hl 1 rfl) ?_
  refine lv_icmp_eq (tgt := 212) hx hb dL_law_207 (by decide) (fun c_207 => ?_) (fun c_207 => absurd c_207 (by decide))
  refine lv_iload hx hb dL_law_212 (lv_at hl 1 rfl) ?_
  refine lv_if_ne (tgt := 229) hx hb dL_law_214 (by decide) (fun c_214 => ?_) (fun c_214 => absurd c_214 (by decide))
  refine lv_goto (tgt := 1633) hx hb dL_law_229 (by decide) ?_
  refine W.widen (k := cells + 2) (n := slots + 16) (by omega) (by omega) ?_
  exact K1 _ _ _ hP hD hS (lv_sub hl [2, 3, 4, 5, 6] rfl)
set_option maxHeartbeats 4000000 in
set_option maxRecDepth 100000 in
theorem lw_addKey_f2b_f2b {p : Program} {l : Launch} {e : Env} {s : State} {m : MethodId} {below : List Frame} {meth : Method} {c : Code} {Q : State → Prop} {b L : Nat} {xs : Nat → Int32} (hlf : l.stackTraces = false) (C0 : lw_At p s m meth c b L xs) {D : va_G} {cI cL : ClassId} (hK : kcK D [(cI, .int), (cL, .long)] s) (hX0 : kcX (fun q => s.heap.size ≤ q) s s.heap) (hL : L ≤ 2048) (i : Nat) (hi : i + 3 < L) (ad : Nat → Nat) (cd : Nat → Int32) (te : Nat → Int32) (ri : Nat → Int32) (pi : Nat → Int32) (pw : Nat → Int32) (K : Nat) (Dn : Nat) (mv : Int32) (ko : Nat → Int32) (so : Nat → Int32) (tl : Nat → Int32) (lp : Nat → Int32) (lb : Nat → Int32) (ld : Nat → Int32) (le : Nat → Int32) (C : Nat) (cl : Nat → Int32) (dq : Nat → Int32) (dy : Int32) (ou : Nat → Int64) (md : Nat → Nat) (th : Int32) (mK : Nat) (mc : Nat → Int32) (mD : Nat) (mr : Nat → Int32) (mw : Int32) (my : Int32) (mC : Nat) (mk : Nat → Int32) (ms : Nat → Int32) (mu : Nat → Int32) (mt : Nat → Int32) (mp : Nat → Int32) (mb : Nat → Int32) (me : Nat → Int32) (code : Int32) (h1 : ¬ code < 0) (h2 : code < 1024) (hK7 : K < 8) (hf : jTaken cd K code = true) (m_h1 : ¬ code < 0) (m_h2 : code < 1024) (m_hK7 : mK < 8) (m_ht : jTaken mc mK code = true) (hp1 : xs (i + 1) = code)  {H : Heap} {locs : List Loc} {cells slots : Nat} (hce : cells + 2 ≤ 601024) (hsl : slots + 16 ≤ 7293034) (hP : va_P D vwCl (wLaw ad cI cd te ri pi pw K Dn mv ko so tl lp lb ld le C cl dq dy cL ou md th mK mc mD mr mw my mC mk ms mu mt mp mb me) H) (hD : va_D (fun q => s.heap.size ≤ q) (wLaw ad cI cd te ri pi pw K Dn mv ko so tl lp lb ld le C cl dq dy cL ou md th mK mc mD mr mw my mC mk ms mu mt mp mb me)) (hS : va_S (fun q => s.heap.size ≤ q) s.heap H locs) {ls : Array Slot} (hl : lv_has ls 9 [(0, .ref b), (1, .ref (ad 14)), (2, .ref (md 0)), (3, .ref (ad 17)), (4, .int (nI i))]) (K1 : ∀ (H : Heap) (locs : List Loc) (ls : Array Slot), va_P D vwCl (wLaw ad cI cd te ri pi pw K Dn mv ko so tl lp lb ld le C cl dq dy cL ou md 2 mK mc mD mr mw my mC mk ms mu mt mp mb me) H → va_D (fun q => s.heap.size ≤ q) (wLaw ad cI cd te ri pi pw K Dn mv ko so tl lp lb ld le C cl dq dy cL ou md 2 mK mc mD mr mw my mC mk ms mu mt mp mb me) → va_S (fun q => s.heap.size ≤ q) s.heap H locs → lv_has ls 9 [(0, .ref b), (1, .ref (ad 14)), (2, .ref (md 0)), (3, .ref (ad 17)), (4, .int (nI i))] → W p l e room_1 s m #[Value.ref b] below meth c H locs (cells + 2) (slots + 16) Q (F0 m 1633 ls [])) : W p l e room_1 s m #[Value.ref b] below meth c H locs cells slots Q (F0 m 176 ls []) := by
  obtain ⟨hx, hb, hr, hml, hown, hts, hXs, hbl, hlocks, hgv⟩ := id C0
  have hts := fun w h => hts w (wsL_law_in w h)
  have hb : c.code = cL_law := hb
  have hA : ∀ q : Nat, s.heap.size ≤ q → (fun q : Nat => s.heap.size ≤ q) q := fun _ h => h
  have hbA : ¬ (fun q : Nat => s.heap.size ≤ q) b := Nat.not_le.mpr hbl
  refine lv_aload_n hx hb dL_law_176 rfl (lv_at hl 1 rfl) ?_
  refine lv_aload_n hx hb dL_law_177 rfl (lv_at hl 0 rfl) ?_
  refine lv_iload hx hb dL_law_178 (lv_at hl 4 rfl) ?_
  refine lv_iconst (v := 1) hx hb dL_law_180 (by decide) ?_
  refine lv_iadd hx hb dL_law_181 ?_
  refine kc_top (show (nI i) + 1 = nI (i + 1) from nI_add _ _) ?_
  refine kc_sld (i := i + 1) hx hb hXs hbl hbA hS (by omega) (by omega) dL_law_182 ?_
  refine kc_top hp1 ?_
  refine lv_aload_n hx hb dL_law_183 rfl (lv_at hl 3 rfl) ?_
  have hX := kc_xat hX0 hS
  refine kc_hXi (w1 := wLh ad cI cd te ri pi pw K Dn mv ko so tl lp lb ld le C cl dq dy cL ou) (wr := [(md 0, .inr (3, [.int th, .int (nI mK), .ref (md 1), .int (nI mD), .ref (md 2), .int mw, .int my, .int (nI mC), .ref (md 3), .ref (md 4), .ref (md 5), .ref (md 6), .ref (md 7), .ref (md 8), .ref (md 9)])), (md 1, .inl (cI, 8, .inl mc)), (md 2, .inl (cI, 8, .inl mr)), (md 3, .inl (cI, 24, .inl mk)), (md 4, .inl (cI, 24, .inl ms)), (md 5, .inl (cI, 24, .inl mu)), (md 6, .inl (cI, 24, .inl mt)), (md 7, .inl (cI, 216, .inl mp)), (md 8, .inl (cI, 216, .inl mb)), (md 9, .inl (cI, 216, .inl me))]) (ws1 := wLaw ad cI cd te ri pi pw K Dn mv ko so tl lp lb ld le C cl dq dy cL ou md th mK mc mD mr mw my mC mk ms mu mt mp mb me) (As := [.ref (ad 14), .int code, .ref (ad 17)]) (rest := []) ⟨hx, hb, hml, hown, hts⟩ (c_L_addKey_f2b l hlf D ad cI cd te ri pi pw K Dn mv ko so tl lp lb ld le C cl dq dy cL ou code H.size h1 h2 hK7 hf) (vx_cwSW 3 hts gL_law_L_addKey rfl rfl rfl (by decide +kernel) ⟨Nat.le_of_ble_eq_true rfl, Nat.le_of_ble_eq_true rfl⟩) hK hP hD hX hS hA [0, 1, 2, 3, 4, 5, 6, 7, 8, 9, 10, 11, 12, 13, 14, 15, 16, 17] [18, 19, 20, 21, 22, 23, 24, 25, 26, 27] [10, 11, 12, 13, 14, 15, 16, 17, 18, 19, 20, 21, 22, 23, 24, 25, 26, 27, 0, 1, 2, 3, 4, 5, 6, 7, 8, 9] [0, 1] rfl rfl rfl rfl (by decide) rfl rfl rfl rfl hl.1 rfl (Nat.le_of_ble_eq_true rfl) dL_law_184 ⟨kc_rc (by omega), kc_rs (by omega)⟩ (fun H locs hP hD hS => ?_)
  refine lv_istore (lv' := [(5, .int 2), (0, .ref b), (1, .ref (ad 14)), (2, .ref (md 0)), (3, .ref (ad 17)), (4, .int (nI i))]) hx hb dL_law_187 hl (by decide) rfl (fun ls hl => ?_)
  refine lv_aload_n hx hb dL_law_189 rfl (lv_at hl 3 rfl) ?_
  refine lv_aload_n hx hb dL_law_190 rfl (lv_at hl 1 rfl) ?_
  refine lv_iload hx hb dL_law_191 (lv_at hl 5 rfl) ?_
  refine lv_iconst (v := 1) hx hb dL_law_193 (by decide) ?_
  refine lv_iadd hx hb dL_law_194 ?_
  refine kc_top (show (nI i) + 1 = nI (i + 1) from nI_add _ _) ?_
  refine kc_sld (i := i + 1) hx hb hXs hbl hbA hS (by omega) (by omega) dL_law_195 ?_
  refine kc_top hp1 ?_
  refine kc_wVi (w1 := wMd md cI 2 mK mc mD mr mw my mC mk ms mu mt mp mb me) (wr := [(ad 0, .inr (1, [.ref (ad 1), .ref (ad 2), .ref (ad 3), .ref (ad 4), .ref (ad 5), .int (nI K), .int (nI Dn), .int mv])), (ad 1, .inl (cI, 8, .inl cd)), (ad 2, .inl (cI, 8, .inl te)), (ad 3, .inl (cI, 8, .inl ri)), (ad 4, .inl (cI, 8, .inl pi)), (ad 5, .inl (cI, 8, .inl pw)), (ad 6, .inr (0, [.ref (ad 7), .ref (ad 8), .ref (ad 9), .ref (ad 10), .ref (ad 11), .ref (ad 12), .ref (ad 13), .int (nI C)])), (ad 7, .inl (cI, 24, .inl ko)), (ad 8, .inl (cI, 24, .inl so)), (ad 9, .inl (cI, 24, .inl tl)), (ad 10, .inl (cI, 216, .inl lp)), (ad 11, .inl (cI, 216, .inl lb)), (ad 12, .inl (cI, 216, .inl ld)), (ad 13, .inl (cI, 216, .inl le)), (ad 14, .inr (2, [.ref (ad 0), .ref (ad 6), .ref (ad 15), .ref (ad 16), .int dy])), (ad 15, .inl (cI, 8, .inl cl)), (ad 16, .inl (cI, 8, .inl dq)), (ad 17, .inl (cL, 1, .inr (.inl ou)))]) (ws1 := wLaw ad cI cd te ri pi pw K Dn mv ko so tl lp lb ld le C cl dq dy cL ou md 2 mK mc mD mr mw my mC mk ms mu mt mp mb me) (As := [.int code]) (rest := []) ⟨hx, hb, hml, hown, hts⟩ (c_X3_addKey_f2b l D md cI th mK mc mD mr mw my mC mk ms mu mt mp mb me code H.size m_h1 m_h2 m_hK7 m_ht) (cwV 1 hts gL_law_X3_addKey rfl rfl rfl (by decide +kernel) ⟨Nat.le_of_ble_eq_true rfl, Nat.le_of_ble_eq_true rfl⟩) hK hP hD hS hA [18, 19, 20, 21, 22, 23, 24, 25, 26, 27] [0, 1, 2, 3, 4, 5, 6, 7, 8, 9, 10, 11, 12, 13, 14, 15, 16, 17] [0, 1, 2, 3, 4, 5, 6, 7, 8, 9, 10, 11, 12, 13, 14, 15, 16, 17, 18, 19, 20, 21, 22, 23, 24, 25, 26, 27] [0] rfl rfl rfl rfl (by decide) rfl rfl rfl 18 rfl rfl rfl rfl hl.1 rfl (Nat.le_of_ble_eq_true rfl) dL_law_196 ⟨kc_rc (by omega), kc_rs (by omega)⟩ (fun H locs hP hD hS => ?_)
  refine lv_istore (lv' := [(6, .int 0), (5, .int 2), (0, .ref b), (1, .ref (ad 14)), (2, .ref (md 0)), (3, .ref (ad 17)), (4, .int (nI i))]) hx hb dL_law_199 hl (by decide) rfl (fun ls hl => ?_)
  refine lv_aload_n hx hb dL_law_201 rfl (lv_at hl 4 rfl) ?_
  refine kc_rVi (As := []) (rest := []) ⟨hx, hb, hml, hown, hts⟩ (c_X3_thrown l D md cI 2 mK mc mD mr mw my mC mk ms mu mt mp mb me ) (cwV 0 hts gL_law_X3_thrown rfl rfl rfl (by decide +kernel) ⟨Nat.le_of_ble_eq_true rfl, Nat.le_of_ble_eq_true rfl⟩) hK hP [18, 19, 20, 21, 22, 23, 24, 25, 26, 27] [0] rfl rfl 18 rfl rfl rfl rfl hl.1 rfl (Nat.le_of_ble_eq_true rfl) dL_law_202 ⟨kc_rc (by omega), kc_rs (by omega)⟩ ?_
  refine lv_iload hx hb dL_law_205 (lv_at hl 1 rfl) ?_
  refine lv_icmp_eq (tgt := 212) hx hb dL_law_207 (by decide) (fun c_207 => ?_) (fun c_207 => absurd c_207 (by decide))
  refine lv_iload hx hb dL_law_212 (lv_at hl 1 rfl) ?_
  refine lv_if_ne (tgt := 229) hx hb dL_law_214 (by decide) (fun c_214 => ?_) (fun c_214 => absurd c_214 (by decide))
  refine lv_goto (tgt := 1633) hx hb dL_law_229 (by decide) ?_
  refine W.widen (k := cells + 2) (n := slots + 16) (by omega) (by omega) ?_
  exact K1 _ _ _ hP hD hS (lv_sub hl [2, 3, 4, 5, 6] rfl)
set_option maxHeartbeats 4000000 in
set_option maxRecDepth 100000 in
theorem lw_addDoor_ok_ok {p : Program} {l : Launch} {e : Env} {s : State} {m : MethodId} {below : List Frame} {meth : Method} {c : Code} {Q : State → Prop} {b L : Nat} {xs : Nat → Int32} (hlf : l.stackTraces = false) (C0 : lw_At p s m meth c b L xs) {D : va_G} {cI cL : ClassId} (hK : kcK D [(cI, .int), (cL, .long)] s) (hX0 : kcX (fun q => s.heap.size ≤ q) s s.heap) (hL : L ≤ 2048) (i : Nat) (hi : i + 3 < L) (ad : Nat → Nat) (cd : Nat → Int32) (te : Nat → Int32) (ri : Nat → Int32) (pi : Nat → Int32) (pw : Nat → Int32) (K : Nat) (Dn : Nat) (mv : Int32) (ko : Nat → Int32) (so : Nat → Int32) (tl : Nat → Int32) (lp : Nat → Int32) (lb : Nat → Int32) (ld : Nat → Int32) (le : Nat → Int32) (C : Nat) (cl : Nat → Int32) (dq : Nat → Int32) (dy : Int32) (ou : Nat → Int64) (md : Nat → Nat) (th : Int32) (mK : Nat) (mc : Nat → Int32) (mD : Nat) (mr : Nat → Int32) (mw : Int32) (my : Int32) (mC : Nat) (mk : Nat → Int32) (ms : Nat → Int32) (mu : Nat → Int32) (mt : Nat → Int32) (mp : Nat → Int32) (mb : Nat → Int32) (me : Nat → Int32) (r : Int32) (hK8 : K ≤ 8) (hs : jSetOf K r = true) (hD7 : Dn < 8) (m_hK8 : mK ≤ 8) (m_hs : jSet mK r = true) (m_hD7 : mD < 8) (hp1 : xs (i + 1) = r) (hres : (nI Dn : Int32) = (nI mD)) {H : Heap} {locs : List Loc} {cells slots : Nat} (hce : cells + 2 ≤ 601024) (hsl : slots + 16 ≤ 7293034) (hP : va_P D vwCl (wLaw ad cI cd te ri pi pw K Dn mv ko so tl lp lb ld le C cl dq dy cL ou md th mK mc mD mr mw my mC mk ms mu mt mp mb me) H) (hD : va_D (fun q => s.heap.size ≤ q) (wLaw ad cI cd te ri pi pw K Dn mv ko so tl lp lb ld le C cl dq dy cL ou md th mK mc mD mr mw my mC mk ms mu mt mp mb me)) (hS : va_S (fun q => s.heap.size ≤ q) s.heap H locs) {ls : Array Slot} (hl : lv_has ls 9 [(0, .ref b), (1, .ref (ad 14)), (2, .ref (md 0)), (3, .ref (ad 17)), (4, .int (nI i))]) (K1 : ∀ (H : Heap) (locs : List Loc) (ls : Array Slot), va_P D vwCl (wLaw ad cI cd te (upd ri Dn r) (upd pi Dn (jPinsFor te r K)) pw K (Dn + 1) (mv + jPop (pi Dn ^^^ jPinsFor te r K)) ko so tl lp lb ld le C cl dq dy cL (vp_updL ou 0 (Int32.toInt64 (nI Dn))) md 0 mK mc (mD + 1) (upd mr mD r) (mw + jPop (mAll (upd mr mD r) mc mK mD 5)) my mC mk ms mu mt mp mb me) H → va_D (fun q => s.heap.size ≤ q) (wLaw ad cI cd te (upd ri Dn r) (upd pi Dn (jPinsFor te r K)) pw K (Dn + 1) (mv + jPop (pi Dn ^^^ jPinsFor te r K)) ko so tl lp lb ld le C cl dq dy cL (vp_updL ou 0 (Int32.toInt64 (nI Dn))) md 0 mK mc (mD + 1) (upd mr mD r) (mw + jPop (mAll (upd mr mD r) mc mK mD 5)) my mC mk ms mu mt mp mb me) → va_S (fun q => s.heap.size ≤ q) s.heap H locs → lv_has ls 9 [(0, .ref b), (1, .ref (ad 14)), (2, .ref (md 0)), (3, .ref (ad 17)), (4, .int (nI i))] → W p l e room_1 s m #[Value.ref b] below meth c H locs (cells + 2) (slots + 16) Q (F0 m 1633 ls [])) : W p l e room_1 s m #[Value.ref b] below meth c H locs cells slots Q (F0 m 232 ls []) := by
  obtain ⟨hx, hb, hr, hml, hown, hts, hXs, hbl, hlocks, hgv⟩ := id C0
  have hts := fun w h => hts w (wsL_law_in w h)
  have hb : c.code = cL_law := hb
  have hA : ∀ q : Nat, s.heap.size ≤ q → (fun q : Nat => s.heap.size ≤ q) q := fun _ h => h
  have hbA : ¬ (fun q : Nat => s.heap.size ≤ q) b := Nat.not_le.mpr hbl
  refine lv_aload_n hx hb dL_law_232 rfl (lv_at hl 1 rfl) ?_
  refine lv_aload_n hx hb dL_law_233 rfl (lv_at hl 0 rfl) ?_
  refine lv_iload hx hb dL_law_234 (lv_at hl 4 rfl) ?_
  refine lv_iconst (v := 1) hx hb dL_law_236 (by decide) ?_
  refine lv_iadd hx hb dL_law_237 ?_
  refine kc_top (show (nI i) + 1 = nI (i + 1) from nI_add _ _) ?_
  refine kc_sld (i := i + 1) hx hb hXs hbl hbA hS (by omega) (by omega) dL_law_238 ?_
  refine kc_top hp1 ?_
  refine lv_aload_n hx hb dL_law_239 rfl (lv_at hl 3 rfl) ?_
  refine kc_hSi (w1 := wLh ad cI cd te (upd ri Dn r) (upd pi Dn (jPinsFor te r K)) pw K (Dn + 1) (mv + jPop (pi Dn ^^^ jPinsFor te r K)) ko so tl lp lb ld le C cl dq dy cL (vp_updL ou 0 (Int32.toInt64 (nI Dn)))) (wr := [(md 0, .inr (3, [.int th, .int (nI mK), .ref (md 1), .int (nI mD), .ref (md 2), .int mw, .int my, .int (nI mC), .ref (md 3), .ref (md 4), .ref (md 5), .ref (md 6), .ref (md 7), .ref (md 8), .ref (md 9)])), (md 1, .inl (cI, 8, .inl mc)), (md 2, .inl (cI, 8, .inl mr)), (md 3, .inl (cI, 24, .inl mk)), (md 4, .inl (cI, 24, .inl ms)), (md 5, .inl (cI, 24, .inl mu)), (md 6, .inl (cI, 24, .inl mt)), (md 7, .inl (cI, 216, .inl mp)), (md 8, .inl (cI, 216, .inl mb)), (md 9, .inl (cI, 216, .inl me))]) (ws1 := wLaw ad cI cd te (upd ri Dn r) (upd pi Dn (jPinsFor te r K)) pw K (Dn + 1) (mv + jPop (pi Dn ^^^ jPinsFor te r K)) ko so tl lp lb ld le C cl dq dy cL (vp_updL ou 0 (Int32.toInt64 (nI Dn))) md th mK mc mD mr mw my mC mk ms mu mt mp mb me) (As := [.ref (ad 14), .int r, .ref (ad 17)]) (rest := []) ⟨hx, hb, hml, hown, hts⟩ (c_L_addDoor_ok l D ad cI cd te ri pi pw K Dn mv ko so tl lp lb ld le C cl dq dy cL ou r H.size hK8 hs hD7) (vx_cwSW 3 hts gL_law_L_addDoor rfl rfl rfl (by decide +kernel) ⟨Nat.le_of_ble_eq_true rfl, Nat.le_of_ble_eq_true rfl⟩) hK hP hD hS hA [0, 1, 2, 3, 4, 5, 6, 7, 8, 9, 10, 11, 12, 13, 14, 15, 16, 17] [18, 19, 20, 21, 22, 23, 24, 25, 26, 27] [10, 11, 12, 13, 14, 15, 16, 17, 18, 19, 20, 21, 22, 23, 24, 25, 26, 27, 0, 1, 2, 3, 4, 5, 6, 7, 8, 9] [0, 1] rfl rfl rfl rfl (by decide) rfl rfl rfl rfl hl.1 rfl (Nat.le_of_ble_eq_true rfl) dL_law_240 ⟨kc_rc (by omega), kc_rs (by omega)⟩ (fun H locs hP hD hS => ?_)
  refine lv_istore (lv' := [(5, .int 0), (0, .ref b), (1, .ref (ad 14)), (2, .ref (md 0)), (3, .ref (ad 17)), (4, .int (nI i))]) hx hb dL_law_243 hl (by decide) rfl (fun ls hl => ?_)
  refine lv_aload_n hx hb dL_law_245 rfl (lv_at hl 3 rfl) ?_
  refine lv_aload_n hx hb dL_law_246 rfl (lv_at hl 1 rfl) ?_
  refine lv_iload hx hb dL_law_247 (lv_at hl 5 rfl) ?_
  refine lv_iconst (v := 1) hx hb dL_law_249 (by decide) ?_
  refine lv_iadd hx hb dL_law_250 ?_
  refine kc_top (show (nI i) + 1 = nI (i + 1) from nI_add _ _) ?_
  refine kc_sld (i := i + 1) hx hb hXs hbl hbA hS (by omega) (by omega) dL_law_251 ?_
  refine kc_top hp1 ?_
  refine kc_wVi (w1 := wMd md cI 0 mK mc (mD + 1) (upd mr mD r) (mw + jPop (mAll (upd mr mD r) mc mK mD 5)) my mC mk ms mu mt mp mb me) (wr := [(ad 0, .inr (1, [.ref (ad 1), .ref (ad 2), .ref (ad 3), .ref (ad 4), .ref (ad 5), .int (nI K), .int (nI (Dn + 1)), .int (mv + jPop (pi Dn ^^^ jPinsFor te r K))])), (ad 1, .inl (cI, 8, .inl cd)), (ad 2, .inl (cI, 8, .inl te)), (ad 3, .inl (cI, 8, .inl (upd ri Dn r))), (ad 4, .inl (cI, 8, .inl (upd pi Dn (jPinsFor te r K)))), (ad 5, .inl (cI, 8, .inl pw)), (ad 6, .inr (0, [.ref (ad 7), .ref (ad 8), .ref (ad 9), .ref (ad 10), .ref (ad 11), .ref (ad 12), .ref (ad 13), .int (nI C)])), (ad 7, .inl (cI, 24, .inl ko)), (ad 8, .inl (cI, 24, .inl so)), (ad 9, .inl (cI, 24, .inl tl)), (ad 10, .inl (cI, 216, .inl lp)), (ad 11, .inl (cI, 216, .inl lb)), (ad 12, .inl (cI, 216, .inl ld)), (ad 13, .inl (cI, 216, .inl le)), (ad 14, .inr (2, [.ref (ad 0), .ref (ad 6), .ref (ad 15), .ref (ad 16), .int dy])), (ad 15, .inl (cI, 8, .inl cl)), (ad 16, .inl (cI, 8, .inl dq)), (ad 17, .inl (cL, 1, .inr (.inl (vp_updL ou 0 (Int32.toInt64 (nI Dn))))))]) (ws1 := wLaw ad cI cd te (upd ri Dn r) (upd pi Dn (jPinsFor te r K)) pw K (Dn + 1) (mv + jPop (pi Dn ^^^ jPinsFor te r K)) ko so tl lp lb ld le C cl dq dy cL (vp_updL ou 0 (Int32.toInt64 (nI Dn))) md 0 mK mc (mD + 1) (upd mr mD r) (mw + jPop (mAll (upd mr mD r) mc mK mD 5)) my mC mk ms mu mt mp mb me) (As := [.int r]) (rest := []) ⟨hx, hb, hml, hown, hts⟩ (c_X3_addDoor_ok l D md cI th mK mc mD mr mw my mC mk ms mu mt mp mb me r H.size m_hK8 m_hs m_hD7) (cwV 1 hts gL_law_X3_addDoor rfl rfl rfl (by decide +kernel) ⟨Nat.le_of_ble_eq_true rfl, Nat.le_of_ble_eq_true rfl⟩) hK hP hD hS hA [18, 19, 20, 21, 22, 23, 24, 25, 26, 27] [0, 1, 2, 3, 4, 5, 6, 7, 8, 9, 10, 11, 12, 13, 14, 15, 16, 17] [0, 1, 2, 3, 4, 5, 6, 7, 8, 9, 10, 11, 12, 13, 14, 15, 16, 17, 18, 19, 20, 21, 22, 23, 24, 25, 26, 27] [0] rfl rfl rfl rfl (by decide) rfl rfl rfl 18 rfl rfl rfl rfl hl.1 rfl (Nat.le_of_ble_eq_true rfl) dL_law_252 ⟨kc_rc (by omega), kc_rs (by omega)⟩ (fun H locs hP hD hS => ?_)
  refine lv_istore (lv' := [(6, .int (nI mD)), (5, .int 0), (0, .ref b), (1, .ref (ad 14)), (2, .ref (md 0)), (3, .ref (ad 17)), (4, .int (nI i))]) hx hb dL_law_255 hl (by decide) rfl (fun ls hl => ?_)
  refine lv_aload_n hx hb dL_law_257 rfl (lv_at hl 4 rfl) ?_
  refine kc_rVi (As := []) (rest := []) ⟨hx, hb, hml, hown, hts⟩ (c_X3_thrown l D md cI 0 mK mc (mD + 1) (upd mr mD r) (mw + jPop (mAll (upd mr mD r) mc mK mD 5)) my mC mk ms mu mt mp mb me ) (cwV 0 hts gL_law_X3_thrown rfl rfl rfl (by decide +kernel) ⟨Nat.le_of_ble_eq_true rfl, Nat.le_of_ble_eq_true rfl⟩) hK hP [18, 19, 20, 21, 22, 23, 24, 25, 26, 27] [0] rfl rfl 18 rfl rfl rfl rfl hl.1 rfl (Nat.le_of_ble_eq_true rfl) dL_law_258 ⟨kc_rc (by omega), kc_rs (by omega)⟩ ?_
  refine lv_iload hx hb dL_law_261 (lv_at hl 1 rfl) ?_
  refine lv_icmp_eq (tgt := 268) hx hb dL_law_263 (by decide) (fun c_263 => ?_) (fun c_263 => absurd c_263 (by decide))
  refine lv_iload hx hb dL_law_268 (lv_at hl 1 rfl) ?_
  refine lv_if_ne (tgt := 285) hx hb dL_law_270 (by decide) (fun c_270 => absurd c_270 (by decide)) (fun c_270 => ?_)
  refine lv_aload_n hx hb dL_law_273 rfl (lv_at hl 5 rfl) ?_
  refine lv_iconst (v := 0) hx hb dL_law_274 (by decide) ?_
  refine kc_lld (i := 0) (n := 1) hx hb hK hP 17 1 rfl rfl (by decide) (by decide) dL_law_275 ?_
  refine kc_topl (show ((vp_updL ou 0 (Int32.toInt64 (nI Dn)))) 0 = Int32.toInt64 (nI Dn) from pk_uLs) ?_
  refine lv_iload hx hb dL_law_276 (lv_at hl 0 rfl) ?_
  refine lv_i2l (v := Int32.toInt64 (nI mD)) hx hb dL_law_278 rfl ?_
  refine W.lcmp hx hb dL_law_279 ?_
  refine kc_top (show lg_cmp (Int32.toInt64 (nI Dn)) (Int32.toInt64 (nI mD)) = 0 from kc_lcmp0 (congrArg Int32.toInt64 hres)) ?_
  refine lv_if_eq (tgt := 285) hx hb dL_law_280 (by decide) (fun c_280 => ?_) (fun c_280 => absurd c_280 (by decide))
  refine lv_goto (tgt := 1633) hx hb dL_law_285 (by decide) ?_
  refine W.widen (k := cells + 2) (n := slots + 16) (by omega) (by omega) ?_
  exact K1 _ _ _ hP hD hS (lv_sub hl [2, 3, 4, 5, 6] rfl)
set_option maxHeartbeats 4000000 in
set_option maxRecDepth 100000 in
theorem lw_addDoor_f1_f1 {p : Program} {l : Launch} {e : Env} {s : State} {m : MethodId} {below : List Frame} {meth : Method} {c : Code} {Q : State → Prop} {b L : Nat} {xs : Nat → Int32} (hlf : l.stackTraces = false) (C0 : lw_At p s m meth c b L xs) {D : va_G} {cI cL : ClassId} (hK : kcK D [(cI, .int), (cL, .long)] s) (hX0 : kcX (fun q => s.heap.size ≤ q) s s.heap) (hL : L ≤ 2048) (i : Nat) (hi : i + 3 < L) (ad : Nat → Nat) (cd : Nat → Int32) (te : Nat → Int32) (ri : Nat → Int32) (pi : Nat → Int32) (pw : Nat → Int32) (K : Nat) (Dn : Nat) (mv : Int32) (ko : Nat → Int32) (so : Nat → Int32) (tl : Nat → Int32) (lp : Nat → Int32) (lb : Nat → Int32) (ld : Nat → Int32) (le : Nat → Int32) (C : Nat) (cl : Nat → Int32) (dq : Nat → Int32) (dy : Int32) (ou : Nat → Int64) (md : Nat → Nat) (th : Int32) (mK : Nat) (mc : Nat → Int32) (mD : Nat) (mr : Nat → Int32) (mw : Int32) (my : Int32) (mC : Nat) (mk : Nat → Int32) (ms : Nat → Int32) (mu : Nat → Int32) (mt : Nat → Int32) (mp : Nat → Int32) (mb : Nat → Int32) (me : Nat → Int32) (r : Int32) (hBad : ¬ jSetOf K r = true) (m_hBad : ¬ jSet mK r = true) (hp1 : xs (i + 1) = r)  {H : Heap} {locs : List Loc} {cells slots : Nat} (hce : cells + 2 ≤ 601024) (hsl : slots + 16 ≤ 7293034) (hP : va_P D vwCl (wLaw ad cI cd te ri pi pw K Dn mv ko so tl lp lb ld le C cl dq dy cL ou md th mK mc mD mr mw my mC mk ms mu mt mp mb me) H) (hD : va_D (fun q => s.heap.size ≤ q) (wLaw ad cI cd te ri pi pw K Dn mv ko so tl lp lb ld le C cl dq dy cL ou md th mK mc mD mr mw my mC mk ms mu mt mp mb me)) (hS : va_S (fun q => s.heap.size ≤ q) s.heap H locs) {ls : Array Slot} (hl : lv_has ls 9 [(0, .ref b), (1, .ref (ad 14)), (2, .ref (md 0)), (3, .ref (ad 17)), (4, .int (nI i))]) (K1 : ∀ (H : Heap) (locs : List Loc) (ls : Array Slot), va_P D vwCl (wLaw ad cI cd te ri pi pw K Dn mv ko so tl lp lb ld le C cl dq dy cL ou md 1 mK mc mD mr mw my mC mk ms mu mt mp mb me) H → va_D (fun q => s.heap.size ≤ q) (wLaw ad cI cd te ri pi pw K Dn mv ko so tl lp lb ld le C cl dq dy cL ou md 1 mK mc mD mr mw my mC mk ms mu mt mp mb me) → va_S (fun q => s.heap.size ≤ q) s.heap H locs → lv_has ls 9 [(0, .ref b), (1, .ref (ad 14)), (2, .ref (md 0)), (3, .ref (ad 17)), (4, .int (nI i))] → W p l e room_1 s m #[Value.ref b] below meth c H locs (cells + 2) (slots + 16) Q (F0 m 1633 ls [])) : W p l e room_1 s m #[Value.ref b] below meth c H locs cells slots Q (F0 m 232 ls []) := by
  obtain ⟨hx, hb, hr, hml, hown, hts, hXs, hbl, hlocks, hgv⟩ := id C0
  have hts := fun w h => hts w (wsL_law_in w h)
  have hb : c.code = cL_law := hb
  have hA : ∀ q : Nat, s.heap.size ≤ q → (fun q : Nat => s.heap.size ≤ q) q := fun _ h => h
  have hbA : ¬ (fun q : Nat => s.heap.size ≤ q) b := Nat.not_le.mpr hbl
  refine lv_aload_n hx hb dL_law_232 rfl (lv_at hl 1 rfl) ?_
  refine lv_aload_n hx hb dL_law_233 rfl (lv_at hl 0 rfl) ?_
  refine lv_iload hx hb dL_law_234 (lv_at hl 4 rfl) ?_
  refine lv_iconst (v := 1) hx hb dL_law_236 (by decide) ?_
  refine lv_iadd hx hb dL_law_237 ?_
  refine kc_top (show (nI i) + 1 = nI (i + 1) from nI_add _ _) ?_
  refine kc_sld (i := i + 1) hx hb hXs hbl hbA hS (by omega) (by omega) dL_law_238 ?_
  refine kc_top hp1 ?_
  refine lv_aload_n hx hb dL_law_239 rfl (lv_at hl 3 rfl) ?_
  have hX := kc_xat hX0 hS
  refine kc_hXi (w1 := wLh ad cI cd te ri pi pw K Dn mv ko so tl lp lb ld le C cl dq dy cL ou) (wr := [(md 0, .inr (3, [.int th, .int (nI mK), .ref (md 1), .int (nI mD), .ref (md 2), .int mw, .int my, .int (nI mC), .ref (md 3), .ref (md 4), .ref (md 5), .ref (md 6), .ref (md 7), .ref (md 8), .ref (md 9)])), (md 1, .inl (cI, 8, .inl mc)), (md 2, .inl (cI, 8, .inl mr)), (md 3, .inl (cI, 24, .inl mk)), (md 4, .inl (cI, 24, .inl ms)), (md 5, .inl (cI, 24, .inl mu)), (md 6, .inl (cI, 24, .inl mt)), (md 7, .inl (cI, 216, .inl mp)), (md 8, .inl (cI, 216, .inl mb)), (md 9, .inl (cI, 216, .inl me))]) (ws1 := wLaw ad cI cd te ri pi pw K Dn mv ko so tl lp lb ld le C cl dq dy cL ou md th mK mc mD mr mw my mC mk ms mu mt mp mb me) (As := [.ref (ad 14), .int r, .ref (ad 17)]) (rest := []) ⟨hx, hb, hml, hown, hts⟩ (c_L_addDoor_f1 l hlf D ad cI cd te ri pi pw K Dn mv ko so tl lp lb ld le C cl dq dy cL ou r H.size hBad) (vx_cwSW 3 hts gL_law_L_addDoor rfl rfl rfl (by decide +kernel) ⟨Nat.le_of_ble_eq_true rfl, Nat.le_of_ble_eq_true rfl⟩) hK hP hD hX hS hA [0, 1, 2, 3, 4, 5, 6, 7, 8, 9, 10, 11, 12, 13, 14, 15, 16, 17] [18, 19, 20, 21, 22, 23, 24, 25, 26, 27] [10, 11, 12, 13, 14, 15, 16, 17, 18, 19, 20, 21, 22, 23, 24, 25, 26, 27, 0, 1, 2, 3, 4, 5, 6, 7, 8, 9] [0, 1] rfl rfl rfl rfl (by decide) rfl rfl rfl rfl hl.1 rfl (Nat.le_of_ble_eq_true rfl) dL_law_240 ⟨kc_rc (by omega), kc_rs (by omega)⟩ (fun H locs hP hD hS => ?_)
  refine lv_istore (lv' := [(5, .int 1), (0, .ref b), (1, .ref (ad 14)), (2, .ref (md 0)), (3, .ref (ad 17)), (4, .int (nI i))]) hx hb dL_law_243 hl (by decide) rfl (fun ls hl => ?_)
  refine lv_aload_n hx hb dL_law_245 rfl (lv_at hl 3 rfl) ?_
  refine lv_aload_n hx hb dL_law_246 rfl (lv_at hl 1 rfl) ?_
  refine lv_iload hx hb dL_law_247 (lv_at hl 5 rfl) ?_
  refine lv_iconst (v := 1) hx hb dL_law_249 (by decide) ?_
  refine lv_iadd hx hb dL_law_250 ?_
  refine kc_top (show (nI i) + 1 = nI (i + 1) from nI_add _ _) ?_
  refine kc_sld (i := i + 1) hx hb hXs hbl hbA hS (by omega) (by omega) dL_law_251 ?_
  refine kc_top hp1 ?_
  refine kc_wVi (w1 := wMd md cI 1 mK mc mD mr mw my mC mk ms mu mt mp mb me) (wr := [(ad 0, .inr (1, [.ref (ad 1), .ref (ad 2), .ref (ad 3), .ref (ad 4), .ref (ad 5), .int (nI K), .int (nI Dn), .int mv])), (ad 1, .inl (cI, 8, .inl cd)), (ad 2, .inl (cI, 8, .inl te)), (ad 3, .inl (cI, 8, .inl ri)), (ad 4, .inl (cI, 8, .inl pi)), (ad 5, .inl (cI, 8, .inl pw)), (ad 6, .inr (0, [.ref (ad 7), .ref (ad 8), .ref (ad 9), .ref (ad 10), .ref (ad 11), .ref (ad 12), .ref (ad 13), .int (nI C)])), (ad 7, .inl (cI, 24, .inl ko)), (ad 8, .inl (cI, 24, .inl so)), (ad 9, .inl (cI, 24, .inl tl)), (ad 10, .inl (cI, 216, .inl lp)), (ad 11, .inl (cI, 216, .inl lb)), (ad 12, .inl (cI, 216, .inl ld)), (ad 13, .inl (cI, 216, .inl le)), (ad 14, .inr (2, [.ref (ad 0), .ref (ad 6), .ref (ad 15), .ref (ad 16), .int dy])), (ad 15, .inl (cI, 8, .inl cl)), (ad 16, .inl (cI, 8, .inl dq)), (ad 17, .inl (cL, 1, .inr (.inl ou)))]) (ws1 := wLaw ad cI cd te ri pi pw K Dn mv ko so tl lp lb ld le C cl dq dy cL ou md 1 mK mc mD mr mw my mC mk ms mu mt mp mb me) (As := [.int r]) (rest := []) ⟨hx, hb, hml, hown, hts⟩ (c_X3_addDoor_f1 l D md cI th mK mc mD mr mw my mC mk ms mu mt mp mb me r H.size m_hBad) (cwV 1 hts gL_law_X3_addDoor rfl rfl rfl (by decide +kernel) ⟨Nat.le_of_ble_eq_true rfl, Nat.le_of_ble_eq_true rfl⟩) hK hP hD hS hA [18, 19, 20, 21, 22, 23, 24, 25, 26, 27] [0, 1, 2, 3, 4, 5, 6, 7, 8, 9, 10, 11, 12, 13, 14, 15, 16, 17] [0, 1, 2, 3, 4, 5, 6, 7, 8, 9, 10, 11, 12, 13, 14, 15, 16, 17, 18, 19, 20, 21, 22, 23, 24, 25, 26, 27] [0] rfl rfl rfl rfl (by decide) rfl rfl rfl 18 rfl rfl rfl rfl hl.1 rfl (Nat.le_of_ble_eq_true rfl) dL_law_252 ⟨kc_rc (by omega), kc_rs (by omega)⟩ (fun H locs hP hD hS => ?_)
  refine lv_istore (lv' := [(6, .int 0), (5, .int 1), (0, .ref b), (1, .ref (ad 14)), (2, .ref (md 0)), (3, .ref (ad 17)), (4, .int (nI i))]) hx hb dL_law_255 hl (by decide) rfl (fun ls hl => ?_)
  refine lv_aload_n hx hb dL_law_257 rfl (lv_at hl 4 rfl) ?_
  refine kc_rVi (As := []) (rest := []) ⟨hx, hb, hml, hown, hts⟩ (c_X3_thrown l D md cI 1 mK mc mD mr mw my mC mk ms mu mt mp mb me ) (cwV 0 hts gL_law_X3_thrown rfl rfl rfl (by decide +kernel) ⟨Nat.le_of_ble_eq_true rfl, Nat.le_of_ble_eq_true rfl⟩) hK hP [18, 19, 20, 21, 22, 23, 24, 25, 26, 27] [0] rfl rfl 18 rfl rfl rfl rfl hl.1 rfl (Nat.le_of_ble_eq_true rfl) dL_law_258 ⟨kc_rc (by omega), kc_rs (by omega)⟩ ?_
  refine lv_iload hx hb dL_law_261 (lv_at hl 1 rfl) ?_
  refine lv_icmp_eq (tgt := 268) hx hb dL_law_263 (by decide) (fun c_263 => ?_) (fun c_263 => absurd c_263 (by decide))
  refine lv_iload hx hb dL_law_268 (lv_at hl 1 rfl) ?_
  refine lv_if_ne (tgt := 285) hx hb dL_law_270 (by decide) (fun c_270 => ?_) (fun c_270 => absurd c_270 (by decide))
  refine lv_goto (tgt := 1633) hx hb dL_law_285 (by decide) ?_
  refine W.widen (k := cells + 2) (n := slots + 16) (by omega) (by omega) ?_
  exact K1 _ _ _ hP hD hS (lv_sub hl [2, 3, 4, 5, 6] rfl)
set_option maxHeartbeats 4000000 in
set_option maxRecDepth 100000 in
theorem lw_addDoor_f2_f2 {p : Program} {l : Launch} {e : Env} {s : State} {m : MethodId} {below : List Frame} {meth : Method} {c : Code} {Q : State → Prop} {b L : Nat} {xs : Nat → Int32} (hlf : l.stackTraces = false) (C0 : lw_At p s m meth c b L xs) {D : va_G} {cI cL : ClassId} (hK : kcK D [(cI, .int), (cL, .long)] s) (hX0 : kcX (fun q => s.heap.size ≤ q) s s.heap) (hL : L ≤ 2048) (i : Nat) (hi : i + 3 < L) (ad : Nat → Nat) (cd : Nat → Int32) (te : Nat → Int32) (ri : Nat → Int32) (pi : Nat → Int32) (pw : Nat → Int32) (K : Nat) (Dn : Nat) (mv : Int32) (ko : Nat → Int32) (so : Nat → Int32) (tl : Nat → Int32) (lp : Nat → Int32) (lb : Nat → Int32) (ld : Nat → Int32) (le : Nat → Int32) (C : Nat) (cl : Nat → Int32) (dq : Nat → Int32) (dy : Int32) (ou : Nat → Int64) (md : Nat → Nat) (th : Int32) (mK : Nat) (mc : Nat → Int32) (mD : Nat) (mr : Nat → Int32) (mw : Int32) (my : Int32) (mC : Nat) (mk : Nat → Int32) (ms : Nat → Int32) (mu : Nat → Int32) (mt : Nat → Int32) (mp : Nat → Int32) (mb : Nat → Int32) (me : Nat → Int32) (r : Int32) (hs : jSetOf K r = true) (hDe : Dn = 8) (m_hs : jSet mK r = true) (m_hDe : mD = 8) (hp1 : xs (i + 1) = r)  {H : Heap} {locs : List Loc} {cells slots : Nat} (hce : cells + 2 ≤ 601024) (hsl : slots + 16 ≤ 7293034) (hP : va_P D vwCl (wLaw ad cI cd te ri pi pw K Dn mv ko so tl lp lb ld le C cl dq dy cL ou md th mK mc mD mr mw my mC mk ms mu mt mp mb me) H) (hD : va_D (fun q => s.heap.size ≤ q) (wLaw ad cI cd te ri pi pw K Dn mv ko so tl lp lb ld le C cl dq dy cL ou md th mK mc mD mr mw my mC mk ms mu mt mp mb me)) (hS : va_S (fun q => s.heap.size ≤ q) s.heap H locs) {ls : Array Slot} (hl : lv_has ls 9 [(0, .ref b), (1, .ref (ad 14)), (2, .ref (md 0)), (3, .ref (ad 17)), (4, .int (nI i))]) (K1 : ∀ (H : Heap) (locs : List Loc) (ls : Array Slot), va_P D vwCl (wLaw ad cI cd te ri pi pw K Dn mv ko so tl lp lb ld le C cl dq dy cL ou md 2 mK mc mD mr mw my mC mk ms mu mt mp mb me) H → va_D (fun q => s.heap.size ≤ q) (wLaw ad cI cd te ri pi pw K Dn mv ko so tl lp lb ld le C cl dq dy cL ou md 2 mK mc mD mr mw my mC mk ms mu mt mp mb me) → va_S (fun q => s.heap.size ≤ q) s.heap H locs → lv_has ls 9 [(0, .ref b), (1, .ref (ad 14)), (2, .ref (md 0)), (3, .ref (ad 17)), (4, .int (nI i))] → W p l e room_1 s m #[Value.ref b] below meth c H locs (cells + 2) (slots + 16) Q (F0 m 1633 ls [])) : W p l e room_1 s m #[Value.ref b] below meth c H locs cells slots Q (F0 m 232 ls []) := by
  obtain ⟨hx, hb, hr, hml, hown, hts, hXs, hbl, hlocks, hgv⟩ := id C0
  have hts := fun w h => hts w (wsL_law_in w h)
  have hb : c.code = cL_law := hb
  have hA : ∀ q : Nat, s.heap.size ≤ q → (fun q : Nat => s.heap.size ≤ q) q := fun _ h => h
  have hbA : ¬ (fun q : Nat => s.heap.size ≤ q) b := Nat.not_le.mpr hbl
  refine lv_aload_n hx hb dL_law_232 rfl (lv_at hl 1 rfl) ?_
  refine lv_aload_n hx hb dL_law_233 rfl (lv_at hl 0 rfl) ?_
  refine lv_iload hx hb dL_law_234 (lv_at hl 4 rfl) ?_
  refine lv_iconst (v := 1) hx hb dL_law_236 (by decide) ?_
  refine lv_iadd hx hb dL_law_237 ?_
  refine kc_top (show (nI i) + 1 = nI (i + 1) from nI_add _ _) ?_
  refine kc_sld (i := i + 1) hx hb hXs hbl hbA hS (by omega) (by omega) dL_law_238 ?_
  refine kc_top hp1 ?_
  refine lv_aload_n hx hb dL_law_239 rfl (lv_at hl 3 rfl) ?_
  have hX := kc_xat hX0 hS
  refine kc_hXi (w1 := wLh ad cI cd te ri pi pw K Dn mv ko so tl lp lb ld le C cl dq dy cL ou) (wr := [(md 0, .inr (3, [.int th, .int (nI mK), .ref (md 1), .int (nI mD), .ref (md 2), .int mw, .int my, .int (nI mC), .ref (md 3), .ref (md 4), .ref (md 5), .ref (md 6), .ref (md 7), .ref (md 8), .ref (md 9)])), (md 1, .inl (cI, 8, .inl mc)), (md 2, .inl (cI, 8, .inl mr)), (md 3, .inl (cI, 24, .inl mk)), (md 4, .inl (cI, 24, .inl ms)), (md 5, .inl (cI, 24, .inl mu)), (md 6, .inl (cI, 24, .inl mt)), (md 7, .inl (cI, 216, .inl mp)), (md 8, .inl (cI, 216, .inl mb)), (md 9, .inl (cI, 216, .inl me))]) (ws1 := wLaw ad cI cd te ri pi pw K Dn mv ko so tl lp lb ld le C cl dq dy cL ou md th mK mc mD mr mw my mC mk ms mu mt mp mb me) (As := [.ref (ad 14), .int r, .ref (ad 17)]) (rest := []) ⟨hx, hb, hml, hown, hts⟩ (c_L_addDoor_f2 l hlf D ad cI cd te ri pi pw K Dn mv ko so tl lp lb ld le C cl dq dy cL ou r H.size hs hDe) (vx_cwSW 3 hts gL_law_L_addDoor rfl rfl rfl (by decide +kernel) ⟨Nat.le_of_ble_eq_true rfl, Nat.le_of_ble_eq_true rfl⟩) hK hP hD hX hS hA [0, 1, 2, 3, 4, 5, 6, 7, 8, 9, 10, 11, 12, 13, 14, 15, 16, 17] [18, 19, 20, 21, 22, 23, 24, 25, 26, 27] [10, 11, 12, 13, 14, 15, 16, 17, 18, 19, 20, 21, 22, 23, 24, 25, 26, 27, 0, 1, 2, 3, 4, 5, 6, 7, 8, 9] [0, 1] rfl rfl rfl rfl (by decide) rfl rfl rfl rfl hl.1 rfl (Nat.le_of_ble_eq_true rfl) dL_law_240 ⟨kc_rc (by omega), kc_rs (by omega)⟩ (fun H locs hP hD hS => ?_)
  refine lv_istore (lv' := [(5, .int 2), (0, .ref b), (1, .ref (ad 14)), (2, .ref (md 0)), (3, .ref (ad 17)), (4, .int (nI i))]) hx hb dL_law_243 hl (by decide) rfl (fun ls hl => ?_)
  refine lv_aload_n hx hb dL_law_245 rfl (lv_at hl 3 rfl) ?_
  refine lv_aload_n hx hb dL_law_246 rfl (lv_at hl 1 rfl) ?_
  refine lv_iload hx hb dL_law_247 (lv_at hl 5 rfl) ?_
  refine lv_iconst (v := 1) hx hb dL_law_249 (by decide) ?_
  refine lv_iadd hx hb dL_law_250 ?_
  refine kc_top (show (nI i) + 1 = nI (i + 1) from nI_add _ _) ?_
  refine kc_sld (i := i + 1) hx hb hXs hbl hbA hS (by omega) (by omega) dL_law_251 ?_
  refine kc_top hp1 ?_
  refine kc_wVi (w1 := wMd md cI 2 mK mc mD mr mw my mC mk ms mu mt mp mb me) (wr := [(ad 0, .inr (1, [.ref (ad 1), .ref (ad 2), .ref (ad 3), .ref (ad 4), .ref (ad 5), .int (nI K), .int (nI Dn), .int mv])), (ad 1, .inl (cI, 8, .inl cd)), (ad 2, .inl (cI, 8, .inl te)), (ad 3, .inl (cI, 8, .inl ri)), (ad 4, .inl (cI, 8, .inl pi)), (ad 5, .inl (cI, 8, .inl pw)), (ad 6, .inr (0, [.ref (ad 7), .ref (ad 8), .ref (ad 9), .ref (ad 10), .ref (ad 11), .ref (ad 12), .ref (ad 13), .int (nI C)])), (ad 7, .inl (cI, 24, .inl ko)), (ad 8, .inl (cI, 24, .inl so)), (ad 9, .inl (cI, 24, .inl tl)), (ad 10, .inl (cI, 216, .inl lp)), (ad 11, .inl (cI, 216, .inl lb)), (ad 12, .inl (cI, 216, .inl ld)), (ad 13, .inl (cI, 216, .inl le)), (ad 14, .inr (2, [.ref (ad 0), .ref (ad 6), .ref (ad 15), .ref (ad 16), .int dy])), (ad 15, .inl (cI, 8, .inl cl)), (ad 16, .inl (cI, 8, .inl dq)), (ad 17, .inl (cL, 1, .inr (.inl ou)))]) (ws1 := wLaw ad cI cd te ri pi pw K Dn mv ko so tl lp lb ld le C cl dq dy cL ou md 2 mK mc mD mr mw my mC mk ms mu mt mp mb me) (As := [.int r]) (rest := []) ⟨hx, hb, hml, hown, hts⟩ (c_X3_addDoor_f2 l D md cI th mK mc mD mr mw my mC mk ms mu mt mp mb me r H.size m_hs m_hDe) (cwV 1 hts gL_law_X3_addDoor rfl rfl rfl (by decide +kernel) ⟨Nat.le_of_ble_eq_true rfl, Nat.le_of_ble_eq_true rfl⟩) hK hP hD hS hA [18, 19, 20, 21, 22, 23, 24, 25, 26, 27] [0, 1, 2, 3, 4, 5, 6, 7, 8, 9, 10, 11, 12, 13, 14, 15, 16, 17] [0, 1, 2, 3, 4, 5, 6, 7, 8, 9, 10, 11, 12, 13, 14, 15, 16, 17, 18, 19, 20, 21, 22, 23, 24, 25, 26, 27] [0] rfl rfl rfl rfl (by decide) rfl rfl rfl 18 rfl rfl rfl rfl hl.1 rfl (Nat.le_of_ble_eq_true rfl) dL_law_252 ⟨kc_rc (by omega), kc_rs (by omega)⟩ (fun H locs hP hD hS => ?_)
  refine lv_istore (lv' := [(6, .int 0), (5, .int 2), (0, .ref b), (1, .ref (ad 14)), (2, .ref (md 0)), (3, .ref (ad 17)), (4, .int (nI i))]) hx hb dL_law_255 hl (by decide) rfl (fun ls hl => ?_)
  refine lv_aload_n hx hb dL_law_257 rfl (lv_at hl 4 rfl) ?_
  refine kc_rVi (As := []) (rest := []) ⟨hx, hb, hml, hown, hts⟩ (c_X3_thrown l D md cI 2 mK mc mD mr mw my mC mk ms mu mt mp mb me ) (cwV 0 hts gL_law_X3_thrown rfl rfl rfl (by decide +kernel) ⟨Nat.le_of_ble_eq_true rfl, Nat.le_of_ble_eq_true rfl⟩) hK hP [18, 19, 20, 21, 22, 23, 24, 25, 26, 27] [0] rfl rfl 18 rfl rfl rfl rfl hl.1 rfl (Nat.le_of_ble_eq_true rfl) dL_law_258 ⟨kc_rc (by omega), kc_rs (by omega)⟩ ?_
  refine lv_iload hx hb dL_law_261 (lv_at hl 1 rfl) ?_
  refine lv_icmp_eq (tgt := 268) hx hb dL_law_263 (by decide) (fun c_263 => ?_) (fun c_263 => absurd c_263 (by decide))
  refine lv_iload hx hb dL_law_268 (lv_at hl 1 rfl) ?_
  refine lv_if_ne (tgt := 285) hx hb dL_law_270 (by decide) (fun c_270 => ?_) (fun c_270 => absurd c_270 (by decide))
  refine lv_goto (tgt := 1633) hx hb dL_law_285 (by decide) ?_
  refine W.widen (k := cells + 2) (n := slots + 16) (by omega) (by omega) ?_
  exact K1 _ _ _ hP hD hS (lv_sub hl [2, 3, 4, 5, 6] rfl)
set_option maxHeartbeats 4000000 in
set_option maxRecDepth 100000 in
theorem lw_setRights_ok_ok {p : Program} {l : Launch} {e : Env} {s : State} {m : MethodId} {below : List Frame} {meth : Method} {c : Code} {Q : State → Prop} {b L : Nat} {xs : Nat → Int32} (hlf : l.stackTraces = false) (C0 : lw_At p s m meth c b L xs) {D : va_G} {cI cL : ClassId} (hK : kcK D [(cI, .int), (cL, .long)] s) (hX0 : kcX (fun q => s.heap.size ≤ q) s s.heap) (hL : L ≤ 2048) (i : Nat) (hi : i + 3 < L) (ad : Nat → Nat) (cd : Nat → Int32) (te : Nat → Int32) (ri : Nat → Int32) (pi : Nat → Int32) (pw : Nat → Int32) (K : Nat) (Dn : Nat) (mv : Int32) (ko : Nat → Int32) (so : Nat → Int32) (tl : Nat → Int32) (lp : Nat → Int32) (lb : Nat → Int32) (ld : Nat → Int32) (le : Nat → Int32) (C : Nat) (cl : Nat → Int32) (dq : Nat → Int32) (dy : Int32) (ou : Nat → Int64) (md : Nat → Nat) (th : Int32) (mK : Nat) (mc : Nat → Int32) (mD : Nat) (mr : Nat → Int32) (mw : Int32) (my : Int32) (mC : Nat) (mk : Nat → Int32) (ms : Nat → Int32) (mu : Nat → Int32) (mt : Nat → Int32) (mp : Nat → Int32) (mb : Nat → Int32) (me : Nat → Int32) (d : Nat) (r : Int32) (hK8 : K ≤ 8) (hD8 : Dn ≤ 8) (hd : d < Dn) (hs : jSetOf K r = true) (m_hK8 : mK ≤ 8) (m_hD8 : mD ≤ 8) (m_hd : d < mD) (m_hs : jSet mK r = true) (hp1 : xs (i + 1) = nI d) (hp2 : xs (i + 2) = r) (hres : (ri d : Int32) = (mr d)) {H : Heap} {locs : List Loc} {cells slots : Nat} (hce : cells + 2 ≤ 601024) (hsl : slots + 16 ≤ 7293034) (hP : va_P D vwCl (wLaw ad cI cd te ri pi pw K Dn mv ko so tl lp lb ld le C cl dq dy cL ou md th mK mc mD mr mw my mC mk ms mu mt mp mb me) H) (hD : va_D (fun q => s.heap.size ≤ q) (wLaw ad cI cd te ri pi pw K Dn mv ko so tl lp lb ld le C cl dq dy cL ou md th mK mc mD mr mw my mC mk ms mu mt mp mb me)) (hS : va_S (fun q => s.heap.size ≤ q) s.heap H locs) {ls : Array Slot} (hl : lv_has ls 9 [(0, .ref b), (1, .ref (ad 14)), (2, .ref (md 0)), (3, .ref (ad 17)), (4, .int (nI i))]) (K1 : ∀ (H : Heap) (locs : List Loc) (ls : Array Slot), va_P D vwCl (wLaw ad cI cd te (upd ri d r) (upd pi d (jPinsFor te r K)) pw K Dn (mv + jPop (pi d ^^^ jPinsFor te r K)) ko so tl lp lb ld le C cl dq dy cL (vp_updL ou 0 (Int32.toInt64 (ri d))) md 0 mK mc mD (upd mr d r) (mw + jPop (mAll mr mc mK d 5 ^^^ mAll (upd mr d r) mc mK d 5)) my mC mk ms mu mt mp mb me) H → va_D (fun q => s.heap.size ≤ q) (wLaw ad cI cd te (upd ri d r) (upd pi d (jPinsFor te r K)) pw K Dn (mv + jPop (pi d ^^^ jPinsFor te r K)) ko so tl lp lb ld le C cl dq dy cL (vp_updL ou 0 (Int32.toInt64 (ri d))) md 0 mK mc mD (upd mr d r) (mw + jPop (mAll mr mc mK d 5 ^^^ mAll (upd mr d r) mc mK d 5)) my mC mk ms mu mt mp mb me) → va_S (fun q => s.heap.size ≤ q) s.heap H locs → lv_has ls 9 [(0, .ref b), (1, .ref (ad 14)), (2, .ref (md 0)), (3, .ref (ad 17)), (4, .int (nI i))] → W p l e room_1 s m #[Value.ref b] below meth c H locs (cells + 2) (slots + 16) Q (F0 m 1633 ls [])) : W p l e room_1 s m #[Value.ref b] below meth c H locs cells slots Q (F0 m 288 ls []) := by
  obtain ⟨hx, hb, hr, hml, hown, hts, hXs, hbl, hlocks, hgv⟩ := id C0
  have hts := fun w h => hts w (wsL_law_in w h)
  have hb : c.code = cL_law := hb
  have hA : ∀ q : Nat, s.heap.size ≤ q → (fun q : Nat => s.heap.size ≤ q) q := fun _ h => h
  have hbA : ¬ (fun q : Nat => s.heap.size ≤ q) b := Nat.not_le.mpr hbl
  refine lv_aload_n hx hb dL_law_288 rfl (lv_at hl 1 rfl) ?_
  refine lv_aload_n hx hb dL_law_289 rfl (lv_at hl 0 rfl) ?_
  refine lv_iload hx hb dL_law_290 (lv_at hl 4 rfl) ?_
  refine lv_iconst (v := 1) hx hb dL_law_292 (by decide) ?_
  refine lv_iadd hx hb dL_law_293 ?_
  refine kc_top (show (nI i) + 1 = nI (i + 1) from nI_add _ _) ?_
  refine kc_sld (i := i + 1) hx hb hXs hbl hbA hS (by omega) (by omega) dL_law_294 ?_
  refine kc_top hp1 ?_
  refine lv_aload_n hx hb dL_law_295 rfl (lv_at hl 0 rfl) ?_
  refine lv_iload hx hb dL_law_296 (lv_at hl 4 rfl) ?_
  refine lv_iconst (v := 2) hx hb dL_law_298 (by decide) ?_
  refine lv_iadd hx hb dL_law_299 ?_
  refine kc_top (show (nI i) + 2 = nI (i + 2) from nI_add _ _) ?_
  refine kc_sld (i := i + 2) hx hb hXs hbl hbA hS (by omega) (by omega) dL_law_300 ?_
  refine kc_top hp2 ?_
  refine lv_aload_n hx hb dL_law_301 rfl (lv_at hl 3 rfl) ?_
  refine kc_hSi (w1 := wLh ad cI cd te (upd ri d r) (upd pi d (jPinsFor te r K)) pw K Dn (mv + jPop (pi d ^^^ jPinsFor te r K)) ko so tl lp lb ld le C cl dq dy cL (vp_updL ou 0 (Int32.toInt64 (ri d)))) (wr := [(md 0, .inr (3, [.int th, .int (nI mK), .ref (md 1), .int (nI mD), .ref (md 2), .int mw, .int my, .int (nI mC), .ref (md 3), .ref (md 4), .ref (md 5), .ref (md 6), .ref (md 7), .ref (md 8), .ref (md 9)])), (md 1, .inl (cI, 8, .inl mc)), (md 2, .inl (cI, 8, .inl mr)), (md 3, .inl (cI, 24, .inl mk)), (md 4, .inl (cI, 24, .inl ms)), (md 5, .inl (cI, 24, .inl mu)), (md 6, .inl (cI, 24, .inl mt)), (md 7, .inl (cI, 216, .inl mp)), (md 8, .inl (cI, 216, .inl mb)), (md 9, .inl (cI, 216, .inl me))]) (ws1 := wLaw ad cI cd te (upd ri d r) (upd pi d (jPinsFor te r K)) pw K Dn (mv + jPop (pi d ^^^ jPinsFor te r K)) ko so tl lp lb ld le C cl dq dy cL (vp_updL ou 0 (Int32.toInt64 (ri d))) md th mK mc mD mr mw my mC mk ms mu mt mp mb me) (As := [.ref (ad 14), .int (nI d), .int r, .ref (ad 17)]) (rest := []) ⟨hx, hb, hml, hown, hts⟩ (c_L_setRights_ok l D ad cI cd te ri pi pw K Dn mv ko so tl lp lb ld le C cl dq dy cL ou d r H.size hK8 hD8 hd hs) (vx_cwSW 4 hts gL_law_L_setRights rfl rfl rfl (by decide +kernel) ⟨Nat.le_of_ble_eq_true rfl, Nat.le_of_ble_eq_true rfl⟩) hK hP hD hS hA [0, 1, 2, 3, 4, 5, 6, 7, 8, 9, 10, 11, 12, 13, 14, 15, 16, 17] [18, 19, 20, 21, 22, 23, 24, 25, 26, 27] [10, 11, 12, 13, 14, 15, 16, 17, 18, 19, 20, 21, 22, 23, 24, 25, 26, 27, 0, 1, 2, 3, 4, 5, 6, 7, 8, 9] [0, 1] rfl rfl rfl rfl (by decide) rfl rfl rfl rfl hl.1 rfl (Nat.le_of_ble_eq_true rfl) dL_law_302 ⟨kc_rc (by omega), kc_rs (by omega)⟩ (fun H locs hP hD hS => ?_)
  refine lv_istore (lv' := [(5, .int 0), (0, .ref b), (1, .ref (ad 14)), (2, .ref (md 0)), (3, .ref (ad 17)), (4, .int (nI i))]) hx hb dL_law_305 hl (by decide) rfl (fun ls hl => ?_)
  refine lv_aload_n hx hb dL_law_307 rfl (lv_at hl 3 rfl) ?_
  refine lv_aload_n hx hb dL_law_308 rfl (lv_at hl 1 rfl) ?_
  refine lv_iload hx hb dL_law_309 (lv_at hl 5 rfl) ?_
  refine lv_iconst (v := 1) hx hb dL_law_311 (by decide) ?_
  refine lv_iadd hx hb dL_law_312 ?_
  refine kc_top (show (nI i) + 1 = nI (i + 1) from nI_add _ _) ?_
  refine kc_sld (i := i + 1) hx hb hXs hbl hbA hS (by omega) (by omega) dL_law_313 ?_
  refine kc_top hp1 ?_
  refine lv_aload_n hx hb dL_law_314 rfl (lv_at hl 1 rfl) ?_
  refine lv_iload hx hb dL_law_315 (lv_at hl 5 rfl) ?_
  refine lv_iconst (v := 2) hx hb dL_law_317 (by decide) ?_
  refine lv_iadd hx hb dL_law_318 ?_
  refine kc_top (show (nI i) + 2 = nI (i + 2) from nI_add _ _) ?_
  refine kc_sld (i := i + 2) hx hb hXs hbl hbA hS (by omega) (by omega) dL_law_319 ?_
  refine kc_top hp2 ?_
  refine kc_wVi (w1 := wMd md cI 0 mK mc mD (upd mr d r) (mw + jPop (mAll mr mc mK d 5 ^^^ mAll (upd mr d r) mc mK d 5)) my mC mk ms mu mt mp mb me) (wr := [(ad 0, .inr (1, [.ref (ad 1), .ref (ad 2), .ref (ad 3), .ref (ad 4), .ref (ad 5), .int (nI K), .int (nI Dn), .int (mv + jPop (pi d ^^^ jPinsFor te r K))])), (ad 1, .inl (cI, 8, .inl cd)), (ad 2, .inl (cI, 8, .inl te)), (ad 3, .inl (cI, 8, .inl (upd ri d r))), (ad 4, .inl (cI, 8, .inl (upd pi d (jPinsFor te r K)))), (ad 5, .inl (cI, 8, .inl pw)), (ad 6, .inr (0, [.ref (ad 7), .ref (ad 8), .ref (ad 9), .ref (ad 10), .ref (ad 11), .ref (ad 12), .ref (ad 13), .int (nI C)])), (ad 7, .inl (cI, 24, .inl ko)), (ad 8, .inl (cI, 24, .inl so)), (ad 9, .inl (cI, 24, .inl tl)), (ad 10, .inl (cI, 216, .inl lp)), (ad 11, .inl (cI, 216, .inl lb)), (ad 12, .inl (cI, 216, .inl ld)), (ad 13, .inl (cI, 216, .inl le)), (ad 14, .inr (2, [.ref (ad 0), .ref (ad 6), .ref (ad 15), .ref (ad 16), .int dy])), (ad 15, .inl (cI, 8, .inl cl)), (ad 16, .inl (cI, 8, .inl dq)), (ad 17, .inl (cL, 1, .inr (.inl (vp_updL ou 0 (Int32.toInt64 (ri d))))))]) (ws1 := wLaw ad cI cd te (upd ri d r) (upd pi d (jPinsFor te r K)) pw K Dn (mv + jPop (pi d ^^^ jPinsFor te r K)) ko so tl lp lb ld le C cl dq dy cL (vp_updL ou 0 (Int32.toInt64 (ri d))) md 0 mK mc mD (upd mr d r) (mw + jPop (mAll mr mc mK d 5 ^^^ mAll (upd mr d r) mc mK d 5)) my mC mk ms mu mt mp mb me) (As := [.int (nI d), .int r]) (rest := []) ⟨hx, hb, hml, hown, hts⟩ (c_X3_setRights_ok l D md cI th mK mc mD mr mw my mC mk ms mu mt mp mb me d r H.size m_hK8 m_hD8 m_hd m_hs) (cwV 2 hts gL_law_X3_setRights rfl rfl rfl (by decide +kernel) ⟨Nat.le_of_ble_eq_true rfl, Nat.le_of_ble_eq_true rfl⟩) hK hP hD hS hA [18, 19, 20, 21, 22, 23, 24, 25, 26, 27] [0, 1, 2, 3, 4, 5, 6, 7, 8, 9, 10, 11, 12, 13, 14, 15, 16, 17] [0, 1, 2, 3, 4, 5, 6, 7, 8, 9, 10, 11, 12, 13, 14, 15, 16, 17, 18, 19, 20, 21, 22, 23, 24, 25, 26, 27] [0] rfl rfl rfl rfl (by decide) rfl rfl rfl 18 rfl rfl rfl rfl hl.1 rfl (Nat.le_of_ble_eq_true rfl) dL_law_320 ⟨kc_rc (by omega), kc_rs (by omega)⟩ (fun H locs hP hD hS => ?_)
  refine lv_istore (lv' := [(6, .int (mr d)), (5, .int 0), (0, .ref b), (1, .ref (ad 14)), (2, .ref (md 0)), (3, .ref (ad 17)), (4, .int (nI i))]) hx hb dL_law_323 hl (by decide) rfl (fun ls hl => ?_)
  refine lv_aload_n hx hb dL_law_325 rfl (lv_at hl 4 rfl) ?_
  refine kc_rVi (As := []) (rest := []) ⟨hx, hb, hml, hown, hts⟩ (c_X3_thrown l D md cI 0 mK mc mD (upd mr d r) (mw + jPop (mAll mr mc mK d 5 ^^^ mAll (upd mr d r) mc mK d 5)) my mC mk ms mu mt mp mb me ) (cwV 0 hts gL_law_X3_thrown rfl rfl rfl (by decide +kernel) ⟨Nat.le_of_ble_eq_true rfl, Nat.le_of_ble_eq_true rfl⟩) hK hP [18, 19, 20, 21, 22, 23, 24, 25, 26, 27] [0] rfl rfl 18 rfl rfl rfl rfl hl.1 rfl (Nat.le_of_ble_eq_true rfl) dL_law_326 ⟨kc_rc (by omega), kc_rs (by omega)⟩ ?_
  refine lv_iload hx hb dL_law_329 (lv_at hl 1 rfl) ?_
  refine lv_icmp_eq (tgt := 336) hx hb dL_law_331 (by decide) (fun c_331 => ?_) (fun c_331 => absurd c_331 (by decide))
  refine lv_iload hx hb dL_law_336 (lv_at hl 1 rfl) ?_
  refine lv_if_ne (tgt := 353) hx hb dL_law_338 (by decide) (fun c_338 => absurd c_338 (by decide)) (fun c_338 => ?_)
  refine lv_aload_n hx hb dL_law_341 rfl (lv_at hl 5 rfl) ?_
  refine lv_iconst (v := 0) hx hb dL_law_342 (by decide) ?_
  refine kc_lld (i := 0) (n := 1) hx hb hK hP 17 1 rfl rfl (by decide) (by decide) dL_law_343 ?_
  refine kc_topl (show ((vp_updL ou 0 (Int32.toInt64 (ri d)))) 0 = Int32.toInt64 (ri d) from pk_uLs) ?_
  refine lv_iload hx hb dL_law_344 (lv_at hl 0 rfl) ?_
  refine lv_i2l (v := Int32.toInt64 (mr d)) hx hb dL_law_346 rfl ?_
  refine W.lcmp hx hb dL_law_347 ?_
  refine kc_top (show lg_cmp (Int32.toInt64 (ri d)) (Int32.toInt64 (mr d)) = 0 from kc_lcmp0 (congrArg Int32.toInt64 hres)) ?_
  refine lv_if_eq (tgt := 353) hx hb dL_law_348 (by decide) (fun c_348 => ?_) (fun c_348 => absurd c_348 (by decide))
  refine lv_goto (tgt := 1633) hx hb dL_law_353 (by decide) ?_
  refine W.widen (k := cells + 2) (n := slots + 16) (by omega) (by omega) ?_
  exact K1 _ _ _ hP hD hS (lv_sub hl [2, 3, 4, 5, 6] rfl)
set_option maxHeartbeats 4000000 in
set_option maxRecDepth 100000 in
theorem lw_setRights_f1_f1 {p : Program} {l : Launch} {e : Env} {s : State} {m : MethodId} {below : List Frame} {meth : Method} {c : Code} {Q : State → Prop} {b L : Nat} {xs : Nat → Int32} (hlf : l.stackTraces = false) (C0 : lw_At p s m meth c b L xs) {D : va_G} {cI cL : ClassId} (hK : kcK D [(cI, .int), (cL, .long)] s) (hX0 : kcX (fun q => s.heap.size ≤ q) s s.heap) (hL : L ≤ 2048) (i : Nat) (hi : i + 3 < L) (ad : Nat → Nat) (cd : Nat → Int32) (te : Nat → Int32) (ri : Nat → Int32) (pi : Nat → Int32) (pw : Nat → Int32) (K : Nat) (Dn : Nat) (mv : Int32) (ko : Nat → Int32) (so : Nat → Int32) (tl : Nat → Int32) (lp : Nat → Int32) (lb : Nat → Int32) (ld : Nat → Int32) (le : Nat → Int32) (C : Nat) (cl : Nat → Int32) (dq : Nat → Int32) (dy : Int32) (ou : Nat → Int64) (md : Nat → Nat) (th : Int32) (mK : Nat) (mc : Nat → Int32) (mD : Nat) (mr : Nat → Int32) (mw : Int32) (my : Int32) (mC : Nat) (mk : Nat → Int32) (ms : Nat → Int32) (mu : Nat → Int32) (mt : Nat → Int32) (mp : Nat → Int32) (mb : Nat → Int32) (me : Nat → Int32) (x : Int32) (r : Int32) (hBad : ¬ jIn Dn x = true) (m_hBad : ¬ jIn mD x = true) (hp1 : xs (i + 1) = x) (hp2 : xs (i + 2) = r)  {H : Heap} {locs : List Loc} {cells slots : Nat} (hce : cells + 2 ≤ 601024) (hsl : slots + 16 ≤ 7293034) (hP : va_P D vwCl (wLaw ad cI cd te ri pi pw K Dn mv ko so tl lp lb ld le C cl dq dy cL ou md th mK mc mD mr mw my mC mk ms mu mt mp mb me) H) (hD : va_D (fun q => s.heap.size ≤ q) (wLaw ad cI cd te ri pi pw K Dn mv ko so tl lp lb ld le C cl dq dy cL ou md th mK mc mD mr mw my mC mk ms mu mt mp mb me)) (hS : va_S (fun q => s.heap.size ≤ q) s.heap H locs) {ls : Array Slot} (hl : lv_has ls 9 [(0, .ref b), (1, .ref (ad 14)), (2, .ref (md 0)), (3, .ref (ad 17)), (4, .int (nI i))]) (K1 : ∀ (H : Heap) (locs : List Loc) (ls : Array Slot), va_P D vwCl (wLaw ad cI cd te ri pi pw K Dn mv ko so tl lp lb ld le C cl dq dy cL ou md 1 mK mc mD mr mw my mC mk ms mu mt mp mb me) H → va_D (fun q => s.heap.size ≤ q) (wLaw ad cI cd te ri pi pw K Dn mv ko so tl lp lb ld le C cl dq dy cL ou md 1 mK mc mD mr mw my mC mk ms mu mt mp mb me) → va_S (fun q => s.heap.size ≤ q) s.heap H locs → lv_has ls 9 [(0, .ref b), (1, .ref (ad 14)), (2, .ref (md 0)), (3, .ref (ad 17)), (4, .int (nI i))] → W p l e room_1 s m #[Value.ref b] below meth c H locs (cells + 2) (slots + 16) Q (F0 m 1633 ls [])) : W p l e room_1 s m #[Value.ref b] below meth c H locs cells slots Q (F0 m 288 ls []) := by
  obtain ⟨hx, hb, hr, hml, hown, hts, hXs, hbl, hlocks, hgv⟩ := id C0
  have hts := fun w h => hts w (wsL_law_in w h)
  have hb : c.code = cL_law := hb
  have hA : ∀ q : Nat, s.heap.size ≤ q → (fun q : Nat => s.heap.size ≤ q) q := fun _ h => h
  have hbA : ¬ (fun q : Nat => s.heap.size ≤ q) b := Nat.not_le.mpr hbl
  refine lv_aload_n hx hb dL_law_288 rfl (lv_at hl 1 rfl) ?_
  refine lv_aload_n hx hb dL_law_289 rfl (lv_at hl 0 rfl) ?_
  refine lv_iload hx hb dL_law_290 (lv_at hl 4 rfl) ?_
  refine lv_iconst (v := 1) hx hb dL_law_292 (by decide) ?_
  refine lv_iadd hx hb dL_law_293 ?_
  refine kc_top (show (nI i) + 1 = nI (i + 1) from nI_add _ _) ?_
  refine kc_sld (i := i + 1) hx hb hXs hbl hbA hS (by omega) (by omega) dL_law_294 ?_
  refine kc_top hp1 ?_
  refine lv_aload_n hx hb dL_law_295 rfl (lv_at hl 0 rfl) ?_
  refine lv_iload hx hb dL_law_296 (lv_at hl 4 rfl) ?_
  refine lv_iconst (v := 2) hx hb dL_law_298 (by decide) ?_
  refine lv_iadd hx hb dL_law_299 ?_
  refine kc_top (show (nI i) + 2 = nI (i + 2) from nI_add _ _) ?_
  refine kc_sld (i := i + 2) hx hb hXs hbl hbA hS (by omega) (by omega) dL_law_300 ?_
  refine kc_top hp2 ?_
  refine lv_aload_n hx hb dL_law_301 rfl (lv_at hl 3 rfl) ?_
  have hX := kc_xat hX0 hS
  refine kc_hXi (w1 := wLh ad cI cd te ri pi pw K Dn mv ko so tl lp lb ld le C cl dq dy cL ou) (wr := [(md 0, .inr (3, [.int th, .int (nI mK), .ref (md 1), .int (nI mD), .ref (md 2), .int mw, .int my, .int (nI mC), .ref (md 3), .ref (md 4), .ref (md 5), .ref (md 6), .ref (md 7), .ref (md 8), .ref (md 9)])), (md 1, .inl (cI, 8, .inl mc)), (md 2, .inl (cI, 8, .inl mr)), (md 3, .inl (cI, 24, .inl mk)), (md 4, .inl (cI, 24, .inl ms)), (md 5, .inl (cI, 24, .inl mu)), (md 6, .inl (cI, 24, .inl mt)), (md 7, .inl (cI, 216, .inl mp)), (md 8, .inl (cI, 216, .inl mb)), (md 9, .inl (cI, 216, .inl me))]) (ws1 := wLaw ad cI cd te ri pi pw K Dn mv ko so tl lp lb ld le C cl dq dy cL ou md th mK mc mD mr mw my mC mk ms mu mt mp mb me) (As := [.ref (ad 14), .int x, .int r, .ref (ad 17)]) (rest := []) ⟨hx, hb, hml, hown, hts⟩ (c_L_setRights_f1 l hlf D ad cI cd te ri pi pw K Dn mv ko so tl lp lb ld le C cl dq dy cL ou x r H.size hBad) (vx_cwSW 4 hts gL_law_L_setRights rfl rfl rfl (by decide +kernel) ⟨Nat.le_of_ble_eq_true rfl, Nat.le_of_ble_eq_true rfl⟩) hK hP hD hX hS hA [0, 1, 2, 3, 4, 5, 6, 7, 8, 9, 10, 11, 12, 13, 14, 15, 16, 17] [18, 19, 20, 21, 22, 23, 24, 25, 26, 27] [10, 11, 12, 13, 14, 15, 16, 17, 18, 19, 20, 21, 22, 23, 24, 25, 26, 27, 0, 1, 2, 3, 4, 5, 6, 7, 8, 9] [0, 1] rfl rfl rfl rfl (by decide) rfl rfl rfl rfl hl.1 rfl (Nat.le_of_ble_eq_true rfl) dL_law_302 ⟨kc_rc (by omega), kc_rs (by omega)⟩ (fun H locs hP hD hS => ?_)
  refine lv_istore (lv' := [(5, .int 1), (0, .ref b), (1, .ref (ad 14)), (2, .ref (md 0)), (3, .ref (ad 17)), (4, .int (nI i))]) hx hb dL_law_305 hl (by decide) rfl (fun ls hl => ?_)
  refine lv_aload_n hx hb dL_law_307 rfl (lv_at hl 3 rfl) ?_
  refine lv_aload_n hx hb dL_law_308 rfl (lv_at hl 1 rfl) ?_
  refine lv_iload hx hb dL_law_309 (lv_at hl 5 rfl) ?_
  refine lv_iconst (v := 1) hx hb dL_law_311 (by decide) ?_
  refine lv_iadd hx hb dL_law_312 ?_
  refine kc_top (show (nI i) + 1 = nI (i + 1) from nI_add _ _) ?_
  refine kc_sld (i := i + 1) hx hb hXs hbl hbA hS (by omega) (by omega) dL_law_313 ?_
  refine kc_top hp1 ?_
  refine lv_aload_n hx hb dL_law_314 rfl (lv_at hl 1 rfl) ?_
  refine lv_iload hx hb dL_law_315 (lv_at hl 5 rfl) ?_
  refine lv_iconst (v := 2) hx hb dL_law_317 (by decide) ?_
  refine lv_iadd hx hb dL_law_318 ?_
  refine kc_top (show (nI i) + 2 = nI (i + 2) from nI_add _ _) ?_
  refine kc_sld (i := i + 2) hx hb hXs hbl hbA hS (by omega) (by omega) dL_law_319 ?_
  refine kc_top hp2 ?_
  refine kc_wVi (w1 := wMd md cI 1 mK mc mD mr mw my mC mk ms mu mt mp mb me) (wr := [(ad 0, .inr (1, [.ref (ad 1), .ref (ad 2), .ref (ad 3), .ref (ad 4), .ref (ad 5), .int (nI K), .int (nI Dn), .int mv])), (ad 1, .inl (cI, 8, .inl cd)), (ad 2, .inl (cI, 8, .inl te)), (ad 3, .inl (cI, 8, .inl ri)), (ad 4, .inl (cI, 8, .inl pi)), (ad 5, .inl (cI, 8, .inl pw)), (ad 6, .inr (0, [.ref (ad 7), .ref (ad 8), .ref (ad 9), .ref (ad 10), .ref (ad 11), .ref (ad 12), .ref (ad 13), .int (nI C)])), (ad 7, .inl (cI, 24, .inl ko)), (ad 8, .inl (cI, 24, .inl so)), (ad 9, .inl (cI, 24, .inl tl)), (ad 10, .inl (cI, 216, .inl lp)), (ad 11, .inl (cI, 216, .inl lb)), (ad 12, .inl (cI, 216, .inl ld)), (ad 13, .inl (cI, 216, .inl le)), (ad 14, .inr (2, [.ref (ad 0), .ref (ad 6), .ref (ad 15), .ref (ad 16), .int dy])), (ad 15, .inl (cI, 8, .inl cl)), (ad 16, .inl (cI, 8, .inl dq)), (ad 17, .inl (cL, 1, .inr (.inl ou)))]) (ws1 := wLaw ad cI cd te ri pi pw K Dn mv ko so tl lp lb ld le C cl dq dy cL ou md 1 mK mc mD mr mw my mC mk ms mu mt mp mb me) (As := [.int x, .int r]) (rest := []) ⟨hx, hb, hml, hown, hts⟩ (c_X3_setRights_f1 l D md cI th mK mc mD mr mw my mC mk ms mu mt mp mb me x r H.size m_hBad) (cwV 2 hts gL_law_X3_setRights rfl rfl rfl (by decide +kernel) ⟨Nat.le_of_ble_eq_true rfl, Nat.le_of_ble_eq_true rfl⟩) hK hP hD hS hA [18, 19, 20, 21, 22, 23, 24, 25, 26, 27] [0, 1, 2, 3, 4, 5, 6, 7, 8, 9, 10, 11, 12, 13, 14, 15, 16, 17] [0, 1, 2, 3, 4, 5, 6, 7, 8, 9, 10, 11, 12, 13, 14, 15, 16, 17, 18, 19, 20, 21, 22, 23, 24, 25, 26, 27] [0] rfl rfl rfl rfl (by decide) rfl rfl rfl 18 rfl rfl rfl rfl hl.1 rfl (Nat.le_of_ble_eq_true rfl) dL_law_320 ⟨kc_rc (by omega), kc_rs (by omega)⟩ (fun H locs hP hD hS => ?_)
  refine lv_istore (lv' := [(6, .int 0), (5, .int 1), (0, .ref b), (1, .ref (ad 14)), (2, .ref (md 0)), (3, .ref (ad 17)), (4, .int (nI i))]) hx hb dL_law_323 hl (by decide) rfl (fun ls hl => ?_)
  refine lv_aload_n hx hb dL_law_325 rfl (lv_at hl 4 rfl) ?_
  refine kc_rVi (As := []) (rest := []) ⟨hx, hb, hml, hown, hts⟩ (c_X3_thrown l D md cI 1 mK mc mD mr mw my mC mk ms mu mt mp mb me ) (cwV 0 hts gL_law_X3_thrown rfl rfl rfl (by decide +kernel) ⟨Nat.le_of_ble_eq_true rfl, Nat.le_of_ble_eq_true rfl⟩) hK hP [18, 19, 20, 21, 22, 23, 24, 25, 26, 27] [0] rfl rfl 18 rfl rfl rfl rfl hl.1 rfl (Nat.le_of_ble_eq_true rfl) dL_law_326 ⟨kc_rc (by omega), kc_rs (by omega)⟩ ?_
  refine lv_iload hx hb dL_law_329 (lv_at hl 1 rfl) ?_
  refine lv_icmp_eq (tgt := 336) hx hb dL_law_331 (by decide) (fun c_331 => ?_) (fun c_331 => absurd c_331 (by decide))
  refine lv_iload hx hb dL_law_336 (lv_at hl 1 rfl) ?_
  refine lv_if_ne (tgt := 353) hx hb dL_law_338 (by decide) (fun c_338 => ?_) (fun c_338 => absurd c_338 (by decide))
  refine lv_goto (tgt := 1633) hx hb dL_law_353 (by decide) ?_
  refine W.widen (k := cells + 2) (n := slots + 16) (by omega) (by omega) ?_
  exact K1 _ _ _ hP hD hS (lv_sub hl [2, 3, 4, 5, 6] rfl)
set_option maxHeartbeats 4000000 in
set_option maxRecDepth 100000 in
theorem lw_setRights_f2_f2 {p : Program} {l : Launch} {e : Env} {s : State} {m : MethodId} {below : List Frame} {meth : Method} {c : Code} {Q : State → Prop} {b L : Nat} {xs : Nat → Int32} (hlf : l.stackTraces = false) (C0 : lw_At p s m meth c b L xs) {D : va_G} {cI cL : ClassId} (hK : kcK D [(cI, .int), (cL, .long)] s) (hX0 : kcX (fun q => s.heap.size ≤ q) s s.heap) (hL : L ≤ 2048) (i : Nat) (hi : i + 3 < L) (ad : Nat → Nat) (cd : Nat → Int32) (te : Nat → Int32) (ri : Nat → Int32) (pi : Nat → Int32) (pw : Nat → Int32) (K : Nat) (Dn : Nat) (mv : Int32) (ko : Nat → Int32) (so : Nat → Int32) (tl : Nat → Int32) (lp : Nat → Int32) (lb : Nat → Int32) (ld : Nat → Int32) (le : Nat → Int32) (C : Nat) (cl : Nat → Int32) (dq : Nat → Int32) (dy : Int32) (ou : Nat → Int64) (md : Nat → Nat) (th : Int32) (mK : Nat) (mc : Nat → Int32) (mD : Nat) (mr : Nat → Int32) (mw : Int32) (my : Int32) (mC : Nat) (mk : Nat → Int32) (ms : Nat → Int32) (mu : Nat → Int32) (mt : Nat → Int32) (mp : Nat → Int32) (mb : Nat → Int32) (me : Nat → Int32) (d : Nat) (r : Int32) (hD8 : Dn ≤ 8) (hd : d < Dn) (hBad : ¬ jSetOf K r = true) (m_hD8 : mD ≤ 8) (m_hd : d < mD) (m_hBad : ¬ jSet mK r = true) (hp1 : xs (i + 1) = nI d) (hp2 : xs (i + 2) = r)  {H : Heap} {locs : List Loc} {cells slots : Nat} (hce : cells + 2 ≤ 601024) (hsl : slots + 16 ≤ 7293034) (hP : va_P D vwCl (wLaw ad cI cd te ri pi pw K Dn mv ko so tl lp lb ld le C cl dq dy cL ou md th mK mc mD mr mw my mC mk ms mu mt mp mb me) H) (hD : va_D (fun q => s.heap.size ≤ q) (wLaw ad cI cd te ri pi pw K Dn mv ko so tl lp lb ld le C cl dq dy cL ou md th mK mc mD mr mw my mC mk ms mu mt mp mb me)) (hS : va_S (fun q => s.heap.size ≤ q) s.heap H locs) {ls : Array Slot} (hl : lv_has ls 9 [(0, .ref b), (1, .ref (ad 14)), (2, .ref (md 0)), (3, .ref (ad 17)), (4, .int (nI i))]) (K1 : ∀ (H : Heap) (locs : List Loc) (ls : Array Slot), va_P D vwCl (wLaw ad cI cd te ri pi pw K Dn mv ko so tl lp lb ld le C cl dq dy cL ou md 2 mK mc mD mr mw my mC mk ms mu mt mp mb me) H → va_D (fun q => s.heap.size ≤ q) (wLaw ad cI cd te ri pi pw K Dn mv ko so tl lp lb ld le C cl dq dy cL ou md 2 mK mc mD mr mw my mC mk ms mu mt mp mb me) → va_S (fun q => s.heap.size ≤ q) s.heap H locs → lv_has ls 9 [(0, .ref b), (1, .ref (ad 14)), (2, .ref (md 0)), (3, .ref (ad 17)), (4, .int (nI i))] → W p l e room_1 s m #[Value.ref b] below meth c H locs (cells + 2) (slots + 16) Q (F0 m 1633 ls [])) : W p l e room_1 s m #[Value.ref b] below meth c H locs cells slots Q (F0 m 288 ls []) := by
  obtain ⟨hx, hb, hr, hml, hown, hts, hXs, hbl, hlocks, hgv⟩ := id C0
  have hts := fun w h => hts w (wsL_law_in w h)
  have hb : c.code = cL_law := hb
  have hA : ∀ q : Nat, s.heap.size ≤ q → (fun q : Nat => s.heap.size ≤ q) q := fun _ h => h
  have hbA : ¬ (fun q : Nat => s.heap.size ≤ q) b := Nat.not_le.mpr hbl
  refine lv_aload_n hx hb dL_law_288 rfl (lv_at hl 1 rfl) ?_
  refine lv_aload_n hx hb dL_law_289 rfl (lv_at hl 0 rfl) ?_
  refine lv_iload hx hb dL_law_290 (lv_at hl 4 rfl) ?_
  refine lv_iconst (v := 1) hx hb dL_law_292 (by decide) ?_
  refine lv_iadd hx hb dL_law_293 ?_
  refine kc_top (show (nI i) + 1 = nI (i + 1) from nI_add _ _) ?_
  refine kc_sld (i := i + 1) hx hb hXs hbl hbA hS (by omega) (by omega) dL_law_294 ?_
  refine kc_top hp1 ?_
  refine lv_aload_n hx hb dL_law_295 rfl (lv_at hl 0 rfl) ?_
  refine lv_iload hx hb dL_law_296 (lv_at hl 4 rfl) ?_
  refine lv_iconst (v := 2) hx hb dL_law_298 (by decide) ?_
  refine lv_iadd hx hb dL_law_299 ?_
  refine kc_top (show (nI i) + 2 = nI (i + 2) from nI_add _ _) ?_
  refine kc_sld (i := i + 2) hx hb hXs hbl hbA hS (by omega) (by omega) dL_law_300 ?_
  refine kc_top hp2 ?_
  refine lv_aload_n hx hb dL_law_301 rfl (lv_at hl 3 rfl) ?_
  have hX := kc_xat hX0 hS
  refine kc_hXi (w1 := wLh ad cI cd te ri pi pw K Dn mv ko so tl lp lb ld le C cl dq dy cL ou) (wr := [(md 0, .inr (3, [.int th, .int (nI mK), .ref (md 1), .int (nI mD), .ref (md 2), .int mw, .int my, .int (nI mC), .ref (md 3), .ref (md 4), .ref (md 5), .ref (md 6), .ref (md 7), .ref (md 8), .ref (md 9)])), (md 1, .inl (cI, 8, .inl mc)), (md 2, .inl (cI, 8, .inl mr)), (md 3, .inl (cI, 24, .inl mk)), (md 4, .inl (cI, 24, .inl ms)), (md 5, .inl (cI, 24, .inl mu)), (md 6, .inl (cI, 24, .inl mt)), (md 7, .inl (cI, 216, .inl mp)), (md 8, .inl (cI, 216, .inl mb)), (md 9, .inl (cI, 216, .inl me))]) (ws1 := wLaw ad cI cd te ri pi pw K Dn mv ko so tl lp lb ld le C cl dq dy cL ou md th mK mc mD mr mw my mC mk ms mu mt mp mb me) (As := [.ref (ad 14), .int (nI d), .int r, .ref (ad 17)]) (rest := []) ⟨hx, hb, hml, hown, hts⟩ (c_L_setRights_f2 l hlf D ad cI cd te ri pi pw K Dn mv ko so tl lp lb ld le C cl dq dy cL ou d r H.size hD8 hd hBad) (vx_cwSW 4 hts gL_law_L_setRights rfl rfl rfl (by decide +kernel) ⟨Nat.le_of_ble_eq_true rfl, Nat.le_of_ble_eq_true rfl⟩) hK hP hD hX hS hA [0, 1, 2, 3, 4, 5, 6, 7, 8, 9, 10, 11, 12, 13, 14, 15, 16, 17] [18, 19, 20, 21, 22, 23, 24, 25, 26, 27] [10, 11, 12, 13, 14, 15, 16, 17, 18, 19, 20, 21, 22, 23, 24, 25, 26, 27, 0, 1, 2, 3, 4, 5, 6, 7, 8, 9] [0, 1] rfl rfl rfl rfl (by decide) rfl rfl rfl rfl hl.1 rfl (Nat.le_of_ble_eq_true rfl) dL_law_302 ⟨kc_rc (by omega), kc_rs (by omega)⟩ (fun H locs hP hD hS => ?_)
  refine lv_istore (lv' := [(5, .int 2), (0, .ref b), (1, .ref (ad 14)), (2, .ref (md 0)), (3, .ref (ad 17)), (4, .int (nI i))]) hx hb dL_law_305 hl (by decide) rfl (fun ls hl => ?_)
  refine lv_aload_n hx hb dL_law_307 rfl (lv_at hl 3 rfl) ?_
  refine lv_aload_n hx hb dL_law_308 rfl (lv_at hl 1 rfl) ?_
  refine lv_iload hx hb dL_law_309 (lv_at hl 5 rfl) ?_
  refine lv_iconst (v := 1) hx hb dL_law_311 (by decide) ?_
  refine lv_iadd hx hb dL_law_312 ?_
  refine kc_top (show (nI i) + 1 = nI (i + 1) from nI_add _ _) ?_
  refine kc_sld (i := i + 1) hx hb hXs hbl hbA hS (by omega) (by omega) dL_law_313 ?_
  refine kc_top hp1 ?_
  refine lv_aload_n hx hb dL_law_314 rfl (lv_at hl 1 rfl) ?_
  refine lv_iload hx hb dL_law_315 (lv_at hl 5 rfl) ?_
  refine lv_iconst (v := 2) hx hb dL_law_317 (by decide) ?_
  refine lv_iadd hx hb dL_law_318 ?_
  refine kc_top (show (nI i) + 2 = nI (i + 2) from nI_add _ _) ?_
  refine kc_sld (i := i + 2) hx hb hXs hbl hbA hS (by omega) (by omega) dL_law_319 ?_
  refine kc_top hp2 ?_
  refine kc_wVi (w1 := wMd md cI 2 mK mc mD mr mw my mC mk ms mu mt mp mb me) (wr := [(ad 0, .inr (1, [.ref (ad 1), .ref (ad 2), .ref (ad 3), .ref (ad 4), .ref (ad 5), .int (nI K), .int (nI Dn), .int mv])), (ad 1, .inl (cI, 8, .inl cd)), (ad 2, .inl (cI, 8, .inl te)), (ad 3, .inl (cI, 8, .inl ri)), (ad 4, .inl (cI, 8, .inl pi)), (ad 5, .inl (cI, 8, .inl pw)), (ad 6, .inr (0, [.ref (ad 7), .ref (ad 8), .ref (ad 9), .ref (ad 10), .ref (ad 11), .ref (ad 12), .ref (ad 13), .int (nI C)])), (ad 7, .inl (cI, 24, .inl ko)), (ad 8, .inl (cI, 24, .inl so)), (ad 9, .inl (cI, 24, .inl tl)), (ad 10, .inl (cI, 216, .inl lp)), (ad 11, .inl (cI, 216, .inl lb)), (ad 12, .inl (cI, 216, .inl ld)), (ad 13, .inl (cI, 216, .inl le)), (ad 14, .inr (2, [.ref (ad 0), .ref (ad 6), .ref (ad 15), .ref (ad 16), .int dy])), (ad 15, .inl (cI, 8, .inl cl)), (ad 16, .inl (cI, 8, .inl dq)), (ad 17, .inl (cL, 1, .inr (.inl ou)))]) (ws1 := wLaw ad cI cd te ri pi pw K Dn mv ko so tl lp lb ld le C cl dq dy cL ou md 2 mK mc mD mr mw my mC mk ms mu mt mp mb me) (As := [.int (nI d), .int r]) (rest := []) ⟨hx, hb, hml, hown, hts⟩ (c_X3_setRights_f2 l D md cI th mK mc mD mr mw my mC mk ms mu mt mp mb me d r H.size m_hD8 m_hd m_hBad) (cwV 2 hts gL_law_X3_setRights rfl rfl rfl (by decide +kernel) ⟨Nat.le_of_ble_eq_true rfl, Nat.le_of_ble_eq_true rfl⟩) hK hP hD hS hA [18, 19, 20, 21, 22, 23, 24, 25, 26, 27] [0, 1, 2, 3, 4, 5, 6, 7, 8, 9, 10, 11, 12, 13, 14, 15, 16, 17] [0, 1, 2, 3, 4, 5, 6, 7, 8, 9, 10, 11, 12, 13, 14, 15, 16, 17, 18, 19, 20, 21, 22, 23, 24, 25, 26, 27] [0] rfl rfl rfl rfl (by decide) rfl rfl rfl 18 rfl rfl rfl rfl hl.1 rfl (Nat.le_of_ble_eq_true rfl) dL_law_320 ⟨kc_rc (by omega), kc_rs (by omega)⟩ (fun H locs hP hD hS => ?_)
  refine lv_istore (lv' := [(6, .int 0), (5, .int 2), (0, .ref b), (1, .ref (ad 14)), (2, .ref (md 0)), (3, .ref (ad 17)), (4, .int (nI i))]) hx hb dL_law_323 hl (by decide) rfl (fun ls hl => ?_)
  refine lv_aload_n hx hb dL_law_325 rfl (lv_at hl 4 rfl) ?_
  refine kc_rVi (As := []) (rest := []) ⟨hx, hb, hml, hown, hts⟩ (c_X3_thrown l D md cI 2 mK mc mD mr mw my mC mk ms mu mt mp mb me ) (cwV 0 hts gL_law_X3_thrown rfl rfl rfl (by decide +kernel) ⟨Nat.le_of_ble_eq_true rfl, Nat.le_of_ble_eq_true rfl⟩) hK hP [18, 19, 20, 21, 22, 23, 24, 25, 26, 27] [0] rfl rfl 18 rfl rfl rfl rfl hl.1 rfl (Nat.le_of_ble_eq_true rfl) dL_law_326 ⟨kc_rc (by omega), kc_rs (by omega)⟩ ?_
  refine lv_iload hx hb dL_law_329 (lv_at hl 1 rfl) ?_
  refine lv_icmp_eq (tgt := 336) hx hb dL_law_331 (by decide) (fun c_331 => ?_) (fun c_331 => absurd c_331 (by decide))
  refine lv_iload hx hb dL_law_336 (lv_at hl 1 rfl) ?_
  refine lv_if_ne (tgt := 353) hx hb dL_law_338 (by decide) (fun c_338 => ?_) (fun c_338 => absurd c_338 (by decide))
  refine lv_goto (tgt := 1633) hx hb dL_law_353 (by decide) ?_
  refine W.widen (k := cells + 2) (n := slots + 16) (by omega) (by omega) ?_
  exact K1 _ _ _ hP hD hS (lv_sub hl [2, 3, 4, 5, 6] rfl)
set_option maxHeartbeats 4000000 in
set_option maxRecDepth 100000 in
theorem lw_code_ok_ok {p : Program} {l : Launch} {e : Env} {s : State} {m : MethodId} {below : List Frame} {meth : Method} {c : Code} {Q : State → Prop} {b L : Nat} {xs : Nat → Int32} (hlf : l.stackTraces = false) (C0 : lw_At p s m meth c b L xs) {D : va_G} {cI cL : ClassId} (hK : kcK D [(cI, .int), (cL, .long)] s) (hX0 : kcX (fun q => s.heap.size ≤ q) s s.heap) (hL : L ≤ 2048) (i : Nat) (hi : i + 3 < L) (ad : Nat → Nat) (cd : Nat → Int32) (te : Nat → Int32) (ri : Nat → Int32) (pi : Nat → Int32) (pw : Nat → Int32) (K : Nat) (Dn : Nat) (mv : Int32) (ko : Nat → Int32) (so : Nat → Int32) (tl : Nat → Int32) (lp : Nat → Int32) (lb : Nat → Int32) (ld : Nat → Int32) (le : Nat → Int32) (C : Nat) (cl : Nat → Int32) (dq : Nat → Int32) (dy : Int32) (ou : Nat → Int64) (md : Nat → Nat) (th : Int32) (mK : Nat) (mc : Nat → Int32) (mD : Nat) (mr : Nat → Int32) (mw : Int32) (my : Int32) (mC : Nat) (mk : Nat → Int32) (ms : Nat → Int32) (mu : Nat → Int32) (mt : Nat → Int32) (mp : Nat → Int32) (mb : Nat → Int32) (me : Nat → Int32) (k : Nat) (hK8 : K ≤ 8) (hk : k < K) (m_hK8 : mK ≤ 8) (m_hk : k < mK) (hp1 : xs (i + 1) = nI k) (hres : (cd k : Int32) = (mc k)) {H : Heap} {locs : List Loc} {cells slots : Nat} (hce : cells + 2 ≤ 601024) (hsl : slots + 16 ≤ 7293034) (hP : va_P D vwCl (wLaw ad cI cd te ri pi pw K Dn mv ko so tl lp lb ld le C cl dq dy cL ou md th mK mc mD mr mw my mC mk ms mu mt mp mb me) H) (hD : va_D (fun q => s.heap.size ≤ q) (wLaw ad cI cd te ri pi pw K Dn mv ko so tl lp lb ld le C cl dq dy cL ou md th mK mc mD mr mw my mC mk ms mu mt mp mb me)) (hS : va_S (fun q => s.heap.size ≤ q) s.heap H locs) {ls : Array Slot} (hl : lv_has ls 9 [(0, .ref b), (1, .ref (ad 14)), (2, .ref (md 0)), (3, .ref (ad 17)), (4, .int (nI i))]) (K1 : ∀ (H : Heap) (locs : List Loc) (ls : Array Slot), va_P D vwCl (wLaw ad cI cd te ri pi pw K Dn mv ko so tl lp lb ld le C cl dq dy cL (vp_updL ou 0 (Int32.toInt64 (cd k))) md 0 mK mc mD mr mw my mC mk ms mu mt mp mb me) H → va_D (fun q => s.heap.size ≤ q) (wLaw ad cI cd te ri pi pw K Dn mv ko so tl lp lb ld le C cl dq dy cL (vp_updL ou 0 (Int32.toInt64 (cd k))) md 0 mK mc mD mr mw my mC mk ms mu mt mp mb me) → va_S (fun q => s.heap.size ≤ q) s.heap H locs → lv_has ls 9 [(0, .ref b), (1, .ref (ad 14)), (2, .ref (md 0)), (3, .ref (ad 17)), (4, .int (nI i))] → W p l e room_1 s m #[Value.ref b] below meth c H locs (cells + 2) (slots + 16) Q (F0 m 1633 ls [])) : W p l e room_1 s m #[Value.ref b] below meth c H locs cells slots Q (F0 m 382 ls []) := by
  obtain ⟨hx, hb, hr, hml, hown, hts, hXs, hbl, hlocks, hgv⟩ := id C0
  have hts := fun w h => hts w (wsL_law_in w h)
  have hb : c.code = cL_law := hb
  have hA : ∀ q : Nat, s.heap.size ≤ q → (fun q : Nat => s.heap.size ≤ q) q := fun _ h => h
  have hbA : ¬ (fun q : Nat => s.heap.size ≤ q) b := Nat.not_le.mpr hbl
  refine lv_aload_n hx hb dL_law_382 rfl (lv_at hl 1 rfl) ?_
  refine lv_aload_n hx hb dL_law_383 rfl (lv_at hl 0 rfl) ?_
  refine lv_iload hx hb dL_law_384 (lv_at hl 4 rfl) ?_
  refine lv_iconst (v := 1) hx hb dL_law_386 (by decide) ?_
  refine lv_iadd hx hb dL_law_387 ?_
  refine kc_top (show (nI i) + 1 = nI (i + 1) from nI_add _ _) ?_
  refine kc_sld (i := i + 1) hx hb hXs hbl hbA hS (by omega) (by omega) dL_law_388 ?_
  refine kc_top hp1 ?_
  refine lv_aload_n hx hb dL_law_389 rfl (lv_at hl 3 rfl) ?_
  refine kc_hSi (w1 := wLh ad cI cd te ri pi pw K Dn mv ko so tl lp lb ld le C cl dq dy cL (vp_updL ou 0 (Int32.toInt64 (cd k)))) (wr := [(md 0, .inr (3, [.int th, .int (nI mK), .ref (md 1), .int (nI mD), .ref (md 2), .int mw, .int my, .int (nI mC), .ref (md 3), .ref (md 4), .ref (md 5), .ref (md 6), .ref (md 7), .ref (md 8), .ref (md 9)])), (md 1, .inl (cI, 8, .inl mc)), (md 2, .inl (cI, 8, .inl mr)), (md 3, .inl (cI, 24, .inl mk)), (md 4, .inl (cI, 24, .inl ms)), (md 5, .inl (cI, 24, .inl mu)), (md 6, .inl (cI, 24, .inl mt)), (md 7, .inl (cI, 216, .inl mp)), (md 8, .inl (cI, 216, .inl mb)), (md 9, .inl (cI, 216, .inl me))]) (ws1 := wLaw ad cI cd te ri pi pw K Dn mv ko so tl lp lb ld le C cl dq dy cL (vp_updL ou 0 (Int32.toInt64 (cd k))) md th mK mc mD mr mw my mC mk ms mu mt mp mb me) (As := [.ref (ad 14), .int (nI k), .ref (ad 17)]) (rest := []) ⟨hx, hb, hml, hown, hts⟩ (c_L_code_ok l D ad cI cd te ri pi pw K Dn mv ko so tl lp lb ld le C cl dq dy cL ou k H.size hK8 hk) (vx_cwSW 3 hts gL_law_L_code rfl rfl rfl (by decide +kernel) ⟨Nat.le_of_ble_eq_true rfl, Nat.le_of_ble_eq_true rfl⟩) hK hP hD hS hA [0, 1, 2, 3, 4, 5, 6, 7, 8, 9, 10, 11, 12, 13, 14, 15, 16, 17] [18, 19, 20, 21, 22, 23, 24, 25, 26, 27] [10, 11, 12, 13, 14, 15, 16, 17, 18, 19, 20, 21, 22, 23, 24, 25, 26, 27, 0, 1, 2, 3, 4, 5, 6, 7, 8, 9] [0, 1] rfl rfl rfl rfl (by decide) rfl rfl rfl rfl hl.1 rfl (Nat.le_of_ble_eq_true rfl) dL_law_390 ⟨kc_rc (by omega), kc_rs (by omega)⟩ (fun H locs hP hD hS => ?_)
  refine lv_istore (lv' := [(5, .int 0), (0, .ref b), (1, .ref (ad 14)), (2, .ref (md 0)), (3, .ref (ad 17)), (4, .int (nI i))]) hx hb dL_law_393 hl (by decide) rfl (fun ls hl => ?_)
  refine lv_aload_n hx hb dL_law_395 rfl (lv_at hl 3 rfl) ?_
  refine lv_aload_n hx hb dL_law_396 rfl (lv_at hl 1 rfl) ?_
  refine lv_iload hx hb dL_law_397 (lv_at hl 5 rfl) ?_
  refine lv_iconst (v := 1) hx hb dL_law_399 (by decide) ?_
  refine lv_iadd hx hb dL_law_400 ?_
  refine kc_top (show (nI i) + 1 = nI (i + 1) from nI_add _ _) ?_
  refine kc_sld (i := i + 1) hx hb hXs hbl hbA hS (by omega) (by omega) dL_law_401 ?_
  refine kc_top hp1 ?_
  refine kc_wVi (w1 := wMd md cI 0 mK mc mD mr mw my mC mk ms mu mt mp mb me) (wr := [(ad 0, .inr (1, [.ref (ad 1), .ref (ad 2), .ref (ad 3), .ref (ad 4), .ref (ad 5), .int (nI K), .int (nI Dn), .int mv])), (ad 1, .inl (cI, 8, .inl cd)), (ad 2, .inl (cI, 8, .inl te)), (ad 3, .inl (cI, 8, .inl ri)), (ad 4, .inl (cI, 8, .inl pi)), (ad 5, .inl (cI, 8, .inl pw)), (ad 6, .inr (0, [.ref (ad 7), .ref (ad 8), .ref (ad 9), .ref (ad 10), .ref (ad 11), .ref (ad 12), .ref (ad 13), .int (nI C)])), (ad 7, .inl (cI, 24, .inl ko)), (ad 8, .inl (cI, 24, .inl so)), (ad 9, .inl (cI, 24, .inl tl)), (ad 10, .inl (cI, 216, .inl lp)), (ad 11, .inl (cI, 216, .inl lb)), (ad 12, .inl (cI, 216, .inl ld)), (ad 13, .inl (cI, 216, .inl le)), (ad 14, .inr (2, [.ref (ad 0), .ref (ad 6), .ref (ad 15), .ref (ad 16), .int dy])), (ad 15, .inl (cI, 8, .inl cl)), (ad 16, .inl (cI, 8, .inl dq)), (ad 17, .inl (cL, 1, .inr (.inl (vp_updL ou 0 (Int32.toInt64 (cd k))))))]) (ws1 := wLaw ad cI cd te ri pi pw K Dn mv ko so tl lp lb ld le C cl dq dy cL (vp_updL ou 0 (Int32.toInt64 (cd k))) md 0 mK mc mD mr mw my mC mk ms mu mt mp mb me) (As := [.int (nI k)]) (rest := []) ⟨hx, hb, hml, hown, hts⟩ (c_X3_code_ok l D md cI th mK mc mD mr mw my mC mk ms mu mt mp mb me k H.size m_hK8 m_hk) (cwV 1 hts gL_law_X3_code rfl rfl rfl (by decide +kernel) ⟨Nat.le_of_ble_eq_true rfl, Nat.le_of_ble_eq_true rfl⟩) hK hP hD hS hA [18, 19, 20, 21, 22, 23, 24, 25, 26, 27] [0, 1, 2, 3, 4, 5, 6, 7, 8, 9, 10, 11, 12, 13, 14, 15, 16, 17] [0, 1, 2, 3, 4, 5, 6, 7, 8, 9, 10, 11, 12, 13, 14, 15, 16, 17, 18, 19, 20, 21, 22, 23, 24, 25, 26, 27] [0] rfl rfl rfl rfl (by decide) rfl rfl rfl 18 rfl rfl rfl rfl hl.1 rfl (Nat.le_of_ble_eq_true rfl) dL_law_402 ⟨kc_rc (by omega), kc_rs (by omega)⟩ (fun H locs hP hD hS => ?_)
  refine lv_istore (lv' := [(6, .int (mc k)), (5, .int 0), (0, .ref b), (1, .ref (ad 14)), (2, .ref (md 0)), (3, .ref (ad 17)), (4, .int (nI i))]) hx hb dL_law_405 hl (by decide) rfl (fun ls hl => ?_)
  refine lv_aload_n hx hb dL_law_407 rfl (lv_at hl 4 rfl) ?_
  refine kc_rVi (As := []) (rest := []) ⟨hx, hb, hml, hown, hts⟩ (c_X3_thrown l D md cI 0 mK mc mD mr mw my mC mk ms mu mt mp mb me ) (cwV 0 hts gL_law_X3_thrown rfl rfl rfl (by decide +kernel) ⟨Nat.le_of_ble_eq_true rfl, Nat.le_of_ble_eq_true rfl⟩) hK hP [18, 19, 20, 21, 22, 23, 24, 25, 26, 27] [0] rfl rfl 18 rfl rfl rfl rfl hl.1 rfl (Nat.le_of_ble_eq_true rfl) dL_law_408 ⟨kc_rc (by omega), kc_rs (by omega)⟩ ?_
  refine lv_iload hx hb dL_law_411 (lv_at hl 1 rfl) ?_
  refine lv_icmp_eq (tgt := 418) hx hb dL_law_413 (by decide) (fun c_413 => ?_) (fun c_413 => absurd c_413 (by decide))
  refine lv_iload hx hb dL_law_418 (lv_at hl 1 rfl) ?_
  refine lv_if_ne (tgt := 435) hx hb dL_law_420 (by decide) (fun c_420 => absurd c_420 (by decide)) (fun c_420 => ?_)
  refine lv_aload_n hx hb dL_law_423 rfl (lv_at hl 5 rfl) ?_
  refine lv_iconst (v := 0) hx hb dL_law_424 (by decide) ?_
  refine kc_lld (i := 0) (n := 1) hx hb hK hP 17 1 rfl rfl (by decide) (by decide) dL_law_425 ?_
  refine kc_topl (show ((vp_updL ou 0 (Int32.toInt64 (cd k)))) 0 = Int32.toInt64 (cd k) from pk_uLs) ?_
  refine lv_iload hx hb dL_law_426 (lv_at hl 0 rfl) ?_
  refine lv_i2l (v := Int32.toInt64 (mc k)) hx hb dL_law_428 rfl ?_
  refine W.lcmp hx hb dL_law_429 ?_
  refine kc_top (show lg_cmp (Int32.toInt64 (cd k)) (Int32.toInt64 (mc k)) = 0 from kc_lcmp0 (congrArg Int32.toInt64 hres)) ?_
  refine lv_if_eq (tgt := 435) hx hb dL_law_430 (by decide) (fun c_430 => ?_) (fun c_430 => absurd c_430 (by decide))
  refine lv_goto (tgt := 1633) hx hb dL_law_435 (by decide) ?_
  refine W.widen (k := cells + 2) (n := slots + 16) (by omega) (by omega) ?_
  exact K1 _ _ _ hP hD hS (lv_sub hl [2, 3, 4, 5, 6] rfl)
set_option maxHeartbeats 4000000 in
set_option maxRecDepth 100000 in
theorem lw_code_f1_f1 {p : Program} {l : Launch} {e : Env} {s : State} {m : MethodId} {below : List Frame} {meth : Method} {c : Code} {Q : State → Prop} {b L : Nat} {xs : Nat → Int32} (hlf : l.stackTraces = false) (C0 : lw_At p s m meth c b L xs) {D : va_G} {cI cL : ClassId} (hK : kcK D [(cI, .int), (cL, .long)] s) (hX0 : kcX (fun q => s.heap.size ≤ q) s s.heap) (hL : L ≤ 2048) (i : Nat) (hi : i + 3 < L) (ad : Nat → Nat) (cd : Nat → Int32) (te : Nat → Int32) (ri : Nat → Int32) (pi : Nat → Int32) (pw : Nat → Int32) (K : Nat) (Dn : Nat) (mv : Int32) (ko : Nat → Int32) (so : Nat → Int32) (tl : Nat → Int32) (lp : Nat → Int32) (lb : Nat → Int32) (ld : Nat → Int32) (le : Nat → Int32) (C : Nat) (cl : Nat → Int32) (dq : Nat → Int32) (dy : Int32) (ou : Nat → Int64) (md : Nat → Nat) (th : Int32) (mK : Nat) (mc : Nat → Int32) (mD : Nat) (mr : Nat → Int32) (mw : Int32) (my : Int32) (mC : Nat) (mk : Nat → Int32) (ms : Nat → Int32) (mu : Nat → Int32) (mt : Nat → Int32) (mp : Nat → Int32) (mb : Nat → Int32) (me : Nat → Int32) (x : Int32) (hBad : ¬ jIn K x = true) (m_hBad : ¬ jIn mK x = true) (hp1 : xs (i + 1) = x)  {H : Heap} {locs : List Loc} {cells slots : Nat} (hce : cells + 2 ≤ 601024) (hsl : slots + 16 ≤ 7293034) (hP : va_P D vwCl (wLaw ad cI cd te ri pi pw K Dn mv ko so tl lp lb ld le C cl dq dy cL ou md th mK mc mD mr mw my mC mk ms mu mt mp mb me) H) (hD : va_D (fun q => s.heap.size ≤ q) (wLaw ad cI cd te ri pi pw K Dn mv ko so tl lp lb ld le C cl dq dy cL ou md th mK mc mD mr mw my mC mk ms mu mt mp mb me)) (hS : va_S (fun q => s.heap.size ≤ q) s.heap H locs) {ls : Array Slot} (hl : lv_has ls 9 [(0, .ref b), (1, .ref (ad 14)), (2, .ref (md 0)), (3, .ref (ad 17)), (4, .int (nI i))]) (K1 : ∀ (H : Heap) (locs : List Loc) (ls : Array Slot), va_P D vwCl (wLaw ad cI cd te ri pi pw K Dn mv ko so tl lp lb ld le C cl dq dy cL ou md 1 mK mc mD mr mw my mC mk ms mu mt mp mb me) H → va_D (fun q => s.heap.size ≤ q) (wLaw ad cI cd te ri pi pw K Dn mv ko so tl lp lb ld le C cl dq dy cL ou md 1 mK mc mD mr mw my mC mk ms mu mt mp mb me) → va_S (fun q => s.heap.size ≤ q) s.heap H locs → lv_has ls 9 [(0, .ref b), (1, .ref (ad 14)), (2, .ref (md 0)), (3, .ref (ad 17)), (4, .int (nI i))] → W p l e room_1 s m #[Value.ref b] below meth c H locs (cells + 2) (slots + 16) Q (F0 m 1633 ls [])) : W p l e room_1 s m #[Value.ref b] below meth c H locs cells slots Q (F0 m 382 ls []) := by
  obtain ⟨hx, hb, hr, hml, hown, hts, hXs, hbl, hlocks, hgv⟩ := id C0
  have hts := fun w h => hts w (wsL_law_in w h)
  have hb : c.code = cL_law := hb
  have hA : ∀ q : Nat, s.heap.size ≤ q → (fun q : Nat => s.heap.size ≤ q) q := fun _ h => h
  have hbA : ¬ (fun q : Nat => s.heap.size ≤ q) b := Nat.not_le.mpr hbl
  refine lv_aload_n hx hb dL_law_382 rfl (lv_at hl 1 rfl) ?_
  refine lv_aload_n hx hb dL_law_383 rfl (lv_at hl 0 rfl) ?_
  refine lv_iload hx hb dL_law_384 (lv_at hl 4 rfl) ?_
  refine lv_iconst (v := 1) hx hb dL_law_386 (by decide) ?_
  refine lv_iadd hx hb dL_law_387 ?_
  refine kc_top (show (nI i) + 1 = nI (i + 1) from nI_add _ _) ?_
  refine kc_sld (i := i + 1) hx hb hXs hbl hbA hS (by omega) (by omega) dL_law_388 ?_
  refine kc_top hp1 ?_
  refine lv_aload_n hx hb dL_law_389 rfl (lv_at hl 3 rfl) ?_
  have hX := kc_xat hX0 hS
  refine kc_hXi (w1 := wLh ad cI cd te ri pi pw K Dn mv ko so tl lp lb ld le C cl dq dy cL ou) (wr := [(md 0, .inr (3, [.int th, .int (nI mK), .ref (md 1), .int (nI mD), .ref (md 2), .int mw, .int my, .int (nI mC), .ref (md 3), .ref (md 4), .ref (md 5), .ref (md 6), .ref (md 7), .ref (md 8), .ref (md 9)])), (md 1, .inl (cI, 8, .inl mc)), (md 2, .inl (cI, 8, .inl mr)), (md 3, .inl (cI, 24, .inl mk)), (md 4, .inl (cI, 24, .inl ms)), (md 5, .inl (cI, 24, .inl mu)), (md 6, .inl (cI, 24, .inl mt)), (md 7, .inl (cI, 216, .inl mp)), (md 8, .inl (cI, 216, .inl mb)), (md 9, .inl (cI, 216, .inl me))]) (ws1 := wLaw ad cI cd te ri pi pw K Dn mv ko so tl lp lb ld le C cl dq dy cL ou md th mK mc mD mr mw my mC mk ms mu mt mp mb me) (As := [.ref (ad 14), .int x, .ref (ad 17)]) (rest := []) ⟨hx, hb, hml, hown, hts⟩ (c_L_code_f1 l hlf D ad cI cd te ri pi pw K Dn mv ko so tl lp lb ld le C cl dq dy cL ou x H.size hBad) (vx_cwSW 3 hts gL_law_L_code rfl rfl rfl (by decide +kernel) ⟨Nat.le_of_ble_eq_true rfl, Nat.le_of_ble_eq_true rfl⟩) hK hP hD hX hS hA [0, 1, 2, 3, 4, 5, 6, 7, 8, 9, 10, 11, 12, 13, 14, 15, 16, 17] [18, 19, 20, 21, 22, 23, 24, 25, 26, 27] [10, 11, 12, 13, 14, 15, 16, 17, 18, 19, 20, 21, 22, 23, 24, 25, 26, 27, 0, 1, 2, 3, 4, 5, 6, 7, 8, 9] [0, 1] rfl rfl rfl rfl (by decide) rfl rfl rfl rfl hl.1 rfl (Nat.le_of_ble_eq_true rfl) dL_law_390 ⟨kc_rc (by omega), kc_rs (by omega)⟩ (fun H locs hP hD hS => ?_)
  refine lv_istore (lv' := [(5, .int 1), (0, .ref b), (1, .ref (ad 14)), (2, .ref (md 0)), (3, .ref (ad 17)), (4, .int (nI i))]) hx hb dL_law_393 hl (by decide) rfl (fun ls hl => ?_)
  refine lv_aload_n hx hb dL_law_395 rfl (lv_at hl 3 rfl) ?_
  refine lv_aload_n hx hb dL_law_396 rfl (lv_at hl 1 rfl) ?_
  refine lv_iload hx hb dL_law_397 (lv_at hl 5 rfl) ?_
  refine lv_iconst (v := 1) hx hb dL_law_399 (by decide) ?_
  refine lv_iadd hx hb dL_law_400 ?_
  refine kc_top (show (nI i) + 1 = nI (i + 1) from nI_add _ _) ?_
  refine kc_sld (i := i + 1) hx hb hXs hbl hbA hS (by omega) (by omega) dL_law_401 ?_
  refine kc_top hp1 ?_
  refine kc_wVi (w1 := wMd md cI 1 mK mc mD mr mw my mC mk ms mu mt mp mb me) (wr := [(ad 0, .inr (1, [.ref (ad 1), .ref (ad 2), .ref (ad 3), .ref (ad 4), .ref (ad 5), .int (nI K), .int (nI Dn), .int mv])), (ad 1, .inl (cI, 8, .inl cd)), (ad 2, .inl (cI, 8, .inl te)), (ad 3, .inl (cI, 8, .inl ri)), (ad 4, .inl (cI, 8, .inl pi)), (ad 5, .inl (cI, 8, .inl pw)), (ad 6, .inr (0, [.ref (ad 7), .ref (ad 8), .ref (ad 9), .ref (ad 10), .ref (ad 11), .ref (ad 12), .ref (ad 13), .int (nI C)])), (ad 7, .inl (cI, 24, .inl ko)), (ad 8, .inl (cI, 24, .inl so)), (ad 9, .inl (cI, 24, .inl tl)), (ad 10, .inl (cI, 216, .inl lp)), (ad 11, .inl (cI, 216, .inl lb)), (ad 12, .inl (cI, 216, .inl ld)), (ad 13, .inl (cI, 216, .inl le)), (ad 14, .inr (2, [.ref (ad 0), .ref (ad 6), .ref (ad 15), .ref (ad 16), .int dy])), (ad 15, .inl (cI, 8, .inl cl)), (ad 16, .inl (cI, 8, .inl dq)), (ad 17, .inl (cL, 1, .inr (.inl ou)))]) (ws1 := wLaw ad cI cd te ri pi pw K Dn mv ko so tl lp lb ld le C cl dq dy cL ou md 1 mK mc mD mr mw my mC mk ms mu mt mp mb me) (As := [.int x]) (rest := []) ⟨hx, hb, hml, hown, hts⟩ (c_X3_code_f1 l D md cI th mK mc mD mr mw my mC mk ms mu mt mp mb me x H.size m_hBad) (cwV 1 hts gL_law_X3_code rfl rfl rfl (by decide +kernel) ⟨Nat.le_of_ble_eq_true rfl, Nat.le_of_ble_eq_true rfl⟩) hK hP hD hS hA [18, 19, 20, 21, 22, 23, 24, 25, 26, 27] [0, 1, 2, 3, 4, 5, 6, 7, 8, 9, 10, 11, 12, 13, 14, 15, 16, 17] [0, 1, 2, 3, 4, 5, 6, 7, 8, 9, 10, 11, 12, 13, 14, 15, 16, 17, 18, 19, 20, 21, 22, 23, 24, 25, 26, 27] [0] rfl rfl rfl rfl (by decide) rfl rfl rfl 18 rfl rfl rfl rfl hl.1 rfl (Nat.le_of_ble_eq_true rfl) dL_law_402 ⟨kc_rc (by omega), kc_rs (by omega)⟩ (fun H locs hP hD hS => ?_)
  refine lv_istore (lv' := [(6, .int 0), (5, .int 1), (0, .ref b), (1, .ref (ad 14)), (2, .ref (md 0)), (3, .ref (ad 17)), (4, .int (nI i))]) hx hb dL_law_405 hl (by decide) rfl (fun ls hl => ?_)
  refine lv_aload_n hx hb dL_law_407 rfl (lv_at hl 4 rfl) ?_
  refine kc_rVi (As := []) (rest := []) ⟨hx, hb, hml, hown, hts⟩ (c_X3_thrown l D md cI 1 mK mc mD mr mw my mC mk ms mu mt mp mb me ) (cwV 0 hts gL_law_X3_thrown rfl rfl rfl (by decide +kernel) ⟨Nat.le_of_ble_eq_true rfl, Nat.le_of_ble_eq_true rfl⟩) hK hP [18, 19, 20, 21, 22, 23, 24, 25, 26, 27] [0] rfl rfl 18 rfl rfl rfl rfl hl.1 rfl (Nat.le_of_ble_eq_true rfl) dL_law_408 ⟨kc_rc (by omega), kc_rs (by omega)⟩ ?_
  refine lv_iload hx hb dL_law_411 (lv_at hl 1 rfl) ?_
  refine lv_icmp_eq (tgt := 418) hx hb dL_law_413 (by decide) (fun c_413 => ?_) (fun c_413 => absurd c_413 (by decide))
  refine lv_iload hx hb dL_law_418 (lv_at hl 1 rfl) ?_
  refine lv_if_ne (tgt := 435) hx hb dL_law_420 (by decide) (fun c_420 => ?_) (fun c_420 => absurd c_420 (by decide))
  refine lv_goto (tgt := 1633) hx hb dL_law_435 (by decide) ?_
  refine W.widen (k := cells + 2) (n := slots + 16) (by omega) (by omega) ?_
  exact K1 _ _ _ hP hD hS (lv_sub hl [2, 3, 4, 5, 6] rfl)
set_option maxHeartbeats 4000000 in
set_option maxRecDepth 100000 in
theorem lw_pins_ok_ok {p : Program} {l : Launch} {e : Env} {s : State} {m : MethodId} {below : List Frame} {meth : Method} {c : Code} {Q : State → Prop} {b L : Nat} {xs : Nat → Int32} (hlf : l.stackTraces = false) (C0 : lw_At p s m meth c b L xs) {D : va_G} {cI cL : ClassId} (hK : kcK D [(cI, .int), (cL, .long)] s) (hX0 : kcX (fun q => s.heap.size ≤ q) s s.heap) (hL : L ≤ 2048) (i : Nat) (hi : i + 3 < L) (ad : Nat → Nat) (cd : Nat → Int32) (te : Nat → Int32) (ri : Nat → Int32) (pi : Nat → Int32) (pw : Nat → Int32) (K : Nat) (Dn : Nat) (mv : Int32) (ko : Nat → Int32) (so : Nat → Int32) (tl : Nat → Int32) (lp : Nat → Int32) (lb : Nat → Int32) (ld : Nat → Int32) (le : Nat → Int32) (C : Nat) (cl : Nat → Int32) (dq : Nat → Int32) (dy : Int32) (ou : Nat → Int64) (md : Nat → Nat) (th : Int32) (mK : Nat) (mc : Nat → Int32) (mD : Nat) (mr : Nat → Int32) (mw : Int32) (my : Int32) (mC : Nat) (mk : Nat → Int32) (ms : Nat → Int32) (mu : Nat → Int32) (mt : Nat → Int32) (mp : Nat → Int32) (mb : Nat → Int32) (me : Nat → Int32) (d : Nat) (q : Nat) (hD8 : Dn ≤ 8) (hd : d < Dn) (hq : q < 5) (m_hK8 : mK ≤ 8) (m_hD8 : mD ≤ 8) (m_hd : d < mD) (m_hq : q < 5) (hp1 : xs (i + 1) = nI d) (hp2 : xs (i + 2) = nI q) (hres : (jPinsAt pi d (nI q) : Int32) = (mPins mr mc d (nI q) mK)) {H : Heap} {locs : List Loc} {cells slots : Nat} (hce : cells + 2 ≤ 601024) (hsl : slots + 16 ≤ 7293034) (hP : va_P D vwCl (wLaw ad cI cd te ri pi pw K Dn mv ko so tl lp lb ld le C cl dq dy cL ou md th mK mc mD mr mw my mC mk ms mu mt mp mb me) H) (hD : va_D (fun q => s.heap.size ≤ q) (wLaw ad cI cd te ri pi pw K Dn mv ko so tl lp lb ld le C cl dq dy cL ou md th mK mc mD mr mw my mC mk ms mu mt mp mb me)) (hS : va_S (fun q => s.heap.size ≤ q) s.heap H locs) {ls : Array Slot} (hl : lv_has ls 9 [(0, .ref b), (1, .ref (ad 14)), (2, .ref (md 0)), (3, .ref (ad 17)), (4, .int (nI i))]) (K1 : ∀ (H : Heap) (locs : List Loc) (ls : Array Slot), va_P D vwCl (wLaw ad cI cd te ri pi pw K Dn mv ko so tl lp lb ld le C cl dq dy cL (vp_updL ou 0 (Int32.toInt64 (jPinsAt pi d (nI q)))) md 0 mK mc mD mr mw my mC mk ms mu mt mp mb me) H → va_D (fun q => s.heap.size ≤ q) (wLaw ad cI cd te ri pi pw K Dn mv ko so tl lp lb ld le C cl dq dy cL (vp_updL ou 0 (Int32.toInt64 (jPinsAt pi d (nI q)))) md 0 mK mc mD mr mw my mC mk ms mu mt mp mb me) → va_S (fun q => s.heap.size ≤ q) s.heap H locs → lv_has ls 9 [(0, .ref b), (1, .ref (ad 14)), (2, .ref (md 0)), (3, .ref (ad 17)), (4, .int (nI i))] → W p l e room_1 s m #[Value.ref b] below meth c H locs (cells + 2) (slots + 16) Q (F0 m 1633 ls [])) : W p l e room_1 s m #[Value.ref b] below meth c H locs cells slots Q (F0 m 438 ls []) := by
  obtain ⟨hx, hb, hr, hml, hown, hts, hXs, hbl, hlocks, hgv⟩ := id C0
  have hts := fun w h => hts w (wsL_law_in w h)
  have hb : c.code = cL_law := hb
  have hA : ∀ q : Nat, s.heap.size ≤ q → (fun q : Nat => s.heap.size ≤ q) q := fun _ h => h
  have hbA : ¬ (fun q : Nat => s.heap.size ≤ q) b := Nat.not_le.mpr hbl
  refine lv_aload_n hx hb dL_law_438 rfl (lv_at hl 1 rfl) ?_
  refine lv_aload_n hx hb dL_law_439 rfl (lv_at hl 0 rfl) ?_
  refine lv_iload hx hb dL_law_440 (lv_at hl 4 rfl) ?_
  refine lv_iconst (v := 1) hx hb dL_law_442 (by decide) ?_
  refine lv_iadd hx hb dL_law_443 ?_
  refine kc_top (show (nI i) + 1 = nI (i + 1) from nI_add _ _) ?_
  refine kc_sld (i := i + 1) hx hb hXs hbl hbA hS (by omega) (by omega) dL_law_444 ?_
  refine kc_top hp1 ?_
  refine lv_aload_n hx hb dL_law_445 rfl (lv_at hl 0 rfl) ?_
  refine lv_iload hx hb dL_law_446 (lv_at hl 4 rfl) ?_
  refine lv_iconst (v := 2) hx hb dL_law_448 (by decide) ?_
  refine lv_iadd hx hb dL_law_449 ?_
  refine kc_top (show (nI i) + 2 = nI (i + 2) from nI_add _ _) ?_
  refine kc_sld (i := i + 2) hx hb hXs hbl hbA hS (by omega) (by omega) dL_law_450 ?_
  refine kc_top hp2 ?_
  refine lv_aload_n hx hb dL_law_451 rfl (lv_at hl 3 rfl) ?_
  refine kc_hSi (w1 := wLh ad cI cd te ri pi pw K Dn mv ko so tl lp lb ld le C cl dq dy cL (vp_updL ou 0 (Int32.toInt64 (jPinsAt pi d (nI q))))) (wr := [(md 0, .inr (3, [.int th, .int (nI mK), .ref (md 1), .int (nI mD), .ref (md 2), .int mw, .int my, .int (nI mC), .ref (md 3), .ref (md 4), .ref (md 5), .ref (md 6), .ref (md 7), .ref (md 8), .ref (md 9)])), (md 1, .inl (cI, 8, .inl mc)), (md 2, .inl (cI, 8, .inl mr)), (md 3, .inl (cI, 24, .inl mk)), (md 4, .inl (cI, 24, .inl ms)), (md 5, .inl (cI, 24, .inl mu)), (md 6, .inl (cI, 24, .inl mt)), (md 7, .inl (cI, 216, .inl mp)), (md 8, .inl (cI, 216, .inl mb)), (md 9, .inl (cI, 216, .inl me))]) (ws1 := wLaw ad cI cd te ri pi pw K Dn mv ko so tl lp lb ld le C cl dq dy cL (vp_updL ou 0 (Int32.toInt64 (jPinsAt pi d (nI q)))) md th mK mc mD mr mw my mC mk ms mu mt mp mb me) (As := [.ref (ad 14), .int (nI d), .int (nI q), .ref (ad 17)]) (rest := []) ⟨hx, hb, hml, hown, hts⟩ (c_L_pins_ok l D ad cI cd te ri pi pw K Dn mv ko so tl lp lb ld le C cl dq dy cL ou d q H.size hD8 hd hq) (vx_cwSW 4 hts gL_law_L_pins rfl rfl rfl (by decide +kernel) ⟨Nat.le_of_ble_eq_true rfl, Nat.le_of_ble_eq_true rfl⟩) hK hP hD hS hA [0, 1, 2, 3, 4, 5, 6, 7, 8, 9, 10, 11, 12, 13, 14, 15, 16, 17] [18, 19, 20, 21, 22, 23, 24, 25, 26, 27] [10, 11, 12, 13, 14, 15, 16, 17, 18, 19, 20, 21, 22, 23, 24, 25, 26, 27, 0, 1, 2, 3, 4, 5, 6, 7, 8, 9] [0, 1] rfl rfl rfl rfl (by decide) rfl rfl rfl rfl hl.1 rfl (Nat.le_of_ble_eq_true rfl) dL_law_452 ⟨kc_rc (by omega), kc_rs (by omega)⟩ (fun H locs hP hD hS => ?_)
  refine lv_istore (lv' := [(5, .int 0), (0, .ref b), (1, .ref (ad 14)), (2, .ref (md 0)), (3, .ref (ad 17)), (4, .int (nI i))]) hx hb dL_law_455 hl (by decide) rfl (fun ls hl => ?_)
  refine lv_aload_n hx hb dL_law_457 rfl (lv_at hl 3 rfl) ?_
  refine lv_aload_n hx hb dL_law_458 rfl (lv_at hl 1 rfl) ?_
  refine lv_iload hx hb dL_law_459 (lv_at hl 5 rfl) ?_
  refine lv_iconst (v := 1) hx hb dL_law_461 (by decide) ?_
  refine lv_iadd hx hb dL_law_462 ?_
  refine kc_top (show (nI i) + 1 = nI (i + 1) from nI_add _ _) ?_
  refine kc_sld (i := i + 1) hx hb hXs hbl hbA hS (by omega) (by omega) dL_law_463 ?_
  refine kc_top hp1 ?_
  refine lv_aload_n hx hb dL_law_464 rfl (lv_at hl 1 rfl) ?_
  refine lv_iload hx hb dL_law_465 (lv_at hl 5 rfl) ?_
  refine lv_iconst (v := 2) hx hb dL_law_467 (by decide) ?_
  refine lv_iadd hx hb dL_law_468 ?_
  refine kc_top (show (nI i) + 2 = nI (i + 2) from nI_add _ _) ?_
  refine kc_sld (i := i + 2) hx hb hXs hbl hbA hS (by omega) (by omega) dL_law_469 ?_
  refine kc_top hp2 ?_
  refine kc_wVi (w1 := wMd md cI 0 mK mc mD mr mw my mC mk ms mu mt mp mb me) (wr := [(ad 0, .inr (1, [.ref (ad 1), .ref (ad 2), .ref (ad 3), .ref (ad 4), .ref (ad 5), .int (nI K), .int (nI Dn), .int mv])), (ad 1, .inl (cI, 8, .inl cd)), (ad 2, .inl (cI, 8, .inl te)), (ad 3, .inl (cI, 8, .inl ri)), (ad 4, .inl (cI, 8, .inl pi)), (ad 5, .inl (cI, 8, .inl pw)), (ad 6, .inr (0, [.ref (ad 7), .ref (ad 8), .ref (ad 9), .ref (ad 10), .ref (ad 11), .ref (ad 12), .ref (ad 13), .int (nI C)])), (ad 7, .inl (cI, 24, .inl ko)), (ad 8, .inl (cI, 24, .inl so)), (ad 9, .inl (cI, 24, .inl tl)), (ad 10, .inl (cI, 216, .inl lp)), (ad 11, .inl (cI, 216, .inl lb)), (ad 12, .inl (cI, 216, .inl ld)), (ad 13, .inl (cI, 216, .inl le)), (ad 14, .inr (2, [.ref (ad 0), .ref (ad 6), .ref (ad 15), .ref (ad 16), .int dy])), (ad 15, .inl (cI, 8, .inl cl)), (ad 16, .inl (cI, 8, .inl dq)), (ad 17, .inl (cL, 1, .inr (.inl (vp_updL ou 0 (Int32.toInt64 (jPinsAt pi d (nI q)))))))]) (ws1 := wLaw ad cI cd te ri pi pw K Dn mv ko so tl lp lb ld le C cl dq dy cL (vp_updL ou 0 (Int32.toInt64 (jPinsAt pi d (nI q)))) md 0 mK mc mD mr mw my mC mk ms mu mt mp mb me) (As := [.int (nI d), .int (nI q)]) (rest := []) ⟨hx, hb, hml, hown, hts⟩ (c_X3_pins_ok l D md cI th mK mc mD mr mw my mC mk ms mu mt mp mb me d q H.size m_hK8 m_hD8 m_hd m_hq) (cwV 2 hts gL_law_X3_pins rfl rfl rfl (by decide +kernel) ⟨Nat.le_of_ble_eq_true rfl, Nat.le_of_ble_eq_true rfl⟩) hK hP hD hS hA [18, 19, 20, 21, 22, 23, 24, 25, 26, 27] [0, 1, 2, 3, 4, 5, 6, 7, 8, 9, 10, 11, 12, 13, 14, 15, 16, 17] [0, 1, 2, 3, 4, 5, 6, 7, 8, 9, 10, 11, 12, 13, 14, 15, 16, 17, 18, 19, 20, 21, 22, 23, 24, 25, 26, 27] [0] rfl rfl rfl rfl (by decide) rfl rfl rfl 18 rfl rfl rfl rfl hl.1 rfl (Nat.le_of_ble_eq_true rfl) dL_law_470 ⟨kc_rc (by omega), kc_rs (by omega)⟩ (fun H locs hP hD hS => ?_)
  refine lv_istore (lv' := [(6, .int (mPins mr mc d (nI q) mK)), (5, .int 0), (0, .ref b), (1, .ref (ad 14)), (2, .ref (md 0)), (3, .ref (ad 17)), (4, .int (nI i))]) hx hb dL_law_473 hl (by decide) rfl (fun ls hl => ?_)
  refine lv_aload_n hx hb dL_law_475 rfl (lv_at hl 4 rfl) ?_
  refine kc_rVi (As := []) (rest := []) ⟨hx, hb, hml, hown, hts⟩ (c_X3_thrown l D md cI 0 mK mc mD mr mw my mC mk ms mu mt mp mb me ) (cwV 0 hts gL_law_X3_thrown rfl rfl rfl (by decide +kernel) ⟨Nat.le_of_ble_eq_true rfl, Nat.le_of_ble_eq_true rfl⟩) hK hP [18, 19, 20, 21, 22, 23, 24, 25, 26, 27] [0] rfl rfl 18 rfl rfl rfl rfl hl.1 rfl (Nat.le_of_ble_eq_true rfl) dL_law_476 ⟨kc_rc (by omega), kc_rs (by omega)⟩ ?_
  refine lv_iload hx hb dL_law_479 (lv_at hl 1 rfl) ?_
  refine lv_icmp_eq (tgt := 486) hx hb dL_law_481 (by decide) (fun c_481 => ?_) (fun c_481 => absurd c_481 (by decide))
  refine lv_iload hx hb dL_law_486 (lv_at hl 1 rfl) ?_
  refine lv_if_ne (tgt := 503) hx hb dL_law_488 (by decide) (fun c_488 => absurd c_488 (by decide)) (fun c_488 => ?_)
  refine lv_aload_n hx hb dL_law_491 rfl (lv_at hl 5 rfl) ?_
  refine lv_iconst (v := 0) hx hb dL_law_492 (by decide) ?_
  refine kc_lld (i := 0) (n := 1) hx hb hK hP 17 1 rfl rfl (by decide) (by decide) dL_law_493 ?_
  refine kc_topl (show ((vp_updL ou 0 (Int32.toInt64 (jPinsAt pi d (nI q))))) 0 = Int32.toInt64 (jPinsAt pi d (nI q)) from pk_uLs) ?_
  refine lv_iload hx hb dL_law_494 (lv_at hl 0 rfl) ?_
  refine lv_i2l (v := Int32.toInt64 (mPins mr mc d (nI q) mK)) hx hb dL_law_496 rfl ?_
  refine W.lcmp hx hb dL_law_497 ?_
  refine kc_top (show lg_cmp (Int32.toInt64 (jPinsAt pi d (nI q))) (Int32.toInt64 (mPins mr mc d (nI q) mK)) = 0 from kc_lcmp0 (congrArg Int32.toInt64 hres)) ?_
  refine lv_if_eq (tgt := 503) hx hb dL_law_498 (by decide) (fun c_498 => ?_) (fun c_498 => absurd c_498 (by decide))
  refine lv_goto (tgt := 1633) hx hb dL_law_503 (by decide) ?_
  refine W.widen (k := cells + 2) (n := slots + 16) (by omega) (by omega) ?_
  exact K1 _ _ _ hP hD hS (lv_sub hl [2, 3, 4, 5, 6] rfl)
set_option maxHeartbeats 4000000 in
set_option maxRecDepth 100000 in
theorem lw_pins_f1_f1 {p : Program} {l : Launch} {e : Env} {s : State} {m : MethodId} {below : List Frame} {meth : Method} {c : Code} {Q : State → Prop} {b L : Nat} {xs : Nat → Int32} (hlf : l.stackTraces = false) (C0 : lw_At p s m meth c b L xs) {D : va_G} {cI cL : ClassId} (hK : kcK D [(cI, .int), (cL, .long)] s) (hX0 : kcX (fun q => s.heap.size ≤ q) s s.heap) (hL : L ≤ 2048) (i : Nat) (hi : i + 3 < L) (ad : Nat → Nat) (cd : Nat → Int32) (te : Nat → Int32) (ri : Nat → Int32) (pi : Nat → Int32) (pw : Nat → Int32) (K : Nat) (Dn : Nat) (mv : Int32) (ko : Nat → Int32) (so : Nat → Int32) (tl : Nat → Int32) (lp : Nat → Int32) (lb : Nat → Int32) (ld : Nat → Int32) (le : Nat → Int32) (C : Nat) (cl : Nat → Int32) (dq : Nat → Int32) (dy : Int32) (ou : Nat → Int64) (md : Nat → Nat) (th : Int32) (mK : Nat) (mc : Nat → Int32) (mD : Nat) (mr : Nat → Int32) (mw : Int32) (my : Int32) (mC : Nat) (mk : Nat → Int32) (ms : Nat → Int32) (mu : Nat → Int32) (mt : Nat → Int32) (mp : Nat → Int32) (mb : Nat → Int32) (me : Nat → Int32) (x : Int32) (po : Int32) (hBad : ¬ jIn Dn x = true) (m_hBad : ¬ jIn mD x = true) (hp1 : xs (i + 1) = x) (hp2 : xs (i + 2) = po)  {H : Heap} {locs : List Loc} {cells slots : Nat} (hce : cells + 2 ≤ 601024) (hsl : slots + 16 ≤ 7293034) (hP : va_P D vwCl (wLaw ad cI cd te ri pi pw K Dn mv ko so tl lp lb ld le C cl dq dy cL ou md th mK mc mD mr mw my mC mk ms mu mt mp mb me) H) (hD : va_D (fun q => s.heap.size ≤ q) (wLaw ad cI cd te ri pi pw K Dn mv ko so tl lp lb ld le C cl dq dy cL ou md th mK mc mD mr mw my mC mk ms mu mt mp mb me)) (hS : va_S (fun q => s.heap.size ≤ q) s.heap H locs) {ls : Array Slot} (hl : lv_has ls 9 [(0, .ref b), (1, .ref (ad 14)), (2, .ref (md 0)), (3, .ref (ad 17)), (4, .int (nI i))]) (K1 : ∀ (H : Heap) (locs : List Loc) (ls : Array Slot), va_P D vwCl (wLaw ad cI cd te ri pi pw K Dn mv ko so tl lp lb ld le C cl dq dy cL ou md 1 mK mc mD mr mw my mC mk ms mu mt mp mb me) H → va_D (fun q => s.heap.size ≤ q) (wLaw ad cI cd te ri pi pw K Dn mv ko so tl lp lb ld le C cl dq dy cL ou md 1 mK mc mD mr mw my mC mk ms mu mt mp mb me) → va_S (fun q => s.heap.size ≤ q) s.heap H locs → lv_has ls 9 [(0, .ref b), (1, .ref (ad 14)), (2, .ref (md 0)), (3, .ref (ad 17)), (4, .int (nI i))] → W p l e room_1 s m #[Value.ref b] below meth c H locs (cells + 2) (slots + 16) Q (F0 m 1633 ls [])) : W p l e room_1 s m #[Value.ref b] below meth c H locs cells slots Q (F0 m 438 ls []) := by
  obtain ⟨hx, hb, hr, hml, hown, hts, hXs, hbl, hlocks, hgv⟩ := id C0
  have hts := fun w h => hts w (wsL_law_in w h)
  have hb : c.code = cL_law := hb
  have hA : ∀ q : Nat, s.heap.size ≤ q → (fun q : Nat => s.heap.size ≤ q) q := fun _ h => h
  have hbA : ¬ (fun q : Nat => s.heap.size ≤ q) b := Nat.not_le.mpr hbl
  refine lv_aload_n hx hb dL_law_438 rfl (lv_at hl 1 rfl) ?_
  refine lv_aload_n hx hb dL_law_439 rfl (lv_at hl 0 rfl) ?_
  refine lv_iload hx hb dL_law_440 (lv_at hl 4 rfl) ?_
  refine lv_iconst (v := 1) hx hb dL_law_442 (by decide) ?_
  refine lv_iadd hx hb dL_law_443 ?_
  refine kc_top (show (nI i) + 1 = nI (i + 1) from nI_add _ _) ?_
  refine kc_sld (i := i + 1) hx hb hXs hbl hbA hS (by omega) (by omega) dL_law_444 ?_
  refine kc_top hp1 ?_
  refine lv_aload_n hx hb dL_law_445 rfl (lv_at hl 0 rfl) ?_
  refine lv_iload hx hb dL_law_446 (lv_at hl 4 rfl) ?_
  refine lv_iconst (v := 2) hx hb dL_law_448 (by decide) ?_
  refine lv_iadd hx hb dL_law_449 ?_
  refine kc_top (show (nI i) + 2 = nI (i + 2) from nI_add _ _) ?_
  refine kc_sld (i := i + 2) hx hb hXs hbl hbA hS (by omega) (by omega) dL_law_450 ?_
  refine kc_top hp2 ?_
  refine lv_aload_n hx hb dL_law_451 rfl (lv_at hl 3 rfl) ?_
  have hX := kc_xat hX0 hS
  refine kc_hXi (w1 := wLh ad cI cd te ri pi pw K Dn mv ko so tl lp lb ld le C cl dq dy cL ou) (wr := [(md 0, .inr (3, [.int th, .int (nI mK), .ref (md 1), .int (nI mD), .ref (md 2), .int mw, .int my, .int (nI mC), .ref (md 3), .ref (md 4), .ref (md 5), .ref (md 6), .ref (md 7), .ref (md 8), .ref (md 9)])), (md 1, .inl (cI, 8, .inl mc)), (md 2, .inl (cI, 8, .inl mr)), (md 3, .inl (cI, 24, .inl mk)), (md 4, .inl (cI, 24, .inl ms)), (md 5, .inl (cI, 24, .inl mu)), (md 6, .inl (cI, 24, .inl mt)), (md 7, .inl (cI, 216, .inl mp)), (md 8, .inl (cI, 216, .inl mb)), (md 9, .inl (cI, 216, .inl me))]) (ws1 := wLaw ad cI cd te ri pi pw K Dn mv ko so tl lp lb ld le C cl dq dy cL ou md th mK mc mD mr mw my mC mk ms mu mt mp mb me) (As := [.ref (ad 14), .int x, .int po, .ref (ad 17)]) (rest := []) ⟨hx, hb, hml, hown, hts⟩ (c_L_pins_f1 l hlf D ad cI cd te ri pi pw K Dn mv ko so tl lp lb ld le C cl dq dy cL ou x po H.size hBad) (vx_cwSW 4 hts gL_law_L_pins rfl rfl rfl (by decide +kernel) ⟨Nat.le_of_ble_eq_true rfl, Nat.le_of_ble_eq_true rfl⟩) hK hP hD hX hS hA [0, 1, 2, 3, 4, 5, 6, 7, 8, 9, 10, 11, 12, 13, 14, 15, 16, 17] [18, 19, 20, 21, 22, 23, 24, 25, 26, 27] [10, 11, 12, 13, 14, 15, 16, 17, 18, 19, 20, 21, 22, 23, 24, 25, 26, 27, 0, 1, 2, 3, 4, 5, 6, 7, 8, 9] [0, 1] rfl rfl rfl rfl (by decide) rfl rfl rfl rfl hl.1 rfl (Nat.le_of_ble_eq_true rfl) dL_law_452 ⟨kc_rc (by omega), kc_rs (by omega)⟩ (fun H locs hP hD hS => ?_)
  refine lv_istore (lv' := [(5, .int 1), (0, .ref b), (1, .ref (ad 14)), (2, .ref (md 0)), (3, .ref (ad 17)), (4, .int (nI i))]) hx hb dL_law_455 hl (by decide) rfl (fun ls hl => ?_)
  refine lv_aload_n hx hb dL_law_457 rfl (lv_at hl 3 rfl) ?_
  refine lv_aload_n hx hb dL_law_458 rfl (lv_at hl 1 rfl) ?_
  refine lv_iload hx hb dL_law_459 (lv_at hl 5 rfl) ?_
  refine lv_iconst (v := 1) hx hb dL_law_461 (by decide) ?_
  refine lv_iadd hx hb dL_law_462 ?_
  refine kc_top (show (nI i) + 1 = nI (i + 1) from nI_add _ _) ?_
  refine kc_sld (i := i + 1) hx hb hXs hbl hbA hS (by omega) (by omega) dL_law_463 ?_
  refine kc_top hp1 ?_
  refine lv_aload_n hx hb dL_law_464 rfl (lv_at hl 1 rfl) ?_
  refine lv_iload hx hb dL_law_465 (lv_at hl 5 rfl) ?_
  refine lv_iconst (v := 2) hx hb dL_law_467 (by decide) ?_
  refine lv_iadd hx hb dL_law_468 ?_
  refine kc_top (show (nI i) + 2 = nI (i + 2) from nI_add _ _) ?_
  refine kc_sld (i := i + 2) hx hb hXs hbl hbA hS (by omega) (by omega) dL_law_469 ?_
  refine kc_top hp2 ?_
  refine kc_wVi (w1 := wMd md cI 1 mK mc mD mr mw my mC mk ms mu mt mp mb me) (wr := [(ad 0, .inr (1, [.ref (ad 1), .ref (ad 2), .ref (ad 3), .ref (ad 4), .ref (ad 5), .int (nI K), .int (nI Dn), .int mv])), (ad 1, .inl (cI, 8, .inl cd)), (ad 2, .inl (cI, 8, .inl te)), (ad 3, .inl (cI, 8, .inl ri)), (ad 4, .inl (cI, 8, .inl pi)), (ad 5, .inl (cI, 8, .inl pw)), (ad 6, .inr (0, [.ref (ad 7), .ref (ad 8), .ref (ad 9), .ref (ad 10), .ref (ad 11), .ref (ad 12), .ref (ad 13), .int (nI C)])), (ad 7, .inl (cI, 24, .inl ko)), (ad 8, .inl (cI, 24, .inl so)), (ad 9, .inl (cI, 24, .inl tl)), (ad 10, .inl (cI, 216, .inl lp)), (ad 11, .inl (cI, 216, .inl lb)), (ad 12, .inl (cI, 216, .inl ld)), (ad 13, .inl (cI, 216, .inl le)), (ad 14, .inr (2, [.ref (ad 0), .ref (ad 6), .ref (ad 15), .ref (ad 16), .int dy])), (ad 15, .inl (cI, 8, .inl cl)), (ad 16, .inl (cI, 8, .inl dq)), (ad 17, .inl (cL, 1, .inr (.inl ou)))]) (ws1 := wLaw ad cI cd te ri pi pw K Dn mv ko so tl lp lb ld le C cl dq dy cL ou md 1 mK mc mD mr mw my mC mk ms mu mt mp mb me) (As := [.int x, .int po]) (rest := []) ⟨hx, hb, hml, hown, hts⟩ (c_X3_pins_f1 l D md cI th mK mc mD mr mw my mC mk ms mu mt mp mb me x po H.size m_hBad) (cwV 2 hts gL_law_X3_pins rfl rfl rfl (by decide +kernel) ⟨Nat.le_of_ble_eq_true rfl, Nat.le_of_ble_eq_true rfl⟩) hK hP hD hS hA [18, 19, 20, 21, 22, 23, 24, 25, 26, 27] [0, 1, 2, 3, 4, 5, 6, 7, 8, 9, 10, 11, 12, 13, 14, 15, 16, 17] [0, 1, 2, 3, 4, 5, 6, 7, 8, 9, 10, 11, 12, 13, 14, 15, 16, 17, 18, 19, 20, 21, 22, 23, 24, 25, 26, 27] [0] rfl rfl rfl rfl (by decide) rfl rfl rfl 18 rfl rfl rfl rfl hl.1 rfl (Nat.le_of_ble_eq_true rfl) dL_law_470 ⟨kc_rc (by omega), kc_rs (by omega)⟩ (fun H locs hP hD hS => ?_)
  refine lv_istore (lv' := [(6, .int 0), (5, .int 1), (0, .ref b), (1, .ref (ad 14)), (2, .ref (md 0)), (3, .ref (ad 17)), (4, .int (nI i))]) hx hb dL_law_473 hl (by decide) rfl (fun ls hl => ?_)
  refine lv_aload_n hx hb dL_law_475 rfl (lv_at hl 4 rfl) ?_
  refine kc_rVi (As := []) (rest := []) ⟨hx, hb, hml, hown, hts⟩ (c_X3_thrown l D md cI 1 mK mc mD mr mw my mC mk ms mu mt mp mb me ) (cwV 0 hts gL_law_X3_thrown rfl rfl rfl (by decide +kernel) ⟨Nat.le_of_ble_eq_true rfl, Nat.le_of_ble_eq_true rfl⟩) hK hP [18, 19, 20, 21, 22, 23, 24, 25, 26, 27] [0] rfl rfl 18 rfl rfl rfl rfl hl.1 rfl (Nat.le_of_ble_eq_true rfl) dL_law_476 ⟨kc_rc (by omega), kc_rs (by omega)⟩ ?_
  refine lv_iload hx hb dL_law_479 (lv_at hl 1 rfl) ?_
  refine lv_icmp_eq (tgt := 486) hx hb dL_law_481 (by decide) (fun c_481 => ?_) (fun c_481 => absurd c_481 (by decide))
  refine lv_iload hx hb dL_law_486 (lv_at hl 1 rfl) ?_
  refine lv_if_ne (tgt := 503) hx hb dL_law_488 (by decide) (fun c_488 => ?_) (fun c_488 => absurd c_488 (by decide))
  refine lv_goto (tgt := 1633) hx hb dL_law_503 (by decide) ?_
  refine W.widen (k := cells + 2) (n := slots + 16) (by omega) (by omega) ?_
  exact K1 _ _ _ hP hD hS (lv_sub hl [2, 3, 4, 5, 6] rfl)
set_option maxHeartbeats 4000000 in
set_option maxRecDepth 100000 in
theorem lw_pins_f2_f2 {p : Program} {l : Launch} {e : Env} {s : State} {m : MethodId} {below : List Frame} {meth : Method} {c : Code} {Q : State → Prop} {b L : Nat} {xs : Nat → Int32} (hlf : l.stackTraces = false) (C0 : lw_At p s m meth c b L xs) {D : va_G} {cI cL : ClassId} (hK : kcK D [(cI, .int), (cL, .long)] s) (hX0 : kcX (fun q => s.heap.size ≤ q) s s.heap) (hL : L ≤ 2048) (i : Nat) (hi : i + 3 < L) (ad : Nat → Nat) (cd : Nat → Int32) (te : Nat → Int32) (ri : Nat → Int32) (pi : Nat → Int32) (pw : Nat → Int32) (K : Nat) (Dn : Nat) (mv : Int32) (ko : Nat → Int32) (so : Nat → Int32) (tl : Nat → Int32) (lp : Nat → Int32) (lb : Nat → Int32) (ld : Nat → Int32) (le : Nat → Int32) (C : Nat) (cl : Nat → Int32) (dq : Nat → Int32) (dy : Int32) (ou : Nat → Int64) (md : Nat → Nat) (th : Int32) (mK : Nat) (mc : Nat → Int32) (mD : Nat) (mr : Nat → Int32) (mw : Int32) (my : Int32) (mC : Nat) (mk : Nat → Int32) (ms : Nat → Int32) (mu : Nat → Int32) (mt : Nat → Int32) (mp : Nat → Int32) (mb : Nat → Int32) (me : Nat → Int32) (d : Nat) (po : Int32) (hD8 : Dn ≤ 8) (hd : d < Dn) (hBad : ¬ jIn 5 po = true) (m_hD8 : mD ≤ 8) (m_hd : d < mD) (m_hBad : ¬ jIn 5 po = true) (hp1 : xs (i + 1) = nI d) (hp2 : xs (i + 2) = po)  {H : Heap} {locs : List Loc} {cells slots : Nat} (hce : cells + 2 ≤ 601024) (hsl : slots + 16 ≤ 7293034) (hP : va_P D vwCl (wLaw ad cI cd te ri pi pw K Dn mv ko so tl lp lb ld le C cl dq dy cL ou md th mK mc mD mr mw my mC mk ms mu mt mp mb me) H) (hD : va_D (fun q => s.heap.size ≤ q) (wLaw ad cI cd te ri pi pw K Dn mv ko so tl lp lb ld le C cl dq dy cL ou md th mK mc mD mr mw my mC mk ms mu mt mp mb me)) (hS : va_S (fun q => s.heap.size ≤ q) s.heap H locs) {ls : Array Slot} (hl : lv_has ls 9 [(0, .ref b), (1, .ref (ad 14)), (2, .ref (md 0)), (3, .ref (ad 17)), (4, .int (nI i))]) (K1 : ∀ (H : Heap) (locs : List Loc) (ls : Array Slot), va_P D vwCl (wLaw ad cI cd te ri pi pw K Dn mv ko so tl lp lb ld le C cl dq dy cL ou md 1 mK mc mD mr mw my mC mk ms mu mt mp mb me) H → va_D (fun q => s.heap.size ≤ q) (wLaw ad cI cd te ri pi pw K Dn mv ko so tl lp lb ld le C cl dq dy cL ou md 1 mK mc mD mr mw my mC mk ms mu mt mp mb me) → va_S (fun q => s.heap.size ≤ q) s.heap H locs → lv_has ls 9 [(0, .ref b), (1, .ref (ad 14)), (2, .ref (md 0)), (3, .ref (ad 17)), (4, .int (nI i))] → W p l e room_1 s m #[Value.ref b] below meth c H locs (cells + 2) (slots + 16) Q (F0 m 1633 ls [])) : W p l e room_1 s m #[Value.ref b] below meth c H locs cells slots Q (F0 m 438 ls []) := by
  obtain ⟨hx, hb, hr, hml, hown, hts, hXs, hbl, hlocks, hgv⟩ := id C0
  have hts := fun w h => hts w (wsL_law_in w h)
  have hb : c.code = cL_law := hb
  have hA : ∀ q : Nat, s.heap.size ≤ q → (fun q : Nat => s.heap.size ≤ q) q := fun _ h => h
  have hbA : ¬ (fun q : Nat => s.heap.size ≤ q) b := Nat.not_le.mpr hbl
  refine lv_aload_n hx hb dL_law_438 rfl (lv_at hl 1 rfl) ?_
  refine lv_aload_n hx hb dL_law_439 rfl (lv_at hl 0 rfl) ?_
  refine lv_iload hx hb dL_law_440 (lv_at hl 4 rfl) ?_
  refine lv_iconst (v := 1) hx hb dL_law_442 (by decide) ?_
  refine lv_iadd hx hb dL_law_443 ?_
  refine kc_top (show (nI i) + 1 = nI (i + 1) from nI_add _ _) ?_
  refine kc_sld (i := i + 1) hx hb hXs hbl hbA hS (by omega) (by omega) dL_law_444 ?_
  refine kc_top hp1 ?_
  refine lv_aload_n hx hb dL_law_445 rfl (lv_at hl 0 rfl) ?_
  refine lv_iload hx hb dL_law_446 (lv_at hl 4 rfl) ?_
  refine lv_iconst (v := 2) hx hb dL_law_448 (by decide) ?_
  refine lv_iadd hx hb dL_law_449 ?_
  refine kc_top (show (nI i) + 2 = nI (i + 2) from nI_add _ _) ?_
  refine kc_sld (i := i + 2) hx hb hXs hbl hbA hS (by omega) (by omega) dL_law_450 ?_
  refine kc_top hp2 ?_
  refine lv_aload_n hx hb dL_law_451 rfl (lv_at hl 3 rfl) ?_
  have hX := kc_xat hX0 hS
  refine kc_hXi (w1 := wLh ad cI cd te ri pi pw K Dn mv ko so tl lp lb ld le C cl dq dy cL ou) (wr := [(md 0, .inr (3, [.int th, .int (nI mK), .ref (md 1), .int (nI mD), .ref (md 2), .int mw, .int my, .int (nI mC), .ref (md 3), .ref (md 4), .ref (md 5), .ref (md 6), .ref (md 7), .ref (md 8), .ref (md 9)])), (md 1, .inl (cI, 8, .inl mc)), (md 2, .inl (cI, 8, .inl mr)), (md 3, .inl (cI, 24, .inl mk)), (md 4, .inl (cI, 24, .inl ms)), (md 5, .inl (cI, 24, .inl mu)), (md 6, .inl (cI, 24, .inl mt)), (md 7, .inl (cI, 216, .inl mp)), (md 8, .inl (cI, 216, .inl mb)), (md 9, .inl (cI, 216, .inl me))]) (ws1 := wLaw ad cI cd te ri pi pw K Dn mv ko so tl lp lb ld le C cl dq dy cL ou md th mK mc mD mr mw my mC mk ms mu mt mp mb me) (As := [.ref (ad 14), .int (nI d), .int po, .ref (ad 17)]) (rest := []) ⟨hx, hb, hml, hown, hts⟩ (c_L_pins_f2 l hlf D ad cI cd te ri pi pw K Dn mv ko so tl lp lb ld le C cl dq dy cL ou d po H.size hD8 hd hBad) (vx_cwSW 4 hts gL_law_L_pins rfl rfl rfl (by decide +kernel) ⟨Nat.le_of_ble_eq_true rfl, Nat.le_of_ble_eq_true rfl⟩) hK hP hD hX hS hA [0, 1, 2, 3, 4, 5, 6, 7, 8, 9, 10, 11, 12, 13, 14, 15, 16, 17] [18, 19, 20, 21, 22, 23, 24, 25, 26, 27] [10, 11, 12, 13, 14, 15, 16, 17, 18, 19, 20, 21, 22, 23, 24, 25, 26, 27, 0, 1, 2, 3, 4, 5, 6, 7, 8, 9] [0, 1] rfl rfl rfl rfl (by decide) rfl rfl rfl rfl hl.1 rfl (Nat.le_of_ble_eq_true rfl) dL_law_452 ⟨kc_rc (by omega), kc_rs (by omega)⟩ (fun H locs hP hD hS => ?_)
  refine lv_istore (lv' := [(5, .int 1), (0, .ref b), (1, .ref (ad 14)), (2, .ref (md 0)), (3, .ref (ad 17)), (4, .int (nI i))]) hx hb dL_law_455 hl (by decide) rfl (fun ls hl => ?_)
  refine lv_aload_n hx hb dL_law_457 rfl (lv_at hl 3 rfl) ?_
  refine lv_aload_n hx hb dL_law_458 rfl (lv_at hl 1 rfl) ?_
  refine lv_iload hx hb dL_law_459 (lv_at hl 5 rfl) ?_
  refine lv_iconst (v := 1) hx hb dL_law_461 (by decide) ?_
  refine lv_iadd hx hb dL_law_462 ?_
  refine kc_top (show (nI i) + 1 = nI (i + 1) from nI_add _ _) ?_
  refine kc_sld (i := i + 1) hx hb hXs hbl hbA hS (by omega) (by omega) dL_law_463 ?_
  refine kc_top hp1 ?_
  refine lv_aload_n hx hb dL_law_464 rfl (lv_at hl 1 rfl) ?_
  refine lv_iload hx hb dL_law_465 (lv_at hl 5 rfl) ?_
  refine lv_iconst (v := 2) hx hb dL_law_467 (by decide) ?_
  refine lv_iadd hx hb dL_law_468 ?_
  refine kc_top (show (nI i) + 2 = nI (i + 2) from nI_add _ _) ?_
  refine kc_sld (i := i + 2) hx hb hXs hbl hbA hS (by omega) (by omega) dL_law_469 ?_
  refine kc_top hp2 ?_
  refine kc_wVi (w1 := wMd md cI 1 mK mc mD mr mw my mC mk ms mu mt mp mb me) (wr := [(ad 0, .inr (1, [.ref (ad 1), .ref (ad 2), .ref (ad 3), .ref (ad 4), .ref (ad 5), .int (nI K), .int (nI Dn), .int mv])), (ad 1, .inl (cI, 8, .inl cd)), (ad 2, .inl (cI, 8, .inl te)), (ad 3, .inl (cI, 8, .inl ri)), (ad 4, .inl (cI, 8, .inl pi)), (ad 5, .inl (cI, 8, .inl pw)), (ad 6, .inr (0, [.ref (ad 7), .ref (ad 8), .ref (ad 9), .ref (ad 10), .ref (ad 11), .ref (ad 12), .ref (ad 13), .int (nI C)])), (ad 7, .inl (cI, 24, .inl ko)), (ad 8, .inl (cI, 24, .inl so)), (ad 9, .inl (cI, 24, .inl tl)), (ad 10, .inl (cI, 216, .inl lp)), (ad 11, .inl (cI, 216, .inl lb)), (ad 12, .inl (cI, 216, .inl ld)), (ad 13, .inl (cI, 216, .inl le)), (ad 14, .inr (2, [.ref (ad 0), .ref (ad 6), .ref (ad 15), .ref (ad 16), .int dy])), (ad 15, .inl (cI, 8, .inl cl)), (ad 16, .inl (cI, 8, .inl dq)), (ad 17, .inl (cL, 1, .inr (.inl ou)))]) (ws1 := wLaw ad cI cd te ri pi pw K Dn mv ko so tl lp lb ld le C cl dq dy cL ou md 1 mK mc mD mr mw my mC mk ms mu mt mp mb me) (As := [.int (nI d), .int po]) (rest := []) ⟨hx, hb, hml, hown, hts⟩ (c_X3_pins_f2 l D md cI th mK mc mD mr mw my mC mk ms mu mt mp mb me d po H.size m_hD8 m_hd m_hBad) (cwV 2 hts gL_law_X3_pins rfl rfl rfl (by decide +kernel) ⟨Nat.le_of_ble_eq_true rfl, Nat.le_of_ble_eq_true rfl⟩) hK hP hD hS hA [18, 19, 20, 21, 22, 23, 24, 25, 26, 27] [0, 1, 2, 3, 4, 5, 6, 7, 8, 9, 10, 11, 12, 13, 14, 15, 16, 17] [0, 1, 2, 3, 4, 5, 6, 7, 8, 9, 10, 11, 12, 13, 14, 15, 16, 17, 18, 19, 20, 21, 22, 23, 24, 25, 26, 27] [0] rfl rfl rfl rfl (by decide) rfl rfl rfl 18 rfl rfl rfl rfl hl.1 rfl (Nat.le_of_ble_eq_true rfl) dL_law_470 ⟨kc_rc (by omega), kc_rs (by omega)⟩ (fun H locs hP hD hS => ?_)
  refine lv_istore (lv' := [(6, .int 0), (5, .int 1), (0, .ref b), (1, .ref (ad 14)), (2, .ref (md 0)), (3, .ref (ad 17)), (4, .int (nI i))]) hx hb dL_law_473 hl (by decide) rfl (fun ls hl => ?_)
  refine lv_aload_n hx hb dL_law_475 rfl (lv_at hl 4 rfl) ?_
  refine kc_rVi (As := []) (rest := []) ⟨hx, hb, hml, hown, hts⟩ (c_X3_thrown l D md cI 1 mK mc mD mr mw my mC mk ms mu mt mp mb me ) (cwV 0 hts gL_law_X3_thrown rfl rfl rfl (by decide +kernel) ⟨Nat.le_of_ble_eq_true rfl, Nat.le_of_ble_eq_true rfl⟩) hK hP [18, 19, 20, 21, 22, 23, 24, 25, 26, 27] [0] rfl rfl 18 rfl rfl rfl rfl hl.1 rfl (Nat.le_of_ble_eq_true rfl) dL_law_476 ⟨kc_rc (by omega), kc_rs (by omega)⟩ ?_
  refine lv_iload hx hb dL_law_479 (lv_at hl 1 rfl) ?_
  refine lv_icmp_eq (tgt := 486) hx hb dL_law_481 (by decide) (fun c_481 => ?_) (fun c_481 => absurd c_481 (by decide))
  refine lv_iload hx hb dL_law_486 (lv_at hl 1 rfl) ?_
  refine lv_if_ne (tgt := 503) hx hb dL_law_488 (by decide) (fun c_488 => ?_) (fun c_488 => absurd c_488 (by decide))
  refine lv_goto (tgt := 1633) hx hb dL_law_503 (by decide) ?_
  refine W.widen (k := cells + 2) (n := slots + 16) (by omega) (by omega) ?_
  exact K1 _ _ _ hP hD hS (lv_sub hl [2, 3, 4, 5, 6] rfl)
set_option maxHeartbeats 4000000 in
set_option maxRecDepth 100000 in
theorem lw_opens_ok_ok {p : Program} {l : Launch} {e : Env} {s : State} {m : MethodId} {below : List Frame} {meth : Method} {c : Code} {Q : State → Prop} {b L : Nat} {xs : Nat → Int32} (hlf : l.stackTraces = false) (C0 : lw_At p s m meth c b L xs) {D : va_G} {cI cL : ClassId} (hK : kcK D [(cI, .int), (cL, .long)] s) (hX0 : kcX (fun q => s.heap.size ≤ q) s s.heap) (hL : L ≤ 2048) (i : Nat) (hi : i + 3 < L) (ad : Nat → Nat) (cd : Nat → Int32) (te : Nat → Int32) (ri : Nat → Int32) (pi : Nat → Int32) (pw : Nat → Int32) (K : Nat) (Dn : Nat) (mv : Int32) (ko : Nat → Int32) (so : Nat → Int32) (tl : Nat → Int32) (lp : Nat → Int32) (lb : Nat → Int32) (ld : Nat → Int32) (le : Nat → Int32) (C : Nat) (cl : Nat → Int32) (dq : Nat → Int32) (dy : Int32) (ou : Nat → Int64) (md : Nat → Nat) (th : Int32) (mK : Nat) (mc : Nat → Int32) (mD : Nat) (mr : Nat → Int32) (mw : Int32) (my : Int32) (mC : Nat) (mk : Nat → Int32) (ms : Nat → Int32) (mu : Nat → Int32) (mt : Nat → Int32) (mp : Nat → Int32) (mb : Nat → Int32) (me : Nat → Int32) (k : Nat) (d : Nat) (hK8 : K ≤ 8) (hD8 : Dn ≤ 8) (hk : k < K) (hd : d < Dn) (m_hK8 : mK ≤ 8) (m_hD8 : mD ≤ 8) (m_hk : k < mK) (m_hd : d < mD) (hp1 : xs (i + 1) = nI k) (hp2 : xs (i + 2) = nI d) (hres : ((jContains (pi d) (te k)) : Bool) = ((mOpens mr mc mK (mc k) d 5))) {H : Heap} {locs : List Loc} {cells slots : Nat} (hce : cells + 2 ≤ 601024) (hsl : slots + 16 ≤ 7293034) (hP : va_P D vwCl (wLaw ad cI cd te ri pi pw K Dn mv ko so tl lp lb ld le C cl dq dy cL ou md th mK mc mD mr mw my mC mk ms mu mt mp mb me) H) (hD : va_D (fun q => s.heap.size ≤ q) (wLaw ad cI cd te ri pi pw K Dn mv ko so tl lp lb ld le C cl dq dy cL ou md th mK mc mD mr mw my mC mk ms mu mt mp mb me)) (hS : va_S (fun q => s.heap.size ≤ q) s.heap H locs) {ls : Array Slot} (hl : lv_has ls 9 [(0, .ref b), (1, .ref (ad 14)), (2, .ref (md 0)), (3, .ref (ad 17)), (4, .int (nI i))]) (K1 : ∀ (H : Heap) (locs : List Loc) (ls : Array Slot), va_P D vwCl (wLaw ad cI cd te ri pi pw K Dn mv ko so tl lp lb ld le C cl dq dy cL (vp_updL ou 0 (if (jContains (pi d) (te k)) = true then 1 else 0)) md 0 mK mc mD mr mw my mC mk ms mu mt mp mb me) H → va_D (fun q => s.heap.size ≤ q) (wLaw ad cI cd te ri pi pw K Dn mv ko so tl lp lb ld le C cl dq dy cL (vp_updL ou 0 (if (jContains (pi d) (te k)) = true then 1 else 0)) md 0 mK mc mD mr mw my mC mk ms mu mt mp mb me) → va_S (fun q => s.heap.size ≤ q) s.heap H locs → lv_has ls 9 [(0, .ref b), (1, .ref (ad 14)), (2, .ref (md 0)), (3, .ref (ad 17)), (4, .int (nI i))] → W p l e room_1 s m #[Value.ref b] below meth c H locs (cells + 2) (slots + 16) Q (F0 m 1633 ls [])) : W p l e room_1 s m #[Value.ref b] below meth c H locs cells slots Q (F0 m 506 ls []) := by
  obtain ⟨hx, hb, hr, hml, hown, hts, hXs, hbl, hlocks, hgv⟩ := id C0
  have hts := fun w h => hts w (wsL_law_in w h)
  have hb : c.code = cL_law := hb
  have hA : ∀ q : Nat, s.heap.size ≤ q → (fun q : Nat => s.heap.size ≤ q) q := fun _ h => h
  have hbA : ¬ (fun q : Nat => s.heap.size ≤ q) b := Nat.not_le.mpr hbl
  refine lv_aload_n hx hb dL_law_506 rfl (lv_at hl 1 rfl) ?_
  refine lv_aload_n hx hb dL_law_507 rfl (lv_at hl 0 rfl) ?_
  refine lv_iload hx hb dL_law_508 (lv_at hl 4 rfl) ?_
  refine lv_iconst (v := 1) hx hb dL_law_510 (by decide) ?_
  refine lv_iadd hx hb dL_law_511 ?_
  refine kc_top (show (nI i) + 1 = nI (i + 1) from nI_add _ _) ?_
  refine kc_sld (i := i + 1) hx hb hXs hbl hbA hS (by omega) (by omega) dL_law_512 ?_
  refine kc_top hp1 ?_
  refine lv_aload_n hx hb dL_law_513 rfl (lv_at hl 0 rfl) ?_
  refine lv_iload hx hb dL_law_514 (lv_at hl 4 rfl) ?_
  refine lv_iconst (v := 2) hx hb dL_law_516 (by decide) ?_
  refine lv_iadd hx hb dL_law_517 ?_
  refine kc_top (show (nI i) + 2 = nI (i + 2) from nI_add _ _) ?_
  refine kc_sld (i := i + 2) hx hb hXs hbl hbA hS (by omega) (by omega) dL_law_518 ?_
  refine kc_top hp2 ?_
  refine lv_aload_n hx hb dL_law_519 rfl (lv_at hl 3 rfl) ?_
  refine kc_hSi (w1 := wLh ad cI cd te ri pi pw K Dn mv ko so tl lp lb ld le C cl dq dy cL (vp_updL ou 0 (if (jContains (pi d) (te k)) = true then 1 else 0))) (wr := [(md 0, .inr (3, [.int th, .int (nI mK), .ref (md 1), .int (nI mD), .ref (md 2), .int mw, .int my, .int (nI mC), .ref (md 3), .ref (md 4), .ref (md 5), .ref (md 6), .ref (md 7), .ref (md 8), .ref (md 9)])), (md 1, .inl (cI, 8, .inl mc)), (md 2, .inl (cI, 8, .inl mr)), (md 3, .inl (cI, 24, .inl mk)), (md 4, .inl (cI, 24, .inl ms)), (md 5, .inl (cI, 24, .inl mu)), (md 6, .inl (cI, 24, .inl mt)), (md 7, .inl (cI, 216, .inl mp)), (md 8, .inl (cI, 216, .inl mb)), (md 9, .inl (cI, 216, .inl me))]) (ws1 := wLaw ad cI cd te ri pi pw K Dn mv ko so tl lp lb ld le C cl dq dy cL (vp_updL ou 0 (if (jContains (pi d) (te k)) = true then 1 else 0)) md th mK mc mD mr mw my mC mk ms mu mt mp mb me) (As := [.ref (ad 14), .int (nI k), .int (nI d), .ref (ad 17)]) (rest := []) ⟨hx, hb, hml, hown, hts⟩ (c_L_opens_ok l D ad cI cd te ri pi pw K Dn mv ko so tl lp lb ld le C cl dq dy cL ou k d H.size hK8 hD8 hk hd) (vx_cwSW 4 hts gL_law_L_opens rfl rfl rfl (by decide +kernel) ⟨Nat.le_of_ble_eq_true rfl, Nat.le_of_ble_eq_true rfl⟩) hK hP hD hS hA [0, 1, 2, 3, 4, 5, 6, 7, 8, 9, 10, 11, 12, 13, 14, 15, 16, 17] [18, 19, 20, 21, 22, 23, 24, 25, 26, 27] [10, 11, 12, 13, 14, 15, 16, 17, 18, 19, 20, 21, 22, 23, 24, 25, 26, 27, 0, 1, 2, 3, 4, 5, 6, 7, 8, 9] [0, 1] rfl rfl rfl rfl (by decide) rfl rfl rfl rfl hl.1 rfl (Nat.le_of_ble_eq_true rfl) dL_law_520 ⟨kc_rc (by omega), kc_rs (by omega)⟩ (fun H locs hP hD hS => ?_)
  refine lv_istore (lv' := [(5, .int 0), (0, .ref b), (1, .ref (ad 14)), (2, .ref (md 0)), (3, .ref (ad 17)), (4, .int (nI i))]) hx hb dL_law_523 hl (by decide) rfl (fun ls hl => ?_)
  refine lv_aload_n hx hb dL_law_525 rfl (lv_at hl 3 rfl) ?_
  refine lv_aload_n hx hb dL_law_526 rfl (lv_at hl 1 rfl) ?_
  refine lv_iload hx hb dL_law_527 (lv_at hl 5 rfl) ?_
  refine lv_iconst (v := 1) hx hb dL_law_529 (by decide) ?_
  refine lv_iadd hx hb dL_law_530 ?_
  refine kc_top (show (nI i) + 1 = nI (i + 1) from nI_add _ _) ?_
  refine kc_sld (i := i + 1) hx hb hXs hbl hbA hS (by omega) (by omega) dL_law_531 ?_
  refine kc_top hp1 ?_
  refine lv_aload_n hx hb dL_law_532 rfl (lv_at hl 1 rfl) ?_
  refine lv_iload hx hb dL_law_533 (lv_at hl 5 rfl) ?_
  refine lv_iconst (v := 2) hx hb dL_law_535 (by decide) ?_
  refine lv_iadd hx hb dL_law_536 ?_
  refine kc_top (show (nI i) + 2 = nI (i + 2) from nI_add _ _) ?_
  refine kc_sld (i := i + 2) hx hb hXs hbl hbA hS (by omega) (by omega) dL_law_537 ?_
  refine kc_top hp2 ?_
  refine kc_wVi (w1 := wMd md cI 0 mK mc mD mr mw my mC mk ms mu mt mp mb me) (wr := [(ad 0, .inr (1, [.ref (ad 1), .ref (ad 2), .ref (ad 3), .ref (ad 4), .ref (ad 5), .int (nI K), .int (nI Dn), .int mv])), (ad 1, .inl (cI, 8, .inl cd)), (ad 2, .inl (cI, 8, .inl te)), (ad 3, .inl (cI, 8, .inl ri)), (ad 4, .inl (cI, 8, .inl pi)), (ad 5, .inl (cI, 8, .inl pw)), (ad 6, .inr (0, [.ref (ad 7), .ref (ad 8), .ref (ad 9), .ref (ad 10), .ref (ad 11), .ref (ad 12), .ref (ad 13), .int (nI C)])), (ad 7, .inl (cI, 24, .inl ko)), (ad 8, .inl (cI, 24, .inl so)), (ad 9, .inl (cI, 24, .inl tl)), (ad 10, .inl (cI, 216, .inl lp)), (ad 11, .inl (cI, 216, .inl lb)), (ad 12, .inl (cI, 216, .inl ld)), (ad 13, .inl (cI, 216, .inl le)), (ad 14, .inr (2, [.ref (ad 0), .ref (ad 6), .ref (ad 15), .ref (ad 16), .int dy])), (ad 15, .inl (cI, 8, .inl cl)), (ad 16, .inl (cI, 8, .inl dq)), (ad 17, .inl (cL, 1, .inr (.inl (vp_updL ou 0 (if (jContains (pi d) (te k)) = true then 1 else 0)))))]) (ws1 := wLaw ad cI cd te ri pi pw K Dn mv ko so tl lp lb ld le C cl dq dy cL (vp_updL ou 0 (if (jContains (pi d) (te k)) = true then 1 else 0)) md 0 mK mc mD mr mw my mC mk ms mu mt mp mb me) (As := [.int (nI k), .int (nI d)]) (rest := []) ⟨hx, hb, hml, hown, hts⟩ (c_X3_opens_ok l D md cI th mK mc mD mr mw my mC mk ms mu mt mp mb me k d H.size m_hK8 m_hD8 m_hk m_hd) (cwV 2 hts gL_law_X3_opens rfl rfl rfl (by decide +kernel) ⟨Nat.le_of_ble_eq_true rfl, Nat.le_of_ble_eq_true rfl⟩) hK hP hD hS hA [18, 19, 20, 21, 22, 23, 24, 25, 26, 27] [0, 1, 2, 3, 4, 5, 6, 7, 8, 9, 10, 11, 12, 13, 14, 15, 16, 17] [0, 1, 2, 3, 4, 5, 6, 7, 8, 9, 10, 11, 12, 13, 14, 15, 16, 17, 18, 19, 20, 21, 22, 23, 24, 25, 26, 27] [0] rfl rfl rfl rfl (by decide) rfl rfl rfl 18 rfl rfl rfl rfl hl.1 rfl (Nat.le_of_ble_eq_true rfl) dL_law_538 ⟨kc_rc (by omega), kc_rs (by omega)⟩ (fun H locs hP hD hS => ?_)
  refine lv_istore (lv' := [(6, .int (bI (mOpens mr mc mK (mc k) d 5))), (5, .int 0), (0, .ref b), (1, .ref (ad 14)), (2, .ref (md 0)), (3, .ref (ad 17)), (4, .int (nI i))]) hx hb dL_law_541 hl (by decide) rfl (fun ls hl => ?_)
  refine lv_aload_n hx hb dL_law_543 rfl (lv_at hl 4 rfl) ?_
  refine kc_rVi (As := []) (rest := []) ⟨hx, hb, hml, hown, hts⟩ (c_X3_thrown l D md cI 0 mK mc mD mr mw my mC mk ms mu mt mp mb me ) (cwV 0 hts gL_law_X3_thrown rfl rfl rfl (by decide +kernel) ⟨Nat.le_of_ble_eq_true rfl, Nat.le_of_ble_eq_true rfl⟩) hK hP [18, 19, 20, 21, 22, 23, 24, 25, 26, 27] [0] rfl rfl 18 rfl rfl rfl rfl hl.1 rfl (Nat.le_of_ble_eq_true rfl) dL_law_544 ⟨kc_rc (by omega), kc_rs (by omega)⟩ ?_
  refine lv_iload hx hb dL_law_547 (lv_at hl 1 rfl) ?_
  refine lv_icmp_eq (tgt := 554) hx hb dL_law_549 (by decide) (fun c_549 => ?_) (fun c_549 => absurd c_549 (by decide))
  refine lv_iload hx hb dL_law_554 (lv_at hl 1 rfl) ?_
  refine lv_if_ne (tgt := 578) hx hb dL_law_556 (by decide) (fun c_556 => absurd c_556 (by decide)) (fun c_556 => ?_)
  refine lv_aload_n hx hb dL_law_559 rfl (lv_at hl 5 rfl) ?_
  refine lv_iconst (v := 0) hx hb dL_law_560 (by decide) ?_
  refine kc_lld (i := 0) (n := 1) hx hb hK hP 17 1 rfl rfl (by decide) (by decide) dL_law_561 ?_
  refine kc_topl (show ((vp_updL ou 0 (if (jContains (pi d) (te k)) = true then 1 else 0))) 0 = if (jContains (pi d) (te k)) = true then 1 else 0 from pk_uLs) ?_
  refine lv_iload hx hb dL_law_562 (lv_at hl 0 rfl) ?_
  refine kc_ifeqB (tgt := 571) hx hb dL_law_564 (by decide) (fun c_564 => ?_) (fun c_564 => ?_)
  · refine lv_lconst (v := 0) hx hb dL_law_571 (by decide) ?_
    refine W.lcmp hx hb dL_law_572 ?_
    refine kc_top (show lg_cmp (if (jContains (pi d) (te k)) = true then 1 else 0) 0 = 0 from kc_lcmp0 (by rw [hres]; exact if_neg c_564)) ?_
    refine lv_if_eq (tgt := 578) hx hb dL_law_573 (by decide) (fun c_573 => ?_) (fun c_573 => absurd c_573 (by decide))
    refine lv_goto (tgt := 1633) hx hb dL_law_578 (by decide) ?_
    refine W.widen (k := cells + 2) (n := slots + 16) (by omega) (by omega) ?_
    exact K1 _ _ _ hP hD hS (lv_sub hl [2, 3, 4, 5, 6] rfl)
  · refine lv_lconst (v := 1) hx hb dL_law_567 (by decide) ?_
    refine lv_goto (tgt := 572) hx hb dL_law_568 (by decide) ?_
    refine W.lcmp hx hb dL_law_572 ?_
    refine kc_top (show lg_cmp (if (jContains (pi d) (te k)) = true then 1 else 0) 1 = 0 from kc_lcmp0 (by rw [hres]; exact if_pos c_564)) ?_
    refine lv_if_eq (tgt := 578) hx hb dL_law_573 (by decide) (fun c_573 => ?_) (fun c_573 => absurd c_573 (by decide))
    refine lv_goto (tgt := 1633) hx hb dL_law_578 (by decide) ?_
    refine W.widen (k := cells + 2) (n := slots + 16) (by omega) (by omega) ?_
    exact K1 _ _ _ hP hD hS (lv_sub hl [2, 3, 4, 5, 6] rfl)
set_option maxHeartbeats 4000000 in
set_option maxRecDepth 100000 in
theorem lw_opens_f1_f1 {p : Program} {l : Launch} {e : Env} {s : State} {m : MethodId} {below : List Frame} {meth : Method} {c : Code} {Q : State → Prop} {b L : Nat} {xs : Nat → Int32} (hlf : l.stackTraces = false) (C0 : lw_At p s m meth c b L xs) {D : va_G} {cI cL : ClassId} (hK : kcK D [(cI, .int), (cL, .long)] s) (hX0 : kcX (fun q => s.heap.size ≤ q) s s.heap) (hL : L ≤ 2048) (i : Nat) (hi : i + 3 < L) (ad : Nat → Nat) (cd : Nat → Int32) (te : Nat → Int32) (ri : Nat → Int32) (pi : Nat → Int32) (pw : Nat → Int32) (K : Nat) (Dn : Nat) (mv : Int32) (ko : Nat → Int32) (so : Nat → Int32) (tl : Nat → Int32) (lp : Nat → Int32) (lb : Nat → Int32) (ld : Nat → Int32) (le : Nat → Int32) (C : Nat) (cl : Nat → Int32) (dq : Nat → Int32) (dy : Int32) (ou : Nat → Int64) (md : Nat → Nat) (th : Int32) (mK : Nat) (mc : Nat → Int32) (mD : Nat) (mr : Nat → Int32) (mw : Int32) (my : Int32) (mC : Nat) (mk : Nat → Int32) (ms : Nat → Int32) (mu : Nat → Int32) (mt : Nat → Int32) (mp : Nat → Int32) (mb : Nat → Int32) (me : Nat → Int32) (x : Int32) (y : Int32) (hBad : ¬ jIn K x = true) (m_hBad : ¬ jIn mK x = true) (hp1 : xs (i + 1) = x) (hp2 : xs (i + 2) = y)  {H : Heap} {locs : List Loc} {cells slots : Nat} (hce : cells + 2 ≤ 601024) (hsl : slots + 16 ≤ 7293034) (hP : va_P D vwCl (wLaw ad cI cd te ri pi pw K Dn mv ko so tl lp lb ld le C cl dq dy cL ou md th mK mc mD mr mw my mC mk ms mu mt mp mb me) H) (hD : va_D (fun q => s.heap.size ≤ q) (wLaw ad cI cd te ri pi pw K Dn mv ko so tl lp lb ld le C cl dq dy cL ou md th mK mc mD mr mw my mC mk ms mu mt mp mb me)) (hS : va_S (fun q => s.heap.size ≤ q) s.heap H locs) {ls : Array Slot} (hl : lv_has ls 9 [(0, .ref b), (1, .ref (ad 14)), (2, .ref (md 0)), (3, .ref (ad 17)), (4, .int (nI i))]) (K1 : ∀ (H : Heap) (locs : List Loc) (ls : Array Slot), va_P D vwCl (wLaw ad cI cd te ri pi pw K Dn mv ko so tl lp lb ld le C cl dq dy cL ou md 1 mK mc mD mr mw my mC mk ms mu mt mp mb me) H → va_D (fun q => s.heap.size ≤ q) (wLaw ad cI cd te ri pi pw K Dn mv ko so tl lp lb ld le C cl dq dy cL ou md 1 mK mc mD mr mw my mC mk ms mu mt mp mb me) → va_S (fun q => s.heap.size ≤ q) s.heap H locs → lv_has ls 9 [(0, .ref b), (1, .ref (ad 14)), (2, .ref (md 0)), (3, .ref (ad 17)), (4, .int (nI i))] → W p l e room_1 s m #[Value.ref b] below meth c H locs (cells + 2) (slots + 16) Q (F0 m 1633 ls [])) : W p l e room_1 s m #[Value.ref b] below meth c H locs cells slots Q (F0 m 506 ls []) := by
  obtain ⟨hx, hb, hr, hml, hown, hts, hXs, hbl, hlocks, hgv⟩ := id C0
  have hts := fun w h => hts w (wsL_law_in w h)
  have hb : c.code = cL_law := hb
  have hA : ∀ q : Nat, s.heap.size ≤ q → (fun q : Nat => s.heap.size ≤ q) q := fun _ h => h
  have hbA : ¬ (fun q : Nat => s.heap.size ≤ q) b := Nat.not_le.mpr hbl
  refine lv_aload_n hx hb dL_law_506 rfl (lv_at hl 1 rfl) ?_
  refine lv_aload_n hx hb dL_law_507 rfl (lv_at hl 0 rfl) ?_
  refine lv_iload hx hb dL_law_508 (lv_at hl 4 rfl) ?_
  refine lv_iconst (v := 1) hx hb dL_law_510 (by decide) ?_
  refine lv_iadd hx hb dL_law_511 ?_
  refine kc_top (show (nI i) + 1 = nI (i + 1) from nI_add _ _) ?_
  refine kc_sld (i := i + 1) hx hb hXs hbl hbA hS (by omega) (by omega) dL_law_512 ?_
  refine kc_top hp1 ?_
  refine lv_aload_n hx hb dL_law_513 rfl (lv_at hl 0 rfl) ?_
  refine lv_iload hx hb dL_law_514 (lv_at hl 4 rfl) ?_
  refine lv_iconst (v := 2) hx hb dL_law_516 (by decide) ?_
  refine lv_iadd hx hb dL_law_517 ?_
  refine kc_top (show (nI i) + 2 = nI (i + 2) from nI_add _ _) ?_
  refine kc_sld (i := i + 2) hx hb hXs hbl hbA hS (by omega) (by omega) dL_law_518 ?_
  refine kc_top hp2 ?_
  refine lv_aload_n hx hb dL_law_519 rfl (lv_at hl 3 rfl) ?_
  have hX := kc_xat hX0 hS
  refine kc_hXi (w1 := wLh ad cI cd te ri pi pw K Dn mv ko so tl lp lb ld le C cl dq dy cL ou) (wr := [(md 0, .inr (3, [.int th, .int (nI mK), .ref (md 1), .int (nI mD), .ref (md 2), .int mw, .int my, .int (nI mC), .ref (md 3), .ref (md 4), .ref (md 5), .ref (md 6), .ref (md 7), .ref (md 8), .ref (md 9)])), (md 1, .inl (cI, 8, .inl mc)), (md 2, .inl (cI, 8, .inl mr)), (md 3, .inl (cI, 24, .inl mk)), (md 4, .inl (cI, 24, .inl ms)), (md 5, .inl (cI, 24, .inl mu)), (md 6, .inl (cI, 24, .inl mt)), (md 7, .inl (cI, 216, .inl mp)), (md 8, .inl (cI, 216, .inl mb)), (md 9, .inl (cI, 216, .inl me))]) (ws1 := wLaw ad cI cd te ri pi pw K Dn mv ko so tl lp lb ld le C cl dq dy cL ou md th mK mc mD mr mw my mC mk ms mu mt mp mb me) (As := [.ref (ad 14), .int x, .int y, .ref (ad 17)]) (rest := []) ⟨hx, hb, hml, hown, hts⟩ (c_L_opens_f1 l hlf D ad cI cd te ri pi pw K Dn mv ko so tl lp lb ld le C cl dq dy cL ou x y H.size hBad) (vx_cwSW 4 hts gL_law_L_opens rfl rfl rfl (by decide +kernel) ⟨Nat.le_of_ble_eq_true rfl, Nat.le_of_ble_eq_true rfl⟩) hK hP hD hX hS hA [0, 1, 2, 3, 4, 5, 6, 7, 8, 9, 10, 11, 12, 13, 14, 15, 16, 17] [18, 19, 20, 21, 22, 23, 24, 25, 26, 27] [10, 11, 12, 13, 14, 15, 16, 17, 18, 19, 20, 21, 22, 23, 24, 25, 26, 27, 0, 1, 2, 3, 4, 5, 6, 7, 8, 9] [0, 1] rfl rfl rfl rfl (by decide) rfl rfl rfl rfl hl.1 rfl (Nat.le_of_ble_eq_true rfl) dL_law_520 ⟨kc_rc (by omega), kc_rs (by omega)⟩ (fun H locs hP hD hS => ?_)
  refine lv_istore (lv' := [(5, .int 1), (0, .ref b), (1, .ref (ad 14)), (2, .ref (md 0)), (3, .ref (ad 17)), (4, .int (nI i))]) hx hb dL_law_523 hl (by decide) rfl (fun ls hl => ?_)
  refine lv_aload_n hx hb dL_law_525 rfl (lv_at hl 3 rfl) ?_
  refine lv_aload_n hx hb dL_law_526 rfl (lv_at hl 1 rfl) ?_
  refine lv_iload hx hb dL_law_527 (lv_at hl 5 rfl) ?_
  refine lv_iconst (v := 1) hx hb dL_law_529 (by decide) ?_
  refine lv_iadd hx hb dL_law_530 ?_
  refine kc_top (show (nI i) + 1 = nI (i + 1) from nI_add _ _) ?_
  refine kc_sld (i := i + 1) hx hb hXs hbl hbA hS (by omega) (by omega) dL_law_531 ?_
  refine kc_top hp1 ?_
  refine lv_aload_n hx hb dL_law_532 rfl (lv_at hl 1 rfl) ?_
  refine lv_iload hx hb dL_law_533 (lv_at hl 5 rfl) ?_
  refine lv_iconst (v := 2) hx hb dL_law_535 (by decide) ?_
  refine lv_iadd hx hb dL_law_536 ?_
  refine kc_top (show (nI i) + 2 = nI (i + 2) from nI_add _ _) ?_
  refine kc_sld (i := i + 2) hx hb hXs hbl hbA hS (by omega) (by omega) dL_law_537 ?_
  refine kc_top hp2 ?_
  refine kc_wVi (w1 := wMd md cI 1 mK mc mD mr mw my mC mk ms mu mt mp mb me) (wr := [(ad 0, .inr (1, [.ref (ad 1), .ref (ad 2), .ref (ad 3), .ref (ad 4), .ref (ad 5), .int (nI K), .int (nI Dn), .int mv])), (ad 1, .inl (cI, 8, .inl cd)), (ad 2, .inl (cI, 8, .inl te)), (ad 3, .inl (cI, 8, .inl ri)), (ad 4, .inl (cI, 8, .inl pi)), (ad 5, .inl (cI, 8, .inl pw)), (ad 6, .inr (0, [.ref (ad 7), .ref (ad 8), .ref (ad 9), .ref (ad 10), .ref (ad 11), .ref (ad 12), .ref (ad 13), .int (nI C)])), (ad 7, .inl (cI, 24, .inl ko)), (ad 8, .inl (cI, 24, .inl so)), (ad 9, .inl (cI, 24, .inl tl)), (ad 10, .inl (cI, 216, .inl lp)), (ad 11, .inl (cI, 216, .inl lb)), (ad 12, .inl (cI, 216, .inl ld)), (ad 13, .inl (cI, 216, .inl le)), (ad 14, .inr (2, [.ref (ad 0), .ref (ad 6), .ref (ad 15), .ref (ad 16), .int dy])), (ad 15, .inl (cI, 8, .inl cl)), (ad 16, .inl (cI, 8, .inl dq)), (ad 17, .inl (cL, 1, .inr (.inl ou)))]) (ws1 := wLaw ad cI cd te ri pi pw K Dn mv ko so tl lp lb ld le C cl dq dy cL ou md 1 mK mc mD mr mw my mC mk ms mu mt mp mb me) (As := [.int x, .int y]) (rest := []) ⟨hx, hb, hml, hown, hts⟩ (c_X3_opens_f1 l D md cI th mK mc mD mr mw my mC mk ms mu mt mp mb me x y H.size m_hBad) (cwV 2 hts gL_law_X3_opens rfl rfl rfl (by decide +kernel) ⟨Nat.le_of_ble_eq_true rfl, Nat.le_of_ble_eq_true rfl⟩) hK hP hD hS hA [18, 19, 20, 21, 22, 23, 24, 25, 26, 27] [0, 1, 2, 3, 4, 5, 6, 7, 8, 9, 10, 11, 12, 13, 14, 15, 16, 17] [0, 1, 2, 3, 4, 5, 6, 7, 8, 9, 10, 11, 12, 13, 14, 15, 16, 17, 18, 19, 20, 21, 22, 23, 24, 25, 26, 27] [0] rfl rfl rfl rfl (by decide) rfl rfl rfl 18 rfl rfl rfl rfl hl.1 rfl (Nat.le_of_ble_eq_true rfl) dL_law_538 ⟨kc_rc (by omega), kc_rs (by omega)⟩ (fun H locs hP hD hS => ?_)
  refine lv_istore (lv' := [(6, .int 0), (5, .int 1), (0, .ref b), (1, .ref (ad 14)), (2, .ref (md 0)), (3, .ref (ad 17)), (4, .int (nI i))]) hx hb dL_law_541 hl (by decide) rfl (fun ls hl => ?_)
  refine lv_aload_n hx hb dL_law_543 rfl (lv_at hl 4 rfl) ?_
  refine kc_rVi (As := []) (rest := []) ⟨hx, hb, hml, hown, hts⟩ (c_X3_thrown l D md cI 1 mK mc mD mr mw my mC mk ms mu mt mp mb me ) (cwV 0 hts gL_law_X3_thrown rfl rfl rfl (by decide +kernel) ⟨Nat.le_of_ble_eq_true rfl, Nat.le_of_ble_eq_true rfl⟩) hK hP [18, 19, 20, 21, 22, 23, 24, 25, 26, 27] [0] rfl rfl 18 rfl rfl rfl rfl hl.1 rfl (Nat.le_of_ble_eq_true rfl) dL_law_544 ⟨kc_rc (by omega), kc_rs (by omega)⟩ ?_
  refine lv_iload hx hb dL_law_547 (lv_at hl 1 rfl) ?_
  refine lv_icmp_eq (tgt := 554) hx hb dL_law_549 (by decide) (fun c_549 => ?_) (fun c_549 => absurd c_549 (by decide))
  refine lv_iload hx hb dL_law_554 (lv_at hl 1 rfl) ?_
  refine lv_if_ne (tgt := 578) hx hb dL_law_556 (by decide) (fun c_556 => ?_) (fun c_556 => absurd c_556 (by decide))
  refine lv_goto (tgt := 1633) hx hb dL_law_578 (by decide) ?_
  refine W.widen (k := cells + 2) (n := slots + 16) (by omega) (by omega) ?_
  exact K1 _ _ _ hP hD hS (lv_sub hl [2, 3, 4, 5, 6] rfl)
set_option maxHeartbeats 4000000 in
set_option maxRecDepth 100000 in
theorem lw_opens_f2_f2 {p : Program} {l : Launch} {e : Env} {s : State} {m : MethodId} {below : List Frame} {meth : Method} {c : Code} {Q : State → Prop} {b L : Nat} {xs : Nat → Int32} (hlf : l.stackTraces = false) (C0 : lw_At p s m meth c b L xs) {D : va_G} {cI cL : ClassId} (hK : kcK D [(cI, .int), (cL, .long)] s) (hX0 : kcX (fun q => s.heap.size ≤ q) s s.heap) (hL : L ≤ 2048) (i : Nat) (hi : i + 3 < L) (ad : Nat → Nat) (cd : Nat → Int32) (te : Nat → Int32) (ri : Nat → Int32) (pi : Nat → Int32) (pw : Nat → Int32) (K : Nat) (Dn : Nat) (mv : Int32) (ko : Nat → Int32) (so : Nat → Int32) (tl : Nat → Int32) (lp : Nat → Int32) (lb : Nat → Int32) (ld : Nat → Int32) (le : Nat → Int32) (C : Nat) (cl : Nat → Int32) (dq : Nat → Int32) (dy : Int32) (ou : Nat → Int64) (md : Nat → Nat) (th : Int32) (mK : Nat) (mc : Nat → Int32) (mD : Nat) (mr : Nat → Int32) (mw : Int32) (my : Int32) (mC : Nat) (mk : Nat → Int32) (ms : Nat → Int32) (mu : Nat → Int32) (mt : Nat → Int32) (mp : Nat → Int32) (mb : Nat → Int32) (me : Nat → Int32) (k : Nat) (y : Int32) (hK8 : K ≤ 8) (hk : k < K) (hBad : ¬ jIn Dn y = true) (m_hK8 : mK ≤ 8) (m_hk : k < mK) (m_hBad : ¬ jIn mD y = true) (hp1 : xs (i + 1) = nI k) (hp2 : xs (i + 2) = y)  {H : Heap} {locs : List Loc} {cells slots : Nat} (hce : cells + 2 ≤ 601024) (hsl : slots + 16 ≤ 7293034) (hP : va_P D vwCl (wLaw ad cI cd te ri pi pw K Dn mv ko so tl lp lb ld le C cl dq dy cL ou md th mK mc mD mr mw my mC mk ms mu mt mp mb me) H) (hD : va_D (fun q => s.heap.size ≤ q) (wLaw ad cI cd te ri pi pw K Dn mv ko so tl lp lb ld le C cl dq dy cL ou md th mK mc mD mr mw my mC mk ms mu mt mp mb me)) (hS : va_S (fun q => s.heap.size ≤ q) s.heap H locs) {ls : Array Slot} (hl : lv_has ls 9 [(0, .ref b), (1, .ref (ad 14)), (2, .ref (md 0)), (3, .ref (ad 17)), (4, .int (nI i))]) (K1 : ∀ (H : Heap) (locs : List Loc) (ls : Array Slot), va_P D vwCl (wLaw ad cI cd te ri pi pw K Dn mv ko so tl lp lb ld le C cl dq dy cL ou md 1 mK mc mD mr mw my mC mk ms mu mt mp mb me) H → va_D (fun q => s.heap.size ≤ q) (wLaw ad cI cd te ri pi pw K Dn mv ko so tl lp lb ld le C cl dq dy cL ou md 1 mK mc mD mr mw my mC mk ms mu mt mp mb me) → va_S (fun q => s.heap.size ≤ q) s.heap H locs → lv_has ls 9 [(0, .ref b), (1, .ref (ad 14)), (2, .ref (md 0)), (3, .ref (ad 17)), (4, .int (nI i))] → W p l e room_1 s m #[Value.ref b] below meth c H locs (cells + 2) (slots + 16) Q (F0 m 1633 ls [])) : W p l e room_1 s m #[Value.ref b] below meth c H locs cells slots Q (F0 m 506 ls []) := by
  obtain ⟨hx, hb, hr, hml, hown, hts, hXs, hbl, hlocks, hgv⟩ := id C0
  have hts := fun w h => hts w (wsL_law_in w h)
  have hb : c.code = cL_law := hb
  have hA : ∀ q : Nat, s.heap.size ≤ q → (fun q : Nat => s.heap.size ≤ q) q := fun _ h => h
  have hbA : ¬ (fun q : Nat => s.heap.size ≤ q) b := Nat.not_le.mpr hbl
  refine lv_aload_n hx hb dL_law_506 rfl (lv_at hl 1 rfl) ?_
  refine lv_aload_n hx hb dL_law_507 rfl (lv_at hl 0 rfl) ?_
  refine lv_iload hx hb dL_law_508 (lv_at hl 4 rfl) ?_
  refine lv_iconst (v := 1) hx hb dL_law_510 (by decide) ?_
  refine lv_iadd hx hb dL_law_511 ?_
  refine kc_top (show (nI i) + 1 = nI (i + 1) from nI_add _ _) ?_
  refine kc_sld (i := i + 1) hx hb hXs hbl hbA hS (by omega) (by omega) dL_law_512 ?_
  refine kc_top hp1 ?_
  refine lv_aload_n hx hb dL_law_513 rfl (lv_at hl 0 rfl) ?_
  refine lv_iload hx hb dL_law_514 (lv_at hl 4 rfl) ?_
  refine lv_iconst (v := 2) hx hb dL_law_516 (by decide) ?_
  refine lv_iadd hx hb dL_law_517 ?_
  refine kc_top (show (nI i) + 2 = nI (i + 2) from nI_add _ _) ?_
  refine kc_sld (i := i + 2) hx hb hXs hbl hbA hS (by omega) (by omega) dL_law_518 ?_
  refine kc_top hp2 ?_
  refine lv_aload_n hx hb dL_law_519 rfl (lv_at hl 3 rfl) ?_
  have hX := kc_xat hX0 hS
  refine kc_hXi (w1 := wLh ad cI cd te ri pi pw K Dn mv ko so tl lp lb ld le C cl dq dy cL ou) (wr := [(md 0, .inr (3, [.int th, .int (nI mK), .ref (md 1), .int (nI mD), .ref (md 2), .int mw, .int my, .int (nI mC), .ref (md 3), .ref (md 4), .ref (md 5), .ref (md 6), .ref (md 7), .ref (md 8), .ref (md 9)])), (md 1, .inl (cI, 8, .inl mc)), (md 2, .inl (cI, 8, .inl mr)), (md 3, .inl (cI, 24, .inl mk)), (md 4, .inl (cI, 24, .inl ms)), (md 5, .inl (cI, 24, .inl mu)), (md 6, .inl (cI, 24, .inl mt)), (md 7, .inl (cI, 216, .inl mp)), (md 8, .inl (cI, 216, .inl mb)), (md 9, .inl (cI, 216, .inl me))]) (ws1 := wLaw ad cI cd te ri pi pw K Dn mv ko so tl lp lb ld le C cl dq dy cL ou md th mK mc mD mr mw my mC mk ms mu mt mp mb me) (As := [.ref (ad 14), .int (nI k), .int y, .ref (ad 17)]) (rest := []) ⟨hx, hb, hml, hown, hts⟩ (c_L_opens_f2 l hlf D ad cI cd te ri pi pw K Dn mv ko so tl lp lb ld le C cl dq dy cL ou k y H.size hK8 hk hBad) (vx_cwSW 4 hts gL_law_L_opens rfl rfl rfl (by decide +kernel) ⟨Nat.le_of_ble_eq_true rfl, Nat.le_of_ble_eq_true rfl⟩) hK hP hD hX hS hA [0, 1, 2, 3, 4, 5, 6, 7, 8, 9, 10, 11, 12, 13, 14, 15, 16, 17] [18, 19, 20, 21, 22, 23, 24, 25, 26, 27] [10, 11, 12, 13, 14, 15, 16, 17, 18, 19, 20, 21, 22, 23, 24, 25, 26, 27, 0, 1, 2, 3, 4, 5, 6, 7, 8, 9] [0, 1] rfl rfl rfl rfl (by decide) rfl rfl rfl rfl hl.1 rfl (Nat.le_of_ble_eq_true rfl) dL_law_520 ⟨kc_rc (by omega), kc_rs (by omega)⟩ (fun H locs hP hD hS => ?_)
  refine lv_istore (lv' := [(5, .int 1), (0, .ref b), (1, .ref (ad 14)), (2, .ref (md 0)), (3, .ref (ad 17)), (4, .int (nI i))]) hx hb dL_law_523 hl (by decide) rfl (fun ls hl => ?_)
  refine lv_aload_n hx hb dL_law_525 rfl (lv_at hl 3 rfl) ?_
  refine lv_aload_n hx hb dL_law_526 rfl (lv_at hl 1 rfl) ?_
  refine lv_iload hx hb dL_law_527 (lv_at hl 5 rfl) ?_
  refine lv_iconst (v := 1) hx hb dL_law_529 (by decide) ?_
  refine lv_iadd hx hb dL_law_530 ?_
  refine kc_top (show (nI i) + 1 = nI (i + 1) from nI_add _ _) ?_
  refine kc_sld (i := i + 1) hx hb hXs hbl hbA hS (by omega) (by omega) dL_law_531 ?_
  refine kc_top hp1 ?_
  refine lv_aload_n hx hb dL_law_532 rfl (lv_at hl 1 rfl) ?_
  refine lv_iload hx hb dL_law_533 (lv_at hl 5 rfl) ?_
  refine lv_iconst (v := 2) hx hb dL_law_535 (by decide) ?_
  refine lv_iadd hx hb dL_law_536 ?_
  refine kc_top (show (nI i) + 2 = nI (i + 2) from nI_add _ _) ?_
  refine kc_sld (i := i + 2) hx hb hXs hbl hbA hS (by omega) (by omega) dL_law_537 ?_
  refine kc_top hp2 ?_
  refine kc_wVi (w1 := wMd md cI 1 mK mc mD mr mw my mC mk ms mu mt mp mb me) (wr := [(ad 0, .inr (1, [.ref (ad 1), .ref (ad 2), .ref (ad 3), .ref (ad 4), .ref (ad 5), .int (nI K), .int (nI Dn), .int mv])), (ad 1, .inl (cI, 8, .inl cd)), (ad 2, .inl (cI, 8, .inl te)), (ad 3, .inl (cI, 8, .inl ri)), (ad 4, .inl (cI, 8, .inl pi)), (ad 5, .inl (cI, 8, .inl pw)), (ad 6, .inr (0, [.ref (ad 7), .ref (ad 8), .ref (ad 9), .ref (ad 10), .ref (ad 11), .ref (ad 12), .ref (ad 13), .int (nI C)])), (ad 7, .inl (cI, 24, .inl ko)), (ad 8, .inl (cI, 24, .inl so)), (ad 9, .inl (cI, 24, .inl tl)), (ad 10, .inl (cI, 216, .inl lp)), (ad 11, .inl (cI, 216, .inl lb)), (ad 12, .inl (cI, 216, .inl ld)), (ad 13, .inl (cI, 216, .inl le)), (ad 14, .inr (2, [.ref (ad 0), .ref (ad 6), .ref (ad 15), .ref (ad 16), .int dy])), (ad 15, .inl (cI, 8, .inl cl)), (ad 16, .inl (cI, 8, .inl dq)), (ad 17, .inl (cL, 1, .inr (.inl ou)))]) (ws1 := wLaw ad cI cd te ri pi pw K Dn mv ko so tl lp lb ld le C cl dq dy cL ou md 1 mK mc mD mr mw my mC mk ms mu mt mp mb me) (As := [.int (nI k), .int y]) (rest := []) ⟨hx, hb, hml, hown, hts⟩ (c_X3_opens_f2 l D md cI th mK mc mD mr mw my mC mk ms mu mt mp mb me k y H.size m_hK8 m_hk m_hBad) (cwV 2 hts gL_law_X3_opens rfl rfl rfl (by decide +kernel) ⟨Nat.le_of_ble_eq_true rfl, Nat.le_of_ble_eq_true rfl⟩) hK hP hD hS hA [18, 19, 20, 21, 22, 23, 24, 25, 26, 27] [0, 1, 2, 3, 4, 5, 6, 7, 8, 9, 10, 11, 12, 13, 14, 15, 16, 17] [0, 1, 2, 3, 4, 5, 6, 7, 8, 9, 10, 11, 12, 13, 14, 15, 16, 17, 18, 19, 20, 21, 22, 23, 24, 25, 26, 27] [0] rfl rfl rfl rfl (by decide) rfl rfl rfl 18 rfl rfl rfl rfl hl.1 rfl (Nat.le_of_ble_eq_true rfl) dL_law_538 ⟨kc_rc (by omega), kc_rs (by omega)⟩ (fun H locs hP hD hS => ?_)
  refine lv_istore (lv' := [(6, .int 0), (5, .int 1), (0, .ref b), (1, .ref (ad 14)), (2, .ref (md 0)), (3, .ref (ad 17)), (4, .int (nI i))]) hx hb dL_law_541 hl (by decide) rfl (fun ls hl => ?_)
  refine lv_aload_n hx hb dL_law_543 rfl (lv_at hl 4 rfl) ?_
  refine kc_rVi (As := []) (rest := []) ⟨hx, hb, hml, hown, hts⟩ (c_X3_thrown l D md cI 1 mK mc mD mr mw my mC mk ms mu mt mp mb me ) (cwV 0 hts gL_law_X3_thrown rfl rfl rfl (by decide +kernel) ⟨Nat.le_of_ble_eq_true rfl, Nat.le_of_ble_eq_true rfl⟩) hK hP [18, 19, 20, 21, 22, 23, 24, 25, 26, 27] [0] rfl rfl 18 rfl rfl rfl rfl hl.1 rfl (Nat.le_of_ble_eq_true rfl) dL_law_544 ⟨kc_rc (by omega), kc_rs (by omega)⟩ ?_
  refine lv_iload hx hb dL_law_547 (lv_at hl 1 rfl) ?_
  refine lv_icmp_eq (tgt := 554) hx hb dL_law_549 (by decide) (fun c_549 => ?_) (fun c_549 => absurd c_549 (by decide))
  refine lv_iload hx hb dL_law_554 (lv_at hl 1 rfl) ?_
  refine lv_if_ne (tgt := 578) hx hb dL_law_556 (by decide) (fun c_556 => ?_) (fun c_556 => absurd c_556 (by decide))
  refine lv_goto (tgt := 1633) hx hb dL_law_578 (by decide) ?_
  refine W.widen (k := cells + 2) (n := slots + 16) (by omega) (by omega) ?_
  exact K1 _ _ _ hP hD hS (lv_sub hl [2, 3, 4, 5, 6] rfl)
set_option maxHeartbeats 4000000 in
set_option maxRecDepth 100000 in
theorem lw_openers_ok_ok {p : Program} {l : Launch} {e : Env} {s : State} {m : MethodId} {below : List Frame} {meth : Method} {c : Code} {Q : State → Prop} {b L : Nat} {xs : Nat → Int32} (hlf : l.stackTraces = false) (C0 : lw_At p s m meth c b L xs) {D : va_G} {cI cL : ClassId} (hK : kcK D [(cI, .int), (cL, .long)] s) (hX0 : kcX (fun q => s.heap.size ≤ q) s s.heap) (hL : L ≤ 2048) (i : Nat) (hi : i + 3 < L) (ad : Nat → Nat) (cd : Nat → Int32) (te : Nat → Int32) (ri : Nat → Int32) (pi : Nat → Int32) (pw : Nat → Int32) (K : Nat) (Dn : Nat) (mv : Int32) (ko : Nat → Int32) (so : Nat → Int32) (tl : Nat → Int32) (lp : Nat → Int32) (lb : Nat → Int32) (ld : Nat → Int32) (le : Nat → Int32) (C : Nat) (cl : Nat → Int32) (dq : Nat → Int32) (dy : Int32) (ou : Nat → Int64) (md : Nat → Nat) (th : Int32) (mK : Nat) (mc : Nat → Int32) (mD : Nat) (mr : Nat → Int32) (mw : Int32) (my : Int32) (mC : Nat) (mk : Nat → Int32) (ms : Nat → Int32) (mu : Nat → Int32) (mt : Nat → Int32) (mp : Nat → Int32) (mb : Nat → Int32) (me : Nat → Int32) (d : Nat) (hK8 : K ≤ 8) (hD8 : Dn ≤ 8) (hd : d < Dn) (m_hK8 : mK ≤ 8) (m_hD8 : mD ≤ 8) (m_hd : d < mD) (hp1 : xs (i + 1) = nI d) (hres : (jOpeners pi te d K : Int32) = (mOpeners mr mc mK d mK)) {H : Heap} {locs : List Loc} {cells slots : Nat} (hce : cells + 2 ≤ 601024) (hsl : slots + 16 ≤ 7293034) (hP : va_P D vwCl (wLaw ad cI cd te ri pi pw K Dn mv ko so tl lp lb ld le C cl dq dy cL ou md th mK mc mD mr mw my mC mk ms mu mt mp mb me) H) (hD : va_D (fun q => s.heap.size ≤ q) (wLaw ad cI cd te ri pi pw K Dn mv ko so tl lp lb ld le C cl dq dy cL ou md th mK mc mD mr mw my mC mk ms mu mt mp mb me)) (hS : va_S (fun q => s.heap.size ≤ q) s.heap H locs) {ls : Array Slot} (hl : lv_has ls 9 [(0, .ref b), (1, .ref (ad 14)), (2, .ref (md 0)), (3, .ref (ad 17)), (4, .int (nI i))]) (K1 : ∀ (H : Heap) (locs : List Loc) (ls : Array Slot), va_P D vwCl (wLaw ad cI cd te ri pi pw K Dn mv ko so tl lp lb ld le C cl dq dy cL (vp_updL ou 0 (Int32.toInt64 (jOpeners pi te d K))) md 0 mK mc mD mr mw my mC mk ms mu mt mp mb me) H → va_D (fun q => s.heap.size ≤ q) (wLaw ad cI cd te ri pi pw K Dn mv ko so tl lp lb ld le C cl dq dy cL (vp_updL ou 0 (Int32.toInt64 (jOpeners pi te d K))) md 0 mK mc mD mr mw my mC mk ms mu mt mp mb me) → va_S (fun q => s.heap.size ≤ q) s.heap H locs → lv_has ls 9 [(0, .ref b), (1, .ref (ad 14)), (2, .ref (md 0)), (3, .ref (ad 17)), (4, .int (nI i))] → W p l e room_1 s m #[Value.ref b] below meth c H locs (cells + 2) (slots + 16) Q (F0 m 1633 ls [])) : W p l e room_1 s m #[Value.ref b] below meth c H locs cells slots Q (F0 m 581 ls []) := by
  obtain ⟨hx, hb, hr, hml, hown, hts, hXs, hbl, hlocks, hgv⟩ := id C0
  have hts := fun w h => hts w (wsL_law_in w h)
  have hb : c.code = cL_law := hb
  have hA : ∀ q : Nat, s.heap.size ≤ q → (fun q : Nat => s.heap.size ≤ q) q := fun _ h => h
  have hbA : ¬ (fun q : Nat => s.heap.size ≤ q) b := Nat.not_le.mpr hbl
  refine lv_aload_n hx hb dL_law_581 rfl (lv_at hl 1 rfl) ?_
  refine lv_aload_n hx hb dL_law_582 rfl (lv_at hl 0 rfl) ?_
  refine lv_iload hx hb dL_law_583 (lv_at hl 4 rfl) ?_
  refine lv_iconst (v := 1) hx hb dL_law_585 (by decide) ?_
  refine lv_iadd hx hb dL_law_586 ?_
  refine kc_top (show (nI i) + 1 = nI (i + 1) from nI_add _ _) ?_
  refine kc_sld (i := i + 1) hx hb hXs hbl hbA hS (by omega) (by omega) dL_law_587 ?_
  refine kc_top hp1 ?_
  refine lv_aload_n hx hb dL_law_588 rfl (lv_at hl 3 rfl) ?_
  refine kc_hSi (w1 := wLh ad cI cd te ri pi pw K Dn mv ko so tl lp lb ld le C cl dq dy cL (vp_updL ou 0 (Int32.toInt64 (jOpeners pi te d K)))) (wr := [(md 0, .inr (3, [.int th, .int (nI mK), .ref (md 1), .int (nI mD), .ref (md 2), .int mw, .int my, .int (nI mC), .ref (md 3), .ref (md 4), .ref (md 5), .ref (md 6), .ref (md 7), .ref (md 8), .ref (md 9)])), (md 1, .inl (cI, 8, .inl mc)), (md 2, .inl (cI, 8, .inl mr)), (md 3, .inl (cI, 24, .inl mk)), (md 4, .inl (cI, 24, .inl ms)), (md 5, .inl (cI, 24, .inl mu)), (md 6, .inl (cI, 24, .inl mt)), (md 7, .inl (cI, 216, .inl mp)), (md 8, .inl (cI, 216, .inl mb)), (md 9, .inl (cI, 216, .inl me))]) (ws1 := wLaw ad cI cd te ri pi pw K Dn mv ko so tl lp lb ld le C cl dq dy cL (vp_updL ou 0 (Int32.toInt64 (jOpeners pi te d K))) md th mK mc mD mr mw my mC mk ms mu mt mp mb me) (As := [.ref (ad 14), .int (nI d), .ref (ad 17)]) (rest := []) ⟨hx, hb, hml, hown, hts⟩ (c_L_openers_ok l D ad cI cd te ri pi pw K Dn mv ko so tl lp lb ld le C cl dq dy cL ou d H.size hK8 hD8 hd) (vx_cwSW 3 hts gL_law_L_openers rfl rfl rfl (by decide +kernel) ⟨Nat.le_of_ble_eq_true rfl, Nat.le_of_ble_eq_true rfl⟩) hK hP hD hS hA [0, 1, 2, 3, 4, 5, 6, 7, 8, 9, 10, 11, 12, 13, 14, 15, 16, 17] [18, 19, 20, 21, 22, 23, 24, 25, 26, 27] [10, 11, 12, 13, 14, 15, 16, 17, 18, 19, 20, 21, 22, 23, 24, 25, 26, 27, 0, 1, 2, 3, 4, 5, 6, 7, 8, 9] [0, 1] rfl rfl rfl rfl (by decide) rfl rfl rfl rfl hl.1 rfl (Nat.le_of_ble_eq_true rfl) dL_law_589 ⟨kc_rc (by omega), kc_rs (by omega)⟩ (fun H locs hP hD hS => ?_)
  refine lv_istore (lv' := [(5, .int 0), (0, .ref b), (1, .ref (ad 14)), (2, .ref (md 0)), (3, .ref (ad 17)), (4, .int (nI i))]) hx hb dL_law_592 hl (by decide) rfl (fun ls hl => ?_)
  refine lv_aload_n hx hb dL_law_594 rfl (lv_at hl 3 rfl) ?_
  refine lv_aload_n hx hb dL_law_595 rfl (lv_at hl 1 rfl) ?_
  refine lv_iload hx hb dL_law_596 (lv_at hl 5 rfl) ?_
  refine lv_iconst (v := 1) hx hb dL_law_598 (by decide) ?_
  refine lv_iadd hx hb dL_law_599 ?_
  refine kc_top (show (nI i) + 1 = nI (i + 1) from nI_add _ _) ?_
  refine kc_sld (i := i + 1) hx hb hXs hbl hbA hS (by omega) (by omega) dL_law_600 ?_
  refine kc_top hp1 ?_
  refine kc_wVi (w1 := wMd md cI 0 mK mc mD mr mw my mC mk ms mu mt mp mb me) (wr := [(ad 0, .inr (1, [.ref (ad 1), .ref (ad 2), .ref (ad 3), .ref (ad 4), .ref (ad 5), .int (nI K), .int (nI Dn), .int mv])), (ad 1, .inl (cI, 8, .inl cd)), (ad 2, .inl (cI, 8, .inl te)), (ad 3, .inl (cI, 8, .inl ri)), (ad 4, .inl (cI, 8, .inl pi)), (ad 5, .inl (cI, 8, .inl pw)), (ad 6, .inr (0, [.ref (ad 7), .ref (ad 8), .ref (ad 9), .ref (ad 10), .ref (ad 11), .ref (ad 12), .ref (ad 13), .int (nI C)])), (ad 7, .inl (cI, 24, .inl ko)), (ad 8, .inl (cI, 24, .inl so)), (ad 9, .inl (cI, 24, .inl tl)), (ad 10, .inl (cI, 216, .inl lp)), (ad 11, .inl (cI, 216, .inl lb)), (ad 12, .inl (cI, 216, .inl ld)), (ad 13, .inl (cI, 216, .inl le)), (ad 14, .inr (2, [.ref (ad 0), .ref (ad 6), .ref (ad 15), .ref (ad 16), .int dy])), (ad 15, .inl (cI, 8, .inl cl)), (ad 16, .inl (cI, 8, .inl dq)), (ad 17, .inl (cL, 1, .inr (.inl (vp_updL ou 0 (Int32.toInt64 (jOpeners pi te d K))))))]) (ws1 := wLaw ad cI cd te ri pi pw K Dn mv ko so tl lp lb ld le C cl dq dy cL (vp_updL ou 0 (Int32.toInt64 (jOpeners pi te d K))) md 0 mK mc mD mr mw my mC mk ms mu mt mp mb me) (As := [.int (nI d)]) (rest := []) ⟨hx, hb, hml, hown, hts⟩ (c_X3_openers_ok l D md cI th mK mc mD mr mw my mC mk ms mu mt mp mb me d H.size m_hK8 m_hD8 m_hd) (cwV 1 hts gL_law_X3_openers rfl rfl rfl (by decide +kernel) ⟨Nat.le_of_ble_eq_true rfl, Nat.le_of_ble_eq_true rfl⟩) hK hP hD hS hA [18, 19, 20, 21, 22, 23, 24, 25, 26, 27] [0, 1, 2, 3, 4, 5, 6, 7, 8, 9, 10, 11, 12, 13, 14, 15, 16, 17] [0, 1, 2, 3, 4, 5, 6, 7, 8, 9, 10, 11, 12, 13, 14, 15, 16, 17, 18, 19, 20, 21, 22, 23, 24, 25, 26, 27] [0] rfl rfl rfl rfl (by decide) rfl rfl rfl 18 rfl rfl rfl rfl hl.1 rfl (Nat.le_of_ble_eq_true rfl) dL_law_601 ⟨kc_rc (by omega), kc_rs (by omega)⟩ (fun H locs hP hD hS => ?_)
  refine lv_istore (lv' := [(6, .int (mOpeners mr mc mK d mK)), (5, .int 0), (0, .ref b), (1, .ref (ad 14)), (2, .ref (md 0)), (3, .ref (ad 17)), (4, .int (nI i))]) hx hb dL_law_604 hl (by decide) rfl (fun ls hl => ?_)
  refine lv_aload_n hx hb dL_law_606 rfl (lv_at hl 4 rfl) ?_
  refine kc_rVi (As := []) (rest := []) ⟨hx, hb, hml, hown, hts⟩ (c_X3_thrown l D md cI 0 mK mc mD mr mw my mC mk ms mu mt mp mb me ) (cwV 0 hts gL_law_X3_thrown rfl rfl rfl (by decide +kernel) ⟨Nat.le_of_ble_eq_true rfl, Nat.le_of_ble_eq_true rfl⟩) hK hP [18, 19, 20, 21, 22, 23, 24, 25, 26, 27] [0] rfl rfl 18 rfl rfl rfl rfl hl.1 rfl (Nat.le_of_ble_eq_true rfl) dL_law_607 ⟨kc_rc (by omega), kc_rs (by omega)⟩ ?_
  refine lv_iload hx hb dL_law_610 (lv_at hl 1 rfl) ?_
  refine lv_icmp_eq (tgt := 617) hx hb dL_law_612 (by decide) (fun c_612 => ?_) (fun c_612 => absurd c_612 (by decide))
  refine lv_iload hx hb dL_law_617 (lv_at hl 1 rfl) ?_
  refine lv_if_ne (tgt := 634) hx hb dL_law_619 (by decide) (fun c_619 => absurd c_619 (by decide)) (fun c_619 => ?_)
  refine lv_aload_n hx hb dL_law_622 rfl (lv_at hl 5 rfl) ?_
  refine lv_iconst (v := 0) hx hb dL_law_623 (by decide) ?_
  refine kc_lld (i := 0) (n := 1) hx hb hK hP 17 1 rfl rfl (by decide) (by decide) dL_law_624 ?_
  refine kc_topl (show ((vp_updL ou 0 (Int32.toInt64 (jOpeners pi te d K)))) 0 = Int32.toInt64 (jOpeners pi te d K) from pk_uLs) ?_
  refine lv_iload hx hb dL_law_625 (lv_at hl 0 rfl) ?_
  refine lv_i2l (v := Int32.toInt64 (mOpeners mr mc mK d mK)) hx hb dL_law_627 rfl ?_
  refine W.lcmp hx hb dL_law_628 ?_
  refine kc_top (show lg_cmp (Int32.toInt64 (jOpeners pi te d K)) (Int32.toInt64 (mOpeners mr mc mK d mK)) = 0 from kc_lcmp0 (congrArg Int32.toInt64 hres)) ?_
  refine lv_if_eq (tgt := 634) hx hb dL_law_629 (by decide) (fun c_629 => ?_) (fun c_629 => absurd c_629 (by decide))
  refine lv_goto (tgt := 1633) hx hb dL_law_634 (by decide) ?_
  refine W.widen (k := cells + 2) (n := slots + 16) (by omega) (by omega) ?_
  exact K1 _ _ _ hP hD hS (lv_sub hl [2, 3, 4, 5, 6] rfl)
set_option maxHeartbeats 4000000 in
set_option maxRecDepth 100000 in
theorem lw_openers_f1_f1 {p : Program} {l : Launch} {e : Env} {s : State} {m : MethodId} {below : List Frame} {meth : Method} {c : Code} {Q : State → Prop} {b L : Nat} {xs : Nat → Int32} (hlf : l.stackTraces = false) (C0 : lw_At p s m meth c b L xs) {D : va_G} {cI cL : ClassId} (hK : kcK D [(cI, .int), (cL, .long)] s) (hX0 : kcX (fun q => s.heap.size ≤ q) s s.heap) (hL : L ≤ 2048) (i : Nat) (hi : i + 3 < L) (ad : Nat → Nat) (cd : Nat → Int32) (te : Nat → Int32) (ri : Nat → Int32) (pi : Nat → Int32) (pw : Nat → Int32) (K : Nat) (Dn : Nat) (mv : Int32) (ko : Nat → Int32) (so : Nat → Int32) (tl : Nat → Int32) (lp : Nat → Int32) (lb : Nat → Int32) (ld : Nat → Int32) (le : Nat → Int32) (C : Nat) (cl : Nat → Int32) (dq : Nat → Int32) (dy : Int32) (ou : Nat → Int64) (md : Nat → Nat) (th : Int32) (mK : Nat) (mc : Nat → Int32) (mD : Nat) (mr : Nat → Int32) (mw : Int32) (my : Int32) (mC : Nat) (mk : Nat → Int32) (ms : Nat → Int32) (mu : Nat → Int32) (mt : Nat → Int32) (mp : Nat → Int32) (mb : Nat → Int32) (me : Nat → Int32) (x : Int32) (hBad : ¬ jIn Dn x = true) (m_hBad : ¬ jIn mD x = true) (hp1 : xs (i + 1) = x)  {H : Heap} {locs : List Loc} {cells slots : Nat} (hce : cells + 2 ≤ 601024) (hsl : slots + 16 ≤ 7293034) (hP : va_P D vwCl (wLaw ad cI cd te ri pi pw K Dn mv ko so tl lp lb ld le C cl dq dy cL ou md th mK mc mD mr mw my mC mk ms mu mt mp mb me) H) (hD : va_D (fun q => s.heap.size ≤ q) (wLaw ad cI cd te ri pi pw K Dn mv ko so tl lp lb ld le C cl dq dy cL ou md th mK mc mD mr mw my mC mk ms mu mt mp mb me)) (hS : va_S (fun q => s.heap.size ≤ q) s.heap H locs) {ls : Array Slot} (hl : lv_has ls 9 [(0, .ref b), (1, .ref (ad 14)), (2, .ref (md 0)), (3, .ref (ad 17)), (4, .int (nI i))]) (K1 : ∀ (H : Heap) (locs : List Loc) (ls : Array Slot), va_P D vwCl (wLaw ad cI cd te ri pi pw K Dn mv ko so tl lp lb ld le C cl dq dy cL ou md 1 mK mc mD mr mw my mC mk ms mu mt mp mb me) H → va_D (fun q => s.heap.size ≤ q) (wLaw ad cI cd te ri pi pw K Dn mv ko so tl lp lb ld le C cl dq dy cL ou md 1 mK mc mD mr mw my mC mk ms mu mt mp mb me) → va_S (fun q => s.heap.size ≤ q) s.heap H locs → lv_has ls 9 [(0, .ref b), (1, .ref (ad 14)), (2, .ref (md 0)), (3, .ref (ad 17)), (4, .int (nI i))] → W p l e room_1 s m #[Value.ref b] below meth c H locs (cells + 2) (slots + 16) Q (F0 m 1633 ls [])) : W p l e room_1 s m #[Value.ref b] below meth c H locs cells slots Q (F0 m 581 ls []) := by
  obtain ⟨hx, hb, hr, hml, hown, hts, hXs, hbl, hlocks, hgv⟩ := id C0
  have hts := fun w h => hts w (wsL_law_in w h)
  have hb : c.code = cL_law := hb
  have hA : ∀ q : Nat, s.heap.size ≤ q → (fun q : Nat => s.heap.size ≤ q) q := fun _ h => h
  have hbA : ¬ (fun q : Nat => s.heap.size ≤ q) b := Nat.not_le.mpr hbl
  refine lv_aload_n hx hb dL_law_581 rfl (lv_at hl 1 rfl) ?_
  refine lv_aload_n hx hb dL_law_582 rfl (lv_at hl 0 rfl) ?_
  refine lv_iload hx hb dL_law_583 (lv_at hl 4 rfl) ?_
  refine lv_iconst (v := 1) hx hb dL_law_585 (by decide) ?_
  refine lv_iadd hx hb dL_law_586 ?_
  refine kc_top (show (nI i) + 1 = nI (i + 1) from nI_add _ _) ?_
  refine kc_sld (i := i + 1) hx hb hXs hbl hbA hS (by omega) (by omega) dL_law_587 ?_
  refine kc_top hp1 ?_
  refine lv_aload_n hx hb dL_law_588 rfl (lv_at hl 3 rfl) ?_
  have hX := kc_xat hX0 hS
  refine kc_hXi (w1 := wLh ad cI cd te ri pi pw K Dn mv ko so tl lp lb ld le C cl dq dy cL ou) (wr := [(md 0, .inr (3, [.int th, .int (nI mK), .ref (md 1), .int (nI mD), .ref (md 2), .int mw, .int my, .int (nI mC), .ref (md 3), .ref (md 4), .ref (md 5), .ref (md 6), .ref (md 7), .ref (md 8), .ref (md 9)])), (md 1, .inl (cI, 8, .inl mc)), (md 2, .inl (cI, 8, .inl mr)), (md 3, .inl (cI, 24, .inl mk)), (md 4, .inl (cI, 24, .inl ms)), (md 5, .inl (cI, 24, .inl mu)), (md 6, .inl (cI, 24, .inl mt)), (md 7, .inl (cI, 216, .inl mp)), (md 8, .inl (cI, 216, .inl mb)), (md 9, .inl (cI, 216, .inl me))]) (ws1 := wLaw ad cI cd te ri pi pw K Dn mv ko so tl lp lb ld le C cl dq dy cL ou md th mK mc mD mr mw my mC mk ms mu mt mp mb me) (As := [.ref (ad 14), .int x, .ref (ad 17)]) (rest := []) ⟨hx, hb, hml, hown, hts⟩ (c_L_openers_f1 l hlf D ad cI cd te ri pi pw K Dn mv ko so tl lp lb ld le C cl dq dy cL ou x H.size hBad) (vx_cwSW 3 hts gL_law_L_openers rfl rfl rfl (by decide +kernel) ⟨Nat.le_of_ble_eq_true rfl, Nat.le_of_ble_eq_true rfl⟩) hK hP hD hX hS hA [0, 1, 2, 3, 4, 5, 6, 7, 8, 9, 10, 11, 12, 13, 14, 15, 16, 17] [18, 19, 20, 21, 22, 23, 24, 25, 26, 27] [10, 11, 12, 13, 14, 15, 16, 17, 18, 19, 20, 21, 22, 23, 24, 25, 26, 27, 0, 1, 2, 3, 4, 5, 6, 7, 8, 9] [0, 1] rfl rfl rfl rfl (by decide) rfl rfl rfl rfl hl.1 rfl (Nat.le_of_ble_eq_true rfl) dL_law_589 ⟨kc_rc (by omega), kc_rs (by omega)⟩ (fun H locs hP hD hS => ?_)
  refine lv_istore (lv' := [(5, .int 1), (0, .ref b), (1, .ref (ad 14)), (2, .ref (md 0)), (3, .ref (ad 17)), (4, .int (nI i))]) hx hb dL_law_592 hl (by decide) rfl (fun ls hl => ?_)
  refine lv_aload_n hx hb dL_law_594 rfl (lv_at hl 3 rfl) ?_
  refine lv_aload_n hx hb dL_law_595 rfl (lv_at hl 1 rfl) ?_
  refine lv_iload hx hb dL_law_596 (lv_at hl 5 rfl) ?_
  refine lv_iconst (v := 1) hx hb dL_law_598 (by decide) ?_
  refine lv_iadd hx hb dL_law_599 ?_
  refine kc_top (show (nI i) + 1 = nI (i + 1) from nI_add _ _) ?_
  refine kc_sld (i := i + 1) hx hb hXs hbl hbA hS (by omega) (by omega) dL_law_600 ?_
  refine kc_top hp1 ?_
  refine kc_wVi (w1 := wMd md cI 1 mK mc mD mr mw my mC mk ms mu mt mp mb me) (wr := [(ad 0, .inr (1, [.ref (ad 1), .ref (ad 2), .ref (ad 3), .ref (ad 4), .ref (ad 5), .int (nI K), .int (nI Dn), .int mv])), (ad 1, .inl (cI, 8, .inl cd)), (ad 2, .inl (cI, 8, .inl te)), (ad 3, .inl (cI, 8, .inl ri)), (ad 4, .inl (cI, 8, .inl pi)), (ad 5, .inl (cI, 8, .inl pw)), (ad 6, .inr (0, [.ref (ad 7), .ref (ad 8), .ref (ad 9), .ref (ad 10), .ref (ad 11), .ref (ad 12), .ref (ad 13), .int (nI C)])), (ad 7, .inl (cI, 24, .inl ko)), (ad 8, .inl (cI, 24, .inl so)), (ad 9, .inl (cI, 24, .inl tl)), (ad 10, .inl (cI, 216, .inl lp)), (ad 11, .inl (cI, 216, .inl lb)), (ad 12, .inl (cI, 216, .inl ld)), (ad 13, .inl (cI, 216, .inl le)), (ad 14, .inr (2, [.ref (ad 0), .ref (ad 6), .ref (ad 15), .ref (ad 16), .int dy])), (ad 15, .inl (cI, 8, .inl cl)), (ad 16, .inl (cI, 8, .inl dq)), (ad 17, .inl (cL, 1, .inr (.inl ou)))]) (ws1 := wLaw ad cI cd te ri pi pw K Dn mv ko so tl lp lb ld le C cl dq dy cL ou md 1 mK mc mD mr mw my mC mk ms mu mt mp mb me) (As := [.int x]) (rest := []) ⟨hx, hb, hml, hown, hts⟩ (c_X3_openers_f1 l D md cI th mK mc mD mr mw my mC mk ms mu mt mp mb me x H.size m_hBad) (cwV 1 hts gL_law_X3_openers rfl rfl rfl (by decide +kernel) ⟨Nat.le_of_ble_eq_true rfl, Nat.le_of_ble_eq_true rfl⟩) hK hP hD hS hA [18, 19, 20, 21, 22, 23, 24, 25, 26, 27] [0, 1, 2, 3, 4, 5, 6, 7, 8, 9, 10, 11, 12, 13, 14, 15, 16, 17] [0, 1, 2, 3, 4, 5, 6, 7, 8, 9, 10, 11, 12, 13, 14, 15, 16, 17, 18, 19, 20, 21, 22, 23, 24, 25, 26, 27] [0] rfl rfl rfl rfl (by decide) rfl rfl rfl 18 rfl rfl rfl rfl hl.1 rfl (Nat.le_of_ble_eq_true rfl) dL_law_601 ⟨kc_rc (by omega), kc_rs (by omega)⟩ (fun H locs hP hD hS => ?_)
  refine lv_istore (lv' := [(6, .int 0), (5, .int 1), (0, .ref b), (1, .ref (ad 14)), (2, .ref (md 0)), (3, .ref (ad 17)), (4, .int (nI i))]) hx hb dL_law_604 hl (by decide) rfl (fun ls hl => ?_)
  refine lv_aload_n hx hb dL_law_606 rfl (lv_at hl 4 rfl) ?_
  refine kc_rVi (As := []) (rest := []) ⟨hx, hb, hml, hown, hts⟩ (c_X3_thrown l D md cI 1 mK mc mD mr mw my mC mk ms mu mt mp mb me ) (cwV 0 hts gL_law_X3_thrown rfl rfl rfl (by decide +kernel) ⟨Nat.le_of_ble_eq_true rfl, Nat.le_of_ble_eq_true rfl⟩) hK hP [18, 19, 20, 21, 22, 23, 24, 25, 26, 27] [0] rfl rfl 18 rfl rfl rfl rfl hl.1 rfl (Nat.le_of_ble_eq_true rfl) dL_law_607 ⟨kc_rc (by omega), kc_rs (by omega)⟩ ?_
  refine lv_iload hx hb dL_law_610 (lv_at hl 1 rfl) ?_
  refine lv_icmp_eq (tgt := 617) hx hb dL_law_612 (by decide) (fun c_612 => ?_) (fun c_612 => absurd c_612 (by decide))
  refine lv_iload hx hb dL_law_617 (lv_at hl 1 rfl) ?_
  refine lv_if_ne (tgt := 634) hx hb dL_law_619 (by decide) (fun c_619 => ?_) (fun c_619 => absurd c_619 (by decide))
  refine lv_goto (tgt := 1633) hx hb dL_law_634 (by decide) ?_
  refine W.widen (k := cells + 2) (n := slots + 16) (by omega) (by omega) ?_
  exact K1 _ _ _ hP hD hS (lv_sub hl [2, 3, 4, 5, 6] rfl)
set_option maxHeartbeats 4000000 in
set_option maxRecDepth 100000 in
theorem lw_doors_ok_ok {p : Program} {l : Launch} {e : Env} {s : State} {m : MethodId} {below : List Frame} {meth : Method} {c : Code} {Q : State → Prop} {b L : Nat} {xs : Nat → Int32} (hlf : l.stackTraces = false) (C0 : lw_At p s m meth c b L xs) {D : va_G} {cI cL : ClassId} (hK : kcK D [(cI, .int), (cL, .long)] s) (hX0 : kcX (fun q => s.heap.size ≤ q) s s.heap) (hL : L ≤ 2048) (i : Nat) (hi : i + 3 < L) (ad : Nat → Nat) (cd : Nat → Int32) (te : Nat → Int32) (ri : Nat → Int32) (pi : Nat → Int32) (pw : Nat → Int32) (K : Nat) (Dn : Nat) (mv : Int32) (ko : Nat → Int32) (so : Nat → Int32) (tl : Nat → Int32) (lp : Nat → Int32) (lb : Nat → Int32) (ld : Nat → Int32) (le : Nat → Int32) (C : Nat) (cl : Nat → Int32) (dq : Nat → Int32) (dy : Int32) (ou : Nat → Int64) (md : Nat → Nat) (th : Int32) (mK : Nat) (mc : Nat → Int32) (mD : Nat) (mr : Nat → Int32) (mw : Int32) (my : Int32) (mC : Nat) (mk : Nat → Int32) (ms : Nat → Int32) (mu : Nat → Int32) (mt : Nat → Int32) (mp : Nat → Int32) (mb : Nat → Int32) (me : Nat → Int32) (k : Nat) (hK8 : K ≤ 8) (hD8 : Dn ≤ 8) (hk : k < K) (m_hK8 : mK ≤ 8) (m_hD8 : mD ≤ 8) (m_hk : k < mK) (hp1 : xs (i + 1) = nI k) (hres : (jDoors pi te k Dn : Int32) = (mDoors mr mc mK (mc k) mD)) {H : Heap} {locs : List Loc} {cells slots : Nat} (hce : cells + 2 ≤ 601024) (hsl : slots + 16 ≤ 7293034) (hP : va_P D vwCl (wLaw ad cI cd te ri pi pw K Dn mv ko so tl lp lb ld le C cl dq dy cL ou md th mK mc mD mr mw my mC mk ms mu mt mp mb me) H) (hD : va_D (fun q => s.heap.size ≤ q) (wLaw ad cI cd te ri pi pw K Dn mv ko so tl lp lb ld le C cl dq dy cL ou md th mK mc mD mr mw my mC mk ms mu mt mp mb me)) (hS : va_S (fun q => s.heap.size ≤ q) s.heap H locs) {ls : Array Slot} (hl : lv_has ls 9 [(0, .ref b), (1, .ref (ad 14)), (2, .ref (md 0)), (3, .ref (ad 17)), (4, .int (nI i))]) (K1 : ∀ (H : Heap) (locs : List Loc) (ls : Array Slot), va_P D vwCl (wLaw ad cI cd te ri pi pw K Dn mv ko so tl lp lb ld le C cl dq dy cL (vp_updL ou 0 (Int32.toInt64 (jDoors pi te k Dn))) md 0 mK mc mD mr mw my mC mk ms mu mt mp mb me) H → va_D (fun q => s.heap.size ≤ q) (wLaw ad cI cd te ri pi pw K Dn mv ko so tl lp lb ld le C cl dq dy cL (vp_updL ou 0 (Int32.toInt64 (jDoors pi te k Dn))) md 0 mK mc mD mr mw my mC mk ms mu mt mp mb me) → va_S (fun q => s.heap.size ≤ q) s.heap H locs → lv_has ls 9 [(0, .ref b), (1, .ref (ad 14)), (2, .ref (md 0)), (3, .ref (ad 17)), (4, .int (nI i))] → W p l e room_1 s m #[Value.ref b] below meth c H locs (cells + 2) (slots + 16) Q (F0 m 1633 ls [])) : W p l e room_1 s m #[Value.ref b] below meth c H locs cells slots Q (F0 m 637 ls []) := by
  obtain ⟨hx, hb, hr, hml, hown, hts, hXs, hbl, hlocks, hgv⟩ := id C0
  have hts := fun w h => hts w (wsL_law_in w h)
  have hb : c.code = cL_law := hb
  have hA : ∀ q : Nat, s.heap.size ≤ q → (fun q : Nat => s.heap.size ≤ q) q := fun _ h => h
  have hbA : ¬ (fun q : Nat => s.heap.size ≤ q) b := Nat.not_le.mpr hbl
  refine lv_aload_n hx hb dL_law_637 rfl (lv_at hl 1 rfl) ?_
  refine lv_aload_n hx hb dL_law_638 rfl (lv_at hl 0 rfl) ?_
  refine lv_iload hx hb dL_law_639 (lv_at hl 4 rfl) ?_
  refine lv_iconst (v := 1) hx hb dL_law_641 (by decide) ?_
  refine lv_iadd hx hb dL_law_642 ?_
  refine kc_top (show (nI i) + 1 = nI (i + 1) from nI_add _ _) ?_
  refine kc_sld (i := i + 1) hx hb hXs hbl hbA hS (by omega) (by omega) dL_law_643 ?_
  refine kc_top hp1 ?_
  refine lv_aload_n hx hb dL_law_644 rfl (lv_at hl 3 rfl) ?_
  refine kc_hSi (w1 := wLh ad cI cd te ri pi pw K Dn mv ko so tl lp lb ld le C cl dq dy cL (vp_updL ou 0 (Int32.toInt64 (jDoors pi te k Dn)))) (wr := [(md 0, .inr (3, [.int th, .int (nI mK), .ref (md 1), .int (nI mD), .ref (md 2), .int mw, .int my, .int (nI mC), .ref (md 3), .ref (md 4), .ref (md 5), .ref (md 6), .ref (md 7), .ref (md 8), .ref (md 9)])), (md 1, .inl (cI, 8, .inl mc)), (md 2, .inl (cI, 8, .inl mr)), (md 3, .inl (cI, 24, .inl mk)), (md 4, .inl (cI, 24, .inl ms)), (md 5, .inl (cI, 24, .inl mu)), (md 6, .inl (cI, 24, .inl mt)), (md 7, .inl (cI, 216, .inl mp)), (md 8, .inl (cI, 216, .inl mb)), (md 9, .inl (cI, 216, .inl me))]) (ws1 := wLaw ad cI cd te ri pi pw K Dn mv ko so tl lp lb ld le C cl dq dy cL (vp_updL ou 0 (Int32.toInt64 (jDoors pi te k Dn))) md th mK mc mD mr mw my mC mk ms mu mt mp mb me) (As := [.ref (ad 14), .int (nI k), .ref (ad 17)]) (rest := []) ⟨hx, hb, hml, hown, hts⟩ (c_L_doors_ok l D ad cI cd te ri pi pw K Dn mv ko so tl lp lb ld le C cl dq dy cL ou k H.size hK8 hD8 hk) (vx_cwSW 3 hts gL_law_L_doors rfl rfl rfl (by decide +kernel) ⟨Nat.le_of_ble_eq_true rfl, Nat.le_of_ble_eq_true rfl⟩) hK hP hD hS hA [0, 1, 2, 3, 4, 5, 6, 7, 8, 9, 10, 11, 12, 13, 14, 15, 16, 17] [18, 19, 20, 21, 22, 23, 24, 25, 26, 27] [10, 11, 12, 13, 14, 15, 16, 17, 18, 19, 20, 21, 22, 23, 24, 25, 26, 27, 0, 1, 2, 3, 4, 5, 6, 7, 8, 9] [0, 1] rfl rfl rfl rfl (by decide) rfl rfl rfl rfl hl.1 rfl (Nat.le_of_ble_eq_true rfl) dL_law_645 ⟨kc_rc (by omega), kc_rs (by omega)⟩ (fun H locs hP hD hS => ?_)
  refine lv_istore (lv' := [(5, .int 0), (0, .ref b), (1, .ref (ad 14)), (2, .ref (md 0)), (3, .ref (ad 17)), (4, .int (nI i))]) hx hb dL_law_648 hl (by decide) rfl (fun ls hl => ?_)
  refine lv_aload_n hx hb dL_law_650 rfl (lv_at hl 3 rfl) ?_
  refine lv_aload_n hx hb dL_law_651 rfl (lv_at hl 1 rfl) ?_
  refine lv_iload hx hb dL_law_652 (lv_at hl 5 rfl) ?_
  refine lv_iconst (v := 1) hx hb dL_law_654 (by decide) ?_
  refine lv_iadd hx hb dL_law_655 ?_
  refine kc_top (show (nI i) + 1 = nI (i + 1) from nI_add _ _) ?_
  refine kc_sld (i := i + 1) hx hb hXs hbl hbA hS (by omega) (by omega) dL_law_656 ?_
  refine kc_top hp1 ?_
  refine kc_wVi (w1 := wMd md cI 0 mK mc mD mr mw my mC mk ms mu mt mp mb me) (wr := [(ad 0, .inr (1, [.ref (ad 1), .ref (ad 2), .ref (ad 3), .ref (ad 4), .ref (ad 5), .int (nI K), .int (nI Dn), .int mv])), (ad 1, .inl (cI, 8, .inl cd)), (ad 2, .inl (cI, 8, .inl te)), (ad 3, .inl (cI, 8, .inl ri)), (ad 4, .inl (cI, 8, .inl pi)), (ad 5, .inl (cI, 8, .inl pw)), (ad 6, .inr (0, [.ref (ad 7), .ref (ad 8), .ref (ad 9), .ref (ad 10), .ref (ad 11), .ref (ad 12), .ref (ad 13), .int (nI C)])), (ad 7, .inl (cI, 24, .inl ko)), (ad 8, .inl (cI, 24, .inl so)), (ad 9, .inl (cI, 24, .inl tl)), (ad 10, .inl (cI, 216, .inl lp)), (ad 11, .inl (cI, 216, .inl lb)), (ad 12, .inl (cI, 216, .inl ld)), (ad 13, .inl (cI, 216, .inl le)), (ad 14, .inr (2, [.ref (ad 0), .ref (ad 6), .ref (ad 15), .ref (ad 16), .int dy])), (ad 15, .inl (cI, 8, .inl cl)), (ad 16, .inl (cI, 8, .inl dq)), (ad 17, .inl (cL, 1, .inr (.inl (vp_updL ou 0 (Int32.toInt64 (jDoors pi te k Dn))))))]) (ws1 := wLaw ad cI cd te ri pi pw K Dn mv ko so tl lp lb ld le C cl dq dy cL (vp_updL ou 0 (Int32.toInt64 (jDoors pi te k Dn))) md 0 mK mc mD mr mw my mC mk ms mu mt mp mb me) (As := [.int (nI k)]) (rest := []) ⟨hx, hb, hml, hown, hts⟩ (c_X3_doors_ok l D md cI th mK mc mD mr mw my mC mk ms mu mt mp mb me k H.size m_hK8 m_hD8 m_hk) (cwV 1 hts gL_law_X3_doors rfl rfl rfl (by decide +kernel) ⟨Nat.le_of_ble_eq_true rfl, Nat.le_of_ble_eq_true rfl⟩) hK hP hD hS hA [18, 19, 20, 21, 22, 23, 24, 25, 26, 27] [0, 1, 2, 3, 4, 5, 6, 7, 8, 9, 10, 11, 12, 13, 14, 15, 16, 17] [0, 1, 2, 3, 4, 5, 6, 7, 8, 9, 10, 11, 12, 13, 14, 15, 16, 17, 18, 19, 20, 21, 22, 23, 24, 25, 26, 27] [0] rfl rfl rfl rfl (by decide) rfl rfl rfl 18 rfl rfl rfl rfl hl.1 rfl (Nat.le_of_ble_eq_true rfl) dL_law_657 ⟨kc_rc (by omega), kc_rs (by omega)⟩ (fun H locs hP hD hS => ?_)
  refine lv_istore (lv' := [(6, .int (mDoors mr mc mK (mc k) mD)), (5, .int 0), (0, .ref b), (1, .ref (ad 14)), (2, .ref (md 0)), (3, .ref (ad 17)), (4, .int (nI i))]) hx hb dL_law_660 hl (by decide) rfl (fun ls hl => ?_)
  refine lv_aload_n hx hb dL_law_662 rfl (lv_at hl 4 rfl) ?_
  refine kc_rVi (As := []) (rest := []) ⟨hx, hb, hml, hown, hts⟩ (c_X3_thrown l D md cI 0 mK mc mD mr mw my mC mk ms mu mt mp mb me ) (cwV 0 hts gL_law_X3_thrown rfl rfl rfl (by decide +kernel) ⟨Nat.le_of_ble_eq_true rfl, Nat.le_of_ble_eq_true rfl⟩) hK hP [18, 19, 20, 21, 22, 23, 24, 25, 26, 27] [0] rfl rfl 18 rfl rfl rfl rfl hl.1 rfl (Nat.le_of_ble_eq_true rfl) dL_law_663 ⟨kc_rc (by omega), kc_rs (by omega)⟩ ?_
  refine lv_iload hx hb dL_law_666 (lv_at hl 1 rfl) ?_
  refine lv_icmp_eq (tgt := 673) hx hb dL_law_668 (by decide) (fun c_668 => ?_) (fun c_668 => absurd c_668 (by decide))
  refine lv_iload hx hb dL_law_673 (lv_at hl 1 rfl) ?_
  refine lv_if_ne (tgt := 690) hx hb dL_law_675 (by decide) (fun c_675 => absurd c_675 (by decide)) (fun c_675 => ?_)
  refine lv_aload_n hx hb dL_law_678 rfl (lv_at hl 5 rfl) ?_
  refine lv_iconst (v := 0) hx hb dL_law_679 (by decide) ?_
  refine kc_lld (i := 0) (n := 1) hx hb hK hP 17 1 rfl rfl (by decide) (by decide) dL_law_680 ?_
  refine kc_topl (show ((vp_updL ou 0 (Int32.toInt64 (jDoors pi te k Dn)))) 0 = Int32.toInt64 (jDoors pi te k Dn) from pk_uLs) ?_
  refine lv_iload hx hb dL_law_681 (lv_at hl 0 rfl) ?_
  refine lv_i2l (v := Int32.toInt64 (mDoors mr mc mK (mc k) mD)) hx hb dL_law_683 rfl ?_
  refine W.lcmp hx hb dL_law_684 ?_
  refine kc_top (show lg_cmp (Int32.toInt64 (jDoors pi te k Dn)) (Int32.toInt64 (mDoors mr mc mK (mc k) mD)) = 0 from kc_lcmp0 (congrArg Int32.toInt64 hres)) ?_
  refine lv_if_eq (tgt := 690) hx hb dL_law_685 (by decide) (fun c_685 => ?_) (fun c_685 => absurd c_685 (by decide))
  refine lv_goto (tgt := 1633) hx hb dL_law_690 (by decide) ?_
  refine W.widen (k := cells + 2) (n := slots + 16) (by omega) (by omega) ?_
  exact K1 _ _ _ hP hD hS (lv_sub hl [2, 3, 4, 5, 6] rfl)
set_option maxHeartbeats 4000000 in
set_option maxRecDepth 100000 in
theorem lw_doors_f1_f1 {p : Program} {l : Launch} {e : Env} {s : State} {m : MethodId} {below : List Frame} {meth : Method} {c : Code} {Q : State → Prop} {b L : Nat} {xs : Nat → Int32} (hlf : l.stackTraces = false) (C0 : lw_At p s m meth c b L xs) {D : va_G} {cI cL : ClassId} (hK : kcK D [(cI, .int), (cL, .long)] s) (hX0 : kcX (fun q => s.heap.size ≤ q) s s.heap) (hL : L ≤ 2048) (i : Nat) (hi : i + 3 < L) (ad : Nat → Nat) (cd : Nat → Int32) (te : Nat → Int32) (ri : Nat → Int32) (pi : Nat → Int32) (pw : Nat → Int32) (K : Nat) (Dn : Nat) (mv : Int32) (ko : Nat → Int32) (so : Nat → Int32) (tl : Nat → Int32) (lp : Nat → Int32) (lb : Nat → Int32) (ld : Nat → Int32) (le : Nat → Int32) (C : Nat) (cl : Nat → Int32) (dq : Nat → Int32) (dy : Int32) (ou : Nat → Int64) (md : Nat → Nat) (th : Int32) (mK : Nat) (mc : Nat → Int32) (mD : Nat) (mr : Nat → Int32) (mw : Int32) (my : Int32) (mC : Nat) (mk : Nat → Int32) (ms : Nat → Int32) (mu : Nat → Int32) (mt : Nat → Int32) (mp : Nat → Int32) (mb : Nat → Int32) (me : Nat → Int32) (x : Int32) (hBad : ¬ jIn K x = true) (m_hBad : ¬ jIn mK x = true) (hp1 : xs (i + 1) = x)  {H : Heap} {locs : List Loc} {cells slots : Nat} (hce : cells + 2 ≤ 601024) (hsl : slots + 16 ≤ 7293034) (hP : va_P D vwCl (wLaw ad cI cd te ri pi pw K Dn mv ko so tl lp lb ld le C cl dq dy cL ou md th mK mc mD mr mw my mC mk ms mu mt mp mb me) H) (hD : va_D (fun q => s.heap.size ≤ q) (wLaw ad cI cd te ri pi pw K Dn mv ko so tl lp lb ld le C cl dq dy cL ou md th mK mc mD mr mw my mC mk ms mu mt mp mb me)) (hS : va_S (fun q => s.heap.size ≤ q) s.heap H locs) {ls : Array Slot} (hl : lv_has ls 9 [(0, .ref b), (1, .ref (ad 14)), (2, .ref (md 0)), (3, .ref (ad 17)), (4, .int (nI i))]) (K1 : ∀ (H : Heap) (locs : List Loc) (ls : Array Slot), va_P D vwCl (wLaw ad cI cd te ri pi pw K Dn mv ko so tl lp lb ld le C cl dq dy cL ou md 1 mK mc mD mr mw my mC mk ms mu mt mp mb me) H → va_D (fun q => s.heap.size ≤ q) (wLaw ad cI cd te ri pi pw K Dn mv ko so tl lp lb ld le C cl dq dy cL ou md 1 mK mc mD mr mw my mC mk ms mu mt mp mb me) → va_S (fun q => s.heap.size ≤ q) s.heap H locs → lv_has ls 9 [(0, .ref b), (1, .ref (ad 14)), (2, .ref (md 0)), (3, .ref (ad 17)), (4, .int (nI i))] → W p l e room_1 s m #[Value.ref b] below meth c H locs (cells + 2) (slots + 16) Q (F0 m 1633 ls [])) : W p l e room_1 s m #[Value.ref b] below meth c H locs cells slots Q (F0 m 637 ls []) := by
  obtain ⟨hx, hb, hr, hml, hown, hts, hXs, hbl, hlocks, hgv⟩ := id C0
  have hts := fun w h => hts w (wsL_law_in w h)
  have hb : c.code = cL_law := hb
  have hA : ∀ q : Nat, s.heap.size ≤ q → (fun q : Nat => s.heap.size ≤ q) q := fun _ h => h
  have hbA : ¬ (fun q : Nat => s.heap.size ≤ q) b := Nat.not_le.mpr hbl
  refine lv_aload_n hx hb dL_law_637 rfl (lv_at hl 1 rfl) ?_
  refine lv_aload_n hx hb dL_law_638 rfl (lv_at hl 0 rfl) ?_
  refine lv_iload hx hb dL_law_639 (lv_at hl 4 rfl) ?_
  refine lv_iconst (v := 1) hx hb dL_law_641 (by decide) ?_
  refine lv_iadd hx hb dL_law_642 ?_
  refine kc_top (show (nI i) + 1 = nI (i + 1) from nI_add _ _) ?_
  refine kc_sld (i := i + 1) hx hb hXs hbl hbA hS (by omega) (by omega) dL_law_643 ?_
  refine kc_top hp1 ?_
  refine lv_aload_n hx hb dL_law_644 rfl (lv_at hl 3 rfl) ?_
  have hX := kc_xat hX0 hS
  refine kc_hXi (w1 := wLh ad cI cd te ri pi pw K Dn mv ko so tl lp lb ld le C cl dq dy cL ou) (wr := [(md 0, .inr (3, [.int th, .int (nI mK), .ref (md 1), .int (nI mD), .ref (md 2), .int mw, .int my, .int (nI mC), .ref (md 3), .ref (md 4), .ref (md 5), .ref (md 6), .ref (md 7), .ref (md 8), .ref (md 9)])), (md 1, .inl (cI, 8, .inl mc)), (md 2, .inl (cI, 8, .inl mr)), (md 3, .inl (cI, 24, .inl mk)), (md 4, .inl (cI, 24, .inl ms)), (md 5, .inl (cI, 24, .inl mu)), (md 6, .inl (cI, 24, .inl mt)), (md 7, .inl (cI, 216, .inl mp)), (md 8, .inl (cI, 216, .inl mb)), (md 9, .inl (cI, 216, .inl me))]) (ws1 := wLaw ad cI cd te ri pi pw K Dn mv ko so tl lp lb ld le C cl dq dy cL ou md th mK mc mD mr mw my mC mk ms mu mt mp mb me) (As := [.ref (ad 14), .int x, .ref (ad 17)]) (rest := []) ⟨hx, hb, hml, hown, hts⟩ (c_L_doors_f1 l hlf D ad cI cd te ri pi pw K Dn mv ko so tl lp lb ld le C cl dq dy cL ou x H.size hBad) (vx_cwSW 3 hts gL_law_L_doors rfl rfl rfl (by decide +kernel) ⟨Nat.le_of_ble_eq_true rfl, Nat.le_of_ble_eq_true rfl⟩) hK hP hD hX hS hA [0, 1, 2, 3, 4, 5, 6, 7, 8, 9, 10, 11, 12, 13, 14, 15, 16, 17] [18, 19, 20, 21, 22, 23, 24, 25, 26, 27] [10, 11, 12, 13, 14, 15, 16, 17, 18, 19, 20, 21, 22, 23, 24, 25, 26, 27, 0, 1, 2, 3, 4, 5, 6, 7, 8, 9] [0, 1] rfl rfl rfl rfl (by decide) rfl rfl rfl rfl hl.1 rfl (Nat.le_of_ble_eq_true rfl) dL_law_645 ⟨kc_rc (by omega), kc_rs (by omega)⟩ (fun H locs hP hD hS => ?_)
  refine lv_istore (lv' := [(5, .int 1), (0, .ref b), (1, .ref (ad 14)), (2, .ref (md 0)), (3, .ref (ad 17)), (4, .int (nI i))]) hx hb dL_law_648 hl (by decide) rfl (fun ls hl => ?_)
  refine lv_aload_n hx hb dL_law_650 rfl (lv_at hl 3 rfl) ?_
  refine lv_aload_n hx hb dL_law_651 rfl (lv_at hl 1 rfl) ?_
  refine lv_iload hx hb dL_law_652 (lv_at hl 5 rfl) ?_
  refine lv_iconst (v := 1) hx hb dL_law_654 (by decide) ?_
  refine lv_iadd hx hb dL_law_655 ?_
  refine kc_top (show (nI i) + 1 = nI (i + 1) from nI_add _ _) ?_
  refine kc_sld (i := i + 1) hx hb hXs hbl hbA hS (by omega) (by omega) dL_law_656 ?_
  refine kc_top hp1 ?_
  refine kc_wVi (w1 := wMd md cI 1 mK mc mD mr mw my mC mk ms mu mt mp mb me) (wr := [(ad 0, .inr (1, [.ref (ad 1), .ref (ad 2), .ref (ad 3), .ref (ad 4), .ref (ad 5), .int (nI K), .int (nI Dn), .int mv])), (ad 1, .inl (cI, 8, .inl cd)), (ad 2, .inl (cI, 8, .inl te)), (ad 3, .inl (cI, 8, .inl ri)), (ad 4, .inl (cI, 8, .inl pi)), (ad 5, .inl (cI, 8, .inl pw)), (ad 6, .inr (0, [.ref (ad 7), .ref (ad 8), .ref (ad 9), .ref (ad 10), .ref (ad 11), .ref (ad 12), .ref (ad 13), .int (nI C)])), (ad 7, .inl (cI, 24, .inl ko)), (ad 8, .inl (cI, 24, .inl so)), (ad 9, .inl (cI, 24, .inl tl)), (ad 10, .inl (cI, 216, .inl lp)), (ad 11, .inl (cI, 216, .inl lb)), (ad 12, .inl (cI, 216, .inl ld)), (ad 13, .inl (cI, 216, .inl le)), (ad 14, .inr (2, [.ref (ad 0), .ref (ad 6), .ref (ad 15), .ref (ad 16), .int dy])), (ad 15, .inl (cI, 8, .inl cl)), (ad 16, .inl (cI, 8, .inl dq)), (ad 17, .inl (cL, 1, .inr (.inl ou)))]) (ws1 := wLaw ad cI cd te ri pi pw K Dn mv ko so tl lp lb ld le C cl dq dy cL ou md 1 mK mc mD mr mw my mC mk ms mu mt mp mb me) (As := [.int x]) (rest := []) ⟨hx, hb, hml, hown, hts⟩ (c_X3_doors_f1 l D md cI th mK mc mD mr mw my mC mk ms mu mt mp mb me x H.size m_hBad) (cwV 1 hts gL_law_X3_doors rfl rfl rfl (by decide +kernel) ⟨Nat.le_of_ble_eq_true rfl, Nat.le_of_ble_eq_true rfl⟩) hK hP hD hS hA [18, 19, 20, 21, 22, 23, 24, 25, 26, 27] [0, 1, 2, 3, 4, 5, 6, 7, 8, 9, 10, 11, 12, 13, 14, 15, 16, 17] [0, 1, 2, 3, 4, 5, 6, 7, 8, 9, 10, 11, 12, 13, 14, 15, 16, 17, 18, 19, 20, 21, 22, 23, 24, 25, 26, 27] [0] rfl rfl rfl rfl (by decide) rfl rfl rfl 18 rfl rfl rfl rfl hl.1 rfl (Nat.le_of_ble_eq_true rfl) dL_law_657 ⟨kc_rc (by omega), kc_rs (by omega)⟩ (fun H locs hP hD hS => ?_)
  refine lv_istore (lv' := [(6, .int 0), (5, .int 1), (0, .ref b), (1, .ref (ad 14)), (2, .ref (md 0)), (3, .ref (ad 17)), (4, .int (nI i))]) hx hb dL_law_660 hl (by decide) rfl (fun ls hl => ?_)
  refine lv_aload_n hx hb dL_law_662 rfl (lv_at hl 4 rfl) ?_
  refine kc_rVi (As := []) (rest := []) ⟨hx, hb, hml, hown, hts⟩ (c_X3_thrown l D md cI 1 mK mc mD mr mw my mC mk ms mu mt mp mb me ) (cwV 0 hts gL_law_X3_thrown rfl rfl rfl (by decide +kernel) ⟨Nat.le_of_ble_eq_true rfl, Nat.le_of_ble_eq_true rfl⟩) hK hP [18, 19, 20, 21, 22, 23, 24, 25, 26, 27] [0] rfl rfl 18 rfl rfl rfl rfl hl.1 rfl (Nat.le_of_ble_eq_true rfl) dL_law_663 ⟨kc_rc (by omega), kc_rs (by omega)⟩ ?_
  refine lv_iload hx hb dL_law_666 (lv_at hl 1 rfl) ?_
  refine lv_icmp_eq (tgt := 673) hx hb dL_law_668 (by decide) (fun c_668 => ?_) (fun c_668 => absurd c_668 (by decide))
  refine lv_iload hx hb dL_law_673 (lv_at hl 1 rfl) ?_
  refine lv_if_ne (tgt := 690) hx hb dL_law_675 (by decide) (fun c_675 => ?_) (fun c_675 => absurd c_675 (by decide))
  refine lv_goto (tgt := 1633) hx hb dL_law_690 (by decide) ?_
  refine W.widen (k := cells + 2) (n := slots + 16) (by omega) (by omega) ?_
  exact K1 _ _ _ hP hD hS (lv_sub hl [2, 3, 4, 5, 6] rfl)
set_option maxHeartbeats 4000000 in
set_option maxRecDepth 100000 in
theorem lw_codes_ok_ok {p : Program} {l : Launch} {e : Env} {s : State} {m : MethodId} {below : List Frame} {meth : Method} {c : Code} {Q : State → Prop} {b L : Nat} {xs : Nat → Int32} (hlf : l.stackTraces = false) (C0 : lw_At p s m meth c b L xs) {D : va_G} {cI cL : ClassId} (hK : kcK D [(cI, .int), (cL, .long)] s) (hX0 : kcX (fun q => s.heap.size ≤ q) s s.heap) (hL : L ≤ 2048) (i : Nat) (hi : i + 3 < L) (ad : Nat → Nat) (cd : Nat → Int32) (te : Nat → Int32) (ri : Nat → Int32) (pi : Nat → Int32) (pw : Nat → Int32) (K : Nat) (Dn : Nat) (mv : Int32) (ko : Nat → Int32) (so : Nat → Int32) (tl : Nat → Int32) (lp : Nat → Int32) (lb : Nat → Int32) (ld : Nat → Int32) (le : Nat → Int32) (C : Nat) (cl : Nat → Int32) (dq : Nat → Int32) (dy : Int32) (ou : Nat → Int64) (md : Nat → Nat) (th : Int32) (mK : Nat) (mc : Nat → Int32) (mD : Nat) (mr : Nat → Int32) (mw : Int32) (my : Int32) (mC : Nat) (mk : Nat → Int32) (ms : Nat → Int32) (mu : Nat → Int32) (mt : Nat → Int32) (mp : Nat → Int32) (mb : Nat → Int32) (me : Nat → Int32) (d : Nat) (hD8 : Dn ≤ 8) (hd : d < Dn) (m_hK8 : mK ≤ 8) (m_hD8 : mD ≤ 8) (m_hd : d < mD) (hp1 : xs (i + 1) = nI d) (hres : (jCodes pi d 5 : Int32) = (mCodes mr mc mK d 1024)) {H : Heap} {locs : List Loc} {cells slots : Nat} (hce : cells + 2 ≤ 601024) (hsl : slots + 16 ≤ 7293034) (hP : va_P D vwCl (wLaw ad cI cd te ri pi pw K Dn mv ko so tl lp lb ld le C cl dq dy cL ou md th mK mc mD mr mw my mC mk ms mu mt mp mb me) H) (hD : va_D (fun q => s.heap.size ≤ q) (wLaw ad cI cd te ri pi pw K Dn mv ko so tl lp lb ld le C cl dq dy cL ou md th mK mc mD mr mw my mC mk ms mu mt mp mb me)) (hS : va_S (fun q => s.heap.size ≤ q) s.heap H locs) {ls : Array Slot} (hl : lv_has ls 9 [(0, .ref b), (1, .ref (ad 14)), (2, .ref (md 0)), (3, .ref (ad 17)), (4, .int (nI i))]) (K1 : ∀ (H : Heap) (locs : List Loc) (ls : Array Slot), va_P D vwCl (wLaw ad cI cd te ri pi pw K Dn mv ko so tl lp lb ld le C cl dq dy cL (vp_updL ou 0 (Int32.toInt64 (jCodes pi d 5))) md 0 mK mc mD mr mw my mC mk ms mu mt mp mb me) H → va_D (fun q => s.heap.size ≤ q) (wLaw ad cI cd te ri pi pw K Dn mv ko so tl lp lb ld le C cl dq dy cL (vp_updL ou 0 (Int32.toInt64 (jCodes pi d 5))) md 0 mK mc mD mr mw my mC mk ms mu mt mp mb me) → va_S (fun q => s.heap.size ≤ q) s.heap H locs → lv_has ls 9 [(0, .ref b), (1, .ref (ad 14)), (2, .ref (md 0)), (3, .ref (ad 17)), (4, .int (nI i))] → W p l e room_1 s m #[Value.ref b] below meth c H locs (cells + 2) (slots + 16) Q (F0 m 1633 ls [])) : W p l e room_1 s m #[Value.ref b] below meth c H locs cells slots Q (F0 m 706 ls []) := by
  obtain ⟨hx, hb, hr, hml, hown, hts, hXs, hbl, hlocks, hgv⟩ := id C0
  have hts := fun w h => hts w (wsL_law_in w h)
  have hb : c.code = cL_law := hb
  have hA : ∀ q : Nat, s.heap.size ≤ q → (fun q : Nat => s.heap.size ≤ q) q := fun _ h => h
  have hbA : ¬ (fun q : Nat => s.heap.size ≤ q) b := Nat.not_le.mpr hbl
  refine lv_aload_n hx hb dL_law_706 rfl (lv_at hl 1 rfl) ?_
  refine lv_aload_n hx hb dL_law_707 rfl (lv_at hl 0 rfl) ?_
  refine lv_iload hx hb dL_law_708 (lv_at hl 4 rfl) ?_
  refine lv_iconst (v := 1) hx hb dL_law_710 (by decide) ?_
  refine lv_iadd hx hb dL_law_711 ?_
  refine kc_top (show (nI i) + 1 = nI (i + 1) from nI_add _ _) ?_
  refine kc_sld (i := i + 1) hx hb hXs hbl hbA hS (by omega) (by omega) dL_law_712 ?_
  refine kc_top hp1 ?_
  refine lv_aload_n hx hb dL_law_713 rfl (lv_at hl 3 rfl) ?_
  refine kc_hSi (w1 := wLh ad cI cd te ri pi pw K Dn mv ko so tl lp lb ld le C cl dq dy cL (vp_updL ou 0 (Int32.toInt64 (jCodes pi d 5)))) (wr := [(md 0, .inr (3, [.int th, .int (nI mK), .ref (md 1), .int (nI mD), .ref (md 2), .int mw, .int my, .int (nI mC), .ref (md 3), .ref (md 4), .ref (md 5), .ref (md 6), .ref (md 7), .ref (md 8), .ref (md 9)])), (md 1, .inl (cI, 8, .inl mc)), (md 2, .inl (cI, 8, .inl mr)), (md 3, .inl (cI, 24, .inl mk)), (md 4, .inl (cI, 24, .inl ms)), (md 5, .inl (cI, 24, .inl mu)), (md 6, .inl (cI, 24, .inl mt)), (md 7, .inl (cI, 216, .inl mp)), (md 8, .inl (cI, 216, .inl mb)), (md 9, .inl (cI, 216, .inl me))]) (ws1 := wLaw ad cI cd te ri pi pw K Dn mv ko so tl lp lb ld le C cl dq dy cL (vp_updL ou 0 (Int32.toInt64 (jCodes pi d 5))) md th mK mc mD mr mw my mC mk ms mu mt mp mb me) (As := [.ref (ad 14), .int (nI d), .ref (ad 17)]) (rest := []) ⟨hx, hb, hml, hown, hts⟩ (c_L_codes_ok l D ad cI cd te ri pi pw K Dn mv ko so tl lp lb ld le C cl dq dy cL ou d H.size hD8 hd) (vx_cwSW 3 hts gL_law_L_codes rfl rfl rfl (by decide +kernel) ⟨Nat.le_of_ble_eq_true rfl, Nat.le_of_ble_eq_true rfl⟩) hK hP hD hS hA [0, 1, 2, 3, 4, 5, 6, 7, 8, 9, 10, 11, 12, 13, 14, 15, 16, 17] [18, 19, 20, 21, 22, 23, 24, 25, 26, 27] [10, 11, 12, 13, 14, 15, 16, 17, 18, 19, 20, 21, 22, 23, 24, 25, 26, 27, 0, 1, 2, 3, 4, 5, 6, 7, 8, 9] [0, 1] rfl rfl rfl rfl (by decide) rfl rfl rfl rfl hl.1 rfl (Nat.le_of_ble_eq_true rfl) dL_law_714 ⟨kc_rc (by omega), kc_rs (by omega)⟩ (fun H locs hP hD hS => ?_)
  refine lv_istore (lv' := [(5, .int 0), (0, .ref b), (1, .ref (ad 14)), (2, .ref (md 0)), (3, .ref (ad 17)), (4, .int (nI i))]) hx hb dL_law_717 hl (by decide) rfl (fun ls hl => ?_)
  refine lv_aload_n hx hb dL_law_719 rfl (lv_at hl 3 rfl) ?_
  refine lv_aload_n hx hb dL_law_720 rfl (lv_at hl 1 rfl) ?_
  refine lv_iload hx hb dL_law_721 (lv_at hl 5 rfl) ?_
  refine lv_iconst (v := 1) hx hb dL_law_723 (by decide) ?_
  refine lv_iadd hx hb dL_law_724 ?_
  refine kc_top (show (nI i) + 1 = nI (i + 1) from nI_add _ _) ?_
  refine kc_sld (i := i + 1) hx hb hXs hbl hbA hS (by omega) (by omega) dL_law_725 ?_
  refine kc_top hp1 ?_
  refine kc_wVi (w1 := wMd md cI 0 mK mc mD mr mw my mC mk ms mu mt mp mb me) (wr := [(ad 0, .inr (1, [.ref (ad 1), .ref (ad 2), .ref (ad 3), .ref (ad 4), .ref (ad 5), .int (nI K), .int (nI Dn), .int mv])), (ad 1, .inl (cI, 8, .inl cd)), (ad 2, .inl (cI, 8, .inl te)), (ad 3, .inl (cI, 8, .inl ri)), (ad 4, .inl (cI, 8, .inl pi)), (ad 5, .inl (cI, 8, .inl pw)), (ad 6, .inr (0, [.ref (ad 7), .ref (ad 8), .ref (ad 9), .ref (ad 10), .ref (ad 11), .ref (ad 12), .ref (ad 13), .int (nI C)])), (ad 7, .inl (cI, 24, .inl ko)), (ad 8, .inl (cI, 24, .inl so)), (ad 9, .inl (cI, 24, .inl tl)), (ad 10, .inl (cI, 216, .inl lp)), (ad 11, .inl (cI, 216, .inl lb)), (ad 12, .inl (cI, 216, .inl ld)), (ad 13, .inl (cI, 216, .inl le)), (ad 14, .inr (2, [.ref (ad 0), .ref (ad 6), .ref (ad 15), .ref (ad 16), .int dy])), (ad 15, .inl (cI, 8, .inl cl)), (ad 16, .inl (cI, 8, .inl dq)), (ad 17, .inl (cL, 1, .inr (.inl (vp_updL ou 0 (Int32.toInt64 (jCodes pi d 5))))))]) (ws1 := wLaw ad cI cd te ri pi pw K Dn mv ko so tl lp lb ld le C cl dq dy cL (vp_updL ou 0 (Int32.toInt64 (jCodes pi d 5))) md 0 mK mc mD mr mw my mC mk ms mu mt mp mb me) (As := [.int (nI d)]) (rest := []) ⟨hx, hb, hml, hown, hts⟩ (c_X3_codes_ok l D md cI th mK mc mD mr mw my mC mk ms mu mt mp mb me d H.size m_hK8 m_hD8 m_hd) (cwV 1 hts gL_law_X3_codes rfl rfl rfl (by decide +kernel) ⟨Nat.le_of_ble_eq_true rfl, Nat.le_of_ble_eq_true rfl⟩) hK hP hD hS hA [18, 19, 20, 21, 22, 23, 24, 25, 26, 27] [0, 1, 2, 3, 4, 5, 6, 7, 8, 9, 10, 11, 12, 13, 14, 15, 16, 17] [0, 1, 2, 3, 4, 5, 6, 7, 8, 9, 10, 11, 12, 13, 14, 15, 16, 17, 18, 19, 20, 21, 22, 23, 24, 25, 26, 27] [0] rfl rfl rfl rfl (by decide) rfl rfl rfl 18 rfl rfl rfl rfl hl.1 rfl (Nat.le_of_ble_eq_true rfl) dL_law_726 ⟨kc_rc (by omega), kc_rs (by omega)⟩ (fun H locs hP hD hS => ?_)
  refine lv_istore (lv' := [(6, .int (mCodes mr mc mK d 1024)), (5, .int 0), (0, .ref b), (1, .ref (ad 14)), (2, .ref (md 0)), (3, .ref (ad 17)), (4, .int (nI i))]) hx hb dL_law_729 hl (by decide) rfl (fun ls hl => ?_)
  refine lv_aload_n hx hb dL_law_731 rfl (lv_at hl 4 rfl) ?_
  refine kc_rVi (As := []) (rest := []) ⟨hx, hb, hml, hown, hts⟩ (c_X3_thrown l D md cI 0 mK mc mD mr mw my mC mk ms mu mt mp mb me ) (cwV 0 hts gL_law_X3_thrown rfl rfl rfl (by decide +kernel) ⟨Nat.le_of_ble_eq_true rfl, Nat.le_of_ble_eq_true rfl⟩) hK hP [18, 19, 20, 21, 22, 23, 24, 25, 26, 27] [0] rfl rfl 18 rfl rfl rfl rfl hl.1 rfl (Nat.le_of_ble_eq_true rfl) dL_law_732 ⟨kc_rc (by omega), kc_rs (by omega)⟩ ?_
  refine lv_iload hx hb dL_law_735 (lv_at hl 1 rfl) ?_
  refine lv_icmp_eq (tgt := 742) hx hb dL_law_737 (by decide) (fun c_737 => ?_) (fun c_737 => absurd c_737 (by decide))
  refine lv_iload hx hb dL_law_742 (lv_at hl 1 rfl) ?_
  refine lv_if_ne (tgt := 759) hx hb dL_law_744 (by decide) (fun c_744 => absurd c_744 (by decide)) (fun c_744 => ?_)
  refine lv_aload_n hx hb dL_law_747 rfl (lv_at hl 5 rfl) ?_
  refine lv_iconst (v := 0) hx hb dL_law_748 (by decide) ?_
  refine kc_lld (i := 0) (n := 1) hx hb hK hP 17 1 rfl rfl (by decide) (by decide) dL_law_749 ?_
  refine kc_topl (show ((vp_updL ou 0 (Int32.toInt64 (jCodes pi d 5)))) 0 = Int32.toInt64 (jCodes pi d 5) from pk_uLs) ?_
  refine lv_iload hx hb dL_law_750 (lv_at hl 0 rfl) ?_
  refine lv_i2l (v := Int32.toInt64 (mCodes mr mc mK d 1024)) hx hb dL_law_752 rfl ?_
  refine W.lcmp hx hb dL_law_753 ?_
  refine kc_top (show lg_cmp (Int32.toInt64 (jCodes pi d 5)) (Int32.toInt64 (mCodes mr mc mK d 1024)) = 0 from kc_lcmp0 (congrArg Int32.toInt64 hres)) ?_
  refine lv_if_eq (tgt := 759) hx hb dL_law_754 (by decide) (fun c_754 => ?_) (fun c_754 => absurd c_754 (by decide))
  refine lv_goto (tgt := 1633) hx hb dL_law_759 (by decide) ?_
  refine W.widen (k := cells + 2) (n := slots + 16) (by omega) (by omega) ?_
  exact K1 _ _ _ hP hD hS (lv_sub hl [2, 3, 4, 5, 6] rfl)
set_option maxHeartbeats 4000000 in
set_option maxRecDepth 100000 in
theorem lw_codes_f1_f1 {p : Program} {l : Launch} {e : Env} {s : State} {m : MethodId} {below : List Frame} {meth : Method} {c : Code} {Q : State → Prop} {b L : Nat} {xs : Nat → Int32} (hlf : l.stackTraces = false) (C0 : lw_At p s m meth c b L xs) {D : va_G} {cI cL : ClassId} (hK : kcK D [(cI, .int), (cL, .long)] s) (hX0 : kcX (fun q => s.heap.size ≤ q) s s.heap) (hL : L ≤ 2048) (i : Nat) (hi : i + 3 < L) (ad : Nat → Nat) (cd : Nat → Int32) (te : Nat → Int32) (ri : Nat → Int32) (pi : Nat → Int32) (pw : Nat → Int32) (K : Nat) (Dn : Nat) (mv : Int32) (ko : Nat → Int32) (so : Nat → Int32) (tl : Nat → Int32) (lp : Nat → Int32) (lb : Nat → Int32) (ld : Nat → Int32) (le : Nat → Int32) (C : Nat) (cl : Nat → Int32) (dq : Nat → Int32) (dy : Int32) (ou : Nat → Int64) (md : Nat → Nat) (th : Int32) (mK : Nat) (mc : Nat → Int32) (mD : Nat) (mr : Nat → Int32) (mw : Int32) (my : Int32) (mC : Nat) (mk : Nat → Int32) (ms : Nat → Int32) (mu : Nat → Int32) (mt : Nat → Int32) (mp : Nat → Int32) (mb : Nat → Int32) (me : Nat → Int32) (x : Int32) (hBad : ¬ jIn Dn x = true) (m_hBad : ¬ jIn mD x = true) (hp1 : xs (i + 1) = x)  {H : Heap} {locs : List Loc} {cells slots : Nat} (hce : cells + 2 ≤ 601024) (hsl : slots + 16 ≤ 7293034) (hP : va_P D vwCl (wLaw ad cI cd te ri pi pw K Dn mv ko so tl lp lb ld le C cl dq dy cL ou md th mK mc mD mr mw my mC mk ms mu mt mp mb me) H) (hD : va_D (fun q => s.heap.size ≤ q) (wLaw ad cI cd te ri pi pw K Dn mv ko so tl lp lb ld le C cl dq dy cL ou md th mK mc mD mr mw my mC mk ms mu mt mp mb me)) (hS : va_S (fun q => s.heap.size ≤ q) s.heap H locs) {ls : Array Slot} (hl : lv_has ls 9 [(0, .ref b), (1, .ref (ad 14)), (2, .ref (md 0)), (3, .ref (ad 17)), (4, .int (nI i))]) (K1 : ∀ (H : Heap) (locs : List Loc) (ls : Array Slot), va_P D vwCl (wLaw ad cI cd te ri pi pw K Dn mv ko so tl lp lb ld le C cl dq dy cL ou md 1 mK mc mD mr mw my mC mk ms mu mt mp mb me) H → va_D (fun q => s.heap.size ≤ q) (wLaw ad cI cd te ri pi pw K Dn mv ko so tl lp lb ld le C cl dq dy cL ou md 1 mK mc mD mr mw my mC mk ms mu mt mp mb me) → va_S (fun q => s.heap.size ≤ q) s.heap H locs → lv_has ls 9 [(0, .ref b), (1, .ref (ad 14)), (2, .ref (md 0)), (3, .ref (ad 17)), (4, .int (nI i))] → W p l e room_1 s m #[Value.ref b] below meth c H locs (cells + 2) (slots + 16) Q (F0 m 1633 ls [])) : W p l e room_1 s m #[Value.ref b] below meth c H locs cells slots Q (F0 m 706 ls []) := by
  obtain ⟨hx, hb, hr, hml, hown, hts, hXs, hbl, hlocks, hgv⟩ := id C0
  have hts := fun w h => hts w (wsL_law_in w h)
  have hb : c.code = cL_law := hb
  have hA : ∀ q : Nat, s.heap.size ≤ q → (fun q : Nat => s.heap.size ≤ q) q := fun _ h => h
  have hbA : ¬ (fun q : Nat => s.heap.size ≤ q) b := Nat.not_le.mpr hbl
  refine lv_aload_n hx hb dL_law_706 rfl (lv_at hl 1 rfl) ?_
  refine lv_aload_n hx hb dL_law_707 rfl (lv_at hl 0 rfl) ?_
  refine lv_iload hx hb dL_law_708 (lv_at hl 4 rfl) ?_
  refine lv_iconst (v := 1) hx hb dL_law_710 (by decide) ?_
  refine lv_iadd hx hb dL_law_711 ?_
  refine kc_top (show (nI i) + 1 = nI (i + 1) from nI_add _ _) ?_
  refine kc_sld (i := i + 1) hx hb hXs hbl hbA hS (by omega) (by omega) dL_law_712 ?_
  refine kc_top hp1 ?_
  refine lv_aload_n hx hb dL_law_713 rfl (lv_at hl 3 rfl) ?_
  have hX := kc_xat hX0 hS
  refine kc_hXi (w1 := wLh ad cI cd te ri pi pw K Dn mv ko so tl lp lb ld le C cl dq dy cL ou) (wr := [(md 0, .inr (3, [.int th, .int (nI mK), .ref (md 1), .int (nI mD), .ref (md 2), .int mw, .int my, .int (nI mC), .ref (md 3), .ref (md 4), .ref (md 5), .ref (md 6), .ref (md 7), .ref (md 8), .ref (md 9)])), (md 1, .inl (cI, 8, .inl mc)), (md 2, .inl (cI, 8, .inl mr)), (md 3, .inl (cI, 24, .inl mk)), (md 4, .inl (cI, 24, .inl ms)), (md 5, .inl (cI, 24, .inl mu)), (md 6, .inl (cI, 24, .inl mt)), (md 7, .inl (cI, 216, .inl mp)), (md 8, .inl (cI, 216, .inl mb)), (md 9, .inl (cI, 216, .inl me))]) (ws1 := wLaw ad cI cd te ri pi pw K Dn mv ko so tl lp lb ld le C cl dq dy cL ou md th mK mc mD mr mw my mC mk ms mu mt mp mb me) (As := [.ref (ad 14), .int x, .ref (ad 17)]) (rest := []) ⟨hx, hb, hml, hown, hts⟩ (c_L_codes_f1 l hlf D ad cI cd te ri pi pw K Dn mv ko so tl lp lb ld le C cl dq dy cL ou x H.size hBad) (vx_cwSW 3 hts gL_law_L_codes rfl rfl rfl (by decide +kernel) ⟨Nat.le_of_ble_eq_true rfl, Nat.le_of_ble_eq_true rfl⟩) hK hP hD hX hS hA [0, 1, 2, 3, 4, 5, 6, 7, 8, 9, 10, 11, 12, 13, 14, 15, 16, 17] [18, 19, 20, 21, 22, 23, 24, 25, 26, 27] [10, 11, 12, 13, 14, 15, 16, 17, 18, 19, 20, 21, 22, 23, 24, 25, 26, 27, 0, 1, 2, 3, 4, 5, 6, 7, 8, 9] [0, 1] rfl rfl rfl rfl (by decide) rfl rfl rfl rfl hl.1 rfl (Nat.le_of_ble_eq_true rfl) dL_law_714 ⟨kc_rc (by omega), kc_rs (by omega)⟩ (fun H locs hP hD hS => ?_)
  refine lv_istore (lv' := [(5, .int 1), (0, .ref b), (1, .ref (ad 14)), (2, .ref (md 0)), (3, .ref (ad 17)), (4, .int (nI i))]) hx hb dL_law_717 hl (by decide) rfl (fun ls hl => ?_)
  refine lv_aload_n hx hb dL_law_719 rfl (lv_at hl 3 rfl) ?_
  refine lv_aload_n hx hb dL_law_720 rfl (lv_at hl 1 rfl) ?_
  refine lv_iload hx hb dL_law_721 (lv_at hl 5 rfl) ?_
  refine lv_iconst (v := 1) hx hb dL_law_723 (by decide) ?_
  refine lv_iadd hx hb dL_law_724 ?_
  refine kc_top (show (nI i) + 1 = nI (i + 1) from nI_add _ _) ?_
  refine kc_sld (i := i + 1) hx hb hXs hbl hbA hS (by omega) (by omega) dL_law_725 ?_
  refine kc_top hp1 ?_
  refine kc_wVi (w1 := wMd md cI 1 mK mc mD mr mw my mC mk ms mu mt mp mb me) (wr := [(ad 0, .inr (1, [.ref (ad 1), .ref (ad 2), .ref (ad 3), .ref (ad 4), .ref (ad 5), .int (nI K), .int (nI Dn), .int mv])), (ad 1, .inl (cI, 8, .inl cd)), (ad 2, .inl (cI, 8, .inl te)), (ad 3, .inl (cI, 8, .inl ri)), (ad 4, .inl (cI, 8, .inl pi)), (ad 5, .inl (cI, 8, .inl pw)), (ad 6, .inr (0, [.ref (ad 7), .ref (ad 8), .ref (ad 9), .ref (ad 10), .ref (ad 11), .ref (ad 12), .ref (ad 13), .int (nI C)])), (ad 7, .inl (cI, 24, .inl ko)), (ad 8, .inl (cI, 24, .inl so)), (ad 9, .inl (cI, 24, .inl tl)), (ad 10, .inl (cI, 216, .inl lp)), (ad 11, .inl (cI, 216, .inl lb)), (ad 12, .inl (cI, 216, .inl ld)), (ad 13, .inl (cI, 216, .inl le)), (ad 14, .inr (2, [.ref (ad 0), .ref (ad 6), .ref (ad 15), .ref (ad 16), .int dy])), (ad 15, .inl (cI, 8, .inl cl)), (ad 16, .inl (cI, 8, .inl dq)), (ad 17, .inl (cL, 1, .inr (.inl ou)))]) (ws1 := wLaw ad cI cd te ri pi pw K Dn mv ko so tl lp lb ld le C cl dq dy cL ou md 1 mK mc mD mr mw my mC mk ms mu mt mp mb me) (As := [.int x]) (rest := []) ⟨hx, hb, hml, hown, hts⟩ (c_X3_codes_f1 l D md cI th mK mc mD mr mw my mC mk ms mu mt mp mb me x H.size m_hBad) (cwV 1 hts gL_law_X3_codes rfl rfl rfl (by decide +kernel) ⟨Nat.le_of_ble_eq_true rfl, Nat.le_of_ble_eq_true rfl⟩) hK hP hD hS hA [18, 19, 20, 21, 22, 23, 24, 25, 26, 27] [0, 1, 2, 3, 4, 5, 6, 7, 8, 9, 10, 11, 12, 13, 14, 15, 16, 17] [0, 1, 2, 3, 4, 5, 6, 7, 8, 9, 10, 11, 12, 13, 14, 15, 16, 17, 18, 19, 20, 21, 22, 23, 24, 25, 26, 27] [0] rfl rfl rfl rfl (by decide) rfl rfl rfl 18 rfl rfl rfl rfl hl.1 rfl (Nat.le_of_ble_eq_true rfl) dL_law_726 ⟨kc_rc (by omega), kc_rs (by omega)⟩ (fun H locs hP hD hS => ?_)
  refine lv_istore (lv' := [(6, .int 0), (5, .int 1), (0, .ref b), (1, .ref (ad 14)), (2, .ref (md 0)), (3, .ref (ad 17)), (4, .int (nI i))]) hx hb dL_law_729 hl (by decide) rfl (fun ls hl => ?_)
  refine lv_aload_n hx hb dL_law_731 rfl (lv_at hl 4 rfl) ?_
  refine kc_rVi (As := []) (rest := []) ⟨hx, hb, hml, hown, hts⟩ (c_X3_thrown l D md cI 1 mK mc mD mr mw my mC mk ms mu mt mp mb me ) (cwV 0 hts gL_law_X3_thrown rfl rfl rfl (by decide +kernel) ⟨Nat.le_of_ble_eq_true rfl, Nat.le_of_ble_eq_true rfl⟩) hK hP [18, 19, 20, 21, 22, 23, 24, 25, 26, 27] [0] rfl rfl 18 rfl rfl rfl rfl hl.1 rfl (Nat.le_of_ble_eq_true rfl) dL_law_732 ⟨kc_rc (by omega), kc_rs (by omega)⟩ ?_
  refine lv_iload hx hb dL_law_735 (lv_at hl 1 rfl) ?_
  refine lv_icmp_eq (tgt := 742) hx hb dL_law_737 (by decide) (fun c_737 => ?_) (fun c_737 => absurd c_737 (by decide))
  refine lv_iload hx hb dL_law_742 (lv_at hl 1 rfl) ?_
  refine lv_if_ne (tgt := 759) hx hb dL_law_744 (by decide) (fun c_744 => ?_) (fun c_744 => absurd c_744 (by decide))
  refine lv_goto (tgt := 1633) hx hb dL_law_759 (by decide) ?_
  refine W.widen (k := cells + 2) (n := slots + 16) (by omega) (by omega) ?_
  exact K1 _ _ _ hP hD hS (lv_sub hl [2, 3, 4, 5, 6] rfl)
set_option maxHeartbeats 4000000 in
set_option maxRecDepth 100000 in
theorem lw_isAbove_ok_ok {p : Program} {l : Launch} {e : Env} {s : State} {m : MethodId} {below : List Frame} {meth : Method} {c : Code} {Q : State → Prop} {b L : Nat} {xs : Nat → Int32} (hlf : l.stackTraces = false) (C0 : lw_At p s m meth c b L xs) {D : va_G} {cI cL : ClassId} (hK : kcK D [(cI, .int), (cL, .long)] s) (hX0 : kcX (fun q => s.heap.size ≤ q) s s.heap) (hL : L ≤ 2048) (i : Nat) (hi : i + 3 < L) (ad : Nat → Nat) (cd : Nat → Int32) (te : Nat → Int32) (ri : Nat → Int32) (pi : Nat → Int32) (pw : Nat → Int32) (K : Nat) (Dn : Nat) (mv : Int32) (ko : Nat → Int32) (so : Nat → Int32) (tl : Nat → Int32) (lp : Nat → Int32) (lb : Nat → Int32) (ld : Nat → Int32) (le : Nat → Int32) (C : Nat) (cl : Nat → Int32) (dq : Nat → Int32) (dy : Int32) (ou : Nat → Int64) (md : Nat → Nat) (th : Int32) (mK : Nat) (mc : Nat → Int32) (mD : Nat) (mr : Nat → Int32) (mw : Int32) (my : Int32) (mC : Nat) (mk : Nat → Int32) (ms : Nat → Int32) (mu : Nat → Int32) (mt : Nat → Int32) (mp : Nat → Int32) (mb : Nat → Int32) (me : Nat → Int32) (k : Nat) (k2 : Nat) (hK8 : K ≤ 8) (hD8 : Dn ≤ 8) (hk : k < K) (hk2 : k2 < K) (m_hK8 : mK ≤ 8) (m_hD8 : mD ≤ 8) (m_hk : k < mK) (m_hk2 : k2 < mK) (hp1 : xs (i + 1) = nI k) (hp2 : xs (i + 2) = nI k2) (hres : ((jAbove (jDoors pi te k Dn) (jDoors pi te k2 Dn)) : Bool) = ((mAbove (mDoors mr mc mK (mc k) mD) (mDoors mr mc mK (mc k2) mD)))) {H : Heap} {locs : List Loc} {cells slots : Nat} (hce : cells + 2 ≤ 601024) (hsl : slots + 16 ≤ 7293034) (hP : va_P D vwCl (wLaw ad cI cd te ri pi pw K Dn mv ko so tl lp lb ld le C cl dq dy cL ou md th mK mc mD mr mw my mC mk ms mu mt mp mb me) H) (hD : va_D (fun q => s.heap.size ≤ q) (wLaw ad cI cd te ri pi pw K Dn mv ko so tl lp lb ld le C cl dq dy cL ou md th mK mc mD mr mw my mC mk ms mu mt mp mb me)) (hS : va_S (fun q => s.heap.size ≤ q) s.heap H locs) {ls : Array Slot} (hl : lv_has ls 9 [(0, .ref b), (1, .ref (ad 14)), (2, .ref (md 0)), (3, .ref (ad 17)), (4, .int (nI i))]) (K1 : ∀ (H : Heap) (locs : List Loc) (ls : Array Slot), va_P D vwCl (wLaw ad cI cd te ri pi pw K Dn mv ko so tl lp lb ld le C cl dq dy cL (vp_updL ou 0 (if (jAbove (jDoors pi te k Dn) (jDoors pi te k2 Dn)) = true then 1 else 0)) md 0 mK mc mD mr mw my mC mk ms mu mt mp mb me) H → va_D (fun q => s.heap.size ≤ q) (wLaw ad cI cd te ri pi pw K Dn mv ko so tl lp lb ld le C cl dq dy cL (vp_updL ou 0 (if (jAbove (jDoors pi te k Dn) (jDoors pi te k2 Dn)) = true then 1 else 0)) md 0 mK mc mD mr mw my mC mk ms mu mt mp mb me) → va_S (fun q => s.heap.size ≤ q) s.heap H locs → lv_has ls 9 [(0, .ref b), (1, .ref (ad 14)), (2, .ref (md 0)), (3, .ref (ad 17)), (4, .int (nI i))] → W p l e room_1 s m #[Value.ref b] below meth c H locs (cells + 2) (slots + 16) Q (F0 m 1633 ls [])) : W p l e room_1 s m #[Value.ref b] below meth c H locs cells slots Q (F0 m 762 ls []) := by
  obtain ⟨hx, hb, hr, hml, hown, hts, hXs, hbl, hlocks, hgv⟩ := id C0
  have hts := fun w h => hts w (wsL_law_in w h)
  have hb : c.code = cL_law := hb
  have hA : ∀ q : Nat, s.heap.size ≤ q → (fun q : Nat => s.heap.size ≤ q) q := fun _ h => h
  have hbA : ¬ (fun q : Nat => s.heap.size ≤ q) b := Nat.not_le.mpr hbl
  refine lv_aload_n hx hb dL_law_762 rfl (lv_at hl 1 rfl) ?_
  refine lv_aload_n hx hb dL_law_763 rfl (lv_at hl 0 rfl) ?_
  refine lv_iload hx hb dL_law_764 (lv_at hl 4 rfl) ?_
  refine lv_iconst (v := 1) hx hb dL_law_766 (by decide) ?_
  refine lv_iadd hx hb dL_law_767 ?_
  refine kc_top (show (nI i) + 1 = nI (i + 1) from nI_add _ _) ?_
  refine kc_sld (i := i + 1) hx hb hXs hbl hbA hS (by omega) (by omega) dL_law_768 ?_
  refine kc_top hp1 ?_
  refine lv_aload_n hx hb dL_law_769 rfl (lv_at hl 0 rfl) ?_
  refine lv_iload hx hb dL_law_770 (lv_at hl 4 rfl) ?_
  refine lv_iconst (v := 2) hx hb dL_law_772 (by decide) ?_
  refine lv_iadd hx hb dL_law_773 ?_
  refine kc_top (show (nI i) + 2 = nI (i + 2) from nI_add _ _) ?_
  refine kc_sld (i := i + 2) hx hb hXs hbl hbA hS (by omega) (by omega) dL_law_774 ?_
  refine kc_top hp2 ?_
  refine lv_aload_n hx hb dL_law_775 rfl (lv_at hl 3 rfl) ?_
  refine kc_hSi (w1 := wLh ad cI cd te ri pi pw K Dn mv ko so tl lp lb ld le C cl dq dy cL (vp_updL ou 0 (if (jAbove (jDoors pi te k Dn) (jDoors pi te k2 Dn)) = true then 1 else 0))) (wr := [(md 0, .inr (3, [.int th, .int (nI mK), .ref (md 1), .int (nI mD), .ref (md 2), .int mw, .int my, .int (nI mC), .ref (md 3), .ref (md 4), .ref (md 5), .ref (md 6), .ref (md 7), .ref (md 8), .ref (md 9)])), (md 1, .inl (cI, 8, .inl mc)), (md 2, .inl (cI, 8, .inl mr)), (md 3, .inl (cI, 24, .inl mk)), (md 4, .inl (cI, 24, .inl ms)), (md 5, .inl (cI, 24, .inl mu)), (md 6, .inl (cI, 24, .inl mt)), (md 7, .inl (cI, 216, .inl mp)), (md 8, .inl (cI, 216, .inl mb)), (md 9, .inl (cI, 216, .inl me))]) (ws1 := wLaw ad cI cd te ri pi pw K Dn mv ko so tl lp lb ld le C cl dq dy cL (vp_updL ou 0 (if (jAbove (jDoors pi te k Dn) (jDoors pi te k2 Dn)) = true then 1 else 0)) md th mK mc mD mr mw my mC mk ms mu mt mp mb me) (As := [.ref (ad 14), .int (nI k), .int (nI k2), .ref (ad 17)]) (rest := []) ⟨hx, hb, hml, hown, hts⟩ (c_L_isAbove_ok l D ad cI cd te ri pi pw K Dn mv ko so tl lp lb ld le C cl dq dy cL ou k k2 H.size hK8 hD8 hk hk2) (vx_cwSW 4 hts gL_law_L_isAbove rfl rfl rfl (by decide +kernel) ⟨Nat.le_of_ble_eq_true rfl, Nat.le_of_ble_eq_true rfl⟩) hK hP hD hS hA [0, 1, 2, 3, 4, 5, 6, 7, 8, 9, 10, 11, 12, 13, 14, 15, 16, 17] [18, 19, 20, 21, 22, 23, 24, 25, 26, 27] [10, 11, 12, 13, 14, 15, 16, 17, 18, 19, 20, 21, 22, 23, 24, 25, 26, 27, 0, 1, 2, 3, 4, 5, 6, 7, 8, 9] [0, 1] rfl rfl rfl rfl (by decide) rfl rfl rfl rfl hl.1 rfl (Nat.le_of_ble_eq_true rfl) dL_law_776 ⟨kc_rc (by omega), kc_rs (by omega)⟩ (fun H locs hP hD hS => ?_)
  refine lv_istore (lv' := [(5, .int 0), (0, .ref b), (1, .ref (ad 14)), (2, .ref (md 0)), (3, .ref (ad 17)), (4, .int (nI i))]) hx hb dL_law_779 hl (by decide) rfl (fun ls hl => ?_)
  refine lv_aload_n hx hb dL_law_781 rfl (lv_at hl 3 rfl) ?_
  refine lv_aload_n hx hb dL_law_782 rfl (lv_at hl 1 rfl) ?_
  refine lv_iload hx hb dL_law_783 (lv_at hl 5 rfl) ?_
  refine lv_iconst (v := 1) hx hb dL_law_785 (by decide) ?_
  refine lv_iadd hx hb dL_law_786 ?_
  refine kc_top (show (nI i) + 1 = nI (i + 1) from nI_add _ _) ?_
  refine kc_sld (i := i + 1) hx hb hXs hbl hbA hS (by omega) (by omega) dL_law_787 ?_
  refine kc_top hp1 ?_
  refine lv_aload_n hx hb dL_law_788 rfl (lv_at hl 1 rfl) ?_
  refine lv_iload hx hb dL_law_789 (lv_at hl 5 rfl) ?_
  refine lv_iconst (v := 2) hx hb dL_law_791 (by decide) ?_
  refine lv_iadd hx hb dL_law_792 ?_
  refine kc_top (show (nI i) + 2 = nI (i + 2) from nI_add _ _) ?_
  refine kc_sld (i := i + 2) hx hb hXs hbl hbA hS (by omega) (by omega) dL_law_793 ?_
  refine kc_top hp2 ?_
  refine kc_wVi (w1 := wMd md cI 0 mK mc mD mr mw my mC mk ms mu mt mp mb me) (wr := [(ad 0, .inr (1, [.ref (ad 1), .ref (ad 2), .ref (ad 3), .ref (ad 4), .ref (ad 5), .int (nI K), .int (nI Dn), .int mv])), (ad 1, .inl (cI, 8, .inl cd)), (ad 2, .inl (cI, 8, .inl te)), (ad 3, .inl (cI, 8, .inl ri)), (ad 4, .inl (cI, 8, .inl pi)), (ad 5, .inl (cI, 8, .inl pw)), (ad 6, .inr (0, [.ref (ad 7), .ref (ad 8), .ref (ad 9), .ref (ad 10), .ref (ad 11), .ref (ad 12), .ref (ad 13), .int (nI C)])), (ad 7, .inl (cI, 24, .inl ko)), (ad 8, .inl (cI, 24, .inl so)), (ad 9, .inl (cI, 24, .inl tl)), (ad 10, .inl (cI, 216, .inl lp)), (ad 11, .inl (cI, 216, .inl lb)), (ad 12, .inl (cI, 216, .inl ld)), (ad 13, .inl (cI, 216, .inl le)), (ad 14, .inr (2, [.ref (ad 0), .ref (ad 6), .ref (ad 15), .ref (ad 16), .int dy])), (ad 15, .inl (cI, 8, .inl cl)), (ad 16, .inl (cI, 8, .inl dq)), (ad 17, .inl (cL, 1, .inr (.inl (vp_updL ou 0 (if (jAbove (jDoors pi te k Dn) (jDoors pi te k2 Dn)) = true then 1 else 0)))))]) (ws1 := wLaw ad cI cd te ri pi pw K Dn mv ko so tl lp lb ld le C cl dq dy cL (vp_updL ou 0 (if (jAbove (jDoors pi te k Dn) (jDoors pi te k2 Dn)) = true then 1 else 0)) md 0 mK mc mD mr mw my mC mk ms mu mt mp mb me) (As := [.int (nI k), .int (nI k2)]) (rest := []) ⟨hx, hb, hml, hown, hts⟩ (c_X3_isAbove_ok l D md cI th mK mc mD mr mw my mC mk ms mu mt mp mb me k k2 H.size m_hK8 m_hD8 m_hk m_hk2) (cwV 2 hts gL_law_X3_isAbove rfl rfl rfl (by decide +kernel) ⟨Nat.le_of_ble_eq_true rfl, Nat.le_of_ble_eq_true rfl⟩) hK hP hD hS hA [18, 19, 20, 21, 22, 23, 24, 25, 26, 27] [0, 1, 2, 3, 4, 5, 6, 7, 8, 9, 10, 11, 12, 13, 14, 15, 16, 17] [0, 1, 2, 3, 4, 5, 6, 7, 8, 9, 10, 11, 12, 13, 14, 15, 16, 17, 18, 19, 20, 21, 22, 23, 24, 25, 26, 27] [0] rfl rfl rfl rfl (by decide) rfl rfl rfl 18 rfl rfl rfl rfl hl.1 rfl (Nat.le_of_ble_eq_true rfl) dL_law_794 ⟨kc_rc (by omega), kc_rs (by omega)⟩ (fun H locs hP hD hS => ?_)
  refine lv_istore (lv' := [(6, .int (bI (mAbove (mDoors mr mc mK (mc k) mD) (mDoors mr mc mK (mc k2) mD)))), (5, .int 0), (0, .ref b), (1, .ref (ad 14)), (2, .ref (md 0)), (3, .ref (ad 17)), (4, .int (nI i))]) hx hb dL_law_797 hl (by decide) rfl (fun ls hl => ?_)
  refine lv_aload_n hx hb dL_law_799 rfl (lv_at hl 4 rfl) ?_
  refine kc_rVi (As := []) (rest := []) ⟨hx, hb, hml, hown, hts⟩ (c_X3_thrown l D md cI 0 mK mc mD mr mw my mC mk ms mu mt mp mb me ) (cwV 0 hts gL_law_X3_thrown rfl rfl rfl (by decide +kernel) ⟨Nat.le_of_ble_eq_true rfl, Nat.le_of_ble_eq_true rfl⟩) hK hP [18, 19, 20, 21, 22, 23, 24, 25, 26, 27] [0] rfl rfl 18 rfl rfl rfl rfl hl.1 rfl (Nat.le_of_ble_eq_true rfl) dL_law_800 ⟨kc_rc (by omega), kc_rs (by omega)⟩ ?_
  refine lv_iload hx hb dL_law_803 (lv_at hl 1 rfl) ?_
  refine lv_icmp_eq (tgt := 810) hx hb dL_law_805 (by decide) (fun c_805 => ?_) (fun c_805 => absurd c_805 (by decide))
  refine lv_iload hx hb dL_law_810 (lv_at hl 1 rfl) ?_
  refine lv_if_ne (tgt := 834) hx hb dL_law_812 (by decide) (fun c_812 => absurd c_812 (by decide)) (fun c_812 => ?_)
  refine lv_aload_n hx hb dL_law_815 rfl (lv_at hl 5 rfl) ?_
  refine lv_iconst (v := 0) hx hb dL_law_816 (by decide) ?_
  refine kc_lld (i := 0) (n := 1) hx hb hK hP 17 1 rfl rfl (by decide) (by decide) dL_law_817 ?_
  refine kc_topl (show ((vp_updL ou 0 (if (jAbove (jDoors pi te k Dn) (jDoors pi te k2 Dn)) = true then 1 else 0))) 0 = if (jAbove (jDoors pi te k Dn) (jDoors pi te k2 Dn)) = true then 1 else 0 from pk_uLs) ?_
  refine lv_iload hx hb dL_law_818 (lv_at hl 0 rfl) ?_
  refine kc_ifeqB (tgt := 827) hx hb dL_law_820 (by decide) (fun c_820 => ?_) (fun c_820 => ?_)
  · refine lv_lconst (v := 0) hx hb dL_law_827 (by decide) ?_
    refine W.lcmp hx hb dL_law_828 ?_
    refine kc_top (show lg_cmp (if (jAbove (jDoors pi te k Dn) (jDoors pi te k2 Dn)) = true then 1 else 0) 0 = 0 from kc_lcmp0 (by rw [hres]; exact if_neg c_820)) ?_
    refine lv_if_eq (tgt := 834) hx hb dL_law_829 (by decide) (fun c_829 => ?_) (fun c_829 => absurd c_829 (by decide))
    refine lv_goto (tgt := 1633) hx hb dL_law_834 (by decide) ?_
    refine W.widen (k := cells + 2) (n := slots + 16) (by omega) (by omega) ?_
    exact K1 _ _ _ hP hD hS (lv_sub hl [2, 3, 4, 5, 6] rfl)
  · refine lv_lconst (v := 1) hx hb dL_law_823 (by decide) ?_
    refine lv_goto (tgt := 828) hx hb dL_law_824 (by decide) ?_
    refine W.lcmp hx hb dL_law_828 ?_
    refine kc_top (show lg_cmp (if (jAbove (jDoors pi te k Dn) (jDoors pi te k2 Dn)) = true then 1 else 0) 1 = 0 from kc_lcmp0 (by rw [hres]; exact if_pos c_820)) ?_
    refine lv_if_eq (tgt := 834) hx hb dL_law_829 (by decide) (fun c_829 => ?_) (fun c_829 => absurd c_829 (by decide))
    refine lv_goto (tgt := 1633) hx hb dL_law_834 (by decide) ?_
    refine W.widen (k := cells + 2) (n := slots + 16) (by omega) (by omega) ?_
    exact K1 _ _ _ hP hD hS (lv_sub hl [2, 3, 4, 5, 6] rfl)
set_option maxHeartbeats 4000000 in
set_option maxRecDepth 100000 in
theorem lw_isAbove_f1_f1 {p : Program} {l : Launch} {e : Env} {s : State} {m : MethodId} {below : List Frame} {meth : Method} {c : Code} {Q : State → Prop} {b L : Nat} {xs : Nat → Int32} (hlf : l.stackTraces = false) (C0 : lw_At p s m meth c b L xs) {D : va_G} {cI cL : ClassId} (hK : kcK D [(cI, .int), (cL, .long)] s) (hX0 : kcX (fun q => s.heap.size ≤ q) s s.heap) (hL : L ≤ 2048) (i : Nat) (hi : i + 3 < L) (ad : Nat → Nat) (cd : Nat → Int32) (te : Nat → Int32) (ri : Nat → Int32) (pi : Nat → Int32) (pw : Nat → Int32) (K : Nat) (Dn : Nat) (mv : Int32) (ko : Nat → Int32) (so : Nat → Int32) (tl : Nat → Int32) (lp : Nat → Int32) (lb : Nat → Int32) (ld : Nat → Int32) (le : Nat → Int32) (C : Nat) (cl : Nat → Int32) (dq : Nat → Int32) (dy : Int32) (ou : Nat → Int64) (md : Nat → Nat) (th : Int32) (mK : Nat) (mc : Nat → Int32) (mD : Nat) (mr : Nat → Int32) (mw : Int32) (my : Int32) (mC : Nat) (mk : Nat → Int32) (ms : Nat → Int32) (mu : Nat → Int32) (mt : Nat → Int32) (mp : Nat → Int32) (mb : Nat → Int32) (me : Nat → Int32) (x : Int32) (y : Int32) (hBad : ¬ jIn K x = true) (m_hBad : ¬ jIn mK x = true) (hp1 : xs (i + 1) = x) (hp2 : xs (i + 2) = y)  {H : Heap} {locs : List Loc} {cells slots : Nat} (hce : cells + 2 ≤ 601024) (hsl : slots + 16 ≤ 7293034) (hP : va_P D vwCl (wLaw ad cI cd te ri pi pw K Dn mv ko so tl lp lb ld le C cl dq dy cL ou md th mK mc mD mr mw my mC mk ms mu mt mp mb me) H) (hD : va_D (fun q => s.heap.size ≤ q) (wLaw ad cI cd te ri pi pw K Dn mv ko so tl lp lb ld le C cl dq dy cL ou md th mK mc mD mr mw my mC mk ms mu mt mp mb me)) (hS : va_S (fun q => s.heap.size ≤ q) s.heap H locs) {ls : Array Slot} (hl : lv_has ls 9 [(0, .ref b), (1, .ref (ad 14)), (2, .ref (md 0)), (3, .ref (ad 17)), (4, .int (nI i))]) (K1 : ∀ (H : Heap) (locs : List Loc) (ls : Array Slot), va_P D vwCl (wLaw ad cI cd te ri pi pw K Dn mv ko so tl lp lb ld le C cl dq dy cL ou md 1 mK mc mD mr mw my mC mk ms mu mt mp mb me) H → va_D (fun q => s.heap.size ≤ q) (wLaw ad cI cd te ri pi pw K Dn mv ko so tl lp lb ld le C cl dq dy cL ou md 1 mK mc mD mr mw my mC mk ms mu mt mp mb me) → va_S (fun q => s.heap.size ≤ q) s.heap H locs → lv_has ls 9 [(0, .ref b), (1, .ref (ad 14)), (2, .ref (md 0)), (3, .ref (ad 17)), (4, .int (nI i))] → W p l e room_1 s m #[Value.ref b] below meth c H locs (cells + 2) (slots + 16) Q (F0 m 1633 ls [])) : W p l e room_1 s m #[Value.ref b] below meth c H locs cells slots Q (F0 m 762 ls []) := by
  obtain ⟨hx, hb, hr, hml, hown, hts, hXs, hbl, hlocks, hgv⟩ := id C0
  have hts := fun w h => hts w (wsL_law_in w h)
  have hb : c.code = cL_law := hb
  have hA : ∀ q : Nat, s.heap.size ≤ q → (fun q : Nat => s.heap.size ≤ q) q := fun _ h => h
  have hbA : ¬ (fun q : Nat => s.heap.size ≤ q) b := Nat.not_le.mpr hbl
  refine lv_aload_n hx hb dL_law_762 rfl (lv_at hl 1 rfl) ?_
  refine lv_aload_n hx hb dL_law_763 rfl (lv_at hl 0 rfl) ?_
  refine lv_iload hx hb dL_law_764 (lv_at hl 4 rfl) ?_
  refine lv_iconst (v := 1) hx hb dL_law_766 (by decide) ?_
  refine lv_iadd hx hb dL_law_767 ?_
  refine kc_top (show (nI i) + 1 = nI (i + 1) from nI_add _ _) ?_
  refine kc_sld (i := i + 1) hx hb hXs hbl hbA hS (by omega) (by omega) dL_law_768 ?_
  refine kc_top hp1 ?_
  refine lv_aload_n hx hb dL_law_769 rfl (lv_at hl 0 rfl) ?_
  refine lv_iload hx hb dL_law_770 (lv_at hl 4 rfl) ?_
  refine lv_iconst (v := 2) hx hb dL_law_772 (by decide) ?_
  refine lv_iadd hx hb dL_law_773 ?_
  refine kc_top (show (nI i) + 2 = nI (i + 2) from nI_add _ _) ?_
  refine kc_sld (i := i + 2) hx hb hXs hbl hbA hS (by omega) (by omega) dL_law_774 ?_
  refine kc_top hp2 ?_
  refine lv_aload_n hx hb dL_law_775 rfl (lv_at hl 3 rfl) ?_
  have hX := kc_xat hX0 hS
  refine kc_hXi (w1 := wLh ad cI cd te ri pi pw K Dn mv ko so tl lp lb ld le C cl dq dy cL ou) (wr := [(md 0, .inr (3, [.int th, .int (nI mK), .ref (md 1), .int (nI mD), .ref (md 2), .int mw, .int my, .int (nI mC), .ref (md 3), .ref (md 4), .ref (md 5), .ref (md 6), .ref (md 7), .ref (md 8), .ref (md 9)])), (md 1, .inl (cI, 8, .inl mc)), (md 2, .inl (cI, 8, .inl mr)), (md 3, .inl (cI, 24, .inl mk)), (md 4, .inl (cI, 24, .inl ms)), (md 5, .inl (cI, 24, .inl mu)), (md 6, .inl (cI, 24, .inl mt)), (md 7, .inl (cI, 216, .inl mp)), (md 8, .inl (cI, 216, .inl mb)), (md 9, .inl (cI, 216, .inl me))]) (ws1 := wLaw ad cI cd te ri pi pw K Dn mv ko so tl lp lb ld le C cl dq dy cL ou md th mK mc mD mr mw my mC mk ms mu mt mp mb me) (As := [.ref (ad 14), .int x, .int y, .ref (ad 17)]) (rest := []) ⟨hx, hb, hml, hown, hts⟩ (c_L_isAbove_f1 l hlf D ad cI cd te ri pi pw K Dn mv ko so tl lp lb ld le C cl dq dy cL ou x y H.size hBad) (vx_cwSW 4 hts gL_law_L_isAbove rfl rfl rfl (by decide +kernel) ⟨Nat.le_of_ble_eq_true rfl, Nat.le_of_ble_eq_true rfl⟩) hK hP hD hX hS hA [0, 1, 2, 3, 4, 5, 6, 7, 8, 9, 10, 11, 12, 13, 14, 15, 16, 17] [18, 19, 20, 21, 22, 23, 24, 25, 26, 27] [10, 11, 12, 13, 14, 15, 16, 17, 18, 19, 20, 21, 22, 23, 24, 25, 26, 27, 0, 1, 2, 3, 4, 5, 6, 7, 8, 9] [0, 1] rfl rfl rfl rfl (by decide) rfl rfl rfl rfl hl.1 rfl (Nat.le_of_ble_eq_true rfl) dL_law_776 ⟨kc_rc (by omega), kc_rs (by omega)⟩ (fun H locs hP hD hS => ?_)
  refine lv_istore (lv' := [(5, .int 1), (0, .ref b), (1, .ref (ad 14)), (2, .ref (md 0)), (3, .ref (ad 17)), (4, .int (nI i))]) hx hb dL_law_779 hl (by decide) rfl (fun ls hl => ?_)
  refine lv_aload_n hx hb dL_law_781 rfl (lv_at hl 3 rfl) ?_
  refine lv_aload_n hx hb dL_law_782 rfl (lv_at hl 1 rfl) ?_
  refine lv_iload hx hb dL_law_783 (lv_at hl 5 rfl) ?_
  refine lv_iconst (v := 1) hx hb dL_law_785 (by decide) ?_
  refine lv_iadd hx hb dL_law_786 ?_
  refine kc_top (show (nI i) + 1 = nI (i + 1) from nI_add _ _) ?_
  refine kc_sld (i := i + 1) hx hb hXs hbl hbA hS (by omega) (by omega) dL_law_787 ?_
  refine kc_top hp1 ?_
  refine lv_aload_n hx hb dL_law_788 rfl (lv_at hl 1 rfl) ?_
  refine lv_iload hx hb dL_law_789 (lv_at hl 5 rfl) ?_
  refine lv_iconst (v := 2) hx hb dL_law_791 (by decide) ?_
  refine lv_iadd hx hb dL_law_792 ?_
  refine kc_top (show (nI i) + 2 = nI (i + 2) from nI_add _ _) ?_
  refine kc_sld (i := i + 2) hx hb hXs hbl hbA hS (by omega) (by omega) dL_law_793 ?_
  refine kc_top hp2 ?_
  refine kc_wVi (w1 := wMd md cI 1 mK mc mD mr mw my mC mk ms mu mt mp mb me) (wr := [(ad 0, .inr (1, [.ref (ad 1), .ref (ad 2), .ref (ad 3), .ref (ad 4), .ref (ad 5), .int (nI K), .int (nI Dn), .int mv])), (ad 1, .inl (cI, 8, .inl cd)), (ad 2, .inl (cI, 8, .inl te)), (ad 3, .inl (cI, 8, .inl ri)), (ad 4, .inl (cI, 8, .inl pi)), (ad 5, .inl (cI, 8, .inl pw)), (ad 6, .inr (0, [.ref (ad 7), .ref (ad 8), .ref (ad 9), .ref (ad 10), .ref (ad 11), .ref (ad 12), .ref (ad 13), .int (nI C)])), (ad 7, .inl (cI, 24, .inl ko)), (ad 8, .inl (cI, 24, .inl so)), (ad 9, .inl (cI, 24, .inl tl)), (ad 10, .inl (cI, 216, .inl lp)), (ad 11, .inl (cI, 216, .inl lb)), (ad 12, .inl (cI, 216, .inl ld)), (ad 13, .inl (cI, 216, .inl le)), (ad 14, .inr (2, [.ref (ad 0), .ref (ad 6), .ref (ad 15), .ref (ad 16), .int dy])), (ad 15, .inl (cI, 8, .inl cl)), (ad 16, .inl (cI, 8, .inl dq)), (ad 17, .inl (cL, 1, .inr (.inl ou)))]) (ws1 := wLaw ad cI cd te ri pi pw K Dn mv ko so tl lp lb ld le C cl dq dy cL ou md 1 mK mc mD mr mw my mC mk ms mu mt mp mb me) (As := [.int x, .int y]) (rest := []) ⟨hx, hb, hml, hown, hts⟩ (c_X3_isAbove_f1 l D md cI th mK mc mD mr mw my mC mk ms mu mt mp mb me x y H.size m_hBad) (cwV 2 hts gL_law_X3_isAbove rfl rfl rfl (by decide +kernel) ⟨Nat.le_of_ble_eq_true rfl, Nat.le_of_ble_eq_true rfl⟩) hK hP hD hS hA [18, 19, 20, 21, 22, 23, 24, 25, 26, 27] [0, 1, 2, 3, 4, 5, 6, 7, 8, 9, 10, 11, 12, 13, 14, 15, 16, 17] [0, 1, 2, 3, 4, 5, 6, 7, 8, 9, 10, 11, 12, 13, 14, 15, 16, 17, 18, 19, 20, 21, 22, 23, 24, 25, 26, 27] [0] rfl rfl rfl rfl (by decide) rfl rfl rfl 18 rfl rfl rfl rfl hl.1 rfl (Nat.le_of_ble_eq_true rfl) dL_law_794 ⟨kc_rc (by omega), kc_rs (by omega)⟩ (fun H locs hP hD hS => ?_)
  refine lv_istore (lv' := [(6, .int 0), (5, .int 1), (0, .ref b), (1, .ref (ad 14)), (2, .ref (md 0)), (3, .ref (ad 17)), (4, .int (nI i))]) hx hb dL_law_797 hl (by decide) rfl (fun ls hl => ?_)
  refine lv_aload_n hx hb dL_law_799 rfl (lv_at hl 4 rfl) ?_
  refine kc_rVi (As := []) (rest := []) ⟨hx, hb, hml, hown, hts⟩ (c_X3_thrown l D md cI 1 mK mc mD mr mw my mC mk ms mu mt mp mb me ) (cwV 0 hts gL_law_X3_thrown rfl rfl rfl (by decide +kernel) ⟨Nat.le_of_ble_eq_true rfl, Nat.le_of_ble_eq_true rfl⟩) hK hP [18, 19, 20, 21, 22, 23, 24, 25, 26, 27] [0] rfl rfl 18 rfl rfl rfl rfl hl.1 rfl (Nat.le_of_ble_eq_true rfl) dL_law_800 ⟨kc_rc (by omega), kc_rs (by omega)⟩ ?_
  refine lv_iload hx hb dL_law_803 (lv_at hl 1 rfl) ?_
  refine lv_icmp_eq (tgt := 810) hx hb dL_law_805 (by decide) (fun c_805 => ?_) (fun c_805 => absurd c_805 (by decide))
  refine lv_iload hx hb dL_law_810 (lv_at hl 1 rfl) ?_
  refine lv_if_ne (tgt := 834) hx hb dL_law_812 (by decide) (fun c_812 => ?_) (fun c_812 => absurd c_812 (by decide))
  refine lv_goto (tgt := 1633) hx hb dL_law_834 (by decide) ?_
  refine W.widen (k := cells + 2) (n := slots + 16) (by omega) (by omega) ?_
  exact K1 _ _ _ hP hD hS (lv_sub hl [2, 3, 4, 5, 6] rfl)
set_option maxHeartbeats 4000000 in
set_option maxRecDepth 100000 in
theorem lw_isAbove_f2_f2 {p : Program} {l : Launch} {e : Env} {s : State} {m : MethodId} {below : List Frame} {meth : Method} {c : Code} {Q : State → Prop} {b L : Nat} {xs : Nat → Int32} (hlf : l.stackTraces = false) (C0 : lw_At p s m meth c b L xs) {D : va_G} {cI cL : ClassId} (hK : kcK D [(cI, .int), (cL, .long)] s) (hX0 : kcX (fun q => s.heap.size ≤ q) s s.heap) (hL : L ≤ 2048) (i : Nat) (hi : i + 3 < L) (ad : Nat → Nat) (cd : Nat → Int32) (te : Nat → Int32) (ri : Nat → Int32) (pi : Nat → Int32) (pw : Nat → Int32) (K : Nat) (Dn : Nat) (mv : Int32) (ko : Nat → Int32) (so : Nat → Int32) (tl : Nat → Int32) (lp : Nat → Int32) (lb : Nat → Int32) (ld : Nat → Int32) (le : Nat → Int32) (C : Nat) (cl : Nat → Int32) (dq : Nat → Int32) (dy : Int32) (ou : Nat → Int64) (md : Nat → Nat) (th : Int32) (mK : Nat) (mc : Nat → Int32) (mD : Nat) (mr : Nat → Int32) (mw : Int32) (my : Int32) (mC : Nat) (mk : Nat → Int32) (ms : Nat → Int32) (mu : Nat → Int32) (mt : Nat → Int32) (mp : Nat → Int32) (mb : Nat → Int32) (me : Nat → Int32) (k : Nat) (y : Int32) (hK8 : K ≤ 8) (hk : k < K) (hBad : ¬ jIn K y = true) (m_hK8 : mK ≤ 8) (m_hk : k < mK) (m_hBad : ¬ jIn mK y = true) (hp1 : xs (i + 1) = nI k) (hp2 : xs (i + 2) = y)  {H : Heap} {locs : List Loc} {cells slots : Nat} (hce : cells + 2 ≤ 601024) (hsl : slots + 16 ≤ 7293034) (hP : va_P D vwCl (wLaw ad cI cd te ri pi pw K Dn mv ko so tl lp lb ld le C cl dq dy cL ou md th mK mc mD mr mw my mC mk ms mu mt mp mb me) H) (hD : va_D (fun q => s.heap.size ≤ q) (wLaw ad cI cd te ri pi pw K Dn mv ko so tl lp lb ld le C cl dq dy cL ou md th mK mc mD mr mw my mC mk ms mu mt mp mb me)) (hS : va_S (fun q => s.heap.size ≤ q) s.heap H locs) {ls : Array Slot} (hl : lv_has ls 9 [(0, .ref b), (1, .ref (ad 14)), (2, .ref (md 0)), (3, .ref (ad 17)), (4, .int (nI i))]) (K1 : ∀ (H : Heap) (locs : List Loc) (ls : Array Slot), va_P D vwCl (wLaw ad cI cd te ri pi pw K Dn mv ko so tl lp lb ld le C cl dq dy cL ou md 1 mK mc mD mr mw my mC mk ms mu mt mp mb me) H → va_D (fun q => s.heap.size ≤ q) (wLaw ad cI cd te ri pi pw K Dn mv ko so tl lp lb ld le C cl dq dy cL ou md 1 mK mc mD mr mw my mC mk ms mu mt mp mb me) → va_S (fun q => s.heap.size ≤ q) s.heap H locs → lv_has ls 9 [(0, .ref b), (1, .ref (ad 14)), (2, .ref (md 0)), (3, .ref (ad 17)), (4, .int (nI i))] → W p l e room_1 s m #[Value.ref b] below meth c H locs (cells + 2) (slots + 16) Q (F0 m 1633 ls [])) : W p l e room_1 s m #[Value.ref b] below meth c H locs cells slots Q (F0 m 762 ls []) := by
  obtain ⟨hx, hb, hr, hml, hown, hts, hXs, hbl, hlocks, hgv⟩ := id C0
  have hts := fun w h => hts w (wsL_law_in w h)
  have hb : c.code = cL_law := hb
  have hA : ∀ q : Nat, s.heap.size ≤ q → (fun q : Nat => s.heap.size ≤ q) q := fun _ h => h
  have hbA : ¬ (fun q : Nat => s.heap.size ≤ q) b := Nat.not_le.mpr hbl
  refine lv_aload_n hx hb dL_law_762 rfl (lv_at hl 1 rfl) ?_
  refine lv_aload_n hx hb dL_law_763 rfl (lv_at hl 0 rfl) ?_
  refine lv_iload hx hb dL_law_764 (lv_at hl 4 rfl) ?_
  refine lv_iconst (v := 1) hx hb dL_law_766 (by decide) ?_
  refine lv_iadd hx hb dL_law_767 ?_
  refine kc_top (show (nI i) + 1 = nI (i + 1) from nI_add _ _) ?_
  refine kc_sld (i := i + 1) hx hb hXs hbl hbA hS (by omega) (by omega) dL_law_768 ?_
  refine kc_top hp1 ?_
  refine lv_aload_n hx hb dL_law_769 rfl (lv_at hl 0 rfl) ?_
  refine lv_iload hx hb dL_law_770 (lv_at hl 4 rfl) ?_
  refine lv_iconst (v := 2) hx hb dL_law_772 (by decide) ?_
  refine lv_iadd hx hb dL_law_773 ?_
  refine kc_top (show (nI i) + 2 = nI (i + 2) from nI_add _ _) ?_
  refine kc_sld (i := i + 2) hx hb hXs hbl hbA hS (by omega) (by omega) dL_law_774 ?_
  refine kc_top hp2 ?_
  refine lv_aload_n hx hb dL_law_775 rfl (lv_at hl 3 rfl) ?_
  have hX := kc_xat hX0 hS
  refine kc_hXi (w1 := wLh ad cI cd te ri pi pw K Dn mv ko so tl lp lb ld le C cl dq dy cL ou) (wr := [(md 0, .inr (3, [.int th, .int (nI mK), .ref (md 1), .int (nI mD), .ref (md 2), .int mw, .int my, .int (nI mC), .ref (md 3), .ref (md 4), .ref (md 5), .ref (md 6), .ref (md 7), .ref (md 8), .ref (md 9)])), (md 1, .inl (cI, 8, .inl mc)), (md 2, .inl (cI, 8, .inl mr)), (md 3, .inl (cI, 24, .inl mk)), (md 4, .inl (cI, 24, .inl ms)), (md 5, .inl (cI, 24, .inl mu)), (md 6, .inl (cI, 24, .inl mt)), (md 7, .inl (cI, 216, .inl mp)), (md 8, .inl (cI, 216, .inl mb)), (md 9, .inl (cI, 216, .inl me))]) (ws1 := wLaw ad cI cd te ri pi pw K Dn mv ko so tl lp lb ld le C cl dq dy cL ou md th mK mc mD mr mw my mC mk ms mu mt mp mb me) (As := [.ref (ad 14), .int (nI k), .int y, .ref (ad 17)]) (rest := []) ⟨hx, hb, hml, hown, hts⟩ (c_L_isAbove_f2 l hlf D ad cI cd te ri pi pw K Dn mv ko so tl lp lb ld le C cl dq dy cL ou k y H.size hK8 hk hBad) (vx_cwSW 4 hts gL_law_L_isAbove rfl rfl rfl (by decide +kernel) ⟨Nat.le_of_ble_eq_true rfl, Nat.le_of_ble_eq_true rfl⟩) hK hP hD hX hS hA [0, 1, 2, 3, 4, 5, 6, 7, 8, 9, 10, 11, 12, 13, 14, 15, 16, 17] [18, 19, 20, 21, 22, 23, 24, 25, 26, 27] [10, 11, 12, 13, 14, 15, 16, 17, 18, 19, 20, 21, 22, 23, 24, 25, 26, 27, 0, 1, 2, 3, 4, 5, 6, 7, 8, 9] [0, 1] rfl rfl rfl rfl (by decide) rfl rfl rfl rfl hl.1 rfl (Nat.le_of_ble_eq_true rfl) dL_law_776 ⟨kc_rc (by omega), kc_rs (by omega)⟩ (fun H locs hP hD hS => ?_)
  refine lv_istore (lv' := [(5, .int 1), (0, .ref b), (1, .ref (ad 14)), (2, .ref (md 0)), (3, .ref (ad 17)), (4, .int (nI i))]) hx hb dL_law_779 hl (by decide) rfl (fun ls hl => ?_)
  refine lv_aload_n hx hb dL_law_781 rfl (lv_at hl 3 rfl) ?_
  refine lv_aload_n hx hb dL_law_782 rfl (lv_at hl 1 rfl) ?_
  refine lv_iload hx hb dL_law_783 (lv_at hl 5 rfl) ?_
  refine lv_iconst (v := 1) hx hb dL_law_785 (by decide) ?_
  refine lv_iadd hx hb dL_law_786 ?_
  refine kc_top (show (nI i) + 1 = nI (i + 1) from nI_add _ _) ?_
  refine kc_sld (i := i + 1) hx hb hXs hbl hbA hS (by omega) (by omega) dL_law_787 ?_
  refine kc_top hp1 ?_
  refine lv_aload_n hx hb dL_law_788 rfl (lv_at hl 1 rfl) ?_
  refine lv_iload hx hb dL_law_789 (lv_at hl 5 rfl) ?_
  refine lv_iconst (v := 2) hx hb dL_law_791 (by decide) ?_
  refine lv_iadd hx hb dL_law_792 ?_
  refine kc_top (show (nI i) + 2 = nI (i + 2) from nI_add _ _) ?_
  refine kc_sld (i := i + 2) hx hb hXs hbl hbA hS (by omega) (by omega) dL_law_793 ?_
  refine kc_top hp2 ?_
  refine kc_wVi (w1 := wMd md cI 1 mK mc mD mr mw my mC mk ms mu mt mp mb me) (wr := [(ad 0, .inr (1, [.ref (ad 1), .ref (ad 2), .ref (ad 3), .ref (ad 4), .ref (ad 5), .int (nI K), .int (nI Dn), .int mv])), (ad 1, .inl (cI, 8, .inl cd)), (ad 2, .inl (cI, 8, .inl te)), (ad 3, .inl (cI, 8, .inl ri)), (ad 4, .inl (cI, 8, .inl pi)), (ad 5, .inl (cI, 8, .inl pw)), (ad 6, .inr (0, [.ref (ad 7), .ref (ad 8), .ref (ad 9), .ref (ad 10), .ref (ad 11), .ref (ad 12), .ref (ad 13), .int (nI C)])), (ad 7, .inl (cI, 24, .inl ko)), (ad 8, .inl (cI, 24, .inl so)), (ad 9, .inl (cI, 24, .inl tl)), (ad 10, .inl (cI, 216, .inl lp)), (ad 11, .inl (cI, 216, .inl lb)), (ad 12, .inl (cI, 216, .inl ld)), (ad 13, .inl (cI, 216, .inl le)), (ad 14, .inr (2, [.ref (ad 0), .ref (ad 6), .ref (ad 15), .ref (ad 16), .int dy])), (ad 15, .inl (cI, 8, .inl cl)), (ad 16, .inl (cI, 8, .inl dq)), (ad 17, .inl (cL, 1, .inr (.inl ou)))]) (ws1 := wLaw ad cI cd te ri pi pw K Dn mv ko so tl lp lb ld le C cl dq dy cL ou md 1 mK mc mD mr mw my mC mk ms mu mt mp mb me) (As := [.int (nI k), .int y]) (rest := []) ⟨hx, hb, hml, hown, hts⟩ (c_X3_isAbove_f2 l D md cI th mK mc mD mr mw my mC mk ms mu mt mp mb me k y H.size m_hK8 m_hk m_hBad) (cwV 2 hts gL_law_X3_isAbove rfl rfl rfl (by decide +kernel) ⟨Nat.le_of_ble_eq_true rfl, Nat.le_of_ble_eq_true rfl⟩) hK hP hD hS hA [18, 19, 20, 21, 22, 23, 24, 25, 26, 27] [0, 1, 2, 3, 4, 5, 6, 7, 8, 9, 10, 11, 12, 13, 14, 15, 16, 17] [0, 1, 2, 3, 4, 5, 6, 7, 8, 9, 10, 11, 12, 13, 14, 15, 16, 17, 18, 19, 20, 21, 22, 23, 24, 25, 26, 27] [0] rfl rfl rfl rfl (by decide) rfl rfl rfl 18 rfl rfl rfl rfl hl.1 rfl (Nat.le_of_ble_eq_true rfl) dL_law_794 ⟨kc_rc (by omega), kc_rs (by omega)⟩ (fun H locs hP hD hS => ?_)
  refine lv_istore (lv' := [(6, .int 0), (5, .int 1), (0, .ref b), (1, .ref (ad 14)), (2, .ref (md 0)), (3, .ref (ad 17)), (4, .int (nI i))]) hx hb dL_law_797 hl (by decide) rfl (fun ls hl => ?_)
  refine lv_aload_n hx hb dL_law_799 rfl (lv_at hl 4 rfl) ?_
  refine kc_rVi (As := []) (rest := []) ⟨hx, hb, hml, hown, hts⟩ (c_X3_thrown l D md cI 1 mK mc mD mr mw my mC mk ms mu mt mp mb me ) (cwV 0 hts gL_law_X3_thrown rfl rfl rfl (by decide +kernel) ⟨Nat.le_of_ble_eq_true rfl, Nat.le_of_ble_eq_true rfl⟩) hK hP [18, 19, 20, 21, 22, 23, 24, 25, 26, 27] [0] rfl rfl 18 rfl rfl rfl rfl hl.1 rfl (Nat.le_of_ble_eq_true rfl) dL_law_800 ⟨kc_rc (by omega), kc_rs (by omega)⟩ ?_
  refine lv_iload hx hb dL_law_803 (lv_at hl 1 rfl) ?_
  refine lv_icmp_eq (tgt := 810) hx hb dL_law_805 (by decide) (fun c_805 => ?_) (fun c_805 => absurd c_805 (by decide))
  refine lv_iload hx hb dL_law_810 (lv_at hl 1 rfl) ?_
  refine lv_if_ne (tgt := 834) hx hb dL_law_812 (by decide) (fun c_812 => ?_) (fun c_812 => absurd c_812 (by decide))
  refine lv_goto (tgt := 1633) hx hb dL_law_834 (by decide) ?_
  refine W.widen (k := cells + 2) (n := slots + 16) (by omega) (by omega) ?_
  exact K1 _ _ _ hP hD hS (lv_sub hl [2, 3, 4, 5, 6] rfl)
set_option maxHeartbeats 4000000 in
set_option maxRecDepth 100000 in
theorem lw_replace_none_none {p : Program} {l : Launch} {e : Env} {s : State} {m : MethodId} {below : List Frame} {meth : Method} {c : Code} {Q : State → Prop} {b L : Nat} {xs : Nat → Int32} (hlf : l.stackTraces = false) (C0 : lw_At p s m meth c b L xs) {D : va_G} {cI cL : ClassId} (hK : kcK D [(cI, .int), (cL, .long)] s) (hX0 : kcX (fun q => s.heap.size ≤ q) s s.heap) (hL : L ≤ 2048) (i : Nat) (hi : i + 3 < L) (ad : Nat → Nat) (cd : Nat → Int32) (te : Nat → Int32) (ri : Nat → Int32) (pi : Nat → Int32) (pw : Nat → Int32) (K : Nat) (Dn : Nat) (mv : Int32) (ko : Nat → Int32) (so : Nat → Int32) (tl : Nat → Int32) (lp : Nat → Int32) (lb : Nat → Int32) (ld : Nat → Int32) (le : Nat → Int32) (C : Nat) (cl : Nat → Int32) (dq : Nat → Int32) (dy : Int32) (ou : Nat → Int64) (md : Nat → Nat) (th : Int32) (mK : Nat) (mc : Nat → Int32) (mD : Nat) (mr : Nat → Int32) (mw : Int32) (my : Int32) (mC : Nat) (mk : Nat → Int32) (ms : Nat → Int32) (mu : Nat → Int32) (mt : Nat → Int32) (mp : Nat → Int32) (mb : Nat → Int32) (me : Nat → Int32) (k : Nat) (tn : Nat → Nat) (hK8 : K ≤ 8) (hD8 : Dn ≤ 8) (hk : k < K) (hne : (jBest cd te ri pi (jWithout te ri K k pw Dn) K Dn k 1024).1 = (-1)) (m_hK8 : mK ≤ 8) (m_hD8 : mD ≤ 8) (m_hC24 : mC ≤ 24) (m_hk : k < mK) (m_hok : okLe ms mt tn) (m_hne : (mR mr mc (mPinsAll mr mc mK mD) mK mD k (mc k) 1024).2.1 = (-1)) (hp1 : xs (i + 1) = nI k) (hres : (-1 : Int32) = (-1)) {H : Heap} {locs : List Loc} {cells slots : Nat} (hce : cells + 2 ≤ 601024) (hsl : slots + 16 ≤ 7293034) (hP : va_P D vwCl (wLaw ad cI cd te ri pi pw K Dn mv ko so tl lp lb ld le C cl dq dy cL ou md th mK mc mD mr mw my mC mk ms mu mt mp mb me) H) (hD : va_D (fun q => s.heap.size ≤ q) (wLaw ad cI cd te ri pi pw K Dn mv ko so tl lp lb ld le C cl dq dy cL ou md th mK mc mD mr mw my mC mk ms mu mt mp mb me)) (hS : va_S (fun q => s.heap.size ≤ q) s.heap H locs) {ls : Array Slot} (hl : lv_has ls 9 [(0, .ref b), (1, .ref (ad 14)), (2, .ref (md 0)), (3, .ref (ad 17)), (4, .int (nI i))]) (K1 : ∀ (H : Heap) (locs : List Loc) (ls : Array Slot), va_P D vwCl (wLaw ad cI cd te ri pi (jWithout te ri K k pw Dn) K Dn mv ko so tl lp lb ld le C cl dq dy cL (vp_updL ou 0 (Int32.toInt64 (-1))) md 0 mK (upd (mR mr mc (mPinsAll mr mc mK mD) mK mD k (mc k) 1024).1 k (mc k)) mD mr mw my mC mk ms mu mt mp mb me) H → va_D (fun q => s.heap.size ≤ q) (wLaw ad cI cd te ri pi (jWithout te ri K k pw Dn) K Dn mv ko so tl lp lb ld le C cl dq dy cL (vp_updL ou 0 (Int32.toInt64 (-1))) md 0 mK (upd (mR mr mc (mPinsAll mr mc mK mD) mK mD k (mc k) 1024).1 k (mc k)) mD mr mw my mC mk ms mu mt mp mb me) → va_S (fun q => s.heap.size ≤ q) s.heap H locs → lv_has ls 9 [(0, .ref b), (1, .ref (ad 14)), (2, .ref (md 0)), (3, .ref (ad 17)), (4, .int (nI i))] → W p l e room_1 s m #[Value.ref b] below meth c H locs (cells + 2) (slots + 16) Q (F0 m 1633 ls [])) : W p l e room_1 s m #[Value.ref b] below meth c H locs cells slots Q (F0 m 850 ls []) := by
  obtain ⟨hx, hb, hr, hml, hown, hts, hXs, hbl, hlocks, hgv⟩ := id C0
  have hts := fun w h => hts w (wsL_law_in w h)
  have hb : c.code = cL_law := hb
  have hA : ∀ q : Nat, s.heap.size ≤ q → (fun q : Nat => s.heap.size ≤ q) q := fun _ h => h
  have hbA : ¬ (fun q : Nat => s.heap.size ≤ q) b := Nat.not_le.mpr hbl
  refine lv_aload_n hx hb dL_law_850 rfl (lv_at hl 1 rfl) ?_
  refine lv_aload_n hx hb dL_law_851 rfl (lv_at hl 0 rfl) ?_
  refine lv_iload hx hb dL_law_852 (lv_at hl 4 rfl) ?_
  refine lv_iconst (v := 1) hx hb dL_law_854 (by decide) ?_
  refine lv_iadd hx hb dL_law_855 ?_
  refine kc_top (show (nI i) + 1 = nI (i + 1) from nI_add _ _) ?_
  refine kc_sld (i := i + 1) hx hb hXs hbl hbA hS (by omega) (by omega) dL_law_856 ?_
  refine kc_top hp1 ?_
  refine lv_aload_n hx hb dL_law_857 rfl (lv_at hl 3 rfl) ?_
  refine kc_hSi (w1 := wLh ad cI cd te ri pi (jWithout te ri K k pw Dn) K Dn mv ko so tl lp lb ld le C cl dq dy cL (vp_updL ou 0 (Int32.toInt64 (-1)))) (wr := [(md 0, .inr (3, [.int th, .int (nI mK), .ref (md 1), .int (nI mD), .ref (md 2), .int mw, .int my, .int (nI mC), .ref (md 3), .ref (md 4), .ref (md 5), .ref (md 6), .ref (md 7), .ref (md 8), .ref (md 9)])), (md 1, .inl (cI, 8, .inl mc)), (md 2, .inl (cI, 8, .inl mr)), (md 3, .inl (cI, 24, .inl mk)), (md 4, .inl (cI, 24, .inl ms)), (md 5, .inl (cI, 24, .inl mu)), (md 6, .inl (cI, 24, .inl mt)), (md 7, .inl (cI, 216, .inl mp)), (md 8, .inl (cI, 216, .inl mb)), (md 9, .inl (cI, 216, .inl me))]) (ws1 := wLaw ad cI cd te ri pi (jWithout te ri K k pw Dn) K Dn mv ko so tl lp lb ld le C cl dq dy cL (vp_updL ou 0 (Int32.toInt64 (-1))) md th mK mc mD mr mw my mC mk ms mu mt mp mb me) (As := [.ref (ad 14), .int (nI k), .ref (ad 17)]) (rest := []) ⟨hx, hb, hml, hown, hts⟩ (c_L_replace_none l D ad cI cd te ri pi pw K Dn mv ko so tl lp lb ld le C cl dq dy cL ou k H.size hK8 hD8 hk hne) (vx_cwSW 3 hts gL_law_L_replace rfl rfl rfl (by decide +kernel) ⟨Nat.le_of_ble_eq_true rfl, Nat.le_of_ble_eq_true rfl⟩) hK hP hD hS hA [0, 1, 2, 3, 4, 5, 6, 7, 8, 9, 10, 11, 12, 13, 14, 15, 16, 17] [18, 19, 20, 21, 22, 23, 24, 25, 26, 27] [10, 11, 12, 13, 14, 15, 16, 17, 18, 19, 20, 21, 22, 23, 24, 25, 26, 27, 0, 1, 2, 3, 4, 5, 6, 7, 8, 9] [0, 1] rfl rfl rfl rfl (by decide) rfl rfl rfl rfl hl.1 rfl (Nat.le_of_ble_eq_true rfl) dL_law_858 ⟨kc_rc (by omega), kc_rs (by omega)⟩ (fun H locs hP hD hS => ?_)
  refine lv_istore (lv' := [(5, .int 0), (0, .ref b), (1, .ref (ad 14)), (2, .ref (md 0)), (3, .ref (ad 17)), (4, .int (nI i))]) hx hb dL_law_861 hl (by decide) rfl (fun ls hl => ?_)
  refine lv_aload_n hx hb dL_law_863 rfl (lv_at hl 3 rfl) ?_
  refine lv_aload_n hx hb dL_law_864 rfl (lv_at hl 1 rfl) ?_
  refine lv_iload hx hb dL_law_865 (lv_at hl 5 rfl) ?_
  refine lv_iconst (v := 1) hx hb dL_law_867 (by decide) ?_
  refine lv_iadd hx hb dL_law_868 ?_
  refine kc_top (show (nI i) + 1 = nI (i + 1) from nI_add _ _) ?_
  refine kc_sld (i := i + 1) hx hb hXs hbl hbA hS (by omega) (by omega) dL_law_869 ?_
  refine kc_top hp1 ?_
  refine kc_wVi (w1 := wMd md cI 0 mK (upd (mR mr mc (mPinsAll mr mc mK mD) mK mD k (mc k) 1024).1 k (mc k)) mD mr mw my mC mk ms mu mt mp mb me) (wr := [(ad 0, .inr (1, [.ref (ad 1), .ref (ad 2), .ref (ad 3), .ref (ad 4), .ref (ad 5), .int (nI K), .int (nI Dn), .int mv])), (ad 1, .inl (cI, 8, .inl cd)), (ad 2, .inl (cI, 8, .inl te)), (ad 3, .inl (cI, 8, .inl ri)), (ad 4, .inl (cI, 8, .inl pi)), (ad 5, .inl (cI, 8, .inl (jWithout te ri K k pw Dn))), (ad 6, .inr (0, [.ref (ad 7), .ref (ad 8), .ref (ad 9), .ref (ad 10), .ref (ad 11), .ref (ad 12), .ref (ad 13), .int (nI C)])), (ad 7, .inl (cI, 24, .inl ko)), (ad 8, .inl (cI, 24, .inl so)), (ad 9, .inl (cI, 24, .inl tl)), (ad 10, .inl (cI, 216, .inl lp)), (ad 11, .inl (cI, 216, .inl lb)), (ad 12, .inl (cI, 216, .inl ld)), (ad 13, .inl (cI, 216, .inl le)), (ad 14, .inr (2, [.ref (ad 0), .ref (ad 6), .ref (ad 15), .ref (ad 16), .int dy])), (ad 15, .inl (cI, 8, .inl cl)), (ad 16, .inl (cI, 8, .inl dq)), (ad 17, .inl (cL, 1, .inr (.inl (vp_updL ou 0 (Int32.toInt64 (-1))))))]) (ws1 := wLaw ad cI cd te ri pi (jWithout te ri K k pw Dn) K Dn mv ko so tl lp lb ld le C cl dq dy cL (vp_updL ou 0 (Int32.toInt64 (-1))) md 0 mK (upd (mR mr mc (mPinsAll mr mc mK mD) mK mD k (mc k) 1024).1 k (mc k)) mD mr mw my mC mk ms mu mt mp mb me) (As := [.int (nI k)]) (rest := []) ⟨hx, hb, hml, hown, hts⟩ (c_X3_replace_none l D md cI th mK mc mD mr mw my mC mk ms mu mt mp mb me k tn H.size m_hK8 m_hD8 m_hC24 m_hk m_hok m_hne) (cwV 1 hts gL_law_X3_replace rfl rfl rfl (by decide +kernel) ⟨Nat.le_of_ble_eq_true rfl, Nat.le_of_ble_eq_true rfl⟩) hK hP hD hS hA [18, 19, 20, 21, 22, 23, 24, 25, 26, 27] [0, 1, 2, 3, 4, 5, 6, 7, 8, 9, 10, 11, 12, 13, 14, 15, 16, 17] [0, 1, 2, 3, 4, 5, 6, 7, 8, 9, 10, 11, 12, 13, 14, 15, 16, 17, 18, 19, 20, 21, 22, 23, 24, 25, 26, 27] [0] rfl rfl rfl rfl (by decide) rfl rfl rfl 18 rfl rfl rfl rfl hl.1 rfl (Nat.le_of_ble_eq_true rfl) dL_law_870 ⟨kc_rc (by omega), kc_rs (by omega)⟩ (fun H locs hP hD hS => ?_)
  refine lv_istore (lv' := [(6, .int (-1)), (5, .int 0), (0, .ref b), (1, .ref (ad 14)), (2, .ref (md 0)), (3, .ref (ad 17)), (4, .int (nI i))]) hx hb dL_law_873 hl (by decide) rfl (fun ls hl => ?_)
  refine lv_aload_n hx hb dL_law_875 rfl (lv_at hl 4 rfl) ?_
  refine kc_rVi (As := []) (rest := []) ⟨hx, hb, hml, hown, hts⟩ (c_X3_thrown l D md cI 0 mK (upd (mR mr mc (mPinsAll mr mc mK mD) mK mD k (mc k) 1024).1 k (mc k)) mD mr mw my mC mk ms mu mt mp mb me ) (cwV 0 hts gL_law_X3_thrown rfl rfl rfl (by decide +kernel) ⟨Nat.le_of_ble_eq_true rfl, Nat.le_of_ble_eq_true rfl⟩) hK hP [18, 19, 20, 21, 22, 23, 24, 25, 26, 27] [0] rfl rfl 18 rfl rfl rfl rfl hl.1 rfl (Nat.le_of_ble_eq_true rfl) dL_law_876 ⟨kc_rc (by omega), kc_rs (by omega)⟩ ?_
  refine lv_iload hx hb dL_law_879 (lv_at hl 1 rfl) ?_
  refine lv_icmp_eq (tgt := 886) hx hb dL_law_881 (by decide) (fun c_881 => ?_) (fun c_881 => absurd c_881 (by decide))
  refine lv_iload hx hb dL_law_886 (lv_at hl 1 rfl) ?_
  refine lv_if_ne (tgt := 903) hx hb dL_law_888 (by decide) (fun c_888 => absurd c_888 (by decide)) (fun c_888 => ?_)
  refine lv_aload_n hx hb dL_law_891 rfl (lv_at hl 5 rfl) ?_
  refine lv_iconst (v := 0) hx hb dL_law_892 (by decide) ?_
  refine kc_lld (i := 0) (n := 1) hx hb hK hP 17 1 rfl rfl (by decide) (by decide) dL_law_893 ?_
  refine kc_topl (show ((vp_updL ou 0 (Int32.toInt64 (-1)))) 0 = Int32.toInt64 (-1) from pk_uLs) ?_
  refine lv_iload hx hb dL_law_894 (lv_at hl 0 rfl) ?_
  refine lv_i2l (v := Int32.toInt64 (-1)) hx hb dL_law_896 rfl ?_
  refine W.lcmp hx hb dL_law_897 ?_
  refine kc_top (show lg_cmp (Int32.toInt64 (-1)) (Int32.toInt64 (-1)) = 0 from kc_lcmp0 (congrArg Int32.toInt64 hres)) ?_
  refine lv_if_eq (tgt := 903) hx hb dL_law_898 (by decide) (fun c_898 => ?_) (fun c_898 => absurd c_898 (by decide))
  refine lv_goto (tgt := 1633) hx hb dL_law_903 (by decide) ?_
  refine W.widen (k := cells + 2) (n := slots + 16) (by omega) (by omega) ?_
  exact K1 _ _ _ hP hD hS (lv_sub hl [2, 3, 4, 5, 6] rfl)
set_option maxHeartbeats 4000000 in
set_option maxRecDepth 100000 in
theorem lw_replace_ok_ok {p : Program} {l : Launch} {e : Env} {s : State} {m : MethodId} {below : List Frame} {meth : Method} {c : Code} {Q : State → Prop} {b L : Nat} {xs : Nat → Int32} (hlf : l.stackTraces = false) (C0 : lw_At p s m meth c b L xs) {D : va_G} {cI cL : ClassId} (hK : kcK D [(cI, .int), (cL, .long)] s) (hX0 : kcX (fun q => s.heap.size ≤ q) s s.heap) (hL : L ≤ 2048) (i : Nat) (hi : i + 3 < L) (ad : Nat → Nat) (cd : Nat → Int32) (te : Nat → Int32) (ri : Nat → Int32) (pi : Nat → Int32) (pw : Nat → Int32) (K : Nat) (Dn : Nat) (mv : Int32) (ko : Nat → Int32) (so : Nat → Int32) (tl : Nat → Int32) (lp : Nat → Int32) (lb : Nat → Int32) (ld : Nat → Int32) (le : Nat → Int32) (C : Nat) (cl : Nat → Int32) (dq : Nat → Int32) (dy : Int32) (ou : Nat → Int64) (md : Nat → Nat) (th : Int32) (mK : Nat) (mc : Nat → Int32) (mD : Nat) (mr : Nat → Int32) (mw : Int32) (my : Int32) (mC : Nat) (mk : Nat → Int32) (ms : Nat → Int32) (mu : Nat → Int32) (mt : Nat → Int32) (mp : Nat → Int32) (mb : Nat → Int32) (me : Nat → Int32) (k : Nat) (tn : Nat → Nat) (hK8 : K ≤ 8) (hD8 : Dn ≤ 8) (hC24 : C ≤ 24) (hk : k < K) (hok : okLe so tl tn) (hne : ¬ (jBest cd te ri pi (jWithout te ri K k pw Dn) K Dn k 1024).1 = (-1)) (m_hK8 : mK ≤ 8) (m_hD8 : mD ≤ 8) (m_hC24 : mC ≤ 24) (m_hk : k < mK) (m_hok : okLe ms mt tn) (m_hne : ¬ (mR mr mc (mPinsAll mr mc mK mD) mK mD k (mc k) 1024).2.1 = (-1)) (hp1 : xs (i + 1) = nI k) (hres : ((jBest cd te ri pi (jWithout te ri K k pw Dn) K Dn k 1024).1 : Int32) = ((mR mr mc (mPinsAll mr mc mK mD) mK mD k (mc k) 1024).2.1)) {H : Heap} {locs : List Loc} {cells slots : Nat} (hce : cells + 2 ≤ 601024) (hsl : slots + 16 ≤ 7293034) (hP : va_P D vwCl (wLaw ad cI cd te ri pi pw K Dn mv ko so tl lp lb ld le C cl dq dy cL ou md th mK mc mD mr mw my mC mk ms mu mt mp mb me) H) (hD : va_D (fun q => s.heap.size ≤ q) (wLaw ad cI cd te ri pi pw K Dn mv ko so tl lp lb ld le C cl dq dy cL ou md th mK mc mD mr mw my mC mk ms mu mt mp mb me)) (hS : va_S (fun q => s.heap.size ≤ q) s.heap H locs) {ls : Array Slot} (hl : lv_has ls 9 [(0, .ref b), (1, .ref (ad 14)), (2, .ref (md 0)), (3, .ref (ad 17)), (4, .int (nI i))]) (K1 : ∀ (H : Heap) (locs : List Loc) (ls : Array Slot), va_P D vwCl (wLaw ad cI (upd cd k (jBest cd te ri pi (jWithout te ri K k pw Dn) K Dn k 1024).1) (upd te k (jTeeth (jBest cd te ri pi (jWithout te ri K k pw Dn) K Dn k 1024).1 5)) ri (jRepin (upd te k (jTeeth (jBest cd te ri pi (jWithout te ri K k pw Dn) K Dn k 1024).1 5)) ri K pi Dn) (jWithout te ri K k pw Dn) K Dn (jRework (upd te k (jTeeth (jBest cd te ri pi (jWithout te ri K k pw Dn) K Dn k 1024).1 5)) ri K pi mv Dn) ko (jVoidSo ko (nI k) so C) tl lp lb ld (jVoidEnd ko (nI k) so le tn dy C) C cl dq dy cL (vp_updL ou 0 (Int32.toInt64 ((jBest cd te ri pi (jWithout te ri K k pw Dn) K Dn k 1024).1))) md 0 mK (upd (mR mr mc (mPinsAll mr mc mK mD) mK mD k (mc k) 1024).1 k (mR mr mc (mPinsAll mr mc mK mD) mK mD k (mc k) 1024).2.1) mD mr (mw + (mR mr mc (mPinsAll mr mc mK mD) mK mD k (mc k) 1024).2.2.2) my mC mk (jVoidSo mk (nI k) ms mC) mu mt mp mb (jVoidEnd mk (nI k) ms me tn my mC)) H → va_D (fun q => s.heap.size ≤ q) (wLaw ad cI (upd cd k (jBest cd te ri pi (jWithout te ri K k pw Dn) K Dn k 1024).1) (upd te k (jTeeth (jBest cd te ri pi (jWithout te ri K k pw Dn) K Dn k 1024).1 5)) ri (jRepin (upd te k (jTeeth (jBest cd te ri pi (jWithout te ri K k pw Dn) K Dn k 1024).1 5)) ri K pi Dn) (jWithout te ri K k pw Dn) K Dn (jRework (upd te k (jTeeth (jBest cd te ri pi (jWithout te ri K k pw Dn) K Dn k 1024).1 5)) ri K pi mv Dn) ko (jVoidSo ko (nI k) so C) tl lp lb ld (jVoidEnd ko (nI k) so le tn dy C) C cl dq dy cL (vp_updL ou 0 (Int32.toInt64 ((jBest cd te ri pi (jWithout te ri K k pw Dn) K Dn k 1024).1))) md 0 mK (upd (mR mr mc (mPinsAll mr mc mK mD) mK mD k (mc k) 1024).1 k (mR mr mc (mPinsAll mr mc mK mD) mK mD k (mc k) 1024).2.1) mD mr (mw + (mR mr mc (mPinsAll mr mc mK mD) mK mD k (mc k) 1024).2.2.2) my mC mk (jVoidSo mk (nI k) ms mC) mu mt mp mb (jVoidEnd mk (nI k) ms me tn my mC)) → va_S (fun q => s.heap.size ≤ q) s.heap H locs → lv_has ls 9 [(0, .ref b), (1, .ref (ad 14)), (2, .ref (md 0)), (3, .ref (ad 17)), (4, .int (nI i))] → W p l e room_1 s m #[Value.ref b] below meth c H locs (cells + 2) (slots + 16) Q (F0 m 1633 ls [])) : W p l e room_1 s m #[Value.ref b] below meth c H locs cells slots Q (F0 m 850 ls []) := by
  obtain ⟨hx, hb, hr, hml, hown, hts, hXs, hbl, hlocks, hgv⟩ := id C0
  have hts := fun w h => hts w (wsL_law_in w h)
  have hb : c.code = cL_law := hb
  have hA : ∀ q : Nat, s.heap.size ≤ q → (fun q : Nat => s.heap.size ≤ q) q := fun _ h => h
  have hbA : ¬ (fun q : Nat => s.heap.size ≤ q) b := Nat.not_le.mpr hbl
  refine lv_aload_n hx hb dL_law_850 rfl (lv_at hl 1 rfl) ?_
  refine lv_aload_n hx hb dL_law_851 rfl (lv_at hl 0 rfl) ?_
  refine lv_iload hx hb dL_law_852 (lv_at hl 4 rfl) ?_
  refine lv_iconst (v := 1) hx hb dL_law_854 (by decide) ?_
  refine lv_iadd hx hb dL_law_855 ?_
  refine kc_top (show (nI i) + 1 = nI (i + 1) from nI_add _ _) ?_
  refine kc_sld (i := i + 1) hx hb hXs hbl hbA hS (by omega) (by omega) dL_law_856 ?_
  refine kc_top hp1 ?_
  refine lv_aload_n hx hb dL_law_857 rfl (lv_at hl 3 rfl) ?_
  refine kc_hSi (w1 := wLh ad cI (upd cd k (jBest cd te ri pi (jWithout te ri K k pw Dn) K Dn k 1024).1) (upd te k (jTeeth (jBest cd te ri pi (jWithout te ri K k pw Dn) K Dn k 1024).1 5)) ri (jRepin (upd te k (jTeeth (jBest cd te ri pi (jWithout te ri K k pw Dn) K Dn k 1024).1 5)) ri K pi Dn) (jWithout te ri K k pw Dn) K Dn (jRework (upd te k (jTeeth (jBest cd te ri pi (jWithout te ri K k pw Dn) K Dn k 1024).1 5)) ri K pi mv Dn) ko (jVoidSo ko (nI k) so C) tl lp lb ld (jVoidEnd ko (nI k) so le tn dy C) C cl dq dy cL (vp_updL ou 0 (Int32.toInt64 ((jBest cd te ri pi (jWithout te ri K k pw Dn) K Dn k 1024).1)))) (wr := [(md 0, .inr (3, [.int th, .int (nI mK), .ref (md 1), .int (nI mD), .ref (md 2), .int mw, .int my, .int (nI mC), .ref (md 3), .ref (md 4), .ref (md 5), .ref (md 6), .ref (md 7), .ref (md 8), .ref (md 9)])), (md 1, .inl (cI, 8, .inl mc)), (md 2, .inl (cI, 8, .inl mr)), (md 3, .inl (cI, 24, .inl mk)), (md 4, .inl (cI, 24, .inl ms)), (md 5, .inl (cI, 24, .inl mu)), (md 6, .inl (cI, 24, .inl mt)), (md 7, .inl (cI, 216, .inl mp)), (md 8, .inl (cI, 216, .inl mb)), (md 9, .inl (cI, 216, .inl me))]) (ws1 := wLaw ad cI (upd cd k (jBest cd te ri pi (jWithout te ri K k pw Dn) K Dn k 1024).1) (upd te k (jTeeth (jBest cd te ri pi (jWithout te ri K k pw Dn) K Dn k 1024).1 5)) ri (jRepin (upd te k (jTeeth (jBest cd te ri pi (jWithout te ri K k pw Dn) K Dn k 1024).1 5)) ri K pi Dn) (jWithout te ri K k pw Dn) K Dn (jRework (upd te k (jTeeth (jBest cd te ri pi (jWithout te ri K k pw Dn) K Dn k 1024).1 5)) ri K pi mv Dn) ko (jVoidSo ko (nI k) so C) tl lp lb ld (jVoidEnd ko (nI k) so le tn dy C) C cl dq dy cL (vp_updL ou 0 (Int32.toInt64 ((jBest cd te ri pi (jWithout te ri K k pw Dn) K Dn k 1024).1))) md th mK mc mD mr mw my mC mk ms mu mt mp mb me) (As := [.ref (ad 14), .int (nI k), .ref (ad 17)]) (rest := []) ⟨hx, hb, hml, hown, hts⟩ (c_L_replace_ok l D ad cI cd te ri pi pw K Dn mv ko so tl lp lb ld le C cl dq dy cL ou k tn H.size hK8 hD8 hC24 hk hok hne) (vx_cwSW 3 hts gL_law_L_replace rfl rfl rfl (by decide +kernel) ⟨Nat.le_of_ble_eq_true rfl, Nat.le_of_ble_eq_true rfl⟩) hK hP hD hS hA [0, 1, 2, 3, 4, 5, 6, 7, 8, 9, 10, 11, 12, 13, 14, 15, 16, 17] [18, 19, 20, 21, 22, 23, 24, 25, 26, 27] [10, 11, 12, 13, 14, 15, 16, 17, 18, 19, 20, 21, 22, 23, 24, 25, 26, 27, 0, 1, 2, 3, 4, 5, 6, 7, 8, 9] [0, 1] rfl rfl rfl rfl (by decide) rfl rfl rfl rfl hl.1 rfl (Nat.le_of_ble_eq_true rfl) dL_law_858 ⟨kc_rc (by omega), kc_rs (by omega)⟩ (fun H locs hP hD hS => ?_)
  refine lv_istore (lv' := [(5, .int 0), (0, .ref b), (1, .ref (ad 14)), (2, .ref (md 0)), (3, .ref (ad 17)), (4, .int (nI i))]) hx hb dL_law_861 hl (by decide) rfl (fun ls hl => ?_)
  refine lv_aload_n hx hb dL_law_863 rfl (lv_at hl 3 rfl) ?_
  refine lv_aload_n hx hb dL_law_864 rfl (lv_at hl 1 rfl) ?_
  refine lv_iload hx hb dL_law_865 (lv_at hl 5 rfl) ?_
  refine lv_iconst (v := 1) hx hb dL_law_867 (by decide) ?_
  refine lv_iadd hx hb dL_law_868 ?_
  refine kc_top (show (nI i) + 1 = nI (i + 1) from nI_add _ _) ?_
  refine kc_sld (i := i + 1) hx hb hXs hbl hbA hS (by omega) (by omega) dL_law_869 ?_
  refine kc_top hp1 ?_
  refine kc_wVi (w1 := wMd md cI 0 mK (upd (mR mr mc (mPinsAll mr mc mK mD) mK mD k (mc k) 1024).1 k (mR mr mc (mPinsAll mr mc mK mD) mK mD k (mc k) 1024).2.1) mD mr (mw + (mR mr mc (mPinsAll mr mc mK mD) mK mD k (mc k) 1024).2.2.2) my mC mk (jVoidSo mk (nI k) ms mC) mu mt mp mb (jVoidEnd mk (nI k) ms me tn my mC)) (wr := [(ad 0, .inr (1, [.ref (ad 1), .ref (ad 2), .ref (ad 3), .ref (ad 4), .ref (ad 5), .int (nI K), .int (nI Dn), .int (jRework (upd te k (jTeeth (jBest cd te ri pi (jWithout te ri K k pw Dn) K Dn k 1024).1 5)) ri K pi mv Dn)])), (ad 1, .inl (cI, 8, .inl (upd cd k (jBest cd te ri pi (jWithout te ri K k pw Dn) K Dn k 1024).1))), (ad 2, .inl (cI, 8, .inl (upd te k (jTeeth (jBest cd te ri pi (jWithout te ri K k pw Dn) K Dn k 1024).1 5)))), (ad 3, .inl (cI, 8, .inl ri)), (ad 4, .inl (cI, 8, .inl (jRepin (upd te k (jTeeth (jBest cd te ri pi (jWithout te ri K k pw Dn) K Dn k 1024).1 5)) ri K pi Dn))), (ad 5, .inl (cI, 8, .inl (jWithout te ri K k pw Dn))), (ad 6, .inr (0, [.ref (ad 7), .ref (ad 8), .ref (ad 9), .ref (ad 10), .ref (ad 11), .ref (ad 12), .ref (ad 13), .int (nI C)])), (ad 7, .inl (cI, 24, .inl ko)), (ad 8, .inl (cI, 24, .inl (jVoidSo ko (nI k) so C))), (ad 9, .inl (cI, 24, .inl tl)), (ad 10, .inl (cI, 216, .inl lp)), (ad 11, .inl (cI, 216, .inl lb)), (ad 12, .inl (cI, 216, .inl ld)), (ad 13, .inl (cI, 216, .inl (jVoidEnd ko (nI k) so le tn dy C))), (ad 14, .inr (2, [.ref (ad 0), .ref (ad 6), .ref (ad 15), .ref (ad 16), .int dy])), (ad 15, .inl (cI, 8, .inl cl)), (ad 16, .inl (cI, 8, .inl dq)), (ad 17, .inl (cL, 1, .inr (.inl (vp_updL ou 0 (Int32.toInt64 ((jBest cd te ri pi (jWithout te ri K k pw Dn) K Dn k 1024).1))))))]) (ws1 := wLaw ad cI (upd cd k (jBest cd te ri pi (jWithout te ri K k pw Dn) K Dn k 1024).1) (upd te k (jTeeth (jBest cd te ri pi (jWithout te ri K k pw Dn) K Dn k 1024).1 5)) ri (jRepin (upd te k (jTeeth (jBest cd te ri pi (jWithout te ri K k pw Dn) K Dn k 1024).1 5)) ri K pi Dn) (jWithout te ri K k pw Dn) K Dn (jRework (upd te k (jTeeth (jBest cd te ri pi (jWithout te ri K k pw Dn) K Dn k 1024).1 5)) ri K pi mv Dn) ko (jVoidSo ko (nI k) so C) tl lp lb ld (jVoidEnd ko (nI k) so le tn dy C) C cl dq dy cL (vp_updL ou 0 (Int32.toInt64 ((jBest cd te ri pi (jWithout te ri K k pw Dn) K Dn k 1024).1))) md 0 mK (upd (mR mr mc (mPinsAll mr mc mK mD) mK mD k (mc k) 1024).1 k (mR mr mc (mPinsAll mr mc mK mD) mK mD k (mc k) 1024).2.1) mD mr (mw + (mR mr mc (mPinsAll mr mc mK mD) mK mD k (mc k) 1024).2.2.2) my mC mk (jVoidSo mk (nI k) ms mC) mu mt mp mb (jVoidEnd mk (nI k) ms me tn my mC)) (As := [.int (nI k)]) (rest := []) ⟨hx, hb, hml, hown, hts⟩ (c_X3_replace_ok l D md cI th mK mc mD mr mw my mC mk ms mu mt mp mb me k tn H.size m_hK8 m_hD8 m_hC24 m_hk m_hok m_hne) (cwV 1 hts gL_law_X3_replace rfl rfl rfl (by decide +kernel) ⟨Nat.le_of_ble_eq_true rfl, Nat.le_of_ble_eq_true rfl⟩) hK hP hD hS hA [18, 19, 20, 21, 22, 23, 24, 25, 26, 27] [0, 1, 2, 3, 4, 5, 6, 7, 8, 9, 10, 11, 12, 13, 14, 15, 16, 17] [0, 1, 2, 3, 4, 5, 6, 7, 8, 9, 10, 11, 12, 13, 14, 15, 16, 17, 18, 19, 20, 21, 22, 23, 24, 25, 26, 27] [0] rfl rfl rfl rfl (by decide) rfl rfl rfl 18 rfl rfl rfl rfl hl.1 rfl (Nat.le_of_ble_eq_true rfl) dL_law_870 ⟨kc_rc (by omega), kc_rs (by omega)⟩ (fun H locs hP hD hS => ?_)
  refine lv_istore (lv' := [(6, .int ((mR mr mc (mPinsAll mr mc mK mD) mK mD k (mc k) 1024).2.1)), (5, .int 0), (0, .ref b), (1, .ref (ad 14)), (2, .ref (md 0)), (3, .ref (ad 17)), (4, .int (nI i))]) hx hb dL_law_873 hl (by decide) rfl (fun ls hl => ?_)
  refine lv_aload_n hx hb dL_law_875 rfl (lv_at hl 4 rfl) ?_
  refine kc_rVi (As := []) (rest := []) ⟨hx, hb, hml, hown, hts⟩ (c_X3_thrown l D md cI 0 mK (upd (mR mr mc (mPinsAll mr mc mK mD) mK mD k (mc k) 1024).1 k (mR mr mc (mPinsAll mr mc mK mD) mK mD k (mc k) 1024).2.1) mD mr (mw + (mR mr mc (mPinsAll mr mc mK mD) mK mD k (mc k) 1024).2.2.2) my mC mk (jVoidSo mk (nI k) ms mC) mu mt mp mb (jVoidEnd mk (nI k) ms me tn my mC) ) (cwV 0 hts gL_law_X3_thrown rfl rfl rfl (by decide +kernel) ⟨Nat.le_of_ble_eq_true rfl, Nat.le_of_ble_eq_true rfl⟩) hK hP [18, 19, 20, 21, 22, 23, 24, 25, 26, 27] [0] rfl rfl 18 rfl rfl rfl rfl hl.1 rfl (Nat.le_of_ble_eq_true rfl) dL_law_876 ⟨kc_rc (by omega), kc_rs (by omega)⟩ ?_
  refine lv_iload hx hb dL_law_879 (lv_at hl 1 rfl) ?_
  refine lv_icmp_eq (tgt := 886) hx hb dL_law_881 (by decide) (fun c_881 => ?_) (fun c_881 => absurd c_881 (by decide))
  refine lv_iload hx hb dL_law_886 (lv_at hl 1 rfl) ?_
  refine lv_if_ne (tgt := 903) hx hb dL_law_888 (by decide) (fun c_888 => absurd c_888 (by decide)) (fun c_888 => ?_)
  refine lv_aload_n hx hb dL_law_891 rfl (lv_at hl 5 rfl) ?_
  refine lv_iconst (v := 0) hx hb dL_law_892 (by decide) ?_
  refine kc_lld (i := 0) (n := 1) hx hb hK hP 17 1 rfl rfl (by decide) (by decide) dL_law_893 ?_
  refine kc_topl (show ((vp_updL ou 0 (Int32.toInt64 ((jBest cd te ri pi (jWithout te ri K k pw Dn) K Dn k 1024).1)))) 0 = Int32.toInt64 ((jBest cd te ri pi (jWithout te ri K k pw Dn) K Dn k 1024).1) from pk_uLs) ?_
  refine lv_iload hx hb dL_law_894 (lv_at hl 0 rfl) ?_
  refine lv_i2l (v := Int32.toInt64 ((mR mr mc (mPinsAll mr mc mK mD) mK mD k (mc k) 1024).2.1)) hx hb dL_law_896 rfl ?_
  refine W.lcmp hx hb dL_law_897 ?_
  refine kc_top (show lg_cmp (Int32.toInt64 ((jBest cd te ri pi (jWithout te ri K k pw Dn) K Dn k 1024).1)) (Int32.toInt64 ((mR mr mc (mPinsAll mr mc mK mD) mK mD k (mc k) 1024).2.1)) = 0 from kc_lcmp0 (congrArg Int32.toInt64 hres)) ?_
  refine lv_if_eq (tgt := 903) hx hb dL_law_898 (by decide) (fun c_898 => ?_) (fun c_898 => absurd c_898 (by decide))
  refine lv_goto (tgt := 1633) hx hb dL_law_903 (by decide) ?_
  refine W.widen (k := cells + 2) (n := slots + 16) (by omega) (by omega) ?_
  exact K1 _ _ _ hP hD hS (lv_sub hl [2, 3, 4, 5, 6] rfl)
set_option maxHeartbeats 4000000 in
set_option maxRecDepth 100000 in
theorem lw_replace_f1_f1 {p : Program} {l : Launch} {e : Env} {s : State} {m : MethodId} {below : List Frame} {meth : Method} {c : Code} {Q : State → Prop} {b L : Nat} {xs : Nat → Int32} (hlf : l.stackTraces = false) (C0 : lw_At p s m meth c b L xs) {D : va_G} {cI cL : ClassId} (hK : kcK D [(cI, .int), (cL, .long)] s) (hX0 : kcX (fun q => s.heap.size ≤ q) s s.heap) (hL : L ≤ 2048) (i : Nat) (hi : i + 3 < L) (ad : Nat → Nat) (cd : Nat → Int32) (te : Nat → Int32) (ri : Nat → Int32) (pi : Nat → Int32) (pw : Nat → Int32) (K : Nat) (Dn : Nat) (mv : Int32) (ko : Nat → Int32) (so : Nat → Int32) (tl : Nat → Int32) (lp : Nat → Int32) (lb : Nat → Int32) (ld : Nat → Int32) (le : Nat → Int32) (C : Nat) (cl : Nat → Int32) (dq : Nat → Int32) (dy : Int32) (ou : Nat → Int64) (md : Nat → Nat) (th : Int32) (mK : Nat) (mc : Nat → Int32) (mD : Nat) (mr : Nat → Int32) (mw : Int32) (my : Int32) (mC : Nat) (mk : Nat → Int32) (ms : Nat → Int32) (mu : Nat → Int32) (mt : Nat → Int32) (mp : Nat → Int32) (mb : Nat → Int32) (me : Nat → Int32) (x : Int32) (hBad : ¬ jIn K x = true) (m_hBad : ¬ jIn mK x = true) (hp1 : xs (i + 1) = x)  {H : Heap} {locs : List Loc} {cells slots : Nat} (hce : cells + 2 ≤ 601024) (hsl : slots + 16 ≤ 7293034) (hP : va_P D vwCl (wLaw ad cI cd te ri pi pw K Dn mv ko so tl lp lb ld le C cl dq dy cL ou md th mK mc mD mr mw my mC mk ms mu mt mp mb me) H) (hD : va_D (fun q => s.heap.size ≤ q) (wLaw ad cI cd te ri pi pw K Dn mv ko so tl lp lb ld le C cl dq dy cL ou md th mK mc mD mr mw my mC mk ms mu mt mp mb me)) (hS : va_S (fun q => s.heap.size ≤ q) s.heap H locs) {ls : Array Slot} (hl : lv_has ls 9 [(0, .ref b), (1, .ref (ad 14)), (2, .ref (md 0)), (3, .ref (ad 17)), (4, .int (nI i))]) (K1 : ∀ (H : Heap) (locs : List Loc) (ls : Array Slot), va_P D vwCl (wLaw ad cI cd te ri pi pw K Dn mv ko so tl lp lb ld le C cl dq dy cL ou md 1 mK mc mD mr mw my mC mk ms mu mt mp mb me) H → va_D (fun q => s.heap.size ≤ q) (wLaw ad cI cd te ri pi pw K Dn mv ko so tl lp lb ld le C cl dq dy cL ou md 1 mK mc mD mr mw my mC mk ms mu mt mp mb me) → va_S (fun q => s.heap.size ≤ q) s.heap H locs → lv_has ls 9 [(0, .ref b), (1, .ref (ad 14)), (2, .ref (md 0)), (3, .ref (ad 17)), (4, .int (nI i))] → W p l e room_1 s m #[Value.ref b] below meth c H locs (cells + 2) (slots + 16) Q (F0 m 1633 ls [])) : W p l e room_1 s m #[Value.ref b] below meth c H locs cells slots Q (F0 m 850 ls []) := by
  obtain ⟨hx, hb, hr, hml, hown, hts, hXs, hbl, hlocks, hgv⟩ := id C0
  have hts := fun w h => hts w (wsL_law_in w h)
  have hb : c.code = cL_law := hb
  have hA : ∀ q : Nat, s.heap.size ≤ q → (fun q : Nat => s.heap.size ≤ q) q := fun _ h => h
  have hbA : ¬ (fun q : Nat => s.heap.size ≤ q) b := Nat.not_le.mpr hbl
  refine lv_aload_n hx hb dL_law_850 rfl (lv_at hl 1 rfl) ?_
  refine lv_aload_n hx hb dL_law_851 rfl (lv_at hl 0 rfl) ?_
  refine lv_iload hx hb dL_law_852 (lv_at hl 4 rfl) ?_
  refine lv_iconst (v := 1) hx hb dL_law_854 (by decide) ?_
  refine lv_iadd hx hb dL_law_855 ?_
  refine kc_top (show (nI i) + 1 = nI (i + 1) from nI_add _ _) ?_
  refine kc_sld (i := i + 1) hx hb hXs hbl hbA hS (by omega) (by omega) dL_law_856 ?_
  refine kc_top hp1 ?_
  refine lv_aload_n hx hb dL_law_857 rfl (lv_at hl 3 rfl) ?_
  have hX := kc_xat hX0 hS
  refine kc_hXi (w1 := wLh ad cI cd te ri pi pw K Dn mv ko so tl lp lb ld le C cl dq dy cL ou) (wr := [(md 0, .inr (3, [.int th, .int (nI mK), .ref (md 1), .int (nI mD), .ref (md 2), .int mw, .int my, .int (nI mC), .ref (md 3), .ref (md 4), .ref (md 5), .ref (md 6), .ref (md 7), .ref (md 8), .ref (md 9)])), (md 1, .inl (cI, 8, .inl mc)), (md 2, .inl (cI, 8, .inl mr)), (md 3, .inl (cI, 24, .inl mk)), (md 4, .inl (cI, 24, .inl ms)), (md 5, .inl (cI, 24, .inl mu)), (md 6, .inl (cI, 24, .inl mt)), (md 7, .inl (cI, 216, .inl mp)), (md 8, .inl (cI, 216, .inl mb)), (md 9, .inl (cI, 216, .inl me))]) (ws1 := wLaw ad cI cd te ri pi pw K Dn mv ko so tl lp lb ld le C cl dq dy cL ou md th mK mc mD mr mw my mC mk ms mu mt mp mb me) (As := [.ref (ad 14), .int x, .ref (ad 17)]) (rest := []) ⟨hx, hb, hml, hown, hts⟩ (c_L_replace_f1 l hlf D ad cI cd te ri pi pw K Dn mv ko so tl lp lb ld le C cl dq dy cL ou x H.size hBad) (vx_cwSW 3 hts gL_law_L_replace rfl rfl rfl (by decide +kernel) ⟨Nat.le_of_ble_eq_true rfl, Nat.le_of_ble_eq_true rfl⟩) hK hP hD hX hS hA [0, 1, 2, 3, 4, 5, 6, 7, 8, 9, 10, 11, 12, 13, 14, 15, 16, 17] [18, 19, 20, 21, 22, 23, 24, 25, 26, 27] [10, 11, 12, 13, 14, 15, 16, 17, 18, 19, 20, 21, 22, 23, 24, 25, 26, 27, 0, 1, 2, 3, 4, 5, 6, 7, 8, 9] [0, 1] rfl rfl rfl rfl (by decide) rfl rfl rfl rfl hl.1 rfl (Nat.le_of_ble_eq_true rfl) dL_law_858 ⟨kc_rc (by omega), kc_rs (by omega)⟩ (fun H locs hP hD hS => ?_)
  refine lv_istore (lv' := [(5, .int 1), (0, .ref b), (1, .ref (ad 14)), (2, .ref (md 0)), (3, .ref (ad 17)), (4, .int (nI i))]) hx hb dL_law_861 hl (by decide) rfl (fun ls hl => ?_)
  refine lv_aload_n hx hb dL_law_863 rfl (lv_at hl 3 rfl) ?_
  refine lv_aload_n hx hb dL_law_864 rfl (lv_at hl 1 rfl) ?_
  refine lv_iload hx hb dL_law_865 (lv_at hl 5 rfl) ?_
  refine lv_iconst (v := 1) hx hb dL_law_867 (by decide) ?_
  refine lv_iadd hx hb dL_law_868 ?_
  refine kc_top (show (nI i) + 1 = nI (i + 1) from nI_add _ _) ?_
  refine kc_sld (i := i + 1) hx hb hXs hbl hbA hS (by omega) (by omega) dL_law_869 ?_
  refine kc_top hp1 ?_
  refine kc_wVi (w1 := wMd md cI 1 mK mc mD mr mw my mC mk ms mu mt mp mb me) (wr := [(ad 0, .inr (1, [.ref (ad 1), .ref (ad 2), .ref (ad 3), .ref (ad 4), .ref (ad 5), .int (nI K), .int (nI Dn), .int mv])), (ad 1, .inl (cI, 8, .inl cd)), (ad 2, .inl (cI, 8, .inl te)), (ad 3, .inl (cI, 8, .inl ri)), (ad 4, .inl (cI, 8, .inl pi)), (ad 5, .inl (cI, 8, .inl pw)), (ad 6, .inr (0, [.ref (ad 7), .ref (ad 8), .ref (ad 9), .ref (ad 10), .ref (ad 11), .ref (ad 12), .ref (ad 13), .int (nI C)])), (ad 7, .inl (cI, 24, .inl ko)), (ad 8, .inl (cI, 24, .inl so)), (ad 9, .inl (cI, 24, .inl tl)), (ad 10, .inl (cI, 216, .inl lp)), (ad 11, .inl (cI, 216, .inl lb)), (ad 12, .inl (cI, 216, .inl ld)), (ad 13, .inl (cI, 216, .inl le)), (ad 14, .inr (2, [.ref (ad 0), .ref (ad 6), .ref (ad 15), .ref (ad 16), .int dy])), (ad 15, .inl (cI, 8, .inl cl)), (ad 16, .inl (cI, 8, .inl dq)), (ad 17, .inl (cL, 1, .inr (.inl ou)))]) (ws1 := wLaw ad cI cd te ri pi pw K Dn mv ko so tl lp lb ld le C cl dq dy cL ou md 1 mK mc mD mr mw my mC mk ms mu mt mp mb me) (As := [.int x]) (rest := []) ⟨hx, hb, hml, hown, hts⟩ (c_X3_replace_f1 l D md cI th mK mc mD mr mw my mC mk ms mu mt mp mb me x H.size m_hBad) (cwV 1 hts gL_law_X3_replace rfl rfl rfl (by decide +kernel) ⟨Nat.le_of_ble_eq_true rfl, Nat.le_of_ble_eq_true rfl⟩) hK hP hD hS hA [18, 19, 20, 21, 22, 23, 24, 25, 26, 27] [0, 1, 2, 3, 4, 5, 6, 7, 8, 9, 10, 11, 12, 13, 14, 15, 16, 17] [0, 1, 2, 3, 4, 5, 6, 7, 8, 9, 10, 11, 12, 13, 14, 15, 16, 17, 18, 19, 20, 21, 22, 23, 24, 25, 26, 27] [0] rfl rfl rfl rfl (by decide) rfl rfl rfl 18 rfl rfl rfl rfl hl.1 rfl (Nat.le_of_ble_eq_true rfl) dL_law_870 ⟨kc_rc (by omega), kc_rs (by omega)⟩ (fun H locs hP hD hS => ?_)
  refine lv_istore (lv' := [(6, .int 0), (5, .int 1), (0, .ref b), (1, .ref (ad 14)), (2, .ref (md 0)), (3, .ref (ad 17)), (4, .int (nI i))]) hx hb dL_law_873 hl (by decide) rfl (fun ls hl => ?_)
  refine lv_aload_n hx hb dL_law_875 rfl (lv_at hl 4 rfl) ?_
  refine kc_rVi (As := []) (rest := []) ⟨hx, hb, hml, hown, hts⟩ (c_X3_thrown l D md cI 1 mK mc mD mr mw my mC mk ms mu mt mp mb me ) (cwV 0 hts gL_law_X3_thrown rfl rfl rfl (by decide +kernel) ⟨Nat.le_of_ble_eq_true rfl, Nat.le_of_ble_eq_true rfl⟩) hK hP [18, 19, 20, 21, 22, 23, 24, 25, 26, 27] [0] rfl rfl 18 rfl rfl rfl rfl hl.1 rfl (Nat.le_of_ble_eq_true rfl) dL_law_876 ⟨kc_rc (by omega), kc_rs (by omega)⟩ ?_
  refine lv_iload hx hb dL_law_879 (lv_at hl 1 rfl) ?_
  refine lv_icmp_eq (tgt := 886) hx hb dL_law_881 (by decide) (fun c_881 => ?_) (fun c_881 => absurd c_881 (by decide))
  refine lv_iload hx hb dL_law_886 (lv_at hl 1 rfl) ?_
  refine lv_if_ne (tgt := 903) hx hb dL_law_888 (by decide) (fun c_888 => ?_) (fun c_888 => absurd c_888 (by decide))
  refine lv_goto (tgt := 1633) hx hb dL_law_903 (by decide) ?_
  refine W.widen (k := cells + 2) (n := slots + 16) (by omega) (by omega) ?_
  exact K1 _ _ _ hP hD hS (lv_sub hl [2, 3, 4, 5, 6] rfl)
set_option maxHeartbeats 4000000 in
set_option maxRecDepth 100000 in
theorem lw_cut_ok_ok {p : Program} {l : Launch} {e : Env} {s : State} {m : MethodId} {below : List Frame} {meth : Method} {c : Code} {Q : State → Prop} {b L : Nat} {xs : Nat → Int32} (hlf : l.stackTraces = false) (C0 : lw_At p s m meth c b L xs) {D : va_G} {cI cL : ClassId} (hK : kcK D [(cI, .int), (cL, .long)] s) (hX0 : kcX (fun q => s.heap.size ≤ q) s s.heap) (hL : L ≤ 2048) (i : Nat) (hi : i + 3 < L) (ad : Nat → Nat) (cd : Nat → Int32) (te : Nat → Int32) (ri : Nat → Int32) (pi : Nat → Int32) (pw : Nat → Int32) (K : Nat) (Dn : Nat) (mv : Int32) (ko : Nat → Int32) (so : Nat → Int32) (tl : Nat → Int32) (lp : Nat → Int32) (lb : Nat → Int32) (ld : Nat → Int32) (le : Nat → Int32) (C : Nat) (cl : Nat → Int32) (dq : Nat → Int32) (dy : Int32) (ou : Nat → Int64) (md : Nat → Nat) (th : Int32) (mK : Nat) (mc : Nat → Int32) (mD : Nat) (mr : Nat → Int32) (mw : Int32) (my : Int32) (mC : Nat) (mk : Nat → Int32) (ms : Nat → Int32) (mu : Nat → Int32) (mt : Nat → Int32) (mp : Nat → Int32) (mb : Nat → Int32) (me : Nat → Int32) (k : Nat) (hK8 : K ≤ 8) (hk : k < K) (hC23 : C < 24) (m_hK8 : mK ≤ 8) (m_hk : k < mK) (m_hC23 : mC < 24) (hp1 : xs (i + 1) = nI k) (hres : (nI C : Int32) = (nI mC)) {H : Heap} {locs : List Loc} {cells slots : Nat} (hce : cells + 2 ≤ 601024) (hsl : slots + 16 ≤ 7293034) (hP : va_P D vwCl (wLaw ad cI cd te ri pi pw K Dn mv ko so tl lp lb ld le C cl dq dy cL ou md th mK mc mD mr mw my mC mk ms mu mt mp mb me) H) (hD : va_D (fun q => s.heap.size ≤ q) (wLaw ad cI cd te ri pi pw K Dn mv ko so tl lp lb ld le C cl dq dy cL ou md th mK mc mD mr mw my mC mk ms mu mt mp mb me)) (hS : va_S (fun q => s.heap.size ≤ q) s.heap H locs) {ls : Array Slot} (hl : lv_has ls 9 [(0, .ref b), (1, .ref (ad 14)), (2, .ref (md 0)), (3, .ref (ad 17)), (4, .int (nI i))]) (K1 : ∀ (H : Heap) (locs : List Loc) (ls : Array Slot), va_P D vwCl (wLaw ad cI cd te ri pi pw K Dn mv (upd ko C (nI k)) (upd so C 0) tl lp lb ld le (C + 1) cl dq dy cL (vp_updL ou 0 (Int32.toInt64 (nI C))) md 0 mK mc mD mr mw my (mC + 1) (upd mk mC (nI k)) (upd ms mC 0) mu (upd mt mC 0) mp mb me) H → va_D (fun q => s.heap.size ≤ q) (wLaw ad cI cd te ri pi pw K Dn mv (upd ko C (nI k)) (upd so C 0) tl lp lb ld le (C + 1) cl dq dy cL (vp_updL ou 0 (Int32.toInt64 (nI C))) md 0 mK mc mD mr mw my (mC + 1) (upd mk mC (nI k)) (upd ms mC 0) mu (upd mt mC 0) mp mb me) → va_S (fun q => s.heap.size ≤ q) s.heap H locs → lv_has ls 9 [(0, .ref b), (1, .ref (ad 14)), (2, .ref (md 0)), (3, .ref (ad 17)), (4, .int (nI i))] → W p l e room_1 s m #[Value.ref b] below meth c H locs (cells + 2) (slots + 16) Q (F0 m 1633 ls [])) : W p l e room_1 s m #[Value.ref b] below meth c H locs cells slots Q (F0 m 906 ls []) := by
  obtain ⟨hx, hb, hr, hml, hown, hts, hXs, hbl, hlocks, hgv⟩ := id C0
  have hts := fun w h => hts w (wsL_law_in w h)
  have hb : c.code = cL_law := hb
  have hA : ∀ q : Nat, s.heap.size ≤ q → (fun q : Nat => s.heap.size ≤ q) q := fun _ h => h
  have hbA : ¬ (fun q : Nat => s.heap.size ≤ q) b := Nat.not_le.mpr hbl
  refine lv_aload_n hx hb dL_law_906 rfl (lv_at hl 1 rfl) ?_
  refine lv_aload_n hx hb dL_law_907 rfl (lv_at hl 0 rfl) ?_
  refine lv_iload hx hb dL_law_908 (lv_at hl 4 rfl) ?_
  refine lv_iconst (v := 1) hx hb dL_law_910 (by decide) ?_
  refine lv_iadd hx hb dL_law_911 ?_
  refine kc_top (show (nI i) + 1 = nI (i + 1) from nI_add _ _) ?_
  refine kc_sld (i := i + 1) hx hb hXs hbl hbA hS (by omega) (by omega) dL_law_912 ?_
  refine kc_top hp1 ?_
  refine lv_aload_n hx hb dL_law_913 rfl (lv_at hl 3 rfl) ?_
  refine kc_hSi (w1 := wLh ad cI cd te ri pi pw K Dn mv (upd ko C (nI k)) (upd so C 0) tl lp lb ld le (C + 1) cl dq dy cL (vp_updL ou 0 (Int32.toInt64 (nI C)))) (wr := [(md 0, .inr (3, [.int th, .int (nI mK), .ref (md 1), .int (nI mD), .ref (md 2), .int mw, .int my, .int (nI mC), .ref (md 3), .ref (md 4), .ref (md 5), .ref (md 6), .ref (md 7), .ref (md 8), .ref (md 9)])), (md 1, .inl (cI, 8, .inl mc)), (md 2, .inl (cI, 8, .inl mr)), (md 3, .inl (cI, 24, .inl mk)), (md 4, .inl (cI, 24, .inl ms)), (md 5, .inl (cI, 24, .inl mu)), (md 6, .inl (cI, 24, .inl mt)), (md 7, .inl (cI, 216, .inl mp)), (md 8, .inl (cI, 216, .inl mb)), (md 9, .inl (cI, 216, .inl me))]) (ws1 := wLaw ad cI cd te ri pi pw K Dn mv (upd ko C (nI k)) (upd so C 0) tl lp lb ld le (C + 1) cl dq dy cL (vp_updL ou 0 (Int32.toInt64 (nI C))) md th mK mc mD mr mw my mC mk ms mu mt mp mb me) (As := [.ref (ad 14), .int (nI k), .ref (ad 17)]) (rest := []) ⟨hx, hb, hml, hown, hts⟩ (c_L_cut_ok l D ad cI cd te ri pi pw K Dn mv ko so tl lp lb ld le C cl dq dy cL ou k H.size hK8 hk hC23) (vx_cwSW 3 hts gL_law_L_cut rfl rfl rfl (by decide +kernel) ⟨Nat.le_of_ble_eq_true rfl, Nat.le_of_ble_eq_true rfl⟩) hK hP hD hS hA [0, 1, 2, 3, 4, 5, 6, 7, 8, 9, 10, 11, 12, 13, 14, 15, 16, 17] [18, 19, 20, 21, 22, 23, 24, 25, 26, 27] [10, 11, 12, 13, 14, 15, 16, 17, 18, 19, 20, 21, 22, 23, 24, 25, 26, 27, 0, 1, 2, 3, 4, 5, 6, 7, 8, 9] [0, 1] rfl rfl rfl rfl (by decide) rfl rfl rfl rfl hl.1 rfl (Nat.le_of_ble_eq_true rfl) dL_law_914 ⟨kc_rc (by omega), kc_rs (by omega)⟩ (fun H locs hP hD hS => ?_)
  refine lv_istore (lv' := [(5, .int 0), (0, .ref b), (1, .ref (ad 14)), (2, .ref (md 0)), (3, .ref (ad 17)), (4, .int (nI i))]) hx hb dL_law_917 hl (by decide) rfl (fun ls hl => ?_)
  refine lv_aload_n hx hb dL_law_919 rfl (lv_at hl 3 rfl) ?_
  refine lv_aload_n hx hb dL_law_920 rfl (lv_at hl 1 rfl) ?_
  refine lv_iload hx hb dL_law_921 (lv_at hl 5 rfl) ?_
  refine lv_iconst (v := 1) hx hb dL_law_923 (by decide) ?_
  refine lv_iadd hx hb dL_law_924 ?_
  refine kc_top (show (nI i) + 1 = nI (i + 1) from nI_add _ _) ?_
  refine kc_sld (i := i + 1) hx hb hXs hbl hbA hS (by omega) (by omega) dL_law_925 ?_
  refine kc_top hp1 ?_
  refine kc_wVi (w1 := wMd md cI 0 mK mc mD mr mw my (mC + 1) (upd mk mC (nI k)) (upd ms mC 0) mu (upd mt mC 0) mp mb me) (wr := [(ad 0, .inr (1, [.ref (ad 1), .ref (ad 2), .ref (ad 3), .ref (ad 4), .ref (ad 5), .int (nI K), .int (nI Dn), .int mv])), (ad 1, .inl (cI, 8, .inl cd)), (ad 2, .inl (cI, 8, .inl te)), (ad 3, .inl (cI, 8, .inl ri)), (ad 4, .inl (cI, 8, .inl pi)), (ad 5, .inl (cI, 8, .inl pw)), (ad 6, .inr (0, [.ref (ad 7), .ref (ad 8), .ref (ad 9), .ref (ad 10), .ref (ad 11), .ref (ad 12), .ref (ad 13), .int (nI (C + 1))])), (ad 7, .inl (cI, 24, .inl (upd ko C (nI k)))), (ad 8, .inl (cI, 24, .inl (upd so C 0))), (ad 9, .inl (cI, 24, .inl tl)), (ad 10, .inl (cI, 216, .inl lp)), (ad 11, .inl (cI, 216, .inl lb)), (ad 12, .inl (cI, 216, .inl ld)), (ad 13, .inl (cI, 216, .inl le)), (ad 14, .inr (2, [.ref (ad 0), .ref (ad 6), .ref (ad 15), .ref (ad 16), .int dy])), (ad 15, .inl (cI, 8, .inl cl)), (ad 16, .inl (cI, 8, .inl dq)), (ad 17, .inl (cL, 1, .inr (.inl (vp_updL ou 0 (Int32.toInt64 (nI C))))))]) (ws1 := wLaw ad cI cd te ri pi pw K Dn mv (upd ko C (nI k)) (upd so C 0) tl lp lb ld le (C + 1) cl dq dy cL (vp_updL ou 0 (Int32.toInt64 (nI C))) md 0 mK mc mD mr mw my (mC + 1) (upd mk mC (nI k)) (upd ms mC 0) mu (upd mt mC 0) mp mb me) (As := [.int (nI k)]) (rest := []) ⟨hx, hb, hml, hown, hts⟩ (c_X3_cut_ok l D md cI th mK mc mD mr mw my mC mk ms mu mt mp mb me k H.size m_hK8 m_hk m_hC23) (cwV 1 hts gL_law_X3_cut rfl rfl rfl (by decide +kernel) ⟨Nat.le_of_ble_eq_true rfl, Nat.le_of_ble_eq_true rfl⟩) hK hP hD hS hA [18, 19, 20, 21, 22, 23, 24, 25, 26, 27] [0, 1, 2, 3, 4, 5, 6, 7, 8, 9, 10, 11, 12, 13, 14, 15, 16, 17] [0, 1, 2, 3, 4, 5, 6, 7, 8, 9, 10, 11, 12, 13, 14, 15, 16, 17, 18, 19, 20, 21, 22, 23, 24, 25, 26, 27] [0] rfl rfl rfl rfl (by decide) rfl rfl rfl 18 rfl rfl rfl rfl hl.1 rfl (Nat.le_of_ble_eq_true rfl) dL_law_926 ⟨kc_rc (by omega), kc_rs (by omega)⟩ (fun H locs hP hD hS => ?_)
  refine lv_istore (lv' := [(6, .int (nI mC)), (5, .int 0), (0, .ref b), (1, .ref (ad 14)), (2, .ref (md 0)), (3, .ref (ad 17)), (4, .int (nI i))]) hx hb dL_law_929 hl (by decide) rfl (fun ls hl => ?_)
  refine lv_aload_n hx hb dL_law_931 rfl (lv_at hl 4 rfl) ?_
  refine kc_rVi (As := []) (rest := []) ⟨hx, hb, hml, hown, hts⟩ (c_X3_thrown l D md cI 0 mK mc mD mr mw my (mC + 1) (upd mk mC (nI k)) (upd ms mC 0) mu (upd mt mC 0) mp mb me ) (cwV 0 hts gL_law_X3_thrown rfl rfl rfl (by decide +kernel) ⟨Nat.le_of_ble_eq_true rfl, Nat.le_of_ble_eq_true rfl⟩) hK hP [18, 19, 20, 21, 22, 23, 24, 25, 26, 27] [0] rfl rfl 18 rfl rfl rfl rfl hl.1 rfl (Nat.le_of_ble_eq_true rfl) dL_law_932 ⟨kc_rc (by omega), kc_rs (by omega)⟩ ?_
  refine lv_iload hx hb dL_law_935 (lv_at hl 1 rfl) ?_
  refine lv_icmp_eq (tgt := 942) hx hb dL_law_937 (by decide) (fun c_937 => ?_) (fun c_937 => absurd c_937 (by decide))
  refine lv_iload hx hb dL_law_942 (lv_at hl 1 rfl) ?_
  refine lv_if_ne (tgt := 959) hx hb dL_law_944 (by decide) (fun c_944 => absurd c_944 (by decide)) (fun c_944 => ?_)
  refine lv_aload_n hx hb dL_law_947 rfl (lv_at hl 5 rfl) ?_
  refine lv_iconst (v := 0) hx hb dL_law_948 (by decide) ?_
  refine kc_lld (i := 0) (n := 1) hx hb hK hP 17 1 rfl rfl (by decide) (by decide) dL_law_949 ?_
  refine kc_topl (show ((vp_updL ou 0 (Int32.toInt64 (nI C)))) 0 = Int32.toInt64 (nI C) from pk_uLs) ?_
  refine lv_iload hx hb dL_law_950 (lv_at hl 0 rfl) ?_
  refine lv_i2l (v := Int32.toInt64 (nI mC)) hx hb dL_law_952 rfl ?_
  refine W.lcmp hx hb dL_law_953 ?_
  refine kc_top (show lg_cmp (Int32.toInt64 (nI C)) (Int32.toInt64 (nI mC)) = 0 from kc_lcmp0 (congrArg Int32.toInt64 hres)) ?_
  refine lv_if_eq (tgt := 959) hx hb dL_law_954 (by decide) (fun c_954 => ?_) (fun c_954 => absurd c_954 (by decide))
  refine lv_goto (tgt := 1633) hx hb dL_law_959 (by decide) ?_
  refine W.widen (k := cells + 2) (n := slots + 16) (by omega) (by omega) ?_
  exact K1 _ _ _ hP hD hS (lv_sub hl [2, 3, 4, 5, 6] rfl)
set_option maxHeartbeats 4000000 in
set_option maxRecDepth 100000 in
theorem lw_cut_f1_f1 {p : Program} {l : Launch} {e : Env} {s : State} {m : MethodId} {below : List Frame} {meth : Method} {c : Code} {Q : State → Prop} {b L : Nat} {xs : Nat → Int32} (hlf : l.stackTraces = false) (C0 : lw_At p s m meth c b L xs) {D : va_G} {cI cL : ClassId} (hK : kcK D [(cI, .int), (cL, .long)] s) (hX0 : kcX (fun q => s.heap.size ≤ q) s s.heap) (hL : L ≤ 2048) (i : Nat) (hi : i + 3 < L) (ad : Nat → Nat) (cd : Nat → Int32) (te : Nat → Int32) (ri : Nat → Int32) (pi : Nat → Int32) (pw : Nat → Int32) (K : Nat) (Dn : Nat) (mv : Int32) (ko : Nat → Int32) (so : Nat → Int32) (tl : Nat → Int32) (lp : Nat → Int32) (lb : Nat → Int32) (ld : Nat → Int32) (le : Nat → Int32) (C : Nat) (cl : Nat → Int32) (dq : Nat → Int32) (dy : Int32) (ou : Nat → Int64) (md : Nat → Nat) (th : Int32) (mK : Nat) (mc : Nat → Int32) (mD : Nat) (mr : Nat → Int32) (mw : Int32) (my : Int32) (mC : Nat) (mk : Nat → Int32) (ms : Nat → Int32) (mu : Nat → Int32) (mt : Nat → Int32) (mp : Nat → Int32) (mb : Nat → Int32) (me : Nat → Int32) (x : Int32) (hBad : ¬ jIn K x = true) (m_hBad : ¬ jIn mK x = true) (hp1 : xs (i + 1) = x)  {H : Heap} {locs : List Loc} {cells slots : Nat} (hce : cells + 2 ≤ 601024) (hsl : slots + 16 ≤ 7293034) (hP : va_P D vwCl (wLaw ad cI cd te ri pi pw K Dn mv ko so tl lp lb ld le C cl dq dy cL ou md th mK mc mD mr mw my mC mk ms mu mt mp mb me) H) (hD : va_D (fun q => s.heap.size ≤ q) (wLaw ad cI cd te ri pi pw K Dn mv ko so tl lp lb ld le C cl dq dy cL ou md th mK mc mD mr mw my mC mk ms mu mt mp mb me)) (hS : va_S (fun q => s.heap.size ≤ q) s.heap H locs) {ls : Array Slot} (hl : lv_has ls 9 [(0, .ref b), (1, .ref (ad 14)), (2, .ref (md 0)), (3, .ref (ad 17)), (4, .int (nI i))]) (K1 : ∀ (H : Heap) (locs : List Loc) (ls : Array Slot), va_P D vwCl (wLaw ad cI cd te ri pi pw K Dn mv ko so tl lp lb ld le C cl dq dy cL ou md 1 mK mc mD mr mw my mC mk ms mu mt mp mb me) H → va_D (fun q => s.heap.size ≤ q) (wLaw ad cI cd te ri pi pw K Dn mv ko so tl lp lb ld le C cl dq dy cL ou md 1 mK mc mD mr mw my mC mk ms mu mt mp mb me) → va_S (fun q => s.heap.size ≤ q) s.heap H locs → lv_has ls 9 [(0, .ref b), (1, .ref (ad 14)), (2, .ref (md 0)), (3, .ref (ad 17)), (4, .int (nI i))] → W p l e room_1 s m #[Value.ref b] below meth c H locs (cells + 2) (slots + 16) Q (F0 m 1633 ls [])) : W p l e room_1 s m #[Value.ref b] below meth c H locs cells slots Q (F0 m 906 ls []) := by
  obtain ⟨hx, hb, hr, hml, hown, hts, hXs, hbl, hlocks, hgv⟩ := id C0
  have hts := fun w h => hts w (wsL_law_in w h)
  have hb : c.code = cL_law := hb
  have hA : ∀ q : Nat, s.heap.size ≤ q → (fun q : Nat => s.heap.size ≤ q) q := fun _ h => h
  have hbA : ¬ (fun q : Nat => s.heap.size ≤ q) b := Nat.not_le.mpr hbl
  refine lv_aload_n hx hb dL_law_906 rfl (lv_at hl 1 rfl) ?_
  refine lv_aload_n hx hb dL_law_907 rfl (lv_at hl 0 rfl) ?_
  refine lv_iload hx hb dL_law_908 (lv_at hl 4 rfl) ?_
  refine lv_iconst (v := 1) hx hb dL_law_910 (by decide) ?_
  refine lv_iadd hx hb dL_law_911 ?_
  refine kc_top (show (nI i) + 1 = nI (i + 1) from nI_add _ _) ?_
  refine kc_sld (i := i + 1) hx hb hXs hbl hbA hS (by omega) (by omega) dL_law_912 ?_
  refine kc_top hp1 ?_
  refine lv_aload_n hx hb dL_law_913 rfl (lv_at hl 3 rfl) ?_
  have hX := kc_xat hX0 hS
  refine kc_hXi (w1 := wLh ad cI cd te ri pi pw K Dn mv ko so tl lp lb ld le C cl dq dy cL ou) (wr := [(md 0, .inr (3, [.int th, .int (nI mK), .ref (md 1), .int (nI mD), .ref (md 2), .int mw, .int my, .int (nI mC), .ref (md 3), .ref (md 4), .ref (md 5), .ref (md 6), .ref (md 7), .ref (md 8), .ref (md 9)])), (md 1, .inl (cI, 8, .inl mc)), (md 2, .inl (cI, 8, .inl mr)), (md 3, .inl (cI, 24, .inl mk)), (md 4, .inl (cI, 24, .inl ms)), (md 5, .inl (cI, 24, .inl mu)), (md 6, .inl (cI, 24, .inl mt)), (md 7, .inl (cI, 216, .inl mp)), (md 8, .inl (cI, 216, .inl mb)), (md 9, .inl (cI, 216, .inl me))]) (ws1 := wLaw ad cI cd te ri pi pw K Dn mv ko so tl lp lb ld le C cl dq dy cL ou md th mK mc mD mr mw my mC mk ms mu mt mp mb me) (As := [.ref (ad 14), .int x, .ref (ad 17)]) (rest := []) ⟨hx, hb, hml, hown, hts⟩ (c_L_cut_f1 l hlf D ad cI cd te ri pi pw K Dn mv ko so tl lp lb ld le C cl dq dy cL ou x H.size hBad) (vx_cwSW 3 hts gL_law_L_cut rfl rfl rfl (by decide +kernel) ⟨Nat.le_of_ble_eq_true rfl, Nat.le_of_ble_eq_true rfl⟩) hK hP hD hX hS hA [0, 1, 2, 3, 4, 5, 6, 7, 8, 9, 10, 11, 12, 13, 14, 15, 16, 17] [18, 19, 20, 21, 22, 23, 24, 25, 26, 27] [10, 11, 12, 13, 14, 15, 16, 17, 18, 19, 20, 21, 22, 23, 24, 25, 26, 27, 0, 1, 2, 3, 4, 5, 6, 7, 8, 9] [0, 1] rfl rfl rfl rfl (by decide) rfl rfl rfl rfl hl.1 rfl (Nat.le_of_ble_eq_true rfl) dL_law_914 ⟨kc_rc (by omega), kc_rs (by omega)⟩ (fun H locs hP hD hS => ?_)
  refine lv_istore (lv' := [(5, .int 1), (0, .ref b), (1, .ref (ad 14)), (2, .ref (md 0)), (3, .ref (ad 17)), (4, .int (nI i))]) hx hb dL_law_917 hl (by decide) rfl (fun ls hl => ?_)
  refine lv_aload_n hx hb dL_law_919 rfl (lv_at hl 3 rfl) ?_
  refine lv_aload_n hx hb dL_law_920 rfl (lv_at hl 1 rfl) ?_
  refine lv_iload hx hb dL_law_921 (lv_at hl 5 rfl) ?_
  refine lv_iconst (v := 1) hx hb dL_law_923 (by decide) ?_
  refine lv_iadd hx hb dL_law_924 ?_
  refine kc_top (show (nI i) + 1 = nI (i + 1) from nI_add _ _) ?_
  refine kc_sld (i := i + 1) hx hb hXs hbl hbA hS (by omega) (by omega) dL_law_925 ?_
  refine kc_top hp1 ?_
  refine kc_wVi (w1 := wMd md cI 1 mK mc mD mr mw my mC mk ms mu mt mp mb me) (wr := [(ad 0, .inr (1, [.ref (ad 1), .ref (ad 2), .ref (ad 3), .ref (ad 4), .ref (ad 5), .int (nI K), .int (nI Dn), .int mv])), (ad 1, .inl (cI, 8, .inl cd)), (ad 2, .inl (cI, 8, .inl te)), (ad 3, .inl (cI, 8, .inl ri)), (ad 4, .inl (cI, 8, .inl pi)), (ad 5, .inl (cI, 8, .inl pw)), (ad 6, .inr (0, [.ref (ad 7), .ref (ad 8), .ref (ad 9), .ref (ad 10), .ref (ad 11), .ref (ad 12), .ref (ad 13), .int (nI C)])), (ad 7, .inl (cI, 24, .inl ko)), (ad 8, .inl (cI, 24, .inl so)), (ad 9, .inl (cI, 24, .inl tl)), (ad 10, .inl (cI, 216, .inl lp)), (ad 11, .inl (cI, 216, .inl lb)), (ad 12, .inl (cI, 216, .inl ld)), (ad 13, .inl (cI, 216, .inl le)), (ad 14, .inr (2, [.ref (ad 0), .ref (ad 6), .ref (ad 15), .ref (ad 16), .int dy])), (ad 15, .inl (cI, 8, .inl cl)), (ad 16, .inl (cI, 8, .inl dq)), (ad 17, .inl (cL, 1, .inr (.inl ou)))]) (ws1 := wLaw ad cI cd te ri pi pw K Dn mv ko so tl lp lb ld le C cl dq dy cL ou md 1 mK mc mD mr mw my mC mk ms mu mt mp mb me) (As := [.int x]) (rest := []) ⟨hx, hb, hml, hown, hts⟩ (c_X3_cut_f1 l D md cI th mK mc mD mr mw my mC mk ms mu mt mp mb me x H.size m_hBad) (cwV 1 hts gL_law_X3_cut rfl rfl rfl (by decide +kernel) ⟨Nat.le_of_ble_eq_true rfl, Nat.le_of_ble_eq_true rfl⟩) hK hP hD hS hA [18, 19, 20, 21, 22, 23, 24, 25, 26, 27] [0, 1, 2, 3, 4, 5, 6, 7, 8, 9, 10, 11, 12, 13, 14, 15, 16, 17] [0, 1, 2, 3, 4, 5, 6, 7, 8, 9, 10, 11, 12, 13, 14, 15, 16, 17, 18, 19, 20, 21, 22, 23, 24, 25, 26, 27] [0] rfl rfl rfl rfl (by decide) rfl rfl rfl 18 rfl rfl rfl rfl hl.1 rfl (Nat.le_of_ble_eq_true rfl) dL_law_926 ⟨kc_rc (by omega), kc_rs (by omega)⟩ (fun H locs hP hD hS => ?_)
  refine lv_istore (lv' := [(6, .int 0), (5, .int 1), (0, .ref b), (1, .ref (ad 14)), (2, .ref (md 0)), (3, .ref (ad 17)), (4, .int (nI i))]) hx hb dL_law_929 hl (by decide) rfl (fun ls hl => ?_)
  refine lv_aload_n hx hb dL_law_931 rfl (lv_at hl 4 rfl) ?_
  refine kc_rVi (As := []) (rest := []) ⟨hx, hb, hml, hown, hts⟩ (c_X3_thrown l D md cI 1 mK mc mD mr mw my mC mk ms mu mt mp mb me ) (cwV 0 hts gL_law_X3_thrown rfl rfl rfl (by decide +kernel) ⟨Nat.le_of_ble_eq_true rfl, Nat.le_of_ble_eq_true rfl⟩) hK hP [18, 19, 20, 21, 22, 23, 24, 25, 26, 27] [0] rfl rfl 18 rfl rfl rfl rfl hl.1 rfl (Nat.le_of_ble_eq_true rfl) dL_law_932 ⟨kc_rc (by omega), kc_rs (by omega)⟩ ?_
  refine lv_iload hx hb dL_law_935 (lv_at hl 1 rfl) ?_
  refine lv_icmp_eq (tgt := 942) hx hb dL_law_937 (by decide) (fun c_937 => ?_) (fun c_937 => absurd c_937 (by decide))
  refine lv_iload hx hb dL_law_942 (lv_at hl 1 rfl) ?_
  refine lv_if_ne (tgt := 959) hx hb dL_law_944 (by decide) (fun c_944 => ?_) (fun c_944 => absurd c_944 (by decide))
  refine lv_goto (tgt := 1633) hx hb dL_law_959 (by decide) ?_
  refine W.widen (k := cells + 2) (n := slots + 16) (by omega) (by omega) ?_
  exact K1 _ _ _ hP hD hS (lv_sub hl [2, 3, 4, 5, 6] rfl)
set_option maxHeartbeats 4000000 in
set_option maxRecDepth 100000 in
theorem lw_cut_f2_f2 {p : Program} {l : Launch} {e : Env} {s : State} {m : MethodId} {below : List Frame} {meth : Method} {c : Code} {Q : State → Prop} {b L : Nat} {xs : Nat → Int32} (hlf : l.stackTraces = false) (C0 : lw_At p s m meth c b L xs) {D : va_G} {cI cL : ClassId} (hK : kcK D [(cI, .int), (cL, .long)] s) (hX0 : kcX (fun q => s.heap.size ≤ q) s s.heap) (hL : L ≤ 2048) (i : Nat) (hi : i + 3 < L) (ad : Nat → Nat) (cd : Nat → Int32) (te : Nat → Int32) (ri : Nat → Int32) (pi : Nat → Int32) (pw : Nat → Int32) (K : Nat) (Dn : Nat) (mv : Int32) (ko : Nat → Int32) (so : Nat → Int32) (tl : Nat → Int32) (lp : Nat → Int32) (lb : Nat → Int32) (ld : Nat → Int32) (le : Nat → Int32) (C : Nat) (cl : Nat → Int32) (dq : Nat → Int32) (dy : Int32) (ou : Nat → Int64) (md : Nat → Nat) (th : Int32) (mK : Nat) (mc : Nat → Int32) (mD : Nat) (mr : Nat → Int32) (mw : Int32) (my : Int32) (mC : Nat) (mk : Nat → Int32) (ms : Nat → Int32) (mu : Nat → Int32) (mt : Nat → Int32) (mp : Nat → Int32) (mb : Nat → Int32) (me : Nat → Int32) (k : Nat) (hK8 : K ≤ 8) (hk : k < K) (hCe : C = 24) (m_hK8 : mK ≤ 8) (m_hk : k < mK) (m_hCe : mC = 24) (hp1 : xs (i + 1) = nI k)  {H : Heap} {locs : List Loc} {cells slots : Nat} (hce : cells + 2 ≤ 601024) (hsl : slots + 16 ≤ 7293034) (hP : va_P D vwCl (wLaw ad cI cd te ri pi pw K Dn mv ko so tl lp lb ld le C cl dq dy cL ou md th mK mc mD mr mw my mC mk ms mu mt mp mb me) H) (hD : va_D (fun q => s.heap.size ≤ q) (wLaw ad cI cd te ri pi pw K Dn mv ko so tl lp lb ld le C cl dq dy cL ou md th mK mc mD mr mw my mC mk ms mu mt mp mb me)) (hS : va_S (fun q => s.heap.size ≤ q) s.heap H locs) {ls : Array Slot} (hl : lv_has ls 9 [(0, .ref b), (1, .ref (ad 14)), (2, .ref (md 0)), (3, .ref (ad 17)), (4, .int (nI i))]) (K1 : ∀ (H : Heap) (locs : List Loc) (ls : Array Slot), va_P D vwCl (wLaw ad cI cd te ri pi pw K Dn mv ko so tl lp lb ld le C cl dq dy cL ou md 2 mK mc mD mr mw my mC mk ms mu mt mp mb me) H → va_D (fun q => s.heap.size ≤ q) (wLaw ad cI cd te ri pi pw K Dn mv ko so tl lp lb ld le C cl dq dy cL ou md 2 mK mc mD mr mw my mC mk ms mu mt mp mb me) → va_S (fun q => s.heap.size ≤ q) s.heap H locs → lv_has ls 9 [(0, .ref b), (1, .ref (ad 14)), (2, .ref (md 0)), (3, .ref (ad 17)), (4, .int (nI i))] → W p l e room_1 s m #[Value.ref b] below meth c H locs (cells + 2) (slots + 16) Q (F0 m 1633 ls [])) : W p l e room_1 s m #[Value.ref b] below meth c H locs cells slots Q (F0 m 906 ls []) := by
  obtain ⟨hx, hb, hr, hml, hown, hts, hXs, hbl, hlocks, hgv⟩ := id C0
  have hts := fun w h => hts w (wsL_law_in w h)
  have hb : c.code = cL_law := hb
  have hA : ∀ q : Nat, s.heap.size ≤ q → (fun q : Nat => s.heap.size ≤ q) q := fun _ h => h
  have hbA : ¬ (fun q : Nat => s.heap.size ≤ q) b := Nat.not_le.mpr hbl
  refine lv_aload_n hx hb dL_law_906 rfl (lv_at hl 1 rfl) ?_
  refine lv_aload_n hx hb dL_law_907 rfl (lv_at hl 0 rfl) ?_
  refine lv_iload hx hb dL_law_908 (lv_at hl 4 rfl) ?_
  refine lv_iconst (v := 1) hx hb dL_law_910 (by decide) ?_
  refine lv_iadd hx hb dL_law_911 ?_
  refine kc_top (show (nI i) + 1 = nI (i + 1) from nI_add _ _) ?_
  refine kc_sld (i := i + 1) hx hb hXs hbl hbA hS (by omega) (by omega) dL_law_912 ?_
  refine kc_top hp1 ?_
  refine lv_aload_n hx hb dL_law_913 rfl (lv_at hl 3 rfl) ?_
  have hX := kc_xat hX0 hS
  refine kc_hXi (w1 := wLh ad cI cd te ri pi pw K Dn mv ko so tl lp lb ld le C cl dq dy cL ou) (wr := [(md 0, .inr (3, [.int th, .int (nI mK), .ref (md 1), .int (nI mD), .ref (md 2), .int mw, .int my, .int (nI mC), .ref (md 3), .ref (md 4), .ref (md 5), .ref (md 6), .ref (md 7), .ref (md 8), .ref (md 9)])), (md 1, .inl (cI, 8, .inl mc)), (md 2, .inl (cI, 8, .inl mr)), (md 3, .inl (cI, 24, .inl mk)), (md 4, .inl (cI, 24, .inl ms)), (md 5, .inl (cI, 24, .inl mu)), (md 6, .inl (cI, 24, .inl mt)), (md 7, .inl (cI, 216, .inl mp)), (md 8, .inl (cI, 216, .inl mb)), (md 9, .inl (cI, 216, .inl me))]) (ws1 := wLaw ad cI cd te ri pi pw K Dn mv ko so tl lp lb ld le C cl dq dy cL ou md th mK mc mD mr mw my mC mk ms mu mt mp mb me) (As := [.ref (ad 14), .int (nI k), .ref (ad 17)]) (rest := []) ⟨hx, hb, hml, hown, hts⟩ (c_L_cut_f2 l hlf D ad cI cd te ri pi pw K Dn mv ko so tl lp lb ld le C cl dq dy cL ou k H.size hK8 hk hCe) (vx_cwSW 3 hts gL_law_L_cut rfl rfl rfl (by decide +kernel) ⟨Nat.le_of_ble_eq_true rfl, Nat.le_of_ble_eq_true rfl⟩) hK hP hD hX hS hA [0, 1, 2, 3, 4, 5, 6, 7, 8, 9, 10, 11, 12, 13, 14, 15, 16, 17] [18, 19, 20, 21, 22, 23, 24, 25, 26, 27] [10, 11, 12, 13, 14, 15, 16, 17, 18, 19, 20, 21, 22, 23, 24, 25, 26, 27, 0, 1, 2, 3, 4, 5, 6, 7, 8, 9] [0, 1] rfl rfl rfl rfl (by decide) rfl rfl rfl rfl hl.1 rfl (Nat.le_of_ble_eq_true rfl) dL_law_914 ⟨kc_rc (by omega), kc_rs (by omega)⟩ (fun H locs hP hD hS => ?_)
  refine lv_istore (lv' := [(5, .int 2), (0, .ref b), (1, .ref (ad 14)), (2, .ref (md 0)), (3, .ref (ad 17)), (4, .int (nI i))]) hx hb dL_law_917 hl (by decide) rfl (fun ls hl => ?_)
  refine lv_aload_n hx hb dL_law_919 rfl (lv_at hl 3 rfl) ?_
  refine lv_aload_n hx hb dL_law_920 rfl (lv_at hl 1 rfl) ?_
  refine lv_iload hx hb dL_law_921 (lv_at hl 5 rfl) ?_
  refine lv_iconst (v := 1) hx hb dL_law_923 (by decide) ?_
  refine lv_iadd hx hb dL_law_924 ?_
  refine kc_top (show (nI i) + 1 = nI (i + 1) from nI_add _ _) ?_
  refine kc_sld (i := i + 1) hx hb hXs hbl hbA hS (by omega) (by omega) dL_law_925 ?_
  refine kc_top hp1 ?_
  refine kc_wVi (w1 := wMd md cI 2 mK mc mD mr mw my mC mk ms mu mt mp mb me) (wr := [(ad 0, .inr (1, [.ref (ad 1), .ref (ad 2), .ref (ad 3), .ref (ad 4), .ref (ad 5), .int (nI K), .int (nI Dn), .int mv])), (ad 1, .inl (cI, 8, .inl cd)), (ad 2, .inl (cI, 8, .inl te)), (ad 3, .inl (cI, 8, .inl ri)), (ad 4, .inl (cI, 8, .inl pi)), (ad 5, .inl (cI, 8, .inl pw)), (ad 6, .inr (0, [.ref (ad 7), .ref (ad 8), .ref (ad 9), .ref (ad 10), .ref (ad 11), .ref (ad 12), .ref (ad 13), .int (nI C)])), (ad 7, .inl (cI, 24, .inl ko)), (ad 8, .inl (cI, 24, .inl so)), (ad 9, .inl (cI, 24, .inl tl)), (ad 10, .inl (cI, 216, .inl lp)), (ad 11, .inl (cI, 216, .inl lb)), (ad 12, .inl (cI, 216, .inl ld)), (ad 13, .inl (cI, 216, .inl le)), (ad 14, .inr (2, [.ref (ad 0), .ref (ad 6), .ref (ad 15), .ref (ad 16), .int dy])), (ad 15, .inl (cI, 8, .inl cl)), (ad 16, .inl (cI, 8, .inl dq)), (ad 17, .inl (cL, 1, .inr (.inl ou)))]) (ws1 := wLaw ad cI cd te ri pi pw K Dn mv ko so tl lp lb ld le C cl dq dy cL ou md 2 mK mc mD mr mw my mC mk ms mu mt mp mb me) (As := [.int (nI k)]) (rest := []) ⟨hx, hb, hml, hown, hts⟩ (c_X3_cut_f2 l D md cI th mK mc mD mr mw my mC mk ms mu mt mp mb me k H.size m_hK8 m_hk m_hCe) (cwV 1 hts gL_law_X3_cut rfl rfl rfl (by decide +kernel) ⟨Nat.le_of_ble_eq_true rfl, Nat.le_of_ble_eq_true rfl⟩) hK hP hD hS hA [18, 19, 20, 21, 22, 23, 24, 25, 26, 27] [0, 1, 2, 3, 4, 5, 6, 7, 8, 9, 10, 11, 12, 13, 14, 15, 16, 17] [0, 1, 2, 3, 4, 5, 6, 7, 8, 9, 10, 11, 12, 13, 14, 15, 16, 17, 18, 19, 20, 21, 22, 23, 24, 25, 26, 27] [0] rfl rfl rfl rfl (by decide) rfl rfl rfl 18 rfl rfl rfl rfl hl.1 rfl (Nat.le_of_ble_eq_true rfl) dL_law_926 ⟨kc_rc (by omega), kc_rs (by omega)⟩ (fun H locs hP hD hS => ?_)
  refine lv_istore (lv' := [(6, .int 0), (5, .int 2), (0, .ref b), (1, .ref (ad 14)), (2, .ref (md 0)), (3, .ref (ad 17)), (4, .int (nI i))]) hx hb dL_law_929 hl (by decide) rfl (fun ls hl => ?_)
  refine lv_aload_n hx hb dL_law_931 rfl (lv_at hl 4 rfl) ?_
  refine kc_rVi (As := []) (rest := []) ⟨hx, hb, hml, hown, hts⟩ (c_X3_thrown l D md cI 2 mK mc mD mr mw my mC mk ms mu mt mp mb me ) (cwV 0 hts gL_law_X3_thrown rfl rfl rfl (by decide +kernel) ⟨Nat.le_of_ble_eq_true rfl, Nat.le_of_ble_eq_true rfl⟩) hK hP [18, 19, 20, 21, 22, 23, 24, 25, 26, 27] [0] rfl rfl 18 rfl rfl rfl rfl hl.1 rfl (Nat.le_of_ble_eq_true rfl) dL_law_932 ⟨kc_rc (by omega), kc_rs (by omega)⟩ ?_
  refine lv_iload hx hb dL_law_935 (lv_at hl 1 rfl) ?_
  refine lv_icmp_eq (tgt := 942) hx hb dL_law_937 (by decide) (fun c_937 => ?_) (fun c_937 => absurd c_937 (by decide))
  refine lv_iload hx hb dL_law_942 (lv_at hl 1 rfl) ?_
  refine lv_if_ne (tgt := 959) hx hb dL_law_944 (by decide) (fun c_944 => ?_) (fun c_944 => absurd c_944 (by decide))
  refine lv_goto (tgt := 1633) hx hb dL_law_959 (by decide) ?_
  refine W.widen (k := cells + 2) (n := slots + 16) (by omega) (by omega) ?_
  exact K1 _ _ _ hP hD hS (lv_sub hl [2, 3, 4, 5, 6] rfl)
set_option maxHeartbeats 4000000 in
set_option maxRecDepth 100000 in
theorem lw_lend_ok_ok {p : Program} {l : Launch} {e : Env} {s : State} {m : MethodId} {below : List Frame} {meth : Method} {c : Code} {Q : State → Prop} {b L : Nat} {xs : Nat → Int32} (hlf : l.stackTraces = false) (C0 : lw_At p s m meth c b L xs) {D : va_G} {cI cL : ClassId} (hK : kcK D [(cI, .int), (cL, .long)] s) (hX0 : kcX (fun q => s.heap.size ≤ q) s s.heap) (hL : L ≤ 2048) (i : Nat) (hi : i + 3 < L) (ad : Nat → Nat) (cd : Nat → Int32) (te : Nat → Int32) (ri : Nat → Int32) (pi : Nat → Int32) (pw : Nat → Int32) (K : Nat) (Dn : Nat) (mv : Int32) (ko : Nat → Int32) (so : Nat → Int32) (tl : Nat → Int32) (lp : Nat → Int32) (lb : Nat → Int32) (ld : Nat → Int32) (le : Nat → Int32) (C : Nat) (cl : Nat → Int32) (dq : Nat → Int32) (dy : Int32) (ou : Nat → Int64) (md : Nat → Nat) (th : Int32) (mK : Nat) (mc : Nat → Int32) (mD : Nat) (mr : Nat → Int32) (mw : Int32) (my : Int32) (mC : Nat) (mk : Nat → Int32) (ms : Nat → Int32) (mu : Nat → Int32) (mt : Nat → Int32) (mp : Nat → Int32) (mb : Nat → Int32) (me : Nat → Int32) (cx : Nat) (pe : Int32) (dz : Int32) (tn : Nat → Nat) (hC24 : C ≤ 24) (hc : cx < C) (hp : jIn 8 pe = true) (hz1 : ¬ dz < 1) (hz2 : dz ≤ 99) (hcan : jCan so tl cx = true) (ht : tl cx = nI (tn cx)) (ht8 : tn cx < 9) (m_hC24 : mC ≤ 24) (m_hc : cx < mC) (m_hp : jIn 8 pe = true) (m_hz1 : ¬ dz < 1) (m_hz2 : dz ≤ 99) (m_h0 : ms cx = 0) (m_ht : mt cx = nI (tn cx)) (m_ht8 : tn cx < 9) (hp1 : xs (i + 1) = nI cx) (hp2 : xs (i + 2) = pe) (hp3 : xs (i + 3) = dz) (hres : (dy + dz : Int32) = (my + dz)) {H : Heap} {locs : List Loc} {cells slots : Nat} (hce : cells + 2 ≤ 601024) (hsl : slots + 16 ≤ 7293034) (hP : va_P D vwCl (wLaw ad cI cd te ri pi pw K Dn mv ko so tl lp lb ld le C cl dq dy cL ou md th mK mc mD mr mw my mC mk ms mu mt mp mb me) H) (hD : va_D (fun q => s.heap.size ≤ q) (wLaw ad cI cd te ri pi pw K Dn mv ko so tl lp lb ld le C cl dq dy cL ou md th mK mc mD mr mw my mC mk ms mu mt mp mb me)) (hS : va_S (fun q => s.heap.size ≤ q) s.heap H locs) {ls : Array Slot} (hl : lv_has ls 9 [(0, .ref b), (1, .ref (ad 14)), (2, .ref (md 0)), (3, .ref (ad 17)), (4, .int (nI i))]) (K1 : ∀ (H : Heap) (locs : List Loc) (ls : Array Slot), va_P D vwCl (wLaw ad cI cd te ri pi pw K Dn mv ko (upd so cx 1) (upd tl cx (nI (tn cx + 1))) (upd lp (cx * 9 + tn cx) pe) (upd lb (cx * 9 + tn cx) dy) (upd ld (cx * 9 + tn cx) (dy + dz)) (upd le (cx * 9 + tn cx) 10000) C cl dq dy cL (vp_updL ou 0 (Int32.toInt64 (dy + dz))) md 0 mK mc mD mr mw my mC mk (upd ms cx 1) (upd mu cx (my + dz)) (upd mt cx (nI (tn cx + 1))) (upd mp (cx * 9 + tn cx) pe) (upd mb (cx * 9 + tn cx) my) (upd me (cx * 9 + tn cx) (-1))) H → va_D (fun q => s.heap.size ≤ q) (wLaw ad cI cd te ri pi pw K Dn mv ko (upd so cx 1) (upd tl cx (nI (tn cx + 1))) (upd lp (cx * 9 + tn cx) pe) (upd lb (cx * 9 + tn cx) dy) (upd ld (cx * 9 + tn cx) (dy + dz)) (upd le (cx * 9 + tn cx) 10000) C cl dq dy cL (vp_updL ou 0 (Int32.toInt64 (dy + dz))) md 0 mK mc mD mr mw my mC mk (upd ms cx 1) (upd mu cx (my + dz)) (upd mt cx (nI (tn cx + 1))) (upd mp (cx * 9 + tn cx) pe) (upd mb (cx * 9 + tn cx) my) (upd me (cx * 9 + tn cx) (-1))) → va_S (fun q => s.heap.size ≤ q) s.heap H locs → lv_has ls 9 [(0, .ref b), (1, .ref (ad 14)), (2, .ref (md 0)), (3, .ref (ad 17)), (4, .int (nI i))] → W p l e room_1 s m #[Value.ref b] below meth c H locs (cells + 2) (slots + 16) Q (F0 m 1633 ls [])) : W p l e room_1 s m #[Value.ref b] below meth c H locs cells slots Q (F0 m 962 ls []) := by
  obtain ⟨hx, hb, hr, hml, hown, hts, hXs, hbl, hlocks, hgv⟩ := id C0
  have hts := fun w h => hts w (wsL_law_in w h)
  have hb : c.code = cL_law := hb
  have hA : ∀ q : Nat, s.heap.size ≤ q → (fun q : Nat => s.heap.size ≤ q) q := fun _ h => h
  have hbA : ¬ (fun q : Nat => s.heap.size ≤ q) b := Nat.not_le.mpr hbl
  refine lv_aload_n hx hb dL_law_962 rfl (lv_at hl 1 rfl) ?_
  refine lv_aload_n hx hb dL_law_963 rfl (lv_at hl 0 rfl) ?_
  refine lv_iload hx hb dL_law_964 (lv_at hl 4 rfl) ?_
  refine lv_iconst (v := 1) hx hb dL_law_966 (by decide) ?_
  refine lv_iadd hx hb dL_law_967 ?_
  refine kc_top (show (nI i) + 1 = nI (i + 1) from nI_add _ _) ?_
  refine kc_sld (i := i + 1) hx hb hXs hbl hbA hS (by omega) (by omega) dL_law_968 ?_
  refine kc_top hp1 ?_
  refine lv_aload_n hx hb dL_law_969 rfl (lv_at hl 0 rfl) ?_
  refine lv_iload hx hb dL_law_970 (lv_at hl 4 rfl) ?_
  refine lv_iconst (v := 2) hx hb dL_law_972 (by decide) ?_
  refine lv_iadd hx hb dL_law_973 ?_
  refine kc_top (show (nI i) + 2 = nI (i + 2) from nI_add _ _) ?_
  refine kc_sld (i := i + 2) hx hb hXs hbl hbA hS (by omega) (by omega) dL_law_974 ?_
  refine kc_top hp2 ?_
  refine lv_aload_n hx hb dL_law_975 rfl (lv_at hl 0 rfl) ?_
  refine lv_iload hx hb dL_law_976 (lv_at hl 4 rfl) ?_
  refine lv_iconst (v := 3) hx hb dL_law_978 (by decide) ?_
  refine lv_iadd hx hb dL_law_979 ?_
  refine kc_top (show (nI i) + 3 = nI (i + 3) from nI_add _ _) ?_
  refine kc_sld (i := i + 3) hx hb hXs hbl hbA hS (by omega) (by omega) dL_law_980 ?_
  refine kc_top hp3 ?_
  refine lv_aload_n hx hb dL_law_981 rfl (lv_at hl 3 rfl) ?_
  refine kc_hSi (w1 := wLh ad cI cd te ri pi pw K Dn mv ko (upd so cx 1) (upd tl cx (nI (tn cx + 1))) (upd lp (cx * 9 + tn cx) pe) (upd lb (cx * 9 + tn cx) dy) (upd ld (cx * 9 + tn cx) (dy + dz)) (upd le (cx * 9 + tn cx) 10000) C cl dq dy cL (vp_updL ou 0 (Int32.toInt64 (dy + dz)))) (wr := [(md 0, .inr (3, [.int th, .int (nI mK), .ref (md 1), .int (nI mD), .ref (md 2), .int mw, .int my, .int (nI mC), .ref (md 3), .ref (md 4), .ref (md 5), .ref (md 6), .ref (md 7), .ref (md 8), .ref (md 9)])), (md 1, .inl (cI, 8, .inl mc)), (md 2, .inl (cI, 8, .inl mr)), (md 3, .inl (cI, 24, .inl mk)), (md 4, .inl (cI, 24, .inl ms)), (md 5, .inl (cI, 24, .inl mu)), (md 6, .inl (cI, 24, .inl mt)), (md 7, .inl (cI, 216, .inl mp)), (md 8, .inl (cI, 216, .inl mb)), (md 9, .inl (cI, 216, .inl me))]) (ws1 := wLaw ad cI cd te ri pi pw K Dn mv ko (upd so cx 1) (upd tl cx (nI (tn cx + 1))) (upd lp (cx * 9 + tn cx) pe) (upd lb (cx * 9 + tn cx) dy) (upd ld (cx * 9 + tn cx) (dy + dz)) (upd le (cx * 9 + tn cx) 10000) C cl dq dy cL (vp_updL ou 0 (Int32.toInt64 (dy + dz))) md th mK mc mD mr mw my mC mk ms mu mt mp mb me) (As := [.ref (ad 14), .int (nI cx), .int pe, .int dz, .ref (ad 17)]) (rest := []) ⟨hx, hb, hml, hown, hts⟩ (c_L_lend_ok l D ad cI cd te ri pi pw K Dn mv ko so tl lp lb ld le C cl dq dy cL ou cx pe dz tn H.size hC24 hc hp hz1 hz2 hcan ht ht8) (vx_cwSW 5 hts gL_law_L_lend rfl rfl rfl (by decide +kernel) ⟨Nat.le_of_ble_eq_true rfl, Nat.le_of_ble_eq_true rfl⟩) hK hP hD hS hA [0, 1, 2, 3, 4, 5, 6, 7, 8, 9, 10, 11, 12, 13, 14, 15, 16, 17] [18, 19, 20, 21, 22, 23, 24, 25, 26, 27] [10, 11, 12, 13, 14, 15, 16, 17, 18, 19, 20, 21, 22, 23, 24, 25, 26, 27, 0, 1, 2, 3, 4, 5, 6, 7, 8, 9] [0, 1] rfl rfl rfl rfl (by decide) rfl rfl rfl rfl hl.1 rfl (Nat.le_of_ble_eq_true rfl) dL_law_982 ⟨kc_rc (by omega), kc_rs (by omega)⟩ (fun H locs hP hD hS => ?_)
  refine lv_istore (lv' := [(5, .int 0), (0, .ref b), (1, .ref (ad 14)), (2, .ref (md 0)), (3, .ref (ad 17)), (4, .int (nI i))]) hx hb dL_law_985 hl (by decide) rfl (fun ls hl => ?_)
  refine lv_aload_n hx hb dL_law_987 rfl (lv_at hl 3 rfl) ?_
  refine lv_aload_n hx hb dL_law_988 rfl (lv_at hl 1 rfl) ?_
  refine lv_iload hx hb dL_law_989 (lv_at hl 5 rfl) ?_
  refine lv_iconst (v := 1) hx hb dL_law_991 (by decide) ?_
  refine lv_iadd hx hb dL_law_992 ?_
  refine kc_top (show (nI i) + 1 = nI (i + 1) from nI_add _ _) ?_
  refine kc_sld (i := i + 1) hx hb hXs hbl hbA hS (by omega) (by omega) dL_law_993 ?_
  refine kc_top hp1 ?_
  refine lv_aload_n hx hb dL_law_994 rfl (lv_at hl 1 rfl) ?_
  refine lv_iload hx hb dL_law_995 (lv_at hl 5 rfl) ?_
  refine lv_iconst (v := 2) hx hb dL_law_997 (by decide) ?_
  refine lv_iadd hx hb dL_law_998 ?_
  refine kc_top (show (nI i) + 2 = nI (i + 2) from nI_add _ _) ?_
  refine kc_sld (i := i + 2) hx hb hXs hbl hbA hS (by omega) (by omega) dL_law_999 ?_
  refine kc_top hp2 ?_
  refine lv_aload_n hx hb dL_law_1000 rfl (lv_at hl 1 rfl) ?_
  refine lv_iload hx hb dL_law_1001 (lv_at hl 5 rfl) ?_
  refine lv_iconst (v := 3) hx hb dL_law_1003 (by decide) ?_
  refine lv_iadd hx hb dL_law_1004 ?_
  refine kc_top (show (nI i) + 3 = nI (i + 3) from nI_add _ _) ?_
  refine kc_sld (i := i + 3) hx hb hXs hbl hbA hS (by omega) (by omega) dL_law_1005 ?_
  refine kc_top hp3 ?_
  refine kc_wVi (w1 := wMd md cI 0 mK mc mD mr mw my mC mk (upd ms cx 1) (upd mu cx (my + dz)) (upd mt cx (nI (tn cx + 1))) (upd mp (cx * 9 + tn cx) pe) (upd mb (cx * 9 + tn cx) my) (upd me (cx * 9 + tn cx) (-1))) (wr := [(ad 0, .inr (1, [.ref (ad 1), .ref (ad 2), .ref (ad 3), .ref (ad 4), .ref (ad 5), .int (nI K), .int (nI Dn), .int mv])), (ad 1, .inl (cI, 8, .inl cd)), (ad 2, .inl (cI, 8, .inl te)), (ad 3, .inl (cI, 8, .inl ri)), (ad 4, .inl (cI, 8, .inl pi)), (ad 5, .inl (cI, 8, .inl pw)), (ad 6, .inr (0, [.ref (ad 7), .ref (ad 8), .ref (ad 9), .ref (ad 10), .ref (ad 11), .ref (ad 12), .ref (ad 13), .int (nI C)])), (ad 7, .inl (cI, 24, .inl ko)), (ad 8, .inl (cI, 24, .inl (upd so cx 1))), (ad 9, .inl (cI, 24, .inl (upd tl cx (nI (tn cx + 1))))), (ad 10, .inl (cI, 216, .inl (upd lp (cx * 9 + tn cx) pe))), (ad 11, .inl (cI, 216, .inl (upd lb (cx * 9 + tn cx) dy))), (ad 12, .inl (cI, 216, .inl (upd ld (cx * 9 + tn cx) (dy + dz)))), (ad 13, .inl (cI, 216, .inl (upd le (cx * 9 + tn cx) 10000))), (ad 14, .inr (2, [.ref (ad 0), .ref (ad 6), .ref (ad 15), .ref (ad 16), .int dy])), (ad 15, .inl (cI, 8, .inl cl)), (ad 16, .inl (cI, 8, .inl dq)), (ad 17, .inl (cL, 1, .inr (.inl (vp_updL ou 0 (Int32.toInt64 (dy + dz))))))]) (ws1 := wLaw ad cI cd te ri pi pw K Dn mv ko (upd so cx 1) (upd tl cx (nI (tn cx + 1))) (upd lp (cx * 9 + tn cx) pe) (upd lb (cx * 9 + tn cx) dy) (upd ld (cx * 9 + tn cx) (dy + dz)) (upd le (cx * 9 + tn cx) 10000) C cl dq dy cL (vp_updL ou 0 (Int32.toInt64 (dy + dz))) md 0 mK mc mD mr mw my mC mk (upd ms cx 1) (upd mu cx (my + dz)) (upd mt cx (nI (tn cx + 1))) (upd mp (cx * 9 + tn cx) pe) (upd mb (cx * 9 + tn cx) my) (upd me (cx * 9 + tn cx) (-1))) (As := [.int (nI cx), .int pe, .int dz]) (rest := []) ⟨hx, hb, hml, hown, hts⟩ (c_X3_lend_ok l D md cI th mK mc mD mr mw my mC mk ms mu mt mp mb me cx pe dz tn H.size m_hC24 m_hc m_hp m_hz1 m_hz2 m_h0 m_ht m_ht8) (cwV 3 hts gL_law_X3_lend rfl rfl rfl (by decide +kernel) ⟨Nat.le_of_ble_eq_true rfl, Nat.le_of_ble_eq_true rfl⟩) hK hP hD hS hA [18, 19, 20, 21, 22, 23, 24, 25, 26, 27] [0, 1, 2, 3, 4, 5, 6, 7, 8, 9, 10, 11, 12, 13, 14, 15, 16, 17] [0, 1, 2, 3, 4, 5, 6, 7, 8, 9, 10, 11, 12, 13, 14, 15, 16, 17, 18, 19, 20, 21, 22, 23, 24, 25, 26, 27] [0] rfl rfl rfl rfl (by decide) rfl rfl rfl 18 rfl rfl rfl rfl hl.1 rfl (Nat.le_of_ble_eq_true rfl) dL_law_1006 ⟨kc_rc (by omega), kc_rs (by omega)⟩ (fun H locs hP hD hS => ?_)
  refine lv_istore (lv' := [(6, .int (my + dz)), (5, .int 0), (0, .ref b), (1, .ref (ad 14)), (2, .ref (md 0)), (3, .ref (ad 17)), (4, .int (nI i))]) hx hb dL_law_1009 hl (by decide) rfl (fun ls hl => ?_)
  refine lv_aload_n hx hb dL_law_1011 rfl (lv_at hl 4 rfl) ?_
  refine kc_rVi (As := []) (rest := []) ⟨hx, hb, hml, hown, hts⟩ (c_X3_thrown l D md cI 0 mK mc mD mr mw my mC mk (upd ms cx 1) (upd mu cx (my + dz)) (upd mt cx (nI (tn cx + 1))) (upd mp (cx * 9 + tn cx) pe) (upd mb (cx * 9 + tn cx) my) (upd me (cx * 9 + tn cx) (-1)) ) (cwV 0 hts gL_law_X3_thrown rfl rfl rfl (by decide +kernel) ⟨Nat.le_of_ble_eq_true rfl, Nat.le_of_ble_eq_true rfl⟩) hK hP [18, 19, 20, 21, 22, 23, 24, 25, 26, 27] [0] rfl rfl 18 rfl rfl rfl rfl hl.1 rfl (Nat.le_of_ble_eq_true rfl) dL_law_1012 ⟨kc_rc (by omega), kc_rs (by omega)⟩ ?_
  refine lv_iload hx hb dL_law_1015 (lv_at hl 1 rfl) ?_
  refine lv_icmp_eq (tgt := 1022) hx hb dL_law_1017 (by decide) (fun c_1017 => ?_) (fun c_1017 => absurd c_1017 (by decide))
  refine lv_iload hx hb dL_law_1022 (lv_at hl 1 rfl) ?_
  refine lv_if_ne (tgt := 1039) hx hb dL_law_1024 (by decide) (fun c_1024 => absurd c_1024 (by decide)) (fun c_1024 => ?_)
  refine lv_aload_n hx hb dL_law_1027 rfl (lv_at hl 5 rfl) ?_
  refine lv_iconst (v := 0) hx hb dL_law_1028 (by decide) ?_
  refine kc_lld (i := 0) (n := 1) hx hb hK hP 17 1 rfl rfl (by decide) (by decide) dL_law_1029 ?_
  refine kc_topl (show ((vp_updL ou 0 (Int32.toInt64 (dy + dz)))) 0 = Int32.toInt64 (dy + dz) from pk_uLs) ?_
  refine lv_iload hx hb dL_law_1030 (lv_at hl 0 rfl) ?_
  refine lv_i2l (v := Int32.toInt64 (my + dz)) hx hb dL_law_1032 rfl ?_
  refine W.lcmp hx hb dL_law_1033 ?_
  refine kc_top (show lg_cmp (Int32.toInt64 (dy + dz)) (Int32.toInt64 (my + dz)) = 0 from kc_lcmp0 (congrArg Int32.toInt64 hres)) ?_
  refine lv_if_eq (tgt := 1039) hx hb dL_law_1034 (by decide) (fun c_1034 => ?_) (fun c_1034 => absurd c_1034 (by decide))
  refine lv_goto (tgt := 1633) hx hb dL_law_1039 (by decide) ?_
  refine W.widen (k := cells + 2) (n := slots + 16) (by omega) (by omega) ?_
  exact K1 _ _ _ hP hD hS (lv_sub hl [2, 3, 4, 5, 6] rfl)
set_option maxHeartbeats 4000000 in
set_option maxRecDepth 100000 in
theorem lw_lend_f1_f1 {p : Program} {l : Launch} {e : Env} {s : State} {m : MethodId} {below : List Frame} {meth : Method} {c : Code} {Q : State → Prop} {b L : Nat} {xs : Nat → Int32} (hlf : l.stackTraces = false) (C0 : lw_At p s m meth c b L xs) {D : va_G} {cI cL : ClassId} (hK : kcK D [(cI, .int), (cL, .long)] s) (hX0 : kcX (fun q => s.heap.size ≤ q) s s.heap) (hL : L ≤ 2048) (i : Nat) (hi : i + 3 < L) (ad : Nat → Nat) (cd : Nat → Int32) (te : Nat → Int32) (ri : Nat → Int32) (pi : Nat → Int32) (pw : Nat → Int32) (K : Nat) (Dn : Nat) (mv : Int32) (ko : Nat → Int32) (so : Nat → Int32) (tl : Nat → Int32) (lp : Nat → Int32) (lb : Nat → Int32) (ld : Nat → Int32) (le : Nat → Int32) (C : Nat) (cl : Nat → Int32) (dq : Nat → Int32) (dy : Int32) (ou : Nat → Int64) (md : Nat → Nat) (th : Int32) (mK : Nat) (mc : Nat → Int32) (mD : Nat) (mr : Nat → Int32) (mw : Int32) (my : Int32) (mC : Nat) (mk : Nat → Int32) (ms : Nat → Int32) (mu : Nat → Int32) (mt : Nat → Int32) (mp : Nat → Int32) (mb : Nat → Int32) (me : Nat → Int32) (x : Int32) (pe : Int32) (dz : Int32) (hBad : ¬ jIn C x = true) (m_hBad : ¬ jIn mC x = true) (hp1 : xs (i + 1) = x) (hp2 : xs (i + 2) = pe) (hp3 : xs (i + 3) = dz)  {H : Heap} {locs : List Loc} {cells slots : Nat} (hce : cells + 2 ≤ 601024) (hsl : slots + 16 ≤ 7293034) (hP : va_P D vwCl (wLaw ad cI cd te ri pi pw K Dn mv ko so tl lp lb ld le C cl dq dy cL ou md th mK mc mD mr mw my mC mk ms mu mt mp mb me) H) (hD : va_D (fun q => s.heap.size ≤ q) (wLaw ad cI cd te ri pi pw K Dn mv ko so tl lp lb ld le C cl dq dy cL ou md th mK mc mD mr mw my mC mk ms mu mt mp mb me)) (hS : va_S (fun q => s.heap.size ≤ q) s.heap H locs) {ls : Array Slot} (hl : lv_has ls 9 [(0, .ref b), (1, .ref (ad 14)), (2, .ref (md 0)), (3, .ref (ad 17)), (4, .int (nI i))]) (K1 : ∀ (H : Heap) (locs : List Loc) (ls : Array Slot), va_P D vwCl (wLaw ad cI cd te ri pi pw K Dn mv ko so tl lp lb ld le C cl dq dy cL ou md 1 mK mc mD mr mw my mC mk ms mu mt mp mb me) H → va_D (fun q => s.heap.size ≤ q) (wLaw ad cI cd te ri pi pw K Dn mv ko so tl lp lb ld le C cl dq dy cL ou md 1 mK mc mD mr mw my mC mk ms mu mt mp mb me) → va_S (fun q => s.heap.size ≤ q) s.heap H locs → lv_has ls 9 [(0, .ref b), (1, .ref (ad 14)), (2, .ref (md 0)), (3, .ref (ad 17)), (4, .int (nI i))] → W p l e room_1 s m #[Value.ref b] below meth c H locs (cells + 2) (slots + 16) Q (F0 m 1633 ls [])) : W p l e room_1 s m #[Value.ref b] below meth c H locs cells slots Q (F0 m 962 ls []) := by
  obtain ⟨hx, hb, hr, hml, hown, hts, hXs, hbl, hlocks, hgv⟩ := id C0
  have hts := fun w h => hts w (wsL_law_in w h)
  have hb : c.code = cL_law := hb
  have hA : ∀ q : Nat, s.heap.size ≤ q → (fun q : Nat => s.heap.size ≤ q) q := fun _ h => h
  have hbA : ¬ (fun q : Nat => s.heap.size ≤ q) b := Nat.not_le.mpr hbl
  refine lv_aload_n hx hb dL_law_962 rfl (lv_at hl 1 rfl) ?_
  refine lv_aload_n hx hb dL_law_963 rfl (lv_at hl 0 rfl) ?_
  refine lv_iload hx hb dL_law_964 (lv_at hl 4 rfl) ?_
  refine lv_iconst (v := 1) hx hb dL_law_966 (by decide) ?_
  refine lv_iadd hx hb dL_law_967 ?_
  refine kc_top (show (nI i) + 1 = nI (i + 1) from nI_add _ _) ?_
  refine kc_sld (i := i + 1) hx hb hXs hbl hbA hS (by omega) (by omega) dL_law_968 ?_
  refine kc_top hp1 ?_
  refine lv_aload_n hx hb dL_law_969 rfl (lv_at hl 0 rfl) ?_
  refine lv_iload hx hb dL_law_970 (lv_at hl 4 rfl) ?_
  refine lv_iconst (v := 2) hx hb dL_law_972 (by decide) ?_
  refine lv_iadd hx hb dL_law_973 ?_
  refine kc_top (show (nI i) + 2 = nI (i + 2) from nI_add _ _) ?_
  refine kc_sld (i := i + 2) hx hb hXs hbl hbA hS (by omega) (by omega) dL_law_974 ?_
  refine kc_top hp2 ?_
  refine lv_aload_n hx hb dL_law_975 rfl (lv_at hl 0 rfl) ?_
  refine lv_iload hx hb dL_law_976 (lv_at hl 4 rfl) ?_
  refine lv_iconst (v := 3) hx hb dL_law_978 (by decide) ?_
  refine lv_iadd hx hb dL_law_979 ?_
  refine kc_top (show (nI i) + 3 = nI (i + 3) from nI_add _ _) ?_
  refine kc_sld (i := i + 3) hx hb hXs hbl hbA hS (by omega) (by omega) dL_law_980 ?_
  refine kc_top hp3 ?_
  refine lv_aload_n hx hb dL_law_981 rfl (lv_at hl 3 rfl) ?_
  have hX := kc_xat hX0 hS
  refine kc_hXi (w1 := wLh ad cI cd te ri pi pw K Dn mv ko so tl lp lb ld le C cl dq dy cL ou) (wr := [(md 0, .inr (3, [.int th, .int (nI mK), .ref (md 1), .int (nI mD), .ref (md 2), .int mw, .int my, .int (nI mC), .ref (md 3), .ref (md 4), .ref (md 5), .ref (md 6), .ref (md 7), .ref (md 8), .ref (md 9)])), (md 1, .inl (cI, 8, .inl mc)), (md 2, .inl (cI, 8, .inl mr)), (md 3, .inl (cI, 24, .inl mk)), (md 4, .inl (cI, 24, .inl ms)), (md 5, .inl (cI, 24, .inl mu)), (md 6, .inl (cI, 24, .inl mt)), (md 7, .inl (cI, 216, .inl mp)), (md 8, .inl (cI, 216, .inl mb)), (md 9, .inl (cI, 216, .inl me))]) (ws1 := wLaw ad cI cd te ri pi pw K Dn mv ko so tl lp lb ld le C cl dq dy cL ou md th mK mc mD mr mw my mC mk ms mu mt mp mb me) (As := [.ref (ad 14), .int x, .int pe, .int dz, .ref (ad 17)]) (rest := []) ⟨hx, hb, hml, hown, hts⟩ (c_L_lend_f1 l hlf D ad cI cd te ri pi pw K Dn mv ko so tl lp lb ld le C cl dq dy cL ou x pe dz H.size hBad) (vx_cwSW 5 hts gL_law_L_lend rfl rfl rfl (by decide +kernel) ⟨Nat.le_of_ble_eq_true rfl, Nat.le_of_ble_eq_true rfl⟩) hK hP hD hX hS hA [0, 1, 2, 3, 4, 5, 6, 7, 8, 9, 10, 11, 12, 13, 14, 15, 16, 17] [18, 19, 20, 21, 22, 23, 24, 25, 26, 27] [10, 11, 12, 13, 14, 15, 16, 17, 18, 19, 20, 21, 22, 23, 24, 25, 26, 27, 0, 1, 2, 3, 4, 5, 6, 7, 8, 9] [0, 1] rfl rfl rfl rfl (by decide) rfl rfl rfl rfl hl.1 rfl (Nat.le_of_ble_eq_true rfl) dL_law_982 ⟨kc_rc (by omega), kc_rs (by omega)⟩ (fun H locs hP hD hS => ?_)
  refine lv_istore (lv' := [(5, .int 1), (0, .ref b), (1, .ref (ad 14)), (2, .ref (md 0)), (3, .ref (ad 17)), (4, .int (nI i))]) hx hb dL_law_985 hl (by decide) rfl (fun ls hl => ?_)
  refine lv_aload_n hx hb dL_law_987 rfl (lv_at hl 3 rfl) ?_
  refine lv_aload_n hx hb dL_law_988 rfl (lv_at hl 1 rfl) ?_
  refine lv_iload hx hb dL_law_989 (lv_at hl 5 rfl) ?_
  refine lv_iconst (v := 1) hx hb dL_law_991 (by decide) ?_
  refine lv_iadd hx hb dL_law_992 ?_
  refine kc_top (show (nI i) + 1 = nI (i + 1) from nI_add _ _) ?_
  refine kc_sld (i := i + 1) hx hb hXs hbl hbA hS (by omega) (by omega) dL_law_993 ?_
  refine kc_top hp1 ?_
  refine lv_aload_n hx hb dL_law_994 rfl (lv_at hl 1 rfl) ?_
  refine lv_iload hx hb dL_law_995 (lv_at hl 5 rfl) ?_
  refine lv_iconst (v := 2) hx hb dL_law_997 (by decide) ?_
  refine lv_iadd hx hb dL_law_998 ?_
  refine kc_top (show (nI i) + 2 = nI (i + 2) from nI_add _ _) ?_
  refine kc_sld (i := i + 2) hx hb hXs hbl hbA hS (by omega) (by omega) dL_law_999 ?_
  refine kc_top hp2 ?_
  refine lv_aload_n hx hb dL_law_1000 rfl (lv_at hl 1 rfl) ?_
  refine lv_iload hx hb dL_law_1001 (lv_at hl 5 rfl) ?_
  refine lv_iconst (v := 3) hx hb dL_law_1003 (by decide) ?_
  refine lv_iadd hx hb dL_law_1004 ?_
  refine kc_top (show (nI i) + 3 = nI (i + 3) from nI_add _ _) ?_
  refine kc_sld (i := i + 3) hx hb hXs hbl hbA hS (by omega) (by omega) dL_law_1005 ?_
  refine kc_top hp3 ?_
  refine kc_wVi (w1 := wMd md cI 1 mK mc mD mr mw my mC mk ms mu mt mp mb me) (wr := [(ad 0, .inr (1, [.ref (ad 1), .ref (ad 2), .ref (ad 3), .ref (ad 4), .ref (ad 5), .int (nI K), .int (nI Dn), .int mv])), (ad 1, .inl (cI, 8, .inl cd)), (ad 2, .inl (cI, 8, .inl te)), (ad 3, .inl (cI, 8, .inl ri)), (ad 4, .inl (cI, 8, .inl pi)), (ad 5, .inl (cI, 8, .inl pw)), (ad 6, .inr (0, [.ref (ad 7), .ref (ad 8), .ref (ad 9), .ref (ad 10), .ref (ad 11), .ref (ad 12), .ref (ad 13), .int (nI C)])), (ad 7, .inl (cI, 24, .inl ko)), (ad 8, .inl (cI, 24, .inl so)), (ad 9, .inl (cI, 24, .inl tl)), (ad 10, .inl (cI, 216, .inl lp)), (ad 11, .inl (cI, 216, .inl lb)), (ad 12, .inl (cI, 216, .inl ld)), (ad 13, .inl (cI, 216, .inl le)), (ad 14, .inr (2, [.ref (ad 0), .ref (ad 6), .ref (ad 15), .ref (ad 16), .int dy])), (ad 15, .inl (cI, 8, .inl cl)), (ad 16, .inl (cI, 8, .inl dq)), (ad 17, .inl (cL, 1, .inr (.inl ou)))]) (ws1 := wLaw ad cI cd te ri pi pw K Dn mv ko so tl lp lb ld le C cl dq dy cL ou md 1 mK mc mD mr mw my mC mk ms mu mt mp mb me) (As := [.int x, .int pe, .int dz]) (rest := []) ⟨hx, hb, hml, hown, hts⟩ (c_X3_lend_f1 l D md cI th mK mc mD mr mw my mC mk ms mu mt mp mb me x pe dz H.size m_hBad) (cwV 3 hts gL_law_X3_lend rfl rfl rfl (by decide +kernel) ⟨Nat.le_of_ble_eq_true rfl, Nat.le_of_ble_eq_true rfl⟩) hK hP hD hS hA [18, 19, 20, 21, 22, 23, 24, 25, 26, 27] [0, 1, 2, 3, 4, 5, 6, 7, 8, 9, 10, 11, 12, 13, 14, 15, 16, 17] [0, 1, 2, 3, 4, 5, 6, 7, 8, 9, 10, 11, 12, 13, 14, 15, 16, 17, 18, 19, 20, 21, 22, 23, 24, 25, 26, 27] [0] rfl rfl rfl rfl (by decide) rfl rfl rfl 18 rfl rfl rfl rfl hl.1 rfl (Nat.le_of_ble_eq_true rfl) dL_law_1006 ⟨kc_rc (by omega), kc_rs (by omega)⟩ (fun H locs hP hD hS => ?_)
  refine lv_istore (lv' := [(6, .int 0), (5, .int 1), (0, .ref b), (1, .ref (ad 14)), (2, .ref (md 0)), (3, .ref (ad 17)), (4, .int (nI i))]) hx hb dL_law_1009 hl (by decide) rfl (fun ls hl => ?_)
  refine lv_aload_n hx hb dL_law_1011 rfl (lv_at hl 4 rfl) ?_
  refine kc_rVi (As := []) (rest := []) ⟨hx, hb, hml, hown, hts⟩ (c_X3_thrown l D md cI 1 mK mc mD mr mw my mC mk ms mu mt mp mb me ) (cwV 0 hts gL_law_X3_thrown rfl rfl rfl (by decide +kernel) ⟨Nat.le_of_ble_eq_true rfl, Nat.le_of_ble_eq_true rfl⟩) hK hP [18, 19, 20, 21, 22, 23, 24, 25, 26, 27] [0] rfl rfl 18 rfl rfl rfl rfl hl.1 rfl (Nat.le_of_ble_eq_true rfl) dL_law_1012 ⟨kc_rc (by omega), kc_rs (by omega)⟩ ?_
  refine lv_iload hx hb dL_law_1015 (lv_at hl 1 rfl) ?_
  refine lv_icmp_eq (tgt := 1022) hx hb dL_law_1017 (by decide) (fun c_1017 => ?_) (fun c_1017 => absurd c_1017 (by decide))
  refine lv_iload hx hb dL_law_1022 (lv_at hl 1 rfl) ?_
  refine lv_if_ne (tgt := 1039) hx hb dL_law_1024 (by decide) (fun c_1024 => ?_) (fun c_1024 => absurd c_1024 (by decide))
  refine lv_goto (tgt := 1633) hx hb dL_law_1039 (by decide) ?_
  refine W.widen (k := cells + 2) (n := slots + 16) (by omega) (by omega) ?_
  exact K1 _ _ _ hP hD hS (lv_sub hl [2, 3, 4, 5, 6] rfl)
set_option maxHeartbeats 4000000 in
set_option maxRecDepth 100000 in
theorem lw_lend_f1b_f1b {p : Program} {l : Launch} {e : Env} {s : State} {m : MethodId} {below : List Frame} {meth : Method} {c : Code} {Q : State → Prop} {b L : Nat} {xs : Nat → Int32} (hlf : l.stackTraces = false) (C0 : lw_At p s m meth c b L xs) {D : va_G} {cI cL : ClassId} (hK : kcK D [(cI, .int), (cL, .long)] s) (hX0 : kcX (fun q => s.heap.size ≤ q) s s.heap) (hL : L ≤ 2048) (i : Nat) (hi : i + 3 < L) (ad : Nat → Nat) (cd : Nat → Int32) (te : Nat → Int32) (ri : Nat → Int32) (pi : Nat → Int32) (pw : Nat → Int32) (K : Nat) (Dn : Nat) (mv : Int32) (ko : Nat → Int32) (so : Nat → Int32) (tl : Nat → Int32) (lp : Nat → Int32) (lb : Nat → Int32) (ld : Nat → Int32) (le : Nat → Int32) (C : Nat) (cl : Nat → Int32) (dq : Nat → Int32) (dy : Int32) (ou : Nat → Int64) (md : Nat → Nat) (th : Int32) (mK : Nat) (mc : Nat → Int32) (mD : Nat) (mr : Nat → Int32) (mw : Int32) (my : Int32) (mC : Nat) (mk : Nat → Int32) (ms : Nat → Int32) (mu : Nat → Int32) (mt : Nat → Int32) (mp : Nat → Int32) (mb : Nat → Int32) (me : Nat → Int32) (cx : Nat) (pe : Int32) (dz : Int32) (hC24 : C ≤ 24) (hc : cx < C) (hBad : ¬ jIn 8 pe = true) (m_hC24 : mC ≤ 24) (m_hc : cx < mC) (m_hBad : ¬ jIn 8 pe = true) (hp1 : xs (i + 1) = nI cx) (hp2 : xs (i + 2) = pe) (hp3 : xs (i + 3) = dz)  {H : Heap} {locs : List Loc} {cells slots : Nat} (hce : cells + 2 ≤ 601024) (hsl : slots + 16 ≤ 7293034) (hP : va_P D vwCl (wLaw ad cI cd te ri pi pw K Dn mv ko so tl lp lb ld le C cl dq dy cL ou md th mK mc mD mr mw my mC mk ms mu mt mp mb me) H) (hD : va_D (fun q => s.heap.size ≤ q) (wLaw ad cI cd te ri pi pw K Dn mv ko so tl lp lb ld le C cl dq dy cL ou md th mK mc mD mr mw my mC mk ms mu mt mp mb me)) (hS : va_S (fun q => s.heap.size ≤ q) s.heap H locs) {ls : Array Slot} (hl : lv_has ls 9 [(0, .ref b), (1, .ref (ad 14)), (2, .ref (md 0)), (3, .ref (ad 17)), (4, .int (nI i))]) (K1 : ∀ (H : Heap) (locs : List Loc) (ls : Array Slot), va_P D vwCl (wLaw ad cI cd te ri pi pw K Dn mv ko so tl lp lb ld le C cl dq dy cL ou md 1 mK mc mD mr mw my mC mk ms mu mt mp mb me) H → va_D (fun q => s.heap.size ≤ q) (wLaw ad cI cd te ri pi pw K Dn mv ko so tl lp lb ld le C cl dq dy cL ou md 1 mK mc mD mr mw my mC mk ms mu mt mp mb me) → va_S (fun q => s.heap.size ≤ q) s.heap H locs → lv_has ls 9 [(0, .ref b), (1, .ref (ad 14)), (2, .ref (md 0)), (3, .ref (ad 17)), (4, .int (nI i))] → W p l e room_1 s m #[Value.ref b] below meth c H locs (cells + 2) (slots + 16) Q (F0 m 1633 ls [])) : W p l e room_1 s m #[Value.ref b] below meth c H locs cells slots Q (F0 m 962 ls []) := by
  obtain ⟨hx, hb, hr, hml, hown, hts, hXs, hbl, hlocks, hgv⟩ := id C0
  have hts := fun w h => hts w (wsL_law_in w h)
  have hb : c.code = cL_law := hb
  have hA : ∀ q : Nat, s.heap.size ≤ q → (fun q : Nat => s.heap.size ≤ q) q := fun _ h => h
  have hbA : ¬ (fun q : Nat => s.heap.size ≤ q) b := Nat.not_le.mpr hbl
  refine lv_aload_n hx hb dL_law_962 rfl (lv_at hl 1 rfl) ?_
  refine lv_aload_n hx hb dL_law_963 rfl (lv_at hl 0 rfl) ?_
  refine lv_iload hx hb dL_law_964 (lv_at hl 4 rfl) ?_
  refine lv_iconst (v := 1) hx hb dL_law_966 (by decide) ?_
  refine lv_iadd hx hb dL_law_967 ?_
  refine kc_top (show (nI i) + 1 = nI (i + 1) from nI_add _ _) ?_
  refine kc_sld (i := i + 1) hx hb hXs hbl hbA hS (by omega) (by omega) dL_law_968 ?_
  refine kc_top hp1 ?_
  refine lv_aload_n hx hb dL_law_969 rfl (lv_at hl 0 rfl) ?_
  refine lv_iload hx hb dL_law_970 (lv_at hl 4 rfl) ?_
  refine lv_iconst (v := 2) hx hb dL_law_972 (by decide) ?_
  refine lv_iadd hx hb dL_law_973 ?_
  refine kc_top (show (nI i) + 2 = nI (i + 2) from nI_add _ _) ?_
  refine kc_sld (i := i + 2) hx hb hXs hbl hbA hS (by omega) (by omega) dL_law_974 ?_
  refine kc_top hp2 ?_
  refine lv_aload_n hx hb dL_law_975 rfl (lv_at hl 0 rfl) ?_
  refine lv_iload hx hb dL_law_976 (lv_at hl 4 rfl) ?_
  refine lv_iconst (v := 3) hx hb dL_law_978 (by decide) ?_
  refine lv_iadd hx hb dL_law_979 ?_
  refine kc_top (show (nI i) + 3 = nI (i + 3) from nI_add _ _) ?_
  refine kc_sld (i := i + 3) hx hb hXs hbl hbA hS (by omega) (by omega) dL_law_980 ?_
  refine kc_top hp3 ?_
  refine lv_aload_n hx hb dL_law_981 rfl (lv_at hl 3 rfl) ?_
  have hX := kc_xat hX0 hS
  refine kc_hXi (w1 := wLh ad cI cd te ri pi pw K Dn mv ko so tl lp lb ld le C cl dq dy cL ou) (wr := [(md 0, .inr (3, [.int th, .int (nI mK), .ref (md 1), .int (nI mD), .ref (md 2), .int mw, .int my, .int (nI mC), .ref (md 3), .ref (md 4), .ref (md 5), .ref (md 6), .ref (md 7), .ref (md 8), .ref (md 9)])), (md 1, .inl (cI, 8, .inl mc)), (md 2, .inl (cI, 8, .inl mr)), (md 3, .inl (cI, 24, .inl mk)), (md 4, .inl (cI, 24, .inl ms)), (md 5, .inl (cI, 24, .inl mu)), (md 6, .inl (cI, 24, .inl mt)), (md 7, .inl (cI, 216, .inl mp)), (md 8, .inl (cI, 216, .inl mb)), (md 9, .inl (cI, 216, .inl me))]) (ws1 := wLaw ad cI cd te ri pi pw K Dn mv ko so tl lp lb ld le C cl dq dy cL ou md th mK mc mD mr mw my mC mk ms mu mt mp mb me) (As := [.ref (ad 14), .int (nI cx), .int pe, .int dz, .ref (ad 17)]) (rest := []) ⟨hx, hb, hml, hown, hts⟩ (c_L_lend_f1b l hlf D ad cI cd te ri pi pw K Dn mv ko so tl lp lb ld le C cl dq dy cL ou cx pe dz H.size hC24 hc hBad) (vx_cwSW 5 hts gL_law_L_lend rfl rfl rfl (by decide +kernel) ⟨Nat.le_of_ble_eq_true rfl, Nat.le_of_ble_eq_true rfl⟩) hK hP hD hX hS hA [0, 1, 2, 3, 4, 5, 6, 7, 8, 9, 10, 11, 12, 13, 14, 15, 16, 17] [18, 19, 20, 21, 22, 23, 24, 25, 26, 27] [10, 11, 12, 13, 14, 15, 16, 17, 18, 19, 20, 21, 22, 23, 24, 25, 26, 27, 0, 1, 2, 3, 4, 5, 6, 7, 8, 9] [0, 1] rfl rfl rfl rfl (by decide) rfl rfl rfl rfl hl.1 rfl (Nat.le_of_ble_eq_true rfl) dL_law_982 ⟨kc_rc (by omega), kc_rs (by omega)⟩ (fun H locs hP hD hS => ?_)
  refine lv_istore (lv' := [(5, .int 1), (0, .ref b), (1, .ref (ad 14)), (2, .ref (md 0)), (3, .ref (ad 17)), (4, .int (nI i))]) hx hb dL_law_985 hl (by decide) rfl (fun ls hl => ?_)
  refine lv_aload_n hx hb dL_law_987 rfl (lv_at hl 3 rfl) ?_
  refine lv_aload_n hx hb dL_law_988 rfl (lv_at hl 1 rfl) ?_
  refine lv_iload hx hb dL_law_989 (lv_at hl 5 rfl) ?_
  refine lv_iconst (v := 1) hx hb dL_law_991 (by decide) ?_
  refine lv_iadd hx hb dL_law_992 ?_
  refine kc_top (show (nI i) + 1 = nI (i + 1) from nI_add _ _) ?_
  refine kc_sld (i := i + 1) hx hb hXs hbl hbA hS (by omega) (by omega) dL_law_993 ?_
  refine kc_top hp1 ?_
  refine lv_aload_n hx hb dL_law_994 rfl (lv_at hl 1 rfl) ?_
  refine lv_iload hx hb dL_law_995 (lv_at hl 5 rfl) ?_
  refine lv_iconst (v := 2) hx hb dL_law_997 (by decide) ?_
  refine lv_iadd hx hb dL_law_998 ?_
  refine kc_top (show (nI i) + 2 = nI (i + 2) from nI_add _ _) ?_
  refine kc_sld (i := i + 2) hx hb hXs hbl hbA hS (by omega) (by omega) dL_law_999 ?_
  refine kc_top hp2 ?_
  refine lv_aload_n hx hb dL_law_1000 rfl (lv_at hl 1 rfl) ?_
  refine lv_iload hx hb dL_law_1001 (lv_at hl 5 rfl) ?_
  refine lv_iconst (v := 3) hx hb dL_law_1003 (by decide) ?_
  refine lv_iadd hx hb dL_law_1004 ?_
  refine kc_top (show (nI i) + 3 = nI (i + 3) from nI_add _ _) ?_
  refine kc_sld (i := i + 3) hx hb hXs hbl hbA hS (by omega) (by omega) dL_law_1005 ?_
  refine kc_top hp3 ?_
  refine kc_wVi (w1 := wMd md cI 1 mK mc mD mr mw my mC mk ms mu mt mp mb me) (wr := [(ad 0, .inr (1, [.ref (ad 1), .ref (ad 2), .ref (ad 3), .ref (ad 4), .ref (ad 5), .int (nI K), .int (nI Dn), .int mv])), (ad 1, .inl (cI, 8, .inl cd)), (ad 2, .inl (cI, 8, .inl te)), (ad 3, .inl (cI, 8, .inl ri)), (ad 4, .inl (cI, 8, .inl pi)), (ad 5, .inl (cI, 8, .inl pw)), (ad 6, .inr (0, [.ref (ad 7), .ref (ad 8), .ref (ad 9), .ref (ad 10), .ref (ad 11), .ref (ad 12), .ref (ad 13), .int (nI C)])), (ad 7, .inl (cI, 24, .inl ko)), (ad 8, .inl (cI, 24, .inl so)), (ad 9, .inl (cI, 24, .inl tl)), (ad 10, .inl (cI, 216, .inl lp)), (ad 11, .inl (cI, 216, .inl lb)), (ad 12, .inl (cI, 216, .inl ld)), (ad 13, .inl (cI, 216, .inl le)), (ad 14, .inr (2, [.ref (ad 0), .ref (ad 6), .ref (ad 15), .ref (ad 16), .int dy])), (ad 15, .inl (cI, 8, .inl cl)), (ad 16, .inl (cI, 8, .inl dq)), (ad 17, .inl (cL, 1, .inr (.inl ou)))]) (ws1 := wLaw ad cI cd te ri pi pw K Dn mv ko so tl lp lb ld le C cl dq dy cL ou md 1 mK mc mD mr mw my mC mk ms mu mt mp mb me) (As := [.int (nI cx), .int pe, .int dz]) (rest := []) ⟨hx, hb, hml, hown, hts⟩ (c_X3_lend_f1b l D md cI th mK mc mD mr mw my mC mk ms mu mt mp mb me cx pe dz H.size m_hC24 m_hc m_hBad) (cwV 3 hts gL_law_X3_lend rfl rfl rfl (by decide +kernel) ⟨Nat.le_of_ble_eq_true rfl, Nat.le_of_ble_eq_true rfl⟩) hK hP hD hS hA [18, 19, 20, 21, 22, 23, 24, 25, 26, 27] [0, 1, 2, 3, 4, 5, 6, 7, 8, 9, 10, 11, 12, 13, 14, 15, 16, 17] [0, 1, 2, 3, 4, 5, 6, 7, 8, 9, 10, 11, 12, 13, 14, 15, 16, 17, 18, 19, 20, 21, 22, 23, 24, 25, 26, 27] [0] rfl rfl rfl rfl (by decide) rfl rfl rfl 18 rfl rfl rfl rfl hl.1 rfl (Nat.le_of_ble_eq_true rfl) dL_law_1006 ⟨kc_rc (by omega), kc_rs (by omega)⟩ (fun H locs hP hD hS => ?_)
  refine lv_istore (lv' := [(6, .int 0), (5, .int 1), (0, .ref b), (1, .ref (ad 14)), (2, .ref (md 0)), (3, .ref (ad 17)), (4, .int (nI i))]) hx hb dL_law_1009 hl (by decide) rfl (fun ls hl => ?_)
  refine lv_aload_n hx hb dL_law_1011 rfl (lv_at hl 4 rfl) ?_
  refine kc_rVi (As := []) (rest := []) ⟨hx, hb, hml, hown, hts⟩ (c_X3_thrown l D md cI 1 mK mc mD mr mw my mC mk ms mu mt mp mb me ) (cwV 0 hts gL_law_X3_thrown rfl rfl rfl (by decide +kernel) ⟨Nat.le_of_ble_eq_true rfl, Nat.le_of_ble_eq_true rfl⟩) hK hP [18, 19, 20, 21, 22, 23, 24, 25, 26, 27] [0] rfl rfl 18 rfl rfl rfl rfl hl.1 rfl (Nat.le_of_ble_eq_true rfl) dL_law_1012 ⟨kc_rc (by omega), kc_rs (by omega)⟩ ?_
  refine lv_iload hx hb dL_law_1015 (lv_at hl 1 rfl) ?_
  refine lv_icmp_eq (tgt := 1022) hx hb dL_law_1017 (by decide) (fun c_1017 => ?_) (fun c_1017 => absurd c_1017 (by decide))
  refine lv_iload hx hb dL_law_1022 (lv_at hl 1 rfl) ?_
  refine lv_if_ne (tgt := 1039) hx hb dL_law_1024 (by decide) (fun c_1024 => ?_) (fun c_1024 => absurd c_1024 (by decide))
  refine lv_goto (tgt := 1633) hx hb dL_law_1039 (by decide) ?_
  refine W.widen (k := cells + 2) (n := slots + 16) (by omega) (by omega) ?_
  exact K1 _ _ _ hP hD hS (lv_sub hl [2, 3, 4, 5, 6] rfl)
set_option maxHeartbeats 4000000 in
set_option maxRecDepth 100000 in
theorem lw_lend_f2_f2 {p : Program} {l : Launch} {e : Env} {s : State} {m : MethodId} {below : List Frame} {meth : Method} {c : Code} {Q : State → Prop} {b L : Nat} {xs : Nat → Int32} (hlf : l.stackTraces = false) (C0 : lw_At p s m meth c b L xs) {D : va_G} {cI cL : ClassId} (hK : kcK D [(cI, .int), (cL, .long)] s) (hX0 : kcX (fun q => s.heap.size ≤ q) s s.heap) (hL : L ≤ 2048) (i : Nat) (hi : i + 3 < L) (ad : Nat → Nat) (cd : Nat → Int32) (te : Nat → Int32) (ri : Nat → Int32) (pi : Nat → Int32) (pw : Nat → Int32) (K : Nat) (Dn : Nat) (mv : Int32) (ko : Nat → Int32) (so : Nat → Int32) (tl : Nat → Int32) (lp : Nat → Int32) (lb : Nat → Int32) (ld : Nat → Int32) (le : Nat → Int32) (C : Nat) (cl : Nat → Int32) (dq : Nat → Int32) (dy : Int32) (ou : Nat → Int64) (md : Nat → Nat) (th : Int32) (mK : Nat) (mc : Nat → Int32) (mD : Nat) (mr : Nat → Int32) (mw : Int32) (my : Int32) (mC : Nat) (mk : Nat → Int32) (ms : Nat → Int32) (mu : Nat → Int32) (mt : Nat → Int32) (mp : Nat → Int32) (mb : Nat → Int32) (me : Nat → Int32) (cx : Nat) (pe : Int32) (dz : Int32) (hC24 : C ≤ 24) (hc : cx < C) (hp : jIn 8 pe = true) (hz : dz < 1 ∨ (99 : Int32) < dz) (m_hC24 : mC ≤ 24) (m_hc : cx < mC) (m_hp : jIn 8 pe = true) (m_hz : dz < 1 ∨ (99 : Int32) < dz) (hp1 : xs (i + 1) = nI cx) (hp2 : xs (i + 2) = pe) (hp3 : xs (i + 3) = dz)  {H : Heap} {locs : List Loc} {cells slots : Nat} (hce : cells + 2 ≤ 601024) (hsl : slots + 16 ≤ 7293034) (hP : va_P D vwCl (wLaw ad cI cd te ri pi pw K Dn mv ko so tl lp lb ld le C cl dq dy cL ou md th mK mc mD mr mw my mC mk ms mu mt mp mb me) H) (hD : va_D (fun q => s.heap.size ≤ q) (wLaw ad cI cd te ri pi pw K Dn mv ko so tl lp lb ld le C cl dq dy cL ou md th mK mc mD mr mw my mC mk ms mu mt mp mb me)) (hS : va_S (fun q => s.heap.size ≤ q) s.heap H locs) {ls : Array Slot} (hl : lv_has ls 9 [(0, .ref b), (1, .ref (ad 14)), (2, .ref (md 0)), (3, .ref (ad 17)), (4, .int (nI i))]) (K1 : ∀ (H : Heap) (locs : List Loc) (ls : Array Slot), va_P D vwCl (wLaw ad cI cd te ri pi pw K Dn mv ko so tl lp lb ld le C cl dq dy cL ou md 2 mK mc mD mr mw my mC mk ms mu mt mp mb me) H → va_D (fun q => s.heap.size ≤ q) (wLaw ad cI cd te ri pi pw K Dn mv ko so tl lp lb ld le C cl dq dy cL ou md 2 mK mc mD mr mw my mC mk ms mu mt mp mb me) → va_S (fun q => s.heap.size ≤ q) s.heap H locs → lv_has ls 9 [(0, .ref b), (1, .ref (ad 14)), (2, .ref (md 0)), (3, .ref (ad 17)), (4, .int (nI i))] → W p l e room_1 s m #[Value.ref b] below meth c H locs (cells + 2) (slots + 16) Q (F0 m 1633 ls [])) : W p l e room_1 s m #[Value.ref b] below meth c H locs cells slots Q (F0 m 962 ls []) := by
  obtain ⟨hx, hb, hr, hml, hown, hts, hXs, hbl, hlocks, hgv⟩ := id C0
  have hts := fun w h => hts w (wsL_law_in w h)
  have hb : c.code = cL_law := hb
  have hA : ∀ q : Nat, s.heap.size ≤ q → (fun q : Nat => s.heap.size ≤ q) q := fun _ h => h
  have hbA : ¬ (fun q : Nat => s.heap.size ≤ q) b := Nat.not_le.mpr hbl
  refine lv_aload_n hx hb dL_law_962 rfl (lv_at hl 1 rfl) ?_
  refine lv_aload_n hx hb dL_law_963 rfl (lv_at hl 0 rfl) ?_
  refine lv_iload hx hb dL_law_964 (lv_at hl 4 rfl) ?_
  refine lv_iconst (v := 1) hx hb dL_law_966 (by decide) ?_
  refine lv_iadd hx hb dL_law_967 ?_
  refine kc_top (show (nI i) + 1 = nI (i + 1) from nI_add _ _) ?_
  refine kc_sld (i := i + 1) hx hb hXs hbl hbA hS (by omega) (by omega) dL_law_968 ?_
  refine kc_top hp1 ?_
  refine lv_aload_n hx hb dL_law_969 rfl (lv_at hl 0 rfl) ?_
  refine lv_iload hx hb dL_law_970 (lv_at hl 4 rfl) ?_
  refine lv_iconst (v := 2) hx hb dL_law_972 (by decide) ?_
  refine lv_iadd hx hb dL_law_973 ?_
  refine kc_top (show (nI i) + 2 = nI (i + 2) from nI_add _ _) ?_
  refine kc_sld (i := i + 2) hx hb hXs hbl hbA hS (by omega) (by omega) dL_law_974 ?_
  refine kc_top hp2 ?_
  refine lv_aload_n hx hb dL_law_975 rfl (lv_at hl 0 rfl) ?_
  refine lv_iload hx hb dL_law_976 (lv_at hl 4 rfl) ?_
  refine lv_iconst (v := 3) hx hb dL_law_978 (by decide) ?_
  refine lv_iadd hx hb dL_law_979 ?_
  refine kc_top (show (nI i) + 3 = nI (i + 3) from nI_add _ _) ?_
  refine kc_sld (i := i + 3) hx hb hXs hbl hbA hS (by omega) (by omega) dL_law_980 ?_
  refine kc_top hp3 ?_
  refine lv_aload_n hx hb dL_law_981 rfl (lv_at hl 3 rfl) ?_
  have hX := kc_xat hX0 hS
  refine kc_hXi (w1 := wLh ad cI cd te ri pi pw K Dn mv ko so tl lp lb ld le C cl dq dy cL ou) (wr := [(md 0, .inr (3, [.int th, .int (nI mK), .ref (md 1), .int (nI mD), .ref (md 2), .int mw, .int my, .int (nI mC), .ref (md 3), .ref (md 4), .ref (md 5), .ref (md 6), .ref (md 7), .ref (md 8), .ref (md 9)])), (md 1, .inl (cI, 8, .inl mc)), (md 2, .inl (cI, 8, .inl mr)), (md 3, .inl (cI, 24, .inl mk)), (md 4, .inl (cI, 24, .inl ms)), (md 5, .inl (cI, 24, .inl mu)), (md 6, .inl (cI, 24, .inl mt)), (md 7, .inl (cI, 216, .inl mp)), (md 8, .inl (cI, 216, .inl mb)), (md 9, .inl (cI, 216, .inl me))]) (ws1 := wLaw ad cI cd te ri pi pw K Dn mv ko so tl lp lb ld le C cl dq dy cL ou md th mK mc mD mr mw my mC mk ms mu mt mp mb me) (As := [.ref (ad 14), .int (nI cx), .int pe, .int dz, .ref (ad 17)]) (rest := []) ⟨hx, hb, hml, hown, hts⟩ (c_L_lend_f2 l hlf D ad cI cd te ri pi pw K Dn mv ko so tl lp lb ld le C cl dq dy cL ou cx pe dz H.size hC24 hc hp hz) (vx_cwSW 5 hts gL_law_L_lend rfl rfl rfl (by decide +kernel) ⟨Nat.le_of_ble_eq_true rfl, Nat.le_of_ble_eq_true rfl⟩) hK hP hD hX hS hA [0, 1, 2, 3, 4, 5, 6, 7, 8, 9, 10, 11, 12, 13, 14, 15, 16, 17] [18, 19, 20, 21, 22, 23, 24, 25, 26, 27] [10, 11, 12, 13, 14, 15, 16, 17, 18, 19, 20, 21, 22, 23, 24, 25, 26, 27, 0, 1, 2, 3, 4, 5, 6, 7, 8, 9] [0, 1] rfl rfl rfl rfl (by decide) rfl rfl rfl rfl hl.1 rfl (Nat.le_of_ble_eq_true rfl) dL_law_982 ⟨kc_rc (by omega), kc_rs (by omega)⟩ (fun H locs hP hD hS => ?_)
  refine lv_istore (lv' := [(5, .int 2), (0, .ref b), (1, .ref (ad 14)), (2, .ref (md 0)), (3, .ref (ad 17)), (4, .int (nI i))]) hx hb dL_law_985 hl (by decide) rfl (fun ls hl => ?_)
  refine lv_aload_n hx hb dL_law_987 rfl (lv_at hl 3 rfl) ?_
  refine lv_aload_n hx hb dL_law_988 rfl (lv_at hl 1 rfl) ?_
  refine lv_iload hx hb dL_law_989 (lv_at hl 5 rfl) ?_
  refine lv_iconst (v := 1) hx hb dL_law_991 (by decide) ?_
  refine lv_iadd hx hb dL_law_992 ?_
  refine kc_top (show (nI i) + 1 = nI (i + 1) from nI_add _ _) ?_
  refine kc_sld (i := i + 1) hx hb hXs hbl hbA hS (by omega) (by omega) dL_law_993 ?_
  refine kc_top hp1 ?_
  refine lv_aload_n hx hb dL_law_994 rfl (lv_at hl 1 rfl) ?_
  refine lv_iload hx hb dL_law_995 (lv_at hl 5 rfl) ?_
  refine lv_iconst (v := 2) hx hb dL_law_997 (by decide) ?_
  refine lv_iadd hx hb dL_law_998 ?_
  refine kc_top (show (nI i) + 2 = nI (i + 2) from nI_add _ _) ?_
  refine kc_sld (i := i + 2) hx hb hXs hbl hbA hS (by omega) (by omega) dL_law_999 ?_
  refine kc_top hp2 ?_
  refine lv_aload_n hx hb dL_law_1000 rfl (lv_at hl 1 rfl) ?_
  refine lv_iload hx hb dL_law_1001 (lv_at hl 5 rfl) ?_
  refine lv_iconst (v := 3) hx hb dL_law_1003 (by decide) ?_
  refine lv_iadd hx hb dL_law_1004 ?_
  refine kc_top (show (nI i) + 3 = nI (i + 3) from nI_add _ _) ?_
  refine kc_sld (i := i + 3) hx hb hXs hbl hbA hS (by omega) (by omega) dL_law_1005 ?_
  refine kc_top hp3 ?_
  refine kc_wVi (w1 := wMd md cI 2 mK mc mD mr mw my mC mk ms mu mt mp mb me) (wr := [(ad 0, .inr (1, [.ref (ad 1), .ref (ad 2), .ref (ad 3), .ref (ad 4), .ref (ad 5), .int (nI K), .int (nI Dn), .int mv])), (ad 1, .inl (cI, 8, .inl cd)), (ad 2, .inl (cI, 8, .inl te)), (ad 3, .inl (cI, 8, .inl ri)), (ad 4, .inl (cI, 8, .inl pi)), (ad 5, .inl (cI, 8, .inl pw)), (ad 6, .inr (0, [.ref (ad 7), .ref (ad 8), .ref (ad 9), .ref (ad 10), .ref (ad 11), .ref (ad 12), .ref (ad 13), .int (nI C)])), (ad 7, .inl (cI, 24, .inl ko)), (ad 8, .inl (cI, 24, .inl so)), (ad 9, .inl (cI, 24, .inl tl)), (ad 10, .inl (cI, 216, .inl lp)), (ad 11, .inl (cI, 216, .inl lb)), (ad 12, .inl (cI, 216, .inl ld)), (ad 13, .inl (cI, 216, .inl le)), (ad 14, .inr (2, [.ref (ad 0), .ref (ad 6), .ref (ad 15), .ref (ad 16), .int dy])), (ad 15, .inl (cI, 8, .inl cl)), (ad 16, .inl (cI, 8, .inl dq)), (ad 17, .inl (cL, 1, .inr (.inl ou)))]) (ws1 := wLaw ad cI cd te ri pi pw K Dn mv ko so tl lp lb ld le C cl dq dy cL ou md 2 mK mc mD mr mw my mC mk ms mu mt mp mb me) (As := [.int (nI cx), .int pe, .int dz]) (rest := []) ⟨hx, hb, hml, hown, hts⟩ (c_X3_lend_f2 l D md cI th mK mc mD mr mw my mC mk ms mu mt mp mb me cx pe dz H.size m_hC24 m_hc m_hp m_hz) (cwV 3 hts gL_law_X3_lend rfl rfl rfl (by decide +kernel) ⟨Nat.le_of_ble_eq_true rfl, Nat.le_of_ble_eq_true rfl⟩) hK hP hD hS hA [18, 19, 20, 21, 22, 23, 24, 25, 26, 27] [0, 1, 2, 3, 4, 5, 6, 7, 8, 9, 10, 11, 12, 13, 14, 15, 16, 17] [0, 1, 2, 3, 4, 5, 6, 7, 8, 9, 10, 11, 12, 13, 14, 15, 16, 17, 18, 19, 20, 21, 22, 23, 24, 25, 26, 27] [0] rfl rfl rfl rfl (by decide) rfl rfl rfl 18 rfl rfl rfl rfl hl.1 rfl (Nat.le_of_ble_eq_true rfl) dL_law_1006 ⟨kc_rc (by omega), kc_rs (by omega)⟩ (fun H locs hP hD hS => ?_)
  refine lv_istore (lv' := [(6, .int 0), (5, .int 2), (0, .ref b), (1, .ref (ad 14)), (2, .ref (md 0)), (3, .ref (ad 17)), (4, .int (nI i))]) hx hb dL_law_1009 hl (by decide) rfl (fun ls hl => ?_)
  refine lv_aload_n hx hb dL_law_1011 rfl (lv_at hl 4 rfl) ?_
  refine kc_rVi (As := []) (rest := []) ⟨hx, hb, hml, hown, hts⟩ (c_X3_thrown l D md cI 2 mK mc mD mr mw my mC mk ms mu mt mp mb me ) (cwV 0 hts gL_law_X3_thrown rfl rfl rfl (by decide +kernel) ⟨Nat.le_of_ble_eq_true rfl, Nat.le_of_ble_eq_true rfl⟩) hK hP [18, 19, 20, 21, 22, 23, 24, 25, 26, 27] [0] rfl rfl 18 rfl rfl rfl rfl hl.1 rfl (Nat.le_of_ble_eq_true rfl) dL_law_1012 ⟨kc_rc (by omega), kc_rs (by omega)⟩ ?_
  refine lv_iload hx hb dL_law_1015 (lv_at hl 1 rfl) ?_
  refine lv_icmp_eq (tgt := 1022) hx hb dL_law_1017 (by decide) (fun c_1017 => ?_) (fun c_1017 => absurd c_1017 (by decide))
  refine lv_iload hx hb dL_law_1022 (lv_at hl 1 rfl) ?_
  refine lv_if_ne (tgt := 1039) hx hb dL_law_1024 (by decide) (fun c_1024 => ?_) (fun c_1024 => absurd c_1024 (by decide))
  refine lv_goto (tgt := 1633) hx hb dL_law_1039 (by decide) ?_
  refine W.widen (k := cells + 2) (n := slots + 16) (by omega) (by omega) ?_
  exact K1 _ _ _ hP hD hS (lv_sub hl [2, 3, 4, 5, 6] rfl)
set_option maxHeartbeats 4000000 in
set_option maxRecDepth 100000 in
theorem lw_lend_f3_f3a {p : Program} {l : Launch} {e : Env} {s : State} {m : MethodId} {below : List Frame} {meth : Method} {c : Code} {Q : State → Prop} {b L : Nat} {xs : Nat → Int32} (hlf : l.stackTraces = false) (C0 : lw_At p s m meth c b L xs) {D : va_G} {cI cL : ClassId} (hK : kcK D [(cI, .int), (cL, .long)] s) (hX0 : kcX (fun q => s.heap.size ≤ q) s s.heap) (hL : L ≤ 2048) (i : Nat) (hi : i + 3 < L) (ad : Nat → Nat) (cd : Nat → Int32) (te : Nat → Int32) (ri : Nat → Int32) (pi : Nat → Int32) (pw : Nat → Int32) (K : Nat) (Dn : Nat) (mv : Int32) (ko : Nat → Int32) (so : Nat → Int32) (tl : Nat → Int32) (lp : Nat → Int32) (lb : Nat → Int32) (ld : Nat → Int32) (le : Nat → Int32) (C : Nat) (cl : Nat → Int32) (dq : Nat → Int32) (dy : Int32) (ou : Nat → Int64) (md : Nat → Nat) (th : Int32) (mK : Nat) (mc : Nat → Int32) (mD : Nat) (mr : Nat → Int32) (mw : Int32) (my : Int32) (mC : Nat) (mk : Nat → Int32) (ms : Nat → Int32) (mu : Nat → Int32) (mt : Nat → Int32) (mp : Nat → Int32) (mb : Nat → Int32) (me : Nat → Int32) (cx : Nat) (pe : Int32) (dz : Int32) (hC24 : C ≤ 24) (hc : cx < C) (hp : jIn 8 pe = true) (hz1 : ¬ dz < 1) (hz2 : dz ≤ 99) (hcan : ¬ jCan so tl cx = true) (m_hC24 : mC ≤ 24) (m_hc : cx < mC) (m_hp : jIn 8 pe = true) (m_hz1 : ¬ dz < 1) (m_hz2 : dz ≤ 99) (m_hn : ¬ ms cx = 0) (hp1 : xs (i + 1) = nI cx) (hp2 : xs (i + 2) = pe) (hp3 : xs (i + 3) = dz)  {H : Heap} {locs : List Loc} {cells slots : Nat} (hce : cells + 2 ≤ 601024) (hsl : slots + 16 ≤ 7293034) (hP : va_P D vwCl (wLaw ad cI cd te ri pi pw K Dn mv ko so tl lp lb ld le C cl dq dy cL ou md th mK mc mD mr mw my mC mk ms mu mt mp mb me) H) (hD : va_D (fun q => s.heap.size ≤ q) (wLaw ad cI cd te ri pi pw K Dn mv ko so tl lp lb ld le C cl dq dy cL ou md th mK mc mD mr mw my mC mk ms mu mt mp mb me)) (hS : va_S (fun q => s.heap.size ≤ q) s.heap H locs) {ls : Array Slot} (hl : lv_has ls 9 [(0, .ref b), (1, .ref (ad 14)), (2, .ref (md 0)), (3, .ref (ad 17)), (4, .int (nI i))]) (K1 : ∀ (H : Heap) (locs : List Loc) (ls : Array Slot), va_P D vwCl (wLaw ad cI cd te ri pi pw K Dn mv ko so tl lp lb ld le C cl dq dy cL ou md 3 mK mc mD mr mw my mC mk ms mu mt mp mb me) H → va_D (fun q => s.heap.size ≤ q) (wLaw ad cI cd te ri pi pw K Dn mv ko so tl lp lb ld le C cl dq dy cL ou md 3 mK mc mD mr mw my mC mk ms mu mt mp mb me) → va_S (fun q => s.heap.size ≤ q) s.heap H locs → lv_has ls 9 [(0, .ref b), (1, .ref (ad 14)), (2, .ref (md 0)), (3, .ref (ad 17)), (4, .int (nI i))] → W p l e room_1 s m #[Value.ref b] below meth c H locs (cells + 2) (slots + 16) Q (F0 m 1633 ls [])) : W p l e room_1 s m #[Value.ref b] below meth c H locs cells slots Q (F0 m 962 ls []) := by
  obtain ⟨hx, hb, hr, hml, hown, hts, hXs, hbl, hlocks, hgv⟩ := id C0
  have hts := fun w h => hts w (wsL_law_in w h)
  have hb : c.code = cL_law := hb
  have hA : ∀ q : Nat, s.heap.size ≤ q → (fun q : Nat => s.heap.size ≤ q) q := fun _ h => h
  have hbA : ¬ (fun q : Nat => s.heap.size ≤ q) b := Nat.not_le.mpr hbl
  refine lv_aload_n hx hb dL_law_962 rfl (lv_at hl 1 rfl) ?_
  refine lv_aload_n hx hb dL_law_963 rfl (lv_at hl 0 rfl) ?_
  refine lv_iload hx hb dL_law_964 (lv_at hl 4 rfl) ?_
  refine lv_iconst (v := 1) hx hb dL_law_966 (by decide) ?_
  refine lv_iadd hx hb dL_law_967 ?_
  refine kc_top (show (nI i) + 1 = nI (i + 1) from nI_add _ _) ?_
  refine kc_sld (i := i + 1) hx hb hXs hbl hbA hS (by omega) (by omega) dL_law_968 ?_
  refine kc_top hp1 ?_
  refine lv_aload_n hx hb dL_law_969 rfl (lv_at hl 0 rfl) ?_
  refine lv_iload hx hb dL_law_970 (lv_at hl 4 rfl) ?_
  refine lv_iconst (v := 2) hx hb dL_law_972 (by decide) ?_
  refine lv_iadd hx hb dL_law_973 ?_
  refine kc_top (show (nI i) + 2 = nI (i + 2) from nI_add _ _) ?_
  refine kc_sld (i := i + 2) hx hb hXs hbl hbA hS (by omega) (by omega) dL_law_974 ?_
  refine kc_top hp2 ?_
  refine lv_aload_n hx hb dL_law_975 rfl (lv_at hl 0 rfl) ?_
  refine lv_iload hx hb dL_law_976 (lv_at hl 4 rfl) ?_
  refine lv_iconst (v := 3) hx hb dL_law_978 (by decide) ?_
  refine lv_iadd hx hb dL_law_979 ?_
  refine kc_top (show (nI i) + 3 = nI (i + 3) from nI_add _ _) ?_
  refine kc_sld (i := i + 3) hx hb hXs hbl hbA hS (by omega) (by omega) dL_law_980 ?_
  refine kc_top hp3 ?_
  refine lv_aload_n hx hb dL_law_981 rfl (lv_at hl 3 rfl) ?_
  have hX := kc_xat hX0 hS
  refine kc_hXi (w1 := wLh ad cI cd te ri pi pw K Dn mv ko so tl lp lb ld le C cl dq dy cL ou) (wr := [(md 0, .inr (3, [.int th, .int (nI mK), .ref (md 1), .int (nI mD), .ref (md 2), .int mw, .int my, .int (nI mC), .ref (md 3), .ref (md 4), .ref (md 5), .ref (md 6), .ref (md 7), .ref (md 8), .ref (md 9)])), (md 1, .inl (cI, 8, .inl mc)), (md 2, .inl (cI, 8, .inl mr)), (md 3, .inl (cI, 24, .inl mk)), (md 4, .inl (cI, 24, .inl ms)), (md 5, .inl (cI, 24, .inl mu)), (md 6, .inl (cI, 24, .inl mt)), (md 7, .inl (cI, 216, .inl mp)), (md 8, .inl (cI, 216, .inl mb)), (md 9, .inl (cI, 216, .inl me))]) (ws1 := wLaw ad cI cd te ri pi pw K Dn mv ko so tl lp lb ld le C cl dq dy cL ou md th mK mc mD mr mw my mC mk ms mu mt mp mb me) (As := [.ref (ad 14), .int (nI cx), .int pe, .int dz, .ref (ad 17)]) (rest := []) ⟨hx, hb, hml, hown, hts⟩ (c_L_lend_f3 l hlf D ad cI cd te ri pi pw K Dn mv ko so tl lp lb ld le C cl dq dy cL ou cx pe dz H.size hC24 hc hp hz1 hz2 hcan) (vx_cwSW 5 hts gL_law_L_lend rfl rfl rfl (by decide +kernel) ⟨Nat.le_of_ble_eq_true rfl, Nat.le_of_ble_eq_true rfl⟩) hK hP hD hX hS hA [0, 1, 2, 3, 4, 5, 6, 7, 8, 9, 10, 11, 12, 13, 14, 15, 16, 17] [18, 19, 20, 21, 22, 23, 24, 25, 26, 27] [10, 11, 12, 13, 14, 15, 16, 17, 18, 19, 20, 21, 22, 23, 24, 25, 26, 27, 0, 1, 2, 3, 4, 5, 6, 7, 8, 9] [0, 1] rfl rfl rfl rfl (by decide) rfl rfl rfl rfl hl.1 rfl (Nat.le_of_ble_eq_true rfl) dL_law_982 ⟨kc_rc (by omega), kc_rs (by omega)⟩ (fun H locs hP hD hS => ?_)
  refine lv_istore (lv' := [(5, .int 3), (0, .ref b), (1, .ref (ad 14)), (2, .ref (md 0)), (3, .ref (ad 17)), (4, .int (nI i))]) hx hb dL_law_985 hl (by decide) rfl (fun ls hl => ?_)
  refine lv_aload_n hx hb dL_law_987 rfl (lv_at hl 3 rfl) ?_
  refine lv_aload_n hx hb dL_law_988 rfl (lv_at hl 1 rfl) ?_
  refine lv_iload hx hb dL_law_989 (lv_at hl 5 rfl) ?_
  refine lv_iconst (v := 1) hx hb dL_law_991 (by decide) ?_
  refine lv_iadd hx hb dL_law_992 ?_
  refine kc_top (show (nI i) + 1 = nI (i + 1) from nI_add _ _) ?_
  refine kc_sld (i := i + 1) hx hb hXs hbl hbA hS (by omega) (by omega) dL_law_993 ?_
  refine kc_top hp1 ?_
  refine lv_aload_n hx hb dL_law_994 rfl (lv_at hl 1 rfl) ?_
  refine lv_iload hx hb dL_law_995 (lv_at hl 5 rfl) ?_
  refine lv_iconst (v := 2) hx hb dL_law_997 (by decide) ?_
  refine lv_iadd hx hb dL_law_998 ?_
  refine kc_top (show (nI i) + 2 = nI (i + 2) from nI_add _ _) ?_
  refine kc_sld (i := i + 2) hx hb hXs hbl hbA hS (by omega) (by omega) dL_law_999 ?_
  refine kc_top hp2 ?_
  refine lv_aload_n hx hb dL_law_1000 rfl (lv_at hl 1 rfl) ?_
  refine lv_iload hx hb dL_law_1001 (lv_at hl 5 rfl) ?_
  refine lv_iconst (v := 3) hx hb dL_law_1003 (by decide) ?_
  refine lv_iadd hx hb dL_law_1004 ?_
  refine kc_top (show (nI i) + 3 = nI (i + 3) from nI_add _ _) ?_
  refine kc_sld (i := i + 3) hx hb hXs hbl hbA hS (by omega) (by omega) dL_law_1005 ?_
  refine kc_top hp3 ?_
  refine kc_wVi (w1 := wMd md cI 3 mK mc mD mr mw my mC mk ms mu mt mp mb me) (wr := [(ad 0, .inr (1, [.ref (ad 1), .ref (ad 2), .ref (ad 3), .ref (ad 4), .ref (ad 5), .int (nI K), .int (nI Dn), .int mv])), (ad 1, .inl (cI, 8, .inl cd)), (ad 2, .inl (cI, 8, .inl te)), (ad 3, .inl (cI, 8, .inl ri)), (ad 4, .inl (cI, 8, .inl pi)), (ad 5, .inl (cI, 8, .inl pw)), (ad 6, .inr (0, [.ref (ad 7), .ref (ad 8), .ref (ad 9), .ref (ad 10), .ref (ad 11), .ref (ad 12), .ref (ad 13), .int (nI C)])), (ad 7, .inl (cI, 24, .inl ko)), (ad 8, .inl (cI, 24, .inl so)), (ad 9, .inl (cI, 24, .inl tl)), (ad 10, .inl (cI, 216, .inl lp)), (ad 11, .inl (cI, 216, .inl lb)), (ad 12, .inl (cI, 216, .inl ld)), (ad 13, .inl (cI, 216, .inl le)), (ad 14, .inr (2, [.ref (ad 0), .ref (ad 6), .ref (ad 15), .ref (ad 16), .int dy])), (ad 15, .inl (cI, 8, .inl cl)), (ad 16, .inl (cI, 8, .inl dq)), (ad 17, .inl (cL, 1, .inr (.inl ou)))]) (ws1 := wLaw ad cI cd te ri pi pw K Dn mv ko so tl lp lb ld le C cl dq dy cL ou md 3 mK mc mD mr mw my mC mk ms mu mt mp mb me) (As := [.int (nI cx), .int pe, .int dz]) (rest := []) ⟨hx, hb, hml, hown, hts⟩ (c_X3_lend_f3a l D md cI th mK mc mD mr mw my mC mk ms mu mt mp mb me cx pe dz H.size m_hC24 m_hc m_hp m_hz1 m_hz2 m_hn) (cwV 3 hts gL_law_X3_lend rfl rfl rfl (by decide +kernel) ⟨Nat.le_of_ble_eq_true rfl, Nat.le_of_ble_eq_true rfl⟩) hK hP hD hS hA [18, 19, 20, 21, 22, 23, 24, 25, 26, 27] [0, 1, 2, 3, 4, 5, 6, 7, 8, 9, 10, 11, 12, 13, 14, 15, 16, 17] [0, 1, 2, 3, 4, 5, 6, 7, 8, 9, 10, 11, 12, 13, 14, 15, 16, 17, 18, 19, 20, 21, 22, 23, 24, 25, 26, 27] [0] rfl rfl rfl rfl (by decide) rfl rfl rfl 18 rfl rfl rfl rfl hl.1 rfl (Nat.le_of_ble_eq_true rfl) dL_law_1006 ⟨kc_rc (by omega), kc_rs (by omega)⟩ (fun H locs hP hD hS => ?_)
  refine lv_istore (lv' := [(6, .int 0), (5, .int 3), (0, .ref b), (1, .ref (ad 14)), (2, .ref (md 0)), (3, .ref (ad 17)), (4, .int (nI i))]) hx hb dL_law_1009 hl (by decide) rfl (fun ls hl => ?_)
  refine lv_aload_n hx hb dL_law_1011 rfl (lv_at hl 4 rfl) ?_
  refine kc_rVi (As := []) (rest := []) ⟨hx, hb, hml, hown, hts⟩ (c_X3_thrown l D md cI 3 mK mc mD mr mw my mC mk ms mu mt mp mb me ) (cwV 0 hts gL_law_X3_thrown rfl rfl rfl (by decide +kernel) ⟨Nat.le_of_ble_eq_true rfl, Nat.le_of_ble_eq_true rfl⟩) hK hP [18, 19, 20, 21, 22, 23, 24, 25, 26, 27] [0] rfl rfl 18 rfl rfl rfl rfl hl.1 rfl (Nat.le_of_ble_eq_true rfl) dL_law_1012 ⟨kc_rc (by omega), kc_rs (by omega)⟩ ?_
  refine lv_iload hx hb dL_law_1015 (lv_at hl 1 rfl) ?_
  refine lv_icmp_eq (tgt := 1022) hx hb dL_law_1017 (by decide) (fun c_1017 => ?_) (fun c_1017 => absurd c_1017 (by decide))
  refine lv_iload hx hb dL_law_1022 (lv_at hl 1 rfl) ?_
  refine lv_if_ne (tgt := 1039) hx hb dL_law_1024 (by decide) (fun c_1024 => ?_) (fun c_1024 => absurd c_1024 (by decide))
  refine lv_goto (tgt := 1633) hx hb dL_law_1039 (by decide) ?_
  refine W.widen (k := cells + 2) (n := slots + 16) (by omega) (by omega) ?_
  exact K1 _ _ _ hP hD hS (lv_sub hl [2, 3, 4, 5, 6] rfl)
set_option maxHeartbeats 4000000 in
set_option maxRecDepth 100000 in
theorem lw_lend_f3_f3b {p : Program} {l : Launch} {e : Env} {s : State} {m : MethodId} {below : List Frame} {meth : Method} {c : Code} {Q : State → Prop} {b L : Nat} {xs : Nat → Int32} (hlf : l.stackTraces = false) (C0 : lw_At p s m meth c b L xs) {D : va_G} {cI cL : ClassId} (hK : kcK D [(cI, .int), (cL, .long)] s) (hX0 : kcX (fun q => s.heap.size ≤ q) s s.heap) (hL : L ≤ 2048) (i : Nat) (hi : i + 3 < L) (ad : Nat → Nat) (cd : Nat → Int32) (te : Nat → Int32) (ri : Nat → Int32) (pi : Nat → Int32) (pw : Nat → Int32) (K : Nat) (Dn : Nat) (mv : Int32) (ko : Nat → Int32) (so : Nat → Int32) (tl : Nat → Int32) (lp : Nat → Int32) (lb : Nat → Int32) (ld : Nat → Int32) (le : Nat → Int32) (C : Nat) (cl : Nat → Int32) (dq : Nat → Int32) (dy : Int32) (ou : Nat → Int64) (md : Nat → Nat) (th : Int32) (mK : Nat) (mc : Nat → Int32) (mD : Nat) (mr : Nat → Int32) (mw : Int32) (my : Int32) (mC : Nat) (mk : Nat → Int32) (ms : Nat → Int32) (mu : Nat → Int32) (mt : Nat → Int32) (mp : Nat → Int32) (mb : Nat → Int32) (me : Nat → Int32) (cx : Nat) (pe : Int32) (dz : Int32) (hC24 : C ≤ 24) (hc : cx < C) (hp : jIn 8 pe = true) (hz1 : ¬ dz < 1) (hz2 : dz ≤ 99) (hcan : ¬ jCan so tl cx = true) (m_hC24 : mC ≤ 24) (m_hc : cx < mC) (m_hp : jIn 8 pe = true) (m_hz1 : ¬ dz < 1) (m_hz2 : dz ≤ 99) (m_h0 : ms cx = 0) (m_h9 : mt cx = 9) (hp1 : xs (i + 1) = nI cx) (hp2 : xs (i + 2) = pe) (hp3 : xs (i + 3) = dz)  {H : Heap} {locs : List Loc} {cells slots : Nat} (hce : cells + 2 ≤ 601024) (hsl : slots + 16 ≤ 7293034) (hP : va_P D vwCl (wLaw ad cI cd te ri pi pw K Dn mv ko so tl lp lb ld le C cl dq dy cL ou md th mK mc mD mr mw my mC mk ms mu mt mp mb me) H) (hD : va_D (fun q => s.heap.size ≤ q) (wLaw ad cI cd te ri pi pw K Dn mv ko so tl lp lb ld le C cl dq dy cL ou md th mK mc mD mr mw my mC mk ms mu mt mp mb me)) (hS : va_S (fun q => s.heap.size ≤ q) s.heap H locs) {ls : Array Slot} (hl : lv_has ls 9 [(0, .ref b), (1, .ref (ad 14)), (2, .ref (md 0)), (3, .ref (ad 17)), (4, .int (nI i))]) (K1 : ∀ (H : Heap) (locs : List Loc) (ls : Array Slot), va_P D vwCl (wLaw ad cI cd te ri pi pw K Dn mv ko so tl lp lb ld le C cl dq dy cL ou md 3 mK mc mD mr mw my mC mk ms mu mt mp mb me) H → va_D (fun q => s.heap.size ≤ q) (wLaw ad cI cd te ri pi pw K Dn mv ko so tl lp lb ld le C cl dq dy cL ou md 3 mK mc mD mr mw my mC mk ms mu mt mp mb me) → va_S (fun q => s.heap.size ≤ q) s.heap H locs → lv_has ls 9 [(0, .ref b), (1, .ref (ad 14)), (2, .ref (md 0)), (3, .ref (ad 17)), (4, .int (nI i))] → W p l e room_1 s m #[Value.ref b] below meth c H locs (cells + 2) (slots + 16) Q (F0 m 1633 ls [])) : W p l e room_1 s m #[Value.ref b] below meth c H locs cells slots Q (F0 m 962 ls []) := by
  obtain ⟨hx, hb, hr, hml, hown, hts, hXs, hbl, hlocks, hgv⟩ := id C0
  have hts := fun w h => hts w (wsL_law_in w h)
  have hb : c.code = cL_law := hb
  have hA : ∀ q : Nat, s.heap.size ≤ q → (fun q : Nat => s.heap.size ≤ q) q := fun _ h => h
  have hbA : ¬ (fun q : Nat => s.heap.size ≤ q) b := Nat.not_le.mpr hbl
  refine lv_aload_n hx hb dL_law_962 rfl (lv_at hl 1 rfl) ?_
  refine lv_aload_n hx hb dL_law_963 rfl (lv_at hl 0 rfl) ?_
  refine lv_iload hx hb dL_law_964 (lv_at hl 4 rfl) ?_
  refine lv_iconst (v := 1) hx hb dL_law_966 (by decide) ?_
  refine lv_iadd hx hb dL_law_967 ?_
  refine kc_top (show (nI i) + 1 = nI (i + 1) from nI_add _ _) ?_
  refine kc_sld (i := i + 1) hx hb hXs hbl hbA hS (by omega) (by omega) dL_law_968 ?_
  refine kc_top hp1 ?_
  refine lv_aload_n hx hb dL_law_969 rfl (lv_at hl 0 rfl) ?_
  refine lv_iload hx hb dL_law_970 (lv_at hl 4 rfl) ?_
  refine lv_iconst (v := 2) hx hb dL_law_972 (by decide) ?_
  refine lv_iadd hx hb dL_law_973 ?_
  refine kc_top (show (nI i) + 2 = nI (i + 2) from nI_add _ _) ?_
  refine kc_sld (i := i + 2) hx hb hXs hbl hbA hS (by omega) (by omega) dL_law_974 ?_
  refine kc_top hp2 ?_
  refine lv_aload_n hx hb dL_law_975 rfl (lv_at hl 0 rfl) ?_
  refine lv_iload hx hb dL_law_976 (lv_at hl 4 rfl) ?_
  refine lv_iconst (v := 3) hx hb dL_law_978 (by decide) ?_
  refine lv_iadd hx hb dL_law_979 ?_
  refine kc_top (show (nI i) + 3 = nI (i + 3) from nI_add _ _) ?_
  refine kc_sld (i := i + 3) hx hb hXs hbl hbA hS (by omega) (by omega) dL_law_980 ?_
  refine kc_top hp3 ?_
  refine lv_aload_n hx hb dL_law_981 rfl (lv_at hl 3 rfl) ?_
  have hX := kc_xat hX0 hS
  refine kc_hXi (w1 := wLh ad cI cd te ri pi pw K Dn mv ko so tl lp lb ld le C cl dq dy cL ou) (wr := [(md 0, .inr (3, [.int th, .int (nI mK), .ref (md 1), .int (nI mD), .ref (md 2), .int mw, .int my, .int (nI mC), .ref (md 3), .ref (md 4), .ref (md 5), .ref (md 6), .ref (md 7), .ref (md 8), .ref (md 9)])), (md 1, .inl (cI, 8, .inl mc)), (md 2, .inl (cI, 8, .inl mr)), (md 3, .inl (cI, 24, .inl mk)), (md 4, .inl (cI, 24, .inl ms)), (md 5, .inl (cI, 24, .inl mu)), (md 6, .inl (cI, 24, .inl mt)), (md 7, .inl (cI, 216, .inl mp)), (md 8, .inl (cI, 216, .inl mb)), (md 9, .inl (cI, 216, .inl me))]) (ws1 := wLaw ad cI cd te ri pi pw K Dn mv ko so tl lp lb ld le C cl dq dy cL ou md th mK mc mD mr mw my mC mk ms mu mt mp mb me) (As := [.ref (ad 14), .int (nI cx), .int pe, .int dz, .ref (ad 17)]) (rest := []) ⟨hx, hb, hml, hown, hts⟩ (c_L_lend_f3 l hlf D ad cI cd te ri pi pw K Dn mv ko so tl lp lb ld le C cl dq dy cL ou cx pe dz H.size hC24 hc hp hz1 hz2 hcan) (vx_cwSW 5 hts gL_law_L_lend rfl rfl rfl (by decide +kernel) ⟨Nat.le_of_ble_eq_true rfl, Nat.le_of_ble_eq_true rfl⟩) hK hP hD hX hS hA [0, 1, 2, 3, 4, 5, 6, 7, 8, 9, 10, 11, 12, 13, 14, 15, 16, 17] [18, 19, 20, 21, 22, 23, 24, 25, 26, 27] [10, 11, 12, 13, 14, 15, 16, 17, 18, 19, 20, 21, 22, 23, 24, 25, 26, 27, 0, 1, 2, 3, 4, 5, 6, 7, 8, 9] [0, 1] rfl rfl rfl rfl (by decide) rfl rfl rfl rfl hl.1 rfl (Nat.le_of_ble_eq_true rfl) dL_law_982 ⟨kc_rc (by omega), kc_rs (by omega)⟩ (fun H locs hP hD hS => ?_)
  refine lv_istore (lv' := [(5, .int 3), (0, .ref b), (1, .ref (ad 14)), (2, .ref (md 0)), (3, .ref (ad 17)), (4, .int (nI i))]) hx hb dL_law_985 hl (by decide) rfl (fun ls hl => ?_)
  refine lv_aload_n hx hb dL_law_987 rfl (lv_at hl 3 rfl) ?_
  refine lv_aload_n hx hb dL_law_988 rfl (lv_at hl 1 rfl) ?_
  refine lv_iload hx hb dL_law_989 (lv_at hl 5 rfl) ?_
  refine lv_iconst (v := 1) hx hb dL_law_991 (by decide) ?_
  refine lv_iadd hx hb dL_law_992 ?_
  refine kc_top (show (nI i) + 1 = nI (i + 1) from nI_add _ _) ?_
  refine kc_sld (i := i + 1) hx hb hXs hbl hbA hS (by omega) (by omega) dL_law_993 ?_
  refine kc_top hp1 ?_
  refine lv_aload_n hx hb dL_law_994 rfl (lv_at hl 1 rfl) ?_
  refine lv_iload hx hb dL_law_995 (lv_at hl 5 rfl) ?_
  refine lv_iconst (v := 2) hx hb dL_law_997 (by decide) ?_
  refine lv_iadd hx hb dL_law_998 ?_
  refine kc_top (show (nI i) + 2 = nI (i + 2) from nI_add _ _) ?_
  refine kc_sld (i := i + 2) hx hb hXs hbl hbA hS (by omega) (by omega) dL_law_999 ?_
  refine kc_top hp2 ?_
  refine lv_aload_n hx hb dL_law_1000 rfl (lv_at hl 1 rfl) ?_
  refine lv_iload hx hb dL_law_1001 (lv_at hl 5 rfl) ?_
  refine lv_iconst (v := 3) hx hb dL_law_1003 (by decide) ?_
  refine lv_iadd hx hb dL_law_1004 ?_
  refine kc_top (show (nI i) + 3 = nI (i + 3) from nI_add _ _) ?_
  refine kc_sld (i := i + 3) hx hb hXs hbl hbA hS (by omega) (by omega) dL_law_1005 ?_
  refine kc_top hp3 ?_
  refine kc_wVi (w1 := wMd md cI 3 mK mc mD mr mw my mC mk ms mu mt mp mb me) (wr := [(ad 0, .inr (1, [.ref (ad 1), .ref (ad 2), .ref (ad 3), .ref (ad 4), .ref (ad 5), .int (nI K), .int (nI Dn), .int mv])), (ad 1, .inl (cI, 8, .inl cd)), (ad 2, .inl (cI, 8, .inl te)), (ad 3, .inl (cI, 8, .inl ri)), (ad 4, .inl (cI, 8, .inl pi)), (ad 5, .inl (cI, 8, .inl pw)), (ad 6, .inr (0, [.ref (ad 7), .ref (ad 8), .ref (ad 9), .ref (ad 10), .ref (ad 11), .ref (ad 12), .ref (ad 13), .int (nI C)])), (ad 7, .inl (cI, 24, .inl ko)), (ad 8, .inl (cI, 24, .inl so)), (ad 9, .inl (cI, 24, .inl tl)), (ad 10, .inl (cI, 216, .inl lp)), (ad 11, .inl (cI, 216, .inl lb)), (ad 12, .inl (cI, 216, .inl ld)), (ad 13, .inl (cI, 216, .inl le)), (ad 14, .inr (2, [.ref (ad 0), .ref (ad 6), .ref (ad 15), .ref (ad 16), .int dy])), (ad 15, .inl (cI, 8, .inl cl)), (ad 16, .inl (cI, 8, .inl dq)), (ad 17, .inl (cL, 1, .inr (.inl ou)))]) (ws1 := wLaw ad cI cd te ri pi pw K Dn mv ko so tl lp lb ld le C cl dq dy cL ou md 3 mK mc mD mr mw my mC mk ms mu mt mp mb me) (As := [.int (nI cx), .int pe, .int dz]) (rest := []) ⟨hx, hb, hml, hown, hts⟩ (c_X3_lend_f3b l D md cI th mK mc mD mr mw my mC mk ms mu mt mp mb me cx pe dz H.size m_hC24 m_hc m_hp m_hz1 m_hz2 m_h0 m_h9) (cwV 3 hts gL_law_X3_lend rfl rfl rfl (by decide +kernel) ⟨Nat.le_of_ble_eq_true rfl, Nat.le_of_ble_eq_true rfl⟩) hK hP hD hS hA [18, 19, 20, 21, 22, 23, 24, 25, 26, 27] [0, 1, 2, 3, 4, 5, 6, 7, 8, 9, 10, 11, 12, 13, 14, 15, 16, 17] [0, 1, 2, 3, 4, 5, 6, 7, 8, 9, 10, 11, 12, 13, 14, 15, 16, 17, 18, 19, 20, 21, 22, 23, 24, 25, 26, 27] [0] rfl rfl rfl rfl (by decide) rfl rfl rfl 18 rfl rfl rfl rfl hl.1 rfl (Nat.le_of_ble_eq_true rfl) dL_law_1006 ⟨kc_rc (by omega), kc_rs (by omega)⟩ (fun H locs hP hD hS => ?_)
  refine lv_istore (lv' := [(6, .int 0), (5, .int 3), (0, .ref b), (1, .ref (ad 14)), (2, .ref (md 0)), (3, .ref (ad 17)), (4, .int (nI i))]) hx hb dL_law_1009 hl (by decide) rfl (fun ls hl => ?_)
  refine lv_aload_n hx hb dL_law_1011 rfl (lv_at hl 4 rfl) ?_
  refine kc_rVi (As := []) (rest := []) ⟨hx, hb, hml, hown, hts⟩ (c_X3_thrown l D md cI 3 mK mc mD mr mw my mC mk ms mu mt mp mb me ) (cwV 0 hts gL_law_X3_thrown rfl rfl rfl (by decide +kernel) ⟨Nat.le_of_ble_eq_true rfl, Nat.le_of_ble_eq_true rfl⟩) hK hP [18, 19, 20, 21, 22, 23, 24, 25, 26, 27] [0] rfl rfl 18 rfl rfl rfl rfl hl.1 rfl (Nat.le_of_ble_eq_true rfl) dL_law_1012 ⟨kc_rc (by omega), kc_rs (by omega)⟩ ?_
  refine lv_iload hx hb dL_law_1015 (lv_at hl 1 rfl) ?_
  refine lv_icmp_eq (tgt := 1022) hx hb dL_law_1017 (by decide) (fun c_1017 => ?_) (fun c_1017 => absurd c_1017 (by decide))
  refine lv_iload hx hb dL_law_1022 (lv_at hl 1 rfl) ?_
  refine lv_if_ne (tgt := 1039) hx hb dL_law_1024 (by decide) (fun c_1024 => ?_) (fun c_1024 => absurd c_1024 (by decide))
  refine lv_goto (tgt := 1633) hx hb dL_law_1039 (by decide) ?_
  refine W.widen (k := cells + 2) (n := slots + 16) (by omega) (by omega) ?_
  exact K1 _ _ _ hP hD hS (lv_sub hl [2, 3, 4, 5, 6] rfl)
set_option maxHeartbeats 4000000 in
set_option maxRecDepth 100000 in
theorem lw_giveBack_ok_ok {p : Program} {l : Launch} {e : Env} {s : State} {m : MethodId} {below : List Frame} {meth : Method} {c : Code} {Q : State → Prop} {b L : Nat} {xs : Nat → Int32} (hlf : l.stackTraces = false) (C0 : lw_At p s m meth c b L xs) {D : va_G} {cI cL : ClassId} (hK : kcK D [(cI, .int), (cL, .long)] s) (hX0 : kcX (fun q => s.heap.size ≤ q) s s.heap) (hL : L ≤ 2048) (i : Nat) (hi : i + 3 < L) (ad : Nat → Nat) (cd : Nat → Int32) (te : Nat → Int32) (ri : Nat → Int32) (pi : Nat → Int32) (pw : Nat → Int32) (K : Nat) (Dn : Nat) (mv : Int32) (ko : Nat → Int32) (so : Nat → Int32) (tl : Nat → Int32) (lp : Nat → Int32) (lb : Nat → Int32) (ld : Nat → Int32) (le : Nat → Int32) (C : Nat) (cl : Nat → Int32) (dq : Nat → Int32) (dy : Int32) (ou : Nat → Int64) (md : Nat → Nat) (th : Int32) (mK : Nat) (mc : Nat → Int32) (mD : Nat) (mr : Nat → Int32) (mw : Int32) (my : Int32) (mC : Nat) (mk : Nat → Int32) (ms : Nat → Int32) (mu : Nat → Int32) (mt : Nat → Int32) (mp : Nat → Int32) (mb : Nat → Int32) (me : Nat → Int32) (cx : Nat) (tn : Nat → Nat) (hC24 : C ≤ 24) (hc : cx < C) (hok : okLe so tl tn) (h1 : so cx = 1) (m_hC24 : mC ≤ 24) (m_hc : cx < mC) (m_hok : okLe ms mt tn) (m_h1 : ms cx = 1) (hp1 : xs (i + 1) = nI cx) (hres : (if 0 < dy - jDue so ld tn cx then dy - jDue so ld tn cx else 0 : Int32) = (if 0 < my - mu cx then my - mu cx else 0)) {H : Heap} {locs : List Loc} {cells slots : Nat} (hce : cells + 2 ≤ 601024) (hsl : slots + 16 ≤ 7293034) (hP : va_P D vwCl (wLaw ad cI cd te ri pi pw K Dn mv ko so tl lp lb ld le C cl dq dy cL ou md th mK mc mD mr mw my mC mk ms mu mt mp mb me) H) (hD : va_D (fun q => s.heap.size ≤ q) (wLaw ad cI cd te ri pi pw K Dn mv ko so tl lp lb ld le C cl dq dy cL ou md th mK mc mD mr mw my mC mk ms mu mt mp mb me)) (hS : va_S (fun q => s.heap.size ≤ q) s.heap H locs) {ls : Array Slot} (hl : lv_has ls 9 [(0, .ref b), (1, .ref (ad 14)), (2, .ref (md 0)), (3, .ref (ad 17)), (4, .int (nI i))]) (K1 : ∀ (H : Heap) (locs : List Loc) (ls : Array Slot), va_P D vwCl (wLaw ad cI cd te ri pi pw K Dn mv ko (upd so cx 0) tl lp lb ld (jMoveEnd so le tn cx dy) C cl dq dy cL (vp_updL ou 0 (Int32.toInt64 (if 0 < dy - jDue so ld tn cx then dy - jDue so ld tn cx else 0))) md 0 mK mc mD mr mw my mC mk (upd ms cx 0) mu mt mp mb (jMoveEnd ms me tn cx my)) H → va_D (fun q => s.heap.size ≤ q) (wLaw ad cI cd te ri pi pw K Dn mv ko (upd so cx 0) tl lp lb ld (jMoveEnd so le tn cx dy) C cl dq dy cL (vp_updL ou 0 (Int32.toInt64 (if 0 < dy - jDue so ld tn cx then dy - jDue so ld tn cx else 0))) md 0 mK mc mD mr mw my mC mk (upd ms cx 0) mu mt mp mb (jMoveEnd ms me tn cx my)) → va_S (fun q => s.heap.size ≤ q) s.heap H locs → lv_has ls 9 [(0, .ref b), (1, .ref (ad 14)), (2, .ref (md 0)), (3, .ref (ad 17)), (4, .int (nI i))] → W p l e room_1 s m #[Value.ref b] below meth c H locs (cells + 2) (slots + 16) Q (F0 m 1633 ls [])) : W p l e room_1 s m #[Value.ref b] below meth c H locs cells slots Q (F0 m 1042 ls []) := by
  obtain ⟨hx, hb, hr, hml, hown, hts, hXs, hbl, hlocks, hgv⟩ := id C0
  have hts := fun w h => hts w (wsL_law_in w h)
  have hb : c.code = cL_law := hb
  have hA : ∀ q : Nat, s.heap.size ≤ q → (fun q : Nat => s.heap.size ≤ q) q := fun _ h => h
  have hbA : ¬ (fun q : Nat => s.heap.size ≤ q) b := Nat.not_le.mpr hbl
  refine lv_aload_n hx hb dL_law_1042 rfl (lv_at hl 1 rfl) ?_
  refine lv_aload_n hx hb dL_law_1043 rfl (lv_at hl 0 rfl) ?_
  refine lv_iload hx hb dL_law_1044 (lv_at hl 4 rfl) ?_
  refine lv_iconst (v := 1) hx hb dL_law_1046 (by decide) ?_
  refine lv_iadd hx hb dL_law_1047 ?_
  refine kc_top (show (nI i) + 1 = nI (i + 1) from nI_add _ _) ?_
  refine kc_sld (i := i + 1) hx hb hXs hbl hbA hS (by omega) (by omega) dL_law_1048 ?_
  refine kc_top hp1 ?_
  refine lv_aload_n hx hb dL_law_1049 rfl (lv_at hl 3 rfl) ?_
  refine kc_hSi (w1 := wLh ad cI cd te ri pi pw K Dn mv ko (upd so cx 0) tl lp lb ld (jMoveEnd so le tn cx dy) C cl dq dy cL (vp_updL ou 0 (Int32.toInt64 (if 0 < dy - jDue so ld tn cx then dy - jDue so ld tn cx else 0)))) (wr := [(md 0, .inr (3, [.int th, .int (nI mK), .ref (md 1), .int (nI mD), .ref (md 2), .int mw, .int my, .int (nI mC), .ref (md 3), .ref (md 4), .ref (md 5), .ref (md 6), .ref (md 7), .ref (md 8), .ref (md 9)])), (md 1, .inl (cI, 8, .inl mc)), (md 2, .inl (cI, 8, .inl mr)), (md 3, .inl (cI, 24, .inl mk)), (md 4, .inl (cI, 24, .inl ms)), (md 5, .inl (cI, 24, .inl mu)), (md 6, .inl (cI, 24, .inl mt)), (md 7, .inl (cI, 216, .inl mp)), (md 8, .inl (cI, 216, .inl mb)), (md 9, .inl (cI, 216, .inl me))]) (ws1 := wLaw ad cI cd te ri pi pw K Dn mv ko (upd so cx 0) tl lp lb ld (jMoveEnd so le tn cx dy) C cl dq dy cL (vp_updL ou 0 (Int32.toInt64 (if 0 < dy - jDue so ld tn cx then dy - jDue so ld tn cx else 0))) md th mK mc mD mr mw my mC mk ms mu mt mp mb me) (As := [.ref (ad 14), .int (nI cx), .ref (ad 17)]) (rest := []) ⟨hx, hb, hml, hown, hts⟩ (c_L_giveBack_ok l D ad cI cd te ri pi pw K Dn mv ko so tl lp lb ld le C cl dq dy cL ou cx tn H.size hC24 hc hok h1) (vx_cwSW 3 hts gL_law_L_giveBack rfl rfl rfl (by decide +kernel) ⟨Nat.le_of_ble_eq_true rfl, Nat.le_of_ble_eq_true rfl⟩) hK hP hD hS hA [0, 1, 2, 3, 4, 5, 6, 7, 8, 9, 10, 11, 12, 13, 14, 15, 16, 17] [18, 19, 20, 21, 22, 23, 24, 25, 26, 27] [10, 11, 12, 13, 14, 15, 16, 17, 18, 19, 20, 21, 22, 23, 24, 25, 26, 27, 0, 1, 2, 3, 4, 5, 6, 7, 8, 9] [0, 1] rfl rfl rfl rfl (by decide) rfl rfl rfl rfl hl.1 rfl (Nat.le_of_ble_eq_true rfl) dL_law_1050 ⟨kc_rc (by omega), kc_rs (by omega)⟩ (fun H locs hP hD hS => ?_)
  refine lv_istore (lv' := [(5, .int 0), (0, .ref b), (1, .ref (ad 14)), (2, .ref (md 0)), (3, .ref (ad 17)), (4, .int (nI i))]) hx hb dL_law_1053 hl (by decide) rfl (fun ls hl => ?_)
  refine lv_aload_n hx hb dL_law_1055 rfl (lv_at hl 3 rfl) ?_
  refine lv_aload_n hx hb dL_law_1056 rfl (lv_at hl 1 rfl) ?_
  refine lv_iload hx hb dL_law_1057 (lv_at hl 5 rfl) ?_
  refine lv_iconst (v := 1) hx hb dL_law_1059 (by decide) ?_
  refine lv_iadd hx hb dL_law_1060 ?_
  refine kc_top (show (nI i) + 1 = nI (i + 1) from nI_add _ _) ?_
  refine kc_sld (i := i + 1) hx hb hXs hbl hbA hS (by omega) (by omega) dL_law_1061 ?_
  refine kc_top hp1 ?_
  refine kc_wVi (w1 := wMd md cI 0 mK mc mD mr mw my mC mk (upd ms cx 0) mu mt mp mb (jMoveEnd ms me tn cx my)) (wr := [(ad 0, .inr (1, [.ref (ad 1), .ref (ad 2), .ref (ad 3), .ref (ad 4), .ref (ad 5), .int (nI K), .int (nI Dn), .int mv])), (ad 1, .inl (cI, 8, .inl cd)), (ad 2, .inl (cI, 8, .inl te)), (ad 3, .inl (cI, 8, .inl ri)), (ad 4, .inl (cI, 8, .inl pi)), (ad 5, .inl (cI, 8, .inl pw)), (ad 6, .inr (0, [.ref (ad 7), .ref (ad 8), .ref (ad 9), .ref (ad 10), .ref (ad 11), .ref (ad 12), .ref (ad 13), .int (nI C)])), (ad 7, .inl (cI, 24, .inl ko)), (ad 8, .inl (cI, 24, .inl (upd so cx 0))), (ad 9, .inl (cI, 24, .inl tl)), (ad 10, .inl (cI, 216, .inl lp)), (ad 11, .inl (cI, 216, .inl lb)), (ad 12, .inl (cI, 216, .inl ld)), (ad 13, .inl (cI, 216, .inl (jMoveEnd so le tn cx dy))), (ad 14, .inr (2, [.ref (ad 0), .ref (ad 6), .ref (ad 15), .ref (ad 16), .int dy])), (ad 15, .inl (cI, 8, .inl cl)), (ad 16, .inl (cI, 8, .inl dq)), (ad 17, .inl (cL, 1, .inr (.inl (vp_updL ou 0 (Int32.toInt64 (if 0 < dy - jDue so ld tn cx then dy - jDue so ld tn cx else 0))))))]) (ws1 := wLaw ad cI cd te ri pi pw K Dn mv ko (upd so cx 0) tl lp lb ld (jMoveEnd so le tn cx dy) C cl dq dy cL (vp_updL ou 0 (Int32.toInt64 (if 0 < dy - jDue so ld tn cx then dy - jDue so ld tn cx else 0))) md 0 mK mc mD mr mw my mC mk (upd ms cx 0) mu mt mp mb (jMoveEnd ms me tn cx my)) (As := [.int (nI cx)]) (rest := []) ⟨hx, hb, hml, hown, hts⟩ (c_X3_giveBack_ok l D md cI th mK mc mD mr mw my mC mk ms mu mt mp mb me cx tn H.size m_hC24 m_hc m_hok m_h1) (cwV 1 hts gL_law_X3_giveBack rfl rfl rfl (by decide +kernel) ⟨Nat.le_of_ble_eq_true rfl, Nat.le_of_ble_eq_true rfl⟩) hK hP hD hS hA [18, 19, 20, 21, 22, 23, 24, 25, 26, 27] [0, 1, 2, 3, 4, 5, 6, 7, 8, 9, 10, 11, 12, 13, 14, 15, 16, 17] [0, 1, 2, 3, 4, 5, 6, 7, 8, 9, 10, 11, 12, 13, 14, 15, 16, 17, 18, 19, 20, 21, 22, 23, 24, 25, 26, 27] [0] rfl rfl rfl rfl (by decide) rfl rfl rfl 18 rfl rfl rfl rfl hl.1 rfl (Nat.le_of_ble_eq_true rfl) dL_law_1062 ⟨kc_rc (by omega), kc_rs (by omega)⟩ (fun H locs hP hD hS => ?_)
  refine lv_istore (lv' := [(6, .int (if 0 < my - mu cx then my - mu cx else 0)), (5, .int 0), (0, .ref b), (1, .ref (ad 14)), (2, .ref (md 0)), (3, .ref (ad 17)), (4, .int (nI i))]) hx hb dL_law_1065 hl (by decide) rfl (fun ls hl => ?_)
  refine lv_aload_n hx hb dL_law_1067 rfl (lv_at hl 4 rfl) ?_
  refine kc_rVi (As := []) (rest := []) ⟨hx, hb, hml, hown, hts⟩ (c_X3_thrown l D md cI 0 mK mc mD mr mw my mC mk (upd ms cx 0) mu mt mp mb (jMoveEnd ms me tn cx my) ) (cwV 0 hts gL_law_X3_thrown rfl rfl rfl (by decide +kernel) ⟨Nat.le_of_ble_eq_true rfl, Nat.le_of_ble_eq_true rfl⟩) hK hP [18, 19, 20, 21, 22, 23, 24, 25, 26, 27] [0] rfl rfl 18 rfl rfl rfl rfl hl.1 rfl (Nat.le_of_ble_eq_true rfl) dL_law_1068 ⟨kc_rc (by omega), kc_rs (by omega)⟩ ?_
  refine lv_iload hx hb dL_law_1071 (lv_at hl 1 rfl) ?_
  refine lv_icmp_eq (tgt := 1078) hx hb dL_law_1073 (by decide) (fun c_1073 => ?_) (fun c_1073 => absurd c_1073 (by decide))
  refine lv_iload hx hb dL_law_1078 (lv_at hl 1 rfl) ?_
  refine lv_if_ne (tgt := 1095) hx hb dL_law_1080 (by decide) (fun c_1080 => absurd c_1080 (by decide)) (fun c_1080 => ?_)
  refine lv_aload_n hx hb dL_law_1083 rfl (lv_at hl 5 rfl) ?_
  refine lv_iconst (v := 0) hx hb dL_law_1084 (by decide) ?_
  refine kc_lld (i := 0) (n := 1) hx hb hK hP 17 1 rfl rfl (by decide) (by decide) dL_law_1085 ?_
  refine kc_topl (show ((vp_updL ou 0 (Int32.toInt64 (if 0 < dy - jDue so ld tn cx then dy - jDue so ld tn cx else 0)))) 0 = Int32.toInt64 (if 0 < dy - jDue so ld tn cx then dy - jDue so ld tn cx else 0) from pk_uLs) ?_
  refine lv_iload hx hb dL_law_1086 (lv_at hl 0 rfl) ?_
  refine lv_i2l (v := Int32.toInt64 (if 0 < my - mu cx then my - mu cx else 0)) hx hb dL_law_1088 rfl ?_
  refine W.lcmp hx hb dL_law_1089 ?_
  refine kc_top (show lg_cmp (Int32.toInt64 (if 0 < dy - jDue so ld tn cx then dy - jDue so ld tn cx else 0)) (Int32.toInt64 (if 0 < my - mu cx then my - mu cx else 0)) = 0 from kc_lcmp0 (congrArg Int32.toInt64 hres)) ?_
  refine lv_if_eq (tgt := 1095) hx hb dL_law_1090 (by decide) (fun c_1090 => ?_) (fun c_1090 => absurd c_1090 (by decide))
  refine lv_goto (tgt := 1633) hx hb dL_law_1095 (by decide) ?_
  refine W.widen (k := cells + 2) (n := slots + 16) (by omega) (by omega) ?_
  exact K1 _ _ _ hP hD hS (lv_sub hl [2, 3, 4, 5, 6] rfl)
set_option maxHeartbeats 4000000 in
set_option maxRecDepth 100000 in
theorem lw_giveBack_f1_f1 {p : Program} {l : Launch} {e : Env} {s : State} {m : MethodId} {below : List Frame} {meth : Method} {c : Code} {Q : State → Prop} {b L : Nat} {xs : Nat → Int32} (hlf : l.stackTraces = false) (C0 : lw_At p s m meth c b L xs) {D : va_G} {cI cL : ClassId} (hK : kcK D [(cI, .int), (cL, .long)] s) (hX0 : kcX (fun q => s.heap.size ≤ q) s s.heap) (hL : L ≤ 2048) (i : Nat) (hi : i + 3 < L) (ad : Nat → Nat) (cd : Nat → Int32) (te : Nat → Int32) (ri : Nat → Int32) (pi : Nat → Int32) (pw : Nat → Int32) (K : Nat) (Dn : Nat) (mv : Int32) (ko : Nat → Int32) (so : Nat → Int32) (tl : Nat → Int32) (lp : Nat → Int32) (lb : Nat → Int32) (ld : Nat → Int32) (le : Nat → Int32) (C : Nat) (cl : Nat → Int32) (dq : Nat → Int32) (dy : Int32) (ou : Nat → Int64) (md : Nat → Nat) (th : Int32) (mK : Nat) (mc : Nat → Int32) (mD : Nat) (mr : Nat → Int32) (mw : Int32) (my : Int32) (mC : Nat) (mk : Nat → Int32) (ms : Nat → Int32) (mu : Nat → Int32) (mt : Nat → Int32) (mp : Nat → Int32) (mb : Nat → Int32) (me : Nat → Int32) (x : Int32) (hBad : ¬ jIn C x = true) (m_hBad : ¬ jIn mC x = true) (hp1 : xs (i + 1) = x)  {H : Heap} {locs : List Loc} {cells slots : Nat} (hce : cells + 2 ≤ 601024) (hsl : slots + 16 ≤ 7293034) (hP : va_P D vwCl (wLaw ad cI cd te ri pi pw K Dn mv ko so tl lp lb ld le C cl dq dy cL ou md th mK mc mD mr mw my mC mk ms mu mt mp mb me) H) (hD : va_D (fun q => s.heap.size ≤ q) (wLaw ad cI cd te ri pi pw K Dn mv ko so tl lp lb ld le C cl dq dy cL ou md th mK mc mD mr mw my mC mk ms mu mt mp mb me)) (hS : va_S (fun q => s.heap.size ≤ q) s.heap H locs) {ls : Array Slot} (hl : lv_has ls 9 [(0, .ref b), (1, .ref (ad 14)), (2, .ref (md 0)), (3, .ref (ad 17)), (4, .int (nI i))]) (K1 : ∀ (H : Heap) (locs : List Loc) (ls : Array Slot), va_P D vwCl (wLaw ad cI cd te ri pi pw K Dn mv ko so tl lp lb ld le C cl dq dy cL ou md 1 mK mc mD mr mw my mC mk ms mu mt mp mb me) H → va_D (fun q => s.heap.size ≤ q) (wLaw ad cI cd te ri pi pw K Dn mv ko so tl lp lb ld le C cl dq dy cL ou md 1 mK mc mD mr mw my mC mk ms mu mt mp mb me) → va_S (fun q => s.heap.size ≤ q) s.heap H locs → lv_has ls 9 [(0, .ref b), (1, .ref (ad 14)), (2, .ref (md 0)), (3, .ref (ad 17)), (4, .int (nI i))] → W p l e room_1 s m #[Value.ref b] below meth c H locs (cells + 2) (slots + 16) Q (F0 m 1633 ls [])) : W p l e room_1 s m #[Value.ref b] below meth c H locs cells slots Q (F0 m 1042 ls []) := by
  obtain ⟨hx, hb, hr, hml, hown, hts, hXs, hbl, hlocks, hgv⟩ := id C0
  have hts := fun w h => hts w (wsL_law_in w h)
  have hb : c.code = cL_law := hb
  have hA : ∀ q : Nat, s.heap.size ≤ q → (fun q : Nat => s.heap.size ≤ q) q := fun _ h => h
  have hbA : ¬ (fun q : Nat => s.heap.size ≤ q) b := Nat.not_le.mpr hbl
  refine lv_aload_n hx hb dL_law_1042 rfl (lv_at hl 1 rfl) ?_
  refine lv_aload_n hx hb dL_law_1043 rfl (lv_at hl 0 rfl) ?_
  refine lv_iload hx hb dL_law_1044 (lv_at hl 4 rfl) ?_
  refine lv_iconst (v := 1) hx hb dL_law_1046 (by decide) ?_
  refine lv_iadd hx hb dL_law_1047 ?_
  refine kc_top (show (nI i) + 1 = nI (i + 1) from nI_add _ _) ?_
  refine kc_sld (i := i + 1) hx hb hXs hbl hbA hS (by omega) (by omega) dL_law_1048 ?_
  refine kc_top hp1 ?_
  refine lv_aload_n hx hb dL_law_1049 rfl (lv_at hl 3 rfl) ?_
  have hX := kc_xat hX0 hS
  refine kc_hXi (w1 := wLh ad cI cd te ri pi pw K Dn mv ko so tl lp lb ld le C cl dq dy cL ou) (wr := [(md 0, .inr (3, [.int th, .int (nI mK), .ref (md 1), .int (nI mD), .ref (md 2), .int mw, .int my, .int (nI mC), .ref (md 3), .ref (md 4), .ref (md 5), .ref (md 6), .ref (md 7), .ref (md 8), .ref (md 9)])), (md 1, .inl (cI, 8, .inl mc)), (md 2, .inl (cI, 8, .inl mr)), (md 3, .inl (cI, 24, .inl mk)), (md 4, .inl (cI, 24, .inl ms)), (md 5, .inl (cI, 24, .inl mu)), (md 6, .inl (cI, 24, .inl mt)), (md 7, .inl (cI, 216, .inl mp)), (md 8, .inl (cI, 216, .inl mb)), (md 9, .inl (cI, 216, .inl me))]) (ws1 := wLaw ad cI cd te ri pi pw K Dn mv ko so tl lp lb ld le C cl dq dy cL ou md th mK mc mD mr mw my mC mk ms mu mt mp mb me) (As := [.ref (ad 14), .int x, .ref (ad 17)]) (rest := []) ⟨hx, hb, hml, hown, hts⟩ (c_L_giveBack_f1 l hlf D ad cI cd te ri pi pw K Dn mv ko so tl lp lb ld le C cl dq dy cL ou x H.size hBad) (vx_cwSW 3 hts gL_law_L_giveBack rfl rfl rfl (by decide +kernel) ⟨Nat.le_of_ble_eq_true rfl, Nat.le_of_ble_eq_true rfl⟩) hK hP hD hX hS hA [0, 1, 2, 3, 4, 5, 6, 7, 8, 9, 10, 11, 12, 13, 14, 15, 16, 17] [18, 19, 20, 21, 22, 23, 24, 25, 26, 27] [10, 11, 12, 13, 14, 15, 16, 17, 18, 19, 20, 21, 22, 23, 24, 25, 26, 27, 0, 1, 2, 3, 4, 5, 6, 7, 8, 9] [0, 1] rfl rfl rfl rfl (by decide) rfl rfl rfl rfl hl.1 rfl (Nat.le_of_ble_eq_true rfl) dL_law_1050 ⟨kc_rc (by omega), kc_rs (by omega)⟩ (fun H locs hP hD hS => ?_)
  refine lv_istore (lv' := [(5, .int 1), (0, .ref b), (1, .ref (ad 14)), (2, .ref (md 0)), (3, .ref (ad 17)), (4, .int (nI i))]) hx hb dL_law_1053 hl (by decide) rfl (fun ls hl => ?_)
  refine lv_aload_n hx hb dL_law_1055 rfl (lv_at hl 3 rfl) ?_
  refine lv_aload_n hx hb dL_law_1056 rfl (lv_at hl 1 rfl) ?_
  refine lv_iload hx hb dL_law_1057 (lv_at hl 5 rfl) ?_
  refine lv_iconst (v := 1) hx hb dL_law_1059 (by decide) ?_
  refine lv_iadd hx hb dL_law_1060 ?_
  refine kc_top (show (nI i) + 1 = nI (i + 1) from nI_add _ _) ?_
  refine kc_sld (i := i + 1) hx hb hXs hbl hbA hS (by omega) (by omega) dL_law_1061 ?_
  refine kc_top hp1 ?_
  refine kc_wVi (w1 := wMd md cI 1 mK mc mD mr mw my mC mk ms mu mt mp mb me) (wr := [(ad 0, .inr (1, [.ref (ad 1), .ref (ad 2), .ref (ad 3), .ref (ad 4), .ref (ad 5), .int (nI K), .int (nI Dn), .int mv])), (ad 1, .inl (cI, 8, .inl cd)), (ad 2, .inl (cI, 8, .inl te)), (ad 3, .inl (cI, 8, .inl ri)), (ad 4, .inl (cI, 8, .inl pi)), (ad 5, .inl (cI, 8, .inl pw)), (ad 6, .inr (0, [.ref (ad 7), .ref (ad 8), .ref (ad 9), .ref (ad 10), .ref (ad 11), .ref (ad 12), .ref (ad 13), .int (nI C)])), (ad 7, .inl (cI, 24, .inl ko)), (ad 8, .inl (cI, 24, .inl so)), (ad 9, .inl (cI, 24, .inl tl)), (ad 10, .inl (cI, 216, .inl lp)), (ad 11, .inl (cI, 216, .inl lb)), (ad 12, .inl (cI, 216, .inl ld)), (ad 13, .inl (cI, 216, .inl le)), (ad 14, .inr (2, [.ref (ad 0), .ref (ad 6), .ref (ad 15), .ref (ad 16), .int dy])), (ad 15, .inl (cI, 8, .inl cl)), (ad 16, .inl (cI, 8, .inl dq)), (ad 17, .inl (cL, 1, .inr (.inl ou)))]) (ws1 := wLaw ad cI cd te ri pi pw K Dn mv ko so tl lp lb ld le C cl dq dy cL ou md 1 mK mc mD mr mw my mC mk ms mu mt mp mb me) (As := [.int x]) (rest := []) ⟨hx, hb, hml, hown, hts⟩ (c_X3_giveBack_f1 l D md cI th mK mc mD mr mw my mC mk ms mu mt mp mb me x H.size m_hBad) (cwV 1 hts gL_law_X3_giveBack rfl rfl rfl (by decide +kernel) ⟨Nat.le_of_ble_eq_true rfl, Nat.le_of_ble_eq_true rfl⟩) hK hP hD hS hA [18, 19, 20, 21, 22, 23, 24, 25, 26, 27] [0, 1, 2, 3, 4, 5, 6, 7, 8, 9, 10, 11, 12, 13, 14, 15, 16, 17] [0, 1, 2, 3, 4, 5, 6, 7, 8, 9, 10, 11, 12, 13, 14, 15, 16, 17, 18, 19, 20, 21, 22, 23, 24, 25, 26, 27] [0] rfl rfl rfl rfl (by decide) rfl rfl rfl 18 rfl rfl rfl rfl hl.1 rfl (Nat.le_of_ble_eq_true rfl) dL_law_1062 ⟨kc_rc (by omega), kc_rs (by omega)⟩ (fun H locs hP hD hS => ?_)
  refine lv_istore (lv' := [(6, .int 0), (5, .int 1), (0, .ref b), (1, .ref (ad 14)), (2, .ref (md 0)), (3, .ref (ad 17)), (4, .int (nI i))]) hx hb dL_law_1065 hl (by decide) rfl (fun ls hl => ?_)
  refine lv_aload_n hx hb dL_law_1067 rfl (lv_at hl 4 rfl) ?_
  refine kc_rVi (As := []) (rest := []) ⟨hx, hb, hml, hown, hts⟩ (c_X3_thrown l D md cI 1 mK mc mD mr mw my mC mk ms mu mt mp mb me ) (cwV 0 hts gL_law_X3_thrown rfl rfl rfl (by decide +kernel) ⟨Nat.le_of_ble_eq_true rfl, Nat.le_of_ble_eq_true rfl⟩) hK hP [18, 19, 20, 21, 22, 23, 24, 25, 26, 27] [0] rfl rfl 18 rfl rfl rfl rfl hl.1 rfl (Nat.le_of_ble_eq_true rfl) dL_law_1068 ⟨kc_rc (by omega), kc_rs (by omega)⟩ ?_
  refine lv_iload hx hb dL_law_1071 (lv_at hl 1 rfl) ?_
  refine lv_icmp_eq (tgt := 1078) hx hb dL_law_1073 (by decide) (fun c_1073 => ?_) (fun c_1073 => absurd c_1073 (by decide))
  refine lv_iload hx hb dL_law_1078 (lv_at hl 1 rfl) ?_
  refine lv_if_ne (tgt := 1095) hx hb dL_law_1080 (by decide) (fun c_1080 => ?_) (fun c_1080 => absurd c_1080 (by decide))
  refine lv_goto (tgt := 1633) hx hb dL_law_1095 (by decide) ?_
  refine W.widen (k := cells + 2) (n := slots + 16) (by omega) (by omega) ?_
  exact K1 _ _ _ hP hD hS (lv_sub hl [2, 3, 4, 5, 6] rfl)
set_option maxHeartbeats 4000000 in
set_option maxRecDepth 100000 in
theorem lw_giveBack_f2_f2 {p : Program} {l : Launch} {e : Env} {s : State} {m : MethodId} {below : List Frame} {meth : Method} {c : Code} {Q : State → Prop} {b L : Nat} {xs : Nat → Int32} (hlf : l.stackTraces = false) (C0 : lw_At p s m meth c b L xs) {D : va_G} {cI cL : ClassId} (hK : kcK D [(cI, .int), (cL, .long)] s) (hX0 : kcX (fun q => s.heap.size ≤ q) s s.heap) (hL : L ≤ 2048) (i : Nat) (hi : i + 3 < L) (ad : Nat → Nat) (cd : Nat → Int32) (te : Nat → Int32) (ri : Nat → Int32) (pi : Nat → Int32) (pw : Nat → Int32) (K : Nat) (Dn : Nat) (mv : Int32) (ko : Nat → Int32) (so : Nat → Int32) (tl : Nat → Int32) (lp : Nat → Int32) (lb : Nat → Int32) (ld : Nat → Int32) (le : Nat → Int32) (C : Nat) (cl : Nat → Int32) (dq : Nat → Int32) (dy : Int32) (ou : Nat → Int64) (md : Nat → Nat) (th : Int32) (mK : Nat) (mc : Nat → Int32) (mD : Nat) (mr : Nat → Int32) (mw : Int32) (my : Int32) (mC : Nat) (mk : Nat → Int32) (ms : Nat → Int32) (mu : Nat → Int32) (mt : Nat → Int32) (mp : Nat → Int32) (mb : Nat → Int32) (me : Nat → Int32) (cx : Nat) (hC24 : C ≤ 24) (hc : cx < C) (hn : ¬ so cx = 1) (m_hC24 : mC ≤ 24) (m_hc : cx < mC) (m_hn : ¬ ms cx = 1) (hp1 : xs (i + 1) = nI cx)  {H : Heap} {locs : List Loc} {cells slots : Nat} (hce : cells + 2 ≤ 601024) (hsl : slots + 16 ≤ 7293034) (hP : va_P D vwCl (wLaw ad cI cd te ri pi pw K Dn mv ko so tl lp lb ld le C cl dq dy cL ou md th mK mc mD mr mw my mC mk ms mu mt mp mb me) H) (hD : va_D (fun q => s.heap.size ≤ q) (wLaw ad cI cd te ri pi pw K Dn mv ko so tl lp lb ld le C cl dq dy cL ou md th mK mc mD mr mw my mC mk ms mu mt mp mb me)) (hS : va_S (fun q => s.heap.size ≤ q) s.heap H locs) {ls : Array Slot} (hl : lv_has ls 9 [(0, .ref b), (1, .ref (ad 14)), (2, .ref (md 0)), (3, .ref (ad 17)), (4, .int (nI i))]) (K1 : ∀ (H : Heap) (locs : List Loc) (ls : Array Slot), va_P D vwCl (wLaw ad cI cd te ri pi pw K Dn mv ko so tl lp lb ld le C cl dq dy cL ou md 2 mK mc mD mr mw my mC mk ms mu mt mp mb me) H → va_D (fun q => s.heap.size ≤ q) (wLaw ad cI cd te ri pi pw K Dn mv ko so tl lp lb ld le C cl dq dy cL ou md 2 mK mc mD mr mw my mC mk ms mu mt mp mb me) → va_S (fun q => s.heap.size ≤ q) s.heap H locs → lv_has ls 9 [(0, .ref b), (1, .ref (ad 14)), (2, .ref (md 0)), (3, .ref (ad 17)), (4, .int (nI i))] → W p l e room_1 s m #[Value.ref b] below meth c H locs (cells + 2) (slots + 16) Q (F0 m 1633 ls [])) : W p l e room_1 s m #[Value.ref b] below meth c H locs cells slots Q (F0 m 1042 ls []) := by
  obtain ⟨hx, hb, hr, hml, hown, hts, hXs, hbl, hlocks, hgv⟩ := id C0
  have hts := fun w h => hts w (wsL_law_in w h)
  have hb : c.code = cL_law := hb
  have hA : ∀ q : Nat, s.heap.size ≤ q → (fun q : Nat => s.heap.size ≤ q) q := fun _ h => h
  have hbA : ¬ (fun q : Nat => s.heap.size ≤ q) b := Nat.not_le.mpr hbl
  refine lv_aload_n hx hb dL_law_1042 rfl (lv_at hl 1 rfl) ?_
  refine lv_aload_n hx hb dL_law_1043 rfl (lv_at hl 0 rfl) ?_
  refine lv_iload hx hb dL_law_1044 (lv_at hl 4 rfl) ?_
  refine lv_iconst (v := 1) hx hb dL_law_1046 (by decide) ?_
  refine lv_iadd hx hb dL_law_1047 ?_
  refine kc_top (show (nI i) + 1 = nI (i + 1) from nI_add _ _) ?_
  refine kc_sld (i := i + 1) hx hb hXs hbl hbA hS (by omega) (by omega) dL_law_1048 ?_
  refine kc_top hp1 ?_
  refine lv_aload_n hx hb dL_law_1049 rfl (lv_at hl 3 rfl) ?_
  have hX := kc_xat hX0 hS
  refine kc_hXi (w1 := wLh ad cI cd te ri pi pw K Dn mv ko so tl lp lb ld le C cl dq dy cL ou) (wr := [(md 0, .inr (3, [.int th, .int (nI mK), .ref (md 1), .int (nI mD), .ref (md 2), .int mw, .int my, .int (nI mC), .ref (md 3), .ref (md 4), .ref (md 5), .ref (md 6), .ref (md 7), .ref (md 8), .ref (md 9)])), (md 1, .inl (cI, 8, .inl mc)), (md 2, .inl (cI, 8, .inl mr)), (md 3, .inl (cI, 24, .inl mk)), (md 4, .inl (cI, 24, .inl ms)), (md 5, .inl (cI, 24, .inl mu)), (md 6, .inl (cI, 24, .inl mt)), (md 7, .inl (cI, 216, .inl mp)), (md 8, .inl (cI, 216, .inl mb)), (md 9, .inl (cI, 216, .inl me))]) (ws1 := wLaw ad cI cd te ri pi pw K Dn mv ko so tl lp lb ld le C cl dq dy cL ou md th mK mc mD mr mw my mC mk ms mu mt mp mb me) (As := [.ref (ad 14), .int (nI cx), .ref (ad 17)]) (rest := []) ⟨hx, hb, hml, hown, hts⟩ (c_L_giveBack_f2 l hlf D ad cI cd te ri pi pw K Dn mv ko so tl lp lb ld le C cl dq dy cL ou cx H.size hC24 hc hn) (vx_cwSW 3 hts gL_law_L_giveBack rfl rfl rfl (by decide +kernel) ⟨Nat.le_of_ble_eq_true rfl, Nat.le_of_ble_eq_true rfl⟩) hK hP hD hX hS hA [0, 1, 2, 3, 4, 5, 6, 7, 8, 9, 10, 11, 12, 13, 14, 15, 16, 17] [18, 19, 20, 21, 22, 23, 24, 25, 26, 27] [10, 11, 12, 13, 14, 15, 16, 17, 18, 19, 20, 21, 22, 23, 24, 25, 26, 27, 0, 1, 2, 3, 4, 5, 6, 7, 8, 9] [0, 1] rfl rfl rfl rfl (by decide) rfl rfl rfl rfl hl.1 rfl (Nat.le_of_ble_eq_true rfl) dL_law_1050 ⟨kc_rc (by omega), kc_rs (by omega)⟩ (fun H locs hP hD hS => ?_)
  refine lv_istore (lv' := [(5, .int 2), (0, .ref b), (1, .ref (ad 14)), (2, .ref (md 0)), (3, .ref (ad 17)), (4, .int (nI i))]) hx hb dL_law_1053 hl (by decide) rfl (fun ls hl => ?_)
  refine lv_aload_n hx hb dL_law_1055 rfl (lv_at hl 3 rfl) ?_
  refine lv_aload_n hx hb dL_law_1056 rfl (lv_at hl 1 rfl) ?_
  refine lv_iload hx hb dL_law_1057 (lv_at hl 5 rfl) ?_
  refine lv_iconst (v := 1) hx hb dL_law_1059 (by decide) ?_
  refine lv_iadd hx hb dL_law_1060 ?_
  refine kc_top (show (nI i) + 1 = nI (i + 1) from nI_add _ _) ?_
  refine kc_sld (i := i + 1) hx hb hXs hbl hbA hS (by omega) (by omega) dL_law_1061 ?_
  refine kc_top hp1 ?_
  refine kc_wVi (w1 := wMd md cI 2 mK mc mD mr mw my mC mk ms mu mt mp mb me) (wr := [(ad 0, .inr (1, [.ref (ad 1), .ref (ad 2), .ref (ad 3), .ref (ad 4), .ref (ad 5), .int (nI K), .int (nI Dn), .int mv])), (ad 1, .inl (cI, 8, .inl cd)), (ad 2, .inl (cI, 8, .inl te)), (ad 3, .inl (cI, 8, .inl ri)), (ad 4, .inl (cI, 8, .inl pi)), (ad 5, .inl (cI, 8, .inl pw)), (ad 6, .inr (0, [.ref (ad 7), .ref (ad 8), .ref (ad 9), .ref (ad 10), .ref (ad 11), .ref (ad 12), .ref (ad 13), .int (nI C)])), (ad 7, .inl (cI, 24, .inl ko)), (ad 8, .inl (cI, 24, .inl so)), (ad 9, .inl (cI, 24, .inl tl)), (ad 10, .inl (cI, 216, .inl lp)), (ad 11, .inl (cI, 216, .inl lb)), (ad 12, .inl (cI, 216, .inl ld)), (ad 13, .inl (cI, 216, .inl le)), (ad 14, .inr (2, [.ref (ad 0), .ref (ad 6), .ref (ad 15), .ref (ad 16), .int dy])), (ad 15, .inl (cI, 8, .inl cl)), (ad 16, .inl (cI, 8, .inl dq)), (ad 17, .inl (cL, 1, .inr (.inl ou)))]) (ws1 := wLaw ad cI cd te ri pi pw K Dn mv ko so tl lp lb ld le C cl dq dy cL ou md 2 mK mc mD mr mw my mC mk ms mu mt mp mb me) (As := [.int (nI cx)]) (rest := []) ⟨hx, hb, hml, hown, hts⟩ (c_X3_giveBack_f2 l D md cI th mK mc mD mr mw my mC mk ms mu mt mp mb me cx H.size m_hC24 m_hc m_hn) (cwV 1 hts gL_law_X3_giveBack rfl rfl rfl (by decide +kernel) ⟨Nat.le_of_ble_eq_true rfl, Nat.le_of_ble_eq_true rfl⟩) hK hP hD hS hA [18, 19, 20, 21, 22, 23, 24, 25, 26, 27] [0, 1, 2, 3, 4, 5, 6, 7, 8, 9, 10, 11, 12, 13, 14, 15, 16, 17] [0, 1, 2, 3, 4, 5, 6, 7, 8, 9, 10, 11, 12, 13, 14, 15, 16, 17, 18, 19, 20, 21, 22, 23, 24, 25, 26, 27] [0] rfl rfl rfl rfl (by decide) rfl rfl rfl 18 rfl rfl rfl rfl hl.1 rfl (Nat.le_of_ble_eq_true rfl) dL_law_1062 ⟨kc_rc (by omega), kc_rs (by omega)⟩ (fun H locs hP hD hS => ?_)
  refine lv_istore (lv' := [(6, .int 0), (5, .int 2), (0, .ref b), (1, .ref (ad 14)), (2, .ref (md 0)), (3, .ref (ad 17)), (4, .int (nI i))]) hx hb dL_law_1065 hl (by decide) rfl (fun ls hl => ?_)
  refine lv_aload_n hx hb dL_law_1067 rfl (lv_at hl 4 rfl) ?_
  refine kc_rVi (As := []) (rest := []) ⟨hx, hb, hml, hown, hts⟩ (c_X3_thrown l D md cI 2 mK mc mD mr mw my mC mk ms mu mt mp mb me ) (cwV 0 hts gL_law_X3_thrown rfl rfl rfl (by decide +kernel) ⟨Nat.le_of_ble_eq_true rfl, Nat.le_of_ble_eq_true rfl⟩) hK hP [18, 19, 20, 21, 22, 23, 24, 25, 26, 27] [0] rfl rfl 18 rfl rfl rfl rfl hl.1 rfl (Nat.le_of_ble_eq_true rfl) dL_law_1068 ⟨kc_rc (by omega), kc_rs (by omega)⟩ ?_
  refine lv_iload hx hb dL_law_1071 (lv_at hl 1 rfl) ?_
  refine lv_icmp_eq (tgt := 1078) hx hb dL_law_1073 (by decide) (fun c_1073 => ?_) (fun c_1073 => absurd c_1073 (by decide))
  refine lv_iload hx hb dL_law_1078 (lv_at hl 1 rfl) ?_
  refine lv_if_ne (tgt := 1095) hx hb dL_law_1080 (by decide) (fun c_1080 => ?_) (fun c_1080 => absurd c_1080 (by decide))
  refine lv_goto (tgt := 1633) hx hb dL_law_1095 (by decide) ?_
  refine W.widen (k := cells + 2) (n := slots + 16) (by omega) (by omega) ?_
  exact K1 _ _ _ hP hD hS (lv_sub hl [2, 3, 4, 5, 6] rfl)
set_option maxHeartbeats 4000000 in
set_option maxRecDepth 100000 in
theorem lw_lose_ok_ok {p : Program} {l : Launch} {e : Env} {s : State} {m : MethodId} {below : List Frame} {meth : Method} {c : Code} {Q : State → Prop} {b L : Nat} {xs : Nat → Int32} (hlf : l.stackTraces = false) (C0 : lw_At p s m meth c b L xs) {D : va_G} {cI cL : ClassId} (hK : kcK D [(cI, .int), (cL, .long)] s) (hX0 : kcX (fun q => s.heap.size ≤ q) s s.heap) (hL : L ≤ 2048) (i : Nat) (hi : i + 3 < L) (ad : Nat → Nat) (cd : Nat → Int32) (te : Nat → Int32) (ri : Nat → Int32) (pi : Nat → Int32) (pw : Nat → Int32) (K : Nat) (Dn : Nat) (mv : Int32) (ko : Nat → Int32) (so : Nat → Int32) (tl : Nat → Int32) (lp : Nat → Int32) (lb : Nat → Int32) (ld : Nat → Int32) (le : Nat → Int32) (C : Nat) (cl : Nat → Int32) (dq : Nat → Int32) (dy : Int32) (ou : Nat → Int64) (md : Nat → Nat) (th : Int32) (mK : Nat) (mc : Nat → Int32) (mD : Nat) (mr : Nat → Int32) (mw : Int32) (my : Int32) (mC : Nat) (mk : Nat → Int32) (ms : Nat → Int32) (mu : Nat → Int32) (mt : Nat → Int32) (mp : Nat → Int32) (mb : Nat → Int32) (me : Nat → Int32) (cx : Nat) (tn : Nat → Nat) (kn : Nat → Nat) (hK8 : K ≤ 8) (hD8 : Dn ≤ 8) (hC24 : C ≤ 24) (hc : cx < C) (hok : okLe so tl tn) (hkn : okKe C ko kn) (h2 : ¬ so cx = 2) (h3 : ¬ so cx = 3) (m_hK8 : mK ≤ 8) (m_hD8 : mD ≤ 8) (m_hC24 : mC ≤ 24) (m_hc : cx < mC) (m_hok : okLe ms mt tn) (m_hkn : okKe mC mk kn) (m_h2 : ¬ ms cx = 2) (m_h3 : ¬ ms cx = 3) (hp1 : xs (i + 1) = nI cx) (hres : (jDoors pi te (kn cx) Dn : Int32) = (mDoors mr mc mK (mc (kn cx)) mD)) {H : Heap} {locs : List Loc} {cells slots : Nat} (hce : cells + 2 ≤ 601024) (hsl : slots + 16 ≤ 7293034) (hP : va_P D vwCl (wLaw ad cI cd te ri pi pw K Dn mv ko so tl lp lb ld le C cl dq dy cL ou md th mK mc mD mr mw my mC mk ms mu mt mp mb me) H) (hD : va_D (fun q => s.heap.size ≤ q) (wLaw ad cI cd te ri pi pw K Dn mv ko so tl lp lb ld le C cl dq dy cL ou md th mK mc mD mr mw my mC mk ms mu mt mp mb me)) (hS : va_S (fun q => s.heap.size ≤ q) s.heap H locs) {ls : Array Slot} (hl : lv_has ls 9 [(0, .ref b), (1, .ref (ad 14)), (2, .ref (md 0)), (3, .ref (ad 17)), (4, .int (nI i))]) (K1 : ∀ (H : Heap) (locs : List Loc) (ls : Array Slot), va_P D vwCl (wLaw ad cI cd te ri pi pw K Dn mv ko (upd so cx 2) tl lp lb ld (jMoveEnd so le tn cx dy) C cl dq dy cL (vp_updL ou 0 (Int32.toInt64 (jDoors pi te (kn cx) Dn))) md 0 mK mc mD mr mw my mC mk (upd ms cx 2) mu mt mp mb (jMoveEnd ms me tn cx my)) H → va_D (fun q => s.heap.size ≤ q) (wLaw ad cI cd te ri pi pw K Dn mv ko (upd so cx 2) tl lp lb ld (jMoveEnd so le tn cx dy) C cl dq dy cL (vp_updL ou 0 (Int32.toInt64 (jDoors pi te (kn cx) Dn))) md 0 mK mc mD mr mw my mC mk (upd ms cx 2) mu mt mp mb (jMoveEnd ms me tn cx my)) → va_S (fun q => s.heap.size ≤ q) s.heap H locs → lv_has ls 9 [(0, .ref b), (1, .ref (ad 14)), (2, .ref (md 0)), (3, .ref (ad 17)), (4, .int (nI i))] → W p l e room_1 s m #[Value.ref b] below meth c H locs (cells + 2) (slots + 16) Q (F0 m 1633 ls [])) : W p l e room_1 s m #[Value.ref b] below meth c H locs cells slots Q (F0 m 1098 ls []) := by
  obtain ⟨hx, hb, hr, hml, hown, hts, hXs, hbl, hlocks, hgv⟩ := id C0
  have hts := fun w h => hts w (wsL_law_in w h)
  have hb : c.code = cL_law := hb
  have hA : ∀ q : Nat, s.heap.size ≤ q → (fun q : Nat => s.heap.size ≤ q) q := fun _ h => h
  have hbA : ¬ (fun q : Nat => s.heap.size ≤ q) b := Nat.not_le.mpr hbl
  refine lv_aload_n hx hb dL_law_1098 rfl (lv_at hl 1 rfl) ?_
  refine lv_aload_n hx hb dL_law_1099 rfl (lv_at hl 0 rfl) ?_
  refine lv_iload hx hb dL_law_1100 (lv_at hl 4 rfl) ?_
  refine lv_iconst (v := 1) hx hb dL_law_1102 (by decide) ?_
  refine lv_iadd hx hb dL_law_1103 ?_
  refine kc_top (show (nI i) + 1 = nI (i + 1) from nI_add _ _) ?_
  refine kc_sld (i := i + 1) hx hb hXs hbl hbA hS (by omega) (by omega) dL_law_1104 ?_
  refine kc_top hp1 ?_
  refine lv_aload_n hx hb dL_law_1105 rfl (lv_at hl 3 rfl) ?_
  refine kc_hSi (w1 := wLh ad cI cd te ri pi pw K Dn mv ko (upd so cx 2) tl lp lb ld (jMoveEnd so le tn cx dy) C cl dq dy cL (vp_updL ou 0 (Int32.toInt64 (jDoors pi te (kn cx) Dn)))) (wr := [(md 0, .inr (3, [.int th, .int (nI mK), .ref (md 1), .int (nI mD), .ref (md 2), .int mw, .int my, .int (nI mC), .ref (md 3), .ref (md 4), .ref (md 5), .ref (md 6), .ref (md 7), .ref (md 8), .ref (md 9)])), (md 1, .inl (cI, 8, .inl mc)), (md 2, .inl (cI, 8, .inl mr)), (md 3, .inl (cI, 24, .inl mk)), (md 4, .inl (cI, 24, .inl ms)), (md 5, .inl (cI, 24, .inl mu)), (md 6, .inl (cI, 24, .inl mt)), (md 7, .inl (cI, 216, .inl mp)), (md 8, .inl (cI, 216, .inl mb)), (md 9, .inl (cI, 216, .inl me))]) (ws1 := wLaw ad cI cd te ri pi pw K Dn mv ko (upd so cx 2) tl lp lb ld (jMoveEnd so le tn cx dy) C cl dq dy cL (vp_updL ou 0 (Int32.toInt64 (jDoors pi te (kn cx) Dn))) md th mK mc mD mr mw my mC mk ms mu mt mp mb me) (As := [.ref (ad 14), .int (nI cx), .ref (ad 17)]) (rest := []) ⟨hx, hb, hml, hown, hts⟩ (c_L_lose_ok l D ad cI cd te ri pi pw K Dn mv ko so tl lp lb ld le C cl dq dy cL ou cx tn kn H.size hK8 hD8 hC24 hc hok hkn h2 h3) (vx_cwSW 3 hts gL_law_L_lose rfl rfl rfl (by decide +kernel) ⟨Nat.le_of_ble_eq_true rfl, Nat.le_of_ble_eq_true rfl⟩) hK hP hD hS hA [0, 1, 2, 3, 4, 5, 6, 7, 8, 9, 10, 11, 12, 13, 14, 15, 16, 17] [18, 19, 20, 21, 22, 23, 24, 25, 26, 27] [10, 11, 12, 13, 14, 15, 16, 17, 18, 19, 20, 21, 22, 23, 24, 25, 26, 27, 0, 1, 2, 3, 4, 5, 6, 7, 8, 9] [0, 1] rfl rfl rfl rfl (by decide) rfl rfl rfl rfl hl.1 rfl (Nat.le_of_ble_eq_true rfl) dL_law_1106 ⟨kc_rc (by omega), kc_rs (by omega)⟩ (fun H locs hP hD hS => ?_)
  refine lv_istore (lv' := [(5, .int 0), (0, .ref b), (1, .ref (ad 14)), (2, .ref (md 0)), (3, .ref (ad 17)), (4, .int (nI i))]) hx hb dL_law_1109 hl (by decide) rfl (fun ls hl => ?_)
  refine lv_aload_n hx hb dL_law_1111 rfl (lv_at hl 3 rfl) ?_
  refine lv_aload_n hx hb dL_law_1112 rfl (lv_at hl 1 rfl) ?_
  refine lv_iload hx hb dL_law_1113 (lv_at hl 5 rfl) ?_
  refine lv_iconst (v := 1) hx hb dL_law_1115 (by decide) ?_
  refine lv_iadd hx hb dL_law_1116 ?_
  refine kc_top (show (nI i) + 1 = nI (i + 1) from nI_add _ _) ?_
  refine kc_sld (i := i + 1) hx hb hXs hbl hbA hS (by omega) (by omega) dL_law_1117 ?_
  refine kc_top hp1 ?_
  refine kc_wVi (w1 := wMd md cI 0 mK mc mD mr mw my mC mk (upd ms cx 2) mu mt mp mb (jMoveEnd ms me tn cx my)) (wr := [(ad 0, .inr (1, [.ref (ad 1), .ref (ad 2), .ref (ad 3), .ref (ad 4), .ref (ad 5), .int (nI K), .int (nI Dn), .int mv])), (ad 1, .inl (cI, 8, .inl cd)), (ad 2, .inl (cI, 8, .inl te)), (ad 3, .inl (cI, 8, .inl ri)), (ad 4, .inl (cI, 8, .inl pi)), (ad 5, .inl (cI, 8, .inl pw)), (ad 6, .inr (0, [.ref (ad 7), .ref (ad 8), .ref (ad 9), .ref (ad 10), .ref (ad 11), .ref (ad 12), .ref (ad 13), .int (nI C)])), (ad 7, .inl (cI, 24, .inl ko)), (ad 8, .inl (cI, 24, .inl (upd so cx 2))), (ad 9, .inl (cI, 24, .inl tl)), (ad 10, .inl (cI, 216, .inl lp)), (ad 11, .inl (cI, 216, .inl lb)), (ad 12, .inl (cI, 216, .inl ld)), (ad 13, .inl (cI, 216, .inl (jMoveEnd so le tn cx dy))), (ad 14, .inr (2, [.ref (ad 0), .ref (ad 6), .ref (ad 15), .ref (ad 16), .int dy])), (ad 15, .inl (cI, 8, .inl cl)), (ad 16, .inl (cI, 8, .inl dq)), (ad 17, .inl (cL, 1, .inr (.inl (vp_updL ou 0 (Int32.toInt64 (jDoors pi te (kn cx) Dn))))))]) (ws1 := wLaw ad cI cd te ri pi pw K Dn mv ko (upd so cx 2) tl lp lb ld (jMoveEnd so le tn cx dy) C cl dq dy cL (vp_updL ou 0 (Int32.toInt64 (jDoors pi te (kn cx) Dn))) md 0 mK mc mD mr mw my mC mk (upd ms cx 2) mu mt mp mb (jMoveEnd ms me tn cx my)) (As := [.int (nI cx)]) (rest := []) ⟨hx, hb, hml, hown, hts⟩ (c_X3_lose_ok l D md cI th mK mc mD mr mw my mC mk ms mu mt mp mb me cx tn kn H.size m_hK8 m_hD8 m_hC24 m_hc m_hok m_hkn m_h2 m_h3) (cwV 1 hts gL_law_X3_lose rfl rfl rfl (by decide +kernel) ⟨Nat.le_of_ble_eq_true rfl, Nat.le_of_ble_eq_true rfl⟩) hK hP hD hS hA [18, 19, 20, 21, 22, 23, 24, 25, 26, 27] [0, 1, 2, 3, 4, 5, 6, 7, 8, 9, 10, 11, 12, 13, 14, 15, 16, 17] [0, 1, 2, 3, 4, 5, 6, 7, 8, 9, 10, 11, 12, 13, 14, 15, 16, 17, 18, 19, 20, 21, 22, 23, 24, 25, 26, 27] [0] rfl rfl rfl rfl (by decide) rfl rfl rfl 18 rfl rfl rfl rfl hl.1 rfl (Nat.le_of_ble_eq_true rfl) dL_law_1118 ⟨kc_rc (by omega), kc_rs (by omega)⟩ (fun H locs hP hD hS => ?_)
  refine lv_istore (lv' := [(6, .int (mDoors mr mc mK (mc (kn cx)) mD)), (5, .int 0), (0, .ref b), (1, .ref (ad 14)), (2, .ref (md 0)), (3, .ref (ad 17)), (4, .int (nI i))]) hx hb dL_law_1121 hl (by decide) rfl (fun ls hl => ?_)
  refine lv_aload_n hx hb dL_law_1123 rfl (lv_at hl 4 rfl) ?_
  refine kc_rVi (As := []) (rest := []) ⟨hx, hb, hml, hown, hts⟩ (c_X3_thrown l D md cI 0 mK mc mD mr mw my mC mk (upd ms cx 2) mu mt mp mb (jMoveEnd ms me tn cx my) ) (cwV 0 hts gL_law_X3_thrown rfl rfl rfl (by decide +kernel) ⟨Nat.le_of_ble_eq_true rfl, Nat.le_of_ble_eq_true rfl⟩) hK hP [18, 19, 20, 21, 22, 23, 24, 25, 26, 27] [0] rfl rfl 18 rfl rfl rfl rfl hl.1 rfl (Nat.le_of_ble_eq_true rfl) dL_law_1124 ⟨kc_rc (by omega), kc_rs (by omega)⟩ ?_
  refine lv_iload hx hb dL_law_1127 (lv_at hl 1 rfl) ?_
  refine lv_icmp_eq (tgt := 1134) hx hb dL_law_1129 (by decide) (fun c_1129 => ?_) (fun c_1129 => absurd c_1129 (by decide))
  refine lv_iload hx hb dL_law_1134 (lv_at hl 1 rfl) ?_
  refine lv_if_ne (tgt := 1151) hx hb dL_law_1136 (by decide) (fun c_1136 => absurd c_1136 (by decide)) (fun c_1136 => ?_)
  refine lv_aload_n hx hb dL_law_1139 rfl (lv_at hl 5 rfl) ?_
  refine lv_iconst (v := 0) hx hb dL_law_1140 (by decide) ?_
  refine kc_lld (i := 0) (n := 1) hx hb hK hP 17 1 rfl rfl (by decide) (by decide) dL_law_1141 ?_
  refine kc_topl (show ((vp_updL ou 0 (Int32.toInt64 (jDoors pi te (kn cx) Dn)))) 0 = Int32.toInt64 (jDoors pi te (kn cx) Dn) from pk_uLs) ?_
  refine lv_iload hx hb dL_law_1142 (lv_at hl 0 rfl) ?_
  refine lv_i2l (v := Int32.toInt64 (mDoors mr mc mK (mc (kn cx)) mD)) hx hb dL_law_1144 rfl ?_
  refine W.lcmp hx hb dL_law_1145 ?_
  refine kc_top (show lg_cmp (Int32.toInt64 (jDoors pi te (kn cx) Dn)) (Int32.toInt64 (mDoors mr mc mK (mc (kn cx)) mD)) = 0 from kc_lcmp0 (congrArg Int32.toInt64 hres)) ?_
  refine lv_if_eq (tgt := 1151) hx hb dL_law_1146 (by decide) (fun c_1146 => ?_) (fun c_1146 => absurd c_1146 (by decide))
  refine lv_goto (tgt := 1633) hx hb dL_law_1151 (by decide) ?_
  refine W.widen (k := cells + 2) (n := slots + 16) (by omega) (by omega) ?_
  exact K1 _ _ _ hP hD hS (lv_sub hl [2, 3, 4, 5, 6] rfl)
set_option maxHeartbeats 4000000 in
set_option maxRecDepth 100000 in
theorem lw_lose_f1_f1 {p : Program} {l : Launch} {e : Env} {s : State} {m : MethodId} {below : List Frame} {meth : Method} {c : Code} {Q : State → Prop} {b L : Nat} {xs : Nat → Int32} (hlf : l.stackTraces = false) (C0 : lw_At p s m meth c b L xs) {D : va_G} {cI cL : ClassId} (hK : kcK D [(cI, .int), (cL, .long)] s) (hX0 : kcX (fun q => s.heap.size ≤ q) s s.heap) (hL : L ≤ 2048) (i : Nat) (hi : i + 3 < L) (ad : Nat → Nat) (cd : Nat → Int32) (te : Nat → Int32) (ri : Nat → Int32) (pi : Nat → Int32) (pw : Nat → Int32) (K : Nat) (Dn : Nat) (mv : Int32) (ko : Nat → Int32) (so : Nat → Int32) (tl : Nat → Int32) (lp : Nat → Int32) (lb : Nat → Int32) (ld : Nat → Int32) (le : Nat → Int32) (C : Nat) (cl : Nat → Int32) (dq : Nat → Int32) (dy : Int32) (ou : Nat → Int64) (md : Nat → Nat) (th : Int32) (mK : Nat) (mc : Nat → Int32) (mD : Nat) (mr : Nat → Int32) (mw : Int32) (my : Int32) (mC : Nat) (mk : Nat → Int32) (ms : Nat → Int32) (mu : Nat → Int32) (mt : Nat → Int32) (mp : Nat → Int32) (mb : Nat → Int32) (me : Nat → Int32) (x : Int32) (hBad : ¬ jIn C x = true) (m_hBad : ¬ jIn mC x = true) (hp1 : xs (i + 1) = x)  {H : Heap} {locs : List Loc} {cells slots : Nat} (hce : cells + 2 ≤ 601024) (hsl : slots + 16 ≤ 7293034) (hP : va_P D vwCl (wLaw ad cI cd te ri pi pw K Dn mv ko so tl lp lb ld le C cl dq dy cL ou md th mK mc mD mr mw my mC mk ms mu mt mp mb me) H) (hD : va_D (fun q => s.heap.size ≤ q) (wLaw ad cI cd te ri pi pw K Dn mv ko so tl lp lb ld le C cl dq dy cL ou md th mK mc mD mr mw my mC mk ms mu mt mp mb me)) (hS : va_S (fun q => s.heap.size ≤ q) s.heap H locs) {ls : Array Slot} (hl : lv_has ls 9 [(0, .ref b), (1, .ref (ad 14)), (2, .ref (md 0)), (3, .ref (ad 17)), (4, .int (nI i))]) (K1 : ∀ (H : Heap) (locs : List Loc) (ls : Array Slot), va_P D vwCl (wLaw ad cI cd te ri pi pw K Dn mv ko so tl lp lb ld le C cl dq dy cL ou md 1 mK mc mD mr mw my mC mk ms mu mt mp mb me) H → va_D (fun q => s.heap.size ≤ q) (wLaw ad cI cd te ri pi pw K Dn mv ko so tl lp lb ld le C cl dq dy cL ou md 1 mK mc mD mr mw my mC mk ms mu mt mp mb me) → va_S (fun q => s.heap.size ≤ q) s.heap H locs → lv_has ls 9 [(0, .ref b), (1, .ref (ad 14)), (2, .ref (md 0)), (3, .ref (ad 17)), (4, .int (nI i))] → W p l e room_1 s m #[Value.ref b] below meth c H locs (cells + 2) (slots + 16) Q (F0 m 1633 ls [])) : W p l e room_1 s m #[Value.ref b] below meth c H locs cells slots Q (F0 m 1098 ls []) := by
  obtain ⟨hx, hb, hr, hml, hown, hts, hXs, hbl, hlocks, hgv⟩ := id C0
  have hts := fun w h => hts w (wsL_law_in w h)
  have hb : c.code = cL_law := hb
  have hA : ∀ q : Nat, s.heap.size ≤ q → (fun q : Nat => s.heap.size ≤ q) q := fun _ h => h
  have hbA : ¬ (fun q : Nat => s.heap.size ≤ q) b := Nat.not_le.mpr hbl
  refine lv_aload_n hx hb dL_law_1098 rfl (lv_at hl 1 rfl) ?_
  refine lv_aload_n hx hb dL_law_1099 rfl (lv_at hl 0 rfl) ?_
  refine lv_iload hx hb dL_law_1100 (lv_at hl 4 rfl) ?_
  refine lv_iconst (v := 1) hx hb dL_law_1102 (by decide) ?_
  refine lv_iadd hx hb dL_law_1103 ?_
  refine kc_top (show (nI i) + 1 = nI (i + 1) from nI_add _ _) ?_
  refine kc_sld (i := i + 1) hx hb hXs hbl hbA hS (by omega) (by omega) dL_law_1104 ?_
  refine kc_top hp1 ?_
  refine lv_aload_n hx hb dL_law_1105 rfl (lv_at hl 3 rfl) ?_
  have hX := kc_xat hX0 hS
  refine kc_hXi (w1 := wLh ad cI cd te ri pi pw K Dn mv ko so tl lp lb ld le C cl dq dy cL ou) (wr := [(md 0, .inr (3, [.int th, .int (nI mK), .ref (md 1), .int (nI mD), .ref (md 2), .int mw, .int my, .int (nI mC), .ref (md 3), .ref (md 4), .ref (md 5), .ref (md 6), .ref (md 7), .ref (md 8), .ref (md 9)])), (md 1, .inl (cI, 8, .inl mc)), (md 2, .inl (cI, 8, .inl mr)), (md 3, .inl (cI, 24, .inl mk)), (md 4, .inl (cI, 24, .inl ms)), (md 5, .inl (cI, 24, .inl mu)), (md 6, .inl (cI, 24, .inl mt)), (md 7, .inl (cI, 216, .inl mp)), (md 8, .inl (cI, 216, .inl mb)), (md 9, .inl (cI, 216, .inl me))]) (ws1 := wLaw ad cI cd te ri pi pw K Dn mv ko so tl lp lb ld le C cl dq dy cL ou md th mK mc mD mr mw my mC mk ms mu mt mp mb me) (As := [.ref (ad 14), .int x, .ref (ad 17)]) (rest := []) ⟨hx, hb, hml, hown, hts⟩ (c_L_lose_f1 l hlf D ad cI cd te ri pi pw K Dn mv ko so tl lp lb ld le C cl dq dy cL ou x H.size hBad) (vx_cwSW 3 hts gL_law_L_lose rfl rfl rfl (by decide +kernel) ⟨Nat.le_of_ble_eq_true rfl, Nat.le_of_ble_eq_true rfl⟩) hK hP hD hX hS hA [0, 1, 2, 3, 4, 5, 6, 7, 8, 9, 10, 11, 12, 13, 14, 15, 16, 17] [18, 19, 20, 21, 22, 23, 24, 25, 26, 27] [10, 11, 12, 13, 14, 15, 16, 17, 18, 19, 20, 21, 22, 23, 24, 25, 26, 27, 0, 1, 2, 3, 4, 5, 6, 7, 8, 9] [0, 1] rfl rfl rfl rfl (by decide) rfl rfl rfl rfl hl.1 rfl (Nat.le_of_ble_eq_true rfl) dL_law_1106 ⟨kc_rc (by omega), kc_rs (by omega)⟩ (fun H locs hP hD hS => ?_)
  refine lv_istore (lv' := [(5, .int 1), (0, .ref b), (1, .ref (ad 14)), (2, .ref (md 0)), (3, .ref (ad 17)), (4, .int (nI i))]) hx hb dL_law_1109 hl (by decide) rfl (fun ls hl => ?_)
  refine lv_aload_n hx hb dL_law_1111 rfl (lv_at hl 3 rfl) ?_
  refine lv_aload_n hx hb dL_law_1112 rfl (lv_at hl 1 rfl) ?_
  refine lv_iload hx hb dL_law_1113 (lv_at hl 5 rfl) ?_
  refine lv_iconst (v := 1) hx hb dL_law_1115 (by decide) ?_
  refine lv_iadd hx hb dL_law_1116 ?_
  refine kc_top (show (nI i) + 1 = nI (i + 1) from nI_add _ _) ?_
  refine kc_sld (i := i + 1) hx hb hXs hbl hbA hS (by omega) (by omega) dL_law_1117 ?_
  refine kc_top hp1 ?_
  refine kc_wVi (w1 := wMd md cI 1 mK mc mD mr mw my mC mk ms mu mt mp mb me) (wr := [(ad 0, .inr (1, [.ref (ad 1), .ref (ad 2), .ref (ad 3), .ref (ad 4), .ref (ad 5), .int (nI K), .int (nI Dn), .int mv])), (ad 1, .inl (cI, 8, .inl cd)), (ad 2, .inl (cI, 8, .inl te)), (ad 3, .inl (cI, 8, .inl ri)), (ad 4, .inl (cI, 8, .inl pi)), (ad 5, .inl (cI, 8, .inl pw)), (ad 6, .inr (0, [.ref (ad 7), .ref (ad 8), .ref (ad 9), .ref (ad 10), .ref (ad 11), .ref (ad 12), .ref (ad 13), .int (nI C)])), (ad 7, .inl (cI, 24, .inl ko)), (ad 8, .inl (cI, 24, .inl so)), (ad 9, .inl (cI, 24, .inl tl)), (ad 10, .inl (cI, 216, .inl lp)), (ad 11, .inl (cI, 216, .inl lb)), (ad 12, .inl (cI, 216, .inl ld)), (ad 13, .inl (cI, 216, .inl le)), (ad 14, .inr (2, [.ref (ad 0), .ref (ad 6), .ref (ad 15), .ref (ad 16), .int dy])), (ad 15, .inl (cI, 8, .inl cl)), (ad 16, .inl (cI, 8, .inl dq)), (ad 17, .inl (cL, 1, .inr (.inl ou)))]) (ws1 := wLaw ad cI cd te ri pi pw K Dn mv ko so tl lp lb ld le C cl dq dy cL ou md 1 mK mc mD mr mw my mC mk ms mu mt mp mb me) (As := [.int x]) (rest := []) ⟨hx, hb, hml, hown, hts⟩ (c_X3_lose_f1 l D md cI th mK mc mD mr mw my mC mk ms mu mt mp mb me x H.size m_hBad) (cwV 1 hts gL_law_X3_lose rfl rfl rfl (by decide +kernel) ⟨Nat.le_of_ble_eq_true rfl, Nat.le_of_ble_eq_true rfl⟩) hK hP hD hS hA [18, 19, 20, 21, 22, 23, 24, 25, 26, 27] [0, 1, 2, 3, 4, 5, 6, 7, 8, 9, 10, 11, 12, 13, 14, 15, 16, 17] [0, 1, 2, 3, 4, 5, 6, 7, 8, 9, 10, 11, 12, 13, 14, 15, 16, 17, 18, 19, 20, 21, 22, 23, 24, 25, 26, 27] [0] rfl rfl rfl rfl (by decide) rfl rfl rfl 18 rfl rfl rfl rfl hl.1 rfl (Nat.le_of_ble_eq_true rfl) dL_law_1118 ⟨kc_rc (by omega), kc_rs (by omega)⟩ (fun H locs hP hD hS => ?_)
  refine lv_istore (lv' := [(6, .int 0), (5, .int 1), (0, .ref b), (1, .ref (ad 14)), (2, .ref (md 0)), (3, .ref (ad 17)), (4, .int (nI i))]) hx hb dL_law_1121 hl (by decide) rfl (fun ls hl => ?_)
  refine lv_aload_n hx hb dL_law_1123 rfl (lv_at hl 4 rfl) ?_
  refine kc_rVi (As := []) (rest := []) ⟨hx, hb, hml, hown, hts⟩ (c_X3_thrown l D md cI 1 mK mc mD mr mw my mC mk ms mu mt mp mb me ) (cwV 0 hts gL_law_X3_thrown rfl rfl rfl (by decide +kernel) ⟨Nat.le_of_ble_eq_true rfl, Nat.le_of_ble_eq_true rfl⟩) hK hP [18, 19, 20, 21, 22, 23, 24, 25, 26, 27] [0] rfl rfl 18 rfl rfl rfl rfl hl.1 rfl (Nat.le_of_ble_eq_true rfl) dL_law_1124 ⟨kc_rc (by omega), kc_rs (by omega)⟩ ?_
  refine lv_iload hx hb dL_law_1127 (lv_at hl 1 rfl) ?_
  refine lv_icmp_eq (tgt := 1134) hx hb dL_law_1129 (by decide) (fun c_1129 => ?_) (fun c_1129 => absurd c_1129 (by decide))
  refine lv_iload hx hb dL_law_1134 (lv_at hl 1 rfl) ?_
  refine lv_if_ne (tgt := 1151) hx hb dL_law_1136 (by decide) (fun c_1136 => ?_) (fun c_1136 => absurd c_1136 (by decide))
  refine lv_goto (tgt := 1633) hx hb dL_law_1151 (by decide) ?_
  refine W.widen (k := cells + 2) (n := slots + 16) (by omega) (by omega) ?_
  exact K1 _ _ _ hP hD hS (lv_sub hl [2, 3, 4, 5, 6] rfl)
set_option maxHeartbeats 4000000 in
set_option maxRecDepth 100000 in
theorem lw_lose_f2_f2 {p : Program} {l : Launch} {e : Env} {s : State} {m : MethodId} {below : List Frame} {meth : Method} {c : Code} {Q : State → Prop} {b L : Nat} {xs : Nat → Int32} (hlf : l.stackTraces = false) (C0 : lw_At p s m meth c b L xs) {D : va_G} {cI cL : ClassId} (hK : kcK D [(cI, .int), (cL, .long)] s) (hX0 : kcX (fun q => s.heap.size ≤ q) s s.heap) (hL : L ≤ 2048) (i : Nat) (hi : i + 3 < L) (ad : Nat → Nat) (cd : Nat → Int32) (te : Nat → Int32) (ri : Nat → Int32) (pi : Nat → Int32) (pw : Nat → Int32) (K : Nat) (Dn : Nat) (mv : Int32) (ko : Nat → Int32) (so : Nat → Int32) (tl : Nat → Int32) (lp : Nat → Int32) (lb : Nat → Int32) (ld : Nat → Int32) (le : Nat → Int32) (C : Nat) (cl : Nat → Int32) (dq : Nat → Int32) (dy : Int32) (ou : Nat → Int64) (md : Nat → Nat) (th : Int32) (mK : Nat) (mc : Nat → Int32) (mD : Nat) (mr : Nat → Int32) (mw : Int32) (my : Int32) (mC : Nat) (mk : Nat → Int32) (ms : Nat → Int32) (mu : Nat → Int32) (mt : Nat → Int32) (mp : Nat → Int32) (mb : Nat → Int32) (me : Nat → Int32) (cx : Nat) (hC24 : C ≤ 24) (hc : cx < C) (hn : so cx = 2 ∨ so cx = 3) (m_hC24 : mC ≤ 24) (m_hc : cx < mC) (m_hn : ms cx = 2 ∨ ms cx = 3) (hp1 : xs (i + 1) = nI cx)  {H : Heap} {locs : List Loc} {cells slots : Nat} (hce : cells + 2 ≤ 601024) (hsl : slots + 16 ≤ 7293034) (hP : va_P D vwCl (wLaw ad cI cd te ri pi pw K Dn mv ko so tl lp lb ld le C cl dq dy cL ou md th mK mc mD mr mw my mC mk ms mu mt mp mb me) H) (hD : va_D (fun q => s.heap.size ≤ q) (wLaw ad cI cd te ri pi pw K Dn mv ko so tl lp lb ld le C cl dq dy cL ou md th mK mc mD mr mw my mC mk ms mu mt mp mb me)) (hS : va_S (fun q => s.heap.size ≤ q) s.heap H locs) {ls : Array Slot} (hl : lv_has ls 9 [(0, .ref b), (1, .ref (ad 14)), (2, .ref (md 0)), (3, .ref (ad 17)), (4, .int (nI i))]) (K1 : ∀ (H : Heap) (locs : List Loc) (ls : Array Slot), va_P D vwCl (wLaw ad cI cd te ri pi pw K Dn mv ko so tl lp lb ld le C cl dq dy cL ou md 2 mK mc mD mr mw my mC mk ms mu mt mp mb me) H → va_D (fun q => s.heap.size ≤ q) (wLaw ad cI cd te ri pi pw K Dn mv ko so tl lp lb ld le C cl dq dy cL ou md 2 mK mc mD mr mw my mC mk ms mu mt mp mb me) → va_S (fun q => s.heap.size ≤ q) s.heap H locs → lv_has ls 9 [(0, .ref b), (1, .ref (ad 14)), (2, .ref (md 0)), (3, .ref (ad 17)), (4, .int (nI i))] → W p l e room_1 s m #[Value.ref b] below meth c H locs (cells + 2) (slots + 16) Q (F0 m 1633 ls [])) : W p l e room_1 s m #[Value.ref b] below meth c H locs cells slots Q (F0 m 1098 ls []) := by
  obtain ⟨hx, hb, hr, hml, hown, hts, hXs, hbl, hlocks, hgv⟩ := id C0
  have hts := fun w h => hts w (wsL_law_in w h)
  have hb : c.code = cL_law := hb
  have hA : ∀ q : Nat, s.heap.size ≤ q → (fun q : Nat => s.heap.size ≤ q) q := fun _ h => h
  have hbA : ¬ (fun q : Nat => s.heap.size ≤ q) b := Nat.not_le.mpr hbl
  refine lv_aload_n hx hb dL_law_1098 rfl (lv_at hl 1 rfl) ?_
  refine lv_aload_n hx hb dL_law_1099 rfl (lv_at hl 0 rfl) ?_
  refine lv_iload hx hb dL_law_1100 (lv_at hl 4 rfl) ?_
  refine lv_iconst (v := 1) hx hb dL_law_1102 (by decide) ?_
  refine lv_iadd hx hb dL_law_1103 ?_
  refine kc_top (show (nI i) + 1 = nI (i + 1) from nI_add _ _) ?_
  refine kc_sld (i := i + 1) hx hb hXs hbl hbA hS (by omega) (by omega) dL_law_1104 ?_
  refine kc_top hp1 ?_
  refine lv_aload_n hx hb dL_law_1105 rfl (lv_at hl 3 rfl) ?_
  have hX := kc_xat hX0 hS
  refine kc_hXi (w1 := wLh ad cI cd te ri pi pw K Dn mv ko so tl lp lb ld le C cl dq dy cL ou) (wr := [(md 0, .inr (3, [.int th, .int (nI mK), .ref (md 1), .int (nI mD), .ref (md 2), .int mw, .int my, .int (nI mC), .ref (md 3), .ref (md 4), .ref (md 5), .ref (md 6), .ref (md 7), .ref (md 8), .ref (md 9)])), (md 1, .inl (cI, 8, .inl mc)), (md 2, .inl (cI, 8, .inl mr)), (md 3, .inl (cI, 24, .inl mk)), (md 4, .inl (cI, 24, .inl ms)), (md 5, .inl (cI, 24, .inl mu)), (md 6, .inl (cI, 24, .inl mt)), (md 7, .inl (cI, 216, .inl mp)), (md 8, .inl (cI, 216, .inl mb)), (md 9, .inl (cI, 216, .inl me))]) (ws1 := wLaw ad cI cd te ri pi pw K Dn mv ko so tl lp lb ld le C cl dq dy cL ou md th mK mc mD mr mw my mC mk ms mu mt mp mb me) (As := [.ref (ad 14), .int (nI cx), .ref (ad 17)]) (rest := []) ⟨hx, hb, hml, hown, hts⟩ (c_L_lose_f2 l hlf D ad cI cd te ri pi pw K Dn mv ko so tl lp lb ld le C cl dq dy cL ou cx H.size hC24 hc hn) (vx_cwSW 3 hts gL_law_L_lose rfl rfl rfl (by decide +kernel) ⟨Nat.le_of_ble_eq_true rfl, Nat.le_of_ble_eq_true rfl⟩) hK hP hD hX hS hA [0, 1, 2, 3, 4, 5, 6, 7, 8, 9, 10, 11, 12, 13, 14, 15, 16, 17] [18, 19, 20, 21, 22, 23, 24, 25, 26, 27] [10, 11, 12, 13, 14, 15, 16, 17, 18, 19, 20, 21, 22, 23, 24, 25, 26, 27, 0, 1, 2, 3, 4, 5, 6, 7, 8, 9] [0, 1] rfl rfl rfl rfl (by decide) rfl rfl rfl rfl hl.1 rfl (Nat.le_of_ble_eq_true rfl) dL_law_1106 ⟨kc_rc (by omega), kc_rs (by omega)⟩ (fun H locs hP hD hS => ?_)
  refine lv_istore (lv' := [(5, .int 2), (0, .ref b), (1, .ref (ad 14)), (2, .ref (md 0)), (3, .ref (ad 17)), (4, .int (nI i))]) hx hb dL_law_1109 hl (by decide) rfl (fun ls hl => ?_)
  refine lv_aload_n hx hb dL_law_1111 rfl (lv_at hl 3 rfl) ?_
  refine lv_aload_n hx hb dL_law_1112 rfl (lv_at hl 1 rfl) ?_
  refine lv_iload hx hb dL_law_1113 (lv_at hl 5 rfl) ?_
  refine lv_iconst (v := 1) hx hb dL_law_1115 (by decide) ?_
  refine lv_iadd hx hb dL_law_1116 ?_
  refine kc_top (show (nI i) + 1 = nI (i + 1) from nI_add _ _) ?_
  refine kc_sld (i := i + 1) hx hb hXs hbl hbA hS (by omega) (by omega) dL_law_1117 ?_
  refine kc_top hp1 ?_
  refine kc_wVi (w1 := wMd md cI 2 mK mc mD mr mw my mC mk ms mu mt mp mb me) (wr := [(ad 0, .inr (1, [.ref (ad 1), .ref (ad 2), .ref (ad 3), .ref (ad 4), .ref (ad 5), .int (nI K), .int (nI Dn), .int mv])), (ad 1, .inl (cI, 8, .inl cd)), (ad 2, .inl (cI, 8, .inl te)), (ad 3, .inl (cI, 8, .inl ri)), (ad 4, .inl (cI, 8, .inl pi)), (ad 5, .inl (cI, 8, .inl pw)), (ad 6, .inr (0, [.ref (ad 7), .ref (ad 8), .ref (ad 9), .ref (ad 10), .ref (ad 11), .ref (ad 12), .ref (ad 13), .int (nI C)])), (ad 7, .inl (cI, 24, .inl ko)), (ad 8, .inl (cI, 24, .inl so)), (ad 9, .inl (cI, 24, .inl tl)), (ad 10, .inl (cI, 216, .inl lp)), (ad 11, .inl (cI, 216, .inl lb)), (ad 12, .inl (cI, 216, .inl ld)), (ad 13, .inl (cI, 216, .inl le)), (ad 14, .inr (2, [.ref (ad 0), .ref (ad 6), .ref (ad 15), .ref (ad 16), .int dy])), (ad 15, .inl (cI, 8, .inl cl)), (ad 16, .inl (cI, 8, .inl dq)), (ad 17, .inl (cL, 1, .inr (.inl ou)))]) (ws1 := wLaw ad cI cd te ri pi pw K Dn mv ko so tl lp lb ld le C cl dq dy cL ou md 2 mK mc mD mr mw my mC mk ms mu mt mp mb me) (As := [.int (nI cx)]) (rest := []) ⟨hx, hb, hml, hown, hts⟩ (c_X3_lose_f2 l D md cI th mK mc mD mr mw my mC mk ms mu mt mp mb me cx H.size m_hC24 m_hc m_hn) (cwV 1 hts gL_law_X3_lose rfl rfl rfl (by decide +kernel) ⟨Nat.le_of_ble_eq_true rfl, Nat.le_of_ble_eq_true rfl⟩) hK hP hD hS hA [18, 19, 20, 21, 22, 23, 24, 25, 26, 27] [0, 1, 2, 3, 4, 5, 6, 7, 8, 9, 10, 11, 12, 13, 14, 15, 16, 17] [0, 1, 2, 3, 4, 5, 6, 7, 8, 9, 10, 11, 12, 13, 14, 15, 16, 17, 18, 19, 20, 21, 22, 23, 24, 25, 26, 27] [0] rfl rfl rfl rfl (by decide) rfl rfl rfl 18 rfl rfl rfl rfl hl.1 rfl (Nat.le_of_ble_eq_true rfl) dL_law_1118 ⟨kc_rc (by omega), kc_rs (by omega)⟩ (fun H locs hP hD hS => ?_)
  refine lv_istore (lv' := [(6, .int 0), (5, .int 2), (0, .ref b), (1, .ref (ad 14)), (2, .ref (md 0)), (3, .ref (ad 17)), (4, .int (nI i))]) hx hb dL_law_1121 hl (by decide) rfl (fun ls hl => ?_)
  refine lv_aload_n hx hb dL_law_1123 rfl (lv_at hl 4 rfl) ?_
  refine kc_rVi (As := []) (rest := []) ⟨hx, hb, hml, hown, hts⟩ (c_X3_thrown l D md cI 2 mK mc mD mr mw my mC mk ms mu mt mp mb me ) (cwV 0 hts gL_law_X3_thrown rfl rfl rfl (by decide +kernel) ⟨Nat.le_of_ble_eq_true rfl, Nat.le_of_ble_eq_true rfl⟩) hK hP [18, 19, 20, 21, 22, 23, 24, 25, 26, 27] [0] rfl rfl 18 rfl rfl rfl rfl hl.1 rfl (Nat.le_of_ble_eq_true rfl) dL_law_1124 ⟨kc_rc (by omega), kc_rs (by omega)⟩ ?_
  refine lv_iload hx hb dL_law_1127 (lv_at hl 1 rfl) ?_
  refine lv_icmp_eq (tgt := 1134) hx hb dL_law_1129 (by decide) (fun c_1129 => ?_) (fun c_1129 => absurd c_1129 (by decide))
  refine lv_iload hx hb dL_law_1134 (lv_at hl 1 rfl) ?_
  refine lv_if_ne (tgt := 1151) hx hb dL_law_1136 (by decide) (fun c_1136 => ?_) (fun c_1136 => absurd c_1136 (by decide))
  refine lv_goto (tgt := 1633) hx hb dL_law_1151 (by decide) ?_
  refine W.widen (k := cells + 2) (n := slots + 16) (by omega) (by omega) ?_
  exact K1 _ _ _ hP hD hS (lv_sub hl [2, 3, 4, 5, 6] rfl)
set_option maxHeartbeats 4000000 in
set_option maxRecDepth 100000 in
theorem lw_find_ok_ok {p : Program} {l : Launch} {e : Env} {s : State} {m : MethodId} {below : List Frame} {meth : Method} {c : Code} {Q : State → Prop} {b L : Nat} {xs : Nat → Int32} (hlf : l.stackTraces = false) (C0 : lw_At p s m meth c b L xs) {D : va_G} {cI cL : ClassId} (hK : kcK D [(cI, .int), (cL, .long)] s) (hX0 : kcX (fun q => s.heap.size ≤ q) s s.heap) (hL : L ≤ 2048) (i : Nat) (hi : i + 3 < L) (ad : Nat → Nat) (cd : Nat → Int32) (te : Nat → Int32) (ri : Nat → Int32) (pi : Nat → Int32) (pw : Nat → Int32) (K : Nat) (Dn : Nat) (mv : Int32) (ko : Nat → Int32) (so : Nat → Int32) (tl : Nat → Int32) (lp : Nat → Int32) (lb : Nat → Int32) (ld : Nat → Int32) (le : Nat → Int32) (C : Nat) (cl : Nat → Int32) (dq : Nat → Int32) (dy : Int32) (ou : Nat → Int64) (md : Nat → Nat) (th : Int32) (mK : Nat) (mc : Nat → Int32) (mD : Nat) (mr : Nat → Int32) (mw : Int32) (my : Int32) (mC : Nat) (mk : Nat → Int32) (ms : Nat → Int32) (mu : Nat → Int32) (mt : Nat → Int32) (mp : Nat → Int32) (mb : Nat → Int32) (me : Nat → Int32) (cx : Nat) (tn : Nat → Nat) (kn : Nat → Nat) (hK8 : K ≤ 8) (hD8 : Dn ≤ 8) (hC24 : C ≤ 24) (hc : cx < C) (hok : okLe so tl tn) (h2 : so cx = 2) (m_hK8 : mK ≤ 8) (m_hD8 : mD ≤ 8) (m_hC24 : mC ≤ 24) (m_hc : cx < mC) (m_hkn : okKe mC mk kn) (m_h2 : ms cx = 2) (hp1 : xs (i + 1) = nI cx) (hres : (jRisk pi te Dn K ko (upd so cx 0) C : Int32) = (mRisk mr mc (upd ms cx 0) mK mD kn mC)) {H : Heap} {locs : List Loc} {cells slots : Nat} (hce : cells + 2 ≤ 601024) (hsl : slots + 16 ≤ 7293034) (hP : va_P D vwCl (wLaw ad cI cd te ri pi pw K Dn mv ko so tl lp lb ld le C cl dq dy cL ou md th mK mc mD mr mw my mC mk ms mu mt mp mb me) H) (hD : va_D (fun q => s.heap.size ≤ q) (wLaw ad cI cd te ri pi pw K Dn mv ko so tl lp lb ld le C cl dq dy cL ou md th mK mc mD mr mw my mC mk ms mu mt mp mb me)) (hS : va_S (fun q => s.heap.size ≤ q) s.heap H locs) {ls : Array Slot} (hl : lv_has ls 9 [(0, .ref b), (1, .ref (ad 14)), (2, .ref (md 0)), (3, .ref (ad 17)), (4, .int (nI i))]) (K1 : ∀ (H : Heap) (locs : List Loc) (ls : Array Slot), va_P D vwCl (wLaw ad cI cd te ri pi pw K Dn mv ko (upd so cx 0) tl lp lb ld le C cl dq dy cL (vp_updL ou 0 (Int32.toInt64 (jRisk pi te Dn K ko (upd so cx 0) C))) md 0 mK mc mD mr mw my mC mk (upd ms cx 0) mu mt mp mb me) H → va_D (fun q => s.heap.size ≤ q) (wLaw ad cI cd te ri pi pw K Dn mv ko (upd so cx 0) tl lp lb ld le C cl dq dy cL (vp_updL ou 0 (Int32.toInt64 (jRisk pi te Dn K ko (upd so cx 0) C))) md 0 mK mc mD mr mw my mC mk (upd ms cx 0) mu mt mp mb me) → va_S (fun q => s.heap.size ≤ q) s.heap H locs → lv_has ls 9 [(0, .ref b), (1, .ref (ad 14)), (2, .ref (md 0)), (3, .ref (ad 17)), (4, .int (nI i))] → W p l e room_1 s m #[Value.ref b] below meth c H locs (cells + 2) (slots + 16) Q (F0 m 1633 ls [])) : W p l e room_1 s m #[Value.ref b] below meth c H locs cells slots Q (F0 m 1154 ls []) := by
  obtain ⟨hx, hb, hr, hml, hown, hts, hXs, hbl, hlocks, hgv⟩ := id C0
  have hts := fun w h => hts w (wsL_law_in w h)
  have hb : c.code = cL_law := hb
  have hA : ∀ q : Nat, s.heap.size ≤ q → (fun q : Nat => s.heap.size ≤ q) q := fun _ h => h
  have hbA : ¬ (fun q : Nat => s.heap.size ≤ q) b := Nat.not_le.mpr hbl
  refine lv_aload_n hx hb dL_law_1154 rfl (lv_at hl 1 rfl) ?_
  refine lv_aload_n hx hb dL_law_1155 rfl (lv_at hl 0 rfl) ?_
  refine lv_iload hx hb dL_law_1156 (lv_at hl 4 rfl) ?_
  refine lv_iconst (v := 1) hx hb dL_law_1158 (by decide) ?_
  refine lv_iadd hx hb dL_law_1159 ?_
  refine kc_top (show (nI i) + 1 = nI (i + 1) from nI_add _ _) ?_
  refine kc_sld (i := i + 1) hx hb hXs hbl hbA hS (by omega) (by omega) dL_law_1160 ?_
  refine kc_top hp1 ?_
  refine lv_aload_n hx hb dL_law_1161 rfl (lv_at hl 3 rfl) ?_
  refine kc_hSi (w1 := wLh ad cI cd te ri pi pw K Dn mv ko (upd so cx 0) tl lp lb ld le C cl dq dy cL (vp_updL ou 0 (Int32.toInt64 (jRisk pi te Dn K ko (upd so cx 0) C)))) (wr := [(md 0, .inr (3, [.int th, .int (nI mK), .ref (md 1), .int (nI mD), .ref (md 2), .int mw, .int my, .int (nI mC), .ref (md 3), .ref (md 4), .ref (md 5), .ref (md 6), .ref (md 7), .ref (md 8), .ref (md 9)])), (md 1, .inl (cI, 8, .inl mc)), (md 2, .inl (cI, 8, .inl mr)), (md 3, .inl (cI, 24, .inl mk)), (md 4, .inl (cI, 24, .inl ms)), (md 5, .inl (cI, 24, .inl mu)), (md 6, .inl (cI, 24, .inl mt)), (md 7, .inl (cI, 216, .inl mp)), (md 8, .inl (cI, 216, .inl mb)), (md 9, .inl (cI, 216, .inl me))]) (ws1 := wLaw ad cI cd te ri pi pw K Dn mv ko (upd so cx 0) tl lp lb ld le C cl dq dy cL (vp_updL ou 0 (Int32.toInt64 (jRisk pi te Dn K ko (upd so cx 0) C))) md th mK mc mD mr mw my mC mk ms mu mt mp mb me) (As := [.ref (ad 14), .int (nI cx), .ref (ad 17)]) (rest := []) ⟨hx, hb, hml, hown, hts⟩ (c_L_find_ok l D ad cI cd te ri pi pw K Dn mv ko so tl lp lb ld le C cl dq dy cL ou cx tn H.size hK8 hD8 hC24 hc hok h2) (vx_cwSW 3 hts gL_law_L_find rfl rfl rfl (by decide +kernel) ⟨Nat.le_of_ble_eq_true rfl, Nat.le_of_ble_eq_true rfl⟩) hK hP hD hS hA [0, 1, 2, 3, 4, 5, 6, 7, 8, 9, 10, 11, 12, 13, 14, 15, 16, 17] [18, 19, 20, 21, 22, 23, 24, 25, 26, 27] [10, 11, 12, 13, 14, 15, 16, 17, 18, 19, 20, 21, 22, 23, 24, 25, 26, 27, 0, 1, 2, 3, 4, 5, 6, 7, 8, 9] [0, 1] rfl rfl rfl rfl (by decide) rfl rfl rfl rfl hl.1 rfl (Nat.le_of_ble_eq_true rfl) dL_law_1162 ⟨kc_rc (by omega), kc_rs (by omega)⟩ (fun H locs hP hD hS => ?_)
  refine lv_istore (lv' := [(5, .int 0), (0, .ref b), (1, .ref (ad 14)), (2, .ref (md 0)), (3, .ref (ad 17)), (4, .int (nI i))]) hx hb dL_law_1165 hl (by decide) rfl (fun ls hl => ?_)
  refine lv_aload_n hx hb dL_law_1167 rfl (lv_at hl 3 rfl) ?_
  refine lv_aload_n hx hb dL_law_1168 rfl (lv_at hl 1 rfl) ?_
  refine lv_iload hx hb dL_law_1169 (lv_at hl 5 rfl) ?_
  refine lv_iconst (v := 1) hx hb dL_law_1171 (by decide) ?_
  refine lv_iadd hx hb dL_law_1172 ?_
  refine kc_top (show (nI i) + 1 = nI (i + 1) from nI_add _ _) ?_
  refine kc_sld (i := i + 1) hx hb hXs hbl hbA hS (by omega) (by omega) dL_law_1173 ?_
  refine kc_top hp1 ?_
  refine kc_wVi (w1 := wMd md cI 0 mK mc mD mr mw my mC mk (upd ms cx 0) mu mt mp mb me) (wr := [(ad 0, .inr (1, [.ref (ad 1), .ref (ad 2), .ref (ad 3), .ref (ad 4), .ref (ad 5), .int (nI K), .int (nI Dn), .int mv])), (ad 1, .inl (cI, 8, .inl cd)), (ad 2, .inl (cI, 8, .inl te)), (ad 3, .inl (cI, 8, .inl ri)), (ad 4, .inl (cI, 8, .inl pi)), (ad 5, .inl (cI, 8, .inl pw)), (ad 6, .inr (0, [.ref (ad 7), .ref (ad 8), .ref (ad 9), .ref (ad 10), .ref (ad 11), .ref (ad 12), .ref (ad 13), .int (nI C)])), (ad 7, .inl (cI, 24, .inl ko)), (ad 8, .inl (cI, 24, .inl (upd so cx 0))), (ad 9, .inl (cI, 24, .inl tl)), (ad 10, .inl (cI, 216, .inl lp)), (ad 11, .inl (cI, 216, .inl lb)), (ad 12, .inl (cI, 216, .inl ld)), (ad 13, .inl (cI, 216, .inl le)), (ad 14, .inr (2, [.ref (ad 0), .ref (ad 6), .ref (ad 15), .ref (ad 16), .int dy])), (ad 15, .inl (cI, 8, .inl cl)), (ad 16, .inl (cI, 8, .inl dq)), (ad 17, .inl (cL, 1, .inr (.inl (vp_updL ou 0 (Int32.toInt64 (jRisk pi te Dn K ko (upd so cx 0) C))))))]) (ws1 := wLaw ad cI cd te ri pi pw K Dn mv ko (upd so cx 0) tl lp lb ld le C cl dq dy cL (vp_updL ou 0 (Int32.toInt64 (jRisk pi te Dn K ko (upd so cx 0) C))) md 0 mK mc mD mr mw my mC mk (upd ms cx 0) mu mt mp mb me) (As := [.int (nI cx)]) (rest := []) ⟨hx, hb, hml, hown, hts⟩ (c_X3_find_ok l D md cI th mK mc mD mr mw my mC mk ms mu mt mp mb me cx kn H.size m_hK8 m_hD8 m_hC24 m_hc m_hkn m_h2) (cwV 1 hts gL_law_X3_find rfl rfl rfl (by decide +kernel) ⟨Nat.le_of_ble_eq_true rfl, Nat.le_of_ble_eq_true rfl⟩) hK hP hD hS hA [18, 19, 20, 21, 22, 23, 24, 25, 26, 27] [0, 1, 2, 3, 4, 5, 6, 7, 8, 9, 10, 11, 12, 13, 14, 15, 16, 17] [0, 1, 2, 3, 4, 5, 6, 7, 8, 9, 10, 11, 12, 13, 14, 15, 16, 17, 18, 19, 20, 21, 22, 23, 24, 25, 26, 27] [0] rfl rfl rfl rfl (by decide) rfl rfl rfl 18 rfl rfl rfl rfl hl.1 rfl (Nat.le_of_ble_eq_true rfl) dL_law_1174 ⟨kc_rc (by omega), kc_rs (by omega)⟩ (fun H locs hP hD hS => ?_)
  refine lv_istore (lv' := [(6, .int (mRisk mr mc (upd ms cx 0) mK mD kn mC)), (5, .int 0), (0, .ref b), (1, .ref (ad 14)), (2, .ref (md 0)), (3, .ref (ad 17)), (4, .int (nI i))]) hx hb dL_law_1177 hl (by decide) rfl (fun ls hl => ?_)
  refine lv_aload_n hx hb dL_law_1179 rfl (lv_at hl 4 rfl) ?_
  refine kc_rVi (As := []) (rest := []) ⟨hx, hb, hml, hown, hts⟩ (c_X3_thrown l D md cI 0 mK mc mD mr mw my mC mk (upd ms cx 0) mu mt mp mb me ) (cwV 0 hts gL_law_X3_thrown rfl rfl rfl (by decide +kernel) ⟨Nat.le_of_ble_eq_true rfl, Nat.le_of_ble_eq_true rfl⟩) hK hP [18, 19, 20, 21, 22, 23, 24, 25, 26, 27] [0] rfl rfl 18 rfl rfl rfl rfl hl.1 rfl (Nat.le_of_ble_eq_true rfl) dL_law_1180 ⟨kc_rc (by omega), kc_rs (by omega)⟩ ?_
  refine lv_iload hx hb dL_law_1183 (lv_at hl 1 rfl) ?_
  refine lv_icmp_eq (tgt := 1190) hx hb dL_law_1185 (by decide) (fun c_1185 => ?_) (fun c_1185 => absurd c_1185 (by decide))
  refine lv_iload hx hb dL_law_1190 (lv_at hl 1 rfl) ?_
  refine lv_if_ne (tgt := 1207) hx hb dL_law_1192 (by decide) (fun c_1192 => absurd c_1192 (by decide)) (fun c_1192 => ?_)
  refine lv_aload_n hx hb dL_law_1195 rfl (lv_at hl 5 rfl) ?_
  refine lv_iconst (v := 0) hx hb dL_law_1196 (by decide) ?_
  refine kc_lld (i := 0) (n := 1) hx hb hK hP 17 1 rfl rfl (by decide) (by decide) dL_law_1197 ?_
  refine kc_topl (show ((vp_updL ou 0 (Int32.toInt64 (jRisk pi te Dn K ko (upd so cx 0) C)))) 0 = Int32.toInt64 (jRisk pi te Dn K ko (upd so cx 0) C) from pk_uLs) ?_
  refine lv_iload hx hb dL_law_1198 (lv_at hl 0 rfl) ?_
  refine lv_i2l (v := Int32.toInt64 (mRisk mr mc (upd ms cx 0) mK mD kn mC)) hx hb dL_law_1200 rfl ?_
  refine W.lcmp hx hb dL_law_1201 ?_
  refine kc_top (show lg_cmp (Int32.toInt64 (jRisk pi te Dn K ko (upd so cx 0) C)) (Int32.toInt64 (mRisk mr mc (upd ms cx 0) mK mD kn mC)) = 0 from kc_lcmp0 (congrArg Int32.toInt64 hres)) ?_
  refine lv_if_eq (tgt := 1207) hx hb dL_law_1202 (by decide) (fun c_1202 => ?_) (fun c_1202 => absurd c_1202 (by decide))
  refine lv_goto (tgt := 1633) hx hb dL_law_1207 (by decide) ?_
  refine W.widen (k := cells + 2) (n := slots + 16) (by omega) (by omega) ?_
  exact K1 _ _ _ hP hD hS (lv_sub hl [2, 3, 4, 5, 6] rfl)
set_option maxHeartbeats 4000000 in
set_option maxRecDepth 100000 in
theorem lw_find_f1_f1 {p : Program} {l : Launch} {e : Env} {s : State} {m : MethodId} {below : List Frame} {meth : Method} {c : Code} {Q : State → Prop} {b L : Nat} {xs : Nat → Int32} (hlf : l.stackTraces = false) (C0 : lw_At p s m meth c b L xs) {D : va_G} {cI cL : ClassId} (hK : kcK D [(cI, .int), (cL, .long)] s) (hX0 : kcX (fun q => s.heap.size ≤ q) s s.heap) (hL : L ≤ 2048) (i : Nat) (hi : i + 3 < L) (ad : Nat → Nat) (cd : Nat → Int32) (te : Nat → Int32) (ri : Nat → Int32) (pi : Nat → Int32) (pw : Nat → Int32) (K : Nat) (Dn : Nat) (mv : Int32) (ko : Nat → Int32) (so : Nat → Int32) (tl : Nat → Int32) (lp : Nat → Int32) (lb : Nat → Int32) (ld : Nat → Int32) (le : Nat → Int32) (C : Nat) (cl : Nat → Int32) (dq : Nat → Int32) (dy : Int32) (ou : Nat → Int64) (md : Nat → Nat) (th : Int32) (mK : Nat) (mc : Nat → Int32) (mD : Nat) (mr : Nat → Int32) (mw : Int32) (my : Int32) (mC : Nat) (mk : Nat → Int32) (ms : Nat → Int32) (mu : Nat → Int32) (mt : Nat → Int32) (mp : Nat → Int32) (mb : Nat → Int32) (me : Nat → Int32) (x : Int32) (hBad : ¬ jIn C x = true) (m_hBad : ¬ jIn mC x = true) (hp1 : xs (i + 1) = x)  {H : Heap} {locs : List Loc} {cells slots : Nat} (hce : cells + 2 ≤ 601024) (hsl : slots + 16 ≤ 7293034) (hP : va_P D vwCl (wLaw ad cI cd te ri pi pw K Dn mv ko so tl lp lb ld le C cl dq dy cL ou md th mK mc mD mr mw my mC mk ms mu mt mp mb me) H) (hD : va_D (fun q => s.heap.size ≤ q) (wLaw ad cI cd te ri pi pw K Dn mv ko so tl lp lb ld le C cl dq dy cL ou md th mK mc mD mr mw my mC mk ms mu mt mp mb me)) (hS : va_S (fun q => s.heap.size ≤ q) s.heap H locs) {ls : Array Slot} (hl : lv_has ls 9 [(0, .ref b), (1, .ref (ad 14)), (2, .ref (md 0)), (3, .ref (ad 17)), (4, .int (nI i))]) (K1 : ∀ (H : Heap) (locs : List Loc) (ls : Array Slot), va_P D vwCl (wLaw ad cI cd te ri pi pw K Dn mv ko so tl lp lb ld le C cl dq dy cL ou md 1 mK mc mD mr mw my mC mk ms mu mt mp mb me) H → va_D (fun q => s.heap.size ≤ q) (wLaw ad cI cd te ri pi pw K Dn mv ko so tl lp lb ld le C cl dq dy cL ou md 1 mK mc mD mr mw my mC mk ms mu mt mp mb me) → va_S (fun q => s.heap.size ≤ q) s.heap H locs → lv_has ls 9 [(0, .ref b), (1, .ref (ad 14)), (2, .ref (md 0)), (3, .ref (ad 17)), (4, .int (nI i))] → W p l e room_1 s m #[Value.ref b] below meth c H locs (cells + 2) (slots + 16) Q (F0 m 1633 ls [])) : W p l e room_1 s m #[Value.ref b] below meth c H locs cells slots Q (F0 m 1154 ls []) := by
  obtain ⟨hx, hb, hr, hml, hown, hts, hXs, hbl, hlocks, hgv⟩ := id C0
  have hts := fun w h => hts w (wsL_law_in w h)
  have hb : c.code = cL_law := hb
  have hA : ∀ q : Nat, s.heap.size ≤ q → (fun q : Nat => s.heap.size ≤ q) q := fun _ h => h
  have hbA : ¬ (fun q : Nat => s.heap.size ≤ q) b := Nat.not_le.mpr hbl
  refine lv_aload_n hx hb dL_law_1154 rfl (lv_at hl 1 rfl) ?_
  refine lv_aload_n hx hb dL_law_1155 rfl (lv_at hl 0 rfl) ?_
  refine lv_iload hx hb dL_law_1156 (lv_at hl 4 rfl) ?_
  refine lv_iconst (v := 1) hx hb dL_law_1158 (by decide) ?_
  refine lv_iadd hx hb dL_law_1159 ?_
  refine kc_top (show (nI i) + 1 = nI (i + 1) from nI_add _ _) ?_
  refine kc_sld (i := i + 1) hx hb hXs hbl hbA hS (by omega) (by omega) dL_law_1160 ?_
  refine kc_top hp1 ?_
  refine lv_aload_n hx hb dL_law_1161 rfl (lv_at hl 3 rfl) ?_
  have hX := kc_xat hX0 hS
  refine kc_hXi (w1 := wLh ad cI cd te ri pi pw K Dn mv ko so tl lp lb ld le C cl dq dy cL ou) (wr := [(md 0, .inr (3, [.int th, .int (nI mK), .ref (md 1), .int (nI mD), .ref (md 2), .int mw, .int my, .int (nI mC), .ref (md 3), .ref (md 4), .ref (md 5), .ref (md 6), .ref (md 7), .ref (md 8), .ref (md 9)])), (md 1, .inl (cI, 8, .inl mc)), (md 2, .inl (cI, 8, .inl mr)), (md 3, .inl (cI, 24, .inl mk)), (md 4, .inl (cI, 24, .inl ms)), (md 5, .inl (cI, 24, .inl mu)), (md 6, .inl (cI, 24, .inl mt)), (md 7, .inl (cI, 216, .inl mp)), (md 8, .inl (cI, 216, .inl mb)), (md 9, .inl (cI, 216, .inl me))]) (ws1 := wLaw ad cI cd te ri pi pw K Dn mv ko so tl lp lb ld le C cl dq dy cL ou md th mK mc mD mr mw my mC mk ms mu mt mp mb me) (As := [.ref (ad 14), .int x, .ref (ad 17)]) (rest := []) ⟨hx, hb, hml, hown, hts⟩ (c_L_find_f1 l hlf D ad cI cd te ri pi pw K Dn mv ko so tl lp lb ld le C cl dq dy cL ou x H.size hBad) (vx_cwSW 3 hts gL_law_L_find rfl rfl rfl (by decide +kernel) ⟨Nat.le_of_ble_eq_true rfl, Nat.le_of_ble_eq_true rfl⟩) hK hP hD hX hS hA [0, 1, 2, 3, 4, 5, 6, 7, 8, 9, 10, 11, 12, 13, 14, 15, 16, 17] [18, 19, 20, 21, 22, 23, 24, 25, 26, 27] [10, 11, 12, 13, 14, 15, 16, 17, 18, 19, 20, 21, 22, 23, 24, 25, 26, 27, 0, 1, 2, 3, 4, 5, 6, 7, 8, 9] [0, 1] rfl rfl rfl rfl (by decide) rfl rfl rfl rfl hl.1 rfl (Nat.le_of_ble_eq_true rfl) dL_law_1162 ⟨kc_rc (by omega), kc_rs (by omega)⟩ (fun H locs hP hD hS => ?_)
  refine lv_istore (lv' := [(5, .int 1), (0, .ref b), (1, .ref (ad 14)), (2, .ref (md 0)), (3, .ref (ad 17)), (4, .int (nI i))]) hx hb dL_law_1165 hl (by decide) rfl (fun ls hl => ?_)
  refine lv_aload_n hx hb dL_law_1167 rfl (lv_at hl 3 rfl) ?_
  refine lv_aload_n hx hb dL_law_1168 rfl (lv_at hl 1 rfl) ?_
  refine lv_iload hx hb dL_law_1169 (lv_at hl 5 rfl) ?_
  refine lv_iconst (v := 1) hx hb dL_law_1171 (by decide) ?_
  refine lv_iadd hx hb dL_law_1172 ?_
  refine kc_top (show (nI i) + 1 = nI (i + 1) from nI_add _ _) ?_
  refine kc_sld (i := i + 1) hx hb hXs hbl hbA hS (by omega) (by omega) dL_law_1173 ?_
  refine kc_top hp1 ?_
  refine kc_wVi (w1 := wMd md cI 1 mK mc mD mr mw my mC mk ms mu mt mp mb me) (wr := [(ad 0, .inr (1, [.ref (ad 1), .ref (ad 2), .ref (ad 3), .ref (ad 4), .ref (ad 5), .int (nI K), .int (nI Dn), .int mv])), (ad 1, .inl (cI, 8, .inl cd)), (ad 2, .inl (cI, 8, .inl te)), (ad 3, .inl (cI, 8, .inl ri)), (ad 4, .inl (cI, 8, .inl pi)), (ad 5, .inl (cI, 8, .inl pw)), (ad 6, .inr (0, [.ref (ad 7), .ref (ad 8), .ref (ad 9), .ref (ad 10), .ref (ad 11), .ref (ad 12), .ref (ad 13), .int (nI C)])), (ad 7, .inl (cI, 24, .inl ko)), (ad 8, .inl (cI, 24, .inl so)), (ad 9, .inl (cI, 24, .inl tl)), (ad 10, .inl (cI, 216, .inl lp)), (ad 11, .inl (cI, 216, .inl lb)), (ad 12, .inl (cI, 216, .inl ld)), (ad 13, .inl (cI, 216, .inl le)), (ad 14, .inr (2, [.ref (ad 0), .ref (ad 6), .ref (ad 15), .ref (ad 16), .int dy])), (ad 15, .inl (cI, 8, .inl cl)), (ad 16, .inl (cI, 8, .inl dq)), (ad 17, .inl (cL, 1, .inr (.inl ou)))]) (ws1 := wLaw ad cI cd te ri pi pw K Dn mv ko so tl lp lb ld le C cl dq dy cL ou md 1 mK mc mD mr mw my mC mk ms mu mt mp mb me) (As := [.int x]) (rest := []) ⟨hx, hb, hml, hown, hts⟩ (c_X3_find_f1 l D md cI th mK mc mD mr mw my mC mk ms mu mt mp mb me x H.size m_hBad) (cwV 1 hts gL_law_X3_find rfl rfl rfl (by decide +kernel) ⟨Nat.le_of_ble_eq_true rfl, Nat.le_of_ble_eq_true rfl⟩) hK hP hD hS hA [18, 19, 20, 21, 22, 23, 24, 25, 26, 27] [0, 1, 2, 3, 4, 5, 6, 7, 8, 9, 10, 11, 12, 13, 14, 15, 16, 17] [0, 1, 2, 3, 4, 5, 6, 7, 8, 9, 10, 11, 12, 13, 14, 15, 16, 17, 18, 19, 20, 21, 22, 23, 24, 25, 26, 27] [0] rfl rfl rfl rfl (by decide) rfl rfl rfl 18 rfl rfl rfl rfl hl.1 rfl (Nat.le_of_ble_eq_true rfl) dL_law_1174 ⟨kc_rc (by omega), kc_rs (by omega)⟩ (fun H locs hP hD hS => ?_)
  refine lv_istore (lv' := [(6, .int 0), (5, .int 1), (0, .ref b), (1, .ref (ad 14)), (2, .ref (md 0)), (3, .ref (ad 17)), (4, .int (nI i))]) hx hb dL_law_1177 hl (by decide) rfl (fun ls hl => ?_)
  refine lv_aload_n hx hb dL_law_1179 rfl (lv_at hl 4 rfl) ?_
  refine kc_rVi (As := []) (rest := []) ⟨hx, hb, hml, hown, hts⟩ (c_X3_thrown l D md cI 1 mK mc mD mr mw my mC mk ms mu mt mp mb me ) (cwV 0 hts gL_law_X3_thrown rfl rfl rfl (by decide +kernel) ⟨Nat.le_of_ble_eq_true rfl, Nat.le_of_ble_eq_true rfl⟩) hK hP [18, 19, 20, 21, 22, 23, 24, 25, 26, 27] [0] rfl rfl 18 rfl rfl rfl rfl hl.1 rfl (Nat.le_of_ble_eq_true rfl) dL_law_1180 ⟨kc_rc (by omega), kc_rs (by omega)⟩ ?_
  refine lv_iload hx hb dL_law_1183 (lv_at hl 1 rfl) ?_
  refine lv_icmp_eq (tgt := 1190) hx hb dL_law_1185 (by decide) (fun c_1185 => ?_) (fun c_1185 => absurd c_1185 (by decide))
  refine lv_iload hx hb dL_law_1190 (lv_at hl 1 rfl) ?_
  refine lv_if_ne (tgt := 1207) hx hb dL_law_1192 (by decide) (fun c_1192 => ?_) (fun c_1192 => absurd c_1192 (by decide))
  refine lv_goto (tgt := 1633) hx hb dL_law_1207 (by decide) ?_
  refine W.widen (k := cells + 2) (n := slots + 16) (by omega) (by omega) ?_
  exact K1 _ _ _ hP hD hS (lv_sub hl [2, 3, 4, 5, 6] rfl)
set_option maxHeartbeats 4000000 in
set_option maxRecDepth 100000 in
theorem lw_find_f2_f2 {p : Program} {l : Launch} {e : Env} {s : State} {m : MethodId} {below : List Frame} {meth : Method} {c : Code} {Q : State → Prop} {b L : Nat} {xs : Nat → Int32} (hlf : l.stackTraces = false) (C0 : lw_At p s m meth c b L xs) {D : va_G} {cI cL : ClassId} (hK : kcK D [(cI, .int), (cL, .long)] s) (hX0 : kcX (fun q => s.heap.size ≤ q) s s.heap) (hL : L ≤ 2048) (i : Nat) (hi : i + 3 < L) (ad : Nat → Nat) (cd : Nat → Int32) (te : Nat → Int32) (ri : Nat → Int32) (pi : Nat → Int32) (pw : Nat → Int32) (K : Nat) (Dn : Nat) (mv : Int32) (ko : Nat → Int32) (so : Nat → Int32) (tl : Nat → Int32) (lp : Nat → Int32) (lb : Nat → Int32) (ld : Nat → Int32) (le : Nat → Int32) (C : Nat) (cl : Nat → Int32) (dq : Nat → Int32) (dy : Int32) (ou : Nat → Int64) (md : Nat → Nat) (th : Int32) (mK : Nat) (mc : Nat → Int32) (mD : Nat) (mr : Nat → Int32) (mw : Int32) (my : Int32) (mC : Nat) (mk : Nat → Int32) (ms : Nat → Int32) (mu : Nat → Int32) (mt : Nat → Int32) (mp : Nat → Int32) (mb : Nat → Int32) (me : Nat → Int32) (cx : Nat) (hC24 : C ≤ 24) (hc : cx < C) (hn : ¬ so cx = 2) (m_hC24 : mC ≤ 24) (m_hc : cx < mC) (m_hn : ¬ ms cx = 2) (hp1 : xs (i + 1) = nI cx)  {H : Heap} {locs : List Loc} {cells slots : Nat} (hce : cells + 2 ≤ 601024) (hsl : slots + 16 ≤ 7293034) (hP : va_P D vwCl (wLaw ad cI cd te ri pi pw K Dn mv ko so tl lp lb ld le C cl dq dy cL ou md th mK mc mD mr mw my mC mk ms mu mt mp mb me) H) (hD : va_D (fun q => s.heap.size ≤ q) (wLaw ad cI cd te ri pi pw K Dn mv ko so tl lp lb ld le C cl dq dy cL ou md th mK mc mD mr mw my mC mk ms mu mt mp mb me)) (hS : va_S (fun q => s.heap.size ≤ q) s.heap H locs) {ls : Array Slot} (hl : lv_has ls 9 [(0, .ref b), (1, .ref (ad 14)), (2, .ref (md 0)), (3, .ref (ad 17)), (4, .int (nI i))]) (K1 : ∀ (H : Heap) (locs : List Loc) (ls : Array Slot), va_P D vwCl (wLaw ad cI cd te ri pi pw K Dn mv ko so tl lp lb ld le C cl dq dy cL ou md 2 mK mc mD mr mw my mC mk ms mu mt mp mb me) H → va_D (fun q => s.heap.size ≤ q) (wLaw ad cI cd te ri pi pw K Dn mv ko so tl lp lb ld le C cl dq dy cL ou md 2 mK mc mD mr mw my mC mk ms mu mt mp mb me) → va_S (fun q => s.heap.size ≤ q) s.heap H locs → lv_has ls 9 [(0, .ref b), (1, .ref (ad 14)), (2, .ref (md 0)), (3, .ref (ad 17)), (4, .int (nI i))] → W p l e room_1 s m #[Value.ref b] below meth c H locs (cells + 2) (slots + 16) Q (F0 m 1633 ls [])) : W p l e room_1 s m #[Value.ref b] below meth c H locs cells slots Q (F0 m 1154 ls []) := by
  obtain ⟨hx, hb, hr, hml, hown, hts, hXs, hbl, hlocks, hgv⟩ := id C0
  have hts := fun w h => hts w (wsL_law_in w h)
  have hb : c.code = cL_law := hb
  have hA : ∀ q : Nat, s.heap.size ≤ q → (fun q : Nat => s.heap.size ≤ q) q := fun _ h => h
  have hbA : ¬ (fun q : Nat => s.heap.size ≤ q) b := Nat.not_le.mpr hbl
  refine lv_aload_n hx hb dL_law_1154 rfl (lv_at hl 1 rfl) ?_
  refine lv_aload_n hx hb dL_law_1155 rfl (lv_at hl 0 rfl) ?_
  refine lv_iload hx hb dL_law_1156 (lv_at hl 4 rfl) ?_
  refine lv_iconst (v := 1) hx hb dL_law_1158 (by decide) ?_
  refine lv_iadd hx hb dL_law_1159 ?_
  refine kc_top (show (nI i) + 1 = nI (i + 1) from nI_add _ _) ?_
  refine kc_sld (i := i + 1) hx hb hXs hbl hbA hS (by omega) (by omega) dL_law_1160 ?_
  refine kc_top hp1 ?_
  refine lv_aload_n hx hb dL_law_1161 rfl (lv_at hl 3 rfl) ?_
  have hX := kc_xat hX0 hS
  refine kc_hXi (w1 := wLh ad cI cd te ri pi pw K Dn mv ko so tl lp lb ld le C cl dq dy cL ou) (wr := [(md 0, .inr (3, [.int th, .int (nI mK), .ref (md 1), .int (nI mD), .ref (md 2), .int mw, .int my, .int (nI mC), .ref (md 3), .ref (md 4), .ref (md 5), .ref (md 6), .ref (md 7), .ref (md 8), .ref (md 9)])), (md 1, .inl (cI, 8, .inl mc)), (md 2, .inl (cI, 8, .inl mr)), (md 3, .inl (cI, 24, .inl mk)), (md 4, .inl (cI, 24, .inl ms)), (md 5, .inl (cI, 24, .inl mu)), (md 6, .inl (cI, 24, .inl mt)), (md 7, .inl (cI, 216, .inl mp)), (md 8, .inl (cI, 216, .inl mb)), (md 9, .inl (cI, 216, .inl me))]) (ws1 := wLaw ad cI cd te ri pi pw K Dn mv ko so tl lp lb ld le C cl dq dy cL ou md th mK mc mD mr mw my mC mk ms mu mt mp mb me) (As := [.ref (ad 14), .int (nI cx), .ref (ad 17)]) (rest := []) ⟨hx, hb, hml, hown, hts⟩ (c_L_find_f2 l hlf D ad cI cd te ri pi pw K Dn mv ko so tl lp lb ld le C cl dq dy cL ou cx H.size hC24 hc hn) (vx_cwSW 3 hts gL_law_L_find rfl rfl rfl (by decide +kernel) ⟨Nat.le_of_ble_eq_true rfl, Nat.le_of_ble_eq_true rfl⟩) hK hP hD hX hS hA [0, 1, 2, 3, 4, 5, 6, 7, 8, 9, 10, 11, 12, 13, 14, 15, 16, 17] [18, 19, 20, 21, 22, 23, 24, 25, 26, 27] [10, 11, 12, 13, 14, 15, 16, 17, 18, 19, 20, 21, 22, 23, 24, 25, 26, 27, 0, 1, 2, 3, 4, 5, 6, 7, 8, 9] [0, 1] rfl rfl rfl rfl (by decide) rfl rfl rfl rfl hl.1 rfl (Nat.le_of_ble_eq_true rfl) dL_law_1162 ⟨kc_rc (by omega), kc_rs (by omega)⟩ (fun H locs hP hD hS => ?_)
  refine lv_istore (lv' := [(5, .int 2), (0, .ref b), (1, .ref (ad 14)), (2, .ref (md 0)), (3, .ref (ad 17)), (4, .int (nI i))]) hx hb dL_law_1165 hl (by decide) rfl (fun ls hl => ?_)
  refine lv_aload_n hx hb dL_law_1167 rfl (lv_at hl 3 rfl) ?_
  refine lv_aload_n hx hb dL_law_1168 rfl (lv_at hl 1 rfl) ?_
  refine lv_iload hx hb dL_law_1169 (lv_at hl 5 rfl) ?_
  refine lv_iconst (v := 1) hx hb dL_law_1171 (by decide) ?_
  refine lv_iadd hx hb dL_law_1172 ?_
  refine kc_top (show (nI i) + 1 = nI (i + 1) from nI_add _ _) ?_
  refine kc_sld (i := i + 1) hx hb hXs hbl hbA hS (by omega) (by omega) dL_law_1173 ?_
  refine kc_top hp1 ?_
  refine kc_wVi (w1 := wMd md cI 2 mK mc mD mr mw my mC mk ms mu mt mp mb me) (wr := [(ad 0, .inr (1, [.ref (ad 1), .ref (ad 2), .ref (ad 3), .ref (ad 4), .ref (ad 5), .int (nI K), .int (nI Dn), .int mv])), (ad 1, .inl (cI, 8, .inl cd)), (ad 2, .inl (cI, 8, .inl te)), (ad 3, .inl (cI, 8, .inl ri)), (ad 4, .inl (cI, 8, .inl pi)), (ad 5, .inl (cI, 8, .inl pw)), (ad 6, .inr (0, [.ref (ad 7), .ref (ad 8), .ref (ad 9), .ref (ad 10), .ref (ad 11), .ref (ad 12), .ref (ad 13), .int (nI C)])), (ad 7, .inl (cI, 24, .inl ko)), (ad 8, .inl (cI, 24, .inl so)), (ad 9, .inl (cI, 24, .inl tl)), (ad 10, .inl (cI, 216, .inl lp)), (ad 11, .inl (cI, 216, .inl lb)), (ad 12, .inl (cI, 216, .inl ld)), (ad 13, .inl (cI, 216, .inl le)), (ad 14, .inr (2, [.ref (ad 0), .ref (ad 6), .ref (ad 15), .ref (ad 16), .int dy])), (ad 15, .inl (cI, 8, .inl cl)), (ad 16, .inl (cI, 8, .inl dq)), (ad 17, .inl (cL, 1, .inr (.inl ou)))]) (ws1 := wLaw ad cI cd te ri pi pw K Dn mv ko so tl lp lb ld le C cl dq dy cL ou md 2 mK mc mD mr mw my mC mk ms mu mt mp mb me) (As := [.int (nI cx)]) (rest := []) ⟨hx, hb, hml, hown, hts⟩ (c_X3_find_f2 l D md cI th mK mc mD mr mw my mC mk ms mu mt mp mb me cx H.size m_hC24 m_hc m_hn) (cwV 1 hts gL_law_X3_find rfl rfl rfl (by decide +kernel) ⟨Nat.le_of_ble_eq_true rfl, Nat.le_of_ble_eq_true rfl⟩) hK hP hD hS hA [18, 19, 20, 21, 22, 23, 24, 25, 26, 27] [0, 1, 2, 3, 4, 5, 6, 7, 8, 9, 10, 11, 12, 13, 14, 15, 16, 17] [0, 1, 2, 3, 4, 5, 6, 7, 8, 9, 10, 11, 12, 13, 14, 15, 16, 17, 18, 19, 20, 21, 22, 23, 24, 25, 26, 27] [0] rfl rfl rfl rfl (by decide) rfl rfl rfl 18 rfl rfl rfl rfl hl.1 rfl (Nat.le_of_ble_eq_true rfl) dL_law_1174 ⟨kc_rc (by omega), kc_rs (by omega)⟩ (fun H locs hP hD hS => ?_)
  refine lv_istore (lv' := [(6, .int 0), (5, .int 2), (0, .ref b), (1, .ref (ad 14)), (2, .ref (md 0)), (3, .ref (ad 17)), (4, .int (nI i))]) hx hb dL_law_1177 hl (by decide) rfl (fun ls hl => ?_)
  refine lv_aload_n hx hb dL_law_1179 rfl (lv_at hl 4 rfl) ?_
  refine kc_rVi (As := []) (rest := []) ⟨hx, hb, hml, hown, hts⟩ (c_X3_thrown l D md cI 2 mK mc mD mr mw my mC mk ms mu mt mp mb me ) (cwV 0 hts gL_law_X3_thrown rfl rfl rfl (by decide +kernel) ⟨Nat.le_of_ble_eq_true rfl, Nat.le_of_ble_eq_true rfl⟩) hK hP [18, 19, 20, 21, 22, 23, 24, 25, 26, 27] [0] rfl rfl 18 rfl rfl rfl rfl hl.1 rfl (Nat.le_of_ble_eq_true rfl) dL_law_1180 ⟨kc_rc (by omega), kc_rs (by omega)⟩ ?_
  refine lv_iload hx hb dL_law_1183 (lv_at hl 1 rfl) ?_
  refine lv_icmp_eq (tgt := 1190) hx hb dL_law_1185 (by decide) (fun c_1185 => ?_) (fun c_1185 => absurd c_1185 (by decide))
  refine lv_iload hx hb dL_law_1190 (lv_at hl 1 rfl) ?_
  refine lv_if_ne (tgt := 1207) hx hb dL_law_1192 (by decide) (fun c_1192 => ?_) (fun c_1192 => absurd c_1192 (by decide))
  refine lv_goto (tgt := 1633) hx hb dL_law_1207 (by decide) ?_
  refine W.widen (k := cells + 2) (n := slots + 16) (by omega) (by omega) ?_
  exact K1 _ _ _ hP hD hS (lv_sub hl [2, 3, 4, 5, 6] rfl)
set_option maxHeartbeats 4000000 in
set_option maxRecDepth 100000 in
theorem lw_pass_ok_ok {p : Program} {l : Launch} {e : Env} {s : State} {m : MethodId} {below : List Frame} {meth : Method} {c : Code} {Q : State → Prop} {b L : Nat} {xs : Nat → Int32} (hlf : l.stackTraces = false) (C0 : lw_At p s m meth c b L xs) {D : va_G} {cI cL : ClassId} (hK : kcK D [(cI, .int), (cL, .long)] s) (hX0 : kcX (fun q => s.heap.size ≤ q) s s.heap) (hL : L ≤ 2048) (i : Nat) (hi : i + 3 < L) (ad : Nat → Nat) (cd : Nat → Int32) (te : Nat → Int32) (ri : Nat → Int32) (pi : Nat → Int32) (pw : Nat → Int32) (K : Nat) (Dn : Nat) (mv : Int32) (ko : Nat → Int32) (so : Nat → Int32) (tl : Nat → Int32) (lp : Nat → Int32) (lb : Nat → Int32) (ld : Nat → Int32) (le : Nat → Int32) (C : Nat) (cl : Nat → Int32) (dq : Nat → Int32) (dy : Int32) (ou : Nat → Int64) (md : Nat → Nat) (th : Int32) (mK : Nat) (mc : Nat → Int32) (mD : Nat) (mr : Nat → Int32) (mw : Int32) (my : Int32) (mC : Nat) (mk : Nat → Int32) (ms : Nat → Int32) (mu : Nat → Int32) (mt : Nat → Int32) (mp : Nat → Int32) (mb : Nat → Int32) (me : Nat → Int32) (dz : Int32) (hz1 : ¬ dz < 1) (hz2 : dz ≤ 99) (h9 : dy + dz ≤ 9999) (m_hz1 : ¬ dz < 1) (m_hz2 : dz ≤ 99) (m_h9 : my + dz ≤ 9999) (hp1 : xs (i + 1) = dz) (hres : (dy + dz : Int32) = (my + dz)) {H : Heap} {locs : List Loc} {cells slots : Nat} (hce : cells + 2 ≤ 601024) (hsl : slots + 16 ≤ 7293034) (hP : va_P D vwCl (wLaw ad cI cd te ri pi pw K Dn mv ko so tl lp lb ld le C cl dq dy cL ou md th mK mc mD mr mw my mC mk ms mu mt mp mb me) H) (hD : va_D (fun q => s.heap.size ≤ q) (wLaw ad cI cd te ri pi pw K Dn mv ko so tl lp lb ld le C cl dq dy cL ou md th mK mc mD mr mw my mC mk ms mu mt mp mb me)) (hS : va_S (fun q => s.heap.size ≤ q) s.heap H locs) {ls : Array Slot} (hl : lv_has ls 9 [(0, .ref b), (1, .ref (ad 14)), (2, .ref (md 0)), (3, .ref (ad 17)), (4, .int (nI i))]) (K1 : ∀ (H : Heap) (locs : List Loc) (ls : Array Slot), va_P D vwCl (wLaw ad cI cd te ri pi pw K Dn mv ko so tl lp lb ld le C cl dq (dy + dz) cL (vp_updL ou 0 (Int32.toInt64 (dy + dz))) md 0 mK mc mD mr mw (my + dz) mC mk ms mu mt mp mb me) H → va_D (fun q => s.heap.size ≤ q) (wLaw ad cI cd te ri pi pw K Dn mv ko so tl lp lb ld le C cl dq (dy + dz) cL (vp_updL ou 0 (Int32.toInt64 (dy + dz))) md 0 mK mc mD mr mw (my + dz) mC mk ms mu mt mp mb me) → va_S (fun q => s.heap.size ≤ q) s.heap H locs → lv_has ls 9 [(0, .ref b), (1, .ref (ad 14)), (2, .ref (md 0)), (3, .ref (ad 17)), (4, .int (nI i))] → W p l e room_1 s m #[Value.ref b] below meth c H locs (cells + 2) (slots + 16) Q (F0 m 1633 ls [])) : W p l e room_1 s m #[Value.ref b] below meth c H locs cells slots Q (F0 m 1210 ls []) := by
  obtain ⟨hx, hb, hr, hml, hown, hts, hXs, hbl, hlocks, hgv⟩ := id C0
  have hts := fun w h => hts w (wsL_law_in w h)
  have hb : c.code = cL_law := hb
  have hA : ∀ q : Nat, s.heap.size ≤ q → (fun q : Nat => s.heap.size ≤ q) q := fun _ h => h
  have hbA : ¬ (fun q : Nat => s.heap.size ≤ q) b := Nat.not_le.mpr hbl
  refine lv_aload_n hx hb dL_law_1210 rfl (lv_at hl 1 rfl) ?_
  refine lv_aload_n hx hb dL_law_1211 rfl (lv_at hl 0 rfl) ?_
  refine lv_iload hx hb dL_law_1212 (lv_at hl 4 rfl) ?_
  refine lv_iconst (v := 1) hx hb dL_law_1214 (by decide) ?_
  refine lv_iadd hx hb dL_law_1215 ?_
  refine kc_top (show (nI i) + 1 = nI (i + 1) from nI_add _ _) ?_
  refine kc_sld (i := i + 1) hx hb hXs hbl hbA hS (by omega) (by omega) dL_law_1216 ?_
  refine kc_top hp1 ?_
  refine lv_aload_n hx hb dL_law_1217 rfl (lv_at hl 3 rfl) ?_
  refine kc_hSi (w1 := wLh ad cI cd te ri pi pw K Dn mv ko so tl lp lb ld le C cl dq (dy + dz) cL (vp_updL ou 0 (Int32.toInt64 (dy + dz)))) (wr := [(md 0, .inr (3, [.int th, .int (nI mK), .ref (md 1), .int (nI mD), .ref (md 2), .int mw, .int my, .int (nI mC), .ref (md 3), .ref (md 4), .ref (md 5), .ref (md 6), .ref (md 7), .ref (md 8), .ref (md 9)])), (md 1, .inl (cI, 8, .inl mc)), (md 2, .inl (cI, 8, .inl mr)), (md 3, .inl (cI, 24, .inl mk)), (md 4, .inl (cI, 24, .inl ms)), (md 5, .inl (cI, 24, .inl mu)), (md 6, .inl (cI, 24, .inl mt)), (md 7, .inl (cI, 216, .inl mp)), (md 8, .inl (cI, 216, .inl mb)), (md 9, .inl (cI, 216, .inl me))]) (ws1 := wLaw ad cI cd te ri pi pw K Dn mv ko so tl lp lb ld le C cl dq (dy + dz) cL (vp_updL ou 0 (Int32.toInt64 (dy + dz))) md th mK mc mD mr mw my mC mk ms mu mt mp mb me) (As := [.ref (ad 14), .int dz, .ref (ad 17)]) (rest := []) ⟨hx, hb, hml, hown, hts⟩ (c_L_pass_ok l D ad cI cd te ri pi pw K Dn mv ko so tl lp lb ld le C cl dq dy cL ou dz H.size hz1 hz2 h9) (vx_cwSW 3 hts gL_law_L_pass rfl rfl rfl (by decide +kernel) ⟨Nat.le_of_ble_eq_true rfl, Nat.le_of_ble_eq_true rfl⟩) hK hP hD hS hA [0, 1, 2, 3, 4, 5, 6, 7, 8, 9, 10, 11, 12, 13, 14, 15, 16, 17] [18, 19, 20, 21, 22, 23, 24, 25, 26, 27] [10, 11, 12, 13, 14, 15, 16, 17, 18, 19, 20, 21, 22, 23, 24, 25, 26, 27, 0, 1, 2, 3, 4, 5, 6, 7, 8, 9] [0, 1] rfl rfl rfl rfl (by decide) rfl rfl rfl rfl hl.1 rfl (Nat.le_of_ble_eq_true rfl) dL_law_1218 ⟨kc_rc (by omega), kc_rs (by omega)⟩ (fun H locs hP hD hS => ?_)
  refine lv_istore (lv' := [(5, .int 0), (0, .ref b), (1, .ref (ad 14)), (2, .ref (md 0)), (3, .ref (ad 17)), (4, .int (nI i))]) hx hb dL_law_1221 hl (by decide) rfl (fun ls hl => ?_)
  refine lv_aload_n hx hb dL_law_1223 rfl (lv_at hl 3 rfl) ?_
  refine lv_aload_n hx hb dL_law_1224 rfl (lv_at hl 1 rfl) ?_
  refine lv_iload hx hb dL_law_1225 (lv_at hl 5 rfl) ?_
  refine lv_iconst (v := 1) hx hb dL_law_1227 (by decide) ?_
  refine lv_iadd hx hb dL_law_1228 ?_
  refine kc_top (show (nI i) + 1 = nI (i + 1) from nI_add _ _) ?_
  refine kc_sld (i := i + 1) hx hb hXs hbl hbA hS (by omega) (by omega) dL_law_1229 ?_
  refine kc_top hp1 ?_
  refine kc_wVi (w1 := wMd md cI 0 mK mc mD mr mw (my + dz) mC mk ms mu mt mp mb me) (wr := [(ad 0, .inr (1, [.ref (ad 1), .ref (ad 2), .ref (ad 3), .ref (ad 4), .ref (ad 5), .int (nI K), .int (nI Dn), .int mv])), (ad 1, .inl (cI, 8, .inl cd)), (ad 2, .inl (cI, 8, .inl te)), (ad 3, .inl (cI, 8, .inl ri)), (ad 4, .inl (cI, 8, .inl pi)), (ad 5, .inl (cI, 8, .inl pw)), (ad 6, .inr (0, [.ref (ad 7), .ref (ad 8), .ref (ad 9), .ref (ad 10), .ref (ad 11), .ref (ad 12), .ref (ad 13), .int (nI C)])), (ad 7, .inl (cI, 24, .inl ko)), (ad 8, .inl (cI, 24, .inl so)), (ad 9, .inl (cI, 24, .inl tl)), (ad 10, .inl (cI, 216, .inl lp)), (ad 11, .inl (cI, 216, .inl lb)), (ad 12, .inl (cI, 216, .inl ld)), (ad 13, .inl (cI, 216, .inl le)), (ad 14, .inr (2, [.ref (ad 0), .ref (ad 6), .ref (ad 15), .ref (ad 16), .int (dy + dz)])), (ad 15, .inl (cI, 8, .inl cl)), (ad 16, .inl (cI, 8, .inl dq)), (ad 17, .inl (cL, 1, .inr (.inl (vp_updL ou 0 (Int32.toInt64 (dy + dz))))))]) (ws1 := wLaw ad cI cd te ri pi pw K Dn mv ko so tl lp lb ld le C cl dq (dy + dz) cL (vp_updL ou 0 (Int32.toInt64 (dy + dz))) md 0 mK mc mD mr mw (my + dz) mC mk ms mu mt mp mb me) (As := [.int dz]) (rest := []) ⟨hx, hb, hml, hown, hts⟩ (c_X3_pass_ok l D md cI th mK mc mD mr mw my mC mk ms mu mt mp mb me dz H.size m_hz1 m_hz2 m_h9) (cwV 1 hts gL_law_X3_pass rfl rfl rfl (by decide +kernel) ⟨Nat.le_of_ble_eq_true rfl, Nat.le_of_ble_eq_true rfl⟩) hK hP hD hS hA [18, 19, 20, 21, 22, 23, 24, 25, 26, 27] [0, 1, 2, 3, 4, 5, 6, 7, 8, 9, 10, 11, 12, 13, 14, 15, 16, 17] [0, 1, 2, 3, 4, 5, 6, 7, 8, 9, 10, 11, 12, 13, 14, 15, 16, 17, 18, 19, 20, 21, 22, 23, 24, 25, 26, 27] [0] rfl rfl rfl rfl (by decide) rfl rfl rfl 18 rfl rfl rfl rfl hl.1 rfl (Nat.le_of_ble_eq_true rfl) dL_law_1230 ⟨kc_rc (by omega), kc_rs (by omega)⟩ (fun H locs hP hD hS => ?_)
  refine lv_istore (lv' := [(6, .int (my + dz)), (5, .int 0), (0, .ref b), (1, .ref (ad 14)), (2, .ref (md 0)), (3, .ref (ad 17)), (4, .int (nI i))]) hx hb dL_law_1233 hl (by decide) rfl (fun ls hl => ?_)
  refine lv_aload_n hx hb dL_law_1235 rfl (lv_at hl 4 rfl) ?_
  refine kc_rVi (As := []) (rest := []) ⟨hx, hb, hml, hown, hts⟩ (c_X3_thrown l D md cI 0 mK mc mD mr mw (my + dz) mC mk ms mu mt mp mb me ) (cwV 0 hts gL_law_X3_thrown rfl rfl rfl (by decide +kernel) ⟨Nat.le_of_ble_eq_true rfl, Nat.le_of_ble_eq_true rfl⟩) hK hP [18, 19, 20, 21, 22, 23, 24, 25, 26, 27] [0] rfl rfl 18 rfl rfl rfl rfl hl.1 rfl (Nat.le_of_ble_eq_true rfl) dL_law_1236 ⟨kc_rc (by omega), kc_rs (by omega)⟩ ?_
  refine lv_iload hx hb dL_law_1239 (lv_at hl 1 rfl) ?_
  refine lv_icmp_eq (tgt := 1246) hx hb dL_law_1241 (by decide) (fun c_1241 => ?_) (fun c_1241 => absurd c_1241 (by decide))
  refine lv_iload hx hb dL_law_1246 (lv_at hl 1 rfl) ?_
  refine lv_if_ne (tgt := 1263) hx hb dL_law_1248 (by decide) (fun c_1248 => absurd c_1248 (by decide)) (fun c_1248 => ?_)
  refine lv_aload_n hx hb dL_law_1251 rfl (lv_at hl 5 rfl) ?_
  refine lv_iconst (v := 0) hx hb dL_law_1252 (by decide) ?_
  refine kc_lld (i := 0) (n := 1) hx hb hK hP 17 1 rfl rfl (by decide) (by decide) dL_law_1253 ?_
  refine kc_topl (show ((vp_updL ou 0 (Int32.toInt64 (dy + dz)))) 0 = Int32.toInt64 (dy + dz) from pk_uLs) ?_
  refine lv_iload hx hb dL_law_1254 (lv_at hl 0 rfl) ?_
  refine lv_i2l (v := Int32.toInt64 (my + dz)) hx hb dL_law_1256 rfl ?_
  refine W.lcmp hx hb dL_law_1257 ?_
  refine kc_top (show lg_cmp (Int32.toInt64 (dy + dz)) (Int32.toInt64 (my + dz)) = 0 from kc_lcmp0 (congrArg Int32.toInt64 hres)) ?_
  refine lv_if_eq (tgt := 1263) hx hb dL_law_1258 (by decide) (fun c_1258 => ?_) (fun c_1258 => absurd c_1258 (by decide))
  refine lv_goto (tgt := 1633) hx hb dL_law_1263 (by decide) ?_
  refine W.widen (k := cells + 2) (n := slots + 16) (by omega) (by omega) ?_
  exact K1 _ _ _ hP hD hS (lv_sub hl [2, 3, 4, 5, 6] rfl)
set_option maxHeartbeats 4000000 in
set_option maxRecDepth 100000 in
theorem lw_pass_f1_f1 {p : Program} {l : Launch} {e : Env} {s : State} {m : MethodId} {below : List Frame} {meth : Method} {c : Code} {Q : State → Prop} {b L : Nat} {xs : Nat → Int32} (hlf : l.stackTraces = false) (C0 : lw_At p s m meth c b L xs) {D : va_G} {cI cL : ClassId} (hK : kcK D [(cI, .int), (cL, .long)] s) (hX0 : kcX (fun q => s.heap.size ≤ q) s s.heap) (hL : L ≤ 2048) (i : Nat) (hi : i + 3 < L) (ad : Nat → Nat) (cd : Nat → Int32) (te : Nat → Int32) (ri : Nat → Int32) (pi : Nat → Int32) (pw : Nat → Int32) (K : Nat) (Dn : Nat) (mv : Int32) (ko : Nat → Int32) (so : Nat → Int32) (tl : Nat → Int32) (lp : Nat → Int32) (lb : Nat → Int32) (ld : Nat → Int32) (le : Nat → Int32) (C : Nat) (cl : Nat → Int32) (dq : Nat → Int32) (dy : Int32) (ou : Nat → Int64) (md : Nat → Nat) (th : Int32) (mK : Nat) (mc : Nat → Int32) (mD : Nat) (mr : Nat → Int32) (mw : Int32) (my : Int32) (mC : Nat) (mk : Nat → Int32) (ms : Nat → Int32) (mu : Nat → Int32) (mt : Nat → Int32) (mp : Nat → Int32) (mb : Nat → Int32) (me : Nat → Int32) (dz : Int32) (hz : dz < 1 ∨ (99 : Int32) < dz) (m_hz : dz < 1 ∨ (99 : Int32) < dz) (hp1 : xs (i + 1) = dz)  {H : Heap} {locs : List Loc} {cells slots : Nat} (hce : cells + 2 ≤ 601024) (hsl : slots + 16 ≤ 7293034) (hP : va_P D vwCl (wLaw ad cI cd te ri pi pw K Dn mv ko so tl lp lb ld le C cl dq dy cL ou md th mK mc mD mr mw my mC mk ms mu mt mp mb me) H) (hD : va_D (fun q => s.heap.size ≤ q) (wLaw ad cI cd te ri pi pw K Dn mv ko so tl lp lb ld le C cl dq dy cL ou md th mK mc mD mr mw my mC mk ms mu mt mp mb me)) (hS : va_S (fun q => s.heap.size ≤ q) s.heap H locs) {ls : Array Slot} (hl : lv_has ls 9 [(0, .ref b), (1, .ref (ad 14)), (2, .ref (md 0)), (3, .ref (ad 17)), (4, .int (nI i))]) (K1 : ∀ (H : Heap) (locs : List Loc) (ls : Array Slot), va_P D vwCl (wLaw ad cI cd te ri pi pw K Dn mv ko so tl lp lb ld le C cl dq dy cL ou md 1 mK mc mD mr mw my mC mk ms mu mt mp mb me) H → va_D (fun q => s.heap.size ≤ q) (wLaw ad cI cd te ri pi pw K Dn mv ko so tl lp lb ld le C cl dq dy cL ou md 1 mK mc mD mr mw my mC mk ms mu mt mp mb me) → va_S (fun q => s.heap.size ≤ q) s.heap H locs → lv_has ls 9 [(0, .ref b), (1, .ref (ad 14)), (2, .ref (md 0)), (3, .ref (ad 17)), (4, .int (nI i))] → W p l e room_1 s m #[Value.ref b] below meth c H locs (cells + 2) (slots + 16) Q (F0 m 1633 ls [])) : W p l e room_1 s m #[Value.ref b] below meth c H locs cells slots Q (F0 m 1210 ls []) := by
  obtain ⟨hx, hb, hr, hml, hown, hts, hXs, hbl, hlocks, hgv⟩ := id C0
  have hts := fun w h => hts w (wsL_law_in w h)
  have hb : c.code = cL_law := hb
  have hA : ∀ q : Nat, s.heap.size ≤ q → (fun q : Nat => s.heap.size ≤ q) q := fun _ h => h
  have hbA : ¬ (fun q : Nat => s.heap.size ≤ q) b := Nat.not_le.mpr hbl
  refine lv_aload_n hx hb dL_law_1210 rfl (lv_at hl 1 rfl) ?_
  refine lv_aload_n hx hb dL_law_1211 rfl (lv_at hl 0 rfl) ?_
  refine lv_iload hx hb dL_law_1212 (lv_at hl 4 rfl) ?_
  refine lv_iconst (v := 1) hx hb dL_law_1214 (by decide) ?_
  refine lv_iadd hx hb dL_law_1215 ?_
  refine kc_top (show (nI i) + 1 = nI (i + 1) from nI_add _ _) ?_
  refine kc_sld (i := i + 1) hx hb hXs hbl hbA hS (by omega) (by omega) dL_law_1216 ?_
  refine kc_top hp1 ?_
  refine lv_aload_n hx hb dL_law_1217 rfl (lv_at hl 3 rfl) ?_
  have hX := kc_xat hX0 hS
  refine kc_hXi (w1 := wLh ad cI cd te ri pi pw K Dn mv ko so tl lp lb ld le C cl dq dy cL ou) (wr := [(md 0, .inr (3, [.int th, .int (nI mK), .ref (md 1), .int (nI mD), .ref (md 2), .int mw, .int my, .int (nI mC), .ref (md 3), .ref (md 4), .ref (md 5), .ref (md 6), .ref (md 7), .ref (md 8), .ref (md 9)])), (md 1, .inl (cI, 8, .inl mc)), (md 2, .inl (cI, 8, .inl mr)), (md 3, .inl (cI, 24, .inl mk)), (md 4, .inl (cI, 24, .inl ms)), (md 5, .inl (cI, 24, .inl mu)), (md 6, .inl (cI, 24, .inl mt)), (md 7, .inl (cI, 216, .inl mp)), (md 8, .inl (cI, 216, .inl mb)), (md 9, .inl (cI, 216, .inl me))]) (ws1 := wLaw ad cI cd te ri pi pw K Dn mv ko so tl lp lb ld le C cl dq dy cL ou md th mK mc mD mr mw my mC mk ms mu mt mp mb me) (As := [.ref (ad 14), .int dz, .ref (ad 17)]) (rest := []) ⟨hx, hb, hml, hown, hts⟩ (c_L_pass_f1 l hlf D ad cI cd te ri pi pw K Dn mv ko so tl lp lb ld le C cl dq dy cL ou dz H.size hz) (vx_cwSW 3 hts gL_law_L_pass rfl rfl rfl (by decide +kernel) ⟨Nat.le_of_ble_eq_true rfl, Nat.le_of_ble_eq_true rfl⟩) hK hP hD hX hS hA [0, 1, 2, 3, 4, 5, 6, 7, 8, 9, 10, 11, 12, 13, 14, 15, 16, 17] [18, 19, 20, 21, 22, 23, 24, 25, 26, 27] [10, 11, 12, 13, 14, 15, 16, 17, 18, 19, 20, 21, 22, 23, 24, 25, 26, 27, 0, 1, 2, 3, 4, 5, 6, 7, 8, 9] [0, 1] rfl rfl rfl rfl (by decide) rfl rfl rfl rfl hl.1 rfl (Nat.le_of_ble_eq_true rfl) dL_law_1218 ⟨kc_rc (by omega), kc_rs (by omega)⟩ (fun H locs hP hD hS => ?_)
  refine lv_istore (lv' := [(5, .int 1), (0, .ref b), (1, .ref (ad 14)), (2, .ref (md 0)), (3, .ref (ad 17)), (4, .int (nI i))]) hx hb dL_law_1221 hl (by decide) rfl (fun ls hl => ?_)
  refine lv_aload_n hx hb dL_law_1223 rfl (lv_at hl 3 rfl) ?_
  refine lv_aload_n hx hb dL_law_1224 rfl (lv_at hl 1 rfl) ?_
  refine lv_iload hx hb dL_law_1225 (lv_at hl 5 rfl) ?_
  refine lv_iconst (v := 1) hx hb dL_law_1227 (by decide) ?_
  refine lv_iadd hx hb dL_law_1228 ?_
  refine kc_top (show (nI i) + 1 = nI (i + 1) from nI_add _ _) ?_
  refine kc_sld (i := i + 1) hx hb hXs hbl hbA hS (by omega) (by omega) dL_law_1229 ?_
  refine kc_top hp1 ?_
  refine kc_wVi (w1 := wMd md cI 1 mK mc mD mr mw my mC mk ms mu mt mp mb me) (wr := [(ad 0, .inr (1, [.ref (ad 1), .ref (ad 2), .ref (ad 3), .ref (ad 4), .ref (ad 5), .int (nI K), .int (nI Dn), .int mv])), (ad 1, .inl (cI, 8, .inl cd)), (ad 2, .inl (cI, 8, .inl te)), (ad 3, .inl (cI, 8, .inl ri)), (ad 4, .inl (cI, 8, .inl pi)), (ad 5, .inl (cI, 8, .inl pw)), (ad 6, .inr (0, [.ref (ad 7), .ref (ad 8), .ref (ad 9), .ref (ad 10), .ref (ad 11), .ref (ad 12), .ref (ad 13), .int (nI C)])), (ad 7, .inl (cI, 24, .inl ko)), (ad 8, .inl (cI, 24, .inl so)), (ad 9, .inl (cI, 24, .inl tl)), (ad 10, .inl (cI, 216, .inl lp)), (ad 11, .inl (cI, 216, .inl lb)), (ad 12, .inl (cI, 216, .inl ld)), (ad 13, .inl (cI, 216, .inl le)), (ad 14, .inr (2, [.ref (ad 0), .ref (ad 6), .ref (ad 15), .ref (ad 16), .int dy])), (ad 15, .inl (cI, 8, .inl cl)), (ad 16, .inl (cI, 8, .inl dq)), (ad 17, .inl (cL, 1, .inr (.inl ou)))]) (ws1 := wLaw ad cI cd te ri pi pw K Dn mv ko so tl lp lb ld le C cl dq dy cL ou md 1 mK mc mD mr mw my mC mk ms mu mt mp mb me) (As := [.int dz]) (rest := []) ⟨hx, hb, hml, hown, hts⟩ (c_X3_pass_f1 l D md cI th mK mc mD mr mw my mC mk ms mu mt mp mb me dz H.size m_hz) (cwV 1 hts gL_law_X3_pass rfl rfl rfl (by decide +kernel) ⟨Nat.le_of_ble_eq_true rfl, Nat.le_of_ble_eq_true rfl⟩) hK hP hD hS hA [18, 19, 20, 21, 22, 23, 24, 25, 26, 27] [0, 1, 2, 3, 4, 5, 6, 7, 8, 9, 10, 11, 12, 13, 14, 15, 16, 17] [0, 1, 2, 3, 4, 5, 6, 7, 8, 9, 10, 11, 12, 13, 14, 15, 16, 17, 18, 19, 20, 21, 22, 23, 24, 25, 26, 27] [0] rfl rfl rfl rfl (by decide) rfl rfl rfl 18 rfl rfl rfl rfl hl.1 rfl (Nat.le_of_ble_eq_true rfl) dL_law_1230 ⟨kc_rc (by omega), kc_rs (by omega)⟩ (fun H locs hP hD hS => ?_)
  refine lv_istore (lv' := [(6, .int 0), (5, .int 1), (0, .ref b), (1, .ref (ad 14)), (2, .ref (md 0)), (3, .ref (ad 17)), (4, .int (nI i))]) hx hb dL_law_1233 hl (by decide) rfl (fun ls hl => ?_)
  refine lv_aload_n hx hb dL_law_1235 rfl (lv_at hl 4 rfl) ?_
  refine kc_rVi (As := []) (rest := []) ⟨hx, hb, hml, hown, hts⟩ (c_X3_thrown l D md cI 1 mK mc mD mr mw my mC mk ms mu mt mp mb me ) (cwV 0 hts gL_law_X3_thrown rfl rfl rfl (by decide +kernel) ⟨Nat.le_of_ble_eq_true rfl, Nat.le_of_ble_eq_true rfl⟩) hK hP [18, 19, 20, 21, 22, 23, 24, 25, 26, 27] [0] rfl rfl 18 rfl rfl rfl rfl hl.1 rfl (Nat.le_of_ble_eq_true rfl) dL_law_1236 ⟨kc_rc (by omega), kc_rs (by omega)⟩ ?_
  refine lv_iload hx hb dL_law_1239 (lv_at hl 1 rfl) ?_
  refine lv_icmp_eq (tgt := 1246) hx hb dL_law_1241 (by decide) (fun c_1241 => ?_) (fun c_1241 => absurd c_1241 (by decide))
  refine lv_iload hx hb dL_law_1246 (lv_at hl 1 rfl) ?_
  refine lv_if_ne (tgt := 1263) hx hb dL_law_1248 (by decide) (fun c_1248 => ?_) (fun c_1248 => absurd c_1248 (by decide))
  refine lv_goto (tgt := 1633) hx hb dL_law_1263 (by decide) ?_
  refine W.widen (k := cells + 2) (n := slots + 16) (by omega) (by omega) ?_
  exact K1 _ _ _ hP hD hS (lv_sub hl [2, 3, 4, 5, 6] rfl)
set_option maxHeartbeats 4000000 in
set_option maxRecDepth 100000 in
theorem lw_pass_f2_f2 {p : Program} {l : Launch} {e : Env} {s : State} {m : MethodId} {below : List Frame} {meth : Method} {c : Code} {Q : State → Prop} {b L : Nat} {xs : Nat → Int32} (hlf : l.stackTraces = false) (C0 : lw_At p s m meth c b L xs) {D : va_G} {cI cL : ClassId} (hK : kcK D [(cI, .int), (cL, .long)] s) (hX0 : kcX (fun q => s.heap.size ≤ q) s s.heap) (hL : L ≤ 2048) (i : Nat) (hi : i + 3 < L) (ad : Nat → Nat) (cd : Nat → Int32) (te : Nat → Int32) (ri : Nat → Int32) (pi : Nat → Int32) (pw : Nat → Int32) (K : Nat) (Dn : Nat) (mv : Int32) (ko : Nat → Int32) (so : Nat → Int32) (tl : Nat → Int32) (lp : Nat → Int32) (lb : Nat → Int32) (ld : Nat → Int32) (le : Nat → Int32) (C : Nat) (cl : Nat → Int32) (dq : Nat → Int32) (dy : Int32) (ou : Nat → Int64) (md : Nat → Nat) (th : Int32) (mK : Nat) (mc : Nat → Int32) (mD : Nat) (mr : Nat → Int32) (mw : Int32) (my : Int32) (mC : Nat) (mk : Nat → Int32) (ms : Nat → Int32) (mu : Nat → Int32) (mt : Nat → Int32) (mp : Nat → Int32) (mb : Nat → Int32) (me : Nat → Int32) (dz : Int32) (hz1 : ¬ dz < 1) (hz2 : dz ≤ 99) (hn : ¬ dy + dz ≤ 9999) (m_hz1 : ¬ dz < 1) (m_hz2 : dz ≤ 99) (m_hn : ¬ my + dz ≤ 9999) (hp1 : xs (i + 1) = dz)  {H : Heap} {locs : List Loc} {cells slots : Nat} (hce : cells + 2 ≤ 601024) (hsl : slots + 16 ≤ 7293034) (hP : va_P D vwCl (wLaw ad cI cd te ri pi pw K Dn mv ko so tl lp lb ld le C cl dq dy cL ou md th mK mc mD mr mw my mC mk ms mu mt mp mb me) H) (hD : va_D (fun q => s.heap.size ≤ q) (wLaw ad cI cd te ri pi pw K Dn mv ko so tl lp lb ld le C cl dq dy cL ou md th mK mc mD mr mw my mC mk ms mu mt mp mb me)) (hS : va_S (fun q => s.heap.size ≤ q) s.heap H locs) {ls : Array Slot} (hl : lv_has ls 9 [(0, .ref b), (1, .ref (ad 14)), (2, .ref (md 0)), (3, .ref (ad 17)), (4, .int (nI i))]) (K1 : ∀ (H : Heap) (locs : List Loc) (ls : Array Slot), va_P D vwCl (wLaw ad cI cd te ri pi pw K Dn mv ko so tl lp lb ld le C cl dq dy cL ou md 2 mK mc mD mr mw my mC mk ms mu mt mp mb me) H → va_D (fun q => s.heap.size ≤ q) (wLaw ad cI cd te ri pi pw K Dn mv ko so tl lp lb ld le C cl dq dy cL ou md 2 mK mc mD mr mw my mC mk ms mu mt mp mb me) → va_S (fun q => s.heap.size ≤ q) s.heap H locs → lv_has ls 9 [(0, .ref b), (1, .ref (ad 14)), (2, .ref (md 0)), (3, .ref (ad 17)), (4, .int (nI i))] → W p l e room_1 s m #[Value.ref b] below meth c H locs (cells + 2) (slots + 16) Q (F0 m 1633 ls [])) : W p l e room_1 s m #[Value.ref b] below meth c H locs cells slots Q (F0 m 1210 ls []) := by
  obtain ⟨hx, hb, hr, hml, hown, hts, hXs, hbl, hlocks, hgv⟩ := id C0
  have hts := fun w h => hts w (wsL_law_in w h)
  have hb : c.code = cL_law := hb
  have hA : ∀ q : Nat, s.heap.size ≤ q → (fun q : Nat => s.heap.size ≤ q) q := fun _ h => h
  have hbA : ¬ (fun q : Nat => s.heap.size ≤ q) b := Nat.not_le.mpr hbl
  refine lv_aload_n hx hb dL_law_1210 rfl (lv_at hl 1 rfl) ?_
  refine lv_aload_n hx hb dL_law_1211 rfl (lv_at hl 0 rfl) ?_
  refine lv_iload hx hb dL_law_1212 (lv_at hl 4 rfl) ?_
  refine lv_iconst (v := 1) hx hb dL_law_1214 (by decide) ?_
  refine lv_iadd hx hb dL_law_1215 ?_
  refine kc_top (show (nI i) + 1 = nI (i + 1) from nI_add _ _) ?_
  refine kc_sld (i := i + 1) hx hb hXs hbl hbA hS (by omega) (by omega) dL_law_1216 ?_
  refine kc_top hp1 ?_
  refine lv_aload_n hx hb dL_law_1217 rfl (lv_at hl 3 rfl) ?_
  have hX := kc_xat hX0 hS
  refine kc_hXi (w1 := wLh ad cI cd te ri pi pw K Dn mv ko so tl lp lb ld le C cl dq dy cL ou) (wr := [(md 0, .inr (3, [.int th, .int (nI mK), .ref (md 1), .int (nI mD), .ref (md 2), .int mw, .int my, .int (nI mC), .ref (md 3), .ref (md 4), .ref (md 5), .ref (md 6), .ref (md 7), .ref (md 8), .ref (md 9)])), (md 1, .inl (cI, 8, .inl mc)), (md 2, .inl (cI, 8, .inl mr)), (md 3, .inl (cI, 24, .inl mk)), (md 4, .inl (cI, 24, .inl ms)), (md 5, .inl (cI, 24, .inl mu)), (md 6, .inl (cI, 24, .inl mt)), (md 7, .inl (cI, 216, .inl mp)), (md 8, .inl (cI, 216, .inl mb)), (md 9, .inl (cI, 216, .inl me))]) (ws1 := wLaw ad cI cd te ri pi pw K Dn mv ko so tl lp lb ld le C cl dq dy cL ou md th mK mc mD mr mw my mC mk ms mu mt mp mb me) (As := [.ref (ad 14), .int dz, .ref (ad 17)]) (rest := []) ⟨hx, hb, hml, hown, hts⟩ (c_L_pass_f2 l hlf D ad cI cd te ri pi pw K Dn mv ko so tl lp lb ld le C cl dq dy cL ou dz H.size hz1 hz2 hn) (vx_cwSW 3 hts gL_law_L_pass rfl rfl rfl (by decide +kernel) ⟨Nat.le_of_ble_eq_true rfl, Nat.le_of_ble_eq_true rfl⟩) hK hP hD hX hS hA [0, 1, 2, 3, 4, 5, 6, 7, 8, 9, 10, 11, 12, 13, 14, 15, 16, 17] [18, 19, 20, 21, 22, 23, 24, 25, 26, 27] [10, 11, 12, 13, 14, 15, 16, 17, 18, 19, 20, 21, 22, 23, 24, 25, 26, 27, 0, 1, 2, 3, 4, 5, 6, 7, 8, 9] [0, 1] rfl rfl rfl rfl (by decide) rfl rfl rfl rfl hl.1 rfl (Nat.le_of_ble_eq_true rfl) dL_law_1218 ⟨kc_rc (by omega), kc_rs (by omega)⟩ (fun H locs hP hD hS => ?_)
  refine lv_istore (lv' := [(5, .int 2), (0, .ref b), (1, .ref (ad 14)), (2, .ref (md 0)), (3, .ref (ad 17)), (4, .int (nI i))]) hx hb dL_law_1221 hl (by decide) rfl (fun ls hl => ?_)
  refine lv_aload_n hx hb dL_law_1223 rfl (lv_at hl 3 rfl) ?_
  refine lv_aload_n hx hb dL_law_1224 rfl (lv_at hl 1 rfl) ?_
  refine lv_iload hx hb dL_law_1225 (lv_at hl 5 rfl) ?_
  refine lv_iconst (v := 1) hx hb dL_law_1227 (by decide) ?_
  refine lv_iadd hx hb dL_law_1228 ?_
  refine kc_top (show (nI i) + 1 = nI (i + 1) from nI_add _ _) ?_
  refine kc_sld (i := i + 1) hx hb hXs hbl hbA hS (by omega) (by omega) dL_law_1229 ?_
  refine kc_top hp1 ?_
  refine kc_wVi (w1 := wMd md cI 2 mK mc mD mr mw my mC mk ms mu mt mp mb me) (wr := [(ad 0, .inr (1, [.ref (ad 1), .ref (ad 2), .ref (ad 3), .ref (ad 4), .ref (ad 5), .int (nI K), .int (nI Dn), .int mv])), (ad 1, .inl (cI, 8, .inl cd)), (ad 2, .inl (cI, 8, .inl te)), (ad 3, .inl (cI, 8, .inl ri)), (ad 4, .inl (cI, 8, .inl pi)), (ad 5, .inl (cI, 8, .inl pw)), (ad 6, .inr (0, [.ref (ad 7), .ref (ad 8), .ref (ad 9), .ref (ad 10), .ref (ad 11), .ref (ad 12), .ref (ad 13), .int (nI C)])), (ad 7, .inl (cI, 24, .inl ko)), (ad 8, .inl (cI, 24, .inl so)), (ad 9, .inl (cI, 24, .inl tl)), (ad 10, .inl (cI, 216, .inl lp)), (ad 11, .inl (cI, 216, .inl lb)), (ad 12, .inl (cI, 216, .inl ld)), (ad 13, .inl (cI, 216, .inl le)), (ad 14, .inr (2, [.ref (ad 0), .ref (ad 6), .ref (ad 15), .ref (ad 16), .int dy])), (ad 15, .inl (cI, 8, .inl cl)), (ad 16, .inl (cI, 8, .inl dq)), (ad 17, .inl (cL, 1, .inr (.inl ou)))]) (ws1 := wLaw ad cI cd te ri pi pw K Dn mv ko so tl lp lb ld le C cl dq dy cL ou md 2 mK mc mD mr mw my mC mk ms mu mt mp mb me) (As := [.int dz]) (rest := []) ⟨hx, hb, hml, hown, hts⟩ (c_X3_pass_f2 l D md cI th mK mc mD mr mw my mC mk ms mu mt mp mb me dz H.size m_hz1 m_hz2 m_hn) (cwV 1 hts gL_law_X3_pass rfl rfl rfl (by decide +kernel) ⟨Nat.le_of_ble_eq_true rfl, Nat.le_of_ble_eq_true rfl⟩) hK hP hD hS hA [18, 19, 20, 21, 22, 23, 24, 25, 26, 27] [0, 1, 2, 3, 4, 5, 6, 7, 8, 9, 10, 11, 12, 13, 14, 15, 16, 17] [0, 1, 2, 3, 4, 5, 6, 7, 8, 9, 10, 11, 12, 13, 14, 15, 16, 17, 18, 19, 20, 21, 22, 23, 24, 25, 26, 27] [0] rfl rfl rfl rfl (by decide) rfl rfl rfl 18 rfl rfl rfl rfl hl.1 rfl (Nat.le_of_ble_eq_true rfl) dL_law_1230 ⟨kc_rc (by omega), kc_rs (by omega)⟩ (fun H locs hP hD hS => ?_)
  refine lv_istore (lv' := [(6, .int 0), (5, .int 2), (0, .ref b), (1, .ref (ad 14)), (2, .ref (md 0)), (3, .ref (ad 17)), (4, .int (nI i))]) hx hb dL_law_1233 hl (by decide) rfl (fun ls hl => ?_)
  refine lv_aload_n hx hb dL_law_1235 rfl (lv_at hl 4 rfl) ?_
  refine kc_rVi (As := []) (rest := []) ⟨hx, hb, hml, hown, hts⟩ (c_X3_thrown l D md cI 2 mK mc mD mr mw my mC mk ms mu mt mp mb me ) (cwV 0 hts gL_law_X3_thrown rfl rfl rfl (by decide +kernel) ⟨Nat.le_of_ble_eq_true rfl, Nat.le_of_ble_eq_true rfl⟩) hK hP [18, 19, 20, 21, 22, 23, 24, 25, 26, 27] [0] rfl rfl 18 rfl rfl rfl rfl hl.1 rfl (Nat.le_of_ble_eq_true rfl) dL_law_1236 ⟨kc_rc (by omega), kc_rs (by omega)⟩ ?_
  refine lv_iload hx hb dL_law_1239 (lv_at hl 1 rfl) ?_
  refine lv_icmp_eq (tgt := 1246) hx hb dL_law_1241 (by decide) (fun c_1241 => ?_) (fun c_1241 => absurd c_1241 (by decide))
  refine lv_iload hx hb dL_law_1246 (lv_at hl 1 rfl) ?_
  refine lv_if_ne (tgt := 1263) hx hb dL_law_1248 (by decide) (fun c_1248 => ?_) (fun c_1248 => absurd c_1248 (by decide))
  refine lv_goto (tgt := 1633) hx hb dL_law_1263 (by decide) ?_
  refine W.widen (k := cells + 2) (n := slots + 16) (by omega) (by omega) ?_
  exact K1 _ _ _ hP hD hS (lv_sub hl [2, 3, 4, 5, 6] rfl)
set_option maxHeartbeats 4000000 in
set_option maxRecDepth 100000 in
theorem lw_copy_ok_ok {p : Program} {l : Launch} {e : Env} {s : State} {m : MethodId} {below : List Frame} {meth : Method} {c : Code} {Q : State → Prop} {b L : Nat} {xs : Nat → Int32} (hlf : l.stackTraces = false) (C0 : lw_At p s m meth c b L xs) {D : va_G} {cI cL : ClassId} (hK : kcK D [(cI, .int), (cL, .long)] s) (hX0 : kcX (fun q => s.heap.size ≤ q) s s.heap) (hL : L ≤ 2048) (i : Nat) (hi : i + 3 < L) (ad : Nat → Nat) (cd : Nat → Int32) (te : Nat → Int32) (ri : Nat → Int32) (pi : Nat → Int32) (pw : Nat → Int32) (K : Nat) (Dn : Nat) (mv : Int32) (ko : Nat → Int32) (so : Nat → Int32) (tl : Nat → Int32) (lp : Nat → Int32) (lb : Nat → Int32) (ld : Nat → Int32) (le : Nat → Int32) (C : Nat) (cl : Nat → Int32) (dq : Nat → Int32) (dy : Int32) (ou : Nat → Int64) (md : Nat → Nat) (th : Int32) (mK : Nat) (mc : Nat → Int32) (mD : Nat) (mr : Nat → Int32) (mw : Int32) (my : Int32) (mC : Nat) (mk : Nat → Int32) (ms : Nat → Int32) (mu : Nat → Int32) (mt : Nat → Int32) (mp : Nat → Int32) (mb : Nat → Int32) (me : Nat → Int32) (cx : Nat) (q : Nat) (tn : Nat → Nat) (hC24 : C ≤ 24) (hc : cx < C) (hok : okLe so tl tn) (hq : q < 5) (m_hC24 : mC ≤ 24) (m_hc : cx < mC) (m_hok : okLe ms mt tn) (m_hq : q < 5) (hp1 : xs (i + 1) = nI cx) (hp2 : xs (i + 2) = nI q) (hres : (jTold ko so tl lp ld tn cx (nI q) : Int32) = (mTold mk ms mu mt mp tn cx (nI q))) {H : Heap} {locs : List Loc} {cells slots : Nat} (hce : cells + 2 ≤ 601024) (hsl : slots + 16 ≤ 7293034) (hP : va_P D vwCl (wLaw ad cI cd te ri pi pw K Dn mv ko so tl lp lb ld le C cl dq dy cL ou md th mK mc mD mr mw my mC mk ms mu mt mp mb me) H) (hD : va_D (fun q => s.heap.size ≤ q) (wLaw ad cI cd te ri pi pw K Dn mv ko so tl lp lb ld le C cl dq dy cL ou md th mK mc mD mr mw my mC mk ms mu mt mp mb me)) (hS : va_S (fun q => s.heap.size ≤ q) s.heap H locs) {ls : Array Slot} (hl : lv_has ls 9 [(0, .ref b), (1, .ref (ad 14)), (2, .ref (md 0)), (3, .ref (ad 17)), (4, .int (nI i))]) (K1 : ∀ (H : Heap) (locs : List Loc) (ls : Array Slot), va_P D vwCl (wLaw ad cI cd te ri pi pw K Dn mv ko so tl lp lb ld le C cl dq dy cL (vp_updL ou 0 (Int32.toInt64 (jTold ko so tl lp ld tn cx (nI q)))) md 0 mK mc mD mr mw my mC mk ms mu mt mp mb me) H → va_D (fun q => s.heap.size ≤ q) (wLaw ad cI cd te ri pi pw K Dn mv ko so tl lp lb ld le C cl dq dy cL (vp_updL ou 0 (Int32.toInt64 (jTold ko so tl lp ld tn cx (nI q)))) md 0 mK mc mD mr mw my mC mk ms mu mt mp mb me) → va_S (fun q => s.heap.size ≤ q) s.heap H locs → lv_has ls 9 [(0, .ref b), (1, .ref (ad 14)), (2, .ref (md 0)), (3, .ref (ad 17)), (4, .int (nI i))] → W p l e room_1 s m #[Value.ref b] below meth c H locs (cells + 2) (slots + 16) Q (F0 m 1633 ls [])) : W p l e room_1 s m #[Value.ref b] below meth c H locs cells slots Q (F0 m 1292 ls []) := by
  obtain ⟨hx, hb, hr, hml, hown, hts, hXs, hbl, hlocks, hgv⟩ := id C0
  have hts := fun w h => hts w (wsL_law_in w h)
  have hb : c.code = cL_law := hb
  have hA : ∀ q : Nat, s.heap.size ≤ q → (fun q : Nat => s.heap.size ≤ q) q := fun _ h => h
  have hbA : ¬ (fun q : Nat => s.heap.size ≤ q) b := Nat.not_le.mpr hbl
  refine lv_aload_n hx hb dL_law_1292 rfl (lv_at hl 1 rfl) ?_
  refine lv_aload_n hx hb dL_law_1293 rfl (lv_at hl 0 rfl) ?_
  refine lv_iload hx hb dL_law_1294 (lv_at hl 4 rfl) ?_
  refine lv_iconst (v := 1) hx hb dL_law_1296 (by decide) ?_
  refine lv_iadd hx hb dL_law_1297 ?_
  refine kc_top (show (nI i) + 1 = nI (i + 1) from nI_add _ _) ?_
  refine kc_sld (i := i + 1) hx hb hXs hbl hbA hS (by omega) (by omega) dL_law_1298 ?_
  refine kc_top hp1 ?_
  refine lv_aload_n hx hb dL_law_1299 rfl (lv_at hl 0 rfl) ?_
  refine lv_iload hx hb dL_law_1300 (lv_at hl 4 rfl) ?_
  refine lv_iconst (v := 2) hx hb dL_law_1302 (by decide) ?_
  refine lv_iadd hx hb dL_law_1303 ?_
  refine kc_top (show (nI i) + 2 = nI (i + 2) from nI_add _ _) ?_
  refine kc_sld (i := i + 2) hx hb hXs hbl hbA hS (by omega) (by omega) dL_law_1304 ?_
  refine kc_top hp2 ?_
  refine lv_aload_n hx hb dL_law_1305 rfl (lv_at hl 3 rfl) ?_
  refine kc_hSi (w1 := wLh ad cI cd te ri pi pw K Dn mv ko so tl lp lb ld le C cl dq dy cL (vp_updL ou 0 (Int32.toInt64 (jTold ko so tl lp ld tn cx (nI q))))) (wr := [(md 0, .inr (3, [.int th, .int (nI mK), .ref (md 1), .int (nI mD), .ref (md 2), .int mw, .int my, .int (nI mC), .ref (md 3), .ref (md 4), .ref (md 5), .ref (md 6), .ref (md 7), .ref (md 8), .ref (md 9)])), (md 1, .inl (cI, 8, .inl mc)), (md 2, .inl (cI, 8, .inl mr)), (md 3, .inl (cI, 24, .inl mk)), (md 4, .inl (cI, 24, .inl ms)), (md 5, .inl (cI, 24, .inl mu)), (md 6, .inl (cI, 24, .inl mt)), (md 7, .inl (cI, 216, .inl mp)), (md 8, .inl (cI, 216, .inl mb)), (md 9, .inl (cI, 216, .inl me))]) (ws1 := wLaw ad cI cd te ri pi pw K Dn mv ko so tl lp lb ld le C cl dq dy cL (vp_updL ou 0 (Int32.toInt64 (jTold ko so tl lp ld tn cx (nI q)))) md th mK mc mD mr mw my mC mk ms mu mt mp mb me) (As := [.ref (ad 14), .int (nI cx), .int (nI q), .ref (ad 17)]) (rest := []) ⟨hx, hb, hml, hown, hts⟩ (c_L_copy_ok l D ad cI cd te ri pi pw K Dn mv ko so tl lp lb ld le C cl dq dy cL ou cx q tn H.size hC24 hc hok hq) (vx_cwSW 4 hts gL_law_L_copy rfl rfl rfl (by decide +kernel) ⟨Nat.le_of_ble_eq_true rfl, Nat.le_of_ble_eq_true rfl⟩) hK hP hD hS hA [0, 1, 2, 3, 4, 5, 6, 7, 8, 9, 10, 11, 12, 13, 14, 15, 16, 17] [18, 19, 20, 21, 22, 23, 24, 25, 26, 27] [10, 11, 12, 13, 14, 15, 16, 17, 18, 19, 20, 21, 22, 23, 24, 25, 26, 27, 0, 1, 2, 3, 4, 5, 6, 7, 8, 9] [0, 1] rfl rfl rfl rfl (by decide) rfl rfl rfl rfl hl.1 rfl (Nat.le_of_ble_eq_true rfl) dL_law_1306 ⟨kc_rc (by omega), kc_rs (by omega)⟩ (fun H locs hP hD hS => ?_)
  refine lv_istore (lv' := [(5, .int 0), (0, .ref b), (1, .ref (ad 14)), (2, .ref (md 0)), (3, .ref (ad 17)), (4, .int (nI i))]) hx hb dL_law_1309 hl (by decide) rfl (fun ls hl => ?_)
  refine lv_aload_n hx hb dL_law_1311 rfl (lv_at hl 3 rfl) ?_
  refine lv_aload_n hx hb dL_law_1312 rfl (lv_at hl 1 rfl) ?_
  refine lv_iload hx hb dL_law_1313 (lv_at hl 5 rfl) ?_
  refine lv_iconst (v := 1) hx hb dL_law_1315 (by decide) ?_
  refine lv_iadd hx hb dL_law_1316 ?_
  refine kc_top (show (nI i) + 1 = nI (i + 1) from nI_add _ _) ?_
  refine kc_sld (i := i + 1) hx hb hXs hbl hbA hS (by omega) (by omega) dL_law_1317 ?_
  refine kc_top hp1 ?_
  refine lv_aload_n hx hb dL_law_1318 rfl (lv_at hl 1 rfl) ?_
  refine lv_iload hx hb dL_law_1319 (lv_at hl 5 rfl) ?_
  refine lv_iconst (v := 2) hx hb dL_law_1321 (by decide) ?_
  refine lv_iadd hx hb dL_law_1322 ?_
  refine kc_top (show (nI i) + 2 = nI (i + 2) from nI_add _ _) ?_
  refine kc_sld (i := i + 2) hx hb hXs hbl hbA hS (by omega) (by omega) dL_law_1323 ?_
  refine kc_top hp2 ?_
  refine kc_wVi (w1 := wMd md cI 0 mK mc mD mr mw my mC mk ms mu mt mp mb me) (wr := [(ad 0, .inr (1, [.ref (ad 1), .ref (ad 2), .ref (ad 3), .ref (ad 4), .ref (ad 5), .int (nI K), .int (nI Dn), .int mv])), (ad 1, .inl (cI, 8, .inl cd)), (ad 2, .inl (cI, 8, .inl te)), (ad 3, .inl (cI, 8, .inl ri)), (ad 4, .inl (cI, 8, .inl pi)), (ad 5, .inl (cI, 8, .inl pw)), (ad 6, .inr (0, [.ref (ad 7), .ref (ad 8), .ref (ad 9), .ref (ad 10), .ref (ad 11), .ref (ad 12), .ref (ad 13), .int (nI C)])), (ad 7, .inl (cI, 24, .inl ko)), (ad 8, .inl (cI, 24, .inl so)), (ad 9, .inl (cI, 24, .inl tl)), (ad 10, .inl (cI, 216, .inl lp)), (ad 11, .inl (cI, 216, .inl lb)), (ad 12, .inl (cI, 216, .inl ld)), (ad 13, .inl (cI, 216, .inl le)), (ad 14, .inr (2, [.ref (ad 0), .ref (ad 6), .ref (ad 15), .ref (ad 16), .int dy])), (ad 15, .inl (cI, 8, .inl cl)), (ad 16, .inl (cI, 8, .inl dq)), (ad 17, .inl (cL, 1, .inr (.inl (vp_updL ou 0 (Int32.toInt64 (jTold ko so tl lp ld tn cx (nI q)))))))]) (ws1 := wLaw ad cI cd te ri pi pw K Dn mv ko so tl lp lb ld le C cl dq dy cL (vp_updL ou 0 (Int32.toInt64 (jTold ko so tl lp ld tn cx (nI q)))) md 0 mK mc mD mr mw my mC mk ms mu mt mp mb me) (As := [.int (nI cx), .int (nI q)]) (rest := []) ⟨hx, hb, hml, hown, hts⟩ (c_X3_copy_ok l D md cI th mK mc mD mr mw my mC mk ms mu mt mp mb me cx q tn H.size m_hC24 m_hc m_hok m_hq) (cwV 2 hts gL_law_X3_copy rfl rfl rfl (by decide +kernel) ⟨Nat.le_of_ble_eq_true rfl, Nat.le_of_ble_eq_true rfl⟩) hK hP hD hS hA [18, 19, 20, 21, 22, 23, 24, 25, 26, 27] [0, 1, 2, 3, 4, 5, 6, 7, 8, 9, 10, 11, 12, 13, 14, 15, 16, 17] [0, 1, 2, 3, 4, 5, 6, 7, 8, 9, 10, 11, 12, 13, 14, 15, 16, 17, 18, 19, 20, 21, 22, 23, 24, 25, 26, 27] [0] rfl rfl rfl rfl (by decide) rfl rfl rfl 18 rfl rfl rfl rfl hl.1 rfl (Nat.le_of_ble_eq_true rfl) dL_law_1324 ⟨kc_rc (by omega), kc_rs (by omega)⟩ (fun H locs hP hD hS => ?_)
  refine lv_istore (lv' := [(6, .int (mTold mk ms mu mt mp tn cx (nI q))), (5, .int 0), (0, .ref b), (1, .ref (ad 14)), (2, .ref (md 0)), (3, .ref (ad 17)), (4, .int (nI i))]) hx hb dL_law_1327 hl (by decide) rfl (fun ls hl => ?_)
  refine lv_aload_n hx hb dL_law_1329 rfl (lv_at hl 4 rfl) ?_
  refine kc_rVi (As := []) (rest := []) ⟨hx, hb, hml, hown, hts⟩ (c_X3_thrown l D md cI 0 mK mc mD mr mw my mC mk ms mu mt mp mb me ) (cwV 0 hts gL_law_X3_thrown rfl rfl rfl (by decide +kernel) ⟨Nat.le_of_ble_eq_true rfl, Nat.le_of_ble_eq_true rfl⟩) hK hP [18, 19, 20, 21, 22, 23, 24, 25, 26, 27] [0] rfl rfl 18 rfl rfl rfl rfl hl.1 rfl (Nat.le_of_ble_eq_true rfl) dL_law_1330 ⟨kc_rc (by omega), kc_rs (by omega)⟩ ?_
  refine lv_iload hx hb dL_law_1333 (lv_at hl 1 rfl) ?_
  refine lv_icmp_eq (tgt := 1340) hx hb dL_law_1335 (by decide) (fun c_1335 => ?_) (fun c_1335 => absurd c_1335 (by decide))
  refine lv_iload hx hb dL_law_1340 (lv_at hl 1 rfl) ?_
  refine lv_if_ne (tgt := 1357) hx hb dL_law_1342 (by decide) (fun c_1342 => absurd c_1342 (by decide)) (fun c_1342 => ?_)
  refine lv_aload_n hx hb dL_law_1345 rfl (lv_at hl 5 rfl) ?_
  refine lv_iconst (v := 0) hx hb dL_law_1346 (by decide) ?_
  refine kc_lld (i := 0) (n := 1) hx hb hK hP 17 1 rfl rfl (by decide) (by decide) dL_law_1347 ?_
  refine kc_topl (show ((vp_updL ou 0 (Int32.toInt64 (jTold ko so tl lp ld tn cx (nI q))))) 0 = Int32.toInt64 (jTold ko so tl lp ld tn cx (nI q)) from pk_uLs) ?_
  refine lv_iload hx hb dL_law_1348 (lv_at hl 0 rfl) ?_
  refine lv_i2l (v := Int32.toInt64 (mTold mk ms mu mt mp tn cx (nI q))) hx hb dL_law_1350 rfl ?_
  refine W.lcmp hx hb dL_law_1351 ?_
  refine kc_top (show lg_cmp (Int32.toInt64 (jTold ko so tl lp ld tn cx (nI q))) (Int32.toInt64 (mTold mk ms mu mt mp tn cx (nI q))) = 0 from kc_lcmp0 (congrArg Int32.toInt64 hres)) ?_
  refine lv_if_eq (tgt := 1357) hx hb dL_law_1352 (by decide) (fun c_1352 => ?_) (fun c_1352 => absurd c_1352 (by decide))
  refine lv_goto (tgt := 1633) hx hb dL_law_1357 (by decide) ?_
  refine W.widen (k := cells + 2) (n := slots + 16) (by omega) (by omega) ?_
  exact K1 _ _ _ hP hD hS (lv_sub hl [2, 3, 4, 5, 6] rfl)
set_option maxHeartbeats 4000000 in
set_option maxRecDepth 100000 in
theorem lw_copy_f1_f1 {p : Program} {l : Launch} {e : Env} {s : State} {m : MethodId} {below : List Frame} {meth : Method} {c : Code} {Q : State → Prop} {b L : Nat} {xs : Nat → Int32} (hlf : l.stackTraces = false) (C0 : lw_At p s m meth c b L xs) {D : va_G} {cI cL : ClassId} (hK : kcK D [(cI, .int), (cL, .long)] s) (hX0 : kcX (fun q => s.heap.size ≤ q) s s.heap) (hL : L ≤ 2048) (i : Nat) (hi : i + 3 < L) (ad : Nat → Nat) (cd : Nat → Int32) (te : Nat → Int32) (ri : Nat → Int32) (pi : Nat → Int32) (pw : Nat → Int32) (K : Nat) (Dn : Nat) (mv : Int32) (ko : Nat → Int32) (so : Nat → Int32) (tl : Nat → Int32) (lp : Nat → Int32) (lb : Nat → Int32) (ld : Nat → Int32) (le : Nat → Int32) (C : Nat) (cl : Nat → Int32) (dq : Nat → Int32) (dy : Int32) (ou : Nat → Int64) (md : Nat → Nat) (th : Int32) (mK : Nat) (mc : Nat → Int32) (mD : Nat) (mr : Nat → Int32) (mw : Int32) (my : Int32) (mC : Nat) (mk : Nat → Int32) (ms : Nat → Int32) (mu : Nat → Int32) (mt : Nat → Int32) (mp : Nat → Int32) (mb : Nat → Int32) (me : Nat → Int32) (x : Int32) (wh : Int32) (hBad : ¬ jIn C x = true) (m_hBad : ¬ jIn mC x = true) (hp1 : xs (i + 1) = x) (hp2 : xs (i + 2) = wh)  {H : Heap} {locs : List Loc} {cells slots : Nat} (hce : cells + 2 ≤ 601024) (hsl : slots + 16 ≤ 7293034) (hP : va_P D vwCl (wLaw ad cI cd te ri pi pw K Dn mv ko so tl lp lb ld le C cl dq dy cL ou md th mK mc mD mr mw my mC mk ms mu mt mp mb me) H) (hD : va_D (fun q => s.heap.size ≤ q) (wLaw ad cI cd te ri pi pw K Dn mv ko so tl lp lb ld le C cl dq dy cL ou md th mK mc mD mr mw my mC mk ms mu mt mp mb me)) (hS : va_S (fun q => s.heap.size ≤ q) s.heap H locs) {ls : Array Slot} (hl : lv_has ls 9 [(0, .ref b), (1, .ref (ad 14)), (2, .ref (md 0)), (3, .ref (ad 17)), (4, .int (nI i))]) (K1 : ∀ (H : Heap) (locs : List Loc) (ls : Array Slot), va_P D vwCl (wLaw ad cI cd te ri pi pw K Dn mv ko so tl lp lb ld le C cl dq dy cL ou md 1 mK mc mD mr mw my mC mk ms mu mt mp mb me) H → va_D (fun q => s.heap.size ≤ q) (wLaw ad cI cd te ri pi pw K Dn mv ko so tl lp lb ld le C cl dq dy cL ou md 1 mK mc mD mr mw my mC mk ms mu mt mp mb me) → va_S (fun q => s.heap.size ≤ q) s.heap H locs → lv_has ls 9 [(0, .ref b), (1, .ref (ad 14)), (2, .ref (md 0)), (3, .ref (ad 17)), (4, .int (nI i))] → W p l e room_1 s m #[Value.ref b] below meth c H locs (cells + 2) (slots + 16) Q (F0 m 1633 ls [])) : W p l e room_1 s m #[Value.ref b] below meth c H locs cells slots Q (F0 m 1292 ls []) := by
  obtain ⟨hx, hb, hr, hml, hown, hts, hXs, hbl, hlocks, hgv⟩ := id C0
  have hts := fun w h => hts w (wsL_law_in w h)
  have hb : c.code = cL_law := hb
  have hA : ∀ q : Nat, s.heap.size ≤ q → (fun q : Nat => s.heap.size ≤ q) q := fun _ h => h
  have hbA : ¬ (fun q : Nat => s.heap.size ≤ q) b := Nat.not_le.mpr hbl
  refine lv_aload_n hx hb dL_law_1292 rfl (lv_at hl 1 rfl) ?_
  refine lv_aload_n hx hb dL_law_1293 rfl (lv_at hl 0 rfl) ?_
  refine lv_iload hx hb dL_law_1294 (lv_at hl 4 rfl) ?_
  refine lv_iconst (v := 1) hx hb dL_law_1296 (by decide) ?_
  refine lv_iadd hx hb dL_law_1297 ?_
  refine kc_top (show (nI i) + 1 = nI (i + 1) from nI_add _ _) ?_
  refine kc_sld (i := i + 1) hx hb hXs hbl hbA hS (by omega) (by omega) dL_law_1298 ?_
  refine kc_top hp1 ?_
  refine lv_aload_n hx hb dL_law_1299 rfl (lv_at hl 0 rfl) ?_
  refine lv_iload hx hb dL_law_1300 (lv_at hl 4 rfl) ?_
  refine lv_iconst (v := 2) hx hb dL_law_1302 (by decide) ?_
  refine lv_iadd hx hb dL_law_1303 ?_
  refine kc_top (show (nI i) + 2 = nI (i + 2) from nI_add _ _) ?_
  refine kc_sld (i := i + 2) hx hb hXs hbl hbA hS (by omega) (by omega) dL_law_1304 ?_
  refine kc_top hp2 ?_
  refine lv_aload_n hx hb dL_law_1305 rfl (lv_at hl 3 rfl) ?_
  have hX := kc_xat hX0 hS
  refine kc_hXi (w1 := wLh ad cI cd te ri pi pw K Dn mv ko so tl lp lb ld le C cl dq dy cL ou) (wr := [(md 0, .inr (3, [.int th, .int (nI mK), .ref (md 1), .int (nI mD), .ref (md 2), .int mw, .int my, .int (nI mC), .ref (md 3), .ref (md 4), .ref (md 5), .ref (md 6), .ref (md 7), .ref (md 8), .ref (md 9)])), (md 1, .inl (cI, 8, .inl mc)), (md 2, .inl (cI, 8, .inl mr)), (md 3, .inl (cI, 24, .inl mk)), (md 4, .inl (cI, 24, .inl ms)), (md 5, .inl (cI, 24, .inl mu)), (md 6, .inl (cI, 24, .inl mt)), (md 7, .inl (cI, 216, .inl mp)), (md 8, .inl (cI, 216, .inl mb)), (md 9, .inl (cI, 216, .inl me))]) (ws1 := wLaw ad cI cd te ri pi pw K Dn mv ko so tl lp lb ld le C cl dq dy cL ou md th mK mc mD mr mw my mC mk ms mu mt mp mb me) (As := [.ref (ad 14), .int x, .int wh, .ref (ad 17)]) (rest := []) ⟨hx, hb, hml, hown, hts⟩ (c_L_copy_f1 l hlf D ad cI cd te ri pi pw K Dn mv ko so tl lp lb ld le C cl dq dy cL ou x wh H.size hBad) (vx_cwSW 4 hts gL_law_L_copy rfl rfl rfl (by decide +kernel) ⟨Nat.le_of_ble_eq_true rfl, Nat.le_of_ble_eq_true rfl⟩) hK hP hD hX hS hA [0, 1, 2, 3, 4, 5, 6, 7, 8, 9, 10, 11, 12, 13, 14, 15, 16, 17] [18, 19, 20, 21, 22, 23, 24, 25, 26, 27] [10, 11, 12, 13, 14, 15, 16, 17, 18, 19, 20, 21, 22, 23, 24, 25, 26, 27, 0, 1, 2, 3, 4, 5, 6, 7, 8, 9] [0, 1] rfl rfl rfl rfl (by decide) rfl rfl rfl rfl hl.1 rfl (Nat.le_of_ble_eq_true rfl) dL_law_1306 ⟨kc_rc (by omega), kc_rs (by omega)⟩ (fun H locs hP hD hS => ?_)
  refine lv_istore (lv' := [(5, .int 1), (0, .ref b), (1, .ref (ad 14)), (2, .ref (md 0)), (3, .ref (ad 17)), (4, .int (nI i))]) hx hb dL_law_1309 hl (by decide) rfl (fun ls hl => ?_)
  refine lv_aload_n hx hb dL_law_1311 rfl (lv_at hl 3 rfl) ?_
  refine lv_aload_n hx hb dL_law_1312 rfl (lv_at hl 1 rfl) ?_
  refine lv_iload hx hb dL_law_1313 (lv_at hl 5 rfl) ?_
  refine lv_iconst (v := 1) hx hb dL_law_1315 (by decide) ?_
  refine lv_iadd hx hb dL_law_1316 ?_
  refine kc_top (show (nI i) + 1 = nI (i + 1) from nI_add _ _) ?_
  refine kc_sld (i := i + 1) hx hb hXs hbl hbA hS (by omega) (by omega) dL_law_1317 ?_
  refine kc_top hp1 ?_
  refine lv_aload_n hx hb dL_law_1318 rfl (lv_at hl 1 rfl) ?_
  refine lv_iload hx hb dL_law_1319 (lv_at hl 5 rfl) ?_
  refine lv_iconst (v := 2) hx hb dL_law_1321 (by decide) ?_
  refine lv_iadd hx hb dL_law_1322 ?_
  refine kc_top (show (nI i) + 2 = nI (i + 2) from nI_add _ _) ?_
  refine kc_sld (i := i + 2) hx hb hXs hbl hbA hS (by omega) (by omega) dL_law_1323 ?_
  refine kc_top hp2 ?_
  refine kc_wVi (w1 := wMd md cI 1 mK mc mD mr mw my mC mk ms mu mt mp mb me) (wr := [(ad 0, .inr (1, [.ref (ad 1), .ref (ad 2), .ref (ad 3), .ref (ad 4), .ref (ad 5), .int (nI K), .int (nI Dn), .int mv])), (ad 1, .inl (cI, 8, .inl cd)), (ad 2, .inl (cI, 8, .inl te)), (ad 3, .inl (cI, 8, .inl ri)), (ad 4, .inl (cI, 8, .inl pi)), (ad 5, .inl (cI, 8, .inl pw)), (ad 6, .inr (0, [.ref (ad 7), .ref (ad 8), .ref (ad 9), .ref (ad 10), .ref (ad 11), .ref (ad 12), .ref (ad 13), .int (nI C)])), (ad 7, .inl (cI, 24, .inl ko)), (ad 8, .inl (cI, 24, .inl so)), (ad 9, .inl (cI, 24, .inl tl)), (ad 10, .inl (cI, 216, .inl lp)), (ad 11, .inl (cI, 216, .inl lb)), (ad 12, .inl (cI, 216, .inl ld)), (ad 13, .inl (cI, 216, .inl le)), (ad 14, .inr (2, [.ref (ad 0), .ref (ad 6), .ref (ad 15), .ref (ad 16), .int dy])), (ad 15, .inl (cI, 8, .inl cl)), (ad 16, .inl (cI, 8, .inl dq)), (ad 17, .inl (cL, 1, .inr (.inl ou)))]) (ws1 := wLaw ad cI cd te ri pi pw K Dn mv ko so tl lp lb ld le C cl dq dy cL ou md 1 mK mc mD mr mw my mC mk ms mu mt mp mb me) (As := [.int x, .int wh]) (rest := []) ⟨hx, hb, hml, hown, hts⟩ (c_X3_copy_f1 l D md cI th mK mc mD mr mw my mC mk ms mu mt mp mb me x wh H.size m_hBad) (cwV 2 hts gL_law_X3_copy rfl rfl rfl (by decide +kernel) ⟨Nat.le_of_ble_eq_true rfl, Nat.le_of_ble_eq_true rfl⟩) hK hP hD hS hA [18, 19, 20, 21, 22, 23, 24, 25, 26, 27] [0, 1, 2, 3, 4, 5, 6, 7, 8, 9, 10, 11, 12, 13, 14, 15, 16, 17] [0, 1, 2, 3, 4, 5, 6, 7, 8, 9, 10, 11, 12, 13, 14, 15, 16, 17, 18, 19, 20, 21, 22, 23, 24, 25, 26, 27] [0] rfl rfl rfl rfl (by decide) rfl rfl rfl 18 rfl rfl rfl rfl hl.1 rfl (Nat.le_of_ble_eq_true rfl) dL_law_1324 ⟨kc_rc (by omega), kc_rs (by omega)⟩ (fun H locs hP hD hS => ?_)
  refine lv_istore (lv' := [(6, .int 0), (5, .int 1), (0, .ref b), (1, .ref (ad 14)), (2, .ref (md 0)), (3, .ref (ad 17)), (4, .int (nI i))]) hx hb dL_law_1327 hl (by decide) rfl (fun ls hl => ?_)
  refine lv_aload_n hx hb dL_law_1329 rfl (lv_at hl 4 rfl) ?_
  refine kc_rVi (As := []) (rest := []) ⟨hx, hb, hml, hown, hts⟩ (c_X3_thrown l D md cI 1 mK mc mD mr mw my mC mk ms mu mt mp mb me ) (cwV 0 hts gL_law_X3_thrown rfl rfl rfl (by decide +kernel) ⟨Nat.le_of_ble_eq_true rfl, Nat.le_of_ble_eq_true rfl⟩) hK hP [18, 19, 20, 21, 22, 23, 24, 25, 26, 27] [0] rfl rfl 18 rfl rfl rfl rfl hl.1 rfl (Nat.le_of_ble_eq_true rfl) dL_law_1330 ⟨kc_rc (by omega), kc_rs (by omega)⟩ ?_
  refine lv_iload hx hb dL_law_1333 (lv_at hl 1 rfl) ?_
  refine lv_icmp_eq (tgt := 1340) hx hb dL_law_1335 (by decide) (fun c_1335 => ?_) (fun c_1335 => absurd c_1335 (by decide))
  refine lv_iload hx hb dL_law_1340 (lv_at hl 1 rfl) ?_
  refine lv_if_ne (tgt := 1357) hx hb dL_law_1342 (by decide) (fun c_1342 => ?_) (fun c_1342 => absurd c_1342 (by decide))
  refine lv_goto (tgt := 1633) hx hb dL_law_1357 (by decide) ?_
  refine W.widen (k := cells + 2) (n := slots + 16) (by omega) (by omega) ?_
  exact K1 _ _ _ hP hD hS (lv_sub hl [2, 3, 4, 5, 6] rfl)
set_option maxHeartbeats 4000000 in
set_option maxRecDepth 100000 in
theorem lw_copy_f2_f2 {p : Program} {l : Launch} {e : Env} {s : State} {m : MethodId} {below : List Frame} {meth : Method} {c : Code} {Q : State → Prop} {b L : Nat} {xs : Nat → Int32} (hlf : l.stackTraces = false) (C0 : lw_At p s m meth c b L xs) {D : va_G} {cI cL : ClassId} (hK : kcK D [(cI, .int), (cL, .long)] s) (hX0 : kcX (fun q => s.heap.size ≤ q) s s.heap) (hL : L ≤ 2048) (i : Nat) (hi : i + 3 < L) (ad : Nat → Nat) (cd : Nat → Int32) (te : Nat → Int32) (ri : Nat → Int32) (pi : Nat → Int32) (pw : Nat → Int32) (K : Nat) (Dn : Nat) (mv : Int32) (ko : Nat → Int32) (so : Nat → Int32) (tl : Nat → Int32) (lp : Nat → Int32) (lb : Nat → Int32) (ld : Nat → Int32) (le : Nat → Int32) (C : Nat) (cl : Nat → Int32) (dq : Nat → Int32) (dy : Int32) (ou : Nat → Int64) (md : Nat → Nat) (th : Int32) (mK : Nat) (mc : Nat → Int32) (mD : Nat) (mr : Nat → Int32) (mw : Int32) (my : Int32) (mC : Nat) (mk : Nat → Int32) (ms : Nat → Int32) (mu : Nat → Int32) (mt : Nat → Int32) (mp : Nat → Int32) (mb : Nat → Int32) (me : Nat → Int32) (cx : Nat) (wh : Int32) (hC24 : C ≤ 24) (hc : cx < C) (hBad : ¬ jIn 5 wh = true) (m_hC24 : mC ≤ 24) (m_hc : cx < mC) (m_hBad : ¬ jIn 5 wh = true) (hp1 : xs (i + 1) = nI cx) (hp2 : xs (i + 2) = wh)  {H : Heap} {locs : List Loc} {cells slots : Nat} (hce : cells + 2 ≤ 601024) (hsl : slots + 16 ≤ 7293034) (hP : va_P D vwCl (wLaw ad cI cd te ri pi pw K Dn mv ko so tl lp lb ld le C cl dq dy cL ou md th mK mc mD mr mw my mC mk ms mu mt mp mb me) H) (hD : va_D (fun q => s.heap.size ≤ q) (wLaw ad cI cd te ri pi pw K Dn mv ko so tl lp lb ld le C cl dq dy cL ou md th mK mc mD mr mw my mC mk ms mu mt mp mb me)) (hS : va_S (fun q => s.heap.size ≤ q) s.heap H locs) {ls : Array Slot} (hl : lv_has ls 9 [(0, .ref b), (1, .ref (ad 14)), (2, .ref (md 0)), (3, .ref (ad 17)), (4, .int (nI i))]) (K1 : ∀ (H : Heap) (locs : List Loc) (ls : Array Slot), va_P D vwCl (wLaw ad cI cd te ri pi pw K Dn mv ko so tl lp lb ld le C cl dq dy cL ou md 1 mK mc mD mr mw my mC mk ms mu mt mp mb me) H → va_D (fun q => s.heap.size ≤ q) (wLaw ad cI cd te ri pi pw K Dn mv ko so tl lp lb ld le C cl dq dy cL ou md 1 mK mc mD mr mw my mC mk ms mu mt mp mb me) → va_S (fun q => s.heap.size ≤ q) s.heap H locs → lv_has ls 9 [(0, .ref b), (1, .ref (ad 14)), (2, .ref (md 0)), (3, .ref (ad 17)), (4, .int (nI i))] → W p l e room_1 s m #[Value.ref b] below meth c H locs (cells + 2) (slots + 16) Q (F0 m 1633 ls [])) : W p l e room_1 s m #[Value.ref b] below meth c H locs cells slots Q (F0 m 1292 ls []) := by
  obtain ⟨hx, hb, hr, hml, hown, hts, hXs, hbl, hlocks, hgv⟩ := id C0
  have hts := fun w h => hts w (wsL_law_in w h)
  have hb : c.code = cL_law := hb
  have hA : ∀ q : Nat, s.heap.size ≤ q → (fun q : Nat => s.heap.size ≤ q) q := fun _ h => h
  have hbA : ¬ (fun q : Nat => s.heap.size ≤ q) b := Nat.not_le.mpr hbl
  refine lv_aload_n hx hb dL_law_1292 rfl (lv_at hl 1 rfl) ?_
  refine lv_aload_n hx hb dL_law_1293 rfl (lv_at hl 0 rfl) ?_
  refine lv_iload hx hb dL_law_1294 (lv_at hl 4 rfl) ?_
  refine lv_iconst (v := 1) hx hb dL_law_1296 (by decide) ?_
  refine lv_iadd hx hb dL_law_1297 ?_
  refine kc_top (show (nI i) + 1 = nI (i + 1) from nI_add _ _) ?_
  refine kc_sld (i := i + 1) hx hb hXs hbl hbA hS (by omega) (by omega) dL_law_1298 ?_
  refine kc_top hp1 ?_
  refine lv_aload_n hx hb dL_law_1299 rfl (lv_at hl 0 rfl) ?_
  refine lv_iload hx hb dL_law_1300 (lv_at hl 4 rfl) ?_
  refine lv_iconst (v := 2) hx hb dL_law_1302 (by decide) ?_
  refine lv_iadd hx hb dL_law_1303 ?_
  refine kc_top (show (nI i) + 2 = nI (i + 2) from nI_add _ _) ?_
  refine kc_sld (i := i + 2) hx hb hXs hbl hbA hS (by omega) (by omega) dL_law_1304 ?_
  refine kc_top hp2 ?_
  refine lv_aload_n hx hb dL_law_1305 rfl (lv_at hl 3 rfl) ?_
  have hX := kc_xat hX0 hS
  refine kc_hXi (w1 := wLh ad cI cd te ri pi pw K Dn mv ko so tl lp lb ld le C cl dq dy cL ou) (wr := [(md 0, .inr (3, [.int th, .int (nI mK), .ref (md 1), .int (nI mD), .ref (md 2), .int mw, .int my, .int (nI mC), .ref (md 3), .ref (md 4), .ref (md 5), .ref (md 6), .ref (md 7), .ref (md 8), .ref (md 9)])), (md 1, .inl (cI, 8, .inl mc)), (md 2, .inl (cI, 8, .inl mr)), (md 3, .inl (cI, 24, .inl mk)), (md 4, .inl (cI, 24, .inl ms)), (md 5, .inl (cI, 24, .inl mu)), (md 6, .inl (cI, 24, .inl mt)), (md 7, .inl (cI, 216, .inl mp)), (md 8, .inl (cI, 216, .inl mb)), (md 9, .inl (cI, 216, .inl me))]) (ws1 := wLaw ad cI cd te ri pi pw K Dn mv ko so tl lp lb ld le C cl dq dy cL ou md th mK mc mD mr mw my mC mk ms mu mt mp mb me) (As := [.ref (ad 14), .int (nI cx), .int wh, .ref (ad 17)]) (rest := []) ⟨hx, hb, hml, hown, hts⟩ (c_L_copy_f2 l hlf D ad cI cd te ri pi pw K Dn mv ko so tl lp lb ld le C cl dq dy cL ou cx wh H.size hC24 hc hBad) (vx_cwSW 4 hts gL_law_L_copy rfl rfl rfl (by decide +kernel) ⟨Nat.le_of_ble_eq_true rfl, Nat.le_of_ble_eq_true rfl⟩) hK hP hD hX hS hA [0, 1, 2, 3, 4, 5, 6, 7, 8, 9, 10, 11, 12, 13, 14, 15, 16, 17] [18, 19, 20, 21, 22, 23, 24, 25, 26, 27] [10, 11, 12, 13, 14, 15, 16, 17, 18, 19, 20, 21, 22, 23, 24, 25, 26, 27, 0, 1, 2, 3, 4, 5, 6, 7, 8, 9] [0, 1] rfl rfl rfl rfl (by decide) rfl rfl rfl rfl hl.1 rfl (Nat.le_of_ble_eq_true rfl) dL_law_1306 ⟨kc_rc (by omega), kc_rs (by omega)⟩ (fun H locs hP hD hS => ?_)
  refine lv_istore (lv' := [(5, .int 1), (0, .ref b), (1, .ref (ad 14)), (2, .ref (md 0)), (3, .ref (ad 17)), (4, .int (nI i))]) hx hb dL_law_1309 hl (by decide) rfl (fun ls hl => ?_)
  refine lv_aload_n hx hb dL_law_1311 rfl (lv_at hl 3 rfl) ?_
  refine lv_aload_n hx hb dL_law_1312 rfl (lv_at hl 1 rfl) ?_
  refine lv_iload hx hb dL_law_1313 (lv_at hl 5 rfl) ?_
  refine lv_iconst (v := 1) hx hb dL_law_1315 (by decide) ?_
  refine lv_iadd hx hb dL_law_1316 ?_
  refine kc_top (show (nI i) + 1 = nI (i + 1) from nI_add _ _) ?_
  refine kc_sld (i := i + 1) hx hb hXs hbl hbA hS (by omega) (by omega) dL_law_1317 ?_
  refine kc_top hp1 ?_
  refine lv_aload_n hx hb dL_law_1318 rfl (lv_at hl 1 rfl) ?_
  refine lv_iload hx hb dL_law_1319 (lv_at hl 5 rfl) ?_
  refine lv_iconst (v := 2) hx hb dL_law_1321 (by decide) ?_
  refine lv_iadd hx hb dL_law_1322 ?_
  refine kc_top (show (nI i) + 2 = nI (i + 2) from nI_add _ _) ?_
  refine kc_sld (i := i + 2) hx hb hXs hbl hbA hS (by omega) (by omega) dL_law_1323 ?_
  refine kc_top hp2 ?_
  refine kc_wVi (w1 := wMd md cI 1 mK mc mD mr mw my mC mk ms mu mt mp mb me) (wr := [(ad 0, .inr (1, [.ref (ad 1), .ref (ad 2), .ref (ad 3), .ref (ad 4), .ref (ad 5), .int (nI K), .int (nI Dn), .int mv])), (ad 1, .inl (cI, 8, .inl cd)), (ad 2, .inl (cI, 8, .inl te)), (ad 3, .inl (cI, 8, .inl ri)), (ad 4, .inl (cI, 8, .inl pi)), (ad 5, .inl (cI, 8, .inl pw)), (ad 6, .inr (0, [.ref (ad 7), .ref (ad 8), .ref (ad 9), .ref (ad 10), .ref (ad 11), .ref (ad 12), .ref (ad 13), .int (nI C)])), (ad 7, .inl (cI, 24, .inl ko)), (ad 8, .inl (cI, 24, .inl so)), (ad 9, .inl (cI, 24, .inl tl)), (ad 10, .inl (cI, 216, .inl lp)), (ad 11, .inl (cI, 216, .inl lb)), (ad 12, .inl (cI, 216, .inl ld)), (ad 13, .inl (cI, 216, .inl le)), (ad 14, .inr (2, [.ref (ad 0), .ref (ad 6), .ref (ad 15), .ref (ad 16), .int dy])), (ad 15, .inl (cI, 8, .inl cl)), (ad 16, .inl (cI, 8, .inl dq)), (ad 17, .inl (cL, 1, .inr (.inl ou)))]) (ws1 := wLaw ad cI cd te ri pi pw K Dn mv ko so tl lp lb ld le C cl dq dy cL ou md 1 mK mc mD mr mw my mC mk ms mu mt mp mb me) (As := [.int (nI cx), .int wh]) (rest := []) ⟨hx, hb, hml, hown, hts⟩ (c_X3_copy_f2 l D md cI th mK mc mD mr mw my mC mk ms mu mt mp mb me cx wh H.size m_hC24 m_hc m_hBad) (cwV 2 hts gL_law_X3_copy rfl rfl rfl (by decide +kernel) ⟨Nat.le_of_ble_eq_true rfl, Nat.le_of_ble_eq_true rfl⟩) hK hP hD hS hA [18, 19, 20, 21, 22, 23, 24, 25, 26, 27] [0, 1, 2, 3, 4, 5, 6, 7, 8, 9, 10, 11, 12, 13, 14, 15, 16, 17] [0, 1, 2, 3, 4, 5, 6, 7, 8, 9, 10, 11, 12, 13, 14, 15, 16, 17, 18, 19, 20, 21, 22, 23, 24, 25, 26, 27] [0] rfl rfl rfl rfl (by decide) rfl rfl rfl 18 rfl rfl rfl rfl hl.1 rfl (Nat.le_of_ble_eq_true rfl) dL_law_1324 ⟨kc_rc (by omega), kc_rs (by omega)⟩ (fun H locs hP hD hS => ?_)
  refine lv_istore (lv' := [(6, .int 0), (5, .int 1), (0, .ref b), (1, .ref (ad 14)), (2, .ref (md 0)), (3, .ref (ad 17)), (4, .int (nI i))]) hx hb dL_law_1327 hl (by decide) rfl (fun ls hl => ?_)
  refine lv_aload_n hx hb dL_law_1329 rfl (lv_at hl 4 rfl) ?_
  refine kc_rVi (As := []) (rest := []) ⟨hx, hb, hml, hown, hts⟩ (c_X3_thrown l D md cI 1 mK mc mD mr mw my mC mk ms mu mt mp mb me ) (cwV 0 hts gL_law_X3_thrown rfl rfl rfl (by decide +kernel) ⟨Nat.le_of_ble_eq_true rfl, Nat.le_of_ble_eq_true rfl⟩) hK hP [18, 19, 20, 21, 22, 23, 24, 25, 26, 27] [0] rfl rfl 18 rfl rfl rfl rfl hl.1 rfl (Nat.le_of_ble_eq_true rfl) dL_law_1330 ⟨kc_rc (by omega), kc_rs (by omega)⟩ ?_
  refine lv_iload hx hb dL_law_1333 (lv_at hl 1 rfl) ?_
  refine lv_icmp_eq (tgt := 1340) hx hb dL_law_1335 (by decide) (fun c_1335 => ?_) (fun c_1335 => absurd c_1335 (by decide))
  refine lv_iload hx hb dL_law_1340 (lv_at hl 1 rfl) ?_
  refine lv_if_ne (tgt := 1357) hx hb dL_law_1342 (by decide) (fun c_1342 => ?_) (fun c_1342 => absurd c_1342 (by decide))
  refine lv_goto (tgt := 1633) hx hb dL_law_1357 (by decide) ?_
  refine W.widen (k := cells + 2) (n := slots + 16) (by omega) (by omega) ?_
  exact K1 _ _ _ hP hD hS (lv_sub hl [2, 3, 4, 5, 6] rfl)
set_option maxHeartbeats 4000000 in
set_option maxRecDepth 100000 in
theorem lw_holderAt_ok_ok {p : Program} {l : Launch} {e : Env} {s : State} {m : MethodId} {below : List Frame} {meth : Method} {c : Code} {Q : State → Prop} {b L : Nat} {xs : Nat → Int32} (hlf : l.stackTraces = false) (C0 : lw_At p s m meth c b L xs) {D : va_G} {cI cL : ClassId} (hK : kcK D [(cI, .int), (cL, .long)] s) (hX0 : kcX (fun q => s.heap.size ≤ q) s s.heap) (hL : L ≤ 2048) (i : Nat) (hi : i + 3 < L) (ad : Nat → Nat) (cd : Nat → Int32) (te : Nat → Int32) (ri : Nat → Int32) (pi : Nat → Int32) (pw : Nat → Int32) (K : Nat) (Dn : Nat) (mv : Int32) (ko : Nat → Int32) (so : Nat → Int32) (tl : Nat → Int32) (lp : Nat → Int32) (lb : Nat → Int32) (ld : Nat → Int32) (le : Nat → Int32) (C : Nat) (cl : Nat → Int32) (dq : Nat → Int32) (dy : Int32) (ou : Nat → Int64) (md : Nat → Nat) (th : Int32) (mK : Nat) (mc : Nat → Int32) (mD : Nat) (mr : Nat → Int32) (mw : Int32) (my : Int32) (mC : Nat) (mk : Nat → Int32) (ms : Nat → Int32) (mu : Nat → Int32) (mt : Nat → Int32) (mp : Nat → Int32) (mb : Nat → Int32) (me : Nat → Int32) (cx : Nat) (da : Int32) (tn : Nat → Nat) (hC24 : C ≤ 24) (hc : cx < C) (hok : okLe so tl tn) (hz1 : ¬ da < 0) (hz2 : da ≤ dy) (m_hC24 : mC ≤ 24) (m_hc : cx < mC) (m_hok : okLe ms mt tn) (m_hz1 : ¬ da < 0) (m_hz2 : da ≤ my) (hp1 : xs (i + 1) = nI cx) (hp2 : xs (i + 2) = da) (hres : (jHolderOn lp lb le cx (tn cx) da : Int32) = (mHolderAt mp mb me cx da (tn cx))) {H : Heap} {locs : List Loc} {cells slots : Nat} (hce : cells + 2 ≤ 601024) (hsl : slots + 16 ≤ 7293034) (hP : va_P D vwCl (wLaw ad cI cd te ri pi pw K Dn mv ko so tl lp lb ld le C cl dq dy cL ou md th mK mc mD mr mw my mC mk ms mu mt mp mb me) H) (hD : va_D (fun q => s.heap.size ≤ q) (wLaw ad cI cd te ri pi pw K Dn mv ko so tl lp lb ld le C cl dq dy cL ou md th mK mc mD mr mw my mC mk ms mu mt mp mb me)) (hS : va_S (fun q => s.heap.size ≤ q) s.heap H locs) {ls : Array Slot} (hl : lv_has ls 9 [(0, .ref b), (1, .ref (ad 14)), (2, .ref (md 0)), (3, .ref (ad 17)), (4, .int (nI i))]) (K1 : ∀ (H : Heap) (locs : List Loc) (ls : Array Slot), va_P D vwCl (wLaw ad cI cd te ri pi pw K Dn mv ko so tl lp lb ld le C cl dq dy cL (vp_updL ou 0 (Int32.toInt64 (jHolderOn lp lb le cx (tn cx) da))) md 0 mK mc mD mr mw my mC mk ms mu mt mp mb me) H → va_D (fun q => s.heap.size ≤ q) (wLaw ad cI cd te ri pi pw K Dn mv ko so tl lp lb ld le C cl dq dy cL (vp_updL ou 0 (Int32.toInt64 (jHolderOn lp lb le cx (tn cx) da))) md 0 mK mc mD mr mw my mC mk ms mu mt mp mb me) → va_S (fun q => s.heap.size ≤ q) s.heap H locs → lv_has ls 9 [(0, .ref b), (1, .ref (ad 14)), (2, .ref (md 0)), (3, .ref (ad 17)), (4, .int (nI i))] → W p l e room_1 s m #[Value.ref b] below meth c H locs (cells + 2) (slots + 16) Q (F0 m 1633 ls [])) : W p l e room_1 s m #[Value.ref b] below meth c H locs cells slots Q (F0 m 1373 ls []) := by
  obtain ⟨hx, hb, hr, hml, hown, hts, hXs, hbl, hlocks, hgv⟩ := id C0
  have hts := fun w h => hts w (wsL_law_in w h)
  have hb : c.code = cL_law := hb
  have hA : ∀ q : Nat, s.heap.size ≤ q → (fun q : Nat => s.heap.size ≤ q) q := fun _ h => h
  have hbA : ¬ (fun q : Nat => s.heap.size ≤ q) b := Nat.not_le.mpr hbl
  refine lv_aload_n hx hb dL_law_1373 rfl (lv_at hl 1 rfl) ?_
  refine lv_aload_n hx hb dL_law_1374 rfl (lv_at hl 0 rfl) ?_
  refine lv_iload hx hb dL_law_1375 (lv_at hl 4 rfl) ?_
  refine lv_iconst (v := 1) hx hb dL_law_1377 (by decide) ?_
  refine lv_iadd hx hb dL_law_1378 ?_
  refine kc_top (show (nI i) + 1 = nI (i + 1) from nI_add _ _) ?_
  refine kc_sld (i := i + 1) hx hb hXs hbl hbA hS (by omega) (by omega) dL_law_1379 ?_
  refine kc_top hp1 ?_
  refine lv_aload_n hx hb dL_law_1380 rfl (lv_at hl 0 rfl) ?_
  refine lv_iload hx hb dL_law_1381 (lv_at hl 4 rfl) ?_
  refine lv_iconst (v := 2) hx hb dL_law_1383 (by decide) ?_
  refine lv_iadd hx hb dL_law_1384 ?_
  refine kc_top (show (nI i) + 2 = nI (i + 2) from nI_add _ _) ?_
  refine kc_sld (i := i + 2) hx hb hXs hbl hbA hS (by omega) (by omega) dL_law_1385 ?_
  refine kc_top hp2 ?_
  refine lv_aload_n hx hb dL_law_1386 rfl (lv_at hl 3 rfl) ?_
  refine kc_hSi (w1 := wLh ad cI cd te ri pi pw K Dn mv ko so tl lp lb ld le C cl dq dy cL (vp_updL ou 0 (Int32.toInt64 (jHolderOn lp lb le cx (tn cx) da)))) (wr := [(md 0, .inr (3, [.int th, .int (nI mK), .ref (md 1), .int (nI mD), .ref (md 2), .int mw, .int my, .int (nI mC), .ref (md 3), .ref (md 4), .ref (md 5), .ref (md 6), .ref (md 7), .ref (md 8), .ref (md 9)])), (md 1, .inl (cI, 8, .inl mc)), (md 2, .inl (cI, 8, .inl mr)), (md 3, .inl (cI, 24, .inl mk)), (md 4, .inl (cI, 24, .inl ms)), (md 5, .inl (cI, 24, .inl mu)), (md 6, .inl (cI, 24, .inl mt)), (md 7, .inl (cI, 216, .inl mp)), (md 8, .inl (cI, 216, .inl mb)), (md 9, .inl (cI, 216, .inl me))]) (ws1 := wLaw ad cI cd te ri pi pw K Dn mv ko so tl lp lb ld le C cl dq dy cL (vp_updL ou 0 (Int32.toInt64 (jHolderOn lp lb le cx (tn cx) da))) md th mK mc mD mr mw my mC mk ms mu mt mp mb me) (As := [.ref (ad 14), .int (nI cx), .int da, .ref (ad 17)]) (rest := []) ⟨hx, hb, hml, hown, hts⟩ (c_L_holderAt_ok l D ad cI cd te ri pi pw K Dn mv ko so tl lp lb ld le C cl dq dy cL ou cx da tn H.size hC24 hc hok hz1 hz2) (vx_cwSW 4 hts gL_law_L_holderAt rfl rfl rfl (by decide +kernel) ⟨Nat.le_of_ble_eq_true rfl, Nat.le_of_ble_eq_true rfl⟩) hK hP hD hS hA [0, 1, 2, 3, 4, 5, 6, 7, 8, 9, 10, 11, 12, 13, 14, 15, 16, 17] [18, 19, 20, 21, 22, 23, 24, 25, 26, 27] [10, 11, 12, 13, 14, 15, 16, 17, 18, 19, 20, 21, 22, 23, 24, 25, 26, 27, 0, 1, 2, 3, 4, 5, 6, 7, 8, 9] [0, 1] rfl rfl rfl rfl (by decide) rfl rfl rfl rfl hl.1 rfl (Nat.le_of_ble_eq_true rfl) dL_law_1387 ⟨kc_rc (by omega), kc_rs (by omega)⟩ (fun H locs hP hD hS => ?_)
  refine lv_istore (lv' := [(5, .int 0), (0, .ref b), (1, .ref (ad 14)), (2, .ref (md 0)), (3, .ref (ad 17)), (4, .int (nI i))]) hx hb dL_law_1390 hl (by decide) rfl (fun ls hl => ?_)
  refine lv_aload_n hx hb dL_law_1392 rfl (lv_at hl 3 rfl) ?_
  refine lv_aload_n hx hb dL_law_1393 rfl (lv_at hl 1 rfl) ?_
  refine lv_iload hx hb dL_law_1394 (lv_at hl 5 rfl) ?_
  refine lv_iconst (v := 1) hx hb dL_law_1396 (by decide) ?_
  refine lv_iadd hx hb dL_law_1397 ?_
  refine kc_top (show (nI i) + 1 = nI (i + 1) from nI_add _ _) ?_
  refine kc_sld (i := i + 1) hx hb hXs hbl hbA hS (by omega) (by omega) dL_law_1398 ?_
  refine kc_top hp1 ?_
  refine lv_aload_n hx hb dL_law_1399 rfl (lv_at hl 1 rfl) ?_
  refine lv_iload hx hb dL_law_1400 (lv_at hl 5 rfl) ?_
  refine lv_iconst (v := 2) hx hb dL_law_1402 (by decide) ?_
  refine lv_iadd hx hb dL_law_1403 ?_
  refine kc_top (show (nI i) + 2 = nI (i + 2) from nI_add _ _) ?_
  refine kc_sld (i := i + 2) hx hb hXs hbl hbA hS (by omega) (by omega) dL_law_1404 ?_
  refine kc_top hp2 ?_
  refine kc_wVi (w1 := wMd md cI 0 mK mc mD mr mw my mC mk ms mu mt mp mb me) (wr := [(ad 0, .inr (1, [.ref (ad 1), .ref (ad 2), .ref (ad 3), .ref (ad 4), .ref (ad 5), .int (nI K), .int (nI Dn), .int mv])), (ad 1, .inl (cI, 8, .inl cd)), (ad 2, .inl (cI, 8, .inl te)), (ad 3, .inl (cI, 8, .inl ri)), (ad 4, .inl (cI, 8, .inl pi)), (ad 5, .inl (cI, 8, .inl pw)), (ad 6, .inr (0, [.ref (ad 7), .ref (ad 8), .ref (ad 9), .ref (ad 10), .ref (ad 11), .ref (ad 12), .ref (ad 13), .int (nI C)])), (ad 7, .inl (cI, 24, .inl ko)), (ad 8, .inl (cI, 24, .inl so)), (ad 9, .inl (cI, 24, .inl tl)), (ad 10, .inl (cI, 216, .inl lp)), (ad 11, .inl (cI, 216, .inl lb)), (ad 12, .inl (cI, 216, .inl ld)), (ad 13, .inl (cI, 216, .inl le)), (ad 14, .inr (2, [.ref (ad 0), .ref (ad 6), .ref (ad 15), .ref (ad 16), .int dy])), (ad 15, .inl (cI, 8, .inl cl)), (ad 16, .inl (cI, 8, .inl dq)), (ad 17, .inl (cL, 1, .inr (.inl (vp_updL ou 0 (Int32.toInt64 (jHolderOn lp lb le cx (tn cx) da))))))]) (ws1 := wLaw ad cI cd te ri pi pw K Dn mv ko so tl lp lb ld le C cl dq dy cL (vp_updL ou 0 (Int32.toInt64 (jHolderOn lp lb le cx (tn cx) da))) md 0 mK mc mD mr mw my mC mk ms mu mt mp mb me) (As := [.int (nI cx), .int da]) (rest := []) ⟨hx, hb, hml, hown, hts⟩ (c_X3_holderAt_ok l D md cI th mK mc mD mr mw my mC mk ms mu mt mp mb me cx da tn H.size m_hC24 m_hc m_hok m_hz1 m_hz2) (cwV 2 hts gL_law_X3_holderAt rfl rfl rfl (by decide +kernel) ⟨Nat.le_of_ble_eq_true rfl, Nat.le_of_ble_eq_true rfl⟩) hK hP hD hS hA [18, 19, 20, 21, 22, 23, 24, 25, 26, 27] [0, 1, 2, 3, 4, 5, 6, 7, 8, 9, 10, 11, 12, 13, 14, 15, 16, 17] [0, 1, 2, 3, 4, 5, 6, 7, 8, 9, 10, 11, 12, 13, 14, 15, 16, 17, 18, 19, 20, 21, 22, 23, 24, 25, 26, 27] [0] rfl rfl rfl rfl (by decide) rfl rfl rfl 18 rfl rfl rfl rfl hl.1 rfl (Nat.le_of_ble_eq_true rfl) dL_law_1405 ⟨kc_rc (by omega), kc_rs (by omega)⟩ (fun H locs hP hD hS => ?_)
  refine lv_istore (lv' := [(6, .int (mHolderAt mp mb me cx da (tn cx))), (5, .int 0), (0, .ref b), (1, .ref (ad 14)), (2, .ref (md 0)), (3, .ref (ad 17)), (4, .int (nI i))]) hx hb dL_law_1408 hl (by decide) rfl (fun ls hl => ?_)
  refine lv_aload_n hx hb dL_law_1410 rfl (lv_at hl 4 rfl) ?_
  refine kc_rVi (As := []) (rest := []) ⟨hx, hb, hml, hown, hts⟩ (c_X3_thrown l D md cI 0 mK mc mD mr mw my mC mk ms mu mt mp mb me ) (cwV 0 hts gL_law_X3_thrown rfl rfl rfl (by decide +kernel) ⟨Nat.le_of_ble_eq_true rfl, Nat.le_of_ble_eq_true rfl⟩) hK hP [18, 19, 20, 21, 22, 23, 24, 25, 26, 27] [0] rfl rfl 18 rfl rfl rfl rfl hl.1 rfl (Nat.le_of_ble_eq_true rfl) dL_law_1411 ⟨kc_rc (by omega), kc_rs (by omega)⟩ ?_
  refine lv_iload hx hb dL_law_1414 (lv_at hl 1 rfl) ?_
  refine lv_icmp_eq (tgt := 1421) hx hb dL_law_1416 (by decide) (fun c_1416 => ?_) (fun c_1416 => absurd c_1416 (by decide))
  refine lv_iload hx hb dL_law_1421 (lv_at hl 1 rfl) ?_
  refine lv_if_ne (tgt := 1438) hx hb dL_law_1423 (by decide) (fun c_1423 => absurd c_1423 (by decide)) (fun c_1423 => ?_)
  refine lv_aload_n hx hb dL_law_1426 rfl (lv_at hl 5 rfl) ?_
  refine lv_iconst (v := 0) hx hb dL_law_1427 (by decide) ?_
  refine kc_lld (i := 0) (n := 1) hx hb hK hP 17 1 rfl rfl (by decide) (by decide) dL_law_1428 ?_
  refine kc_topl (show ((vp_updL ou 0 (Int32.toInt64 (jHolderOn lp lb le cx (tn cx) da)))) 0 = Int32.toInt64 (jHolderOn lp lb le cx (tn cx) da) from pk_uLs) ?_
  refine lv_iload hx hb dL_law_1429 (lv_at hl 0 rfl) ?_
  refine lv_i2l (v := Int32.toInt64 (mHolderAt mp mb me cx da (tn cx))) hx hb dL_law_1431 rfl ?_
  refine W.lcmp hx hb dL_law_1432 ?_
  refine kc_top (show lg_cmp (Int32.toInt64 (jHolderOn lp lb le cx (tn cx) da)) (Int32.toInt64 (mHolderAt mp mb me cx da (tn cx))) = 0 from kc_lcmp0 (congrArg Int32.toInt64 hres)) ?_
  refine lv_if_eq (tgt := 1438) hx hb dL_law_1433 (by decide) (fun c_1433 => ?_) (fun c_1433 => absurd c_1433 (by decide))
  refine lv_goto (tgt := 1633) hx hb dL_law_1438 (by decide) ?_
  refine W.widen (k := cells + 2) (n := slots + 16) (by omega) (by omega) ?_
  exact K1 _ _ _ hP hD hS (lv_sub hl [2, 3, 4, 5, 6] rfl)
set_option maxHeartbeats 4000000 in
set_option maxRecDepth 100000 in
theorem lw_holderAt_f1_f1 {p : Program} {l : Launch} {e : Env} {s : State} {m : MethodId} {below : List Frame} {meth : Method} {c : Code} {Q : State → Prop} {b L : Nat} {xs : Nat → Int32} (hlf : l.stackTraces = false) (C0 : lw_At p s m meth c b L xs) {D : va_G} {cI cL : ClassId} (hK : kcK D [(cI, .int), (cL, .long)] s) (hX0 : kcX (fun q => s.heap.size ≤ q) s s.heap) (hL : L ≤ 2048) (i : Nat) (hi : i + 3 < L) (ad : Nat → Nat) (cd : Nat → Int32) (te : Nat → Int32) (ri : Nat → Int32) (pi : Nat → Int32) (pw : Nat → Int32) (K : Nat) (Dn : Nat) (mv : Int32) (ko : Nat → Int32) (so : Nat → Int32) (tl : Nat → Int32) (lp : Nat → Int32) (lb : Nat → Int32) (ld : Nat → Int32) (le : Nat → Int32) (C : Nat) (cl : Nat → Int32) (dq : Nat → Int32) (dy : Int32) (ou : Nat → Int64) (md : Nat → Nat) (th : Int32) (mK : Nat) (mc : Nat → Int32) (mD : Nat) (mr : Nat → Int32) (mw : Int32) (my : Int32) (mC : Nat) (mk : Nat → Int32) (ms : Nat → Int32) (mu : Nat → Int32) (mt : Nat → Int32) (mp : Nat → Int32) (mb : Nat → Int32) (me : Nat → Int32) (x : Int32) (da : Int32) (hBad : ¬ jIn C x = true) (m_hBad : ¬ jIn mC x = true) (hp1 : xs (i + 1) = x) (hp2 : xs (i + 2) = da)  {H : Heap} {locs : List Loc} {cells slots : Nat} (hce : cells + 2 ≤ 601024) (hsl : slots + 16 ≤ 7293034) (hP : va_P D vwCl (wLaw ad cI cd te ri pi pw K Dn mv ko so tl lp lb ld le C cl dq dy cL ou md th mK mc mD mr mw my mC mk ms mu mt mp mb me) H) (hD : va_D (fun q => s.heap.size ≤ q) (wLaw ad cI cd te ri pi pw K Dn mv ko so tl lp lb ld le C cl dq dy cL ou md th mK mc mD mr mw my mC mk ms mu mt mp mb me)) (hS : va_S (fun q => s.heap.size ≤ q) s.heap H locs) {ls : Array Slot} (hl : lv_has ls 9 [(0, .ref b), (1, .ref (ad 14)), (2, .ref (md 0)), (3, .ref (ad 17)), (4, .int (nI i))]) (K1 : ∀ (H : Heap) (locs : List Loc) (ls : Array Slot), va_P D vwCl (wLaw ad cI cd te ri pi pw K Dn mv ko so tl lp lb ld le C cl dq dy cL ou md 1 mK mc mD mr mw my mC mk ms mu mt mp mb me) H → va_D (fun q => s.heap.size ≤ q) (wLaw ad cI cd te ri pi pw K Dn mv ko so tl lp lb ld le C cl dq dy cL ou md 1 mK mc mD mr mw my mC mk ms mu mt mp mb me) → va_S (fun q => s.heap.size ≤ q) s.heap H locs → lv_has ls 9 [(0, .ref b), (1, .ref (ad 14)), (2, .ref (md 0)), (3, .ref (ad 17)), (4, .int (nI i))] → W p l e room_1 s m #[Value.ref b] below meth c H locs (cells + 2) (slots + 16) Q (F0 m 1633 ls [])) : W p l e room_1 s m #[Value.ref b] below meth c H locs cells slots Q (F0 m 1373 ls []) := by
  obtain ⟨hx, hb, hr, hml, hown, hts, hXs, hbl, hlocks, hgv⟩ := id C0
  have hts := fun w h => hts w (wsL_law_in w h)
  have hb : c.code = cL_law := hb
  have hA : ∀ q : Nat, s.heap.size ≤ q → (fun q : Nat => s.heap.size ≤ q) q := fun _ h => h
  have hbA : ¬ (fun q : Nat => s.heap.size ≤ q) b := Nat.not_le.mpr hbl
  refine lv_aload_n hx hb dL_law_1373 rfl (lv_at hl 1 rfl) ?_
  refine lv_aload_n hx hb dL_law_1374 rfl (lv_at hl 0 rfl) ?_
  refine lv_iload hx hb dL_law_1375 (lv_at hl 4 rfl) ?_
  refine lv_iconst (v := 1) hx hb dL_law_1377 (by decide) ?_
  refine lv_iadd hx hb dL_law_1378 ?_
  refine kc_top (show (nI i) + 1 = nI (i + 1) from nI_add _ _) ?_
  refine kc_sld (i := i + 1) hx hb hXs hbl hbA hS (by omega) (by omega) dL_law_1379 ?_
  refine kc_top hp1 ?_
  refine lv_aload_n hx hb dL_law_1380 rfl (lv_at hl 0 rfl) ?_
  refine lv_iload hx hb dL_law_1381 (lv_at hl 4 rfl) ?_
  refine lv_iconst (v := 2) hx hb dL_law_1383 (by decide) ?_
  refine lv_iadd hx hb dL_law_1384 ?_
  refine kc_top (show (nI i) + 2 = nI (i + 2) from nI_add _ _) ?_
  refine kc_sld (i := i + 2) hx hb hXs hbl hbA hS (by omega) (by omega) dL_law_1385 ?_
  refine kc_top hp2 ?_
  refine lv_aload_n hx hb dL_law_1386 rfl (lv_at hl 3 rfl) ?_
  have hX := kc_xat hX0 hS
  refine kc_hXi (w1 := wLh ad cI cd te ri pi pw K Dn mv ko so tl lp lb ld le C cl dq dy cL ou) (wr := [(md 0, .inr (3, [.int th, .int (nI mK), .ref (md 1), .int (nI mD), .ref (md 2), .int mw, .int my, .int (nI mC), .ref (md 3), .ref (md 4), .ref (md 5), .ref (md 6), .ref (md 7), .ref (md 8), .ref (md 9)])), (md 1, .inl (cI, 8, .inl mc)), (md 2, .inl (cI, 8, .inl mr)), (md 3, .inl (cI, 24, .inl mk)), (md 4, .inl (cI, 24, .inl ms)), (md 5, .inl (cI, 24, .inl mu)), (md 6, .inl (cI, 24, .inl mt)), (md 7, .inl (cI, 216, .inl mp)), (md 8, .inl (cI, 216, .inl mb)), (md 9, .inl (cI, 216, .inl me))]) (ws1 := wLaw ad cI cd te ri pi pw K Dn mv ko so tl lp lb ld le C cl dq dy cL ou md th mK mc mD mr mw my mC mk ms mu mt mp mb me) (As := [.ref (ad 14), .int x, .int da, .ref (ad 17)]) (rest := []) ⟨hx, hb, hml, hown, hts⟩ (c_L_holderAt_f1 l hlf D ad cI cd te ri pi pw K Dn mv ko so tl lp lb ld le C cl dq dy cL ou x da H.size hBad) (vx_cwSW 4 hts gL_law_L_holderAt rfl rfl rfl (by decide +kernel) ⟨Nat.le_of_ble_eq_true rfl, Nat.le_of_ble_eq_true rfl⟩) hK hP hD hX hS hA [0, 1, 2, 3, 4, 5, 6, 7, 8, 9, 10, 11, 12, 13, 14, 15, 16, 17] [18, 19, 20, 21, 22, 23, 24, 25, 26, 27] [10, 11, 12, 13, 14, 15, 16, 17, 18, 19, 20, 21, 22, 23, 24, 25, 26, 27, 0, 1, 2, 3, 4, 5, 6, 7, 8, 9] [0, 1] rfl rfl rfl rfl (by decide) rfl rfl rfl rfl hl.1 rfl (Nat.le_of_ble_eq_true rfl) dL_law_1387 ⟨kc_rc (by omega), kc_rs (by omega)⟩ (fun H locs hP hD hS => ?_)
  refine lv_istore (lv' := [(5, .int 1), (0, .ref b), (1, .ref (ad 14)), (2, .ref (md 0)), (3, .ref (ad 17)), (4, .int (nI i))]) hx hb dL_law_1390 hl (by decide) rfl (fun ls hl => ?_)
  refine lv_aload_n hx hb dL_law_1392 rfl (lv_at hl 3 rfl) ?_
  refine lv_aload_n hx hb dL_law_1393 rfl (lv_at hl 1 rfl) ?_
  refine lv_iload hx hb dL_law_1394 (lv_at hl 5 rfl) ?_
  refine lv_iconst (v := 1) hx hb dL_law_1396 (by decide) ?_
  refine lv_iadd hx hb dL_law_1397 ?_
  refine kc_top (show (nI i) + 1 = nI (i + 1) from nI_add _ _) ?_
  refine kc_sld (i := i + 1) hx hb hXs hbl hbA hS (by omega) (by omega) dL_law_1398 ?_
  refine kc_top hp1 ?_
  refine lv_aload_n hx hb dL_law_1399 rfl (lv_at hl 1 rfl) ?_
  refine lv_iload hx hb dL_law_1400 (lv_at hl 5 rfl) ?_
  refine lv_iconst (v := 2) hx hb dL_law_1402 (by decide) ?_
  refine lv_iadd hx hb dL_law_1403 ?_
  refine kc_top (show (nI i) + 2 = nI (i + 2) from nI_add _ _) ?_
  refine kc_sld (i := i + 2) hx hb hXs hbl hbA hS (by omega) (by omega) dL_law_1404 ?_
  refine kc_top hp2 ?_
  refine kc_wVi (w1 := wMd md cI 1 mK mc mD mr mw my mC mk ms mu mt mp mb me) (wr := [(ad 0, .inr (1, [.ref (ad 1), .ref (ad 2), .ref (ad 3), .ref (ad 4), .ref (ad 5), .int (nI K), .int (nI Dn), .int mv])), (ad 1, .inl (cI, 8, .inl cd)), (ad 2, .inl (cI, 8, .inl te)), (ad 3, .inl (cI, 8, .inl ri)), (ad 4, .inl (cI, 8, .inl pi)), (ad 5, .inl (cI, 8, .inl pw)), (ad 6, .inr (0, [.ref (ad 7), .ref (ad 8), .ref (ad 9), .ref (ad 10), .ref (ad 11), .ref (ad 12), .ref (ad 13), .int (nI C)])), (ad 7, .inl (cI, 24, .inl ko)), (ad 8, .inl (cI, 24, .inl so)), (ad 9, .inl (cI, 24, .inl tl)), (ad 10, .inl (cI, 216, .inl lp)), (ad 11, .inl (cI, 216, .inl lb)), (ad 12, .inl (cI, 216, .inl ld)), (ad 13, .inl (cI, 216, .inl le)), (ad 14, .inr (2, [.ref (ad 0), .ref (ad 6), .ref (ad 15), .ref (ad 16), .int dy])), (ad 15, .inl (cI, 8, .inl cl)), (ad 16, .inl (cI, 8, .inl dq)), (ad 17, .inl (cL, 1, .inr (.inl ou)))]) (ws1 := wLaw ad cI cd te ri pi pw K Dn mv ko so tl lp lb ld le C cl dq dy cL ou md 1 mK mc mD mr mw my mC mk ms mu mt mp mb me) (As := [.int x, .int da]) (rest := []) ⟨hx, hb, hml, hown, hts⟩ (c_X3_holderAt_f1 l D md cI th mK mc mD mr mw my mC mk ms mu mt mp mb me x da H.size m_hBad) (cwV 2 hts gL_law_X3_holderAt rfl rfl rfl (by decide +kernel) ⟨Nat.le_of_ble_eq_true rfl, Nat.le_of_ble_eq_true rfl⟩) hK hP hD hS hA [18, 19, 20, 21, 22, 23, 24, 25, 26, 27] [0, 1, 2, 3, 4, 5, 6, 7, 8, 9, 10, 11, 12, 13, 14, 15, 16, 17] [0, 1, 2, 3, 4, 5, 6, 7, 8, 9, 10, 11, 12, 13, 14, 15, 16, 17, 18, 19, 20, 21, 22, 23, 24, 25, 26, 27] [0] rfl rfl rfl rfl (by decide) rfl rfl rfl 18 rfl rfl rfl rfl hl.1 rfl (Nat.le_of_ble_eq_true rfl) dL_law_1405 ⟨kc_rc (by omega), kc_rs (by omega)⟩ (fun H locs hP hD hS => ?_)
  refine lv_istore (lv' := [(6, .int 0), (5, .int 1), (0, .ref b), (1, .ref (ad 14)), (2, .ref (md 0)), (3, .ref (ad 17)), (4, .int (nI i))]) hx hb dL_law_1408 hl (by decide) rfl (fun ls hl => ?_)
  refine lv_aload_n hx hb dL_law_1410 rfl (lv_at hl 4 rfl) ?_
  refine kc_rVi (As := []) (rest := []) ⟨hx, hb, hml, hown, hts⟩ (c_X3_thrown l D md cI 1 mK mc mD mr mw my mC mk ms mu mt mp mb me ) (cwV 0 hts gL_law_X3_thrown rfl rfl rfl (by decide +kernel) ⟨Nat.le_of_ble_eq_true rfl, Nat.le_of_ble_eq_true rfl⟩) hK hP [18, 19, 20, 21, 22, 23, 24, 25, 26, 27] [0] rfl rfl 18 rfl rfl rfl rfl hl.1 rfl (Nat.le_of_ble_eq_true rfl) dL_law_1411 ⟨kc_rc (by omega), kc_rs (by omega)⟩ ?_
  refine lv_iload hx hb dL_law_1414 (lv_at hl 1 rfl) ?_
  refine lv_icmp_eq (tgt := 1421) hx hb dL_law_1416 (by decide) (fun c_1416 => ?_) (fun c_1416 => absurd c_1416 (by decide))
  refine lv_iload hx hb dL_law_1421 (lv_at hl 1 rfl) ?_
  refine lv_if_ne (tgt := 1438) hx hb dL_law_1423 (by decide) (fun c_1423 => ?_) (fun c_1423 => absurd c_1423 (by decide))
  refine lv_goto (tgt := 1633) hx hb dL_law_1438 (by decide) ?_
  refine W.widen (k := cells + 2) (n := slots + 16) (by omega) (by omega) ?_
  exact K1 _ _ _ hP hD hS (lv_sub hl [2, 3, 4, 5, 6] rfl)
set_option maxHeartbeats 4000000 in
set_option maxRecDepth 100000 in
theorem lw_holderAt_f2_f2 {p : Program} {l : Launch} {e : Env} {s : State} {m : MethodId} {below : List Frame} {meth : Method} {c : Code} {Q : State → Prop} {b L : Nat} {xs : Nat → Int32} (hlf : l.stackTraces = false) (C0 : lw_At p s m meth c b L xs) {D : va_G} {cI cL : ClassId} (hK : kcK D [(cI, .int), (cL, .long)] s) (hX0 : kcX (fun q => s.heap.size ≤ q) s s.heap) (hL : L ≤ 2048) (i : Nat) (hi : i + 3 < L) (ad : Nat → Nat) (cd : Nat → Int32) (te : Nat → Int32) (ri : Nat → Int32) (pi : Nat → Int32) (pw : Nat → Int32) (K : Nat) (Dn : Nat) (mv : Int32) (ko : Nat → Int32) (so : Nat → Int32) (tl : Nat → Int32) (lp : Nat → Int32) (lb : Nat → Int32) (ld : Nat → Int32) (le : Nat → Int32) (C : Nat) (cl : Nat → Int32) (dq : Nat → Int32) (dy : Int32) (ou : Nat → Int64) (md : Nat → Nat) (th : Int32) (mK : Nat) (mc : Nat → Int32) (mD : Nat) (mr : Nat → Int32) (mw : Int32) (my : Int32) (mC : Nat) (mk : Nat → Int32) (ms : Nat → Int32) (mu : Nat → Int32) (mt : Nat → Int32) (mp : Nat → Int32) (mb : Nat → Int32) (me : Nat → Int32) (cx : Nat) (da : Int32) (hC24 : C ≤ 24) (hc : cx < C) (hz : da < 0 ∨ dy < da) (m_hC24 : mC ≤ 24) (m_hc : cx < mC) (m_hz : da < 0 ∨ my < da) (hp1 : xs (i + 1) = nI cx) (hp2 : xs (i + 2) = da)  {H : Heap} {locs : List Loc} {cells slots : Nat} (hce : cells + 2 ≤ 601024) (hsl : slots + 16 ≤ 7293034) (hP : va_P D vwCl (wLaw ad cI cd te ri pi pw K Dn mv ko so tl lp lb ld le C cl dq dy cL ou md th mK mc mD mr mw my mC mk ms mu mt mp mb me) H) (hD : va_D (fun q => s.heap.size ≤ q) (wLaw ad cI cd te ri pi pw K Dn mv ko so tl lp lb ld le C cl dq dy cL ou md th mK mc mD mr mw my mC mk ms mu mt mp mb me)) (hS : va_S (fun q => s.heap.size ≤ q) s.heap H locs) {ls : Array Slot} (hl : lv_has ls 9 [(0, .ref b), (1, .ref (ad 14)), (2, .ref (md 0)), (3, .ref (ad 17)), (4, .int (nI i))]) (K1 : ∀ (H : Heap) (locs : List Loc) (ls : Array Slot), va_P D vwCl (wLaw ad cI cd te ri pi pw K Dn mv ko so tl lp lb ld le C cl dq dy cL ou md 2 mK mc mD mr mw my mC mk ms mu mt mp mb me) H → va_D (fun q => s.heap.size ≤ q) (wLaw ad cI cd te ri pi pw K Dn mv ko so tl lp lb ld le C cl dq dy cL ou md 2 mK mc mD mr mw my mC mk ms mu mt mp mb me) → va_S (fun q => s.heap.size ≤ q) s.heap H locs → lv_has ls 9 [(0, .ref b), (1, .ref (ad 14)), (2, .ref (md 0)), (3, .ref (ad 17)), (4, .int (nI i))] → W p l e room_1 s m #[Value.ref b] below meth c H locs (cells + 2) (slots + 16) Q (F0 m 1633 ls [])) : W p l e room_1 s m #[Value.ref b] below meth c H locs cells slots Q (F0 m 1373 ls []) := by
  obtain ⟨hx, hb, hr, hml, hown, hts, hXs, hbl, hlocks, hgv⟩ := id C0
  have hts := fun w h => hts w (wsL_law_in w h)
  have hb : c.code = cL_law := hb
  have hA : ∀ q : Nat, s.heap.size ≤ q → (fun q : Nat => s.heap.size ≤ q) q := fun _ h => h
  have hbA : ¬ (fun q : Nat => s.heap.size ≤ q) b := Nat.not_le.mpr hbl
  refine lv_aload_n hx hb dL_law_1373 rfl (lv_at hl 1 rfl) ?_
  refine lv_aload_n hx hb dL_law_1374 rfl (lv_at hl 0 rfl) ?_
  refine lv_iload hx hb dL_law_1375 (lv_at hl 4 rfl) ?_
  refine lv_iconst (v := 1) hx hb dL_law_1377 (by decide) ?_
  refine lv_iadd hx hb dL_law_1378 ?_
  refine kc_top (show (nI i) + 1 = nI (i + 1) from nI_add _ _) ?_
  refine kc_sld (i := i + 1) hx hb hXs hbl hbA hS (by omega) (by omega) dL_law_1379 ?_
  refine kc_top hp1 ?_
  refine lv_aload_n hx hb dL_law_1380 rfl (lv_at hl 0 rfl) ?_
  refine lv_iload hx hb dL_law_1381 (lv_at hl 4 rfl) ?_
  refine lv_iconst (v := 2) hx hb dL_law_1383 (by decide) ?_
  refine lv_iadd hx hb dL_law_1384 ?_
  refine kc_top (show (nI i) + 2 = nI (i + 2) from nI_add _ _) ?_
  refine kc_sld (i := i + 2) hx hb hXs hbl hbA hS (by omega) (by omega) dL_law_1385 ?_
  refine kc_top hp2 ?_
  refine lv_aload_n hx hb dL_law_1386 rfl (lv_at hl 3 rfl) ?_
  have hX := kc_xat hX0 hS
  refine kc_hXi (w1 := wLh ad cI cd te ri pi pw K Dn mv ko so tl lp lb ld le C cl dq dy cL ou) (wr := [(md 0, .inr (3, [.int th, .int (nI mK), .ref (md 1), .int (nI mD), .ref (md 2), .int mw, .int my, .int (nI mC), .ref (md 3), .ref (md 4), .ref (md 5), .ref (md 6), .ref (md 7), .ref (md 8), .ref (md 9)])), (md 1, .inl (cI, 8, .inl mc)), (md 2, .inl (cI, 8, .inl mr)), (md 3, .inl (cI, 24, .inl mk)), (md 4, .inl (cI, 24, .inl ms)), (md 5, .inl (cI, 24, .inl mu)), (md 6, .inl (cI, 24, .inl mt)), (md 7, .inl (cI, 216, .inl mp)), (md 8, .inl (cI, 216, .inl mb)), (md 9, .inl (cI, 216, .inl me))]) (ws1 := wLaw ad cI cd te ri pi pw K Dn mv ko so tl lp lb ld le C cl dq dy cL ou md th mK mc mD mr mw my mC mk ms mu mt mp mb me) (As := [.ref (ad 14), .int (nI cx), .int da, .ref (ad 17)]) (rest := []) ⟨hx, hb, hml, hown, hts⟩ (c_L_holderAt_f2 l hlf D ad cI cd te ri pi pw K Dn mv ko so tl lp lb ld le C cl dq dy cL ou cx da H.size hC24 hc hz) (vx_cwSW 4 hts gL_law_L_holderAt rfl rfl rfl (by decide +kernel) ⟨Nat.le_of_ble_eq_true rfl, Nat.le_of_ble_eq_true rfl⟩) hK hP hD hX hS hA [0, 1, 2, 3, 4, 5, 6, 7, 8, 9, 10, 11, 12, 13, 14, 15, 16, 17] [18, 19, 20, 21, 22, 23, 24, 25, 26, 27] [10, 11, 12, 13, 14, 15, 16, 17, 18, 19, 20, 21, 22, 23, 24, 25, 26, 27, 0, 1, 2, 3, 4, 5, 6, 7, 8, 9] [0, 1] rfl rfl rfl rfl (by decide) rfl rfl rfl rfl hl.1 rfl (Nat.le_of_ble_eq_true rfl) dL_law_1387 ⟨kc_rc (by omega), kc_rs (by omega)⟩ (fun H locs hP hD hS => ?_)
  refine lv_istore (lv' := [(5, .int 2), (0, .ref b), (1, .ref (ad 14)), (2, .ref (md 0)), (3, .ref (ad 17)), (4, .int (nI i))]) hx hb dL_law_1390 hl (by decide) rfl (fun ls hl => ?_)
  refine lv_aload_n hx hb dL_law_1392 rfl (lv_at hl 3 rfl) ?_
  refine lv_aload_n hx hb dL_law_1393 rfl (lv_at hl 1 rfl) ?_
  refine lv_iload hx hb dL_law_1394 (lv_at hl 5 rfl) ?_
  refine lv_iconst (v := 1) hx hb dL_law_1396 (by decide) ?_
  refine lv_iadd hx hb dL_law_1397 ?_
  refine kc_top (show (nI i) + 1 = nI (i + 1) from nI_add _ _) ?_
  refine kc_sld (i := i + 1) hx hb hXs hbl hbA hS (by omega) (by omega) dL_law_1398 ?_
  refine kc_top hp1 ?_
  refine lv_aload_n hx hb dL_law_1399 rfl (lv_at hl 1 rfl) ?_
  refine lv_iload hx hb dL_law_1400 (lv_at hl 5 rfl) ?_
  refine lv_iconst (v := 2) hx hb dL_law_1402 (by decide) ?_
  refine lv_iadd hx hb dL_law_1403 ?_
  refine kc_top (show (nI i) + 2 = nI (i + 2) from nI_add _ _) ?_
  refine kc_sld (i := i + 2) hx hb hXs hbl hbA hS (by omega) (by omega) dL_law_1404 ?_
  refine kc_top hp2 ?_
  refine kc_wVi (w1 := wMd md cI 2 mK mc mD mr mw my mC mk ms mu mt mp mb me) (wr := [(ad 0, .inr (1, [.ref (ad 1), .ref (ad 2), .ref (ad 3), .ref (ad 4), .ref (ad 5), .int (nI K), .int (nI Dn), .int mv])), (ad 1, .inl (cI, 8, .inl cd)), (ad 2, .inl (cI, 8, .inl te)), (ad 3, .inl (cI, 8, .inl ri)), (ad 4, .inl (cI, 8, .inl pi)), (ad 5, .inl (cI, 8, .inl pw)), (ad 6, .inr (0, [.ref (ad 7), .ref (ad 8), .ref (ad 9), .ref (ad 10), .ref (ad 11), .ref (ad 12), .ref (ad 13), .int (nI C)])), (ad 7, .inl (cI, 24, .inl ko)), (ad 8, .inl (cI, 24, .inl so)), (ad 9, .inl (cI, 24, .inl tl)), (ad 10, .inl (cI, 216, .inl lp)), (ad 11, .inl (cI, 216, .inl lb)), (ad 12, .inl (cI, 216, .inl ld)), (ad 13, .inl (cI, 216, .inl le)), (ad 14, .inr (2, [.ref (ad 0), .ref (ad 6), .ref (ad 15), .ref (ad 16), .int dy])), (ad 15, .inl (cI, 8, .inl cl)), (ad 16, .inl (cI, 8, .inl dq)), (ad 17, .inl (cL, 1, .inr (.inl ou)))]) (ws1 := wLaw ad cI cd te ri pi pw K Dn mv ko so tl lp lb ld le C cl dq dy cL ou md 2 mK mc mD mr mw my mC mk ms mu mt mp mb me) (As := [.int (nI cx), .int da]) (rest := []) ⟨hx, hb, hml, hown, hts⟩ (c_X3_holderAt_f2 l D md cI th mK mc mD mr mw my mC mk ms mu mt mp mb me cx da H.size m_hC24 m_hc m_hz) (cwV 2 hts gL_law_X3_holderAt rfl rfl rfl (by decide +kernel) ⟨Nat.le_of_ble_eq_true rfl, Nat.le_of_ble_eq_true rfl⟩) hK hP hD hS hA [18, 19, 20, 21, 22, 23, 24, 25, 26, 27] [0, 1, 2, 3, 4, 5, 6, 7, 8, 9, 10, 11, 12, 13, 14, 15, 16, 17] [0, 1, 2, 3, 4, 5, 6, 7, 8, 9, 10, 11, 12, 13, 14, 15, 16, 17, 18, 19, 20, 21, 22, 23, 24, 25, 26, 27] [0] rfl rfl rfl rfl (by decide) rfl rfl rfl 18 rfl rfl rfl rfl hl.1 rfl (Nat.le_of_ble_eq_true rfl) dL_law_1405 ⟨kc_rc (by omega), kc_rs (by omega)⟩ (fun H locs hP hD hS => ?_)
  refine lv_istore (lv' := [(6, .int 0), (5, .int 2), (0, .ref b), (1, .ref (ad 14)), (2, .ref (md 0)), (3, .ref (ad 17)), (4, .int (nI i))]) hx hb dL_law_1408 hl (by decide) rfl (fun ls hl => ?_)
  refine lv_aload_n hx hb dL_law_1410 rfl (lv_at hl 4 rfl) ?_
  refine kc_rVi (As := []) (rest := []) ⟨hx, hb, hml, hown, hts⟩ (c_X3_thrown l D md cI 2 mK mc mD mr mw my mC mk ms mu mt mp mb me ) (cwV 0 hts gL_law_X3_thrown rfl rfl rfl (by decide +kernel) ⟨Nat.le_of_ble_eq_true rfl, Nat.le_of_ble_eq_true rfl⟩) hK hP [18, 19, 20, 21, 22, 23, 24, 25, 26, 27] [0] rfl rfl 18 rfl rfl rfl rfl hl.1 rfl (Nat.le_of_ble_eq_true rfl) dL_law_1411 ⟨kc_rc (by omega), kc_rs (by omega)⟩ ?_
  refine lv_iload hx hb dL_law_1414 (lv_at hl 1 rfl) ?_
  refine lv_icmp_eq (tgt := 1421) hx hb dL_law_1416 (by decide) (fun c_1416 => ?_) (fun c_1416 => absurd c_1416 (by decide))
  refine lv_iload hx hb dL_law_1421 (lv_at hl 1 rfl) ?_
  refine lv_if_ne (tgt := 1438) hx hb dL_law_1423 (by decide) (fun c_1423 => ?_) (fun c_1423 => absurd c_1423 (by decide))
  refine lv_goto (tgt := 1633) hx hb dL_law_1438 (by decide) ?_
  refine W.widen (k := cells + 2) (n := slots + 16) (by omega) (by omega) ?_
  exact K1 _ _ _ hP hD hS (lv_sub hl [2, 3, 4, 5, 6] rfl)
set_option maxHeartbeats 4000000 in
set_option maxRecDepth 100000 in
theorem lw_reach_ok_ok {p : Program} {l : Launch} {e : Env} {s : State} {m : MethodId} {below : List Frame} {meth : Method} {c : Code} {Q : State → Prop} {b L : Nat} {xs : Nat → Int32} (hlf : l.stackTraces = false) (C0 : lw_At p s m meth c b L xs) {D : va_G} {cI cL : ClassId} (hK : kcK D [(cI, .int), (cL, .long)] s) (hX0 : kcX (fun q => s.heap.size ≤ q) s s.heap) (hL : L ≤ 2048) (i : Nat) (hi : i + 3 < L) (ad : Nat → Nat) (cd : Nat → Int32) (te : Nat → Int32) (ri : Nat → Int32) (pi : Nat → Int32) (pw : Nat → Int32) (K : Nat) (Dn : Nat) (mv : Int32) (ko : Nat → Int32) (so : Nat → Int32) (tl : Nat → Int32) (lp : Nat → Int32) (lb : Nat → Int32) (ld : Nat → Int32) (le : Nat → Int32) (C : Nat) (cl : Nat → Int32) (dq : Nat → Int32) (dy : Int32) (ou : Nat → Int64) (md : Nat → Nat) (th : Int32) (mK : Nat) (mc : Nat → Int32) (mD : Nat) (mr : Nat → Int32) (mw : Int32) (my : Int32) (mC : Nat) (mk : Nat → Int32) (ms : Nat → Int32) (mu : Nat → Int32) (mt : Nat → Int32) (mp : Nat → Int32) (mb : Nat → Int32) (me : Nat → Int32) (pe : Int32) (tn : Nat → Nat) (kn : Nat → Nat) (hK8 : K ≤ 8) (hD8 : Dn ≤ 8) (hC24 : C ≤ 24) (hok : okLe so tl tn) (hp : jIn 8 pe = true) (m_hK8 : mK ≤ 8) (m_hD8 : mD ≤ 8) (m_hC24 : mC ≤ 24) (m_hkn : okKe mC mk kn) (m_hok : okLe ms mt tn) (m_hp : jIn 8 pe = true) (hp1 : xs (i + 1) = pe) (hres : (jReach pi te Dn K ko so lp tn C pe : Int32) = (mReach mr mc mk ms mu mt mp mK mD kn tn pe mC)) {H : Heap} {locs : List Loc} {cells slots : Nat} (hce : cells + 2 ≤ 601024) (hsl : slots + 16 ≤ 7293034) (hP : va_P D vwCl (wLaw ad cI cd te ri pi pw K Dn mv ko so tl lp lb ld le C cl dq dy cL ou md th mK mc mD mr mw my mC mk ms mu mt mp mb me) H) (hD : va_D (fun q => s.heap.size ≤ q) (wLaw ad cI cd te ri pi pw K Dn mv ko so tl lp lb ld le C cl dq dy cL ou md th mK mc mD mr mw my mC mk ms mu mt mp mb me)) (hS : va_S (fun q => s.heap.size ≤ q) s.heap H locs) {ls : Array Slot} (hl : lv_has ls 9 [(0, .ref b), (1, .ref (ad 14)), (2, .ref (md 0)), (3, .ref (ad 17)), (4, .int (nI i))]) (K1 : ∀ (H : Heap) (locs : List Loc) (ls : Array Slot), va_P D vwCl (wLaw ad cI cd te ri pi pw K Dn mv ko so tl lp lb ld le C cl dq dy cL (vp_updL ou 0 (Int32.toInt64 (jReach pi te Dn K ko so lp tn C pe))) md 0 mK mc mD mr mw my mC mk ms mu mt mp mb me) H → va_D (fun q => s.heap.size ≤ q) (wLaw ad cI cd te ri pi pw K Dn mv ko so tl lp lb ld le C cl dq dy cL (vp_updL ou 0 (Int32.toInt64 (jReach pi te Dn K ko so lp tn C pe))) md 0 mK mc mD mr mw my mC mk ms mu mt mp mb me) → va_S (fun q => s.heap.size ≤ q) s.heap H locs → lv_has ls 9 [(0, .ref b), (1, .ref (ad 14)), (2, .ref (md 0)), (3, .ref (ad 17)), (4, .int (nI i))] → W p l e room_1 s m #[Value.ref b] below meth c H locs (cells + 2) (slots + 16) Q (F0 m 1633 ls [])) : W p l e room_1 s m #[Value.ref b] below meth c H locs cells slots Q (F0 m 1441 ls []) := by
  obtain ⟨hx, hb, hr, hml, hown, hts, hXs, hbl, hlocks, hgv⟩ := id C0
  have hts := fun w h => hts w (wsL_law_in w h)
  have hb : c.code = cL_law := hb
  have hA : ∀ q : Nat, s.heap.size ≤ q → (fun q : Nat => s.heap.size ≤ q) q := fun _ h => h
  have hbA : ¬ (fun q : Nat => s.heap.size ≤ q) b := Nat.not_le.mpr hbl
  refine lv_aload_n hx hb dL_law_1441 rfl (lv_at hl 1 rfl) ?_
  refine lv_aload_n hx hb dL_law_1442 rfl (lv_at hl 0 rfl) ?_
  refine lv_iload hx hb dL_law_1443 (lv_at hl 4 rfl) ?_
  refine lv_iconst (v := 1) hx hb dL_law_1445 (by decide) ?_
  refine lv_iadd hx hb dL_law_1446 ?_
  refine kc_top (show (nI i) + 1 = nI (i + 1) from nI_add _ _) ?_
  refine kc_sld (i := i + 1) hx hb hXs hbl hbA hS (by omega) (by omega) dL_law_1447 ?_
  refine kc_top hp1 ?_
  refine lv_aload_n hx hb dL_law_1448 rfl (lv_at hl 3 rfl) ?_
  refine kc_hSi (w1 := wLh ad cI cd te ri pi pw K Dn mv ko so tl lp lb ld le C cl dq dy cL (vp_updL ou 0 (Int32.toInt64 (jReach pi te Dn K ko so lp tn C pe)))) (wr := [(md 0, .inr (3, [.int th, .int (nI mK), .ref (md 1), .int (nI mD), .ref (md 2), .int mw, .int my, .int (nI mC), .ref (md 3), .ref (md 4), .ref (md 5), .ref (md 6), .ref (md 7), .ref (md 8), .ref (md 9)])), (md 1, .inl (cI, 8, .inl mc)), (md 2, .inl (cI, 8, .inl mr)), (md 3, .inl (cI, 24, .inl mk)), (md 4, .inl (cI, 24, .inl ms)), (md 5, .inl (cI, 24, .inl mu)), (md 6, .inl (cI, 24, .inl mt)), (md 7, .inl (cI, 216, .inl mp)), (md 8, .inl (cI, 216, .inl mb)), (md 9, .inl (cI, 216, .inl me))]) (ws1 := wLaw ad cI cd te ri pi pw K Dn mv ko so tl lp lb ld le C cl dq dy cL (vp_updL ou 0 (Int32.toInt64 (jReach pi te Dn K ko so lp tn C pe))) md th mK mc mD mr mw my mC mk ms mu mt mp mb me) (As := [.ref (ad 14), .int pe, .ref (ad 17)]) (rest := []) ⟨hx, hb, hml, hown, hts⟩ (c_L_reach_ok l D ad cI cd te ri pi pw K Dn mv ko so tl lp lb ld le C cl dq dy cL ou pe tn H.size hK8 hD8 hC24 hok hp) (vx_cwSW 3 hts gL_law_L_reach rfl rfl rfl (by decide +kernel) ⟨Nat.le_of_ble_eq_true rfl, Nat.le_of_ble_eq_true rfl⟩) hK hP hD hS hA [0, 1, 2, 3, 4, 5, 6, 7, 8, 9, 10, 11, 12, 13, 14, 15, 16, 17] [18, 19, 20, 21, 22, 23, 24, 25, 26, 27] [10, 11, 12, 13, 14, 15, 16, 17, 18, 19, 20, 21, 22, 23, 24, 25, 26, 27, 0, 1, 2, 3, 4, 5, 6, 7, 8, 9] [0, 1] rfl rfl rfl rfl (by decide) rfl rfl rfl rfl hl.1 rfl (Nat.le_of_ble_eq_true rfl) dL_law_1449 ⟨kc_rc (by omega), kc_rs (by omega)⟩ (fun H locs hP hD hS => ?_)
  refine lv_istore (lv' := [(5, .int 0), (0, .ref b), (1, .ref (ad 14)), (2, .ref (md 0)), (3, .ref (ad 17)), (4, .int (nI i))]) hx hb dL_law_1452 hl (by decide) rfl (fun ls hl => ?_)
  refine lv_aload_n hx hb dL_law_1454 rfl (lv_at hl 3 rfl) ?_
  refine lv_aload_n hx hb dL_law_1455 rfl (lv_at hl 1 rfl) ?_
  refine lv_iload hx hb dL_law_1456 (lv_at hl 5 rfl) ?_
  refine lv_iconst (v := 1) hx hb dL_law_1458 (by decide) ?_
  refine lv_iadd hx hb dL_law_1459 ?_
  refine kc_top (show (nI i) + 1 = nI (i + 1) from nI_add _ _) ?_
  refine kc_sld (i := i + 1) hx hb hXs hbl hbA hS (by omega) (by omega) dL_law_1460 ?_
  refine kc_top hp1 ?_
  refine kc_wVi (w1 := wMd md cI 0 mK mc mD mr mw my mC mk ms mu mt mp mb me) (wr := [(ad 0, .inr (1, [.ref (ad 1), .ref (ad 2), .ref (ad 3), .ref (ad 4), .ref (ad 5), .int (nI K), .int (nI Dn), .int mv])), (ad 1, .inl (cI, 8, .inl cd)), (ad 2, .inl (cI, 8, .inl te)), (ad 3, .inl (cI, 8, .inl ri)), (ad 4, .inl (cI, 8, .inl pi)), (ad 5, .inl (cI, 8, .inl pw)), (ad 6, .inr (0, [.ref (ad 7), .ref (ad 8), .ref (ad 9), .ref (ad 10), .ref (ad 11), .ref (ad 12), .ref (ad 13), .int (nI C)])), (ad 7, .inl (cI, 24, .inl ko)), (ad 8, .inl (cI, 24, .inl so)), (ad 9, .inl (cI, 24, .inl tl)), (ad 10, .inl (cI, 216, .inl lp)), (ad 11, .inl (cI, 216, .inl lb)), (ad 12, .inl (cI, 216, .inl ld)), (ad 13, .inl (cI, 216, .inl le)), (ad 14, .inr (2, [.ref (ad 0), .ref (ad 6), .ref (ad 15), .ref (ad 16), .int dy])), (ad 15, .inl (cI, 8, .inl cl)), (ad 16, .inl (cI, 8, .inl dq)), (ad 17, .inl (cL, 1, .inr (.inl (vp_updL ou 0 (Int32.toInt64 (jReach pi te Dn K ko so lp tn C pe))))))]) (ws1 := wLaw ad cI cd te ri pi pw K Dn mv ko so tl lp lb ld le C cl dq dy cL (vp_updL ou 0 (Int32.toInt64 (jReach pi te Dn K ko so lp tn C pe))) md 0 mK mc mD mr mw my mC mk ms mu mt mp mb me) (As := [.int pe]) (rest := []) ⟨hx, hb, hml, hown, hts⟩ (c_X3_reach_ok l D md cI th mK mc mD mr mw my mC mk ms mu mt mp mb me pe tn kn H.size m_hK8 m_hD8 m_hC24 m_hkn m_hok m_hp) (cwV 1 hts gL_law_X3_reach rfl rfl rfl (by decide +kernel) ⟨Nat.le_of_ble_eq_true rfl, Nat.le_of_ble_eq_true rfl⟩) hK hP hD hS hA [18, 19, 20, 21, 22, 23, 24, 25, 26, 27] [0, 1, 2, 3, 4, 5, 6, 7, 8, 9, 10, 11, 12, 13, 14, 15, 16, 17] [0, 1, 2, 3, 4, 5, 6, 7, 8, 9, 10, 11, 12, 13, 14, 15, 16, 17, 18, 19, 20, 21, 22, 23, 24, 25, 26, 27] [0] rfl rfl rfl rfl (by decide) rfl rfl rfl 18 rfl rfl rfl rfl hl.1 rfl (Nat.le_of_ble_eq_true rfl) dL_law_1461 ⟨kc_rc (by omega), kc_rs (by omega)⟩ (fun H locs hP hD hS => ?_)
  refine lv_istore (lv' := [(6, .int (mReach mr mc mk ms mu mt mp mK mD kn tn pe mC)), (5, .int 0), (0, .ref b), (1, .ref (ad 14)), (2, .ref (md 0)), (3, .ref (ad 17)), (4, .int (nI i))]) hx hb dL_law_1464 hl (by decide) rfl (fun ls hl => ?_)
  refine lv_aload_n hx hb dL_law_1466 rfl (lv_at hl 4 rfl) ?_
  refine kc_rVi (As := []) (rest := []) ⟨hx, hb, hml, hown, hts⟩ (c_X3_thrown l D md cI 0 mK mc mD mr mw my mC mk ms mu mt mp mb me ) (cwV 0 hts gL_law_X3_thrown rfl rfl rfl (by decide +kernel) ⟨Nat.le_of_ble_eq_true rfl, Nat.le_of_ble_eq_true rfl⟩) hK hP [18, 19, 20, 21, 22, 23, 24, 25, 26, 27] [0] rfl rfl 18 rfl rfl rfl rfl hl.1 rfl (Nat.le_of_ble_eq_true rfl) dL_law_1467 ⟨kc_rc (by omega), kc_rs (by omega)⟩ ?_
  refine lv_iload hx hb dL_law_1470 (lv_at hl 1 rfl) ?_
  refine lv_icmp_eq (tgt := 1477) hx hb dL_law_1472 (by decide) (fun c_1472 => ?_) (fun c_1472 => absurd c_1472 (by decide))
  refine lv_iload hx hb dL_law_1477 (lv_at hl 1 rfl) ?_
  refine lv_if_ne (tgt := 1494) hx hb dL_law_1479 (by decide) (fun c_1479 => absurd c_1479 (by decide)) (fun c_1479 => ?_)
  refine lv_aload_n hx hb dL_law_1482 rfl (lv_at hl 5 rfl) ?_
  refine lv_iconst (v := 0) hx hb dL_law_1483 (by decide) ?_
  refine kc_lld (i := 0) (n := 1) hx hb hK hP 17 1 rfl rfl (by decide) (by decide) dL_law_1484 ?_
  refine kc_topl (show ((vp_updL ou 0 (Int32.toInt64 (jReach pi te Dn K ko so lp tn C pe)))) 0 = Int32.toInt64 (jReach pi te Dn K ko so lp tn C pe) from pk_uLs) ?_
  refine lv_iload hx hb dL_law_1485 (lv_at hl 0 rfl) ?_
  refine lv_i2l (v := Int32.toInt64 (mReach mr mc mk ms mu mt mp mK mD kn tn pe mC)) hx hb dL_law_1487 rfl ?_
  refine W.lcmp hx hb dL_law_1488 ?_
  refine kc_top (show lg_cmp (Int32.toInt64 (jReach pi te Dn K ko so lp tn C pe)) (Int32.toInt64 (mReach mr mc mk ms mu mt mp mK mD kn tn pe mC)) = 0 from kc_lcmp0 (congrArg Int32.toInt64 hres)) ?_
  refine lv_if_eq (tgt := 1494) hx hb dL_law_1489 (by decide) (fun c_1489 => ?_) (fun c_1489 => absurd c_1489 (by decide))
  refine lv_goto (tgt := 1633) hx hb dL_law_1494 (by decide) ?_
  refine W.widen (k := cells + 2) (n := slots + 16) (by omega) (by omega) ?_
  exact K1 _ _ _ hP hD hS (lv_sub hl [2, 3, 4, 5, 6] rfl)
set_option maxHeartbeats 4000000 in
set_option maxRecDepth 100000 in
theorem lw_reach_f1_f1 {p : Program} {l : Launch} {e : Env} {s : State} {m : MethodId} {below : List Frame} {meth : Method} {c : Code} {Q : State → Prop} {b L : Nat} {xs : Nat → Int32} (hlf : l.stackTraces = false) (C0 : lw_At p s m meth c b L xs) {D : va_G} {cI cL : ClassId} (hK : kcK D [(cI, .int), (cL, .long)] s) (hX0 : kcX (fun q => s.heap.size ≤ q) s s.heap) (hL : L ≤ 2048) (i : Nat) (hi : i + 3 < L) (ad : Nat → Nat) (cd : Nat → Int32) (te : Nat → Int32) (ri : Nat → Int32) (pi : Nat → Int32) (pw : Nat → Int32) (K : Nat) (Dn : Nat) (mv : Int32) (ko : Nat → Int32) (so : Nat → Int32) (tl : Nat → Int32) (lp : Nat → Int32) (lb : Nat → Int32) (ld : Nat → Int32) (le : Nat → Int32) (C : Nat) (cl : Nat → Int32) (dq : Nat → Int32) (dy : Int32) (ou : Nat → Int64) (md : Nat → Nat) (th : Int32) (mK : Nat) (mc : Nat → Int32) (mD : Nat) (mr : Nat → Int32) (mw : Int32) (my : Int32) (mC : Nat) (mk : Nat → Int32) (ms : Nat → Int32) (mu : Nat → Int32) (mt : Nat → Int32) (mp : Nat → Int32) (mb : Nat → Int32) (me : Nat → Int32) (pe : Int32) (hBad : ¬ jIn 8 pe = true) (m_hBad : ¬ jIn 8 pe = true) (hp1 : xs (i + 1) = pe)  {H : Heap} {locs : List Loc} {cells slots : Nat} (hce : cells + 2 ≤ 601024) (hsl : slots + 16 ≤ 7293034) (hP : va_P D vwCl (wLaw ad cI cd te ri pi pw K Dn mv ko so tl lp lb ld le C cl dq dy cL ou md th mK mc mD mr mw my mC mk ms mu mt mp mb me) H) (hD : va_D (fun q => s.heap.size ≤ q) (wLaw ad cI cd te ri pi pw K Dn mv ko so tl lp lb ld le C cl dq dy cL ou md th mK mc mD mr mw my mC mk ms mu mt mp mb me)) (hS : va_S (fun q => s.heap.size ≤ q) s.heap H locs) {ls : Array Slot} (hl : lv_has ls 9 [(0, .ref b), (1, .ref (ad 14)), (2, .ref (md 0)), (3, .ref (ad 17)), (4, .int (nI i))]) (K1 : ∀ (H : Heap) (locs : List Loc) (ls : Array Slot), va_P D vwCl (wLaw ad cI cd te ri pi pw K Dn mv ko so tl lp lb ld le C cl dq dy cL ou md 1 mK mc mD mr mw my mC mk ms mu mt mp mb me) H → va_D (fun q => s.heap.size ≤ q) (wLaw ad cI cd te ri pi pw K Dn mv ko so tl lp lb ld le C cl dq dy cL ou md 1 mK mc mD mr mw my mC mk ms mu mt mp mb me) → va_S (fun q => s.heap.size ≤ q) s.heap H locs → lv_has ls 9 [(0, .ref b), (1, .ref (ad 14)), (2, .ref (md 0)), (3, .ref (ad 17)), (4, .int (nI i))] → W p l e room_1 s m #[Value.ref b] below meth c H locs (cells + 2) (slots + 16) Q (F0 m 1633 ls [])) : W p l e room_1 s m #[Value.ref b] below meth c H locs cells slots Q (F0 m 1441 ls []) := by
  obtain ⟨hx, hb, hr, hml, hown, hts, hXs, hbl, hlocks, hgv⟩ := id C0
  have hts := fun w h => hts w (wsL_law_in w h)
  have hb : c.code = cL_law := hb
  have hA : ∀ q : Nat, s.heap.size ≤ q → (fun q : Nat => s.heap.size ≤ q) q := fun _ h => h
  have hbA : ¬ (fun q : Nat => s.heap.size ≤ q) b := Nat.not_le.mpr hbl
  refine lv_aload_n hx hb dL_law_1441 rfl (lv_at hl 1 rfl) ?_
  refine lv_aload_n hx hb dL_law_1442 rfl (lv_at hl 0 rfl) ?_
  refine lv_iload hx hb dL_law_1443 (lv_at hl 4 rfl) ?_
  refine lv_iconst (v := 1) hx hb dL_law_1445 (by decide) ?_
  refine lv_iadd hx hb dL_law_1446 ?_
  refine kc_top (show (nI i) + 1 = nI (i + 1) from nI_add _ _) ?_
  refine kc_sld (i := i + 1) hx hb hXs hbl hbA hS (by omega) (by omega) dL_law_1447 ?_
  refine kc_top hp1 ?_
  refine lv_aload_n hx hb dL_law_1448 rfl (lv_at hl 3 rfl) ?_
  have hX := kc_xat hX0 hS
  refine kc_hXi (w1 := wLh ad cI cd te ri pi pw K Dn mv ko so tl lp lb ld le C cl dq dy cL ou) (wr := [(md 0, .inr (3, [.int th, .int (nI mK), .ref (md 1), .int (nI mD), .ref (md 2), .int mw, .int my, .int (nI mC), .ref (md 3), .ref (md 4), .ref (md 5), .ref (md 6), .ref (md 7), .ref (md 8), .ref (md 9)])), (md 1, .inl (cI, 8, .inl mc)), (md 2, .inl (cI, 8, .inl mr)), (md 3, .inl (cI, 24, .inl mk)), (md 4, .inl (cI, 24, .inl ms)), (md 5, .inl (cI, 24, .inl mu)), (md 6, .inl (cI, 24, .inl mt)), (md 7, .inl (cI, 216, .inl mp)), (md 8, .inl (cI, 216, .inl mb)), (md 9, .inl (cI, 216, .inl me))]) (ws1 := wLaw ad cI cd te ri pi pw K Dn mv ko so tl lp lb ld le C cl dq dy cL ou md th mK mc mD mr mw my mC mk ms mu mt mp mb me) (As := [.ref (ad 14), .int pe, .ref (ad 17)]) (rest := []) ⟨hx, hb, hml, hown, hts⟩ (c_L_reach_f1 l hlf D ad cI cd te ri pi pw K Dn mv ko so tl lp lb ld le C cl dq dy cL ou pe H.size hBad) (vx_cwSW 3 hts gL_law_L_reach rfl rfl rfl (by decide +kernel) ⟨Nat.le_of_ble_eq_true rfl, Nat.le_of_ble_eq_true rfl⟩) hK hP hD hX hS hA [0, 1, 2, 3, 4, 5, 6, 7, 8, 9, 10, 11, 12, 13, 14, 15, 16, 17] [18, 19, 20, 21, 22, 23, 24, 25, 26, 27] [10, 11, 12, 13, 14, 15, 16, 17, 18, 19, 20, 21, 22, 23, 24, 25, 26, 27, 0, 1, 2, 3, 4, 5, 6, 7, 8, 9] [0, 1] rfl rfl rfl rfl (by decide) rfl rfl rfl rfl hl.1 rfl (Nat.le_of_ble_eq_true rfl) dL_law_1449 ⟨kc_rc (by omega), kc_rs (by omega)⟩ (fun H locs hP hD hS => ?_)
  refine lv_istore (lv' := [(5, .int 1), (0, .ref b), (1, .ref (ad 14)), (2, .ref (md 0)), (3, .ref (ad 17)), (4, .int (nI i))]) hx hb dL_law_1452 hl (by decide) rfl (fun ls hl => ?_)
  refine lv_aload_n hx hb dL_law_1454 rfl (lv_at hl 3 rfl) ?_
  refine lv_aload_n hx hb dL_law_1455 rfl (lv_at hl 1 rfl) ?_
  refine lv_iload hx hb dL_law_1456 (lv_at hl 5 rfl) ?_
  refine lv_iconst (v := 1) hx hb dL_law_1458 (by decide) ?_
  refine lv_iadd hx hb dL_law_1459 ?_
  refine kc_top (show (nI i) + 1 = nI (i + 1) from nI_add _ _) ?_
  refine kc_sld (i := i + 1) hx hb hXs hbl hbA hS (by omega) (by omega) dL_law_1460 ?_
  refine kc_top hp1 ?_
  refine kc_wVi (w1 := wMd md cI 1 mK mc mD mr mw my mC mk ms mu mt mp mb me) (wr := [(ad 0, .inr (1, [.ref (ad 1), .ref (ad 2), .ref (ad 3), .ref (ad 4), .ref (ad 5), .int (nI K), .int (nI Dn), .int mv])), (ad 1, .inl (cI, 8, .inl cd)), (ad 2, .inl (cI, 8, .inl te)), (ad 3, .inl (cI, 8, .inl ri)), (ad 4, .inl (cI, 8, .inl pi)), (ad 5, .inl (cI, 8, .inl pw)), (ad 6, .inr (0, [.ref (ad 7), .ref (ad 8), .ref (ad 9), .ref (ad 10), .ref (ad 11), .ref (ad 12), .ref (ad 13), .int (nI C)])), (ad 7, .inl (cI, 24, .inl ko)), (ad 8, .inl (cI, 24, .inl so)), (ad 9, .inl (cI, 24, .inl tl)), (ad 10, .inl (cI, 216, .inl lp)), (ad 11, .inl (cI, 216, .inl lb)), (ad 12, .inl (cI, 216, .inl ld)), (ad 13, .inl (cI, 216, .inl le)), (ad 14, .inr (2, [.ref (ad 0), .ref (ad 6), .ref (ad 15), .ref (ad 16), .int dy])), (ad 15, .inl (cI, 8, .inl cl)), (ad 16, .inl (cI, 8, .inl dq)), (ad 17, .inl (cL, 1, .inr (.inl ou)))]) (ws1 := wLaw ad cI cd te ri pi pw K Dn mv ko so tl lp lb ld le C cl dq dy cL ou md 1 mK mc mD mr mw my mC mk ms mu mt mp mb me) (As := [.int pe]) (rest := []) ⟨hx, hb, hml, hown, hts⟩ (c_X3_reach_f1 l D md cI th mK mc mD mr mw my mC mk ms mu mt mp mb me pe H.size m_hBad) (cwV 1 hts gL_law_X3_reach rfl rfl rfl (by decide +kernel) ⟨Nat.le_of_ble_eq_true rfl, Nat.le_of_ble_eq_true rfl⟩) hK hP hD hS hA [18, 19, 20, 21, 22, 23, 24, 25, 26, 27] [0, 1, 2, 3, 4, 5, 6, 7, 8, 9, 10, 11, 12, 13, 14, 15, 16, 17] [0, 1, 2, 3, 4, 5, 6, 7, 8, 9, 10, 11, 12, 13, 14, 15, 16, 17, 18, 19, 20, 21, 22, 23, 24, 25, 26, 27] [0] rfl rfl rfl rfl (by decide) rfl rfl rfl 18 rfl rfl rfl rfl hl.1 rfl (Nat.le_of_ble_eq_true rfl) dL_law_1461 ⟨kc_rc (by omega), kc_rs (by omega)⟩ (fun H locs hP hD hS => ?_)
  refine lv_istore (lv' := [(6, .int 0), (5, .int 1), (0, .ref b), (1, .ref (ad 14)), (2, .ref (md 0)), (3, .ref (ad 17)), (4, .int (nI i))]) hx hb dL_law_1464 hl (by decide) rfl (fun ls hl => ?_)
  refine lv_aload_n hx hb dL_law_1466 rfl (lv_at hl 4 rfl) ?_
  refine kc_rVi (As := []) (rest := []) ⟨hx, hb, hml, hown, hts⟩ (c_X3_thrown l D md cI 1 mK mc mD mr mw my mC mk ms mu mt mp mb me ) (cwV 0 hts gL_law_X3_thrown rfl rfl rfl (by decide +kernel) ⟨Nat.le_of_ble_eq_true rfl, Nat.le_of_ble_eq_true rfl⟩) hK hP [18, 19, 20, 21, 22, 23, 24, 25, 26, 27] [0] rfl rfl 18 rfl rfl rfl rfl hl.1 rfl (Nat.le_of_ble_eq_true rfl) dL_law_1467 ⟨kc_rc (by omega), kc_rs (by omega)⟩ ?_
  refine lv_iload hx hb dL_law_1470 (lv_at hl 1 rfl) ?_
  refine lv_icmp_eq (tgt := 1477) hx hb dL_law_1472 (by decide) (fun c_1472 => ?_) (fun c_1472 => absurd c_1472 (by decide))
  refine lv_iload hx hb dL_law_1477 (lv_at hl 1 rfl) ?_
  refine lv_if_ne (tgt := 1494) hx hb dL_law_1479 (by decide) (fun c_1479 => ?_) (fun c_1479 => absurd c_1479 (by decide))
  refine lv_goto (tgt := 1633) hx hb dL_law_1494 (by decide) ?_
  refine W.widen (k := cells + 2) (n := slots + 16) (by omega) (by omega) ?_
  exact K1 _ _ _ hP hD hS (lv_sub hl [2, 3, 4, 5, 6] rfl)
set_option maxHeartbeats 4000000 in
set_option maxRecDepth 100000 in
theorem lw_suggest_ok_ok {p : Program} {l : Launch} {e : Env} {s : State} {m : MethodId} {below : List Frame} {meth : Method} {c : Code} {Q : State → Prop} {b L : Nat} {xs : Nat → Int32} (hlf : l.stackTraces = false) (C0 : lw_At p s m meth c b L xs) {D : va_G} {cI cL : ClassId} (hK : kcK D [(cI, .int), (cL, .long)] s) (hX0 : kcX (fun q => s.heap.size ≤ q) s s.heap) (hL : L ≤ 2048) (i : Nat) (hi : i + 3 < L) (ad : Nat → Nat) (cd : Nat → Int32) (te : Nat → Int32) (ri : Nat → Int32) (pi : Nat → Int32) (pw : Nat → Int32) (K : Nat) (Dn : Nat) (mv : Int32) (ko : Nat → Int32) (so : Nat → Int32) (tl : Nat → Int32) (lp : Nat → Int32) (lb : Nat → Int32) (ld : Nat → Int32) (le : Nat → Int32) (C : Nat) (cl : Nat → Int32) (dq : Nat → Int32) (dy : Int32) (ou : Nat → Int64) (md : Nat → Nat) (th : Int32) (mK : Nat) (mc : Nat → Int32) (mD : Nat) (mr : Nat → Int32) (mw : Int32) (my : Int32) (mC : Nat) (mk : Nat → Int32) (ms : Nat → Int32) (mu : Nat → Int32) (mt : Nat → Int32) (mp : Nat → Int32) (mb : Nat → Int32) (me : Nat → Int32) (pe : Int32) (wa : Int32) (tn : Nat → Nat) (kn : Nat → Nat) (hK8 : K ≤ 8) (hD8 : Dn ≤ 8) (hC24 : C ≤ 24) (hok : okLe so tl tn) (hp : jIn 8 pe = true) (hs : jSetOf Dn wa = true) (m_hK8 : mK ≤ 8) (m_hD8 : mD ≤ 8) (m_hC24 : mC ≤ 24) (m_hkn : okKe mC mk kn) (m_hok : okLe ms mt tn) (m_hp : jIn 8 pe = true) (m_hs : jSet mD wa = true) (hp1 : xs (i + 1) = pe) (hp2 : xs (i + 2) = wa) (hres : ((jSug (jToLend ko so tl C cl K) (jOpened pi te Dn dq K) K (jReach pi te Dn K ko so lp tn C pe) wa (2 ^ K)).1 : Int32) = ((mSug mr mc (mFirst ms mt kn mC mC) mK mD (mReach mr mc mk ms mu mt mp mK mD kn tn pe mC) wa (2 ^ mK)).1)) {H : Heap} {locs : List Loc} {cells slots : Nat} (hce : cells + 2 ≤ 601024) (hsl : slots + 16 ≤ 7293034) (hP : va_P D vwCl (wLaw ad cI cd te ri pi pw K Dn mv ko so tl lp lb ld le C cl dq dy cL ou md th mK mc mD mr mw my mC mk ms mu mt mp mb me) H) (hD : va_D (fun q => s.heap.size ≤ q) (wLaw ad cI cd te ri pi pw K Dn mv ko so tl lp lb ld le C cl dq dy cL ou md th mK mc mD mr mw my mC mk ms mu mt mp mb me)) (hS : va_S (fun q => s.heap.size ≤ q) s.heap H locs) {ls : Array Slot} (hl : lv_has ls 9 [(0, .ref b), (1, .ref (ad 14)), (2, .ref (md 0)), (3, .ref (ad 17)), (4, .int (nI i))]) (K1 : ∀ (H : Heap) (locs : List Loc) (ls : Array Slot), va_P D vwCl (wLaw ad cI cd te ri pi pw K Dn mv ko so tl lp lb ld le C (jToLend ko so tl C cl K) (jOpened pi te Dn dq K) dy cL (vp_updL ou 0 (Int32.toInt64 ((jSug (jToLend ko so tl C cl K) (jOpened pi te Dn dq K) K (jReach pi te Dn K ko so lp tn C pe) wa (2 ^ K)).1))) md 0 mK mc mD mr mw my mC mk ms mu mt mp mb me) H → va_D (fun q => s.heap.size ≤ q) (wLaw ad cI cd te ri pi pw K Dn mv ko so tl lp lb ld le C (jToLend ko so tl C cl K) (jOpened pi te Dn dq K) dy cL (vp_updL ou 0 (Int32.toInt64 ((jSug (jToLend ko so tl C cl K) (jOpened pi te Dn dq K) K (jReach pi te Dn K ko so lp tn C pe) wa (2 ^ K)).1))) md 0 mK mc mD mr mw my mC mk ms mu mt mp mb me) → va_S (fun q => s.heap.size ≤ q) s.heap H locs → lv_has ls 9 [(0, .ref b), (1, .ref (ad 14)), (2, .ref (md 0)), (3, .ref (ad 17)), (4, .int (nI i))] → W p l e room_1 s m #[Value.ref b] below meth c H locs (cells + 2) (slots + 16) Q (F0 m 1633 ls [])) : W p l e room_1 s m #[Value.ref b] below meth c H locs cells slots Q (F0 m 1510 ls []) := by
  obtain ⟨hx, hb, hr, hml, hown, hts, hXs, hbl, hlocks, hgv⟩ := id C0
  have hts := fun w h => hts w (wsL_law_in w h)
  have hb : c.code = cL_law := hb
  have hA : ∀ q : Nat, s.heap.size ≤ q → (fun q : Nat => s.heap.size ≤ q) q := fun _ h => h
  have hbA : ¬ (fun q : Nat => s.heap.size ≤ q) b := Nat.not_le.mpr hbl
  refine lv_aload_n hx hb dL_law_1510 rfl (lv_at hl 1 rfl) ?_
  refine lv_aload_n hx hb dL_law_1511 rfl (lv_at hl 0 rfl) ?_
  refine lv_iload hx hb dL_law_1512 (lv_at hl 4 rfl) ?_
  refine lv_iconst (v := 1) hx hb dL_law_1514 (by decide) ?_
  refine lv_iadd hx hb dL_law_1515 ?_
  refine kc_top (show (nI i) + 1 = nI (i + 1) from nI_add _ _) ?_
  refine kc_sld (i := i + 1) hx hb hXs hbl hbA hS (by omega) (by omega) dL_law_1516 ?_
  refine kc_top hp1 ?_
  refine lv_aload_n hx hb dL_law_1517 rfl (lv_at hl 0 rfl) ?_
  refine lv_iload hx hb dL_law_1518 (lv_at hl 4 rfl) ?_
  refine lv_iconst (v := 2) hx hb dL_law_1520 (by decide) ?_
  refine lv_iadd hx hb dL_law_1521 ?_
  refine kc_top (show (nI i) + 2 = nI (i + 2) from nI_add _ _) ?_
  refine kc_sld (i := i + 2) hx hb hXs hbl hbA hS (by omega) (by omega) dL_law_1522 ?_
  refine kc_top hp2 ?_
  refine lv_aload_n hx hb dL_law_1523 rfl (lv_at hl 3 rfl) ?_
  refine kc_hSi (w1 := wLh ad cI cd te ri pi pw K Dn mv ko so tl lp lb ld le C (jToLend ko so tl C cl K) (jOpened pi te Dn dq K) dy cL (vp_updL ou 0 (Int32.toInt64 ((jSug (jToLend ko so tl C cl K) (jOpened pi te Dn dq K) K (jReach pi te Dn K ko so lp tn C pe) wa (2 ^ K)).1)))) (wr := [(md 0, .inr (3, [.int th, .int (nI mK), .ref (md 1), .int (nI mD), .ref (md 2), .int mw, .int my, .int (nI mC), .ref (md 3), .ref (md 4), .ref (md 5), .ref (md 6), .ref (md 7), .ref (md 8), .ref (md 9)])), (md 1, .inl (cI, 8, .inl mc)), (md 2, .inl (cI, 8, .inl mr)), (md 3, .inl (cI, 24, .inl mk)), (md 4, .inl (cI, 24, .inl ms)), (md 5, .inl (cI, 24, .inl mu)), (md 6, .inl (cI, 24, .inl mt)), (md 7, .inl (cI, 216, .inl mp)), (md 8, .inl (cI, 216, .inl mb)), (md 9, .inl (cI, 216, .inl me))]) (ws1 := wLaw ad cI cd te ri pi pw K Dn mv ko so tl lp lb ld le C (jToLend ko so tl C cl K) (jOpened pi te Dn dq K) dy cL (vp_updL ou 0 (Int32.toInt64 ((jSug (jToLend ko so tl C cl K) (jOpened pi te Dn dq K) K (jReach pi te Dn K ko so lp tn C pe) wa (2 ^ K)).1))) md th mK mc mD mr mw my mC mk ms mu mt mp mb me) (As := [.ref (ad 14), .int pe, .int wa, .ref (ad 17)]) (rest := []) ⟨hx, hb, hml, hown, hts⟩ (c_L_suggest_ok l D ad cI cd te ri pi pw K Dn mv ko so tl lp lb ld le C cl dq dy cL ou pe wa tn H.size hK8 hD8 hC24 hok hp hs) (vx_cwSW 4 hts gL_law_L_suggest rfl rfl rfl (by decide +kernel) ⟨Nat.le_of_ble_eq_true rfl, Nat.le_of_ble_eq_true rfl⟩) hK hP hD hS hA [0, 1, 2, 3, 4, 5, 6, 7, 8, 9, 10, 11, 12, 13, 14, 15, 16, 17] [18, 19, 20, 21, 22, 23, 24, 25, 26, 27] [10, 11, 12, 13, 14, 15, 16, 17, 18, 19, 20, 21, 22, 23, 24, 25, 26, 27, 0, 1, 2, 3, 4, 5, 6, 7, 8, 9] [0, 1] rfl rfl rfl rfl (by decide) rfl rfl rfl rfl hl.1 rfl (Nat.le_of_ble_eq_true rfl) dL_law_1524 ⟨kc_rc (by omega), kc_rs (by omega)⟩ (fun H locs hP hD hS => ?_)
  refine lv_istore (lv' := [(5, .int 0), (0, .ref b), (1, .ref (ad 14)), (2, .ref (md 0)), (3, .ref (ad 17)), (4, .int (nI i))]) hx hb dL_law_1527 hl (by decide) rfl (fun ls hl => ?_)
  refine lv_aload_n hx hb dL_law_1529 rfl (lv_at hl 3 rfl) ?_
  refine lv_aload_n hx hb dL_law_1530 rfl (lv_at hl 1 rfl) ?_
  refine lv_iload hx hb dL_law_1531 (lv_at hl 5 rfl) ?_
  refine lv_iconst (v := 1) hx hb dL_law_1533 (by decide) ?_
  refine lv_iadd hx hb dL_law_1534 ?_
  refine kc_top (show (nI i) + 1 = nI (i + 1) from nI_add _ _) ?_
  refine kc_sld (i := i + 1) hx hb hXs hbl hbA hS (by omega) (by omega) dL_law_1535 ?_
  refine kc_top hp1 ?_
  refine lv_aload_n hx hb dL_law_1536 rfl (lv_at hl 1 rfl) ?_
  refine lv_iload hx hb dL_law_1537 (lv_at hl 5 rfl) ?_
  refine lv_iconst (v := 2) hx hb dL_law_1539 (by decide) ?_
  refine lv_iadd hx hb dL_law_1540 ?_
  refine kc_top (show (nI i) + 2 = nI (i + 2) from nI_add _ _) ?_
  refine kc_sld (i := i + 2) hx hb hXs hbl hbA hS (by omega) (by omega) dL_law_1541 ?_
  refine kc_top hp2 ?_
  refine kc_wVi (w1 := wMd md cI 0 mK mc mD mr mw my mC mk ms mu mt mp mb me) (wr := [(ad 0, .inr (1, [.ref (ad 1), .ref (ad 2), .ref (ad 3), .ref (ad 4), .ref (ad 5), .int (nI K), .int (nI Dn), .int mv])), (ad 1, .inl (cI, 8, .inl cd)), (ad 2, .inl (cI, 8, .inl te)), (ad 3, .inl (cI, 8, .inl ri)), (ad 4, .inl (cI, 8, .inl pi)), (ad 5, .inl (cI, 8, .inl pw)), (ad 6, .inr (0, [.ref (ad 7), .ref (ad 8), .ref (ad 9), .ref (ad 10), .ref (ad 11), .ref (ad 12), .ref (ad 13), .int (nI C)])), (ad 7, .inl (cI, 24, .inl ko)), (ad 8, .inl (cI, 24, .inl so)), (ad 9, .inl (cI, 24, .inl tl)), (ad 10, .inl (cI, 216, .inl lp)), (ad 11, .inl (cI, 216, .inl lb)), (ad 12, .inl (cI, 216, .inl ld)), (ad 13, .inl (cI, 216, .inl le)), (ad 14, .inr (2, [.ref (ad 0), .ref (ad 6), .ref (ad 15), .ref (ad 16), .int dy])), (ad 15, .inl (cI, 8, .inl (jToLend ko so tl C cl K))), (ad 16, .inl (cI, 8, .inl (jOpened pi te Dn dq K))), (ad 17, .inl (cL, 1, .inr (.inl (vp_updL ou 0 (Int32.toInt64 ((jSug (jToLend ko so tl C cl K) (jOpened pi te Dn dq K) K (jReach pi te Dn K ko so lp tn C pe) wa (2 ^ K)).1))))))]) (ws1 := wLaw ad cI cd te ri pi pw K Dn mv ko so tl lp lb ld le C (jToLend ko so tl C cl K) (jOpened pi te Dn dq K) dy cL (vp_updL ou 0 (Int32.toInt64 ((jSug (jToLend ko so tl C cl K) (jOpened pi te Dn dq K) K (jReach pi te Dn K ko so lp tn C pe) wa (2 ^ K)).1))) md 0 mK mc mD mr mw my mC mk ms mu mt mp mb me) (As := [.int pe, .int wa]) (rest := []) ⟨hx, hb, hml, hown, hts⟩ (c_X3_suggest_ok l D md cI th mK mc mD mr mw my mC mk ms mu mt mp mb me pe wa tn kn H.size m_hK8 m_hD8 m_hC24 m_hkn m_hok m_hp m_hs) (cwV 2 hts gL_law_X3_suggest rfl rfl rfl (by decide +kernel) ⟨Nat.le_of_ble_eq_true rfl, Nat.le_of_ble_eq_true rfl⟩) hK hP hD hS hA [18, 19, 20, 21, 22, 23, 24, 25, 26, 27] [0, 1, 2, 3, 4, 5, 6, 7, 8, 9, 10, 11, 12, 13, 14, 15, 16, 17] [0, 1, 2, 3, 4, 5, 6, 7, 8, 9, 10, 11, 12, 13, 14, 15, 16, 17, 18, 19, 20, 21, 22, 23, 24, 25, 26, 27] [0] rfl rfl rfl rfl (by decide) rfl rfl rfl 18 rfl rfl rfl rfl hl.1 rfl (Nat.le_of_ble_eq_true rfl) dL_law_1542 ⟨kc_rc (by omega), kc_rs (by omega)⟩ (fun H locs hP hD hS => ?_)
  refine lv_istore (lv' := [(6, .int ((mSug mr mc (mFirst ms mt kn mC mC) mK mD (mReach mr mc mk ms mu mt mp mK mD kn tn pe mC) wa (2 ^ mK)).1)), (5, .int 0), (0, .ref b), (1, .ref (ad 14)), (2, .ref (md 0)), (3, .ref (ad 17)), (4, .int (nI i))]) hx hb dL_law_1545 hl (by decide) rfl (fun ls hl => ?_)
  refine lv_aload_n hx hb dL_law_1547 rfl (lv_at hl 4 rfl) ?_
  refine kc_rVi (As := []) (rest := []) ⟨hx, hb, hml, hown, hts⟩ (c_X3_thrown l D md cI 0 mK mc mD mr mw my mC mk ms mu mt mp mb me ) (cwV 0 hts gL_law_X3_thrown rfl rfl rfl (by decide +kernel) ⟨Nat.le_of_ble_eq_true rfl, Nat.le_of_ble_eq_true rfl⟩) hK hP [18, 19, 20, 21, 22, 23, 24, 25, 26, 27] [0] rfl rfl 18 rfl rfl rfl rfl hl.1 rfl (Nat.le_of_ble_eq_true rfl) dL_law_1548 ⟨kc_rc (by omega), kc_rs (by omega)⟩ ?_
  refine lv_iload hx hb dL_law_1551 (lv_at hl 1 rfl) ?_
  refine lv_icmp_eq (tgt := 1558) hx hb dL_law_1553 (by decide) (fun c_1553 => ?_) (fun c_1553 => absurd c_1553 (by decide))
  refine lv_iload hx hb dL_law_1558 (lv_at hl 1 rfl) ?_
  refine lv_if_ne (tgt := 1575) hx hb dL_law_1560 (by decide) (fun c_1560 => absurd c_1560 (by decide)) (fun c_1560 => ?_)
  refine lv_aload_n hx hb dL_law_1563 rfl (lv_at hl 5 rfl) ?_
  refine lv_iconst (v := 0) hx hb dL_law_1564 (by decide) ?_
  refine kc_lld (i := 0) (n := 1) hx hb hK hP 17 1 rfl rfl (by decide) (by decide) dL_law_1565 ?_
  refine kc_topl (show ((vp_updL ou 0 (Int32.toInt64 ((jSug (jToLend ko so tl C cl K) (jOpened pi te Dn dq K) K (jReach pi te Dn K ko so lp tn C pe) wa (2 ^ K)).1)))) 0 = Int32.toInt64 ((jSug (jToLend ko so tl C cl K) (jOpened pi te Dn dq K) K (jReach pi te Dn K ko so lp tn C pe) wa (2 ^ K)).1) from pk_uLs) ?_
  refine lv_iload hx hb dL_law_1566 (lv_at hl 0 rfl) ?_
  refine lv_i2l (v := Int32.toInt64 ((mSug mr mc (mFirst ms mt kn mC mC) mK mD (mReach mr mc mk ms mu mt mp mK mD kn tn pe mC) wa (2 ^ mK)).1)) hx hb dL_law_1568 rfl ?_
  refine W.lcmp hx hb dL_law_1569 ?_
  refine kc_top (show lg_cmp (Int32.toInt64 ((jSug (jToLend ko so tl C cl K) (jOpened pi te Dn dq K) K (jReach pi te Dn K ko so lp tn C pe) wa (2 ^ K)).1)) (Int32.toInt64 ((mSug mr mc (mFirst ms mt kn mC mC) mK mD (mReach mr mc mk ms mu mt mp mK mD kn tn pe mC) wa (2 ^ mK)).1)) = 0 from kc_lcmp0 (congrArg Int32.toInt64 hres)) ?_
  refine lv_if_eq (tgt := 1575) hx hb dL_law_1570 (by decide) (fun c_1570 => ?_) (fun c_1570 => absurd c_1570 (by decide))
  refine lv_goto (tgt := 1633) hx hb dL_law_1575 (by decide) ?_
  refine W.widen (k := cells + 2) (n := slots + 16) (by omega) (by omega) ?_
  exact K1 _ _ _ hP hD hS (lv_sub hl [2, 3, 4, 5, 6] rfl)
set_option maxHeartbeats 4000000 in
set_option maxRecDepth 100000 in
theorem lw_suggest_f1_f1 {p : Program} {l : Launch} {e : Env} {s : State} {m : MethodId} {below : List Frame} {meth : Method} {c : Code} {Q : State → Prop} {b L : Nat} {xs : Nat → Int32} (hlf : l.stackTraces = false) (C0 : lw_At p s m meth c b L xs) {D : va_G} {cI cL : ClassId} (hK : kcK D [(cI, .int), (cL, .long)] s) (hX0 : kcX (fun q => s.heap.size ≤ q) s s.heap) (hL : L ≤ 2048) (i : Nat) (hi : i + 3 < L) (ad : Nat → Nat) (cd : Nat → Int32) (te : Nat → Int32) (ri : Nat → Int32) (pi : Nat → Int32) (pw : Nat → Int32) (K : Nat) (Dn : Nat) (mv : Int32) (ko : Nat → Int32) (so : Nat → Int32) (tl : Nat → Int32) (lp : Nat → Int32) (lb : Nat → Int32) (ld : Nat → Int32) (le : Nat → Int32) (C : Nat) (cl : Nat → Int32) (dq : Nat → Int32) (dy : Int32) (ou : Nat → Int64) (md : Nat → Nat) (th : Int32) (mK : Nat) (mc : Nat → Int32) (mD : Nat) (mr : Nat → Int32) (mw : Int32) (my : Int32) (mC : Nat) (mk : Nat → Int32) (ms : Nat → Int32) (mu : Nat → Int32) (mt : Nat → Int32) (mp : Nat → Int32) (mb : Nat → Int32) (me : Nat → Int32) (pe : Int32) (wa : Int32) (hBad : ¬ jIn 8 pe = true) (m_hBad : ¬ jIn 8 pe = true) (hp1 : xs (i + 1) = pe) (hp2 : xs (i + 2) = wa)  {H : Heap} {locs : List Loc} {cells slots : Nat} (hce : cells + 2 ≤ 601024) (hsl : slots + 16 ≤ 7293034) (hP : va_P D vwCl (wLaw ad cI cd te ri pi pw K Dn mv ko so tl lp lb ld le C cl dq dy cL ou md th mK mc mD mr mw my mC mk ms mu mt mp mb me) H) (hD : va_D (fun q => s.heap.size ≤ q) (wLaw ad cI cd te ri pi pw K Dn mv ko so tl lp lb ld le C cl dq dy cL ou md th mK mc mD mr mw my mC mk ms mu mt mp mb me)) (hS : va_S (fun q => s.heap.size ≤ q) s.heap H locs) {ls : Array Slot} (hl : lv_has ls 9 [(0, .ref b), (1, .ref (ad 14)), (2, .ref (md 0)), (3, .ref (ad 17)), (4, .int (nI i))]) (K1 : ∀ (H : Heap) (locs : List Loc) (ls : Array Slot), va_P D vwCl (wLaw ad cI cd te ri pi pw K Dn mv ko so tl lp lb ld le C cl dq dy cL ou md 1 mK mc mD mr mw my mC mk ms mu mt mp mb me) H → va_D (fun q => s.heap.size ≤ q) (wLaw ad cI cd te ri pi pw K Dn mv ko so tl lp lb ld le C cl dq dy cL ou md 1 mK mc mD mr mw my mC mk ms mu mt mp mb me) → va_S (fun q => s.heap.size ≤ q) s.heap H locs → lv_has ls 9 [(0, .ref b), (1, .ref (ad 14)), (2, .ref (md 0)), (3, .ref (ad 17)), (4, .int (nI i))] → W p l e room_1 s m #[Value.ref b] below meth c H locs (cells + 2) (slots + 16) Q (F0 m 1633 ls [])) : W p l e room_1 s m #[Value.ref b] below meth c H locs cells slots Q (F0 m 1510 ls []) := by
  obtain ⟨hx, hb, hr, hml, hown, hts, hXs, hbl, hlocks, hgv⟩ := id C0
  have hts := fun w h => hts w (wsL_law_in w h)
  have hb : c.code = cL_law := hb
  have hA : ∀ q : Nat, s.heap.size ≤ q → (fun q : Nat => s.heap.size ≤ q) q := fun _ h => h
  have hbA : ¬ (fun q : Nat => s.heap.size ≤ q) b := Nat.not_le.mpr hbl
  refine lv_aload_n hx hb dL_law_1510 rfl (lv_at hl 1 rfl) ?_
  refine lv_aload_n hx hb dL_law_1511 rfl (lv_at hl 0 rfl) ?_
  refine lv_iload hx hb dL_law_1512 (lv_at hl 4 rfl) ?_
  refine lv_iconst (v := 1) hx hb dL_law_1514 (by decide) ?_
  refine lv_iadd hx hb dL_law_1515 ?_
  refine kc_top (show (nI i) + 1 = nI (i + 1) from nI_add _ _) ?_
  refine kc_sld (i := i + 1) hx hb hXs hbl hbA hS (by omega) (by omega) dL_law_1516 ?_
  refine kc_top hp1 ?_
  refine lv_aload_n hx hb dL_law_1517 rfl (lv_at hl 0 rfl) ?_
  refine lv_iload hx hb dL_law_1518 (lv_at hl 4 rfl) ?_
  refine lv_iconst (v := 2) hx hb dL_law_1520 (by decide) ?_
  refine lv_iadd hx hb dL_law_1521 ?_
  refine kc_top (show (nI i) + 2 = nI (i + 2) from nI_add _ _) ?_
  refine kc_sld (i := i + 2) hx hb hXs hbl hbA hS (by omega) (by omega) dL_law_1522 ?_
  refine kc_top hp2 ?_
  refine lv_aload_n hx hb dL_law_1523 rfl (lv_at hl 3 rfl) ?_
  have hX := kc_xat hX0 hS
  refine kc_hXi (w1 := wLh ad cI cd te ri pi pw K Dn mv ko so tl lp lb ld le C cl dq dy cL ou) (wr := [(md 0, .inr (3, [.int th, .int (nI mK), .ref (md 1), .int (nI mD), .ref (md 2), .int mw, .int my, .int (nI mC), .ref (md 3), .ref (md 4), .ref (md 5), .ref (md 6), .ref (md 7), .ref (md 8), .ref (md 9)])), (md 1, .inl (cI, 8, .inl mc)), (md 2, .inl (cI, 8, .inl mr)), (md 3, .inl (cI, 24, .inl mk)), (md 4, .inl (cI, 24, .inl ms)), (md 5, .inl (cI, 24, .inl mu)), (md 6, .inl (cI, 24, .inl mt)), (md 7, .inl (cI, 216, .inl mp)), (md 8, .inl (cI, 216, .inl mb)), (md 9, .inl (cI, 216, .inl me))]) (ws1 := wLaw ad cI cd te ri pi pw K Dn mv ko so tl lp lb ld le C cl dq dy cL ou md th mK mc mD mr mw my mC mk ms mu mt mp mb me) (As := [.ref (ad 14), .int pe, .int wa, .ref (ad 17)]) (rest := []) ⟨hx, hb, hml, hown, hts⟩ (c_L_suggest_f1 l hlf D ad cI cd te ri pi pw K Dn mv ko so tl lp lb ld le C cl dq dy cL ou pe wa H.size hBad) (vx_cwSW 4 hts gL_law_L_suggest rfl rfl rfl (by decide +kernel) ⟨Nat.le_of_ble_eq_true rfl, Nat.le_of_ble_eq_true rfl⟩) hK hP hD hX hS hA [0, 1, 2, 3, 4, 5, 6, 7, 8, 9, 10, 11, 12, 13, 14, 15, 16, 17] [18, 19, 20, 21, 22, 23, 24, 25, 26, 27] [10, 11, 12, 13, 14, 15, 16, 17, 18, 19, 20, 21, 22, 23, 24, 25, 26, 27, 0, 1, 2, 3, 4, 5, 6, 7, 8, 9] [0, 1] rfl rfl rfl rfl (by decide) rfl rfl rfl rfl hl.1 rfl (Nat.le_of_ble_eq_true rfl) dL_law_1524 ⟨kc_rc (by omega), kc_rs (by omega)⟩ (fun H locs hP hD hS => ?_)
  refine lv_istore (lv' := [(5, .int 1), (0, .ref b), (1, .ref (ad 14)), (2, .ref (md 0)), (3, .ref (ad 17)), (4, .int (nI i))]) hx hb dL_law_1527 hl (by decide) rfl (fun ls hl => ?_)
  refine lv_aload_n hx hb dL_law_1529 rfl (lv_at hl 3 rfl) ?_
  refine lv_aload_n hx hb dL_law_1530 rfl (lv_at hl 1 rfl) ?_
  refine lv_iload hx hb dL_law_1531 (lv_at hl 5 rfl) ?_
  refine lv_iconst (v := 1) hx hb dL_law_1533 (by decide) ?_
  refine lv_iadd hx hb dL_law_1534 ?_
  refine kc_top (show (nI i) + 1 = nI (i + 1) from nI_add _ _) ?_
  refine kc_sld (i := i + 1) hx hb hXs hbl hbA hS (by omega) (by omega) dL_law_1535 ?_
  refine kc_top hp1 ?_
  refine lv_aload_n hx hb dL_law_1536 rfl (lv_at hl 1 rfl) ?_
  refine lv_iload hx hb dL_law_1537 (lv_at hl 5 rfl) ?_
  refine lv_iconst (v := 2) hx hb dL_law_1539 (by decide) ?_
  refine lv_iadd hx hb dL_law_1540 ?_
  refine kc_top (show (nI i) + 2 = nI (i + 2) from nI_add _ _) ?_
  refine kc_sld (i := i + 2) hx hb hXs hbl hbA hS (by omega) (by omega) dL_law_1541 ?_
  refine kc_top hp2 ?_
  refine kc_wVi (w1 := wMd md cI 1 mK mc mD mr mw my mC mk ms mu mt mp mb me) (wr := [(ad 0, .inr (1, [.ref (ad 1), .ref (ad 2), .ref (ad 3), .ref (ad 4), .ref (ad 5), .int (nI K), .int (nI Dn), .int mv])), (ad 1, .inl (cI, 8, .inl cd)), (ad 2, .inl (cI, 8, .inl te)), (ad 3, .inl (cI, 8, .inl ri)), (ad 4, .inl (cI, 8, .inl pi)), (ad 5, .inl (cI, 8, .inl pw)), (ad 6, .inr (0, [.ref (ad 7), .ref (ad 8), .ref (ad 9), .ref (ad 10), .ref (ad 11), .ref (ad 12), .ref (ad 13), .int (nI C)])), (ad 7, .inl (cI, 24, .inl ko)), (ad 8, .inl (cI, 24, .inl so)), (ad 9, .inl (cI, 24, .inl tl)), (ad 10, .inl (cI, 216, .inl lp)), (ad 11, .inl (cI, 216, .inl lb)), (ad 12, .inl (cI, 216, .inl ld)), (ad 13, .inl (cI, 216, .inl le)), (ad 14, .inr (2, [.ref (ad 0), .ref (ad 6), .ref (ad 15), .ref (ad 16), .int dy])), (ad 15, .inl (cI, 8, .inl cl)), (ad 16, .inl (cI, 8, .inl dq)), (ad 17, .inl (cL, 1, .inr (.inl ou)))]) (ws1 := wLaw ad cI cd te ri pi pw K Dn mv ko so tl lp lb ld le C cl dq dy cL ou md 1 mK mc mD mr mw my mC mk ms mu mt mp mb me) (As := [.int pe, .int wa]) (rest := []) ⟨hx, hb, hml, hown, hts⟩ (c_X3_suggest_f1 l D md cI th mK mc mD mr mw my mC mk ms mu mt mp mb me pe wa H.size m_hBad) (cwV 2 hts gL_law_X3_suggest rfl rfl rfl (by decide +kernel) ⟨Nat.le_of_ble_eq_true rfl, Nat.le_of_ble_eq_true rfl⟩) hK hP hD hS hA [18, 19, 20, 21, 22, 23, 24, 25, 26, 27] [0, 1, 2, 3, 4, 5, 6, 7, 8, 9, 10, 11, 12, 13, 14, 15, 16, 17] [0, 1, 2, 3, 4, 5, 6, 7, 8, 9, 10, 11, 12, 13, 14, 15, 16, 17, 18, 19, 20, 21, 22, 23, 24, 25, 26, 27] [0] rfl rfl rfl rfl (by decide) rfl rfl rfl 18 rfl rfl rfl rfl hl.1 rfl (Nat.le_of_ble_eq_true rfl) dL_law_1542 ⟨kc_rc (by omega), kc_rs (by omega)⟩ (fun H locs hP hD hS => ?_)
  refine lv_istore (lv' := [(6, .int 0), (5, .int 1), (0, .ref b), (1, .ref (ad 14)), (2, .ref (md 0)), (3, .ref (ad 17)), (4, .int (nI i))]) hx hb dL_law_1545 hl (by decide) rfl (fun ls hl => ?_)
  refine lv_aload_n hx hb dL_law_1547 rfl (lv_at hl 4 rfl) ?_
  refine kc_rVi (As := []) (rest := []) ⟨hx, hb, hml, hown, hts⟩ (c_X3_thrown l D md cI 1 mK mc mD mr mw my mC mk ms mu mt mp mb me ) (cwV 0 hts gL_law_X3_thrown rfl rfl rfl (by decide +kernel) ⟨Nat.le_of_ble_eq_true rfl, Nat.le_of_ble_eq_true rfl⟩) hK hP [18, 19, 20, 21, 22, 23, 24, 25, 26, 27] [0] rfl rfl 18 rfl rfl rfl rfl hl.1 rfl (Nat.le_of_ble_eq_true rfl) dL_law_1548 ⟨kc_rc (by omega), kc_rs (by omega)⟩ ?_
  refine lv_iload hx hb dL_law_1551 (lv_at hl 1 rfl) ?_
  refine lv_icmp_eq (tgt := 1558) hx hb dL_law_1553 (by decide) (fun c_1553 => ?_) (fun c_1553 => absurd c_1553 (by decide))
  refine lv_iload hx hb dL_law_1558 (lv_at hl 1 rfl) ?_
  refine lv_if_ne (tgt := 1575) hx hb dL_law_1560 (by decide) (fun c_1560 => ?_) (fun c_1560 => absurd c_1560 (by decide))
  refine lv_goto (tgt := 1633) hx hb dL_law_1575 (by decide) ?_
  refine W.widen (k := cells + 2) (n := slots + 16) (by omega) (by omega) ?_
  exact K1 _ _ _ hP hD hS (lv_sub hl [2, 3, 4, 5, 6] rfl)
set_option maxHeartbeats 4000000 in
set_option maxRecDepth 100000 in
theorem lw_suggest_f2_f2 {p : Program} {l : Launch} {e : Env} {s : State} {m : MethodId} {below : List Frame} {meth : Method} {c : Code} {Q : State → Prop} {b L : Nat} {xs : Nat → Int32} (hlf : l.stackTraces = false) (C0 : lw_At p s m meth c b L xs) {D : va_G} {cI cL : ClassId} (hK : kcK D [(cI, .int), (cL, .long)] s) (hX0 : kcX (fun q => s.heap.size ≤ q) s s.heap) (hL : L ≤ 2048) (i : Nat) (hi : i + 3 < L) (ad : Nat → Nat) (cd : Nat → Int32) (te : Nat → Int32) (ri : Nat → Int32) (pi : Nat → Int32) (pw : Nat → Int32) (K : Nat) (Dn : Nat) (mv : Int32) (ko : Nat → Int32) (so : Nat → Int32) (tl : Nat → Int32) (lp : Nat → Int32) (lb : Nat → Int32) (ld : Nat → Int32) (le : Nat → Int32) (C : Nat) (cl : Nat → Int32) (dq : Nat → Int32) (dy : Int32) (ou : Nat → Int64) (md : Nat → Nat) (th : Int32) (mK : Nat) (mc : Nat → Int32) (mD : Nat) (mr : Nat → Int32) (mw : Int32) (my : Int32) (mC : Nat) (mk : Nat → Int32) (ms : Nat → Int32) (mu : Nat → Int32) (mt : Nat → Int32) (mp : Nat → Int32) (mb : Nat → Int32) (me : Nat → Int32) (pe : Int32) (wa : Int32) (hD8 : Dn ≤ 8) (hp : jIn 8 pe = true) (hBad : ¬ jSetOf Dn wa = true) (m_hD8 : mD ≤ 8) (m_hp : jIn 8 pe = true) (m_hBad : ¬ jSet mD wa = true) (hp1 : xs (i + 1) = pe) (hp2 : xs (i + 2) = wa)  {H : Heap} {locs : List Loc} {cells slots : Nat} (hce : cells + 2 ≤ 601024) (hsl : slots + 16 ≤ 7293034) (hP : va_P D vwCl (wLaw ad cI cd te ri pi pw K Dn mv ko so tl lp lb ld le C cl dq dy cL ou md th mK mc mD mr mw my mC mk ms mu mt mp mb me) H) (hD : va_D (fun q => s.heap.size ≤ q) (wLaw ad cI cd te ri pi pw K Dn mv ko so tl lp lb ld le C cl dq dy cL ou md th mK mc mD mr mw my mC mk ms mu mt mp mb me)) (hS : va_S (fun q => s.heap.size ≤ q) s.heap H locs) {ls : Array Slot} (hl : lv_has ls 9 [(0, .ref b), (1, .ref (ad 14)), (2, .ref (md 0)), (3, .ref (ad 17)), (4, .int (nI i))]) (K1 : ∀ (H : Heap) (locs : List Loc) (ls : Array Slot), va_P D vwCl (wLaw ad cI cd te ri pi pw K Dn mv ko so tl lp lb ld le C cl dq dy cL ou md 2 mK mc mD mr mw my mC mk ms mu mt mp mb me) H → va_D (fun q => s.heap.size ≤ q) (wLaw ad cI cd te ri pi pw K Dn mv ko so tl lp lb ld le C cl dq dy cL ou md 2 mK mc mD mr mw my mC mk ms mu mt mp mb me) → va_S (fun q => s.heap.size ≤ q) s.heap H locs → lv_has ls 9 [(0, .ref b), (1, .ref (ad 14)), (2, .ref (md 0)), (3, .ref (ad 17)), (4, .int (nI i))] → W p l e room_1 s m #[Value.ref b] below meth c H locs (cells + 2) (slots + 16) Q (F0 m 1633 ls [])) : W p l e room_1 s m #[Value.ref b] below meth c H locs cells slots Q (F0 m 1510 ls []) := by
  obtain ⟨hx, hb, hr, hml, hown, hts, hXs, hbl, hlocks, hgv⟩ := id C0
  have hts := fun w h => hts w (wsL_law_in w h)
  have hb : c.code = cL_law := hb
  have hA : ∀ q : Nat, s.heap.size ≤ q → (fun q : Nat => s.heap.size ≤ q) q := fun _ h => h
  have hbA : ¬ (fun q : Nat => s.heap.size ≤ q) b := Nat.not_le.mpr hbl
  refine lv_aload_n hx hb dL_law_1510 rfl (lv_at hl 1 rfl) ?_
  refine lv_aload_n hx hb dL_law_1511 rfl (lv_at hl 0 rfl) ?_
  refine lv_iload hx hb dL_law_1512 (lv_at hl 4 rfl) ?_
  refine lv_iconst (v := 1) hx hb dL_law_1514 (by decide) ?_
  refine lv_iadd hx hb dL_law_1515 ?_
  refine kc_top (show (nI i) + 1 = nI (i + 1) from nI_add _ _) ?_
  refine kc_sld (i := i + 1) hx hb hXs hbl hbA hS (by omega) (by omega) dL_law_1516 ?_
  refine kc_top hp1 ?_
  refine lv_aload_n hx hb dL_law_1517 rfl (lv_at hl 0 rfl) ?_
  refine lv_iload hx hb dL_law_1518 (lv_at hl 4 rfl) ?_
  refine lv_iconst (v := 2) hx hb dL_law_1520 (by decide) ?_
  refine lv_iadd hx hb dL_law_1521 ?_
  refine kc_top (show (nI i) + 2 = nI (i + 2) from nI_add _ _) ?_
  refine kc_sld (i := i + 2) hx hb hXs hbl hbA hS (by omega) (by omega) dL_law_1522 ?_
  refine kc_top hp2 ?_
  refine lv_aload_n hx hb dL_law_1523 rfl (lv_at hl 3 rfl) ?_
  have hX := kc_xat hX0 hS
  refine kc_hXi (w1 := wLh ad cI cd te ri pi pw K Dn mv ko so tl lp lb ld le C cl dq dy cL ou) (wr := [(md 0, .inr (3, [.int th, .int (nI mK), .ref (md 1), .int (nI mD), .ref (md 2), .int mw, .int my, .int (nI mC), .ref (md 3), .ref (md 4), .ref (md 5), .ref (md 6), .ref (md 7), .ref (md 8), .ref (md 9)])), (md 1, .inl (cI, 8, .inl mc)), (md 2, .inl (cI, 8, .inl mr)), (md 3, .inl (cI, 24, .inl mk)), (md 4, .inl (cI, 24, .inl ms)), (md 5, .inl (cI, 24, .inl mu)), (md 6, .inl (cI, 24, .inl mt)), (md 7, .inl (cI, 216, .inl mp)), (md 8, .inl (cI, 216, .inl mb)), (md 9, .inl (cI, 216, .inl me))]) (ws1 := wLaw ad cI cd te ri pi pw K Dn mv ko so tl lp lb ld le C cl dq dy cL ou md th mK mc mD mr mw my mC mk ms mu mt mp mb me) (As := [.ref (ad 14), .int pe, .int wa, .ref (ad 17)]) (rest := []) ⟨hx, hb, hml, hown, hts⟩ (c_L_suggest_f2 l hlf D ad cI cd te ri pi pw K Dn mv ko so tl lp lb ld le C cl dq dy cL ou pe wa H.size hD8 hp hBad) (vx_cwSW 4 hts gL_law_L_suggest rfl rfl rfl (by decide +kernel) ⟨Nat.le_of_ble_eq_true rfl, Nat.le_of_ble_eq_true rfl⟩) hK hP hD hX hS hA [0, 1, 2, 3, 4, 5, 6, 7, 8, 9, 10, 11, 12, 13, 14, 15, 16, 17] [18, 19, 20, 21, 22, 23, 24, 25, 26, 27] [10, 11, 12, 13, 14, 15, 16, 17, 18, 19, 20, 21, 22, 23, 24, 25, 26, 27, 0, 1, 2, 3, 4, 5, 6, 7, 8, 9] [0, 1] rfl rfl rfl rfl (by decide) rfl rfl rfl rfl hl.1 rfl (Nat.le_of_ble_eq_true rfl) dL_law_1524 ⟨kc_rc (by omega), kc_rs (by omega)⟩ (fun H locs hP hD hS => ?_)
  refine lv_istore (lv' := [(5, .int 2), (0, .ref b), (1, .ref (ad 14)), (2, .ref (md 0)), (3, .ref (ad 17)), (4, .int (nI i))]) hx hb dL_law_1527 hl (by decide) rfl (fun ls hl => ?_)
  refine lv_aload_n hx hb dL_law_1529 rfl (lv_at hl 3 rfl) ?_
  refine lv_aload_n hx hb dL_law_1530 rfl (lv_at hl 1 rfl) ?_
  refine lv_iload hx hb dL_law_1531 (lv_at hl 5 rfl) ?_
  refine lv_iconst (v := 1) hx hb dL_law_1533 (by decide) ?_
  refine lv_iadd hx hb dL_law_1534 ?_
  refine kc_top (show (nI i) + 1 = nI (i + 1) from nI_add _ _) ?_
  refine kc_sld (i := i + 1) hx hb hXs hbl hbA hS (by omega) (by omega) dL_law_1535 ?_
  refine kc_top hp1 ?_
  refine lv_aload_n hx hb dL_law_1536 rfl (lv_at hl 1 rfl) ?_
  refine lv_iload hx hb dL_law_1537 (lv_at hl 5 rfl) ?_
  refine lv_iconst (v := 2) hx hb dL_law_1539 (by decide) ?_
  refine lv_iadd hx hb dL_law_1540 ?_
  refine kc_top (show (nI i) + 2 = nI (i + 2) from nI_add _ _) ?_
  refine kc_sld (i := i + 2) hx hb hXs hbl hbA hS (by omega) (by omega) dL_law_1541 ?_
  refine kc_top hp2 ?_
  refine kc_wVi (w1 := wMd md cI 2 mK mc mD mr mw my mC mk ms mu mt mp mb me) (wr := [(ad 0, .inr (1, [.ref (ad 1), .ref (ad 2), .ref (ad 3), .ref (ad 4), .ref (ad 5), .int (nI K), .int (nI Dn), .int mv])), (ad 1, .inl (cI, 8, .inl cd)), (ad 2, .inl (cI, 8, .inl te)), (ad 3, .inl (cI, 8, .inl ri)), (ad 4, .inl (cI, 8, .inl pi)), (ad 5, .inl (cI, 8, .inl pw)), (ad 6, .inr (0, [.ref (ad 7), .ref (ad 8), .ref (ad 9), .ref (ad 10), .ref (ad 11), .ref (ad 12), .ref (ad 13), .int (nI C)])), (ad 7, .inl (cI, 24, .inl ko)), (ad 8, .inl (cI, 24, .inl so)), (ad 9, .inl (cI, 24, .inl tl)), (ad 10, .inl (cI, 216, .inl lp)), (ad 11, .inl (cI, 216, .inl lb)), (ad 12, .inl (cI, 216, .inl ld)), (ad 13, .inl (cI, 216, .inl le)), (ad 14, .inr (2, [.ref (ad 0), .ref (ad 6), .ref (ad 15), .ref (ad 16), .int dy])), (ad 15, .inl (cI, 8, .inl cl)), (ad 16, .inl (cI, 8, .inl dq)), (ad 17, .inl (cL, 1, .inr (.inl ou)))]) (ws1 := wLaw ad cI cd te ri pi pw K Dn mv ko so tl lp lb ld le C cl dq dy cL ou md 2 mK mc mD mr mw my mC mk ms mu mt mp mb me) (As := [.int pe, .int wa]) (rest := []) ⟨hx, hb, hml, hown, hts⟩ (c_X3_suggest_f2 l D md cI th mK mc mD mr mw my mC mk ms mu mt mp mb me pe wa H.size m_hD8 m_hp m_hBad) (cwV 2 hts gL_law_X3_suggest rfl rfl rfl (by decide +kernel) ⟨Nat.le_of_ble_eq_true rfl, Nat.le_of_ble_eq_true rfl⟩) hK hP hD hS hA [18, 19, 20, 21, 22, 23, 24, 25, 26, 27] [0, 1, 2, 3, 4, 5, 6, 7, 8, 9, 10, 11, 12, 13, 14, 15, 16, 17] [0, 1, 2, 3, 4, 5, 6, 7, 8, 9, 10, 11, 12, 13, 14, 15, 16, 17, 18, 19, 20, 21, 22, 23, 24, 25, 26, 27] [0] rfl rfl rfl rfl (by decide) rfl rfl rfl 18 rfl rfl rfl rfl hl.1 rfl (Nat.le_of_ble_eq_true rfl) dL_law_1542 ⟨kc_rc (by omega), kc_rs (by omega)⟩ (fun H locs hP hD hS => ?_)
  refine lv_istore (lv' := [(6, .int 0), (5, .int 2), (0, .ref b), (1, .ref (ad 14)), (2, .ref (md 0)), (3, .ref (ad 17)), (4, .int (nI i))]) hx hb dL_law_1545 hl (by decide) rfl (fun ls hl => ?_)
  refine lv_aload_n hx hb dL_law_1547 rfl (lv_at hl 4 rfl) ?_
  refine kc_rVi (As := []) (rest := []) ⟨hx, hb, hml, hown, hts⟩ (c_X3_thrown l D md cI 2 mK mc mD mr mw my mC mk ms mu mt mp mb me ) (cwV 0 hts gL_law_X3_thrown rfl rfl rfl (by decide +kernel) ⟨Nat.le_of_ble_eq_true rfl, Nat.le_of_ble_eq_true rfl⟩) hK hP [18, 19, 20, 21, 22, 23, 24, 25, 26, 27] [0] rfl rfl 18 rfl rfl rfl rfl hl.1 rfl (Nat.le_of_ble_eq_true rfl) dL_law_1548 ⟨kc_rc (by omega), kc_rs (by omega)⟩ ?_
  refine lv_iload hx hb dL_law_1551 (lv_at hl 1 rfl) ?_
  refine lv_icmp_eq (tgt := 1558) hx hb dL_law_1553 (by decide) (fun c_1553 => ?_) (fun c_1553 => absurd c_1553 (by decide))
  refine lv_iload hx hb dL_law_1558 (lv_at hl 1 rfl) ?_
  refine lv_if_ne (tgt := 1575) hx hb dL_law_1560 (by decide) (fun c_1560 => ?_) (fun c_1560 => absurd c_1560 (by decide))
  refine lv_goto (tgt := 1633) hx hb dL_law_1575 (by decide) ?_
  refine W.widen (k := cells + 2) (n := slots + 16) (by omega) (by omega) ?_
  exact K1 _ _ _ hP hD hS (lv_sub hl [2, 3, 4, 5, 6] rfl)
set_option maxHeartbeats 4000000 in
set_option maxRecDepth 100000 in
theorem lw_keyCount {p : Program} {l : Launch} {e : Env} {s : State} {m : MethodId} {below : List Frame} {meth : Method} {c : Code} {Q : State → Prop} {b L : Nat} {xs : Nat → Int32} (hlf : l.stackTraces = false) (C0 : lw_At p s m meth c b L xs) {D : va_G} {cI cL : ClassId} (hK : kcK D [(cI, .int), (cL, .long)] s) (hX0 : kcX (fun q => s.heap.size ≤ q) s s.heap) (hL : L ≤ 2048) (i : Nat) (hi : i + 3 < L) (ad : Nat → Nat) (cd : Nat → Int32) (te : Nat → Int32) (ri : Nat → Int32) (pi : Nat → Int32) (pw : Nat → Int32) (K : Nat) (Dn : Nat) (mv : Int32) (ko : Nat → Int32) (so : Nat → Int32) (tl : Nat → Int32) (lp : Nat → Int32) (lb : Nat → Int32) (ld : Nat → Int32) (le : Nat → Int32) (C : Nat) (cl : Nat → Int32) (dq : Nat → Int32) (dy : Int32) (ou : Nat → Int64) (md : Nat → Nat) (th : Int32) (mK : Nat) (mc : Nat → Int32) (mD : Nat) (mr : Nat → Int32) (mw : Int32) (my : Int32) (mC : Nat) (mk : Nat → Int32) (ms : Nat → Int32) (mu : Nat → Int32) (mt : Nat → Int32) (mp : Nat → Int32) (mb : Nat → Int32) (me : Nat → Int32)    (hres : (nI K : Int32) = (nI mK)) {H : Heap} {locs : List Loc} {cells slots : Nat} (hce : cells + 2 ≤ 601024) (hsl : slots + 16 ≤ 7293034) (hP : va_P D vwCl (wLaw ad cI cd te ri pi pw K Dn mv ko so tl lp lb ld le C cl dq dy cL ou md th mK mc mD mr mw my mC mk ms mu mt mp mb me) H) (hD : va_D (fun q => s.heap.size ≤ q) (wLaw ad cI cd te ri pi pw K Dn mv ko so tl lp lb ld le C cl dq dy cL ou md th mK mc mD mr mw my mC mk ms mu mt mp mb me)) (hS : va_S (fun q => s.heap.size ≤ q) s.heap H locs) {ls : Array Slot} (hl : lv_has ls 9 [(0, .ref b), (1, .ref (ad 14)), (2, .ref (md 0)), (3, .ref (ad 17)), (4, .int (nI i))]) (K1 : ∀ (H : Heap) (locs : List Loc) (ls : Array Slot), va_P D vwCl (wLaw ad cI cd te ri pi pw K Dn mv ko so tl lp lb ld le C cl dq dy cL ou md 0 mK mc mD mr mw my mC mk ms mu mt mp mb me) H → va_D (fun q => s.heap.size ≤ q) (wLaw ad cI cd te ri pi pw K Dn mv ko so tl lp lb ld le C cl dq dy cL ou md 0 mK mc mD mr mw my mC mk ms mu mt mp mb me) → va_S (fun q => s.heap.size ≤ q) s.heap H locs → lv_has ls 9 [(0, .ref b), (1, .ref (ad 14)), (2, .ref (md 0)), (3, .ref (ad 17)), (4, .int (nI i))] → W p l e room_1 s m #[Value.ref b] below meth c H locs (cells + 2) (slots + 16) Q (F0 m 1633 ls [])) : W p l e room_1 s m #[Value.ref b] below meth c H locs cells slots Q (F0 m 356 ls []) := by
  obtain ⟨hx, hb, hr, hml, hown, hts, hXs, hbl, hlocks, hgv⟩ := id C0
  have hts := fun w h => hts w (wsL_law_in w h)
  have hb : c.code = cL_law := hb
  have hA : ∀ q : Nat, s.heap.size ≤ q → (fun q : Nat => s.heap.size ≤ q) q := fun _ h => h
  have hbA : ¬ (fun q : Nat => s.heap.size ≤ q) b := Nat.not_le.mpr hbl
  refine lv_aload_n hx hb dL_law_356 rfl (lv_at hl 1 rfl) ?_
  refine kc_rVi (As := []) (rest := []) ⟨hx, hb, hml, hown, hts⟩ (c_X2_keyCount l D ad cI cd te ri pi pw K Dn mv ko so tl lp lb ld le C cl dq dy ) (cwV 0 hts gL_law_X2_keyCount rfl rfl rfl (by decide +kernel) ⟨Nat.le_of_ble_eq_true rfl, Nat.le_of_ble_eq_true rfl⟩) hK hP [0, 1, 2, 3, 4, 5, 6, 7, 8, 9, 10, 11, 12, 13, 14, 15, 16] [0] rfl rfl 14 rfl rfl rfl rfl hl.1 rfl (Nat.le_of_ble_eq_true rfl) dL_law_357 ⟨kc_rc (by omega), kc_rs (by omega)⟩ ?_
  refine lv_aload_n hx hb dL_law_360 rfl (lv_at hl 2 rfl) ?_
  refine kc_wVi (w1 := wMd md cI 0 mK mc mD mr mw my mC mk ms mu mt mp mb me) (wr := [(ad 0, .inr (1, [.ref (ad 1), .ref (ad 2), .ref (ad 3), .ref (ad 4), .ref (ad 5), .int (nI K), .int (nI Dn), .int mv])), (ad 1, .inl (cI, 8, .inl cd)), (ad 2, .inl (cI, 8, .inl te)), (ad 3, .inl (cI, 8, .inl ri)), (ad 4, .inl (cI, 8, .inl pi)), (ad 5, .inl (cI, 8, .inl pw)), (ad 6, .inr (0, [.ref (ad 7), .ref (ad 8), .ref (ad 9), .ref (ad 10), .ref (ad 11), .ref (ad 12), .ref (ad 13), .int (nI C)])), (ad 7, .inl (cI, 24, .inl ko)), (ad 8, .inl (cI, 24, .inl so)), (ad 9, .inl (cI, 24, .inl tl)), (ad 10, .inl (cI, 216, .inl lp)), (ad 11, .inl (cI, 216, .inl lb)), (ad 12, .inl (cI, 216, .inl ld)), (ad 13, .inl (cI, 216, .inl le)), (ad 14, .inr (2, [.ref (ad 0), .ref (ad 6), .ref (ad 15), .ref (ad 16), .int dy])), (ad 15, .inl (cI, 8, .inl cl)), (ad 16, .inl (cI, 8, .inl dq)), (ad 17, .inl (cL, 1, .inr (.inl ou)))]) (ws1 := wLaw ad cI cd te ri pi pw K Dn mv ko so tl lp lb ld le C cl dq dy cL ou md 0 mK mc mD mr mw my mC mk ms mu mt mp mb me) (As := []) (rest := [.int (nI K)]) ⟨hx, hb, hml, hown, hts⟩ (c_X3_keyCount_ok l D md cI th mK mc mD mr mw my mC mk ms mu mt mp mb me H.size ) (cwV 0 hts gL_law_X3_keyCount rfl rfl rfl (by decide +kernel) ⟨Nat.le_of_ble_eq_true rfl, Nat.le_of_ble_eq_true rfl⟩) hK hP hD hS hA [18, 19, 20, 21, 22, 23, 24, 25, 26, 27] [0, 1, 2, 3, 4, 5, 6, 7, 8, 9, 10, 11, 12, 13, 14, 15, 16, 17] [0, 1, 2, 3, 4, 5, 6, 7, 8, 9, 10, 11, 12, 13, 14, 15, 16, 17, 18, 19, 20, 21, 22, 23, 24, 25, 26, 27] [0] rfl rfl rfl rfl (by decide) rfl rfl rfl 18 rfl rfl rfl rfl hl.1 rfl (Nat.le_of_ble_eq_true rfl) dL_law_361 ⟨kc_rc (by omega), kc_rs (by omega)⟩ (fun H locs hP hD hS => ?_)
  refine lv_icmp_eq (tgt := 1633) hx hb dL_law_364 (by decide) (fun c_364 => ?_) (fun c_364 => ?_)
  · refine W.widen (k := cells + 2) (n := slots + 16) (by omega) (by omega) ?_
    exact K1 _ _ _ hP hD hS (lv_sub hl [0, 1, 2, 3, 4] rfl)
  · exact absurd hres c_364
set_option maxHeartbeats 4000000 in
set_option maxRecDepth 100000 in
theorem lw_doorCount {p : Program} {l : Launch} {e : Env} {s : State} {m : MethodId} {below : List Frame} {meth : Method} {c : Code} {Q : State → Prop} {b L : Nat} {xs : Nat → Int32} (hlf : l.stackTraces = false) (C0 : lw_At p s m meth c b L xs) {D : va_G} {cI cL : ClassId} (hK : kcK D [(cI, .int), (cL, .long)] s) (hX0 : kcX (fun q => s.heap.size ≤ q) s s.heap) (hL : L ≤ 2048) (i : Nat) (hi : i + 3 < L) (ad : Nat → Nat) (cd : Nat → Int32) (te : Nat → Int32) (ri : Nat → Int32) (pi : Nat → Int32) (pw : Nat → Int32) (K : Nat) (Dn : Nat) (mv : Int32) (ko : Nat → Int32) (so : Nat → Int32) (tl : Nat → Int32) (lp : Nat → Int32) (lb : Nat → Int32) (ld : Nat → Int32) (le : Nat → Int32) (C : Nat) (cl : Nat → Int32) (dq : Nat → Int32) (dy : Int32) (ou : Nat → Int64) (md : Nat → Nat) (th : Int32) (mK : Nat) (mc : Nat → Int32) (mD : Nat) (mr : Nat → Int32) (mw : Int32) (my : Int32) (mC : Nat) (mk : Nat → Int32) (ms : Nat → Int32) (mu : Nat → Int32) (mt : Nat → Int32) (mp : Nat → Int32) (mb : Nat → Int32) (me : Nat → Int32)    (hres : (nI Dn : Int32) = (nI mD)) {H : Heap} {locs : List Loc} {cells slots : Nat} (hce : cells + 2 ≤ 601024) (hsl : slots + 16 ≤ 7293034) (hP : va_P D vwCl (wLaw ad cI cd te ri pi pw K Dn mv ko so tl lp lb ld le C cl dq dy cL ou md th mK mc mD mr mw my mC mk ms mu mt mp mb me) H) (hD : va_D (fun q => s.heap.size ≤ q) (wLaw ad cI cd te ri pi pw K Dn mv ko so tl lp lb ld le C cl dq dy cL ou md th mK mc mD mr mw my mC mk ms mu mt mp mb me)) (hS : va_S (fun q => s.heap.size ≤ q) s.heap H locs) {ls : Array Slot} (hl : lv_has ls 9 [(0, .ref b), (1, .ref (ad 14)), (2, .ref (md 0)), (3, .ref (ad 17)), (4, .int (nI i))]) (K1 : ∀ (H : Heap) (locs : List Loc) (ls : Array Slot), va_P D vwCl (wLaw ad cI cd te ri pi pw K Dn mv ko so tl lp lb ld le C cl dq dy cL ou md 0 mK mc mD mr mw my mC mk ms mu mt mp mb me) H → va_D (fun q => s.heap.size ≤ q) (wLaw ad cI cd te ri pi pw K Dn mv ko so tl lp lb ld le C cl dq dy cL ou md 0 mK mc mD mr mw my mC mk ms mu mt mp mb me) → va_S (fun q => s.heap.size ≤ q) s.heap H locs → lv_has ls 9 [(0, .ref b), (1, .ref (ad 14)), (2, .ref (md 0)), (3, .ref (ad 17)), (4, .int (nI i))] → W p l e room_1 s m #[Value.ref b] below meth c H locs (cells + 2) (slots + 16) Q (F0 m 1633 ls [])) : W p l e room_1 s m #[Value.ref b] below meth c H locs cells slots Q (F0 m 369 ls []) := by
  obtain ⟨hx, hb, hr, hml, hown, hts, hXs, hbl, hlocks, hgv⟩ := id C0
  have hts := fun w h => hts w (wsL_law_in w h)
  have hb : c.code = cL_law := hb
  have hA : ∀ q : Nat, s.heap.size ≤ q → (fun q : Nat => s.heap.size ≤ q) q := fun _ h => h
  have hbA : ¬ (fun q : Nat => s.heap.size ≤ q) b := Nat.not_le.mpr hbl
  refine lv_aload_n hx hb dL_law_369 rfl (lv_at hl 1 rfl) ?_
  refine kc_rVi (As := []) (rest := []) ⟨hx, hb, hml, hown, hts⟩ (c_X2_doorCount l D ad cI cd te ri pi pw K Dn mv ko so tl lp lb ld le C cl dq dy ) (cwV 0 hts gL_law_X2_doorCount rfl rfl rfl (by decide +kernel) ⟨Nat.le_of_ble_eq_true rfl, Nat.le_of_ble_eq_true rfl⟩) hK hP [0, 1, 2, 3, 4, 5, 6, 7, 8, 9, 10, 11, 12, 13, 14, 15, 16] [0] rfl rfl 14 rfl rfl rfl rfl hl.1 rfl (Nat.le_of_ble_eq_true rfl) dL_law_370 ⟨kc_rc (by omega), kc_rs (by omega)⟩ ?_
  refine lv_aload_n hx hb dL_law_373 rfl (lv_at hl 2 rfl) ?_
  refine kc_wVi (w1 := wMd md cI 0 mK mc mD mr mw my mC mk ms mu mt mp mb me) (wr := [(ad 0, .inr (1, [.ref (ad 1), .ref (ad 2), .ref (ad 3), .ref (ad 4), .ref (ad 5), .int (nI K), .int (nI Dn), .int mv])), (ad 1, .inl (cI, 8, .inl cd)), (ad 2, .inl (cI, 8, .inl te)), (ad 3, .inl (cI, 8, .inl ri)), (ad 4, .inl (cI, 8, .inl pi)), (ad 5, .inl (cI, 8, .inl pw)), (ad 6, .inr (0, [.ref (ad 7), .ref (ad 8), .ref (ad 9), .ref (ad 10), .ref (ad 11), .ref (ad 12), .ref (ad 13), .int (nI C)])), (ad 7, .inl (cI, 24, .inl ko)), (ad 8, .inl (cI, 24, .inl so)), (ad 9, .inl (cI, 24, .inl tl)), (ad 10, .inl (cI, 216, .inl lp)), (ad 11, .inl (cI, 216, .inl lb)), (ad 12, .inl (cI, 216, .inl ld)), (ad 13, .inl (cI, 216, .inl le)), (ad 14, .inr (2, [.ref (ad 0), .ref (ad 6), .ref (ad 15), .ref (ad 16), .int dy])), (ad 15, .inl (cI, 8, .inl cl)), (ad 16, .inl (cI, 8, .inl dq)), (ad 17, .inl (cL, 1, .inr (.inl ou)))]) (ws1 := wLaw ad cI cd te ri pi pw K Dn mv ko so tl lp lb ld le C cl dq dy cL ou md 0 mK mc mD mr mw my mC mk ms mu mt mp mb me) (As := []) (rest := [.int (nI Dn)]) ⟨hx, hb, hml, hown, hts⟩ (c_X3_doorCount_ok l D md cI th mK mc mD mr mw my mC mk ms mu mt mp mb me H.size ) (cwV 0 hts gL_law_X3_doorCount rfl rfl rfl (by decide +kernel) ⟨Nat.le_of_ble_eq_true rfl, Nat.le_of_ble_eq_true rfl⟩) hK hP hD hS hA [18, 19, 20, 21, 22, 23, 24, 25, 26, 27] [0, 1, 2, 3, 4, 5, 6, 7, 8, 9, 10, 11, 12, 13, 14, 15, 16, 17] [0, 1, 2, 3, 4, 5, 6, 7, 8, 9, 10, 11, 12, 13, 14, 15, 16, 17, 18, 19, 20, 21, 22, 23, 24, 25, 26, 27] [0] rfl rfl rfl rfl (by decide) rfl rfl rfl 18 rfl rfl rfl rfl hl.1 rfl (Nat.le_of_ble_eq_true rfl) dL_law_374 ⟨kc_rc (by omega), kc_rs (by omega)⟩ (fun H locs hP hD hS => ?_)
  refine lv_icmp_eq (tgt := 1633) hx hb dL_law_377 (by decide) (fun c_377 => ?_) (fun c_377 => ?_)
  · refine W.widen (k := cells + 2) (n := slots + 16) (by omega) (by omega) ?_
    exact K1 _ _ _ hP hD hS (lv_sub hl [0, 1, 2, 3, 4] rfl)
  · exact absurd hres c_377
set_option maxHeartbeats 4000000 in
set_option maxRecDepth 100000 in
theorem lw_strays {p : Program} {l : Launch} {e : Env} {s : State} {m : MethodId} {below : List Frame} {meth : Method} {c : Code} {Q : State → Prop} {b L : Nat} {xs : Nat → Int32} (hlf : l.stackTraces = false) (C0 : lw_At p s m meth c b L xs) {D : va_G} {cI cL : ClassId} (hK : kcK D [(cI, .int), (cL, .long)] s) (hX0 : kcX (fun q => s.heap.size ≤ q) s s.heap) (hL : L ≤ 2048) (i : Nat) (hi : i + 3 < L) (ad : Nat → Nat) (cd : Nat → Int32) (te : Nat → Int32) (ri : Nat → Int32) (pi : Nat → Int32) (pw : Nat → Int32) (K : Nat) (Dn : Nat) (mv : Int32) (ko : Nat → Int32) (so : Nat → Int32) (tl : Nat → Int32) (lp : Nat → Int32) (lb : Nat → Int32) (ld : Nat → Int32) (le : Nat → Int32) (C : Nat) (cl : Nat → Int32) (dq : Nat → Int32) (dy : Int32) (ou : Nat → Int64) (md : Nat → Nat) (th : Int32) (mK : Nat) (mc : Nat → Int32) (mD : Nat) (mr : Nat → Int32) (mw : Int32) (my : Int32) (mC : Nat) (mk : Nat → Int32) (ms : Nat → Int32) (mu : Nat → Int32) (mt : Nat → Int32) (mp : Nat → Int32) (mb : Nat → Int32) (me : Nat → Int32)  (hK8 : K ≤ 8) (hD8 : Dn ≤ 8) (m_hK8 : mK ≤ 8) (m_hD8 : mD ≤ 8)  (hres : (jStrays pi te ri K Dn : Int32) = (mStrays mr mc mK mD mK)) {H : Heap} {locs : List Loc} {cells slots : Nat} (hce : cells + 2 ≤ 601024) (hsl : slots + 16 ≤ 7293034) (hP : va_P D vwCl (wLaw ad cI cd te ri pi pw K Dn mv ko so tl lp lb ld le C cl dq dy cL ou md th mK mc mD mr mw my mC mk ms mu mt mp mb me) H) (hD : va_D (fun q => s.heap.size ≤ q) (wLaw ad cI cd te ri pi pw K Dn mv ko so tl lp lb ld le C cl dq dy cL ou md th mK mc mD mr mw my mC mk ms mu mt mp mb me)) (hS : va_S (fun q => s.heap.size ≤ q) s.heap H locs) {ls : Array Slot} (hl : lv_has ls 9 [(0, .ref b), (1, .ref (ad 14)), (2, .ref (md 0)), (3, .ref (ad 17)), (4, .int (nI i))]) (K1 : ∀ (H : Heap) (locs : List Loc) (ls : Array Slot), va_P D vwCl (wLaw ad cI cd te ri pi pw K Dn mv ko so tl lp lb ld le C cl dq dy cL ou md 0 mK mc mD mr mw my mC mk ms mu mt mp mb me) H → va_D (fun q => s.heap.size ≤ q) (wLaw ad cI cd te ri pi pw K Dn mv ko so tl lp lb ld le C cl dq dy cL ou md 0 mK mc mD mr mw my mC mk ms mu mt mp mb me) → va_S (fun q => s.heap.size ≤ q) s.heap H locs → lv_has ls 9 [(0, .ref b), (1, .ref (ad 14)), (2, .ref (md 0)), (3, .ref (ad 17)), (4, .int (nI i))] → W p l e room_1 s m #[Value.ref b] below meth c H locs (cells + 2) (slots + 16) Q (F0 m 1633 ls [])) : W p l e room_1 s m #[Value.ref b] below meth c H locs cells slots Q (F0 m 693 ls []) := by
  obtain ⟨hx, hb, hr, hml, hown, hts, hXs, hbl, hlocks, hgv⟩ := id C0
  have hts := fun w h => hts w (wsL_law_in w h)
  have hb : c.code = cL_law := hb
  have hA : ∀ q : Nat, s.heap.size ≤ q → (fun q : Nat => s.heap.size ≤ q) q := fun _ h => h
  have hbA : ¬ (fun q : Nat => s.heap.size ≤ q) b := Nat.not_le.mpr hbl
  refine lv_aload_n hx hb dL_law_693 rfl (lv_at hl 1 rfl) ?_
  refine kc_rVi (As := []) (rest := []) ⟨hx, hb, hml, hown, hts⟩ (c_X2_strays l D ad cI cd te ri pi pw K Dn mv ko so tl lp lb ld le C cl dq dy hK8 hD8) (cwV 0 hts gL_law_X2_strays rfl rfl rfl (by decide +kernel) ⟨Nat.le_of_ble_eq_true rfl, Nat.le_of_ble_eq_true rfl⟩) hK hP [0, 1, 2, 3, 4, 5, 6, 7, 8, 9, 10, 11, 12, 13, 14, 15, 16] [0] rfl rfl 14 rfl rfl rfl rfl hl.1 rfl (Nat.le_of_ble_eq_true rfl) dL_law_694 ⟨kc_rc (by omega), kc_rs (by omega)⟩ ?_
  refine lv_aload_n hx hb dL_law_697 rfl (lv_at hl 2 rfl) ?_
  refine kc_wVi (w1 := wMd md cI 0 mK mc mD mr mw my mC mk ms mu mt mp mb me) (wr := [(ad 0, .inr (1, [.ref (ad 1), .ref (ad 2), .ref (ad 3), .ref (ad 4), .ref (ad 5), .int (nI K), .int (nI Dn), .int mv])), (ad 1, .inl (cI, 8, .inl cd)), (ad 2, .inl (cI, 8, .inl te)), (ad 3, .inl (cI, 8, .inl ri)), (ad 4, .inl (cI, 8, .inl pi)), (ad 5, .inl (cI, 8, .inl pw)), (ad 6, .inr (0, [.ref (ad 7), .ref (ad 8), .ref (ad 9), .ref (ad 10), .ref (ad 11), .ref (ad 12), .ref (ad 13), .int (nI C)])), (ad 7, .inl (cI, 24, .inl ko)), (ad 8, .inl (cI, 24, .inl so)), (ad 9, .inl (cI, 24, .inl tl)), (ad 10, .inl (cI, 216, .inl lp)), (ad 11, .inl (cI, 216, .inl lb)), (ad 12, .inl (cI, 216, .inl ld)), (ad 13, .inl (cI, 216, .inl le)), (ad 14, .inr (2, [.ref (ad 0), .ref (ad 6), .ref (ad 15), .ref (ad 16), .int dy])), (ad 15, .inl (cI, 8, .inl cl)), (ad 16, .inl (cI, 8, .inl dq)), (ad 17, .inl (cL, 1, .inr (.inl ou)))]) (ws1 := wLaw ad cI cd te ri pi pw K Dn mv ko so tl lp lb ld le C cl dq dy cL ou md 0 mK mc mD mr mw my mC mk ms mu mt mp mb me) (As := []) (rest := [.int (jStrays pi te ri K Dn)]) ⟨hx, hb, hml, hown, hts⟩ (c_X3_strays_ok l D md cI th mK mc mD mr mw my mC mk ms mu mt mp mb me H.size m_hK8 m_hD8) (cwV 0 hts gL_law_X3_strays rfl rfl rfl (by decide +kernel) ⟨Nat.le_of_ble_eq_true rfl, Nat.le_of_ble_eq_true rfl⟩) hK hP hD hS hA [18, 19, 20, 21, 22, 23, 24, 25, 26, 27] [0, 1, 2, 3, 4, 5, 6, 7, 8, 9, 10, 11, 12, 13, 14, 15, 16, 17] [0, 1, 2, 3, 4, 5, 6, 7, 8, 9, 10, 11, 12, 13, 14, 15, 16, 17, 18, 19, 20, 21, 22, 23, 24, 25, 26, 27] [0] rfl rfl rfl rfl (by decide) rfl rfl rfl 18 rfl rfl rfl rfl hl.1 rfl (Nat.le_of_ble_eq_true rfl) dL_law_698 ⟨kc_rc (by omega), kc_rs (by omega)⟩ (fun H locs hP hD hS => ?_)
  refine lv_icmp_eq (tgt := 1633) hx hb dL_law_701 (by decide) (fun c_701 => ?_) (fun c_701 => ?_)
  · refine W.widen (k := cells + 2) (n := slots + 16) (by omega) (by omega) ?_
    exact K1 _ _ _ hP hD hS (lv_sub hl [0, 1, 2, 3, 4] rfl)
  · exact absurd hres c_701
set_option maxHeartbeats 4000000 in
set_option maxRecDepth 100000 in
theorem lw_work {p : Program} {l : Launch} {e : Env} {s : State} {m : MethodId} {below : List Frame} {meth : Method} {c : Code} {Q : State → Prop} {b L : Nat} {xs : Nat → Int32} (hlf : l.stackTraces = false) (C0 : lw_At p s m meth c b L xs) {D : va_G} {cI cL : ClassId} (hK : kcK D [(cI, .int), (cL, .long)] s) (hX0 : kcX (fun q => s.heap.size ≤ q) s s.heap) (hL : L ≤ 2048) (i : Nat) (hi : i + 3 < L) (ad : Nat → Nat) (cd : Nat → Int32) (te : Nat → Int32) (ri : Nat → Int32) (pi : Nat → Int32) (pw : Nat → Int32) (K : Nat) (Dn : Nat) (mv : Int32) (ko : Nat → Int32) (so : Nat → Int32) (tl : Nat → Int32) (lp : Nat → Int32) (lb : Nat → Int32) (ld : Nat → Int32) (le : Nat → Int32) (C : Nat) (cl : Nat → Int32) (dq : Nat → Int32) (dy : Int32) (ou : Nat → Int64) (md : Nat → Nat) (th : Int32) (mK : Nat) (mc : Nat → Int32) (mD : Nat) (mr : Nat → Int32) (mw : Int32) (my : Int32) (mC : Nat) (mk : Nat → Int32) (ms : Nat → Int32) (mu : Nat → Int32) (mt : Nat → Int32) (mp : Nat → Int32) (mb : Nat → Int32) (me : Nat → Int32)    (hres : (mv : Int32) = (mw)) {H : Heap} {locs : List Loc} {cells slots : Nat} (hce : cells + 2 ≤ 601024) (hsl : slots + 16 ≤ 7293034) (hP : va_P D vwCl (wLaw ad cI cd te ri pi pw K Dn mv ko so tl lp lb ld le C cl dq dy cL ou md th mK mc mD mr mw my mC mk ms mu mt mp mb me) H) (hD : va_D (fun q => s.heap.size ≤ q) (wLaw ad cI cd te ri pi pw K Dn mv ko so tl lp lb ld le C cl dq dy cL ou md th mK mc mD mr mw my mC mk ms mu mt mp mb me)) (hS : va_S (fun q => s.heap.size ≤ q) s.heap H locs) {ls : Array Slot} (hl : lv_has ls 9 [(0, .ref b), (1, .ref (ad 14)), (2, .ref (md 0)), (3, .ref (ad 17)), (4, .int (nI i))]) (K1 : ∀ (H : Heap) (locs : List Loc) (ls : Array Slot), va_P D vwCl (wLaw ad cI cd te ri pi pw K Dn mv ko so tl lp lb ld le C cl dq dy cL ou md 0 mK mc mD mr mw my mC mk ms mu mt mp mb me) H → va_D (fun q => s.heap.size ≤ q) (wLaw ad cI cd te ri pi pw K Dn mv ko so tl lp lb ld le C cl dq dy cL ou md 0 mK mc mD mr mw my mC mk ms mu mt mp mb me) → va_S (fun q => s.heap.size ≤ q) s.heap H locs → lv_has ls 9 [(0, .ref b), (1, .ref (ad 14)), (2, .ref (md 0)), (3, .ref (ad 17)), (4, .int (nI i))] → W p l e room_1 s m #[Value.ref b] below meth c H locs (cells + 2) (slots + 16) Q (F0 m 1633 ls [])) : W p l e room_1 s m #[Value.ref b] below meth c H locs cells slots Q (F0 m 837 ls []) := by
  obtain ⟨hx, hb, hr, hml, hown, hts, hXs, hbl, hlocks, hgv⟩ := id C0
  have hts := fun w h => hts w (wsL_law_in w h)
  have hb : c.code = cL_law := hb
  have hA : ∀ q : Nat, s.heap.size ≤ q → (fun q : Nat => s.heap.size ≤ q) q := fun _ h => h
  have hbA : ¬ (fun q : Nat => s.heap.size ≤ q) b := Nat.not_le.mpr hbl
  refine lv_aload_n hx hb dL_law_837 rfl (lv_at hl 1 rfl) ?_
  refine kc_rVi (As := []) (rest := []) ⟨hx, hb, hml, hown, hts⟩ (c_X2_work l D ad cI cd te ri pi pw K Dn mv ko so tl lp lb ld le C cl dq dy ) (cwV 0 hts gL_law_X2_work rfl rfl rfl (by decide +kernel) ⟨Nat.le_of_ble_eq_true rfl, Nat.le_of_ble_eq_true rfl⟩) hK hP [0, 1, 2, 3, 4, 5, 6, 7, 8, 9, 10, 11, 12, 13, 14, 15, 16] [0] rfl rfl 14 rfl rfl rfl rfl hl.1 rfl (Nat.le_of_ble_eq_true rfl) dL_law_838 ⟨kc_rc (by omega), kc_rs (by omega)⟩ ?_
  refine lv_aload_n hx hb dL_law_841 rfl (lv_at hl 2 rfl) ?_
  refine kc_wVi (w1 := wMd md cI 0 mK mc mD mr mw my mC mk ms mu mt mp mb me) (wr := [(ad 0, .inr (1, [.ref (ad 1), .ref (ad 2), .ref (ad 3), .ref (ad 4), .ref (ad 5), .int (nI K), .int (nI Dn), .int mv])), (ad 1, .inl (cI, 8, .inl cd)), (ad 2, .inl (cI, 8, .inl te)), (ad 3, .inl (cI, 8, .inl ri)), (ad 4, .inl (cI, 8, .inl pi)), (ad 5, .inl (cI, 8, .inl pw)), (ad 6, .inr (0, [.ref (ad 7), .ref (ad 8), .ref (ad 9), .ref (ad 10), .ref (ad 11), .ref (ad 12), .ref (ad 13), .int (nI C)])), (ad 7, .inl (cI, 24, .inl ko)), (ad 8, .inl (cI, 24, .inl so)), (ad 9, .inl (cI, 24, .inl tl)), (ad 10, .inl (cI, 216, .inl lp)), (ad 11, .inl (cI, 216, .inl lb)), (ad 12, .inl (cI, 216, .inl ld)), (ad 13, .inl (cI, 216, .inl le)), (ad 14, .inr (2, [.ref (ad 0), .ref (ad 6), .ref (ad 15), .ref (ad 16), .int dy])), (ad 15, .inl (cI, 8, .inl cl)), (ad 16, .inl (cI, 8, .inl dq)), (ad 17, .inl (cL, 1, .inr (.inl ou)))]) (ws1 := wLaw ad cI cd te ri pi pw K Dn mv ko so tl lp lb ld le C cl dq dy cL ou md 0 mK mc mD mr mw my mC mk ms mu mt mp mb me) (As := []) (rest := [.int mv]) ⟨hx, hb, hml, hown, hts⟩ (c_X3_work_ok l D md cI th mK mc mD mr mw my mC mk ms mu mt mp mb me H.size ) (cwV 0 hts gL_law_X3_work rfl rfl rfl (by decide +kernel) ⟨Nat.le_of_ble_eq_true rfl, Nat.le_of_ble_eq_true rfl⟩) hK hP hD hS hA [18, 19, 20, 21, 22, 23, 24, 25, 26, 27] [0, 1, 2, 3, 4, 5, 6, 7, 8, 9, 10, 11, 12, 13, 14, 15, 16, 17] [0, 1, 2, 3, 4, 5, 6, 7, 8, 9, 10, 11, 12, 13, 14, 15, 16, 17, 18, 19, 20, 21, 22, 23, 24, 25, 26, 27] [0] rfl rfl rfl rfl (by decide) rfl rfl rfl 18 rfl rfl rfl rfl hl.1 rfl (Nat.le_of_ble_eq_true rfl) dL_law_842 ⟨kc_rc (by omega), kc_rs (by omega)⟩ (fun H locs hP hD hS => ?_)
  refine lv_icmp_eq (tgt := 1633) hx hb dL_law_845 (by decide) (fun c_845 => ?_) (fun c_845 => ?_)
  · refine W.widen (k := cells + 2) (n := slots + 16) (by omega) (by omega) ?_
    exact K1 _ _ _ hP hD hS (lv_sub hl [0, 1, 2, 3, 4] rfl)
  · exact absurd hres c_845
set_option maxHeartbeats 4000000 in
set_option maxRecDepth 100000 in
theorem lw_today {p : Program} {l : Launch} {e : Env} {s : State} {m : MethodId} {below : List Frame} {meth : Method} {c : Code} {Q : State → Prop} {b L : Nat} {xs : Nat → Int32} (hlf : l.stackTraces = false) (C0 : lw_At p s m meth c b L xs) {D : va_G} {cI cL : ClassId} (hK : kcK D [(cI, .int), (cL, .long)] s) (hX0 : kcX (fun q => s.heap.size ≤ q) s s.heap) (hL : L ≤ 2048) (i : Nat) (hi : i + 3 < L) (ad : Nat → Nat) (cd : Nat → Int32) (te : Nat → Int32) (ri : Nat → Int32) (pi : Nat → Int32) (pw : Nat → Int32) (K : Nat) (Dn : Nat) (mv : Int32) (ko : Nat → Int32) (so : Nat → Int32) (tl : Nat → Int32) (lp : Nat → Int32) (lb : Nat → Int32) (ld : Nat → Int32) (le : Nat → Int32) (C : Nat) (cl : Nat → Int32) (dq : Nat → Int32) (dy : Int32) (ou : Nat → Int64) (md : Nat → Nat) (th : Int32) (mK : Nat) (mc : Nat → Int32) (mD : Nat) (mr : Nat → Int32) (mw : Int32) (my : Int32) (mC : Nat) (mk : Nat → Int32) (ms : Nat → Int32) (mu : Nat → Int32) (mt : Nat → Int32) (mp : Nat → Int32) (mb : Nat → Int32) (me : Nat → Int32)    (hres : (dy : Int32) = (my)) {H : Heap} {locs : List Loc} {cells slots : Nat} (hce : cells + 2 ≤ 601024) (hsl : slots + 16 ≤ 7293034) (hP : va_P D vwCl (wLaw ad cI cd te ri pi pw K Dn mv ko so tl lp lb ld le C cl dq dy cL ou md th mK mc mD mr mw my mC mk ms mu mt mp mb me) H) (hD : va_D (fun q => s.heap.size ≤ q) (wLaw ad cI cd te ri pi pw K Dn mv ko so tl lp lb ld le C cl dq dy cL ou md th mK mc mD mr mw my mC mk ms mu mt mp mb me)) (hS : va_S (fun q => s.heap.size ≤ q) s.heap H locs) {ls : Array Slot} (hl : lv_has ls 9 [(0, .ref b), (1, .ref (ad 14)), (2, .ref (md 0)), (3, .ref (ad 17)), (4, .int (nI i))]) (K1 : ∀ (H : Heap) (locs : List Loc) (ls : Array Slot), va_P D vwCl (wLaw ad cI cd te ri pi pw K Dn mv ko so tl lp lb ld le C cl dq dy cL ou md 0 mK mc mD mr mw my mC mk ms mu mt mp mb me) H → va_D (fun q => s.heap.size ≤ q) (wLaw ad cI cd te ri pi pw K Dn mv ko so tl lp lb ld le C cl dq dy cL ou md 0 mK mc mD mr mw my mC mk ms mu mt mp mb me) → va_S (fun q => s.heap.size ≤ q) s.heap H locs → lv_has ls 9 [(0, .ref b), (1, .ref (ad 14)), (2, .ref (md 0)), (3, .ref (ad 17)), (4, .int (nI i))] → W p l e room_1 s m #[Value.ref b] below meth c H locs (cells + 2) (slots + 16) Q (F0 m 1633 ls [])) : W p l e room_1 s m #[Value.ref b] below meth c H locs cells slots Q (F0 m 1266 ls []) := by
  obtain ⟨hx, hb, hr, hml, hown, hts, hXs, hbl, hlocks, hgv⟩ := id C0
  have hts := fun w h => hts w (wsL_law_in w h)
  have hb : c.code = cL_law := hb
  have hA : ∀ q : Nat, s.heap.size ≤ q → (fun q : Nat => s.heap.size ≤ q) q := fun _ h => h
  have hbA : ¬ (fun q : Nat => s.heap.size ≤ q) b := Nat.not_le.mpr hbl
  refine lv_aload_n hx hb dL_law_1266 rfl (lv_at hl 1 rfl) ?_
  refine kc_rVi (As := []) (rest := []) ⟨hx, hb, hml, hown, hts⟩ (c_X2_today l D ad cI cd te ri pi pw K Dn mv ko so tl lp lb ld le C cl dq dy ) (cwV 0 hts gL_law_X2_today rfl rfl rfl (by decide +kernel) ⟨Nat.le_of_ble_eq_true rfl, Nat.le_of_ble_eq_true rfl⟩) hK hP [0, 1, 2, 3, 4, 5, 6, 7, 8, 9, 10, 11, 12, 13, 14, 15, 16] [0] rfl rfl 14 rfl rfl rfl rfl hl.1 rfl (Nat.le_of_ble_eq_true rfl) dL_law_1267 ⟨kc_rc (by omega), kc_rs (by omega)⟩ ?_
  refine lv_aload_n hx hb dL_law_1270 rfl (lv_at hl 2 rfl) ?_
  refine kc_wVi (w1 := wMd md cI 0 mK mc mD mr mw my mC mk ms mu mt mp mb me) (wr := [(ad 0, .inr (1, [.ref (ad 1), .ref (ad 2), .ref (ad 3), .ref (ad 4), .ref (ad 5), .int (nI K), .int (nI Dn), .int mv])), (ad 1, .inl (cI, 8, .inl cd)), (ad 2, .inl (cI, 8, .inl te)), (ad 3, .inl (cI, 8, .inl ri)), (ad 4, .inl (cI, 8, .inl pi)), (ad 5, .inl (cI, 8, .inl pw)), (ad 6, .inr (0, [.ref (ad 7), .ref (ad 8), .ref (ad 9), .ref (ad 10), .ref (ad 11), .ref (ad 12), .ref (ad 13), .int (nI C)])), (ad 7, .inl (cI, 24, .inl ko)), (ad 8, .inl (cI, 24, .inl so)), (ad 9, .inl (cI, 24, .inl tl)), (ad 10, .inl (cI, 216, .inl lp)), (ad 11, .inl (cI, 216, .inl lb)), (ad 12, .inl (cI, 216, .inl ld)), (ad 13, .inl (cI, 216, .inl le)), (ad 14, .inr (2, [.ref (ad 0), .ref (ad 6), .ref (ad 15), .ref (ad 16), .int dy])), (ad 15, .inl (cI, 8, .inl cl)), (ad 16, .inl (cI, 8, .inl dq)), (ad 17, .inl (cL, 1, .inr (.inl ou)))]) (ws1 := wLaw ad cI cd te ri pi pw K Dn mv ko so tl lp lb ld le C cl dq dy cL ou md 0 mK mc mD mr mw my mC mk ms mu mt mp mb me) (As := []) (rest := [.int dy]) ⟨hx, hb, hml, hown, hts⟩ (c_X3_today_ok l D md cI th mK mc mD mr mw my mC mk ms mu mt mp mb me H.size ) (cwV 0 hts gL_law_X3_today rfl rfl rfl (by decide +kernel) ⟨Nat.le_of_ble_eq_true rfl, Nat.le_of_ble_eq_true rfl⟩) hK hP hD hS hA [18, 19, 20, 21, 22, 23, 24, 25, 26, 27] [0, 1, 2, 3, 4, 5, 6, 7, 8, 9, 10, 11, 12, 13, 14, 15, 16, 17] [0, 1, 2, 3, 4, 5, 6, 7, 8, 9, 10, 11, 12, 13, 14, 15, 16, 17, 18, 19, 20, 21, 22, 23, 24, 25, 26, 27] [0] rfl rfl rfl rfl (by decide) rfl rfl rfl 18 rfl rfl rfl rfl hl.1 rfl (Nat.le_of_ble_eq_true rfl) dL_law_1271 ⟨kc_rc (by omega), kc_rs (by omega)⟩ (fun H locs hP hD hS => ?_)
  refine lv_icmp_eq (tgt := 1633) hx hb dL_law_1274 (by decide) (fun c_1274 => ?_) (fun c_1274 => ?_)
  · refine W.widen (k := cells + 2) (n := slots + 16) (by omega) (by omega) ?_
    exact K1 _ _ _ hP hD hS (lv_sub hl [0, 1, 2, 3, 4] rfl)
  · exact absurd hres c_1274
set_option maxHeartbeats 4000000 in
set_option maxRecDepth 100000 in
theorem lw_copyCount {p : Program} {l : Launch} {e : Env} {s : State} {m : MethodId} {below : List Frame} {meth : Method} {c : Code} {Q : State → Prop} {b L : Nat} {xs : Nat → Int32} (hlf : l.stackTraces = false) (C0 : lw_At p s m meth c b L xs) {D : va_G} {cI cL : ClassId} (hK : kcK D [(cI, .int), (cL, .long)] s) (hX0 : kcX (fun q => s.heap.size ≤ q) s s.heap) (hL : L ≤ 2048) (i : Nat) (hi : i + 3 < L) (ad : Nat → Nat) (cd : Nat → Int32) (te : Nat → Int32) (ri : Nat → Int32) (pi : Nat → Int32) (pw : Nat → Int32) (K : Nat) (Dn : Nat) (mv : Int32) (ko : Nat → Int32) (so : Nat → Int32) (tl : Nat → Int32) (lp : Nat → Int32) (lb : Nat → Int32) (ld : Nat → Int32) (le : Nat → Int32) (C : Nat) (cl : Nat → Int32) (dq : Nat → Int32) (dy : Int32) (ou : Nat → Int64) (md : Nat → Nat) (th : Int32) (mK : Nat) (mc : Nat → Int32) (mD : Nat) (mr : Nat → Int32) (mw : Int32) (my : Int32) (mC : Nat) (mk : Nat → Int32) (ms : Nat → Int32) (mu : Nat → Int32) (mt : Nat → Int32) (mp : Nat → Int32) (mb : Nat → Int32) (me : Nat → Int32)    (hres : (nI C : Int32) = (nI mC)) {H : Heap} {locs : List Loc} {cells slots : Nat} (hce : cells + 2 ≤ 601024) (hsl : slots + 16 ≤ 7293034) (hP : va_P D vwCl (wLaw ad cI cd te ri pi pw K Dn mv ko so tl lp lb ld le C cl dq dy cL ou md th mK mc mD mr mw my mC mk ms mu mt mp mb me) H) (hD : va_D (fun q => s.heap.size ≤ q) (wLaw ad cI cd te ri pi pw K Dn mv ko so tl lp lb ld le C cl dq dy cL ou md th mK mc mD mr mw my mC mk ms mu mt mp mb me)) (hS : va_S (fun q => s.heap.size ≤ q) s.heap H locs) {ls : Array Slot} (hl : lv_has ls 9 [(0, .ref b), (1, .ref (ad 14)), (2, .ref (md 0)), (3, .ref (ad 17)), (4, .int (nI i))]) (K1 : ∀ (H : Heap) (locs : List Loc) (ls : Array Slot), va_P D vwCl (wLaw ad cI cd te ri pi pw K Dn mv ko so tl lp lb ld le C cl dq dy cL ou md 0 mK mc mD mr mw my mC mk ms mu mt mp mb me) H → va_D (fun q => s.heap.size ≤ q) (wLaw ad cI cd te ri pi pw K Dn mv ko so tl lp lb ld le C cl dq dy cL ou md 0 mK mc mD mr mw my mC mk ms mu mt mp mb me) → va_S (fun q => s.heap.size ≤ q) s.heap H locs → lv_has ls 9 [(0, .ref b), (1, .ref (ad 14)), (2, .ref (md 0)), (3, .ref (ad 17)), (4, .int (nI i))] → W p l e room_1 s m #[Value.ref b] below meth c H locs (cells + 2) (slots + 16) Q (F0 m 1633 ls [])) : W p l e room_1 s m #[Value.ref b] below meth c H locs cells slots Q (F0 m 1279 ls []) := by
  obtain ⟨hx, hb, hr, hml, hown, hts, hXs, hbl, hlocks, hgv⟩ := id C0
  have hts := fun w h => hts w (wsL_law_in w h)
  have hb : c.code = cL_law := hb
  have hA : ∀ q : Nat, s.heap.size ≤ q → (fun q : Nat => s.heap.size ≤ q) q := fun _ h => h
  have hbA : ¬ (fun q : Nat => s.heap.size ≤ q) b := Nat.not_le.mpr hbl
  refine lv_aload_n hx hb dL_law_1279 rfl (lv_at hl 1 rfl) ?_
  refine kc_rVi (As := []) (rest := []) ⟨hx, hb, hml, hown, hts⟩ (c_X2_copyCount l D ad cI cd te ri pi pw K Dn mv ko so tl lp lb ld le C cl dq dy ) (cwV 0 hts gL_law_X2_copyCount rfl rfl rfl (by decide +kernel) ⟨Nat.le_of_ble_eq_true rfl, Nat.le_of_ble_eq_true rfl⟩) hK hP [0, 1, 2, 3, 4, 5, 6, 7, 8, 9, 10, 11, 12, 13, 14, 15, 16] [0] rfl rfl 14 rfl rfl rfl rfl hl.1 rfl (Nat.le_of_ble_eq_true rfl) dL_law_1280 ⟨kc_rc (by omega), kc_rs (by omega)⟩ ?_
  refine lv_aload_n hx hb dL_law_1283 rfl (lv_at hl 2 rfl) ?_
  refine kc_wVi (w1 := wMd md cI 0 mK mc mD mr mw my mC mk ms mu mt mp mb me) (wr := [(ad 0, .inr (1, [.ref (ad 1), .ref (ad 2), .ref (ad 3), .ref (ad 4), .ref (ad 5), .int (nI K), .int (nI Dn), .int mv])), (ad 1, .inl (cI, 8, .inl cd)), (ad 2, .inl (cI, 8, .inl te)), (ad 3, .inl (cI, 8, .inl ri)), (ad 4, .inl (cI, 8, .inl pi)), (ad 5, .inl (cI, 8, .inl pw)), (ad 6, .inr (0, [.ref (ad 7), .ref (ad 8), .ref (ad 9), .ref (ad 10), .ref (ad 11), .ref (ad 12), .ref (ad 13), .int (nI C)])), (ad 7, .inl (cI, 24, .inl ko)), (ad 8, .inl (cI, 24, .inl so)), (ad 9, .inl (cI, 24, .inl tl)), (ad 10, .inl (cI, 216, .inl lp)), (ad 11, .inl (cI, 216, .inl lb)), (ad 12, .inl (cI, 216, .inl ld)), (ad 13, .inl (cI, 216, .inl le)), (ad 14, .inr (2, [.ref (ad 0), .ref (ad 6), .ref (ad 15), .ref (ad 16), .int dy])), (ad 15, .inl (cI, 8, .inl cl)), (ad 16, .inl (cI, 8, .inl dq)), (ad 17, .inl (cL, 1, .inr (.inl ou)))]) (ws1 := wLaw ad cI cd te ri pi pw K Dn mv ko so tl lp lb ld le C cl dq dy cL ou md 0 mK mc mD mr mw my mC mk ms mu mt mp mb me) (As := []) (rest := [.int (nI C)]) ⟨hx, hb, hml, hown, hts⟩ (c_X3_copyCount_ok l D md cI th mK mc mD mr mw my mC mk ms mu mt mp mb me H.size ) (cwV 0 hts gL_law_X3_copyCount rfl rfl rfl (by decide +kernel) ⟨Nat.le_of_ble_eq_true rfl, Nat.le_of_ble_eq_true rfl⟩) hK hP hD hS hA [18, 19, 20, 21, 22, 23, 24, 25, 26, 27] [0, 1, 2, 3, 4, 5, 6, 7, 8, 9, 10, 11, 12, 13, 14, 15, 16, 17] [0, 1, 2, 3, 4, 5, 6, 7, 8, 9, 10, 11, 12, 13, 14, 15, 16, 17, 18, 19, 20, 21, 22, 23, 24, 25, 26, 27] [0] rfl rfl rfl rfl (by decide) rfl rfl rfl 18 rfl rfl rfl rfl hl.1 rfl (Nat.le_of_ble_eq_true rfl) dL_law_1284 ⟨kc_rc (by omega), kc_rs (by omega)⟩ (fun H locs hP hD hS => ?_)
  refine lv_icmp_eq (tgt := 1633) hx hb dL_law_1287 (by decide) (fun c_1287 => ?_) (fun c_1287 => ?_)
  · refine W.widen (k := cells + 2) (n := slots + 16) (by omega) (by omega) ?_
    exact K1 _ _ _ hP hD hS (lv_sub hl [0, 1, 2, 3, 4] rfl)
  · exact absurd hres c_1287
set_option maxHeartbeats 4000000 in
set_option maxRecDepth 100000 in
theorem lw_overdue {p : Program} {l : Launch} {e : Env} {s : State} {m : MethodId} {below : List Frame} {meth : Method} {c : Code} {Q : State → Prop} {b L : Nat} {xs : Nat → Int32} (hlf : l.stackTraces = false) (C0 : lw_At p s m meth c b L xs) {D : va_G} {cI cL : ClassId} (hK : kcK D [(cI, .int), (cL, .long)] s) (hX0 : kcX (fun q => s.heap.size ≤ q) s s.heap) (hL : L ≤ 2048) (i : Nat) (hi : i + 3 < L) (ad : Nat → Nat) (cd : Nat → Int32) (te : Nat → Int32) (ri : Nat → Int32) (pi : Nat → Int32) (pw : Nat → Int32) (K : Nat) (Dn : Nat) (mv : Int32) (ko : Nat → Int32) (so : Nat → Int32) (tl : Nat → Int32) (lp : Nat → Int32) (lb : Nat → Int32) (ld : Nat → Int32) (le : Nat → Int32) (C : Nat) (cl : Nat → Int32) (dq : Nat → Int32) (dy : Int32) (ou : Nat → Int64) (md : Nat → Nat) (th : Int32) (mK : Nat) (mc : Nat → Int32) (mD : Nat) (mr : Nat → Int32) (mw : Int32) (my : Int32) (mC : Nat) (mk : Nat → Int32) (ms : Nat → Int32) (mu : Nat → Int32) (mt : Nat → Int32) (mp : Nat → Int32) (mb : Nat → Int32) (me : Nat → Int32) (tn : Nat → Nat) (hC24 : C ≤ 24) (hok : okLe so tl tn) (m_hC24 : mC ≤ 24)  (hres : (jLate so ld tn dy C : Int32) = (mLate ms mu my mC)) {H : Heap} {locs : List Loc} {cells slots : Nat} (hce : cells + 2 ≤ 601024) (hsl : slots + 16 ≤ 7293034) (hP : va_P D vwCl (wLaw ad cI cd te ri pi pw K Dn mv ko so tl lp lb ld le C cl dq dy cL ou md th mK mc mD mr mw my mC mk ms mu mt mp mb me) H) (hD : va_D (fun q => s.heap.size ≤ q) (wLaw ad cI cd te ri pi pw K Dn mv ko so tl lp lb ld le C cl dq dy cL ou md th mK mc mD mr mw my mC mk ms mu mt mp mb me)) (hS : va_S (fun q => s.heap.size ≤ q) s.heap H locs) {ls : Array Slot} (hl : lv_has ls 9 [(0, .ref b), (1, .ref (ad 14)), (2, .ref (md 0)), (3, .ref (ad 17)), (4, .int (nI i))]) (K1 : ∀ (H : Heap) (locs : List Loc) (ls : Array Slot), va_P D vwCl (wLaw ad cI cd te ri pi pw K Dn mv ko so tl lp lb ld le C cl dq dy cL ou md 0 mK mc mD mr mw my mC mk ms mu mt mp mb me) H → va_D (fun q => s.heap.size ≤ q) (wLaw ad cI cd te ri pi pw K Dn mv ko so tl lp lb ld le C cl dq dy cL ou md 0 mK mc mD mr mw my mC mk ms mu mt mp mb me) → va_S (fun q => s.heap.size ≤ q) s.heap H locs → lv_has ls 9 [(0, .ref b), (1, .ref (ad 14)), (2, .ref (md 0)), (3, .ref (ad 17)), (4, .int (nI i))] → W p l e room_1 s m #[Value.ref b] below meth c H locs (cells + 2) (slots + 16) Q (F0 m 1633 ls [])) : W p l e room_1 s m #[Value.ref b] below meth c H locs cells slots Q (F0 m 1360 ls []) := by
  obtain ⟨hx, hb, hr, hml, hown, hts, hXs, hbl, hlocks, hgv⟩ := id C0
  have hts := fun w h => hts w (wsL_law_in w h)
  have hb : c.code = cL_law := hb
  have hA : ∀ q : Nat, s.heap.size ≤ q → (fun q : Nat => s.heap.size ≤ q) q := fun _ h => h
  have hbA : ¬ (fun q : Nat => s.heap.size ≤ q) b := Nat.not_le.mpr hbl
  refine lv_aload_n hx hb dL_law_1360 rfl (lv_at hl 1 rfl) ?_
  refine kc_rVi (As := []) (rest := []) ⟨hx, hb, hml, hown, hts⟩ (c_X2_overdue l D ad cI cd te ri pi pw K Dn mv ko so tl lp lb ld le C cl dq dy tn hC24 hok) (cwV 0 hts gL_law_X2_overdue rfl rfl rfl (by decide +kernel) ⟨Nat.le_of_ble_eq_true rfl, Nat.le_of_ble_eq_true rfl⟩) hK hP [0, 1, 2, 3, 4, 5, 6, 7, 8, 9, 10, 11, 12, 13, 14, 15, 16] [0] rfl rfl 14 rfl rfl rfl rfl hl.1 rfl (Nat.le_of_ble_eq_true rfl) dL_law_1361 ⟨kc_rc (by omega), kc_rs (by omega)⟩ ?_
  refine lv_aload_n hx hb dL_law_1364 rfl (lv_at hl 2 rfl) ?_
  refine kc_wVi (w1 := wMd md cI 0 mK mc mD mr mw my mC mk ms mu mt mp mb me) (wr := [(ad 0, .inr (1, [.ref (ad 1), .ref (ad 2), .ref (ad 3), .ref (ad 4), .ref (ad 5), .int (nI K), .int (nI Dn), .int mv])), (ad 1, .inl (cI, 8, .inl cd)), (ad 2, .inl (cI, 8, .inl te)), (ad 3, .inl (cI, 8, .inl ri)), (ad 4, .inl (cI, 8, .inl pi)), (ad 5, .inl (cI, 8, .inl pw)), (ad 6, .inr (0, [.ref (ad 7), .ref (ad 8), .ref (ad 9), .ref (ad 10), .ref (ad 11), .ref (ad 12), .ref (ad 13), .int (nI C)])), (ad 7, .inl (cI, 24, .inl ko)), (ad 8, .inl (cI, 24, .inl so)), (ad 9, .inl (cI, 24, .inl tl)), (ad 10, .inl (cI, 216, .inl lp)), (ad 11, .inl (cI, 216, .inl lb)), (ad 12, .inl (cI, 216, .inl ld)), (ad 13, .inl (cI, 216, .inl le)), (ad 14, .inr (2, [.ref (ad 0), .ref (ad 6), .ref (ad 15), .ref (ad 16), .int dy])), (ad 15, .inl (cI, 8, .inl cl)), (ad 16, .inl (cI, 8, .inl dq)), (ad 17, .inl (cL, 1, .inr (.inl ou)))]) (ws1 := wLaw ad cI cd te ri pi pw K Dn mv ko so tl lp lb ld le C cl dq dy cL ou md 0 mK mc mD mr mw my mC mk ms mu mt mp mb me) (As := []) (rest := [.int (jLate so ld tn dy C)]) ⟨hx, hb, hml, hown, hts⟩ (c_X3_overdue_ok l D md cI th mK mc mD mr mw my mC mk ms mu mt mp mb me H.size m_hC24) (cwV 0 hts gL_law_X3_overdue rfl rfl rfl (by decide +kernel) ⟨Nat.le_of_ble_eq_true rfl, Nat.le_of_ble_eq_true rfl⟩) hK hP hD hS hA [18, 19, 20, 21, 22, 23, 24, 25, 26, 27] [0, 1, 2, 3, 4, 5, 6, 7, 8, 9, 10, 11, 12, 13, 14, 15, 16, 17] [0, 1, 2, 3, 4, 5, 6, 7, 8, 9, 10, 11, 12, 13, 14, 15, 16, 17, 18, 19, 20, 21, 22, 23, 24, 25, 26, 27] [0] rfl rfl rfl rfl (by decide) rfl rfl rfl 18 rfl rfl rfl rfl hl.1 rfl (Nat.le_of_ble_eq_true rfl) dL_law_1365 ⟨kc_rc (by omega), kc_rs (by omega)⟩ (fun H locs hP hD hS => ?_)
  refine lv_icmp_eq (tgt := 1633) hx hb dL_law_1368 (by decide) (fun c_1368 => ?_) (fun c_1368 => ?_)
  · refine W.widen (k := cells + 2) (n := slots + 16) (by omega) (by omega) ?_
    exact K1 _ _ _ hP hD hS (lv_sub hl [0, 1, 2, 3, 4] rfl)
  · exact absurd hres c_1368
set_option maxHeartbeats 4000000 in
set_option maxRecDepth 100000 in
theorem lw_risk {p : Program} {l : Launch} {e : Env} {s : State} {m : MethodId} {below : List Frame} {meth : Method} {c : Code} {Q : State → Prop} {b L : Nat} {xs : Nat → Int32} (hlf : l.stackTraces = false) (C0 : lw_At p s m meth c b L xs) {D : va_G} {cI cL : ClassId} (hK : kcK D [(cI, .int), (cL, .long)] s) (hX0 : kcX (fun q => s.heap.size ≤ q) s s.heap) (hL : L ≤ 2048) (i : Nat) (hi : i + 3 < L) (ad : Nat → Nat) (cd : Nat → Int32) (te : Nat → Int32) (ri : Nat → Int32) (pi : Nat → Int32) (pw : Nat → Int32) (K : Nat) (Dn : Nat) (mv : Int32) (ko : Nat → Int32) (so : Nat → Int32) (tl : Nat → Int32) (lp : Nat → Int32) (lb : Nat → Int32) (ld : Nat → Int32) (le : Nat → Int32) (C : Nat) (cl : Nat → Int32) (dq : Nat → Int32) (dy : Int32) (ou : Nat → Int64) (md : Nat → Nat) (th : Int32) (mK : Nat) (mc : Nat → Int32) (mD : Nat) (mr : Nat → Int32) (mw : Int32) (my : Int32) (mC : Nat) (mk : Nat → Int32) (ms : Nat → Int32) (mu : Nat → Int32) (mt : Nat → Int32) (mp : Nat → Int32) (mb : Nat → Int32) (me : Nat → Int32) (kn : Nat → Nat) (hK8 : K ≤ 8) (hD8 : Dn ≤ 8) (hC24 : C ≤ 24) (m_hK8 : mK ≤ 8) (m_hD8 : mD ≤ 8) (m_hC24 : mC ≤ 24) (m_hkn : okKe mC mk kn)  (hres : (jRisk pi te Dn K ko so C : Int32) = (mRisk mr mc ms mK mD kn mC)) {H : Heap} {locs : List Loc} {cells slots : Nat} (hce : cells + 2 ≤ 601024) (hsl : slots + 16 ≤ 7293034) (hP : va_P D vwCl (wLaw ad cI cd te ri pi pw K Dn mv ko so tl lp lb ld le C cl dq dy cL ou md th mK mc mD mr mw my mC mk ms mu mt mp mb me) H) (hD : va_D (fun q => s.heap.size ≤ q) (wLaw ad cI cd te ri pi pw K Dn mv ko so tl lp lb ld le C cl dq dy cL ou md th mK mc mD mr mw my mC mk ms mu mt mp mb me)) (hS : va_S (fun q => s.heap.size ≤ q) s.heap H locs) {ls : Array Slot} (hl : lv_has ls 9 [(0, .ref b), (1, .ref (ad 14)), (2, .ref (md 0)), (3, .ref (ad 17)), (4, .int (nI i))]) (K1 : ∀ (H : Heap) (locs : List Loc) (ls : Array Slot), va_P D vwCl (wLaw ad cI cd te ri pi pw K Dn mv ko so tl lp lb ld le C cl dq dy cL ou md 0 mK mc mD mr mw my mC mk ms mu mt mp mb me) H → va_D (fun q => s.heap.size ≤ q) (wLaw ad cI cd te ri pi pw K Dn mv ko so tl lp lb ld le C cl dq dy cL ou md 0 mK mc mD mr mw my mC mk ms mu mt mp mb me) → va_S (fun q => s.heap.size ≤ q) s.heap H locs → lv_has ls 9 [(0, .ref b), (1, .ref (ad 14)), (2, .ref (md 0)), (3, .ref (ad 17)), (4, .int (nI i))] → W p l e room_1 s m #[Value.ref b] below meth c H locs (cells + 2) (slots + 16) Q (F0 m 1633 ls [])) : W p l e room_1 s m #[Value.ref b] below meth c H locs cells slots Q (F0 m 1497 ls []) := by
  obtain ⟨hx, hb, hr, hml, hown, hts, hXs, hbl, hlocks, hgv⟩ := id C0
  have hts := fun w h => hts w (wsL_law_in w h)
  have hb : c.code = cL_law := hb
  have hA : ∀ q : Nat, s.heap.size ≤ q → (fun q : Nat => s.heap.size ≤ q) q := fun _ h => h
  have hbA : ¬ (fun q : Nat => s.heap.size ≤ q) b := Nat.not_le.mpr hbl
  refine lv_aload_n hx hb dL_law_1497 rfl (lv_at hl 1 rfl) ?_
  refine kc_rVi (As := []) (rest := []) ⟨hx, hb, hml, hown, hts⟩ (c_X2_risk l D ad cI cd te ri pi pw K Dn mv ko so tl lp lb ld le C cl dq dy hK8 hD8 hC24) (cwV 0 hts gL_law_X2_risk rfl rfl rfl (by decide +kernel) ⟨Nat.le_of_ble_eq_true rfl, Nat.le_of_ble_eq_true rfl⟩) hK hP [0, 1, 2, 3, 4, 5, 6, 7, 8, 9, 10, 11, 12, 13, 14, 15, 16] [0] rfl rfl 14 rfl rfl rfl rfl hl.1 rfl (Nat.le_of_ble_eq_true rfl) dL_law_1498 ⟨kc_rc (by omega), kc_rs (by omega)⟩ ?_
  refine lv_aload_n hx hb dL_law_1501 rfl (lv_at hl 2 rfl) ?_
  refine kc_wVi (w1 := wMd md cI 0 mK mc mD mr mw my mC mk ms mu mt mp mb me) (wr := [(ad 0, .inr (1, [.ref (ad 1), .ref (ad 2), .ref (ad 3), .ref (ad 4), .ref (ad 5), .int (nI K), .int (nI Dn), .int mv])), (ad 1, .inl (cI, 8, .inl cd)), (ad 2, .inl (cI, 8, .inl te)), (ad 3, .inl (cI, 8, .inl ri)), (ad 4, .inl (cI, 8, .inl pi)), (ad 5, .inl (cI, 8, .inl pw)), (ad 6, .inr (0, [.ref (ad 7), .ref (ad 8), .ref (ad 9), .ref (ad 10), .ref (ad 11), .ref (ad 12), .ref (ad 13), .int (nI C)])), (ad 7, .inl (cI, 24, .inl ko)), (ad 8, .inl (cI, 24, .inl so)), (ad 9, .inl (cI, 24, .inl tl)), (ad 10, .inl (cI, 216, .inl lp)), (ad 11, .inl (cI, 216, .inl lb)), (ad 12, .inl (cI, 216, .inl ld)), (ad 13, .inl (cI, 216, .inl le)), (ad 14, .inr (2, [.ref (ad 0), .ref (ad 6), .ref (ad 15), .ref (ad 16), .int dy])), (ad 15, .inl (cI, 8, .inl cl)), (ad 16, .inl (cI, 8, .inl dq)), (ad 17, .inl (cL, 1, .inr (.inl ou)))]) (ws1 := wLaw ad cI cd te ri pi pw K Dn mv ko so tl lp lb ld le C cl dq dy cL ou md 0 mK mc mD mr mw my mC mk ms mu mt mp mb me) (As := []) (rest := [.int (jRisk pi te Dn K ko so C)]) ⟨hx, hb, hml, hown, hts⟩ (c_X3_risk_ok l D md cI th mK mc mD mr mw my mC mk ms mu mt mp mb me kn H.size m_hK8 m_hD8 m_hC24 m_hkn) (cwV 0 hts gL_law_X3_risk rfl rfl rfl (by decide +kernel) ⟨Nat.le_of_ble_eq_true rfl, Nat.le_of_ble_eq_true rfl⟩) hK hP hD hS hA [18, 19, 20, 21, 22, 23, 24, 25, 26, 27] [0, 1, 2, 3, 4, 5, 6, 7, 8, 9, 10, 11, 12, 13, 14, 15, 16, 17] [0, 1, 2, 3, 4, 5, 6, 7, 8, 9, 10, 11, 12, 13, 14, 15, 16, 17, 18, 19, 20, 21, 22, 23, 24, 25, 26, 27] [0] rfl rfl rfl rfl (by decide) rfl rfl rfl 18 rfl rfl rfl rfl hl.1 rfl (Nat.le_of_ble_eq_true rfl) dL_law_1502 ⟨kc_rc (by omega), kc_rs (by omega)⟩ (fun H locs hP hD hS => ?_)
  refine lv_icmp_eq (tgt := 1633) hx hb dL_law_1505 (by decide) (fun c_1505 => ?_) (fun c_1505 => ?_)
  · refine W.widen (k := cells + 2) (n := slots + 16) (by omega) (by omega) ?_
    exact K1 _ _ _ hP hD hS (lv_sub hl [0, 1, 2, 3, 4] rfl)
  · exact absurd hres c_1505
set_option maxHeartbeats 4000000 in
set_option maxRecDepth 100000 in
theorem lw_digest {p : Program} {l : Launch} {e : Env} {s : State} {m : MethodId} {below : List Frame} {meth : Method} {c : Code} {Q : State → Prop} {b L : Nat} {xs : Nat → Int32} (hlf : l.stackTraces = false) (C0 : lw_At p s m meth c b L xs) {D : va_G} {cI cL : ClassId} (hK : kcK D [(cI, .int), (cL, .long)] s) (hX0 : kcX (fun q => s.heap.size ≤ q) s s.heap) (hL : L ≤ 2048) (i : Nat) (hi : i + 3 < L) (ad : Nat → Nat) (cd : Nat → Int32) (te : Nat → Int32) (ri : Nat → Int32) (pi : Nat → Int32) (pw : Nat → Int32) (K : Nat) (Dn : Nat) (mv : Int32) (ko : Nat → Int32) (so : Nat → Int32) (tl : Nat → Int32) (lp : Nat → Int32) (lb : Nat → Int32) (ld : Nat → Int32) (le : Nat → Int32) (C : Nat) (cl : Nat → Int32) (dq : Nat → Int32) (dy : Int32) (ou : Nat → Int64) (md : Nat → Nat) (th : Int32) (mK : Nat) (mc : Nat → Int32) (mD : Nat) (mr : Nat → Int32) (mw : Int32) (my : Int32) (mC : Nat) (mk : Nat → Int32) (ms : Nat → Int32) (mu : Nat → Int32) (mt : Nat → Int32) (mp : Nat → Int32) (mb : Nat → Int32) (me : Nat → Int32) (tn : Nat → Nat) (hK8 : K ≤ 8) (hD8 : Dn ≤ 8) (hC24 : C ≤ 24) (hok : okLe so tl tn) (m_hK8 : mK ≤ 8) (m_hD8 : mD ≤ 8) (m_hC24 : mC ≤ 24) (m_hok : okLe ms mt tn)  (hres : (jDigC ko so tl lp ld tn (mix (mix (mix (jDigD ri pi (mix (jDigK cd (mix 173 (nI K)) K) (nI Dn)) Dn) mv) dy) (nI C)) C : Int64) = (mDigC mk ms mu mt mp tn (mix (mix (mix (mDigD mr mc mK (mix (mDigK mc (5363 + Int32.toInt64 (nI mK)) mK) (nI mD)) mD) mw) my) (nI mC)) mC)) {H : Heap} {locs : List Loc} {cells slots : Nat} (hce : cells + 2 ≤ 601024) (hsl : slots + 16 ≤ 7293034) (hP : va_P D vwCl (wLaw ad cI cd te ri pi pw K Dn mv ko so tl lp lb ld le C cl dq dy cL ou md th mK mc mD mr mw my mC mk ms mu mt mp mb me) H) (hD : va_D (fun q => s.heap.size ≤ q) (wLaw ad cI cd te ri pi pw K Dn mv ko so tl lp lb ld le C cl dq dy cL ou md th mK mc mD mr mw my mC mk ms mu mt mp mb me)) (hS : va_S (fun q => s.heap.size ≤ q) s.heap H locs) {ls : Array Slot} (hl : lv_has ls 9 [(0, .ref b), (1, .ref (ad 14)), (2, .ref (md 0)), (3, .ref (ad 17)), (4, .int (nI i))]) (K1 : ∀ (H : Heap) (locs : List Loc) (ls : Array Slot), va_P D vwCl (wLaw ad cI cd te ri pi pw K Dn mv ko so tl lp lb ld le C cl dq dy cL ou md 0 mK mc mD mr mw my mC mk ms mu mt mp mb me) H → va_D (fun q => s.heap.size ≤ q) (wLaw ad cI cd te ri pi pw K Dn mv ko so tl lp lb ld le C cl dq dy cL ou md 0 mK mc mD mr mw my mC mk ms mu mt mp mb me) → va_S (fun q => s.heap.size ≤ q) s.heap H locs → lv_has ls 9 [(0, .ref b), (1, .ref (ad 14)), (2, .ref (md 0)), (3, .ref (ad 17)), (4, .int (nI i))] → W p l e room_1 s m #[Value.ref b] below meth c H locs (cells + 2) (slots + 16) Q (F0 m 1633 ls [])) : W p l e room_1 s m #[Value.ref b] below meth c H locs cells slots Q (F0 m 1619 ls []) := by
  obtain ⟨hx, hb, hr, hml, hown, hts, hXs, hbl, hlocks, hgv⟩ := id C0
  have hts := fun w h => hts w (wsL_law_in w h)
  have hb : c.code = cL_law := hb
  have hA : ∀ q : Nat, s.heap.size ≤ q → (fun q : Nat => s.heap.size ≤ q) q := fun _ h => h
  have hbA : ¬ (fun q : Nat => s.heap.size ≤ q) b := Nat.not_le.mpr hbl
  refine lv_aload_n hx hb dL_law_1619 rfl (lv_at hl 1 rfl) ?_
  refine kc_rVl (As := []) (rest := []) ⟨hx, hb, hml, hown, hts⟩ (c_X2_digest l D ad cI cd te ri pi pw K Dn mv ko so tl lp lb ld le C cl dq dy tn hK8 hD8 hC24 hok) (cwV 0 hts gL_law_X2_digest rfl rfl rfl (by decide +kernel) ⟨Nat.le_of_ble_eq_true rfl, Nat.le_of_ble_eq_true rfl⟩) hK hP [0, 1, 2, 3, 4, 5, 6, 7, 8, 9, 10, 11, 12, 13, 14, 15, 16] [0] rfl rfl 14 rfl rfl rfl rfl hl.1 rfl (Nat.le_of_ble_eq_true rfl) dL_law_1620 ⟨kc_rc (by omega), kc_rs (by omega)⟩ ?_
  refine lv_aload_n hx hb dL_law_1623 rfl (lv_at hl 2 rfl) ?_
  refine kc_wVl (w1 := wMd md cI 0 mK mc mD mr mw my mC mk ms mu mt mp mb me) (wr := [(ad 0, .inr (1, [.ref (ad 1), .ref (ad 2), .ref (ad 3), .ref (ad 4), .ref (ad 5), .int (nI K), .int (nI Dn), .int mv])), (ad 1, .inl (cI, 8, .inl cd)), (ad 2, .inl (cI, 8, .inl te)), (ad 3, .inl (cI, 8, .inl ri)), (ad 4, .inl (cI, 8, .inl pi)), (ad 5, .inl (cI, 8, .inl pw)), (ad 6, .inr (0, [.ref (ad 7), .ref (ad 8), .ref (ad 9), .ref (ad 10), .ref (ad 11), .ref (ad 12), .ref (ad 13), .int (nI C)])), (ad 7, .inl (cI, 24, .inl ko)), (ad 8, .inl (cI, 24, .inl so)), (ad 9, .inl (cI, 24, .inl tl)), (ad 10, .inl (cI, 216, .inl lp)), (ad 11, .inl (cI, 216, .inl lb)), (ad 12, .inl (cI, 216, .inl ld)), (ad 13, .inl (cI, 216, .inl le)), (ad 14, .inr (2, [.ref (ad 0), .ref (ad 6), .ref (ad 15), .ref (ad 16), .int dy])), (ad 15, .inl (cI, 8, .inl cl)), (ad 16, .inl (cI, 8, .inl dq)), (ad 17, .inl (cL, 1, .inr (.inl ou)))]) (ws1 := wLaw ad cI cd te ri pi pw K Dn mv ko so tl lp lb ld le C cl dq dy cL ou md 0 mK mc mD mr mw my mC mk ms mu mt mp mb me) (As := []) (rest := [.long (jDigC ko so tl lp ld tn (mix (mix (mix (jDigD ri pi (mix (jDigK cd (mix 173 (nI K)) K) (nI Dn)) Dn) mv) dy) (nI C)) C)]) ⟨hx, hb, hml, hown, hts⟩ (c_X3_digest_ok l D md cI th mK mc mD mr mw my mC mk ms mu mt mp mb me tn H.size m_hK8 m_hD8 m_hC24 m_hok) (cwV 0 hts gL_law_X3_digest rfl rfl rfl (by decide +kernel) ⟨Nat.le_of_ble_eq_true rfl, Nat.le_of_ble_eq_true rfl⟩) hK hP hD hS hA [18, 19, 20, 21, 22, 23, 24, 25, 26, 27] [0, 1, 2, 3, 4, 5, 6, 7, 8, 9, 10, 11, 12, 13, 14, 15, 16, 17] [0, 1, 2, 3, 4, 5, 6, 7, 8, 9, 10, 11, 12, 13, 14, 15, 16, 17, 18, 19, 20, 21, 22, 23, 24, 25, 26, 27] [0] rfl rfl rfl rfl (by decide) rfl rfl rfl 18 rfl rfl rfl rfl hl.1 rfl (Nat.le_of_ble_eq_true rfl) dL_law_1624 ⟨kc_rc (by omega), kc_rs (by omega)⟩ (fun H locs hP hD hS => ?_)
  refine W.lcmp hx hb dL_law_1627 ?_
  refine kc_top (show lg_cmp (jDigC ko so tl lp ld tn (mix (mix (mix (jDigD ri pi (mix (jDigK cd (mix 173 (nI K)) K) (nI Dn)) Dn) mv) dy) (nI C)) C) (mDigC mk ms mu mt mp tn (mix (mix (mix (mDigD mr mc mK (mix (mDigK mc (5363 + Int32.toInt64 (nI mK)) mK) (nI mD)) mD) mw) my) (nI mC)) mC) = 0 from kc_lcmp0 hres) ?_
  refine lv_if_eq (tgt := 1633) hx hb dL_law_1628 (by decide) (fun c_1628 => ?_) (fun c_1628 => absurd c_1628 (by decide))
  refine W.widen (k := cells + 2) (n := slots + 16) (by omega) (by omega) ?_
  exact K1 _ _ _ hP hD hS (lv_sub hl [0, 1, 2, 3, 4] rfl)
set_option maxHeartbeats 4000000 in
set_option maxRecDepth 100000 in
theorem lw_exposure_z_z {p : Program} {l : Launch} {e : Env} {s : State} {m : MethodId} {below : List Frame} {meth : Method} {c : Code} {Q : State → Prop} {b L : Nat} {xs : Nat → Int32} (hlf : l.stackTraces = false) (C0 : lw_At p s m meth c b L xs) {D : va_G} {cI cL : ClassId} (hK : kcK D [(cI, .int), (cL, .long)] s) (hX0 : kcX (fun q => s.heap.size ≤ q) s s.heap) (hL : L ≤ 2048) (i : Nat) (hi : i + 3 < L) (ad : Nat → Nat) (cd : Nat → Int32) (te : Nat → Int32) (ri : Nat → Int32) (pi : Nat → Int32) (pw : Nat → Int32) (K : Nat) (Dn : Nat) (mv : Int32) (ko : Nat → Int32) (so : Nat → Int32) (tl : Nat → Int32) (lp : Nat → Int32) (lb : Nat → Int32) (ld : Nat → Int32) (le : Nat → Int32) (C : Nat) (cl : Nat → Int32) (dq : Nat → Int32) (dy : Int32) (ou : Nat → Int64) (md : Nat → Nat) (th : Int32) (mK : Nat) (mc : Nat → Int32) (mD : Nat) (mr : Nat → Int32) (mw : Int32) (my : Int32) (mC : Nat) (mk : Nat → Int32) (ms : Nat → Int32) (mu : Nat → Int32) (mt : Nat → Int32) (mp : Nat → Int32) (mb : Nat → Int32) (me : Nat → Int32) (tn : Nat → Nat) (kn : Nat → Nat) (hDe : Dn = 0) (m_hK8 : mK ≤ 8) (m_hD8 : mD ≤ 8) (m_hC24 : mC ≤ 24) (m_hkn : okKe mC mk kn) (m_hok : okLe ms mt tn) (m_hDe : mD = 0)  (hres : (FP.dconst0 : UInt64) = (FP.dconst0)) {H : Heap} {locs : List Loc} {cells slots : Nat} (hce : cells + 2 ≤ 601024) (hsl : slots + 16 ≤ 7293034) (hP : va_P D vwCl (wLaw ad cI cd te ri pi pw K Dn mv ko so tl lp lb ld le C cl dq dy cL ou md th mK mc mD mr mw my mC mk ms mu mt mp mb me) H) (hD : va_D (fun q => s.heap.size ≤ q) (wLaw ad cI cd te ri pi pw K Dn mv ko so tl lp lb ld le C cl dq dy cL ou md th mK mc mD mr mw my mC mk ms mu mt mp mb me)) (hS : va_S (fun q => s.heap.size ≤ q) s.heap H locs) {ls : Array Slot} (hl : lv_has ls 9 [(0, .ref b), (1, .ref (ad 14)), (2, .ref (md 0)), (3, .ref (ad 17)), (4, .int (nI i))]) (K1 : ∀ (H : Heap) (locs : List Loc) (ls : Array Slot), va_P D vwCl (wLaw ad cI cd te ri pi pw K Dn mv ko so tl lp lb ld le C cl dq dy cL ou md 0 mK mc mD mr mw my mC mk ms mu mt mp mb me) H → va_D (fun q => s.heap.size ≤ q) (wLaw ad cI cd te ri pi pw K Dn mv ko so tl lp lb ld le C cl dq dy cL ou md 0 mK mc mD mr mw my mC mk ms mu mt mp mb me) → va_S (fun q => s.heap.size ≤ q) s.heap H locs → lv_has ls 9 [(0, .ref b), (1, .ref (ad 14)), (2, .ref (md 0)), (3, .ref (ad 17)), (4, .int (nI i))] → W p l e room_1 s m #[Value.ref b] below meth c H locs (cells + 2) (slots + 16) Q (F0 m 1633 ls [])) : W p l e room_1 s m #[Value.ref b] below meth c H locs cells slots Q (F0 m 1578 ls []) := by
  obtain ⟨hx, hb, hr, hml, hown, hts, hXs, hbl, hlocks, hgv⟩ := id C0
  have hts := fun w h => hts w (wsL_law_in w h)
  have hb : c.code = cL_law := hb
  have hA : ∀ q : Nat, s.heap.size ≤ q → (fun q : Nat => s.heap.size ≤ q) q := fun _ h => h
  have hbA : ¬ (fun q : Nat => s.heap.size ≤ q) b := Nat.not_le.mpr hbl
  refine lv_aload_n hx hb dL_law_1578 rfl (lv_at hl 1 rfl) ?_
  refine kc_rVd (As := []) (rest := []) ⟨hx, hb, hml, hown, hts⟩ (c_X2_exposure_z l D ad cI cd te ri pi pw K Dn mv ko so tl lp lb ld le C cl dq dy tn hDe) (cwV 0 hts gL_law_X2_exposure rfl rfl rfl (by decide +kernel) ⟨Nat.le_of_ble_eq_true rfl, Nat.le_of_ble_eq_true rfl⟩) hK hP [0, 1, 2, 3, 4, 5, 6, 7, 8, 9, 10, 11, 12, 13, 14, 15, 16] [0] rfl rfl 14 rfl rfl rfl rfl hl.1 rfl (Nat.le_of_ble_eq_true rfl) dL_law_1579 ⟨kc_rc (by omega), kc_rs (by omega)⟩ ?_
  refine lv_dstore (lv' := [(5, .double FP.dconst0), (0, .ref b), (1, .ref (ad 14)), (2, .ref (md 0)), (3, .ref (ad 17)), (4, .int (nI i))]) hx hb dL_law_1582 hl (by decide) rfl (fun ls hl => ?_)
  refine lv_aload_n hx hb dL_law_1584 rfl (lv_at hl 3 rfl) ?_
  refine kc_wVd (w1 := wMd md cI 0 mK mc mD mr mw my mC mk ms mu mt mp mb me) (wr := [(ad 0, .inr (1, [.ref (ad 1), .ref (ad 2), .ref (ad 3), .ref (ad 4), .ref (ad 5), .int (nI K), .int (nI Dn), .int mv])), (ad 1, .inl (cI, 8, .inl cd)), (ad 2, .inl (cI, 8, .inl te)), (ad 3, .inl (cI, 8, .inl ri)), (ad 4, .inl (cI, 8, .inl pi)), (ad 5, .inl (cI, 8, .inl pw)), (ad 6, .inr (0, [.ref (ad 7), .ref (ad 8), .ref (ad 9), .ref (ad 10), .ref (ad 11), .ref (ad 12), .ref (ad 13), .int (nI C)])), (ad 7, .inl (cI, 24, .inl ko)), (ad 8, .inl (cI, 24, .inl so)), (ad 9, .inl (cI, 24, .inl tl)), (ad 10, .inl (cI, 216, .inl lp)), (ad 11, .inl (cI, 216, .inl lb)), (ad 12, .inl (cI, 216, .inl ld)), (ad 13, .inl (cI, 216, .inl le)), (ad 14, .inr (2, [.ref (ad 0), .ref (ad 6), .ref (ad 15), .ref (ad 16), .int dy])), (ad 15, .inl (cI, 8, .inl cl)), (ad 16, .inl (cI, 8, .inl dq)), (ad 17, .inl (cL, 1, .inr (.inl ou)))]) (ws1 := wLaw ad cI cd te ri pi pw K Dn mv ko so tl lp lb ld le C cl dq dy cL ou md 0 mK mc mD mr mw my mC mk ms mu mt mp mb me) (As := []) (rest := []) ⟨hx, hb, hml, hown, hts⟩ (c_X3_exposure_z l D md cI th mK mc mD mr mw my mC mk ms mu mt mp mb me tn kn H.size m_hK8 m_hD8 m_hC24 m_hkn m_hok m_hDe) (cwV 0 hts gL_law_X3_exposure rfl rfl rfl (by decide +kernel) ⟨Nat.le_of_ble_eq_true rfl, Nat.le_of_ble_eq_true rfl⟩) hK hP hD hS hA [18, 19, 20, 21, 22, 23, 24, 25, 26, 27] [0, 1, 2, 3, 4, 5, 6, 7, 8, 9, 10, 11, 12, 13, 14, 15, 16, 17] [0, 1, 2, 3, 4, 5, 6, 7, 8, 9, 10, 11, 12, 13, 14, 15, 16, 17, 18, 19, 20, 21, 22, 23, 24, 25, 26, 27] [0] rfl rfl rfl rfl (by decide) rfl rfl rfl 18 rfl rfl rfl rfl hl.1 rfl (Nat.le_of_ble_eq_true rfl) dL_law_1585 ⟨kc_rc (by omega), kc_rs (by omega)⟩ (fun H locs hP hD hS => ?_)
  refine lv_dstore (lv' := [(7, .double FP.dconst0), (5, .double FP.dconst0), (0, .ref b), (1, .ref (ad 14)), (2, .ref (md 0)), (3, .ref (ad 17)), (4, .int (nI i))]) hx hb dL_law_1588 hl (by decide) rfl (fun ls hl => ?_)
  refine lv_dload hx hb dL_law_1590 (lv_at hl 1 rfl) ?_
  refine lv_dload hx hb dL_law_1592 (lv_at hl 0 rfl) ?_
  refine lv_dcmp hx hb dL_law_1594 ?_
  refine lv_if_eq (tgt := 1616) hx hb dL_law_1595 (by decide) (fun c_1595 => ?_) (fun c_1595 => ?_)
  · refine lv_goto (tgt := 1633) hx hb dL_law_1616 (by decide) ?_
    refine W.widen (k := cells + 2) (n := slots + 16) (by omega) (by omega) ?_
    exact K1 _ _ _ hP hD hS (lv_sub hl [2, 3, 4, 5, 6] rfl)
  · refine lv_dload hx hb dL_law_1598 (lv_at hl 1 rfl) ?_
    refine lv_dload hx hb dL_law_1600 (lv_at hl 1 rfl) ?_
    refine lv_dcmp hx hb dL_law_1602 ?_
    refine lv_if_eq (tgt := 1614) hx hb dL_law_1603 (by decide) (fun c_1603 => ?_) (fun c_1603 => ?_)
    · exact absurd (by rw [hres] at c_1603; rw [hres]; exact c_1603) c_1595
    · refine lv_dload hx hb dL_law_1606 (lv_at hl 0 rfl) ?_
      refine lv_dload hx hb dL_law_1608 (lv_at hl 0 rfl) ?_
      refine lv_dcmp hx hb dL_law_1610 ?_
      refine lv_if_ne (tgt := 1616) hx hb dL_law_1611 (by decide) (fun c_1611 => ?_) (fun c_1611 => ?_)
      · refine lv_goto (tgt := 1633) hx hb dL_law_1616 (by decide) ?_
        refine W.widen (k := cells + 2) (n := slots + 16) (by omega) (by omega) ?_
        exact K1 _ _ _ hP hD hS (lv_sub hl [2, 3, 4, 5, 6] rfl)
      · exact absurd (by rw [hres]; exact c_1611) c_1595
set_option maxHeartbeats 4000000 in
set_option maxRecDepth 100000 in
theorem lw_exposure_ok_ok {p : Program} {l : Launch} {e : Env} {s : State} {m : MethodId} {below : List Frame} {meth : Method} {c : Code} {Q : State → Prop} {b L : Nat} {xs : Nat → Int32} (hlf : l.stackTraces = false) (C0 : lw_At p s m meth c b L xs) {D : va_G} {cI cL : ClassId} (hK : kcK D [(cI, .int), (cL, .long)] s) (hX0 : kcX (fun q => s.heap.size ≤ q) s s.heap) (hL : L ≤ 2048) (i : Nat) (hi : i + 3 < L) (ad : Nat → Nat) (cd : Nat → Int32) (te : Nat → Int32) (ri : Nat → Int32) (pi : Nat → Int32) (pw : Nat → Int32) (K : Nat) (Dn : Nat) (mv : Int32) (ko : Nat → Int32) (so : Nat → Int32) (tl : Nat → Int32) (lp : Nat → Int32) (lb : Nat → Int32) (ld : Nat → Int32) (le : Nat → Int32) (C : Nat) (cl : Nat → Int32) (dq : Nat → Int32) (dy : Int32) (ou : Nat → Int64) (md : Nat → Nat) (th : Int32) (mK : Nat) (mc : Nat → Int32) (mD : Nat) (mr : Nat → Int32) (mw : Int32) (my : Int32) (mC : Nat) (mk : Nat → Int32) (ms : Nat → Int32) (mu : Nat → Int32) (mt : Nat → Int32) (mp : Nat → Int32) (mb : Nat → Int32) (me : Nat → Int32) (tn : Nat → Nat) (kn : Nat → Nat) (hK8 : K ≤ 8) (hD8 : Dn ≤ 8) (hC24 : C ≤ 24) (hok : okLe so tl tn) (hDp : 0 < Dn) (m_hK8 : mK ≤ 8) (m_hD8 : mD ≤ 8) (m_hC24 : mC ≤ 24) (m_hkn : okKe mC mk kn) (m_hok : okLe ms mt tn) (m_hDp : 0 < mD)  (hres : (FP.ddiv (FP.i2d (jPop (jExp pi te Dn K ko so lp tn C 8))) (FP.i2d (nI Dn)) : UInt64) = (FP.ddiv (FP.i2d (jPop (mExp mr mc mk ms mu mt mp mK mD mC kn tn 8))) (FP.i2d (nI mD)))) {H : Heap} {locs : List Loc} {cells slots : Nat} (hce : cells + 2 ≤ 601024) (hsl : slots + 16 ≤ 7293034) (hP : va_P D vwCl (wLaw ad cI cd te ri pi pw K Dn mv ko so tl lp lb ld le C cl dq dy cL ou md th mK mc mD mr mw my mC mk ms mu mt mp mb me) H) (hD : va_D (fun q => s.heap.size ≤ q) (wLaw ad cI cd te ri pi pw K Dn mv ko so tl lp lb ld le C cl dq dy cL ou md th mK mc mD mr mw my mC mk ms mu mt mp mb me)) (hS : va_S (fun q => s.heap.size ≤ q) s.heap H locs) {ls : Array Slot} (hl : lv_has ls 9 [(0, .ref b), (1, .ref (ad 14)), (2, .ref (md 0)), (3, .ref (ad 17)), (4, .int (nI i))]) (K1 : ∀ (H : Heap) (locs : List Loc) (ls : Array Slot), va_P D vwCl (wLaw ad cI cd te ri pi pw K Dn mv ko so tl lp lb ld le C cl dq dy cL ou md 0 mK mc mD mr mw my mC mk ms mu mt mp mb me) H → va_D (fun q => s.heap.size ≤ q) (wLaw ad cI cd te ri pi pw K Dn mv ko so tl lp lb ld le C cl dq dy cL ou md 0 mK mc mD mr mw my mC mk ms mu mt mp mb me) → va_S (fun q => s.heap.size ≤ q) s.heap H locs → lv_has ls 9 [(0, .ref b), (1, .ref (ad 14)), (2, .ref (md 0)), (3, .ref (ad 17)), (4, .int (nI i))] → W p l e room_1 s m #[Value.ref b] below meth c H locs (cells + 2) (slots + 16) Q (F0 m 1633 ls [])) : W p l e room_1 s m #[Value.ref b] below meth c H locs cells slots Q (F0 m 1578 ls []) := by
  obtain ⟨hx, hb, hr, hml, hown, hts, hXs, hbl, hlocks, hgv⟩ := id C0
  have hts := fun w h => hts w (wsL_law_in w h)
  have hb : c.code = cL_law := hb
  have hA : ∀ q : Nat, s.heap.size ≤ q → (fun q : Nat => s.heap.size ≤ q) q := fun _ h => h
  have hbA : ¬ (fun q : Nat => s.heap.size ≤ q) b := Nat.not_le.mpr hbl
  refine lv_aload_n hx hb dL_law_1578 rfl (lv_at hl 1 rfl) ?_
  refine kc_rVd (As := []) (rest := []) ⟨hx, hb, hml, hown, hts⟩ (c_X2_exposure_ok l D ad cI cd te ri pi pw K Dn mv ko so tl lp lb ld le C cl dq dy tn hK8 hD8 hC24 hok hDp) (cwV 0 hts gL_law_X2_exposure rfl rfl rfl (by decide +kernel) ⟨Nat.le_of_ble_eq_true rfl, Nat.le_of_ble_eq_true rfl⟩) hK hP [0, 1, 2, 3, 4, 5, 6, 7, 8, 9, 10, 11, 12, 13, 14, 15, 16] [0] rfl rfl 14 rfl rfl rfl rfl hl.1 rfl (Nat.le_of_ble_eq_true rfl) dL_law_1579 ⟨kc_rc (by omega), kc_rs (by omega)⟩ ?_
  refine lv_dstore (lv' := [(5, .double (FP.ddiv (FP.i2d (jPop (jExp pi te Dn K ko so lp tn C 8))) (FP.i2d (nI Dn)))), (0, .ref b), (1, .ref (ad 14)), (2, .ref (md 0)), (3, .ref (ad 17)), (4, .int (nI i))]) hx hb dL_law_1582 hl (by decide) rfl (fun ls hl => ?_)
  refine lv_aload_n hx hb dL_law_1584 rfl (lv_at hl 3 rfl) ?_
  refine kc_wVd (w1 := wMd md cI 0 mK mc mD mr mw my mC mk ms mu mt mp mb me) (wr := [(ad 0, .inr (1, [.ref (ad 1), .ref (ad 2), .ref (ad 3), .ref (ad 4), .ref (ad 5), .int (nI K), .int (nI Dn), .int mv])), (ad 1, .inl (cI, 8, .inl cd)), (ad 2, .inl (cI, 8, .inl te)), (ad 3, .inl (cI, 8, .inl ri)), (ad 4, .inl (cI, 8, .inl pi)), (ad 5, .inl (cI, 8, .inl pw)), (ad 6, .inr (0, [.ref (ad 7), .ref (ad 8), .ref (ad 9), .ref (ad 10), .ref (ad 11), .ref (ad 12), .ref (ad 13), .int (nI C)])), (ad 7, .inl (cI, 24, .inl ko)), (ad 8, .inl (cI, 24, .inl so)), (ad 9, .inl (cI, 24, .inl tl)), (ad 10, .inl (cI, 216, .inl lp)), (ad 11, .inl (cI, 216, .inl lb)), (ad 12, .inl (cI, 216, .inl ld)), (ad 13, .inl (cI, 216, .inl le)), (ad 14, .inr (2, [.ref (ad 0), .ref (ad 6), .ref (ad 15), .ref (ad 16), .int dy])), (ad 15, .inl (cI, 8, .inl cl)), (ad 16, .inl (cI, 8, .inl dq)), (ad 17, .inl (cL, 1, .inr (.inl ou)))]) (ws1 := wLaw ad cI cd te ri pi pw K Dn mv ko so tl lp lb ld le C cl dq dy cL ou md 0 mK mc mD mr mw my mC mk ms mu mt mp mb me) (As := []) (rest := []) ⟨hx, hb, hml, hown, hts⟩ (c_X3_exposure_ok l D md cI th mK mc mD mr mw my mC mk ms mu mt mp mb me tn kn H.size m_hK8 m_hD8 m_hC24 m_hkn m_hok m_hDp) (cwV 0 hts gL_law_X3_exposure rfl rfl rfl (by decide +kernel) ⟨Nat.le_of_ble_eq_true rfl, Nat.le_of_ble_eq_true rfl⟩) hK hP hD hS hA [18, 19, 20, 21, 22, 23, 24, 25, 26, 27] [0, 1, 2, 3, 4, 5, 6, 7, 8, 9, 10, 11, 12, 13, 14, 15, 16, 17] [0, 1, 2, 3, 4, 5, 6, 7, 8, 9, 10, 11, 12, 13, 14, 15, 16, 17, 18, 19, 20, 21, 22, 23, 24, 25, 26, 27] [0] rfl rfl rfl rfl (by decide) rfl rfl rfl 18 rfl rfl rfl rfl hl.1 rfl (Nat.le_of_ble_eq_true rfl) dL_law_1585 ⟨kc_rc (by omega), kc_rs (by omega)⟩ (fun H locs hP hD hS => ?_)
  refine lv_dstore (lv' := [(7, .double (FP.ddiv (FP.i2d (jPop (mExp mr mc mk ms mu mt mp mK mD mC kn tn 8))) (FP.i2d (nI mD)))), (5, .double (FP.ddiv (FP.i2d (jPop (jExp pi te Dn K ko so lp tn C 8))) (FP.i2d (nI Dn)))), (0, .ref b), (1, .ref (ad 14)), (2, .ref (md 0)), (3, .ref (ad 17)), (4, .int (nI i))]) hx hb dL_law_1588 hl (by decide) rfl (fun ls hl => ?_)
  refine lv_dload hx hb dL_law_1590 (lv_at hl 1 rfl) ?_
  refine lv_dload hx hb dL_law_1592 (lv_at hl 0 rfl) ?_
  refine lv_dcmp hx hb dL_law_1594 ?_
  refine lv_if_eq (tgt := 1616) hx hb dL_law_1595 (by decide) (fun c_1595 => ?_) (fun c_1595 => ?_)
  · refine lv_goto (tgt := 1633) hx hb dL_law_1616 (by decide) ?_
    refine W.widen (k := cells + 2) (n := slots + 16) (by omega) (by omega) ?_
    exact K1 _ _ _ hP hD hS (lv_sub hl [2, 3, 4, 5, 6] rfl)
  · refine lv_dload hx hb dL_law_1598 (lv_at hl 1 rfl) ?_
    refine lv_dload hx hb dL_law_1600 (lv_at hl 1 rfl) ?_
    refine lv_dcmp hx hb dL_law_1602 ?_
    refine lv_if_eq (tgt := 1614) hx hb dL_law_1603 (by decide) (fun c_1603 => ?_) (fun c_1603 => ?_)
    · exact absurd (by rw [hres] at c_1603; rw [hres]; exact c_1603) c_1595
    · refine lv_dload hx hb dL_law_1606 (lv_at hl 0 rfl) ?_
      refine lv_dload hx hb dL_law_1608 (lv_at hl 0 rfl) ?_
      refine lv_dcmp hx hb dL_law_1610 ?_
      refine lv_if_ne (tgt := 1616) hx hb dL_law_1611 (by decide) (fun c_1611 => ?_) (fun c_1611 => ?_)
      · refine lv_goto (tgt := 1633) hx hb dL_law_1616 (by decide) ?_
        refine W.widen (k := cells + 2) (n := slots + 16) (by omega) (by omega) ?_
        exact K1 _ _ _ hP hD hS (lv_sub hl [2, 3, 4, 5, 6] rfl)
      · exact absurd (by rw [hres]; exact c_1611) c_1595
