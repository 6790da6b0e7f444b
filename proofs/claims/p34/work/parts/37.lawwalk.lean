/-! THE CLAIM OUT OF ONE WALK OF THE LAW'S BODY. Your part is whole_start (and what it stands on); all else here is the same for every law, but numbers. -/
def R_law : String := "KeyCabinetLaw"
def lw_P (b : Addr) (xs : List Int32) (args : Array Value) (s : State) : Prop := args = #[.ref b] ∧ s.IntsAt b xs ∧ xs.length ≤ 260 ∧ (Jvm.Cond.and given_1 narrow_1).before args s = true
def lw_Q (_ : Array Value) (s : State) (o : Outcome) (t : State) : Prop := o = .returned (some (.int 1)) ∧ Framed s o t [] 158 2120
def lw_Z (below : List Frame) (a : Array Value) (s : State) : State → Prop := fun t => ∃ o, t.status = .running ∧ Ended t below o ∧ lw_Q a s o t
/-- the law's own end, with 1 on the stack, nothing written that was there before, its room as the claim has it -/
theorem lw_ret {p : Program} {l : Launch} {e : Env} {s : State} {m : MethodId} {below : List Frame} {meth : Method} {c : Code} {b : Nat} (hx : p.tables.exec = Jvm.exec) (hb : c.code = code) (hr : meth.sig.returnType = ret) (hlocks : meth.locks = false) {pc : Nat} {H : Heap} {ls : Array Slot} (hdg : decode code pc = .ok (.ireturn, 1)) : W p l e room_1 s m #[Value.ref b] below meth c H [] 158 2120 (lw_Z below #[Value.ref b] s) (F0 m pc ls [.int 1]) := by
  intro T hT X
  obtain ⟨fs, hret, hrun, hended, hW, hframe⟩ := X.leave (v := some (.int 1)) (hlocks := hlocks) (fun h => by rw [hr] at h; cases h)
  have hmeth' : T.vm.method? m = some meth := X.method'
  refine ⟨T.setFrames fs, ?_, .returned (some (.int 1)), hrun, hended, rfl, ⟨_, rfl⟩, hW, hframe⟩
  jvm_step X.here [X.here.top, hx, hb, hdg, hmeth', hr, ret, narrow_b1]
  (try refine ⟨rfl, ?_⟩); (try refine ⟨rfl, ?_⟩)
  first | (intro acts; rw [hret _ acts rfl rfl rfl]) | rw [hret _ _ rfl rfl rfl]
  exact Steps.refl _
/-- what holds at the law's entry: the machine, the code, the tables' words (any of lw_tbl by 'hts w (by decide +kernel)'), the script of L ints xs at the cell b, what the Statement gives of the start (any of its parts by flat_of_before) -/
def lw_At (p : Program) (s : State) (m : MethodId) (meth : Method) (c : Code) (b L : Nat) (xs : Nat → Int32) : Prop :=
  p.tables.exec = Jvm.exec ∧ c.code = code ∧ meth.sig.returnType = ret ∧ c.maxLocals = 12 ∧ s.vm.findClass R_law = some m.cls ∧ (∀ w ∈ lw_tbl, w.before #[Value.ref b] s = true) ∧ va_X b L xs s s.heap ∧ b < s.heap.size ∧ meth.locks = false ∧ (Jvm.Cond.and given_1 narrow_1).before #[Value.ref b] s = true

set_option maxHeartbeats 8000000 in
set_option maxRecDepth 100000 in
theorem lw_tail {p : Program} {l : Launch} {e : Env} {s : State} {m : MethodId} {below : List Frame} {meth : Method} {c : Code} {b L : Nat} {xs : Nat → Int32} (C0 : lw_At p s m meth c b L xs) {D : va_G} {cI : ClassId} (hK : kcK D [(cI, .int)] s) (hL31 : L < 2 ^ 31) {A : Nat → Prop} (hAe : A = fun q : Nat => s.heap.size ≤ q) (ad : Nat → Nat) (cd : Nat → Int32) (te : Nat → Int32) (ri : Nat → Int32) (pi : Nat → Int32) (pw : Nat → Int32) (K : Nat) (Dn : Nat) (mv : Int32) (ko : Nat → Int32) (so : Nat → Int32) (tl : Nat → Int32) (lp : Nat → Int32) (lb : Nat → Int32) (ld : Nat → Int32) (le : Nat → Int32) (C : Nat) (cl : Nat → Int32) (dq : Nat → Int32) (dy : Int32) (m0 : Int32) (tn : Nat → Nat) (hK0 : 0 < K) (hK5 : K ≤ 5) (hD5 : Dn ≤ 5) (hbk : bK cd te K) (hri : ∀ i, i < Dn → ∃ r, r < 2 ^ K ∧ ri i = nI r) (hpi : okPi te ri pi K Dn) (hC24 : C ≤ 24) (hok : okLe so tl tn) (hmv : mOk mv 2000) {H : Heap} {locs : List Loc} (hP : va_P D vwCl (wLw ad cI cd te ri pi pw K Dn mv ko so tl lp lb ld le C cl dq dy cd ri (cnF (nI K) (nI Dn) m0)) H) (hD : va_D A (wLw ad cI cd te ri pi pw K Dn mv ko so tl lp lb ld le C cl dq dy cd ri (cnF (nI K) (nI Dn) m0))) (hS : va_S A s.heap H locs) {ls : Array Slot} (hl : lv_has ls 12 [(0, .ref b), (1, .ref (ad 14)), (2, .ref (ad 17)), (3, .ref (ad 18)), (4, .ref (ad 19))]) : W p l e room_1 s m #[Value.ref b] below meth c H locs 20 1032 (lw_Z below #[Value.ref b] s) (F0 m 326 ls []) := by
  obtain ⟨hx, hb, hr, hml, hown, hts, hXs, hbl, hlocks, hgv⟩ := id C0
  have hts := fun w h => hts w (wsL_law_in w h)
  have hb : c.code = cL_law := hb
  have hA : ∀ q : Nat, s.heap.size ≤ q → A q := fun q h => by rw [hAe]; exact h
  have hbA : ¬ A b := by rw [hAe]; exact Nat.not_le.mpr hbl
  have hK8 : K ≤ 8 := by omega
  have hD8 : Dn ≤ 8 := by omega
  refine lv_aload_n hx hb dL_law_326 rfl (lv_at hl 0 rfl) ?_
  refine lv_bipush (v := 15) hx hb dL_law_327 (by decide) ?_
  refine kc_rXi (As := [.ref b, .int 15]) (rest := []) ⟨hx, hb, hml, hown, hts⟩ (c_L_cell l b L xs 15 hL31 (by omega)) (va_cwS 2 hts gL_law_L_cell rfl rfl rfl (by decide +kernel) ⟨Nat.le_of_ble_eq_true rfl, Nat.le_of_ble_eq_true rfl⟩) hXs hbl hbA hS rfl hl.1 rfl (Nat.le_of_ble_eq_true rfl) dL_law_329 ⟨Nat.le_of_ble_eq_true rfl, Nat.le_of_ble_eq_true rfl⟩ ?_
  refine lv_aload hx hb dL_law_332 (lv_at hl 4 rfl) ?_
  refine lv_iconst (v := 0) hx hb dL_law_334 (by decide) ?_
  refine kc_ald (i := 0) (n := 3) hx hb hK hP 19 0 rfl rfl (by omega) (by decide) dL_law_335 ?_
  refine kc_top (show (cnF (nI K) (nI Dn) m0) 0 = nI K from rfl) ?_
  refine kc_rSi (As := [.int (jCell xs L 15), .int (nI K)]) (rest := []) ⟨hx, hb, hml, hown, hts⟩ (c_L_below l (jCell xs L 15) (nI K) (nI_ne0 hK0 (by omega))) (va_cwS 2 hts gL_law_L_below rfl rfl rfl (by decide +kernel) ⟨Nat.le_of_ble_eq_true rfl, Nat.le_of_ble_eq_true rfl⟩) rfl hl.1 rfl (Nat.le_of_ble_eq_true rfl) dL_law_336 ⟨Nat.le_of_ble_eq_true rfl, Nat.le_of_ble_eq_true rfl⟩ ?_
  obtain ⟨key, hkey, ekey⟩ := below_n (jCell xs L 15) (n := K) hK0 (by omega)
  refine kc_top (show jBelow (jCell xs L 15) (nI K) = nI key from ekey) ?_
  refine lv_istore (lv' := [(6, .int (nI key)), (0, .ref b), (1, .ref (ad 14)), (2, .ref (ad 17)), (3, .ref (ad 18)), (4, .ref (ad 19))]) hx hb dL_law_339 hl (by decide) rfl (fun ls hl => ?_)
  refine lv_aload_n hx hb dL_law_341 rfl (lv_at hl 2 rfl) ?_
  refine kc_rVi (As := []) (rest := []) ⟨hx, hb, hml, hown, hts⟩ (c_X2_work l D ad cI cd te ri pi pw K Dn mv ko so tl lp lb ld le C cl dq dy ) (cwV 0 hts gL_law_X2_work rfl rfl rfl (by decide +kernel) ⟨Nat.le_of_ble_eq_true rfl, Nat.le_of_ble_eq_true rfl⟩) hK hP [0, 1, 2, 3, 4, 5, 6, 7, 8, 9, 10, 11, 12, 13, 14, 15, 16] [0] rfl rfl 14 rfl rfl rfl rfl hl.1 rfl (Nat.le_of_ble_eq_true rfl) dL_law_342 ⟨Nat.le_of_ble_eq_true rfl, Nat.le_of_ble_eq_true rfl⟩ ?_
  refine lv_istore (lv' := [(7, .int mv), (6, .int (nI key)), (0, .ref b), (1, .ref (ad 14)), (2, .ref (ad 17)), (3, .ref (ad 18)), (4, .ref (ad 19))]) hx hb dL_law_345 hl (by decide) rfl (fun ls hl => ?_)
  refine lv_aload_n hx hb dL_law_347 rfl (lv_at hl 3 rfl) ?_
  refine lv_iload hx hb dL_law_348 (lv_at hl 1 rfl) ?_
  by_cases hne : (jBest cd te ri pi (jWithout te ri K key pw Dn) K Dn key 1024).1 = (-1)
  · refine kc_wVi (w1 := wKc ad cI cd te ri pi (jWithout te ri K key pw Dn) K Dn mv ko so tl lp lb ld le C cl dq dy) (wr := [(ad 17, .inl (cI, 8, .inl cd)), (ad 18, .inl (cI, 8, .inl ri)), (ad 19, .inl (cI, 3, .inl (cnF (nI K) (nI Dn) m0)))]) (ws1 := wLw ad cI cd te ri pi (jWithout te ri K key pw Dn) K Dn mv ko so tl lp lb ld le C cl dq dy cd ri (cnF (nI K) (nI Dn) m0)) (As := [.int (nI key)]) (rest := []) ⟨hx, hb, hml, hown, hts⟩ (c_X2_replace_none l D ad cI cd te ri pi pw K Dn mv ko so tl lp lb ld le C cl dq dy key H.size (by first | assumption | omega) (by first | assumption | omega) (by first | assumption | omega) (by first | assumption | omega)) (cwV 1 hts gL_law_X2_replace rfl rfl rfl (by decide +kernel) ⟨Nat.le_of_ble_eq_true rfl, Nat.le_of_ble_eq_true rfl⟩) hK hP hD hS hA [0, 1, 2, 3, 4, 5, 6, 7, 8, 9, 10, 11, 12, 13, 14, 15, 16] [17, 18, 19] [3, 4, 5, 6, 7, 8, 9, 10, 11, 12, 13, 14, 15, 16, 17, 18, 19, 0, 1, 2] [0] rfl rfl rfl rfl (by decide) rfl rfl rfl 14 rfl rfl rfl rfl hl.1 rfl (Nat.le_of_ble_eq_true rfl) dL_law_350 ⟨Nat.le_of_ble_eq_true rfl, Nat.le_of_ble_eq_true rfl⟩ (fun H locs hP hD hS => ?_)
    refine lv_istore (lv' := [(8, .int (-1)), (7, .int mv), (6, .int (nI key)), (0, .ref b), (1, .ref (ad 14)), (2, .ref (ad 17)), (3, .ref (ad 18)), (4, .ref (ad 19))]) hx hb dL_law_353 hl (by decide) rfl (fun ls hl => ?_)
    refine lv_iload hx hb dL_law_355 (lv_at hl 0 rfl) ?_
    refine lv_if_ge (tgt := 388) hx hb dL_law_357 (by decide) (fun c_357 => absurd c_357 (by decide)) (fun c_357 => ?_)
    refine lv_aload_n hx hb dL_law_360 rfl (lv_at hl 4 rfl) ?_
    refine lv_iload hx hb dL_law_361 (lv_at hl 2 rfl) ?_
    refine kc_rVi (As := [.int (nI key)]) (rest := []) ⟨hx, hb, hml, hown, hts⟩ (c_X2_code_ok l D ad cI cd te ri pi (jWithout te ri K key pw Dn) K Dn mv ko so tl lp lb ld le C cl dq dy key (by first | assumption | omega) (by first | assumption | omega)) (cwV 1 hts gL_law_X2_code rfl rfl rfl (by decide +kernel) ⟨Nat.le_of_ble_eq_true rfl, Nat.le_of_ble_eq_true rfl⟩) hK hP [0, 1, 2, 3, 4, 5, 6, 7, 8, 9, 10, 11, 12, 13, 14, 15, 16] [0] rfl rfl 14 rfl rfl rfl rfl hl.1 rfl (Nat.le_of_ble_eq_true rfl) dL_law_363 ⟨Nat.le_of_ble_eq_true rfl, Nat.le_of_ble_eq_true rfl⟩ ?_
    refine lv_aload_n hx hb dL_law_366 rfl (lv_at hl 5 rfl) ?_
    refine lv_iload hx hb dL_law_367 (lv_at hl 2 rfl) ?_
    refine kc_ald (i := key) (n := 8) hx hb hK hP 17 0 rfl rfl (by omega) (by decide) dL_law_369 ?_
    refine lv_icmp_ne (tgt := 386) hx hb dL_law_370 (by decide) (fun c_370 => ?_) (fun c_370 => ?_)
    · exact absurd rfl c_370
    · refine lv_aload_n hx hb dL_law_373 rfl (lv_at hl 4 rfl) ?_
      refine kc_rVi (As := []) (rest := []) ⟨hx, hb, hml, hown, hts⟩ (c_X2_work l D ad cI cd te ri pi (jWithout te ri K key pw Dn) K Dn mv ko so tl lp lb ld le C cl dq dy ) (cwV 0 hts gL_law_X2_work rfl rfl rfl (by decide +kernel) ⟨Nat.le_of_ble_eq_true rfl, Nat.le_of_ble_eq_true rfl⟩) hK hP [0, 1, 2, 3, 4, 5, 6, 7, 8, 9, 10, 11, 12, 13, 14, 15, 16] [0] rfl rfl 14 rfl rfl rfl rfl hl.1 rfl (Nat.le_of_ble_eq_true rfl) dL_law_374 ⟨Nat.le_of_ble_eq_true rfl, Nat.le_of_ble_eq_true rfl⟩ ?_
      refine lv_iload hx hb dL_law_377 (lv_at hl 1 rfl) ?_
      refine lv_icmp_ne (tgt := 386) hx hb dL_law_379 (by decide) (fun c_379 => ?_) (fun c_379 => ?_)
      · exact absurd rfl c_379
      · refine lv_iconst (v := 1) hx hb dL_law_382 (by decide) ?_
        refine lv_goto (tgt := 387) hx hb dL_law_383 (by decide) ?_
        subst hAe
        refine va_forget hS.2.2 ?_
        refine W.widen (k := 158) (n := 2120) (by omega) (by omega) ?_
        exact lw_ret hx C0.2.1 hr hlocks dL_law_387
  · refine kc_wVi (w1 := wKc ad cI (upd cd key (jBest cd te ri pi (jWithout te ri K key pw Dn) K Dn key 1024).1) (upd te key (jTeeth (jBest cd te ri pi (jWithout te ri K key pw Dn) K Dn key 1024).1 5)) ri (jRepin (upd te key (jTeeth (jBest cd te ri pi (jWithout te ri K key pw Dn) K Dn key 1024).1 5)) ri K pi Dn) (jWithout te ri K key pw Dn) K Dn (jRework (upd te key (jTeeth (jBest cd te ri pi (jWithout te ri K key pw Dn) K Dn key 1024).1 5)) ri K pi mv Dn) ko (jVoidSo ko (nI key) so C) tl lp lb ld (jVoidEnd ko (nI key) so le tn dy C) C cl dq dy) (wr := [(ad 17, .inl (cI, 8, .inl cd)), (ad 18, .inl (cI, 8, .inl ri)), (ad 19, .inl (cI, 3, .inl (cnF (nI K) (nI Dn) m0)))]) (ws1 := wLw ad cI (upd cd key (jBest cd te ri pi (jWithout te ri K key pw Dn) K Dn key 1024).1) (upd te key (jTeeth (jBest cd te ri pi (jWithout te ri K key pw Dn) K Dn key 1024).1 5)) ri (jRepin (upd te key (jTeeth (jBest cd te ri pi (jWithout te ri K key pw Dn) K Dn key 1024).1 5)) ri K pi Dn) (jWithout te ri K key pw Dn) K Dn (jRework (upd te key (jTeeth (jBest cd te ri pi (jWithout te ri K key pw Dn) K Dn key 1024).1 5)) ri K pi mv Dn) ko (jVoidSo ko (nI key) so C) tl lp lb ld (jVoidEnd ko (nI key) so le tn dy C) C cl dq dy cd ri (cnF (nI K) (nI Dn) m0)) (As := [.int (nI key)]) (rest := []) ⟨hx, hb, hml, hown, hts⟩ (c_X2_replace_ok l D ad cI cd te ri pi pw K Dn mv ko so tl lp lb ld le C cl dq dy key tn H.size (by first | assumption | omega) (by first | assumption | omega) (by first | assumption | omega) (by first | assumption | omega) (by first | assumption | omega) (by first | assumption | omega)) (cwV 1 hts gL_law_X2_replace rfl rfl rfl (by decide +kernel) ⟨Nat.le_of_ble_eq_true rfl, Nat.le_of_ble_eq_true rfl⟩) hK hP hD hS hA [0, 1, 2, 3, 4, 5, 6, 7, 8, 9, 10, 11, 12, 13, 14, 15, 16] [17, 18, 19] [3, 4, 5, 6, 7, 8, 9, 10, 11, 12, 13, 14, 15, 16, 17, 18, 19, 0, 1, 2] [0] rfl rfl rfl rfl (by decide) rfl rfl rfl 14 rfl rfl rfl rfl hl.1 rfl (Nat.le_of_ble_eq_true rfl) dL_law_350 ⟨Nat.le_of_ble_eq_true rfl, Nat.le_of_ble_eq_true rfl⟩ (fun H locs hP hD hS => ?_)
    obtain ⟨n0, hn0, en0, hfr, hold⟩ := best_ok hne
    rw [en0] at hP hD
    obtain ⟨cd2, ecd2⟩ : ∃ x, x = upd cd key (nI n0) := ⟨_, rfl⟩
    obtain ⟨te2, ete2⟩ : ∃ x, x = upd te key (jTeeth (nI n0) 5) := ⟨_, rfl⟩
    rw [← ecd2, ← ete2] at hP hD
    obtain ⟨pi2, epi2⟩ : ∃ x, x = jRepin te2 ri K pi Dn := ⟨_, rfl⟩
    obtain ⟨mv2, emv2⟩ : ∃ x, x = jRework te2 ri K pi mv Dn := ⟨_, rfl⟩
    rw [← epi2, ← emv2] at hP hD
    have hbt2 : okTe cd2 te2 K := by rw [ecd2, ete2]; exact hbk.1.upd (nI n0)
    have hpi2 : okPi te2 ri pi2 K Dn := fun d hd => by rw [epi2]; exact repin_at.1 hd
    have hold2 : ∀ d, d < Dn → ¬ mOpens ri cd2 K (cd key) d 5 = true := fun d hd => by rw [ecd2]; exact A_old hK8 hbk.1 hkey hd hold
    have hmv2 : mv ≤ mv2 := by rw [emv2]; exact A_rework hmv (by omega) hD8
    refine kc_top (show (jBest cd te ri pi (jWithout te ri K key pw Dn) K Dn key 1024).1 = nI n0 from en0) ?_
    refine lv_istore (lv' := [(8, .int (nI n0)), (7, .int mv), (6, .int (nI key)), (0, .ref b), (1, .ref (ad 14)), (2, .ref (ad 17)), (3, .ref (ad 18)), (4, .ref (ad 19))]) hx hb dL_law_353 hl (by decide) rfl (fun ls hl => ?_)
    refine lv_iload hx hb dL_law_355 (lv_at hl 0 rfl) ?_
    refine lv_if_ge (tgt := 388) hx hb dL_law_357 (by decide) (fun c_357 => ?_) (fun c_357 => ?_)
    · refine lv_aload_n hx hb dL_law_388 rfl (lv_at hl 4 rfl) ?_
      refine kc_rVi (As := []) (rest := []) ⟨hx, hb, hml, hown, hts⟩ (c_X2_work l D ad cI cd2 te2 ri pi2 (jWithout te ri K key pw Dn) K Dn mv2 ko (jVoidSo ko (nI key) so C) tl lp lb ld (jVoidEnd ko (nI key) so le tn dy C) C cl dq dy ) (cwV 0 hts gL_law_X2_work rfl rfl rfl (by decide +kernel) ⟨Nat.le_of_ble_eq_true rfl, Nat.le_of_ble_eq_true rfl⟩) hK hP [0, 1, 2, 3, 4, 5, 6, 7, 8, 9, 10, 11, 12, 13, 14, 15, 16] [0] rfl rfl 14 rfl rfl rfl rfl hl.1 rfl (Nat.le_of_ble_eq_true rfl) dL_law_389 ⟨Nat.le_of_ble_eq_true rfl, Nat.le_of_ble_eq_true rfl⟩ ?_
      refine lv_iload hx hb dL_law_392 (lv_at hl 1 rfl) ?_
      refine lv_icmp_ge (tgt := 399) hx hb dL_law_394 (by decide) (fun c_394 => ?_) (fun c_394 => ?_)
      · refine lv_iconst (v := 0) hx hb dL_law_399 (by decide) ?_
        refine lv_istore (lv' := [(9, .int 0), (8, .int (nI n0)), (7, .int mv), (6, .int (nI key)), (0, .ref b), (1, .ref (ad 14)), (2, .ref (ad 17)), (3, .ref (ad 18)), (4, .ref (ad 19))]) hx hb dL_law_400 hl (by decide) rfl (fun ls hl => ?_)
        refine kc_forW (pc := 402) (N := K) (P := fun k ls => lv_has ls 12 [(9, .int (nI k)), (8, .int (nI n0)), (7, .int mv), (6, .int (nI key)), (0, .ref b), (1, .ref (ad 14)), (2, .ref (ad 17)), (3, .ref (ad 18)), (4, .ref (ad 19))]) (fun k ls hj_402 hp ih_402 => ?_) ls ?_
        · have hl := hp
          refine lv_iload hx hb dL_law_402 (lv_at hl 0 rfl) ?_
          refine lv_aload hx hb dL_law_404 (lv_at hl 8 rfl) ?_
          refine lv_iconst (v := 0) hx hb dL_law_406 (by decide) ?_
          refine kc_ald (i := 0) (n := 3) hx hb hK hP 19 0 rfl rfl (by omega) (by decide) dL_law_407 ?_
          refine kc_top (show (cnF (nI K) (nI Dn) m0) 0 = nI K from rfl) ?_
          refine kc_tst (j := k) (N := K) (tgt := 437) hx hb dL_law_408 (by decide) hj_402 (by omega) (fun hN => ?_) (fun hlt_402 => ?_)
          · subst hN
            refine lv_iconst (v := 0) hx hb dL_law_437 (by decide) ?_
            refine lv_istore (lv' := [(9, .int 0), (8, .int (nI n0)), (7, .int mv), (6, .int (nI key)), (0, .ref b), (1, .ref (ad 14)), (2, .ref (ad 17)), (3, .ref (ad 18)), (4, .ref (ad 19))]) hx hb dL_law_438 hl (by decide) rfl (fun ls hl => ?_)
            refine kc_forW (pc := 440) (N := Dn) (P := fun d ls => lv_has ls 12 [(9, .int (nI d)), (8, .int (nI n0)), (7, .int mv), (6, .int (nI key)), (0, .ref b), (1, .ref (ad 14)), (2, .ref (ad 17)), (3, .ref (ad 18)), (4, .ref (ad 19))]) (fun d ls hj_440 hp ih_440 => ?_) ls ?_
            · have hl := hp
              refine lv_iload hx hb dL_law_440 (lv_at hl 0 rfl) ?_
              refine lv_aload hx hb dL_law_442 (lv_at hl 8 rfl) ?_
              refine lv_iconst (v := 1) hx hb dL_law_444 (by decide) ?_
              refine kc_ald (i := 1) (n := 3) hx hb hK hP 19 0 rfl rfl (by omega) (by decide) dL_law_445 ?_
              refine kc_top (show (cnF (nI K) (nI Dn) m0) 1 = nI Dn from rfl) ?_
              refine kc_tst (j := d) (N := Dn) (tgt := 539) hx hb dL_law_446 (by decide) hj_440 (by omega) (fun hN => ?_) (fun hlt_440 => ?_)
              · subst hN
                refine lv_aload_n hx hb dL_law_539 rfl (lv_at hl 5 rfl) ?_
                refine lv_aload_n hx hb dL_law_540 rfl (lv_at hl 6 rfl) ?_
                refine lv_iload hx hb dL_law_541 (lv_at hl 3 rfl) ?_
                refine kc_ald (i := key) (n := 8) hx hb hK hP 17 0 rfl rfl (by omega) (by decide) dL_law_543 ?_
                obtain ⟨n1, hn1, en1⟩ := hbk.2.1 key hkey
                refine kc_wVi (w1 := wKc ad cI (upd cd2 K (cd key)) (upd te2 K (jTeeth (cd key) 5)) ri pi2 (jWithout te ri K key pw Dn) (K + 1) Dn mv2 ko (jVoidSo ko (nI key) so C) tl lp lb ld (jVoidEnd ko (nI key) so le tn dy C) C cl dq dy) (wr := [(ad 17, .inl (cI, 8, .inl cd)), (ad 18, .inl (cI, 8, .inl ri)), (ad 19, .inl (cI, 3, .inl (cnF (nI K) (nI Dn) m0)))]) (ws1 := wLw ad cI (upd cd2 K (cd key)) (upd te2 K (jTeeth (cd key) 5)) ri pi2 (jWithout te ri K key pw Dn) (K + 1) Dn mv2 ko (jVoidSo ko (nI key) so C) tl lp lb ld (jVoidEnd ko (nI key) so le tn dy C) C cl dq dy cd ri (cnF (nI K) (nI Dn) m0)) (As := [.int (cd key)]) (rest := []) ⟨hx, hb, hml, hown, hts⟩ (c_X2_addKey_ok l D ad cI cd2 te2 ri pi2 (jWithout te ri K key pw Dn) K Dn mv2 ko (jVoidSo ko (nI key) so C) tl lp lb ld (jVoidEnd ko (nI key) so le tn dy C) C cl dq dy (cd key) H.size (by rw [en1]; exact nI_pos (by omega)) (by rw [en1]; exact nI_lt (b := 1024) hn1 (by decide)) (by omega) (by rw [ecd2]; exact A_free hbk.2.2 hkey hfr)) (cwV 1 hts gL_law_X2_addKey rfl rfl rfl (by decide +kernel) ⟨Nat.le_of_ble_eq_true rfl, Nat.le_of_ble_eq_true rfl⟩) hK hP hD hS hA [0, 1, 2, 3, 4, 5, 6, 7, 8, 9, 10, 11, 12, 13, 14, 15, 16] [17, 18, 19] [3, 4, 5, 6, 7, 8, 9, 10, 11, 12, 13, 14, 15, 16, 17, 18, 19, 0, 1, 2] [0] rfl rfl rfl rfl (by decide) rfl rfl rfl 14 rfl rfl rfl rfl hl.1 rfl (Nat.le_of_ble_eq_true rfl) dL_law_544 ⟨Nat.le_of_ble_eq_true rfl, Nat.le_of_ble_eq_true rfl⟩ (fun H locs hP hD hS => ?_)
                refine lv_aload hx hb dL_law_547 (lv_at hl 8 rfl) ?_
                refine lv_iconst (v := 0) hx hb dL_law_549 (by decide) ?_
                refine kc_ald (i := 0) (n := 3) hx hb hK hP 19 0 rfl rfl (by omega) (by decide) dL_law_550 ?_
                refine kc_top (show (cnF (nI K) (nI Dn) m0) 0 = nI K from rfl) ?_
                refine lv_icmp_ne (tgt := 569) hx hb dL_law_551 (by decide) (fun c_551 => ?_) (fun c_551 => ?_)
                · exact absurd rfl c_551
                · refine lv_aload_n hx hb dL_law_554 rfl (lv_at hl 5 rfl) ?_
                  refine lv_aload hx hb dL_law_555 (lv_at hl 8 rfl) ?_
                  refine lv_iconst (v := 0) hx hb dL_law_557 (by decide) ?_
                  refine kc_ald (i := 0) (n := 3) hx hb hK hP 19 0 rfl rfl (by omega) (by decide) dL_law_558 ?_
                  refine kc_top (show (cnF (nI K) (nI Dn) m0) 0 = nI K from rfl) ?_
                  refine kc_rVi (As := [.int (nI K)]) (rest := []) ⟨hx, hb, hml, hown, hts⟩ (c_X2_doors_ok l D ad cI (upd cd2 K (cd key)) (upd te2 K (jTeeth (cd key) 5)) ri pi2 (jWithout te ri K key pw Dn) (K + 1) Dn mv2 ko (jVoidSo ko (nI key) so C) tl lp lb ld (jVoidEnd ko (nI key) so le tn dy C) C cl dq dy K (by first | assumption | omega) (by first | assumption | omega) (by first | assumption | omega)) (cwV 1 hts gL_law_X2_doors rfl rfl rfl (by decide +kernel) ⟨Nat.le_of_ble_eq_true rfl, Nat.le_of_ble_eq_true rfl⟩) hK hP [0, 1, 2, 3, 4, 5, 6, 7, 8, 9, 10, 11, 12, 13, 14, 15, 16] [0] rfl rfl 14 rfl rfl rfl rfl hl.1 rfl (Nat.le_of_ble_eq_true rfl) dL_law_559 ⟨Nat.le_of_ble_eq_true rfl, Nat.le_of_ble_eq_true rfl⟩ ?_
                  refine kc_top (show jDoors pi2 (upd te2 K (jTeeth (cd key) 5)) K Dn = 0 from A_last hK8 hbt2 hpi2 hold2) ?_
                  refine lv_if_ne (tgt := 569) hx hb dL_law_562 (by decide) (fun c_562 => absurd c_562 (by decide)) (fun c_562 => ?_)
                  refine lv_iconst (v := 1) hx hb dL_law_565 (by decide) ?_
                  refine lv_goto (tgt := 570) hx hb dL_law_566 (by decide) ?_
                  subst hAe
                  refine va_forget hS.2.2 ?_
                  refine W.widen (k := 158) (n := 2120) (by omega) (by omega) ?_
                  exact lw_ret hx C0.2.1 hr hlocks dL_law_570
              · refine lv_aload_n hx hb dL_law_449 rfl (lv_at hl 7 rfl) ?_
                refine lv_iload hx hb dL_law_450 (lv_at hl 0 rfl) ?_
                refine kc_ald (i := d) (n := 8) hx hb hK hP 18 0 rfl rfl (by omega) (by decide) dL_law_452 ?_
                refine lv_aload_n hx hb dL_law_453 rfl (lv_at hl 5 rfl) ?_
                refine lv_iload hx hb dL_law_454 (lv_at hl 0 rfl) ?_
                refine kc_rVi (As := [.int (nI d)]) (rest := [.int (ri d)]) ⟨hx, hb, hml, hown, hts⟩ (c_X2_openers_ok l D ad cI cd2 te2 ri pi2 (jWithout te ri K key pw Dn) K Dn mv2 ko (jVoidSo ko (nI key) so C) tl lp lb ld (jVoidEnd ko (nI key) so le tn dy C) C cl dq dy d (by first | assumption | omega) (by first | assumption | omega) (by first | assumption | omega)) (cwV 1 hts gL_law_X2_openers rfl rfl rfl (by decide +kernel) ⟨Nat.le_of_ble_eq_true rfl, Nat.le_of_ble_eq_true rfl⟩) hK hP [0, 1, 2, 3, 4, 5, 6, 7, 8, 9, 10, 11, 12, 13, 14, 15, 16] [0] rfl rfl 14 rfl rfl rfl rfl hl.1 rfl (Nat.le_of_ble_eq_true rfl) dL_law_456 ⟨Nat.le_of_ble_eq_true rfl, Nat.le_of_ble_eq_true rfl⟩ ?_
                obtain ⟨r9, hr9, er9⟩ := hri d hlt_440
                refine lv_iconst (v := (-1)) hx hb dL_law_459 (by decide) ?_
                refine lv_ixor hx hb dL_law_460 ?_
                refine lv_iand hx hb dL_law_461 ?_
                refine kc_top (show (ri d) &&& ((jOpeners pi2 te2 d K) ^^^ (-1)) = 0 from A_own hK8 hbt2 (hpi2 d hlt_440) hr9 er9) ?_
                refine lv_if_eq (tgt := 467) hx hb dL_law_462 (by decide) (fun c_462 => ?_) (fun c_462 => absurd c_462 (by decide))
                refine lv_iconst (v := 1) hx hb dL_law_467 (by decide) ?_
                refine lv_istore (lv' := [(10, .int 1), (9, .int (nI d)), (8, .int (nI n0)), (7, .int mv), (6, .int (nI key)), (0, .ref b), (1, .ref (ad 14)), (2, .ref (ad 17)), (3, .ref (ad 18)), (4, .ref (ad 19))]) hx hb dL_law_468 hl (by decide) rfl (fun ls hl => ?_)
                refine lv_iconst (v := 0) hx hb dL_law_470 (by decide) ?_
                refine lv_istore (lv' := [(11, .int 0), (10, .int 1), (9, .int (nI d)), (8, .int (nI n0)), (7, .int mv), (6, .int (nI key)), (0, .ref b), (1, .ref (ad 14)), (2, .ref (ad 17)), (3, .ref (ad 18)), (4, .ref (ad 19))]) hx hb dL_law_471 hl (by decide) rfl (fun ls hl => ?_)
                refine kc_forW (pc := 473) (N := 5) (P := fun q ls => lv_has ls 12 [(11, .int (nI q)), (10, .int (bI (mOpens ri cd2 K (cd key) d q))), (9, .int (nI d)), (8, .int (nI n0)), (7, .int mv), (6, .int (nI key)), (0, .ref b), (1, .ref (ad 14)), (2, .ref (ad 17)), (3, .ref (ad 18)), (4, .ref (ad 19))]) (fun q ls hj_473 hp ih_473 => ?_) ls ?_
                · have hl := hp
                  refine lv_iload hx hb dL_law_473 (lv_at hl 0 rfl) ?_
                  refine lv_iconst (v := 5) hx hb dL_law_475 (by decide) ?_
                  refine kc_tst (j := q) (N := 5) (tgt := 526) hx hb dL_law_476 (by decide) hj_473 (by omega) (fun hN => ?_) (fun hlt_473 => ?_)
                  · subst hN
                    refine lv_iload hx hb dL_law_526 (lv_at hl 1 rfl) ?_
                    refine kc_ifeqB (tgt := 533) hx hb dL_law_528 (by decide) (fun c_528 => ?_) (fun c_528 => ?_)
                    · refine lv_iinc (v := nI (d + 1)) (lv' := [(9, .int (nI (d + 1))), (11, .int (nI 5)), (10, .int (bI (mOpens ri cd2 K (cd key) d 5))), (8, .int (nI n0)), (7, .int mv), (6, .int (nI key)), (0, .ref b), (1, .ref (ad 14)), (2, .ref (ad 17)), (3, .ref (ad 18)), (4, .ref (ad 19))]) hx hb dL_law_533 hl (k := 2) rfl (kc_inc d) (by decide) rfl (fun ls hl => ?_)
                      refine lv_goto (tgt := 440) hx hb dL_law_536 (by decide) ?_
                      refine ih_440 _ hlt_440 ?_
                      show lv_has _ 12 [(9, .int (nI (d + 1))), (8, .int (nI n0)), (7, .int mv), (6, .int (nI key)), (0, .ref b), (1, .ref (ad 14)), (2, .ref (ad 17)), (3, .ref (ad 18)), (4, .ref (ad 19))]
                      exact lv_sub hl [0, 3, 4, 5, 6, 7, 8, 9, 10] rfl
                    · exact absurd c_528 (hold2 d hlt_440)
                  · refine lv_iload hx hb dL_law_479 (lv_at hl 1 rfl) ?_
                    refine kc_ifeqB (tgt := 517) hx hb dL_law_481 (by decide) (fun c_481 => ?_) (fun c_481 => ?_)
                    · refine lv_iconst (v := 0) hx hb dL_law_517 (by decide) ?_
                      refine lv_istore (lv' := [(10, .int 0), (11, .int (nI q)), (9, .int (nI d)), (8, .int (nI n0)), (7, .int mv), (6, .int (nI key)), (0, .ref b), (1, .ref (ad 14)), (2, .ref (ad 17)), (3, .ref (ad 18)), (4, .ref (ad 19))]) hx hb dL_law_518 hl (by decide) rfl (fun ls hl => ?_)
                      refine lv_iinc (v := nI (q + 1)) (lv' := [(11, .int (nI (q + 1))), (10, .int 0), (9, .int (nI d)), (8, .int (nI n0)), (7, .int mv), (6, .int (nI key)), (0, .ref b), (1, .ref (ad 14)), (2, .ref (ad 17)), (3, .ref (ad 18)), (4, .ref (ad 19))]) hx hb dL_law_520 hl (k := 1) rfl (kc_inc q) (by decide) rfl (fun ls hl => ?_)
                      refine lv_goto (tgt := 473) hx hb dL_law_523 (by decide) ?_
                      refine ih_473 _ hlt_473 ?_
                      have eq_10 : bI (mOpens ri cd2 K (cd key) d (q + 1)) = 0 := op_a c_481
                      show lv_has _ 12 [(11, .int (nI (q + 1))), (10, .int (bI (mOpens ri cd2 K (cd key) d (q + 1)))), (9, .int (nI d)), (8, .int (nI n0)), (7, .int mv), (6, .int (nI key)), (0, .ref b), (1, .ref (ad 14)), (2, .ref (ad 17)), (3, .ref (ad 18)), (4, .ref (ad 19))]
                      rw [eq_10]
                      exact lv_sub hl [0, 1, 2, 3, 4, 5, 6, 7, 8, 9, 10] rfl
                    · refine lv_aload_n hx hb dL_law_484 rfl (lv_at hl 7 rfl) ?_
                      refine lv_iload hx hb dL_law_485 (lv_at hl 2 rfl) ?_
                      refine lv_iload hx hb dL_law_487 (lv_at hl 0 rfl) ?_
                      refine kc_rVi (As := [.int (nI d), .int (nI q)]) (rest := []) ⟨hx, hb, hml, hown, hts⟩ (c_X2_pins_ok l D ad cI cd2 te2 ri pi2 (jWithout te ri K key pw Dn) K Dn mv2 ko (jVoidSo ko (nI key) so C) tl lp lb ld (jVoidEnd ko (nI key) so le tn dy C) C cl dq dy d q (by first | assumption | omega) (by first | assumption | omega) (by first | assumption | omega)) (cwV 2 hts gL_law_X2_pins rfl rfl rfl (by decide +kernel) ⟨Nat.le_of_ble_eq_true rfl, Nat.le_of_ble_eq_true rfl⟩) hK hP [0, 1, 2, 3, 4, 5, 6, 7, 8, 9, 10, 11, 12, 13, 14, 15, 16] [0] rfl rfl 14 rfl rfl rfl rfl hl.1 rfl (Nat.le_of_ble_eq_true rfl) dL_law_489 ⟨Nat.le_of_ble_eq_true rfl, Nat.le_of_ble_eq_true rfl⟩ ?_
                      refine lv_aload_n hx hb dL_law_492 rfl (lv_at hl 8 rfl) ?_
                      refine lv_iload hx hb dL_law_493 (lv_at hl 5 rfl) ?_
                      refine kc_ald (i := key) (n := 8) hx hb hK hP 17 0 rfl rfl (by omega) (by decide) dL_law_495 ?_
                      refine lv_bipush (v := 8) hx hb dL_law_496 (by decide) ?_
                      refine lv_iconst (v := 2) hx hb dL_law_498 (by decide) ?_
                      refine lv_iload hx hb dL_law_499 (lv_at hl 0 rfl) ?_
                      refine lv_imul hx hb dL_law_501 ?_
                      refine lv_isub hx hb dL_law_502 ?_
                      refine lv_ishr hx hb dL_law_503 ?_
                      refine lv_iconst (v := 3) hx hb dL_law_504 (by decide) ?_
                      refine lv_iand hx hb dL_law_505 ?_
                      refine lv_ishr hx hb dL_law_506 ?_
                      refine lv_iconst (v := 1) hx hb dL_law_507 (by decide) ?_
                      refine lv_iand hx hb dL_law_508 ?_
                      refine lv_iconst (v := 1) hx hb dL_law_509 (by decide) ?_
                      refine lv_icmp_ne (tgt := 517) hx hb dL_law_510 (by decide) (fun c_510 => ?_) (fun c_510 => ?_)
                      · refine lv_iconst (v := 0) hx hb dL_law_517 (by decide) ?_
                        refine lv_istore (lv' := [(10, .int 0), (11, .int (nI q)), (9, .int (nI d)), (8, .int (nI n0)), (7, .int mv), (6, .int (nI key)), (0, .ref b), (1, .ref (ad 14)), (2, .ref (ad 17)), (3, .ref (ad 18)), (4, .ref (ad 19))]) hx hb dL_law_518 hl (by decide) rfl (fun ls hl => ?_)
                        refine lv_iinc (v := nI (q + 1)) (lv' := [(11, .int (nI (q + 1))), (10, .int 0), (9, .int (nI d)), (8, .int (nI n0)), (7, .int mv), (6, .int (nI key)), (0, .ref b), (1, .ref (ad 14)), (2, .ref (ad 17)), (3, .ref (ad 18)), (4, .ref (ad 19))]) hx hb dL_law_520 hl (k := 1) rfl (kc_inc q) (by decide) rfl (fun ls hl => ?_)
                        refine lv_goto (tgt := 473) hx hb dL_law_523 (by decide) ?_
                        refine ih_473 _ hlt_473 ?_
                        have eq_10 : bI (mOpens ri cd2 K (cd key) d (q + 1)) = 0 := op_b (fun h => c_510 ((pin_at hK8 hbt2 (hpi2 d hlt_440) hlt_473 (cd key)).mpr h))
                        show lv_has _ 12 [(11, .int (nI (q + 1))), (10, .int (bI (mOpens ri cd2 K (cd key) d (q + 1)))), (9, .int (nI d)), (8, .int (nI n0)), (7, .int mv), (6, .int (nI key)), (0, .ref b), (1, .ref (ad 14)), (2, .ref (ad 17)), (3, .ref (ad 18)), (4, .ref (ad 19))]
                        rw [eq_10]
                        exact lv_sub hl [0, 1, 2, 3, 4, 5, 6, 7, 8, 9, 10] rfl
                      · refine lv_iconst (v := 1) hx hb dL_law_513 (by decide) ?_
                        refine lv_goto (tgt := 518) hx hb dL_law_514 (by decide) ?_
                        refine lv_istore (lv' := [(10, .int 1), (11, .int (nI q)), (9, .int (nI d)), (8, .int (nI n0)), (7, .int mv), (6, .int (nI key)), (0, .ref b), (1, .ref (ad 14)), (2, .ref (ad 17)), (3, .ref (ad 18)), (4, .ref (ad 19))]) hx hb dL_law_518 hl (by decide) rfl (fun ls hl => ?_)
                        refine lv_iinc (v := nI (q + 1)) (lv' := [(11, .int (nI (q + 1))), (10, .int 1), (9, .int (nI d)), (8, .int (nI n0)), (7, .int mv), (6, .int (nI key)), (0, .ref b), (1, .ref (ad 14)), (2, .ref (ad 17)), (3, .ref (ad 18)), (4, .ref (ad 19))]) hx hb dL_law_520 hl (k := 1) rfl (kc_inc q) (by decide) rfl (fun ls hl => ?_)
                        refine lv_goto (tgt := 473) hx hb dL_law_523 (by decide) ?_
                        refine ih_473 _ hlt_473 ?_
                        have eq_10 : bI (mOpens ri cd2 K (cd key) d (q + 1)) = 1 := op_c c_481 ((pin_at hK8 hbt2 (hpi2 d hlt_440) hlt_473 (cd key)).mp c_510)
                        show lv_has _ 12 [(11, .int (nI (q + 1))), (10, .int (bI (mOpens ri cd2 K (cd key) d (q + 1)))), (9, .int (nI d)), (8, .int (nI n0)), (7, .int mv), (6, .int (nI key)), (0, .ref b), (1, .ref (ad 14)), (2, .ref (ad 17)), (3, .ref (ad 18)), (4, .ref (ad 19))]
                        rw [eq_10]
                        exact lv_sub hl [0, 1, 2, 3, 4, 5, 6, 7, 8, 9, 10] rfl
                · exact lv_sub hl [0, 1, 2, 3, 4, 5, 6, 7, 8, 9, 10] rfl
            · exact lv_sub hl [0, 1, 2, 3, 4, 5, 6, 7, 8] rfl
          · refine lv_iload hx hb dL_law_411 (lv_at hl 0 rfl) ?_
            refine lv_iload hx hb dL_law_413 (lv_at hl 3 rfl) ?_
            refine lv_icmp_eq (tgt := 431) hx hb dL_law_415 (by decide) (fun c_415 => ?_) (fun c_415 => ?_)
            · refine lv_iinc (v := nI (k + 1)) (lv' := [(9, .int (nI (k + 1))), (8, .int (nI n0)), (7, .int mv), (6, .int (nI key)), (0, .ref b), (1, .ref (ad 14)), (2, .ref (ad 17)), (3, .ref (ad 18)), (4, .ref (ad 19))]) hx hb dL_law_431 hl (k := 0) rfl (kc_inc k) (by decide) rfl (fun ls hl => ?_)
              refine lv_goto (tgt := 402) hx hb dL_law_434 (by decide) ?_
              refine ih_402 _ hlt_402 ?_
              show lv_has _ 12 [(9, .int (nI (k + 1))), (8, .int (nI n0)), (7, .int mv), (6, .int (nI key)), (0, .ref b), (1, .ref (ad 14)), (2, .ref (ad 17)), (3, .ref (ad 18)), (4, .ref (ad 19))]
              exact lv_sub hl [0, 1, 2, 3, 4, 5, 6, 7, 8] rfl
            · refine lv_aload_n hx hb dL_law_418 rfl (lv_at hl 5 rfl) ?_
              refine lv_iload hx hb dL_law_419 (lv_at hl 0 rfl) ?_
              refine kc_rVi (As := [.int (nI k)]) (rest := []) ⟨hx, hb, hml, hown, hts⟩ (c_X2_code_ok l D ad cI cd2 te2 ri pi2 (jWithout te ri K key pw Dn) K Dn mv2 ko (jVoidSo ko (nI key) so C) tl lp lb ld (jVoidEnd ko (nI key) so le tn dy C) C cl dq dy k (by first | assumption | omega) (by first | assumption | omega)) (cwV 1 hts gL_law_X2_code rfl rfl rfl (by decide +kernel) ⟨Nat.le_of_ble_eq_true rfl, Nat.le_of_ble_eq_true rfl⟩) hK hP [0, 1, 2, 3, 4, 5, 6, 7, 8, 9, 10, 11, 12, 13, 14, 15, 16] [0] rfl rfl 14 rfl rfl rfl rfl hl.1 rfl (Nat.le_of_ble_eq_true rfl) dL_law_421 ⟨Nat.le_of_ble_eq_true rfl, Nat.le_of_ble_eq_true rfl⟩ ?_
              refine lv_iload hx hb dL_law_424 (lv_at hl 1 rfl) ?_
              refine lv_icmp_ne (tgt := 431) hx hb dL_law_426 (by decide) (fun c_426 => ?_) (fun c_426 => ?_)
              · refine lv_iinc (v := nI (k + 1)) (lv' := [(9, .int (nI (k + 1))), (8, .int (nI n0)), (7, .int mv), (6, .int (nI key)), (0, .ref b), (1, .ref (ad 14)), (2, .ref (ad 17)), (3, .ref (ad 18)), (4, .ref (ad 19))]) hx hb dL_law_431 hl (k := 0) rfl (kc_inc k) (by decide) rfl (fun ls hl => ?_)
                refine lv_goto (tgt := 402) hx hb dL_law_434 (by decide) ?_
                refine ih_402 _ hlt_402 ?_
                show lv_has _ 12 [(9, .int (nI (k + 1))), (8, .int (nI n0)), (7, .int mv), (6, .int (nI key)), (0, .ref b), (1, .ref (ad 14)), (2, .ref (ad 17)), (3, .ref (ad 18)), (4, .ref (ad 19))]
                exact lv_sub hl [0, 1, 2, 3, 4, 5, 6, 7, 8] rfl
              · exact absurd (by rw [ecd2, pk_un (fun h => c_415 (by rw [h]))] at c_426; exact c_426) (taken_ne hfr hlt_402)
        · exact lv_sub hl [0, 1, 2, 3, 4, 5, 6, 7, 8] rfl
      · exact absurd hmv2 c_394
    · exact absurd (nI_pos' (by omega)) c_357
set_option maxHeartbeats 8000000 in
set_option maxRecDepth 100000 in
theorem lw_main {p : Program} {l : Launch} {e : Env} {s : State} {m : MethodId} {below : List Frame} {meth : Method} {c : Code} {b L : Nat} {xs : Nat → Int32} (C0 : lw_At p s m meth c b L xs) {D : va_G} {cI : ClassId} (hK : kcK D [(cI, .int)] s) (hL31 : L < 2 ^ 31) {A : Nat → Prop} (hAe : A = fun q : Nat => s.heap.size ≤ q) (ad : Nat → Nat) (cd : Nat → Int32) (te : Nat → Int32) (ri : Nat → Int32) (pi : Nat → Int32) (pw : Nat → Int32) (K : Nat) (Dn : Nat) (mv : Int32) (ko : Nat → Int32) (so : Nat → Int32) (tl : Nat → Int32) (lp : Nat → Int32) (lb : Nat → Int32) (ld : Nat → Int32) (le : Nat → Int32) (C : Nat) (cl : Nat → Int32) (dq : Nat → Int32) (dy : Int32) (m0 : Int32) (tn : Nat → Nat) (hK0 : 0 < K) (hK5 : K ≤ 5) (hD5 : Dn ≤ 5) (hbk : bK cd te K) (hri : ∀ i, i < Dn → ∃ r, r < 2 ^ K ∧ ri i = nI r) (hpi : okPi te ri pi K Dn) (hC24 : C ≤ 24) (hok : okLe so tl tn) (hmv : mOk mv 320) {H : Heap} {locs : List Loc} (hP : va_P D vwCl (wLw ad cI cd te ri pi pw K Dn mv ko so tl lp lb ld le C cl dq dy cd ri (cnF (nI K) (nI Dn) m0)) H) (hD : va_D A (wLw ad cI cd te ri pi pw K Dn mv ko so tl lp lb ld le C cl dq dy cd ri (cnF (nI K) (nI Dn) m0))) (hS : va_S A s.heap H locs) {ls : Array Slot} (hl : lv_has ls 12 [(0, .ref b), (1, .ref (ad 14)), (2, .ref (ad 17)), (3, .ref (ad 18)), (4, .ref (ad 19))]) : W p l e room_1 s m #[Value.ref b] below meth c H locs 20 1032 (lw_Z below #[Value.ref b] s) (F0 m 40 ls []) := by
  obtain ⟨hx, hb, hr, hml, hown, hts, hXs, hbl, hlocks, hgv⟩ := id C0
  have hts := fun w h => hts w (wsL_law_in w h)
  have hb : c.code = cL_law := hb
  have hA : ∀ q : Nat, s.heap.size ≤ q → A q := fun q h => by rw [hAe]; exact h
  have hbA : ¬ A b := by rw [hAe]; exact Nat.not_le.mpr hbl
  have hK8 : K ≤ 8 := by omega
  have hD8 : Dn ≤ 8 := by omega
  refine lv_iconst (v := 0) hx hb dL_law_40 (by decide) ?_
  refine lv_istore (lv' := [(5, .int 0), (0, .ref b), (1, .ref (ad 14)), (2, .ref (ad 17)), (3, .ref (ad 18)), (4, .ref (ad 19))]) hx hb dL_law_41 hl (by decide) rfl (fun ls hl => ?_)
  refine lv_iconst (v := 0) hx hb dL_law_43 (by decide) ?_
  refine lv_istore (lv' := [(6, .int 0), (5, .int 0), (0, .ref b), (1, .ref (ad 14)), (2, .ref (ad 17)), (3, .ref (ad 18)), (4, .ref (ad 19))]) hx hb dL_law_44 hl (by decide) rfl (fun ls hl => ?_)
  refine kc_forHW (pc := 46) (N := Dn) (P := fun d H locs ls => ∃ (mv1 : Int32), va_P D vwCl (wLw ad cI cd te ri pi pw K Dn mv1 ko so tl lp lb ld le C cl dq dy cd ri (cnF (nI K) (nI Dn) m0)) H ∧ va_D A (wLw ad cI cd te ri pi pw K Dn mv1 ko so tl lp lb ld le C cl dq dy cd ri (cnF (nI K) (nI Dn) m0)) ∧ va_S A s.heap H locs ∧ lv_has ls 12 [(6, .int (nI d)), (5, .int (jStrays pi te ri K d)), (0, .ref b), (1, .ref (ad 14)), (2, .ref (ad 17)), (3, .ref (ad 18)), (4, .ref (ad 19))] ∧ mOk mv1 (320 + 128 * d)) (fun d H locs ls hj_46 hp ih_46 => ?_) H locs ls ?_
  · obtain ⟨mv1, hP, hD, hS, hl, he_46⟩ := hp
    refine lv_iload hx hb dL_law_46 (lv_at hl 0 rfl) ?_
    refine lv_aload hx hb dL_law_48 (lv_at hl 6 rfl) ?_
    refine lv_iconst (v := 1) hx hb dL_law_50 (by decide) ?_
    refine kc_ald (i := 1) (n := 3) hx hb hK hP 19 0 rfl rfl (by omega) (by decide) dL_law_51 ?_
    refine kc_top (show (cnF (nI K) (nI Dn) m0) 1 = nI Dn from rfl) ?_
    refine kc_tst (j := d) (N := Dn) (tgt := 315) hx hb dL_law_52 (by decide) hj_46 (by omega) (fun hN => ?_) (fun hlt_46 => ?_)
    · subst hN
      refine lv_aload_n hx hb dL_law_315 rfl (lv_at hl 3 rfl) ?_
      refine kc_rVi (As := []) (rest := []) ⟨hx, hb, hml, hown, hts⟩ (c_X2_strays l D ad cI cd te ri pi pw K Dn mv1 ko so tl lp lb ld le C cl dq dy (by first | assumption | omega) (by first | assumption | omega)) (cwV 0 hts gL_law_X2_strays rfl rfl rfl (by decide +kernel) ⟨Nat.le_of_ble_eq_true rfl, Nat.le_of_ble_eq_true rfl⟩) hK hP [0, 1, 2, 3, 4, 5, 6, 7, 8, 9, 10, 11, 12, 13, 14, 15, 16] [0] rfl rfl 14 rfl rfl rfl rfl hl.1 rfl (Nat.le_of_ble_eq_true rfl) dL_law_316 ⟨Nat.le_of_ble_eq_true rfl, Nat.le_of_ble_eq_true rfl⟩ ?_
      refine lv_iload hx hb dL_law_319 (lv_at hl 1 rfl) ?_
      refine lv_icmp_eq (tgt := 326) hx hb dL_law_321 (by decide) (fun c_321 => ?_) (fun c_321 => ?_)
      · exact lw_tail C0 hK hL31 hAe ad cd te ri pi pw K Dn mv1 ko so tl lp lb ld le C cl dq dy m0 tn hK0 hK5 hD5 hbk hri hpi hC24 hok (mOk_le he_46 (by omega)) hP hD hS (lv_sub hl [2, 3, 4, 5, 6] rfl)
      · exact absurd rfl c_321
    · refine lv_aload_n hx hb dL_law_55 rfl (lv_at hl 3 rfl) ?_
      refine lv_iload hx hb dL_law_56 (lv_at hl 0 rfl) ?_
      refine kc_rVi (As := [.int (nI d)]) (rest := []) ⟨hx, hb, hml, hown, hts⟩ (c_X2_openers_ok l D ad cI cd te ri pi pw K Dn mv1 ko so tl lp lb ld le C cl dq dy d (by first | assumption | omega) (by first | assumption | omega) (by first | assumption | omega)) (cwV 1 hts gL_law_X2_openers rfl rfl rfl (by decide +kernel) ⟨Nat.le_of_ble_eq_true rfl, Nat.le_of_ble_eq_true rfl⟩) hK hP [0, 1, 2, 3, 4, 5, 6, 7, 8, 9, 10, 11, 12, 13, 14, 15, 16] [0] rfl rfl 14 rfl rfl rfl rfl hl.1 rfl (Nat.le_of_ble_eq_true rfl) dL_law_58 ⟨Nat.le_of_ble_eq_true rfl, Nat.le_of_ble_eq_true rfl⟩ ?_
      obtain ⟨r7, hr7, er7⟩ := hri d hlt_46
      refine lv_istore (lv' := [(7, .int (jOpeners pi te d K)), (6, .int (nI d)), (5, .int (jStrays pi te ri K d)), (0, .ref b), (1, .ref (ad 14)), (2, .ref (ad 17)), (3, .ref (ad 18)), (4, .ref (ad 19))]) hx hb dL_law_61 hl (by decide) rfl (fun ls hl => ?_)
      refine lv_aload_n hx hb dL_law_63 rfl (lv_at hl 6 rfl) ?_
      refine lv_iload hx hb dL_law_64 (lv_at hl 1 rfl) ?_
      refine kc_ald (i := d) (n := 8) hx hb hK hP 18 0 rfl rfl (by omega) (by decide) dL_law_66 ?_
      refine lv_iload hx hb dL_law_67 (lv_at hl 0 rfl) ?_
      refine lv_iconst (v := (-1)) hx hb dL_law_69 (by decide) ?_
      refine lv_ixor hx hb dL_law_70 ?_
      refine lv_iand hx hb dL_law_71 ?_
      refine kc_top (show (ri d) &&& ((jOpeners pi te d K) ^^^ (-1)) = 0 from A_own hK8 hbk.1 (hpi d hlt_46) hr7 er7) ?_
      refine lv_if_ne (tgt := 101) hx hb dL_law_72 (by decide) (fun c_72 => absurd c_72 (by decide)) (fun c_72 => ?_)
      refine lv_aload_n hx hb dL_law_75 rfl (lv_at hl 4 rfl) ?_
      refine lv_iload hx hb dL_law_76 (lv_at hl 1 rfl) ?_
      refine kc_rVi (As := [.int (nI d)]) (rest := []) ⟨hx, hb, hml, hown, hts⟩ (c_X2_codes_ok l D ad cI cd te ri pi pw K Dn mv1 ko so tl lp lb ld le C cl dq dy d (by first | assumption | omega) (by first | assumption | omega)) (cwV 1 hts gL_law_X2_codes rfl rfl rfl (by decide +kernel) ⟨Nat.le_of_ble_eq_true rfl, Nat.le_of_ble_eq_true rfl⟩) hK hP [0, 1, 2, 3, 4, 5, 6, 7, 8, 9, 10, 11, 12, 13, 14, 15, 16] [0] rfl rfl 14 rfl rfl rfl rfl hl.1 rfl (Nat.le_of_ble_eq_true rfl) dL_law_78 ⟨Nat.le_of_ble_eq_true rfl, Nat.le_of_ble_eq_true rfl⟩ ?_
      refine lv_iload hx hb dL_law_81 (lv_at hl 0 rfl) ?_
      refine kc_rSi (As := [.int (jOpeners pi te d K)]) (rest := [.int (jCodes pi d 5)]) ⟨hx, hb, hml, hown, hts⟩ (c_J6_bitCount_0f7a4 l (jOpeners pi te d K) ) (va_cwS 1 hts gL_law_J6_bitCount_0f7a4 rfl rfl rfl (by decide +kernel) ⟨Nat.le_of_ble_eq_true rfl, Nat.le_of_ble_eq_true rfl⟩) rfl hl.1 rfl (Nat.le_of_ble_eq_true rfl) dL_law_83 ⟨Nat.le_of_ble_eq_true rfl, Nat.le_of_ble_eq_true rfl⟩ ?_
      refine lv_icmp_lt (tgt := 101) hx hb dL_law_86 (by decide) (fun c_86 => ?_) (fun c_86 => ?_)
      · exact absurd c_86 (A_codes hK8 hbk (hpi d hlt_46))
      · refine kc_jn (pc2 := 103) (P := fun ls => lv_has ls 12 [(7, .int (jOpeners pi te d K)), (6, .int (nI d)), (5, .int (jStrays pi te ri K d)), (0, .ref b), (1, .ref (ad 14)), (2, .ref (ad 17)), (3, .ref (ad 18)), (4, .ref (ad 19))]) (fun ls hl => ?_) (fun J_103 => ?_)
        · refine lv_iload hx hb dL_law_103 (lv_at hl 2 rfl) ?_
          refine lv_iload hx hb dL_law_105 (lv_at hl 0 rfl) ?_
          refine lv_aload_n hx hb dL_law_107 rfl (lv_at hl 6 rfl) ?_
          refine lv_iload hx hb dL_law_108 (lv_at hl 1 rfl) ?_
          refine kc_ald (i := d) (n := 8) hx hb hK hP 18 0 rfl rfl (by omega) (by decide) dL_law_110 ?_
          refine lv_iconst (v := (-1)) hx hb dL_law_111 (by decide) ?_
          refine lv_ixor hx hb dL_law_112 ?_
          refine lv_iand hx hb dL_law_113 ?_
          refine kc_rSi (As := [.int ((jOpeners pi te d K) &&& ((ri d) ^^^ (-1)))]) (rest := [.int (jStrays pi te ri K d)]) ⟨hx, hb, hml, hown, hts⟩ (c_J6_bitCount_0f7a4 l ((jOpeners pi te d K) &&& ((ri d) ^^^ (-1))) ) (va_cwS 1 hts gL_law_J6_bitCount_0f7a4 rfl rfl rfl (by decide +kernel) ⟨Nat.le_of_ble_eq_true rfl, Nat.le_of_ble_eq_true rfl⟩) rfl hl.1 rfl (Nat.le_of_ble_eq_true rfl) dL_law_114 ⟨Nat.le_of_ble_eq_true rfl, Nat.le_of_ble_eq_true rfl⟩ ?_
          refine lv_iadd hx hb dL_law_117 ?_
          refine lv_istore (lv' := [(5, .int ((jStrays pi te ri K d) + (jPop ((jOpeners pi te d K) &&& ((ri d) ^^^ (-1)))))), (7, .int (jOpeners pi te d K)), (6, .int (nI d)), (0, .ref b), (1, .ref (ad 14)), (2, .ref (ad 17)), (3, .ref (ad 18)), (4, .ref (ad 19))]) hx hb dL_law_118 hl (by decide) rfl (fun ls hl => ?_)
          refine lv_iconst (v := 0) hx hb dL_law_120 (by decide) ?_
          refine lv_istore (lv' := [(8, .int 0), (5, .int ((jStrays pi te ri K d) + (jPop ((jOpeners pi te d K) &&& ((ri d) ^^^ (-1)))))), (7, .int (jOpeners pi te d K)), (6, .int (nI d)), (0, .ref b), (1, .ref (ad 14)), (2, .ref (ad 17)), (3, .ref (ad 18)), (4, .ref (ad 19))]) hx hb dL_law_121 hl (by decide) rfl (fun ls hl => ?_)
          refine kc_forW (pc := 123) (N := K) (P := fun k ls => lv_has ls 12 [(8, .int (nI k)), (5, .int ((jStrays pi te ri K d) + (jPop ((jOpeners pi te d K) &&& ((ri d) ^^^ (-1)))))), (7, .int (jOpeners pi te d K)), (6, .int (nI d)), (0, .ref b), (1, .ref (ad 14)), (2, .ref (ad 17)), (3, .ref (ad 18)), (4, .ref (ad 19))]) (fun k ls hj_123 hp ih_123 => ?_) ls ?_
          · have hl := hp
            refine lv_iload hx hb dL_law_123 (lv_at hl 0 rfl) ?_
            refine lv_aload hx hb dL_law_125 (lv_at hl 8 rfl) ?_
            refine lv_iconst (v := 0) hx hb dL_law_127 (by decide) ?_
            refine kc_ald (i := 0) (n := 3) hx hb hK hP 19 0 rfl rfl (by omega) (by decide) dL_law_128 ?_
            refine kc_top (show (cnF (nI K) (nI Dn) m0) 0 = nI K from rfl) ?_
            refine kc_tst (j := k) (N := K) (tgt := 227) hx hb dL_law_129 (by decide) hj_123 (by omega) (fun hN => ?_) (fun hlt_123 => ?_)
            · subst hN
              refine lv_aload_n hx hb dL_law_227 rfl (lv_at hl 7 rfl) ?_
              refine lv_iload hx hb dL_law_228 (lv_at hl 3 rfl) ?_
              refine kc_ald (i := d) (n := 8) hx hb hK hP 18 0 rfl rfl (by omega) (by decide) dL_law_230 ?_
              refine lv_aload_n hx hb dL_law_231 rfl (lv_at hl 4 rfl) ?_
              refine lv_bipush (v := 9) hx hb dL_law_232 (by decide) ?_
              refine lv_iload hx hb dL_law_234 (lv_at hl 3 rfl) ?_
              refine lv_iadd hx hb dL_law_236 ?_
              refine kc_top (show 9 + (nI d) = nI (9 + d) from nI_add 9 d) ?_
              refine kc_rXi (As := [.ref b, .int (nI (9 + d))]) (rest := [.int (ri d)]) ⟨hx, hb, hml, hown, hts⟩ (c_L_cell l b L xs (9 + d) hL31 (by omega)) (va_cwS 2 hts gL_law_L_cell rfl rfl rfl (by decide +kernel) ⟨Nat.le_of_ble_eq_true rfl, Nat.le_of_ble_eq_true rfl⟩) hXs hbl hbA hS rfl hl.1 rfl (Nat.le_of_ble_eq_true rfl) dL_law_237 ⟨Nat.le_of_ble_eq_true rfl, Nat.le_of_ble_eq_true rfl⟩ ?_
              refine lv_iconst (v := 1) hx hb dL_law_240 (by decide) ?_
              refine lv_aload hx hb dL_law_241 (lv_at hl 8 rfl) ?_
              refine lv_iconst (v := 0) hx hb dL_law_243 (by decide) ?_
              refine kc_ald (i := 0) (n := 3) hx hb hK hP 19 0 rfl rfl (by omega) (by decide) dL_law_244 ?_
              refine kc_top (show (cnF (nI K) (nI Dn) m0) 0 = nI K from rfl) ?_
              refine lv_ishl hx hb dL_law_245 ?_
              refine kc_top (show 1 <<< ((nI K) &&& 31) = nI (2 ^ K) from kc_sh hK8) ?_
              refine kc_rSi (As := [.int (jCell xs L (9 + d)), .int (nI (2 ^ K))]) (rest := [.int (ri d)]) ⟨hx, hb, hml, hown, hts⟩ (c_L_below l (jCell xs L (9 + d)) (nI (2 ^ K)) (nI_ne0 (Nat.two_pow_pos K) (kc_2lt hK8))) (va_cwS 2 hts gL_law_L_below rfl rfl rfl (by decide +kernel) ⟨Nat.le_of_ble_eq_true rfl, Nat.le_of_ble_eq_true rfl⟩) rfl hl.1 rfl (Nat.le_of_ble_eq_true rfl) dL_law_246 ⟨Nat.le_of_ble_eq_true rfl, Nat.le_of_ble_eq_true rfl⟩ ?_
              obtain ⟨r8, hr8, er8⟩ := below_n (jCell xs L (9 + d)) (n := 2 ^ K) (Nat.two_pow_pos K) (kc_2lt hK8)
              refine kc_top (show jBelow (jCell xs L (9 + d)) (nI (2 ^ K)) = nI r8 from er8) ?_
              refine lv_ior hx hb dL_law_249 ?_
              refine lv_istore (lv' := [(8, .int ((ri d) ||| (nI r8))), (5, .int ((jStrays pi te ri K d) + (jPop ((jOpeners pi te d K) &&& ((ri d) ^^^ (-1)))))), (7, .int (jOpeners pi te d K)), (6, .int (nI d)), (0, .ref b), (1, .ref (ad 14)), (2, .ref (ad 17)), (3, .ref (ad 18)), (4, .ref (ad 19))]) hx hb dL_law_250 hl (by decide) rfl (fun ls hl => ?_)
              refine lv_aload_n hx hb dL_law_252 rfl (lv_at hl 5 rfl) ?_
              refine lv_iload hx hb dL_law_253 (lv_at hl 3 rfl) ?_
              refine lv_iload hx hb dL_law_255 (lv_at hl 0 rfl) ?_
              refine kc_wVi (w1 := wKc ad cI cd te (upd ri d ((ri d) ||| (nI r8))) (upd pi d (jPinsFor te ((ri d) ||| (nI r8)) K)) pw K Dn (mv1 + jPop (pi d ^^^ jPinsFor te ((ri d) ||| (nI r8)) K)) ko so tl lp lb ld le C cl dq dy) (wr := [(ad 17, .inl (cI, 8, .inl cd)), (ad 18, .inl (cI, 8, .inl ri)), (ad 19, .inl (cI, 3, .inl (cnF (nI K) (nI Dn) m0)))]) (ws1 := wLw ad cI cd te (upd ri d ((ri d) ||| (nI r8))) (upd pi d (jPinsFor te ((ri d) ||| (nI r8)) K)) pw K Dn (mv1 + jPop (pi d ^^^ jPinsFor te ((ri d) ||| (nI r8)) K)) ko so tl lp lb ld le C cl dq dy cd ri (cnF (nI K) (nI Dn) m0)) (As := [.int (nI d), .int ((ri d) ||| (nI r8))]) (rest := []) ⟨hx, hb, hml, hown, hts⟩ (c_X2_setRights_ok l D ad cI cd te ri pi pw K Dn mv1 ko so tl lp lb ld le C cl dq dy d ((ri d) ||| (nI r8)) H.size (by first | assumption | omega) (by first | assumption | omega) (by first | assumption | omega) (by obtain ⟨x, hx1, ex⟩ := or_lt hr7 hr8; rw [er7, ex]; exact set_of hK8 hx1)) (cwV 2 hts gL_law_X2_setRights rfl rfl rfl (by decide +kernel) ⟨Nat.le_of_ble_eq_true rfl, Nat.le_of_ble_eq_true rfl⟩) hK hP hD hS hA [0, 1, 2, 3, 4, 5, 6, 7, 8, 9, 10, 11, 12, 13, 14, 15, 16] [17, 18, 19] [3, 4, 5, 6, 7, 8, 9, 10, 11, 12, 13, 14, 15, 16, 17, 18, 19, 0, 1, 2] [0] rfl rfl rfl rfl (by decide) rfl rfl rfl 14 rfl rfl rfl rfl hl.1 rfl (Nat.le_of_ble_eq_true rfl) dL_law_257 ⟨Nat.le_of_ble_eq_true rfl, Nat.le_of_ble_eq_true rfl⟩ (fun H locs hP hD hS => ?_)
              refine lv_aload_n hx hb dL_law_260 rfl (lv_at hl 7 rfl) ?_
              refine lv_iload hx hb dL_law_261 (lv_at hl 3 rfl) ?_
              refine kc_ald (i := d) (n := 8) hx hb hK hP 18 0 rfl rfl (by omega) (by decide) dL_law_263 ?_
              refine lv_icmp_ne (tgt := 307) hx hb dL_law_264 (by decide) (fun c_264 => ?_) (fun c_264 => ?_)
              · exact absurd rfl c_264
              · refine lv_iload hx hb dL_law_267 (lv_at hl 2 rfl) ?_
                refine lv_aload_n hx hb dL_law_269 rfl (lv_at hl 5 rfl) ?_
                refine lv_iload hx hb dL_law_270 (lv_at hl 3 rfl) ?_
                refine kc_rVi (As := [.int (nI d)]) (rest := [.int (jOpeners pi te d K)]) ⟨hx, hb, hml, hown, hts⟩ (c_X2_openers_ok l D ad cI cd te (upd ri d ((ri d) ||| (nI r8))) (upd pi d (jPinsFor te ((ri d) ||| (nI r8)) K)) pw K Dn (mv1 + jPop (pi d ^^^ jPinsFor te ((ri d) ||| (nI r8)) K)) ko so tl lp lb ld le C cl dq dy d (by first | assumption | omega) (by first | assumption | omega) (by first | assumption | omega)) (cwV 1 hts gL_law_X2_openers rfl rfl rfl (by decide +kernel) ⟨Nat.le_of_ble_eq_true rfl, Nat.le_of_ble_eq_true rfl⟩) hK hP [0, 1, 2, 3, 4, 5, 6, 7, 8, 9, 10, 11, 12, 13, 14, 15, 16] [0] rfl rfl 14 rfl rfl rfl rfl hl.1 rfl (Nat.le_of_ble_eq_true rfl) dL_law_272 ⟨Nat.le_of_ble_eq_true rfl, Nat.le_of_ble_eq_true rfl⟩ ?_
                refine lv_iconst (v := (-1)) hx hb dL_law_275 (by decide) ?_
                refine lv_ixor hx hb dL_law_276 ?_
                refine lv_iand hx hb dL_law_277 ?_
                refine kc_top (show (jOpeners pi te d K) &&& ((jOpeners (upd pi d (jPinsFor te ((ri d) ||| (nI r8)) K)) te d K) ^^^ (-1)) = 0 from A_mono hK8 hbk.1 (hpi d hlt_46) (or_bit _ _)) ?_
                refine lv_if_ne (tgt := 307) hx hb dL_law_278 (by decide) (fun c_278 => absurd c_278 (by decide)) (fun c_278 => ?_)
                refine lv_aload_n hx hb dL_law_281 rfl (lv_at hl 5 rfl) ?_
                refine lv_iload hx hb dL_law_282 (lv_at hl 3 rfl) ?_
                refine lv_aload_n hx hb dL_law_284 rfl (lv_at hl 7 rfl) ?_
                refine lv_iload hx hb dL_law_285 (lv_at hl 3 rfl) ?_
                refine kc_ald (i := d) (n := 8) hx hb hK hP 18 0 rfl rfl (by omega) (by decide) dL_law_287 ?_
                refine kc_wVi (w1 := wKc ad cI cd te (upd (upd ri d ((ri d) ||| (nI r8))) d (ri d)) (upd (upd pi d (jPinsFor te ((ri d) ||| (nI r8)) K)) d (jPinsFor te (ri d) K)) pw K Dn ((mv1 + jPop (pi d ^^^ jPinsFor te ((ri d) ||| (nI r8)) K)) + jPop ((upd pi d (jPinsFor te ((ri d) ||| (nI r8)) K)) d ^^^ jPinsFor te (ri d) K)) ko so tl lp lb ld le C cl dq dy) (wr := [(ad 17, .inl (cI, 8, .inl cd)), (ad 18, .inl (cI, 8, .inl ri)), (ad 19, .inl (cI, 3, .inl (cnF (nI K) (nI Dn) m0)))]) (ws1 := wLw ad cI cd te (upd (upd ri d ((ri d) ||| (nI r8))) d (ri d)) (upd (upd pi d (jPinsFor te ((ri d) ||| (nI r8)) K)) d (jPinsFor te (ri d) K)) pw K Dn ((mv1 + jPop (pi d ^^^ jPinsFor te ((ri d) ||| (nI r8)) K)) + jPop ((upd pi d (jPinsFor te ((ri d) ||| (nI r8)) K)) d ^^^ jPinsFor te (ri d) K)) ko so tl lp lb ld le C cl dq dy cd ri (cnF (nI K) (nI Dn) m0)) (As := [.int (nI d), .int (ri d)]) (rest := []) ⟨hx, hb, hml, hown, hts⟩ (c_X2_setRights_ok l D ad cI cd te (upd ri d ((ri d) ||| (nI r8))) (upd pi d (jPinsFor te ((ri d) ||| (nI r8)) K)) pw K Dn (mv1 + jPop (pi d ^^^ jPinsFor te ((ri d) ||| (nI r8)) K)) ko so tl lp lb ld le C cl dq dy d (ri d) H.size (by first | assumption | omega) (by first | assumption | omega) (by first | assumption | omega) (by rw [er7]; exact set_of hK8 hr7)) (cwV 2 hts gL_law_X2_setRights rfl rfl rfl (by decide +kernel) ⟨Nat.le_of_ble_eq_true rfl, Nat.le_of_ble_eq_true rfl⟩) hK hP hD hS hA [0, 1, 2, 3, 4, 5, 6, 7, 8, 9, 10, 11, 12, 13, 14, 15, 16] [17, 18, 19] [3, 4, 5, 6, 7, 8, 9, 10, 11, 12, 13, 14, 15, 16, 17, 18, 19, 0, 1, 2] [0] rfl rfl rfl rfl (by decide) rfl rfl rfl 14 rfl rfl rfl rfl hl.1 rfl (Nat.le_of_ble_eq_true rfl) dL_law_288 ⟨Nat.le_of_ble_eq_true rfl, Nat.le_of_ble_eq_true rfl⟩ (fun H locs hP hD hS => ?_)
                refine kc_top (show (upd ri d ((ri d) ||| (nI r8))) d = ri d ||| nI r8 from pk_us) ?_
                have eqR : ri = upd (upd ri d (ri d ||| nI r8)) d (ri d) := A_backR d _
                have eqP : pi = upd (upd pi d (jPinsFor te (ri d ||| nI r8) K)) d (jPinsFor te (ri d) K) := A_backP _ (hpi d hlt_46)
                rw [← eqR, ← eqP] at hP hD
                have hP : va_P D vwCl (wLw ad cI cd te ri pi pw K Dn ((mv1 + jPop (pi d ^^^ jPinsFor te ((ri d) ||| (nI r8)) K)) + jPop ((upd pi d (jPinsFor te ((ri d) ||| (nI r8)) K)) d ^^^ jPinsFor te (ri d) K)) ko so tl lp lb ld le C cl dq dy cd ri (cnF (nI K) (nI Dn) m0)) H := hP
                have hD : va_D A (wLw ad cI cd te ri pi pw K Dn ((mv1 + jPop (pi d ^^^ jPinsFor te ((ri d) ||| (nI r8)) K)) + jPop ((upd pi d (jPinsFor te ((ri d) ||| (nI r8)) K)) d ^^^ jPinsFor te (ri d) K)) ko so tl lp lb ld le C cl dq dy cd ri (cnF (nI K) (nI Dn) m0)) := hD
                refine lv_iload hx hb dL_law_291 (lv_at hl 0 rfl) ?_
                refine lv_icmp_ne (tgt := 307) hx hb dL_law_293 (by decide) (fun c_293 => ?_) (fun c_293 => ?_)
                · exact absurd rfl c_293
                · refine lv_aload_n hx hb dL_law_296 rfl (lv_at hl 5 rfl) ?_
                  refine lv_iload hx hb dL_law_297 (lv_at hl 3 rfl) ?_
                  refine kc_rVi (As := [.int (nI d)]) (rest := []) ⟨hx, hb, hml, hown, hts⟩ (c_X2_openers_ok l D ad cI cd te ri pi pw K Dn ((mv1 + jPop (pi d ^^^ jPinsFor te ((ri d) ||| (nI r8)) K)) + jPop ((upd pi d (jPinsFor te ((ri d) ||| (nI r8)) K)) d ^^^ jPinsFor te (ri d) K)) ko so tl lp lb ld le C cl dq dy d (by first | assumption | omega) (by first | assumption | omega) (by first | assumption | omega)) (cwV 1 hts gL_law_X2_openers rfl rfl rfl (by decide +kernel) ⟨Nat.le_of_ble_eq_true rfl, Nat.le_of_ble_eq_true rfl⟩) hK hP [0, 1, 2, 3, 4, 5, 6, 7, 8, 9, 10, 11, 12, 13, 14, 15, 16] [0] rfl rfl 14 rfl rfl rfl rfl hl.1 rfl (Nat.le_of_ble_eq_true rfl) dL_law_299 ⟨Nat.le_of_ble_eq_true rfl, Nat.le_of_ble_eq_true rfl⟩ ?_
                  refine lv_iload hx hb dL_law_302 (lv_at hl 2 rfl) ?_
                  refine lv_icmp_eq (tgt := 309) hx hb dL_law_304 (by decide) (fun c_304 => ?_) (fun c_304 => ?_)
                  · refine lv_iinc (v := nI (d + 1)) (lv' := [(6, .int (nI (d + 1))), (8, .int ((ri d) ||| (nI r8))), (5, .int ((jStrays pi te ri K d) + (jPop ((jOpeners pi te d K) &&& ((ri d) ^^^ (-1)))))), (7, .int (jOpeners pi te d K)), (0, .ref b), (1, .ref (ad 14)), (2, .ref (ad 17)), (3, .ref (ad 18)), (4, .ref (ad 19))]) hx hb dL_law_309 hl (k := 3) rfl (kc_inc d) (by decide) rfl (fun ls hl => ?_)
                    refine lv_goto (tgt := 46) hx hb dL_law_312 (by decide) ?_
                    refine ih_46 _ _ _ hlt_46 ?_
                    refine ⟨(mv1 + jPop (pi d ^^^ jPinsFor te ((ri d) ||| (nI r8)) K)) + jPop ((upd pi d (jPinsFor te ((ri d) ||| (nI r8)) K)) d ^^^ jPinsFor te (ri d) K), ?_⟩
                    have eq_5 : jStrays pi te ri K (d + 1) = (jStrays pi te ri K d) + (jPop ((jOpeners pi te d K) &&& ((ri d) ^^^ (-1)))) := rfl
                    show va_P D vwCl (wLw ad cI cd te ri pi pw K Dn ((mv1 + jPop (pi d ^^^ jPinsFor te ((ri d) ||| (nI r8)) K)) + jPop ((upd pi d (jPinsFor te ((ri d) ||| (nI r8)) K)) d ^^^ jPinsFor te (ri d) K)) ko so tl lp lb ld le C cl dq dy cd ri (cnF (nI K) (nI Dn) m0)) _ ∧ va_D A (wLw ad cI cd te ri pi pw K Dn ((mv1 + jPop (pi d ^^^ jPinsFor te ((ri d) ||| (nI r8)) K)) + jPop ((upd pi d (jPinsFor te ((ri d) ||| (nI r8)) K)) d ^^^ jPinsFor te (ri d) K)) ko so tl lp lb ld le C cl dq dy cd ri (cnF (nI K) (nI Dn) m0)) ∧ va_S A s.heap _ _ ∧ lv_has _ 12 [(6, .int (nI (d + 1))), (5, .int (jStrays pi te ri K (d + 1))), (0, .ref b), (1, .ref (ad 14)), (2, .ref (ad 17)), (3, .ref (ad 18)), (4, .ref (ad 19))] ∧ mOk ((mv1 + jPop (pi d ^^^ jPinsFor te ((ri d) ||| (nI r8)) K)) + jPop ((upd pi d (jPinsFor te ((ri d) ||| (nI r8)) K)) d ^^^ jPinsFor te (ri d) K)) (320 + 128 * (d + 1))
                    rw [eq_5]
                    exact ⟨hP, hD, hS, lv_sub hl [0, 2, 4, 5, 6, 7, 8] rfl, mOk_le (mOk_add (mOk_add he_46 _) _) (by omega)⟩
                  · exact absurd rfl c_304
            · refine lv_aload_n hx hb dL_law_132 rfl (lv_at hl 5 rfl) ?_
              refine lv_iload hx hb dL_law_133 (lv_at hl 0 rfl) ?_
              refine lv_iload hx hb dL_law_135 (lv_at hl 3 rfl) ?_
              refine kc_rVi (As := [.int (nI k), .int (nI d)]) (rest := []) ⟨hx, hb, hml, hown, hts⟩ (c_X2_opens_ok l D ad cI cd te ri pi pw K Dn mv1 ko so tl lp lb ld le C cl dq dy k d (by first | assumption | omega) (by first | assumption | omega) (by first | assumption | omega) (by first | assumption | omega)) (cwV 2 hts gL_law_X2_opens rfl rfl rfl (by decide +kernel) ⟨Nat.le_of_ble_eq_true rfl, Nat.le_of_ble_eq_true rfl⟩) hK hP [0, 1, 2, 3, 4, 5, 6, 7, 8, 9, 10, 11, 12, 13, 14, 15, 16] [0] rfl rfl 14 rfl rfl rfl rfl hl.1 rfl (Nat.le_of_ble_eq_true rfl) dL_law_137 ⟨Nat.le_of_ble_eq_true rfl, Nat.le_of_ble_eq_true rfl⟩ ?_
              refine lv_aload_n hx hb dL_law_140 rfl (lv_at hl 5 rfl) ?_
              refine lv_iload hx hb dL_law_141 (lv_at hl 0 rfl) ?_
              refine kc_rVi (As := [.int (nI k)]) (rest := [.int (bI (jContains (pi d) (te k)))]) ⟨hx, hb, hml, hown, hts⟩ (c_X2_doors_ok l D ad cI cd te ri pi pw K Dn mv1 ko so tl lp lb ld le C cl dq dy k (by first | assumption | omega) (by first | assumption | omega) (by first | assumption | omega)) (cwV 1 hts gL_law_X2_doors rfl rfl rfl (by decide +kernel) ⟨Nat.le_of_ble_eq_true rfl, Nat.le_of_ble_eq_true rfl⟩) hK hP [0, 1, 2, 3, 4, 5, 6, 7, 8, 9, 10, 11, 12, 13, 14, 15, 16] [0] rfl rfl 14 rfl rfl rfl rfl hl.1 rfl (Nat.le_of_ble_eq_true rfl) dL_law_143 ⟨Nat.le_of_ble_eq_true rfl, Nat.le_of_ble_eq_true rfl⟩ ?_
              refine lv_iload hx hb dL_law_146 (lv_at hl 3 rfl) ?_
              refine lv_ishr hx hb dL_law_148 ?_
              refine lv_iconst (v := 1) hx hb dL_law_149 (by decide) ?_
              refine lv_iand hx hb dL_law_150 ?_
              refine lv_iconst (v := 1) hx hb dL_law_151 (by decide) ?_
              refine lv_icmp_ne (tgt := 159) hx hb dL_law_152 (by decide) (fun c_152 => ?_) (fun c_152 => ?_)
              · refine lv_iconst (v := 0) hx hb dL_law_159 (by decide) ?_
                refine lv_icmp_eq (tgt := 165) hx hb dL_law_160 (by decide) (fun c_160 => ?_) (fun c_160 => ?_)
                · refine lv_iconst (v := 0) hx hb dL_law_165 (by decide) ?_
                  refine lv_istore (lv' := [(9, .int 0), (8, .int (nI k)), (5, .int ((jStrays pi te ri K d) + (jPop ((jOpeners pi te d K) &&& ((ri d) ^^^ (-1)))))), (7, .int (jOpeners pi te d K)), (6, .int (nI d)), (0, .ref b), (1, .ref (ad 14)), (2, .ref (ad 17)), (3, .ref (ad 18)), (4, .ref (ad 19))]) hx hb dL_law_166 hl (by decide) rfl (fun ls hl => ?_)
                  refine kc_forW (pc := 168) (N := 5) (P := fun q ls => lv_has ls 12 [(9, .int (nI q)), (8, .int (nI k)), (5, .int ((jStrays pi te ri K d) + (jPop ((jOpeners pi te d K) &&& ((ri d) ^^^ (-1)))))), (7, .int (jOpeners pi te d K)), (6, .int (nI d)), (0, .ref b), (1, .ref (ad 14)), (2, .ref (ad 17)), (3, .ref (ad 18)), (4, .ref (ad 19))]) (fun q ls hj_168 hp ih_168 => ?_) ls ?_
                  · have hl := hp
                    refine lv_iload hx hb dL_law_168 (lv_at hl 0 rfl) ?_
                    refine lv_iconst (v := 5) hx hb dL_law_170 (by decide) ?_
                    refine kc_tst (j := q) (N := 5) (tgt := 221) hx hb dL_law_171 (by decide) hj_168 (by omega) (fun hN => ?_) (fun hlt_168 => ?_)
                    · subst hN
                      refine lv_iinc (v := nI (k + 1)) (lv' := [(8, .int (nI (k + 1))), (9, .int (nI 5)), (5, .int ((jStrays pi te ri K d) + (jPop ((jOpeners pi te d K) &&& ((ri d) ^^^ (-1)))))), (7, .int (jOpeners pi te d K)), (6, .int (nI d)), (0, .ref b), (1, .ref (ad 14)), (2, .ref (ad 17)), (3, .ref (ad 18)), (4, .ref (ad 19))]) hx hb dL_law_221 hl (k := 1) rfl (kc_inc k) (by decide) rfl (fun ls hl => ?_)
                      refine lv_goto (tgt := 123) hx hb dL_law_224 (by decide) ?_
                      refine ih_123 _ hlt_123 ?_
                      show lv_has _ 12 [(8, .int (nI (k + 1))), (5, .int ((jStrays pi te ri K d) + (jPop ((jOpeners pi te d K) &&& ((ri d) ^^^ (-1)))))), (7, .int (jOpeners pi te d K)), (6, .int (nI d)), (0, .ref b), (1, .ref (ad 14)), (2, .ref (ad 17)), (3, .ref (ad 18)), (4, .ref (ad 19))]
                      exact lv_sub hl [0, 2, 3, 4, 5, 6, 7, 8, 9] rfl
                    · refine lv_aload_n hx hb dL_law_174 rfl (lv_at hl 6 rfl) ?_
                      refine lv_iload hx hb dL_law_175 (lv_at hl 1 rfl) ?_
                      refine lv_iload hx hb dL_law_177 (lv_at hl 4 rfl) ?_
                      refine kc_rVi (As := [.int (nI k), .int (nI d)]) (rest := []) ⟨hx, hb, hml, hown, hts⟩ (c_X2_opens_ok l D ad cI cd te ri pi pw K Dn mv1 ko so tl lp lb ld le C cl dq dy k d (by first | assumption | omega) (by first | assumption | omega) (by first | assumption | omega) (by first | assumption | omega)) (cwV 2 hts gL_law_X2_opens rfl rfl rfl (by decide +kernel) ⟨Nat.le_of_ble_eq_true rfl, Nat.le_of_ble_eq_true rfl⟩) hK hP [0, 1, 2, 3, 4, 5, 6, 7, 8, 9, 10, 11, 12, 13, 14, 15, 16] [0] rfl rfl 14 rfl rfl rfl rfl hl.1 rfl (Nat.le_of_ble_eq_true rfl) dL_law_179 ⟨Nat.le_of_ble_eq_true rfl, Nat.le_of_ble_eq_true rfl⟩ ?_
                      refine kc_ifeqB (tgt := 215) hx hb dL_law_182 (by decide) (fun c_182 => ?_) (fun c_182 => ?_)
                      · refine lv_iinc (v := nI (q + 1)) (lv' := [(9, .int (nI (q + 1))), (8, .int (nI k)), (5, .int ((jStrays pi te ri K d) + (jPop ((jOpeners pi te d K) &&& ((ri d) ^^^ (-1)))))), (7, .int (jOpeners pi te d K)), (6, .int (nI d)), (0, .ref b), (1, .ref (ad 14)), (2, .ref (ad 17)), (3, .ref (ad 18)), (4, .ref (ad 19))]) hx hb dL_law_215 hl (k := 0) rfl (kc_inc q) (by decide) rfl (fun ls hl => ?_)
                        refine lv_goto (tgt := 168) hx hb dL_law_218 (by decide) ?_
                        refine ih_168 _ hlt_168 ?_
                        show lv_has _ 12 [(9, .int (nI (q + 1))), (8, .int (nI k)), (5, .int ((jStrays pi te ri K d) + (jPop ((jOpeners pi te d K) &&& ((ri d) ^^^ (-1)))))), (7, .int (jOpeners pi te d K)), (6, .int (nI d)), (0, .ref b), (1, .ref (ad 14)), (2, .ref (ad 17)), (3, .ref (ad 18)), (4, .ref (ad 19))]
                        exact lv_sub hl [0, 1, 2, 3, 4, 5, 6, 7, 8, 9] rfl
                      · refine lv_aload_n hx hb dL_law_185 rfl (lv_at hl 6 rfl) ?_
                        refine lv_iload hx hb dL_law_186 (lv_at hl 4 rfl) ?_
                        refine lv_iload hx hb dL_law_188 (lv_at hl 0 rfl) ?_
                        refine kc_rVi (As := [.int (nI d), .int (nI q)]) (rest := []) ⟨hx, hb, hml, hown, hts⟩ (c_X2_pins_ok l D ad cI cd te ri pi pw K Dn mv1 ko so tl lp lb ld le C cl dq dy d q (by first | assumption | omega) (by first | assumption | omega) (by first | assumption | omega)) (cwV 2 hts gL_law_X2_pins rfl rfl rfl (by decide +kernel) ⟨Nat.le_of_ble_eq_true rfl, Nat.le_of_ble_eq_true rfl⟩) hK hP [0, 1, 2, 3, 4, 5, 6, 7, 8, 9, 10, 11, 12, 13, 14, 15, 16] [0] rfl rfl 14 rfl rfl rfl rfl hl.1 rfl (Nat.le_of_ble_eq_true rfl) dL_law_190 ⟨Nat.le_of_ble_eq_true rfl, Nat.le_of_ble_eq_true rfl⟩ ?_
                        refine lv_aload_n hx hb dL_law_193 rfl (lv_at hl 7 rfl) ?_
                        refine lv_iload hx hb dL_law_194 (lv_at hl 1 rfl) ?_
                        refine kc_ald (i := k) (n := 8) hx hb hK hP 17 0 rfl rfl (by omega) (by decide) dL_law_196 ?_
                        refine lv_bipush (v := 8) hx hb dL_law_197 (by decide) ?_
                        refine lv_iconst (v := 2) hx hb dL_law_199 (by decide) ?_
                        refine lv_iload hx hb dL_law_200 (lv_at hl 0 rfl) ?_
                        refine lv_imul hx hb dL_law_202 ?_
                        refine lv_isub hx hb dL_law_203 ?_
                        refine lv_ishr hx hb dL_law_204 ?_
                        refine lv_iconst (v := 3) hx hb dL_law_205 (by decide) ?_
                        refine lv_iand hx hb dL_law_206 ?_
                        refine lv_ishr hx hb dL_law_207 ?_
                        refine lv_iconst (v := 1) hx hb dL_law_208 (by decide) ?_
                        refine lv_iand hx hb dL_law_209 ?_
                        refine lv_if_ne (tgt := 215) hx hb dL_law_210 (by decide) (fun c_210 => ?_) (fun c_210 => ?_)
                        · refine lv_iinc (v := nI (q + 1)) (lv' := [(9, .int (nI (q + 1))), (8, .int (nI k)), (5, .int ((jStrays pi te ri K d) + (jPop ((jOpeners pi te d K) &&& ((ri d) ^^^ (-1)))))), (7, .int (jOpeners pi te d K)), (6, .int (nI d)), (0, .ref b), (1, .ref (ad 14)), (2, .ref (ad 17)), (3, .ref (ad 18)), (4, .ref (ad 19))]) hx hb dL_law_215 hl (k := 0) rfl (kc_inc q) (by decide) rfl (fun ls hl => ?_)
                          refine lv_goto (tgt := 168) hx hb dL_law_218 (by decide) ?_
                          refine ih_168 _ hlt_168 ?_
                          show lv_has _ 12 [(9, .int (nI (q + 1))), (8, .int (nI k)), (5, .int ((jStrays pi te ri K d) + (jPop ((jOpeners pi te d K) &&& ((ri d) ^^^ (-1)))))), (7, .int (jOpeners pi te d K)), (6, .int (nI d)), (0, .ref b), (1, .ref (ad 14)), (2, .ref (ad 17)), (3, .ref (ad 18)), (4, .ref (ad 19))]
                          exact lv_sub hl [0, 1, 2, 3, 4, 5, 6, 7, 8, 9] rfl
                        · exact absurd c_210 (A_pin hK8 hbk.1 (hpi d hlt_46) hlt_123 hlt_168 c_182)
                  · exact lv_sub hl [0, 1, 2, 3, 4, 5, 6, 7, 8, 9] rfl
                · exact absurd (bI_f (fun q => c_152 ((A_doors hD8 hlt_46).mpr q))) c_160
              · refine lv_iconst (v := 1) hx hb dL_law_155 (by decide) ?_
                refine lv_goto (tgt := 160) hx hb dL_law_156 (by decide) ?_
                refine lv_icmp_eq (tgt := 165) hx hb dL_law_160 (by decide) (fun c_160 => ?_) (fun c_160 => ?_)
                · refine lv_iconst (v := 0) hx hb dL_law_165 (by decide) ?_
                  refine lv_istore (lv' := [(9, .int 0), (8, .int (nI k)), (5, .int ((jStrays pi te ri K d) + (jPop ((jOpeners pi te d K) &&& ((ri d) ^^^ (-1)))))), (7, .int (jOpeners pi te d K)), (6, .int (nI d)), (0, .ref b), (1, .ref (ad 14)), (2, .ref (ad 17)), (3, .ref (ad 18)), (4, .ref (ad 19))]) hx hb dL_law_166 hl (by decide) rfl (fun ls hl => ?_)
                  refine kc_forW (pc := 168) (N := 5) (P := fun q ls => lv_has ls 12 [(9, .int (nI q)), (8, .int (nI k)), (5, .int ((jStrays pi te ri K d) + (jPop ((jOpeners pi te d K) &&& ((ri d) ^^^ (-1)))))), (7, .int (jOpeners pi te d K)), (6, .int (nI d)), (0, .ref b), (1, .ref (ad 14)), (2, .ref (ad 17)), (3, .ref (ad 18)), (4, .ref (ad 19))]) (fun q ls hj_168 hp ih_168 => ?_) ls ?_
                  · have hl := hp
                    refine lv_iload hx hb dL_law_168 (lv_at hl 0 rfl) ?_
                    refine lv_iconst (v := 5) hx hb dL_law_170 (by decide) ?_
                    refine kc_tst (j := q) (N := 5) (tgt := 221) hx hb dL_law_171 (by decide) hj_168 (by omega) (fun hN => ?_) (fun hlt_168 => ?_)
                    · subst hN
                      refine lv_iinc (v := nI (k + 1)) (lv' := [(8, .int (nI (k + 1))), (9, .int (nI 5)), (5, .int ((jStrays pi te ri K d) + (jPop ((jOpeners pi te d K) &&& ((ri d) ^^^ (-1)))))), (7, .int (jOpeners pi te d K)), (6, .int (nI d)), (0, .ref b), (1, .ref (ad 14)), (2, .ref (ad 17)), (3, .ref (ad 18)), (4, .ref (ad 19))]) hx hb dL_law_221 hl (k := 1) rfl (kc_inc k) (by decide) rfl (fun ls hl => ?_)
                      refine lv_goto (tgt := 123) hx hb dL_law_224 (by decide) ?_
                      refine ih_123 _ hlt_123 ?_
                      show lv_has _ 12 [(8, .int (nI (k + 1))), (5, .int ((jStrays pi te ri K d) + (jPop ((jOpeners pi te d K) &&& ((ri d) ^^^ (-1)))))), (7, .int (jOpeners pi te d K)), (6, .int (nI d)), (0, .ref b), (1, .ref (ad 14)), (2, .ref (ad 17)), (3, .ref (ad 18)), (4, .ref (ad 19))]
                      exact lv_sub hl [0, 2, 3, 4, 5, 6, 7, 8, 9] rfl
                    · refine lv_aload_n hx hb dL_law_174 rfl (lv_at hl 6 rfl) ?_
                      refine lv_iload hx hb dL_law_175 (lv_at hl 1 rfl) ?_
                      refine lv_iload hx hb dL_law_177 (lv_at hl 4 rfl) ?_
                      refine kc_rVi (As := [.int (nI k), .int (nI d)]) (rest := []) ⟨hx, hb, hml, hown, hts⟩ (c_X2_opens_ok l D ad cI cd te ri pi pw K Dn mv1 ko so tl lp lb ld le C cl dq dy k d (by first | assumption | omega) (by first | assumption | omega) (by first | assumption | omega) (by first | assumption | omega)) (cwV 2 hts gL_law_X2_opens rfl rfl rfl (by decide +kernel) ⟨Nat.le_of_ble_eq_true rfl, Nat.le_of_ble_eq_true rfl⟩) hK hP [0, 1, 2, 3, 4, 5, 6, 7, 8, 9, 10, 11, 12, 13, 14, 15, 16] [0] rfl rfl 14 rfl rfl rfl rfl hl.1 rfl (Nat.le_of_ble_eq_true rfl) dL_law_179 ⟨Nat.le_of_ble_eq_true rfl, Nat.le_of_ble_eq_true rfl⟩ ?_
                      refine kc_ifeqB (tgt := 215) hx hb dL_law_182 (by decide) (fun c_182 => ?_) (fun c_182 => ?_)
                      · refine lv_iinc (v := nI (q + 1)) (lv' := [(9, .int (nI (q + 1))), (8, .int (nI k)), (5, .int ((jStrays pi te ri K d) + (jPop ((jOpeners pi te d K) &&& ((ri d) ^^^ (-1)))))), (7, .int (jOpeners pi te d K)), (6, .int (nI d)), (0, .ref b), (1, .ref (ad 14)), (2, .ref (ad 17)), (3, .ref (ad 18)), (4, .ref (ad 19))]) hx hb dL_law_215 hl (k := 0) rfl (kc_inc q) (by decide) rfl (fun ls hl => ?_)
                        refine lv_goto (tgt := 168) hx hb dL_law_218 (by decide) ?_
                        refine ih_168 _ hlt_168 ?_
                        show lv_has _ 12 [(9, .int (nI (q + 1))), (8, .int (nI k)), (5, .int ((jStrays pi te ri K d) + (jPop ((jOpeners pi te d K) &&& ((ri d) ^^^ (-1)))))), (7, .int (jOpeners pi te d K)), (6, .int (nI d)), (0, .ref b), (1, .ref (ad 14)), (2, .ref (ad 17)), (3, .ref (ad 18)), (4, .ref (ad 19))]
                        exact lv_sub hl [0, 1, 2, 3, 4, 5, 6, 7, 8, 9] rfl
                      · refine lv_aload_n hx hb dL_law_185 rfl (lv_at hl 6 rfl) ?_
                        refine lv_iload hx hb dL_law_186 (lv_at hl 4 rfl) ?_
                        refine lv_iload hx hb dL_law_188 (lv_at hl 0 rfl) ?_
                        refine kc_rVi (As := [.int (nI d), .int (nI q)]) (rest := []) ⟨hx, hb, hml, hown, hts⟩ (c_X2_pins_ok l D ad cI cd te ri pi pw K Dn mv1 ko so tl lp lb ld le C cl dq dy d q (by first | assumption | omega) (by first | assumption | omega) (by first | assumption | omega)) (cwV 2 hts gL_law_X2_pins rfl rfl rfl (by decide +kernel) ⟨Nat.le_of_ble_eq_true rfl, Nat.le_of_ble_eq_true rfl⟩) hK hP [0, 1, 2, 3, 4, 5, 6, 7, 8, 9, 10, 11, 12, 13, 14, 15, 16] [0] rfl rfl 14 rfl rfl rfl rfl hl.1 rfl (Nat.le_of_ble_eq_true rfl) dL_law_190 ⟨Nat.le_of_ble_eq_true rfl, Nat.le_of_ble_eq_true rfl⟩ ?_
                        refine lv_aload_n hx hb dL_law_193 rfl (lv_at hl 7 rfl) ?_
                        refine lv_iload hx hb dL_law_194 (lv_at hl 1 rfl) ?_
                        refine kc_ald (i := k) (n := 8) hx hb hK hP 17 0 rfl rfl (by omega) (by decide) dL_law_196 ?_
                        refine lv_bipush (v := 8) hx hb dL_law_197 (by decide) ?_
                        refine lv_iconst (v := 2) hx hb dL_law_199 (by decide) ?_
                        refine lv_iload hx hb dL_law_200 (lv_at hl 0 rfl) ?_
                        refine lv_imul hx hb dL_law_202 ?_
                        refine lv_isub hx hb dL_law_203 ?_
                        refine lv_ishr hx hb dL_law_204 ?_
                        refine lv_iconst (v := 3) hx hb dL_law_205 (by decide) ?_
                        refine lv_iand hx hb dL_law_206 ?_
                        refine lv_ishr hx hb dL_law_207 ?_
                        refine lv_iconst (v := 1) hx hb dL_law_208 (by decide) ?_
                        refine lv_iand hx hb dL_law_209 ?_
                        refine lv_if_ne (tgt := 215) hx hb dL_law_210 (by decide) (fun c_210 => ?_) (fun c_210 => ?_)
                        · refine lv_iinc (v := nI (q + 1)) (lv' := [(9, .int (nI (q + 1))), (8, .int (nI k)), (5, .int ((jStrays pi te ri K d) + (jPop ((jOpeners pi te d K) &&& ((ri d) ^^^ (-1)))))), (7, .int (jOpeners pi te d K)), (6, .int (nI d)), (0, .ref b), (1, .ref (ad 14)), (2, .ref (ad 17)), (3, .ref (ad 18)), (4, .ref (ad 19))]) hx hb dL_law_215 hl (k := 0) rfl (kc_inc q) (by decide) rfl (fun ls hl => ?_)
                          refine lv_goto (tgt := 168) hx hb dL_law_218 (by decide) ?_
                          refine ih_168 _ hlt_168 ?_
                          show lv_has _ 12 [(9, .int (nI (q + 1))), (8, .int (nI k)), (5, .int ((jStrays pi te ri K d) + (jPop ((jOpeners pi te d K) &&& ((ri d) ^^^ (-1)))))), (7, .int (jOpeners pi te d K)), (6, .int (nI d)), (0, .ref b), (1, .ref (ad 14)), (2, .ref (ad 17)), (3, .ref (ad 18)), (4, .ref (ad 19))]
                          exact lv_sub hl [0, 1, 2, 3, 4, 5, 6, 7, 8, 9] rfl
                        · exact absurd c_210 (A_pin hK8 hbk.1 (hpi d hlt_46) hlt_123 hlt_168 c_182)
                  · exact lv_sub hl [0, 1, 2, 3, 4, 5, 6, 7, 8, 9] rfl
                · exact absurd (bI_t ((A_doors hD8 hlt_46).mp c_152)) c_160
          · exact lv_sub hl [0, 1, 2, 3, 4, 5, 6, 7, 8] rfl
        refine lv_aload_n hx hb dL_law_89 rfl (lv_at hl 6 rfl) ?_
        refine lv_iload hx hb dL_law_90 (lv_at hl 1 rfl) ?_
        refine kc_ald (i := d) (n := 8) hx hb hK hP 18 0 rfl rfl (by omega) (by decide) dL_law_92 ?_
        refine lv_if_ne (tgt := 103) hx hb dL_law_93 (by decide) (fun c_93 => ?_) (fun c_93 => ?_)
        · exact J_103 _ (lv_sub hl [0, 1, 2, 3, 4, 5, 6, 7] rfl)
        · refine lv_iload hx hb dL_law_96 (lv_at hl 0 rfl) ?_
          refine lv_if_eq (tgt := 103) hx hb dL_law_98 (by decide) (fun c_98 => ?_) (fun c_98 => ?_)
          · exact J_103 _ (lv_sub hl [0, 1, 2, 3, 4, 5, 6, 7] rfl)
          · exact absurd (A_none hK8 hbk.1 (hpi d hlt_46) c_93) c_98
  · exact ⟨mv, hP, hD, hS, lv_sub hl [0, 1, 2, 3, 4, 5, 6] rfl, mOk_le hmv (by omega)⟩
