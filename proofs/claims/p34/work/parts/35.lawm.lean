abbrev wLw (ad : Nat → Nat) (cI : ClassId) (cd : Nat → Int32) (te : Nat → Int32) (ri : Nat → Int32) (pi : Nat → Int32) (pw : Nat → Int32) (K : Nat) (Dn : Nat) (mv : Int32) (ko : Nat → Int32) (so : Nat → Int32) (tl : Nat → Int32) (lp : Nat → Int32) (lb : Nat → Int32) (ld : Nat → Int32) (le : Nat → Int32) (C : Nat) (cl : Nat → Int32) (dq : Nat → Int32) (dy : Int32) (fc : Nat → Int32) (fr : Nat → Int32) (fn : Nat → Int32) : va_W := [(ad 0, .inr (1, [.ref (ad 1), .ref (ad 2), .ref (ad 3), .ref (ad 4), .ref (ad 5), .int (nI K), .int (nI Dn), .int mv])), (ad 1, .inl (cI, 8, .inl cd)), (ad 2, .inl (cI, 8, .inl te)), (ad 3, .inl (cI, 8, .inl ri)), (ad 4, .inl (cI, 8, .inl pi)), (ad 5, .inl (cI, 8, .inl pw)), (ad 6, .inr (0, [.ref (ad 7), .ref (ad 8), .ref (ad 9), .ref (ad 10), .ref (ad 11), .ref (ad 12), .ref (ad 13), .int (nI C)])), (ad 7, .inl (cI, 24, .inl ko)), (ad 8, .inl (cI, 24, .inl so)), (ad 9, .inl (cI, 24, .inl tl)), (ad 10, .inl (cI, 216, .inl lp)), (ad 11, .inl (cI, 216, .inl lb)), (ad 12, .inl (cI, 216, .inl ld)), (ad 13, .inl (cI, 216, .inl le)), (ad 14, .inr (2, [.ref (ad 0), .ref (ad 6), .ref (ad 15), .ref (ad 16), .int dy])), (ad 15, .inl (cI, 8, .inl cl)), (ad 16, .inl (cI, 8, .inl dq)), (ad 17, .inl (cI, 8, .inl fc)), (ad 18, .inl (cI, 8, .inl fr)), (ad 19, .inl (cI, 3, .inl fn))]
abbrev wCd (ad : Nat → Nat) (cI : ClassId) (fc : Nat → Int32) : va_W := [(ad 17, .inl (cI, 8, .inl fc))]
/-- the pins that the law itself works out -/
def jLP (cd : Nat → Int32) (r p : Int32) (n : Nat) : Int32 := fo (fun k t => if jHas r k then t ||| ((1 : Int32) <<< (((cd k >>> ((8 - 2 * p) &&& 31)) &&& 3) &&& 31)) else t) 0 n
def jLW (cd : Nat → Int32) (r mv : Int32) (n : Nat) : Int32 := fo (fun p t => t + jPop (jLP cd r (nI p) 8)) mv n
def jNew (cd : Nat → Int32) (c : Int32) (n : Nat) : Bool := fo (fun i b => b && !(decide (cd i = c))) true n
theorem jNew_s (cd : Nat → Int32) (c : Int32) (n : Nat) : jNew cd c (n + 1) = (jNew cd c n && !(decide (cd n = c))) := rfl
theorem nw_a {cd : Nat → Int32} {c : Int32} {n : Nat} (h : ¬ jNew cd c n = true) : bI (jNew cd c (n + 1)) = 0 := bI_f (fun q => h (by rw [jNew_s, Bool.and_eq_true] at q; exact q.1))
theorem nw_b {cd : Nat → Int32} {c : Int32} {n : Nat} (h : cd n = c) : bI (jNew cd c (n + 1)) = 0 := bI_f (fun q => by rw [jNew_s, Bool.and_eq_true, decide_eq_true h] at q; exact absurd q.2 (by decide))
theorem nw_c {cd : Nat → Int32} {c : Int32} {n : Nat} (h1 : jNew cd c n = true) (h : ¬ cd n = c) : bI (jNew cd c (n + 1)) = 1 := bI_t (by rw [jNew_s, h1, decide_eq_false h]; rfl)
theorem nw_iff {cd : Nat → Int32} {c : Int32} : ∀ n, jNew cd c n = true ↔ ¬ jTaken cd n c = true
  | 0 => ⟨fun _ => jAny_f (fun i h => absurd h (Nat.not_lt_zero i)), fun _ => rfl⟩
  | n + 1 => by
    rw [jNew_s, Bool.and_eq_true, nw_iff n]
    unfold jTaken
    rw [jAny_iff, jAny_iff]
    constructor
    · rintro ⟨h1, h2⟩ ⟨i, hi, h3⟩
      rcases Nat.lt_or_ge i n with q | q
      · exact h1 ⟨i, q, h3⟩
      · rw [show i = n by omega] at h3
        rw [h3] at h2
        exact absurd h2 (by decide)
    · intro h
      refine ⟨fun ⟨i, hi, h3⟩ => h ⟨i, by omega, h3⟩, ?_⟩
      cases hq : decide (cd n = c) with
      | false => rfl
      | true => exact absurd ⟨n, by omega, hq⟩ h
/-- codes are codes, and all another -/
def bK (cd te : Nat → Int32) (K : Nat) : Prop := okTe cd te K ∧ (∀ i, i < K → ∃ n, n < 1024 ∧ cd i = nI n) ∧ (∀ i j, i < K → j < K → cd i = cd j → i = j)
def bD (te ri pi : Nat → Int32) (K Dn : Nat) (mv : Int32) : Prop := (∀ i, i < Dn → ∃ r, r < 2 ^ K ∧ ri i = nI r) ∧ okPi te ri pi K Dn ∧ (∀ i, Dn ≤ i → i < 8 → pi i = 0) ∧ ∃ w, w ≤ 64 * Dn ∧ mv = nI w
abbrev bU : Type := (Nat → Int32) × (Nat → Int32) × (Nat → Int32) × (Nat → Int32) × Nat × Nat × Int32
def bOk (u : bU) : Prop := 0 < u.2.2.2.2.1 ∧ u.2.2.2.2.1 ≤ 5 ∧ u.2.2.2.2.2.1 ≤ 5 ∧ bK u.1 u.2.1 u.2.2.2.2.1 ∧ bD u.2.1 u.2.2.1 u.2.2.2.1 u.2.2.2.2.1 u.2.2.2.2.2.1 u.2.2.2.2.2.2
theorem bK_0 : bK (fun _ => 0) (fun _ => 0) 0 := ⟨fun _ h => absurd h (Nat.not_lt_zero _), fun _ h => absurd h (Nat.not_lt_zero _), fun _ _ h => absurd h (Nat.not_lt_zero _)⟩
theorem bK_add {cd te : Nat → Int32} {K n : Nat} (h : bK cd te K) (hn : n < 1024) (hq : jNew cd (nI n) K = true) : bK (upd cd K (nI n)) (upd te K (jTeeth (nI n) 5)) (K + 1) := by
  obtain ⟨h1, h2, h3⟩ := h
  have hne : ∀ i, i < K → ¬ cd i = nI n := fun i hi e => (nw_iff K).mp hq (jAny_t i hi (decide_eq_true e))
  refine ⟨fun k hk => ?_, fun i hi => ?_, fun i j hi hj e => ?_⟩
  · rcases Nat.lt_or_ge k K with q | q
    · rw [pk_un (by omega), pk_un (by omega)]; exact h1 k q
    · rw [show k = K by omega, pk_us, pk_us]
  · rcases Nat.lt_or_ge i K with q | q
    · rw [pk_un (by omega)]; exact h2 i q
    · rw [show i = K by omega, pk_us]; exact ⟨n, hn, rfl⟩
  · rcases Nat.lt_or_ge i K with q | q
    · rcases Nat.lt_or_ge j K with q2 | q2
      · rw [pk_un (by omega), pk_un (by omega)] at e; exact h3 i j q q2 e
      · rw [show j = K by omega, pk_us, pk_un (by omega)] at e
        exact absurd e (hne i q)
    · rcases Nat.lt_or_ge j K with q2 | q2
      · rw [show i = K by omega, pk_us, pk_un (by omega)] at e
        exact absurd e.symm (hne j q2)
      · omega
theorem bD_0 (te : Nat → Int32) (K : Nat) : bD te (fun _ => 0) (fun _ => 0) K 0 0 := ⟨fun _ h => absurd h (Nat.not_lt_zero _), fun _ h => absurd h (Nat.not_lt_zero _), fun _ _ _ => rfl, 0, by omega, rfl⟩
theorem bD_add {te ri pi : Nat → Int32} {K Dn : Nat} {mv : Int32} (h : bD te ri pi K Dn mv) (hD : Dn < 8) {r : Nat} (hr : r < 2 ^ K) : bD te (upd ri Dn (nI r)) (upd pi Dn (jPinsFor te (nI r) K)) K (Dn + 1) (mv + jPop (pi Dn ^^^ jPinsFor te (nI r) K)) := by
  obtain ⟨h1, h2, h3, w, h4, h5⟩ := h
  obtain ⟨c, hc, e⟩ := jPop_nI (pi Dn ^^^ jPinsFor te (nI r) K)
  refine ⟨fun i hi => ?_, fun d hd => ?_, fun i h7 h8 => ?_, w + c, by omega, by rw [e, h5, nI_add]⟩
  · rcases Nat.lt_or_ge i Dn with q | q
    · rw [pk_un (by omega)]; exact h1 i q
    · rw [show i = Dn by omega, pk_us]; exact ⟨r, hr, rfl⟩
  · rcases Nat.lt_or_ge d Dn with q | q
    · rw [pk_un (by omega), pk_un (by omega)]; exact h2 d q
    · rw [show d = Dn by omega, pk_us, pk_us]
  · rw [pk_un (by omega)]; exact h3 i (by omega) h8
/-- a set of the keys by its number -/
theorem set_of {K r : Nat} (hK : K ≤ 8) (hr : r < 2 ^ K) : jSetOf K (nI r) = true := by
  have h2 := kc_2lt hK
  rw [L_set hK]
  refine decide_eq_true ⟨nI_pos (by omega), ?_⟩
  rw [kc_sh hK]
  exact nI_ge hr h2
theorem and_lt {c n : Nat} (hc : c < n) (hn : n < 2 ^ 31) (y : Int32) : ∃ r, r < n ∧ nI c &&& y = nI r := by
  refine ⟨c &&& y.toBitVec.toNat, Nat.lt_of_le_of_lt Nat.and_le_left hc, ?_⟩
  rw [← nI_and, nI_nat]
theorem idx4 {a j : Nat} (hj : j < 2 ^ 31) : nI a + (nI j - nI j / 4 * 4) = nI (a + j % 4) := by
  rw [show (4 : Int32) = nI 4 from rfl, pk_rem hj (by decide) (by decide), nI_add]
/-- the pins that the law works out are those of the class -/
theorem LP_m {cd : Nat → Int32} {K r q : Nat} (hK : K ≤ 8) (hr : r < 2 ^ K) (hq : q < 5) : jLP cd (nI r) (nI q) 8 = mPins (fun _ => nI r) cd 0 (nI q) K := by
  have h2 : 2 ^ K < 2 ^ 31 := kc_2lt hK
  have hs : ∀ q, q < 5 → ((8 : Int32) - 2 * nI q) = 2 * (4 - nI q) := by decide +kernel
  refine b_ext (fun i hi => ?_)
  rw [Bool.eq_iff_iff, bt_mPins hK 0 q hi]
  unfold jLP
  rw [b_fo, b_0]
  constructor
  · rintro (h | ⟨k, hk, h1, h2'⟩)
    · exact absurd h (by decide)
    · have h1' := (bt_has (by omega)).mp h1
      have hk' : k < K := by
        rcases Nat.lt_or_ge k K with w | w
        · exact w
        · rw [bt_nI r (by omega), Nat.testBit_lt_two_pow (Nat.lt_of_lt_of_le hr (Nat.pow_le_pow_right (by decide) w))] at h1'
          exact absurd h1' (by decide)
      have hg := gD_lt (cd k) q
      rw [hs q hq, show ((cd k >>> ((2 * (4 - nI q)) &&& 31)) &&& 3) = mDigit (cd k) (nI q) from rfl, mDigit_g, b_sh1 (by omega) hi] at h2'
      exact ⟨k, hk', h1', (of_decide_eq_true h2').symm⟩
  · rintro ⟨k, hk, h1, h2'⟩
    have hg := gD_lt (cd k) q
    refine Or.inr ⟨k, by omega, (bt_has (by omega)).mpr h1, ?_⟩
    rw [hs q hq, show ((cd k >>> ((2 * (4 - nI q)) &&& 31)) &&& 3) = mDigit (cd k) (nI q) from rfl, mDigit_g, b_sh1 (by omega) hi]
    exact decide_eq_true h2'.symm
theorem LW_5 {cd te pi : Nat → Int32} {K d r : Nat} (hK : K ≤ 8) (ht : okTe cd te K) (hp : pi d = 0) (hr : r < 2 ^ K) (mv : Int32) : jLW cd (nI r) mv 5 = mv + jPop (pi d ^^^ jPinsFor te (nI r) K) := by
  obtain ⟨a0, a1, a2, a3, a4, h0, h1, h2, h3, h4, e, f0, f1, f2, f3, f4⟩ := L_enc (ri := fun _ => nI r) hK ht 0
  have e : jPinsFor te (nI r) K = nI (enc a0 a1 a2 a3 a4) := e
  rw [hp, x0, e, jPop_enc h0 h1 h2 h3 h4]
  show ((((mv + jPop (jLP cd (nI r) (nI 0) 8)) + jPop (jLP cd (nI r) (nI 1) 8)) + jPop (jLP cd (nI r) (nI 2) 8)) + jPop (jLP cd (nI r) (nI 3) 8)) + jPop (jLP cd (nI r) (nI 4) 8) = _
  rw [LP_m hK hr (by decide), LP_m hK hr (by decide), LP_m hK hr (by decide), LP_m hK hr (by decide), LP_m hK hr (by decide), f0, f1, f2, f3, f4, jPop_nib h0, jPop_nib h1, jPop_nib h2, jPop_nib h3, jPop_nib h4]
  rw [Int32.add_assoc, Int32.add_assoc, Int32.add_assoc, Int32.add_assoc, nI_add, nI_add, nI_add, nI_add]
  congr 2
  omega
set_option maxHeartbeats 4000000 in
set_option maxRecDepth 100000 in
theorem c_L_below (l : Launch) (v : Int32) (n : Int32) (hn : ¬ n = 0) : Met l yL_below wsL_below ({ frames := 0, cells := 0, slots := 0, locals := 0 } : Room) (stP [.int v, .int n]) (vp_Si (fun rZ => rZ = jBelow v n)) 0 0 (fun _ => False) := by
  refine Met.ofW (cc := cL_below) (maxL := 2) (ret := (some .int)) (by decide) rfl ?_
  intro p e s m args below meth c s₁ B hml hv
  obtain ⟨rfl, -⟩ := hv
  have hx := B.exec
  have hb := B.bytes
  have hr := B.returns
  have hts := atoms_spec (ws := wsL_below) B.pre
  have hown : s.vm.findClass RL = some m.cls := findClass_of_methodNamed B.named
  have hlocks := B.notSynchronized
  have hS : va_S (fun _ => False) s.heap s.heap [] := va_S.rf
  have hl := lv_entry ([.int v, .int n]) (n := 2) (Nat.le_of_ble_eq_true rfl)
  rw [lg_entry_eq]
  generalize (lg_sl ([.int v, .int n]) ++ List.replicate (2 - (lg_sl ([.int v, .int n])).length) Slot.unset).toArray = ls at hl ⊢
  have hl : lv_has ls 2 [(0, .int v), (1, .int n)] := hl
  refine lv_iload_n hx hb dL_below_0 rfl (lv_at hl 0 rfl) ?_
  refine lv_ldc (v := 2147483647) hx hb hown (hts (.constant RL 7 (2147483647)) (by decide +kernel)) dL_below_1 ?_
  refine lv_iand hx hb dL_below_3 ?_
  refine lv_iload_n hx hb dL_below_4 rfl (lv_at hl 1 rfl) ?_
  refine lv_irem hx hb dL_below_5 hn ?_
  exact W.iret (v := (v &&& 2147483647) - (v &&& 2147483647) / n * n) hx hb hr (fun tZ htZ hWZ => ⟨_, rfl, rfl, htZ⟩) hS.2.2 dL_below_6
set_option maxHeartbeats 4000000 in
set_option maxRecDepth 100000 in
theorem c_L_cell (l : Launch) (b L : Nat) (xs : Nat → Int32) (k : Nat) (hL31 : L < 2 ^ 31) (hk : k < 2 ^ 31) : Met l yL_cell wsL_cell ({ frames := 0, cells := 0, slots := 0, locals := 0 } : Room) (scP [.ref b, .int (nI k)] b L xs) (vp_Si (fun rZ => rZ = jCell xs L k)) 0 0 (fun _ => False) := by
  refine Met.ofW (cc := cL_cell) (maxL := 2) (ret := (some .int)) (by decide) rfl ?_
  intro p e s m args below meth c s₁ B hml hv
  obtain ⟨rfl, hXs⟩ := hv
  have hx := B.exec
  have hb := B.bytes
  have hr := B.returns
  have hts := atoms_spec (ws := wsL_cell) B.pre
  have hown : s.vm.findClass RL = some m.cls := findClass_of_methodNamed B.named
  have hlocks := B.notSynchronized
  have hbl : b < s.heap.size := by
    obtain ⟨scr, h1, -⟩ := hXs
    exact (Array.getElem?_eq_some_iff.mp h1).1
  have hbA : ¬ (fun _ : Nat => False) b := fun h => h
  have hS : va_S (fun _ => False) s.heap s.heap [] := va_S.rf
  have hl := lv_entry ([.ref b, .int (nI k)]) (n := 2) (Nat.le_of_ble_eq_true rfl)
  rw [lg_entry_eq]
  generalize (lg_sl ([.ref b, .int (nI k)]) ++ List.replicate (2 - (lg_sl ([.ref b, .int (nI k)])).length) Slot.unset).toArray = ls at hl ⊢
  have hl : lv_has ls 2 [(0, .ref b), (1, .int (nI k))] := hl
  refine lv_iload_n hx hb dL_cell_0 rfl (lv_at hl 1 rfl) ?_
  refine lv_aload_n hx hb dL_cell_1 rfl (lv_at hl 0 rfl) ?_
  refine va_slen hx hb hXs hbl hbA hS dL_cell_2 ?_
  refine kc_top (show Int32.ofNat L = nI L from rfl) ?_
  refine lv_icmp_ge (tgt := 12) hx hb dL_cell_3 (by decide) (fun c_3 => ?_) (fun c_3 => ?_)
  · refine lv_ldc (v := 790386105) hx hb hown (hts (.constant RL 8 (790386105)) (by decide +kernel)) dL_cell_12 ?_
    refine lv_iload_n hx hb dL_cell_14 rfl (lv_at hl 1 rfl) ?_
    refine lv_iconst (v := 3) hx hb dL_cell_15 (by decide) ?_
    refine lv_iadd hx hb dL_cell_16 ?_
    refine kc_top (show (nI k) + 3 = nI (k + 3) from nI_add _ _) ?_
    refine lv_imul hx hb dL_cell_17 ?_
    exact W.iret (v := 790386105 * (nI (k + 3))) hx hb hr (fun tZ htZ hWZ => ⟨_, rfl, (by rw [jCell, if_neg (by have := (nI_leI hL31 hk).mp c_3; omega)]), htZ⟩) hS.2.2 dL_cell_18
  · refine lv_aload_n hx hb dL_cell_6 rfl (lv_at hl 0 rfl) ?_
    refine lv_iload_n hx hb dL_cell_7 rfl (lv_at hl 1 rfl) ?_
    refine kc_sld (i := k) hx hb hXs hbl hbA hS (by rcases Nat.lt_or_ge k L with q | q; exact q; exact absurd (nI_le q hk) c_3) hL31 dL_cell_8 ?_
    refine lv_goto (tgt := 18) hx hb dL_cell_9 (by decide) ?_
    exact W.iret (v := xs k) hx hb hr (fun tZ htZ hWZ => ⟨_, rfl, (by rw [jCell, if_pos (by rcases Nat.lt_or_ge k L with q | q; exact q; exact absurd (nI_le q hk) c_3)]), htZ⟩) hS.2.2 dL_cell_18
set_option maxHeartbeats 4000000 in
set_option maxRecDepth 100000 in
theorem c_L_pins (l : Launch) (D : va_G) (ad : Nat → Nat) (cI : ClassId) (fc : Nat → Int32) (r : Int32) (q : Int32)  : Met l yL_pins wsL_pins ({ frames := 0, cells := 0, slots := 0, locals := 0 } : Room) (rdP [.int r, .int q, .ref (ad 17)] D (wCd ad cI fc) [(cI, .int)]) (vp_Si (fun rZ => rZ = jLP fc r q 8)) 0 0 (fun _ => False) := by
  refine Met.ofW (cc := cL_pins) (maxL := 5) (ret := (some .int)) (by decide) rfl ?_
  intro p e s m args below meth c s₁ B hml hv
  obtain ⟨rfl, hP, hK⟩ := hv
  have hx := B.exec
  have hb := B.bytes
  have hr := B.returns
  have hts := atoms_spec (ws := wsL_pins) B.pre
  have hown : s.vm.findClass RL = some m.cls := findClass_of_methodNamed B.named
  have hlocks := B.notSynchronized
  have hS : va_S (fun _ => False) s.heap s.heap [] := va_S.rf
  have hl := lv_entry ([.int r, .int q, .ref (ad 17)]) (n := 5) (Nat.le_of_ble_eq_true rfl)
  rw [lg_entry_eq]
  generalize (lg_sl ([.int r, .int q, .ref (ad 17)]) ++ List.replicate (5 - (lg_sl ([.int r, .int q, .ref (ad 17)])).length) Slot.unset).toArray = ls at hl ⊢
  have hl : lv_has ls 5 [(0, .int r), (1, .int q), (2, .ref (ad 17))] := hl
  refine lv_iconst (v := 0) hx hb dL_pins_0 (by decide) ?_
  refine lv_istore_n (lv' := [(3, .int 0), (0, .int r), (1, .int q), (2, .ref (ad 17))]) hx hb dL_pins_1 rfl hl (by decide) rfl (fun ls hl => ?_)
  refine lv_iconst (v := 0) hx hb dL_pins_2 (by decide) ?_
  refine lv_istore (lv' := [(4, .int 0), (3, .int 0), (0, .int r), (1, .int q), (2, .ref (ad 17))]) hx hb dL_pins_3 hl (by decide) rfl (fun ls hl => ?_)
  refine kc_forW (pc := 5) (N := 8) (P := fun j ls => lv_has ls 5 [(4, .int (nI j)), (3, .int (jLP fc r q j)), (0, .int r), (1, .int q), (2, .ref (ad 17))]) (fun j ls hj_5 hp ih_5 => ?_) ls ?_
  · have hl := hp
    refine lv_iload hx hb dL_pins_5 (lv_at hl 0 rfl) ?_
    refine lv_bipush (v := 8) hx hb dL_pins_7 (by decide) ?_
    refine kc_tst (j := j) (N := 8) (tgt := 46) hx hb dL_pins_9 (by decide) hj_5 (by omega) (fun hN => ?_) (fun hlt_5 => ?_)
    · subst hN
      refine lv_iload_n hx hb dL_pins_46 rfl (lv_at hl 1 rfl) ?_
      exact W.iret (v := jLP fc r q 8) hx hb hr (fun tZ htZ hWZ => ⟨_, rfl, rfl, htZ⟩) hS.2.2 dL_pins_47
    · refine lv_iload_n hx hb dL_pins_12 rfl (lv_at hl 2 rfl) ?_
      refine lv_iload hx hb dL_pins_13 (lv_at hl 0 rfl) ?_
      refine lv_ishr hx hb dL_pins_15 ?_
      refine lv_iconst (v := 1) hx hb dL_pins_16 (by decide) ?_
      refine lv_iand hx hb dL_pins_17 ?_
      refine lv_iconst (v := 1) hx hb dL_pins_18 (by decide) ?_
      refine lv_icmp_ne (tgt := 40) hx hb dL_pins_19 (by decide) (fun c_19 => ?_) (fun c_19 => ?_)
      · refine lv_iinc (v := nI (j + 1)) (lv' := [(4, .int (nI (j + 1))), (3, .int (jLP fc r q j)), (0, .int r), (1, .int q), (2, .ref (ad 17))]) hx hb dL_pins_40 hl (k := 0) rfl (kc_inc j) (by decide) rfl (fun ls hl => ?_)
        refine lv_goto (tgt := 5) hx hb dL_pins_43 (by decide) ?_
        refine ih_5 _ hlt_5 ?_
        have eq_3 : jLP fc r q (j + 1) = jLP fc r q j := by simp only [jLP, fo_s, if_neg c_19]
        show lv_has _ 5 [(4, .int (nI (j + 1))), (3, .int (jLP fc r q (j + 1))), (0, .int r), (1, .int q), (2, .ref (ad 17))]
        rw [eq_3]
        exact lv_sub hl [0, 1, 2, 3, 4] rfl
      · refine lv_iload_n hx hb dL_pins_22 rfl (lv_at hl 1 rfl) ?_
        refine lv_iconst (v := 1) hx hb dL_pins_23 (by decide) ?_
        refine lv_aload_n hx hb dL_pins_24 rfl (lv_at hl 4 rfl) ?_
        refine lv_iload hx hb dL_pins_25 (lv_at hl 0 rfl) ?_
        refine kc_ald (i := j) (n := 8) hx hb hK hP 0 0 rfl rfl (by omega) (by decide) dL_pins_27 ?_
        refine lv_bipush (v := 8) hx hb dL_pins_28 (by decide) ?_
        refine lv_iconst (v := 2) hx hb dL_pins_30 (by decide) ?_
        refine lv_iload_n hx hb dL_pins_31 rfl (lv_at hl 3 rfl) ?_
        refine lv_imul hx hb dL_pins_32 ?_
        refine lv_isub hx hb dL_pins_33 ?_
        refine lv_ishr hx hb dL_pins_34 ?_
        refine lv_iconst (v := 3) hx hb dL_pins_35 (by decide) ?_
        refine lv_iand hx hb dL_pins_36 ?_
        refine lv_ishl hx hb dL_pins_37 ?_
        refine lv_ior hx hb dL_pins_38 ?_
        refine lv_istore_n (lv' := [(3, .int ((jLP fc r q j) ||| (1 <<< ((((fc j) >>> ((8 - (2 * q)) &&& 31)) &&& 3) &&& 31)))), (4, .int (nI j)), (0, .int r), (1, .int q), (2, .ref (ad 17))]) hx hb dL_pins_39 rfl hl (by decide) rfl (fun ls hl => ?_)
        refine lv_iinc (v := nI (j + 1)) (lv' := [(4, .int (nI (j + 1))), (3, .int ((jLP fc r q j) ||| (1 <<< ((((fc j) >>> ((8 - (2 * q)) &&& 31)) &&& 3) &&& 31)))), (0, .int r), (1, .int q), (2, .ref (ad 17))]) hx hb dL_pins_40 hl (k := 1) rfl (kc_inc j) (by decide) rfl (fun ls hl => ?_)
        refine lv_goto (tgt := 5) hx hb dL_pins_43 (by decide) ?_
        refine ih_5 _ hlt_5 ?_
        have eq_3 : jLP fc r q (j + 1) = (jLP fc r q j) ||| (1 <<< ((((fc j) >>> ((8 - (2 * q)) &&& 31)) &&& 3) &&& 31)) := by simp only [jLP, fo_s, if_pos c_19]
        show lv_has _ 5 [(4, .int (nI (j + 1))), (3, .int (jLP fc r q (j + 1))), (0, .int r), (1, .int q), (2, .ref (ad 17))]
        rw [eq_3]
        exact lv_sub hl [0, 1, 2, 3, 4] rfl
  · exact lv_sub hl [0, 1, 2, 3, 4] rfl
set_option maxHeartbeats 8000000 in
set_option maxRecDepth 100000 in
theorem c_L_build (l : Launch) (D : va_G) (ad : Nat → Nat) (cI : ClassId) (pw : Nat → Int32) (ko : Nat → Int32) (so : Nat → Int32) (tl : Nat → Int32) (lp : Nat → Int32) (lb : Nat → Int32) (ld : Nat → Int32) (le : Nat → Int32) (C : Nat) (cl : Nat → Int32) (dq : Nat → Int32) (dy : Int32) (b L : Nat) (xs : Nat → Int32) (sz : Nat) (hL31 : L < 2 ^ 31) : Met l yL_build wsL_build ({ frames := 5, cells := 0, slots := 0, locals := 110 } : Room) (wsP [.ref (ad 14), .ref b, .int 0, .int 5, .int 5, .ref (ad 17), .ref (ad 18), .ref (ad 19)] D sz (wLw ad cI (fun _ => 0) (fun _ => 0) (fun _ => 0) (fun _ => 0) pw 0 0 0 ko so tl lp lb ld le C cl dq dy (fun _ => 0) (fun _ => 0) (fun _ => 0)) [(cI, .int)] b L xs) (va_Qi (fun rZ (u : bU) => rZ = 1 ∧ bOk u) (fun u => wrB D sz (wLw ad cI (fun _ => 0) (fun _ => 0) (fun _ => 0) (fun _ => 0) pw 0 0 0 ko so tl lp lb ld le C cl dq dy (fun _ => 0) (fun _ => 0) (fun _ => 0)) (wLw ad cI u.1 u.2.1 u.2.2.1 u.2.2.2.1 pw u.2.2.2.2.1 u.2.2.2.2.2.1 u.2.2.2.2.2.2 ko so tl lp lb ld le C cl dq dy u.1 u.2.2.1 (cnF (nI u.2.2.2.2.1) (nI u.2.2.2.2.2.1) u.2.2.2.2.2.2)) ()) (va_A (wLw ad cI (fun _ => 0) (fun _ => 0) (fun _ => 0) (fun _ => 0) pw 0 0 0 ko so tl lp lb ld le C cl dq dy (fun _ => 0) (fun _ => 0) (fun _ => 0)) sz)) 0 0 (va_A (wLw ad cI (fun _ => 0) (fun _ => 0) (fun _ => 0) (fun _ => 0) pw 0 0 0 ko so tl lp lb ld le C cl dq dy (fun _ => 0) (fun _ => 0) (fun _ => 0)) sz) := by
  refine Met.ofW (cc := cL_build) (maxL := 13) (ret := (some .boolean)) (by decide) rfl ?_
  intro p e s m args below meth c s₁ B hml hv
  obtain ⟨rfl, hsz, hP, hD0, hK, hXs, hbl, hbA⟩ := hv
  have hx := B.exec
  have hb := B.bytes
  have hr := B.returns
  have hts := atoms_spec (ws := wsL_build) B.pre
  have hown : s.vm.findClass RL = some m.cls := findClass_of_methodNamed B.named
  have hlocks := B.notSynchronized
  subst hsz
  have hD := hD0.self (sz := s.heap.size)
  generalize hAe : va_A (wLw ad cI (fun _ => 0) (fun _ => 0) (fun _ => 0) (fun _ => 0) pw 0 0 0 ko so tl lp lb ld le C cl dq dy (fun _ => 0) (fun _ => 0) (fun _ => 0)) s.heap.size = A at hD hbA ⊢
  have hA : ∀ q : Nat, s.heap.size ≤ q → A q := fun q h => by rw [← hAe]; exact Or.inr h
  have hl := lv_entry ([.ref (ad 14), .ref b, .int 0, .int 5, .int 5, .ref (ad 17), .ref (ad 18), .ref (ad 19)]) (n := 13) (Nat.le_of_ble_eq_true rfl)
  rw [lg_entry_eq]
  generalize (lg_sl ([.ref (ad 14), .ref b, .int 0, .int 5, .int 5, .ref (ad 17), .ref (ad 18), .ref (ad 19)]) ++ List.replicate (13 - (lg_sl ([.ref (ad 14), .ref b, .int 0, .int 5, .int 5, .ref (ad 17), .ref (ad 18), .ref (ad 19)])).length) Slot.unset).toArray = ls at hl ⊢
  have hl : lv_has ls 13 [(0, .ref (ad 14)), (1, .ref b), (2, .int 0), (3, .int 5), (4, .int 5), (5, .ref (ad 17)), (6, .ref (ad 18)), (7, .ref (ad 19))] := hl
  refine W.genH (fun H locs eH eL => ?_)
  have hS : va_S A s.heap H locs := by rw [eH, eL]; exact va_S.rf
  have hP : va_P D vwCl (wLw ad cI (fun _ => 0) (fun _ => 0) (fun _ => 0) (fun _ => 0) pw 0 0 0 ko so tl lp lb ld le C cl dq dy (fun _ => 0) (fun _ => 0) (fun _ => 0)) H := by rw [eH]; exact hP
  clear eH eL
  refine lv_iconst (v := 1) hx hb dL_build_0 (by decide) ?_
  refine lv_aload_n hx hb dL_build_1 rfl (lv_at hl 1 rfl) ?_
  refine lv_iload_n hx hb dL_build_2 rfl (lv_at hl 2 rfl) ?_
  refine kc_rXi (As := [.ref b, .int 0]) (rest := [.int 1]) ⟨hx, hb, hml, hown, hts⟩ (c_L_cell l b L xs 0 hL31 (by omega)) (va_cwS 2 hts gL_build_L_cell rfl rfl rfl (by decide +kernel) ⟨Nat.le_of_ble_eq_true rfl, Nat.le_of_ble_eq_true rfl⟩) hXs hbl hbA hS rfl hl.1 rfl (Nat.le_of_ble_eq_true rfl) dL_build_3 ⟨Nat.le_of_ble_eq_true rfl, Nat.le_of_ble_eq_true rfl⟩ ?_
  refine lv_iload_n hx hb dL_build_6 rfl (lv_at hl 3 rfl) ?_
  refine kc_rSi (As := [.int (jCell xs L 0), .int 5]) (rest := [.int 1]) ⟨hx, hb, hml, hown, hts⟩ (c_L_below l (jCell xs L 0) 5 (by decide)) (va_cwS 2 hts gL_build_L_below rfl rfl rfl (by decide +kernel) ⟨Nat.le_of_ble_eq_true rfl, Nat.le_of_ble_eq_true rfl⟩) rfl hl.1 rfl (Nat.le_of_ble_eq_true rfl) dL_build_7 ⟨Nat.le_of_ble_eq_true rfl, Nat.le_of_ble_eq_true rfl⟩ ?_
  obtain ⟨r0, hr0, er0⟩ := below_n (jCell xs L 0) (n := 5) (by omega) (by omega)
  refine kc_top (show jBelow (jCell xs L 0) 5 = nI r0 from er0) ?_
  refine lv_iadd hx hb dL_build_10 ?_
  refine kc_top (show 1 + (nI r0) = nI (1 + r0) from nI_add 1 r0) ?_
  refine lv_istore (lv' := [(8, .int (nI (1 + r0))), (0, .ref (ad 14)), (1, .ref b), (2, .int 0), (3, .int 5), (4, .int 5), (5, .ref (ad 17)), (6, .ref (ad 18)), (7, .ref (ad 19))]) hx hb dL_build_11 hl (by decide) rfl (fun ls hl => ?_)
  have eqw_fn : cnF (nI 0) 0 0 = (fun _ => 0) := cnF_00
  have hP : va_P D vwCl (wLw ad cI (fun _ => 0) (fun _ => 0) (fun _ => 0) (fun _ => 0) pw 0 0 0 ko so tl lp lb ld le C cl dq dy (fun _ => 0) (fun _ => 0) (cnF (nI 0) 0 0)) H := by rw [eqw_fn]; exact hP
  have hD : va_D A (wLw ad cI (fun _ => 0) (fun _ => 0) (fun _ => 0) (fun _ => 0) pw 0 0 0 ko so tl lp lb ld le C cl dq dy (fun _ => 0) (fun _ => 0) (cnF (nI 0) 0 0)) := by rw [eqw_fn]; exact hD
  refine lv_iconst (v := 0) hx hb dL_build_13 (by decide) ?_
  refine lv_istore (lv' := [(9, .int 0), (8, .int (nI (1 + r0))), (0, .ref (ad 14)), (1, .ref b), (2, .int 0), (3, .int 5), (4, .int 5), (5, .ref (ad 17)), (6, .ref (ad 18)), (7, .ref (ad 19))]) hx hb dL_build_14 hl (by decide) rfl (fun ls hl => ?_)
  refine kc_forHW (pc := 16) (N := (1 + r0)) (P := fun j H locs ls => ∃ (cd : Nat → Int32) (te : Nat → Int32) (K : Nat), va_P D vwCl (wLw ad cI cd te (fun _ => 0) (fun _ => 0) pw K 0 0 ko so tl lp lb ld le C cl dq dy cd (fun _ => 0) (cnF (nI K) 0 0)) H ∧ va_D A (wLw ad cI cd te (fun _ => 0) (fun _ => 0) pw K 0 0 ko so tl lp lb ld le C cl dq dy cd (fun _ => 0) (cnF (nI K) 0 0)) ∧ va_S A s.heap H locs ∧ lv_has ls 13 [(9, .int (nI j)), (8, .int (nI (1 + r0))), (0, .ref (ad 14)), (1, .ref b), (2, .int 0), (3, .int 5), (4, .int 5), (5, .ref (ad 17)), (6, .ref (ad 18)), (7, .ref (ad 19))] ∧ (bK cd te K ∧ K ≤ j ∧ (0 < j → 0 < K))) (fun j H locs ls hj_16 hp ih_16 => ?_) H locs ls ?_
  · obtain ⟨cd, te, K, hP, hD, hS, hl, he_16⟩ := hp
    obtain ⟨hbk, hKj, hj0⟩ := he_16
    refine lv_iload hx hb dL_build_16 (lv_at hl 0 rfl) ?_
    refine lv_iload hx hb dL_build_18 (lv_at hl 1 rfl) ?_
    refine kc_tst (j := j) (N := (1 + r0)) (tgt := 171) hx hb dL_build_20 (by decide) hj_16 (by omega) (fun hN => ?_) (fun hlt_16 => ?_)
    · subst hN
      refine lv_aload hx hb dL_build_171 (lv_at hl 9 rfl) ?_
      refine lv_iconst (v := 1) hx hb dL_build_173 (by decide) ?_
      refine lv_aload_n hx hb dL_build_174 rfl (lv_at hl 3 rfl) ?_
      refine lv_iload_n hx hb dL_build_175 rfl (lv_at hl 4 rfl) ?_
      refine kc_rXi (As := [.ref b, .int 0]) (rest := [.int 1, .ref (ad 19)]) ⟨hx, hb, hml, hown, hts⟩ (c_L_cell l b L xs 0 hL31 (by omega)) (va_cwS 2 hts gL_build_L_cell rfl rfl rfl (by decide +kernel) ⟨Nat.le_of_ble_eq_true rfl, Nat.le_of_ble_eq_true rfl⟩) hXs hbl hbA hS rfl hl.1 rfl (Nat.le_of_ble_eq_true rfl) dL_build_176 ⟨Nat.le_of_ble_eq_true rfl, Nat.le_of_ble_eq_true rfl⟩ ?_
      refine lv_bipush (v := 8) hx hb dL_build_179 (by decide) ?_
      refine lv_ishr hx hb dL_build_181 ?_
      refine lv_iload hx hb dL_build_182 (lv_at hl 6 rfl) ?_
      refine lv_iconst (v := 1) hx hb dL_build_184 (by decide) ?_
      refine lv_iadd hx hb dL_build_185 ?_
      refine kc_top (show 5 + 1 = 6 from (by decide)) ?_
      refine kc_rSi (As := [.int ((jCell xs L 0) >>> (8 &&& 31)), .int 6]) (rest := [.int 1, .ref (ad 19)]) ⟨hx, hb, hml, hown, hts⟩ (c_L_below l ((jCell xs L 0) >>> (8 &&& 31)) 6 (by decide)) (va_cwS 2 hts gL_build_L_below rfl rfl rfl (by decide +kernel) ⟨Nat.le_of_ble_eq_true rfl, Nat.le_of_ble_eq_true rfl⟩) rfl hl.1 rfl (Nat.le_of_ble_eq_true rfl) dL_build_186 ⟨Nat.le_of_ble_eq_true rfl, Nat.le_of_ble_eq_true rfl⟩ ?_
      obtain ⟨r3, hr3, er3⟩ := below_n ((jCell xs L 0) >>> (8 &&& 31)) (n := 6) (by omega) (by omega)
      refine kc_top (show jBelow ((jCell xs L 0) >>> (8 &&& 31)) 6 = nI r3 from er3) ?_
      refine kc_ast (i := 1) (n := 3) hx hb hK hP hD hS 19 0 rfl rfl (by omega) (by decide) dL_build_189 (fun H locs hP hD hS => ?_)
      have hP : va_P D vwCl (wLw ad cI cd te (fun _ => 0) (fun _ => 0) pw K 0 0 ko so tl lp lb ld le C cl dq dy cd (fun _ => 0) (upd (cnF (nI K) 0 0) 1 (nI r3))) H := hP
      have hD : va_D A (wLw ad cI cd te (fun _ => 0) (fun _ => 0) pw K 0 0 ko so tl lp lb ld le C cl dq dy cd (fun _ => 0) (upd (cnF (nI K) 0 0) 1 (nI r3))) := hD
      have eqw_fn : cnF (nI K) (nI r3) 0 = upd (cnF (nI K) 0 0) 1 (nI r3) := cnF_s1 _ _ _ _
      have hP : va_P D vwCl (wLw ad cI cd te (fun _ => 0) (fun _ => 0) pw K 0 0 ko so tl lp lb ld le C cl dq dy cd (fun _ => 0) (cnF (nI K) (nI r3) 0)) H := by rw [eqw_fn]; exact hP
      have hD : va_D A (wLw ad cI cd te (fun _ => 0) (fun _ => 0) pw K 0 0 ko so tl lp lb ld le C cl dq dy cd (fun _ => 0) (cnF (nI K) (nI r3) 0)) := by rw [eqw_fn]; exact hD
      have hK8 : K ≤ 8 := by omega
      have hK0 : 0 < K := hj0 (by omega)
      have hK5 : K ≤ 5 := by omega
      refine lv_iconst (v := 0) hx hb dL_build_190 (by decide) ?_
      refine lv_istore (lv' := [(9, .int 0), (8, .int (nI (1 + r0))), (0, .ref (ad 14)), (1, .ref b), (2, .int 0), (3, .int 5), (4, .int 5), (5, .ref (ad 17)), (6, .ref (ad 18)), (7, .ref (ad 19))]) hx hb dL_build_191 hl (by decide) rfl (fun ls hl => ?_)
      refine kc_forHW (pc := 193) (N := r3) (P := fun d H locs ls => ∃ (ri : Nat → Int32) (pi : Nat → Int32) (mv : Int32), va_P D vwCl (wLw ad cI cd te ri pi pw K d mv ko so tl lp lb ld le C cl dq dy cd ri (cnF (nI K) (nI r3) mv)) H ∧ va_D A (wLw ad cI cd te ri pi pw K d mv ko so tl lp lb ld le C cl dq dy cd ri (cnF (nI K) (nI r3) mv)) ∧ va_S A s.heap H locs ∧ lv_has ls 13 [(9, .int (nI d)), (0, .ref (ad 14)), (1, .ref b), (2, .int 0), (3, .int 5), (4, .int 5), (5, .ref (ad 17)), (6, .ref (ad 18)), (7, .ref (ad 19))] ∧ bD te ri pi K d mv) (fun d H locs ls hj_193 hp ih_193 => ?_) H locs ls ?_
      · obtain ⟨ri, pi, mv, hP, hD, hS, hl, he_193⟩ := hp
        refine lv_iload hx hb dL_build_193 (lv_at hl 0 rfl) ?_
        refine lv_aload hx hb dL_build_195 (lv_at hl 8 rfl) ?_
        refine lv_iconst (v := 1) hx hb dL_build_197 (by decide) ?_
        refine kc_ald (i := 1) (n := 3) hx hb hK hP 19 0 rfl rfl (by omega) (by decide) dL_build_198 ?_
        refine kc_top (show (cnF (nI K) (nI r3) mv) 1 = nI r3 from rfl) ?_
        refine kc_tst (j := d) (N := r3) (tgt := 342) hx hb dL_build_199 (by decide) hj_193 (by omega) (fun hN => ?_) (fun hlt_193 => ?_)
        · subst hN
          refine lv_aload_n hx hb dL_build_342 rfl (lv_at hl 1 rfl) ?_
          refine kc_rVi (As := []) (rest := []) ⟨hx, hb, hml, hown, hts⟩ (c_X2_keyCount l D ad cI cd te ri pi pw K r3 mv ko so tl lp lb ld le C cl dq dy ) (cwV 0 hts gL_build_X2_keyCount rfl rfl rfl (by decide +kernel) ⟨Nat.le_of_ble_eq_true rfl, Nat.le_of_ble_eq_true rfl⟩) hK hP [0, 1, 2, 3, 4, 5, 6, 7, 8, 9, 10, 11, 12, 13, 14, 15, 16] [0] rfl rfl 14 rfl rfl rfl rfl hl.1 rfl (Nat.le_of_ble_eq_true rfl) dL_build_343 ⟨Nat.le_of_ble_eq_true rfl, Nat.le_of_ble_eq_true rfl⟩ ?_
          refine lv_aload hx hb dL_build_346 (lv_at hl 8 rfl) ?_
          refine lv_iconst (v := 0) hx hb dL_build_348 (by decide) ?_
          refine kc_ald (i := 0) (n := 3) hx hb hK hP 19 0 rfl rfl (by omega) (by decide) dL_build_349 ?_
          refine kc_top (show (cnF (nI K) (nI r3) mv) 0 = nI K from rfl) ?_
          refine lv_icmp_ne (tgt := 379) hx hb dL_build_350 (by decide) (fun c_350 => ?_) (fun c_350 => ?_)
          · exact absurd rfl c_350
          · refine lv_aload_n hx hb dL_build_353 rfl (lv_at hl 1 rfl) ?_
            refine kc_rVi (As := []) (rest := []) ⟨hx, hb, hml, hown, hts⟩ (c_X2_doorCount l D ad cI cd te ri pi pw K r3 mv ko so tl lp lb ld le C cl dq dy ) (cwV 0 hts gL_build_X2_doorCount rfl rfl rfl (by decide +kernel) ⟨Nat.le_of_ble_eq_true rfl, Nat.le_of_ble_eq_true rfl⟩) hK hP [0, 1, 2, 3, 4, 5, 6, 7, 8, 9, 10, 11, 12, 13, 14, 15, 16] [0] rfl rfl 14 rfl rfl rfl rfl hl.1 rfl (Nat.le_of_ble_eq_true rfl) dL_build_354 ⟨Nat.le_of_ble_eq_true rfl, Nat.le_of_ble_eq_true rfl⟩ ?_
            refine lv_aload hx hb dL_build_357 (lv_at hl 8 rfl) ?_
            refine lv_iconst (v := 1) hx hb dL_build_359 (by decide) ?_
            refine kc_ald (i := 1) (n := 3) hx hb hK hP 19 0 rfl rfl (by omega) (by decide) dL_build_360 ?_
            refine kc_top (show (cnF (nI K) (nI r3) mv) 1 = nI r3 from rfl) ?_
            refine lv_icmp_ne (tgt := 379) hx hb dL_build_361 (by decide) (fun c_361 => ?_) (fun c_361 => ?_)
            · exact absurd rfl c_361
            · refine lv_aload_n hx hb dL_build_364 rfl (lv_at hl 1 rfl) ?_
              refine kc_rVi (As := []) (rest := []) ⟨hx, hb, hml, hown, hts⟩ (c_X2_work l D ad cI cd te ri pi pw K r3 mv ko so tl lp lb ld le C cl dq dy ) (cwV 0 hts gL_build_X2_work rfl rfl rfl (by decide +kernel) ⟨Nat.le_of_ble_eq_true rfl, Nat.le_of_ble_eq_true rfl⟩) hK hP [0, 1, 2, 3, 4, 5, 6, 7, 8, 9, 10, 11, 12, 13, 14, 15, 16] [0] rfl rfl 14 rfl rfl rfl rfl hl.1 rfl (Nat.le_of_ble_eq_true rfl) dL_build_365 ⟨Nat.le_of_ble_eq_true rfl, Nat.le_of_ble_eq_true rfl⟩ ?_
              refine lv_aload hx hb dL_build_368 (lv_at hl 8 rfl) ?_
              refine lv_iconst (v := 2) hx hb dL_build_370 (by decide) ?_
              refine kc_ald (i := 2) (n := 3) hx hb hK hP 19 0 rfl rfl (by omega) (by decide) dL_build_371 ?_
              refine kc_top (show (cnF (nI K) (nI r3) mv) 2 = mv from rfl) ?_
              refine lv_icmp_ne (tgt := 379) hx hb dL_build_372 (by decide) (fun c_372 => ?_) (fun c_372 => ?_)
              · exact absurd rfl c_372
              · refine lv_iconst (v := 1) hx hb dL_build_375 (by decide) ?_
                refine lv_goto (tgt := 380) hx hb dL_build_376 (by decide) ?_
                exact W.zret (v := 1) hx hb hr rfl (fun tZ htZ hWZ => ⟨⟨_, (cd, te, ri, pi, K, r3, mv), rfl, ⟨rfl, hK0, hK5, Nat.le_of_lt_succ hr3, hbk, he_193⟩, by rw [htZ]; exact hP, by rw [hAe]; exact hD⟩, hS.F htZ⟩) hS.2.2 dL_build_380
        · refine lv_aload hx hb dL_build_202 (lv_at hl 7 rfl) ?_
          refine lv_iload hx hb dL_build_204 (lv_at hl 0 rfl) ?_
          refine lv_aload_n hx hb dL_build_206 rfl (lv_at hl 2 rfl) ?_
          refine lv_iload_n hx hb dL_build_207 rfl (lv_at hl 3 rfl) ?_
          refine lv_iconst (v := 5) hx hb dL_build_208 (by decide) ?_
          refine lv_iadd hx hb dL_build_209 ?_
          refine lv_iload hx hb dL_build_210 (lv_at hl 0 rfl) ?_
          refine lv_iconst (v := 4) hx hb dL_build_212 (by decide) ?_
          refine lv_irem hx hb dL_build_213 (by decide) ?_
          refine lv_iadd hx hb dL_build_214 ?_
          refine kc_top (show (0 + 5) + ((nI d) - (nI d) / 4 * 4) = nI (5 + d % 4) from idx4 (a := 5) (by omega)) ?_
          refine kc_rXi (As := [.ref b, .int (nI (5 + d % 4))]) (rest := [.int (nI d), .ref (ad 18)]) ⟨hx, hb, hml, hown, hts⟩ (c_L_cell l b L xs (5 + d % 4) hL31 (by omega)) (va_cwS 2 hts gL_build_L_cell rfl rfl rfl (by decide +kernel) ⟨Nat.le_of_ble_eq_true rfl, Nat.le_of_ble_eq_true rfl⟩) hXs hbl hbA hS rfl hl.1 rfl (Nat.le_of_ble_eq_true rfl) dL_build_215 ⟨Nat.le_of_ble_eq_true rfl, Nat.le_of_ble_eq_true rfl⟩ ?_
          refine lv_iload hx hb dL_build_218 (lv_at hl 0 rfl) ?_
          refine lv_iconst (v := 4) hx hb dL_build_220 (by decide) ?_
          refine lv_idiv hx hb dL_build_221 (by decide) ?_
          refine lv_bipush (v := 8) hx hb dL_build_222 (by decide) ?_
          refine lv_imul hx hb dL_build_224 ?_
          refine lv_ishr hx hb dL_build_225 ?_
          refine lv_iconst (v := 1) hx hb dL_build_226 (by decide) ?_
          refine lv_aload hx hb dL_build_227 (lv_at hl 8 rfl) ?_
          refine lv_iconst (v := 0) hx hb dL_build_229 (by decide) ?_
          refine kc_ald (i := 0) (n := 3) hx hb hK hP 19 0 rfl rfl (by omega) (by decide) dL_build_230 ?_
          refine kc_top (show (cnF (nI K) (nI r3) mv) 0 = nI K from rfl) ?_
          refine lv_ishl hx hb dL_build_231 ?_
          refine kc_top (show 1 <<< ((nI K) &&& 31) = nI (2 ^ K) from kc_sh hK8) ?_
          refine kc_rSi (As := [.int ((jCell xs L (5 + d % 4)) >>> ((((nI d) / 4) * 8) &&& 31)), .int (nI (2 ^ K))]) (rest := [.int (nI d), .ref (ad 18)]) ⟨hx, hb, hml, hown, hts⟩ (c_L_below l ((jCell xs L (5 + d % 4)) >>> ((((nI d) / 4) * 8) &&& 31)) (nI (2 ^ K)) (nI_ne0 (Nat.two_pow_pos K) (kc_2lt hK8))) (va_cwS 2 hts gL_build_L_below rfl rfl rfl (by decide +kernel) ⟨Nat.le_of_ble_eq_true rfl, Nat.le_of_ble_eq_true rfl⟩) rfl hl.1 rfl (Nat.le_of_ble_eq_true rfl) dL_build_232 ⟨Nat.le_of_ble_eq_true rfl, Nat.le_of_ble_eq_true rfl⟩ ?_
          obtain ⟨r4, hr4, er4⟩ := below_n ((jCell xs L (5 + d % 4)) >>> ((((nI d) / 4) * 8) &&& 31)) (n := (2 ^ K)) (Nat.two_pow_pos K) (kc_2lt hK8)
          refine kc_top (show jBelow ((jCell xs L (5 + d % 4)) >>> ((((nI d) / 4) * 8) &&& 31)) (nI (2 ^ K)) = nI r4 from er4) ?_
          refine kc_ast (i := d) (n := 8) hx hb hK hP hD hS 18 0 rfl rfl (by omega) (by decide) dL_build_235 (fun H locs hP hD hS => ?_)
          have hP : va_P D vwCl (wLw ad cI cd te ri pi pw K d mv ko so tl lp lb ld le C cl dq dy cd (upd ri d (nI r4)) (cnF (nI K) (nI r3) mv)) H := hP
          have hD : va_D A (wLw ad cI cd te ri pi pw K d mv ko so tl lp lb ld le C cl dq dy cd (upd ri d (nI r4)) (cnF (nI K) (nI r3) mv)) := hD
          refine lv_aload_n hx hb dL_build_236 rfl (lv_at hl 2 rfl) ?_
          refine lv_iload_n hx hb dL_build_237 rfl (lv_at hl 3 rfl) ?_
          refine kc_rXi (As := [.ref b, .int 0]) (rest := []) ⟨hx, hb, hml, hown, hts⟩ (c_L_cell l b L xs 0 hL31 (by omega)) (va_cwS 2 hts gL_build_L_cell rfl rfl rfl (by decide +kernel) ⟨Nat.le_of_ble_eq_true rfl, Nat.le_of_ble_eq_true rfl⟩) hXs hbl hbA hS rfl hl.1 rfl (Nat.le_of_ble_eq_true rfl) dL_build_238 ⟨Nat.le_of_ble_eq_true rfl, Nat.le_of_ble_eq_true rfl⟩ ?_
          refine lv_bipush (v := 12) hx hb dL_build_241 (by decide) ?_
          refine lv_ishr hx hb dL_build_243 ?_
          refine lv_iconst (v := 2) hx hb dL_build_244 (by decide) ?_
          refine kc_rSi (As := [.int ((jCell xs L 0) >>> (12 &&& 31)), .int 2]) (rest := []) ⟨hx, hb, hml, hown, hts⟩ (c_L_below l ((jCell xs L 0) >>> (12 &&& 31)) 2 (by decide)) (va_cwS 2 hts gL_build_L_below rfl rfl rfl (by decide +kernel) ⟨Nat.le_of_ble_eq_true rfl, Nat.le_of_ble_eq_true rfl⟩) rfl hl.1 rfl (Nat.le_of_ble_eq_true rfl) dL_build_245 ⟨Nat.le_of_ble_eq_true rfl, Nat.le_of_ble_eq_true rfl⟩ ?_
          refine lv_if_ne (tgt := 283) hx hb dL_build_248 (by decide) (fun c_248 => ?_) (fun c_248 => ?_)
          · refine lv_aload_n hx hb dL_build_283 rfl (lv_at hl 1 rfl) ?_
            refine lv_aload hx hb dL_build_284 (lv_at hl 7 rfl) ?_
            refine lv_iload hx hb dL_build_286 (lv_at hl 0 rfl) ?_
            refine kc_ald (i := d) (n := 8) hx hb hK hP 18 0 rfl rfl (by omega) (by decide) dL_build_288 ?_
            refine kc_top (show (upd ri d (nI r4)) d = nI r4 from pk_us) ?_
            refine kc_wVi (w1 := wKc ad cI cd te (upd ri d (nI r4)) (upd pi d (jPinsFor te (nI r4) K)) pw K (d + 1) (mv + jPop (pi d ^^^ jPinsFor te (nI r4) K)) ko so tl lp lb ld le C cl dq dy) (wr := [(ad 17, .inl (cI, 8, .inl cd)), (ad 18, .inl (cI, 8, .inl (upd ri d (nI r4)))), (ad 19, .inl (cI, 3, .inl (cnF (nI K) (nI r3) mv)))]) (ws1 := wLw ad cI cd te (upd ri d (nI r4)) (upd pi d (jPinsFor te (nI r4) K)) pw K (d + 1) (mv + jPop (pi d ^^^ jPinsFor te (nI r4) K)) ko so tl lp lb ld le C cl dq dy cd (upd ri d (nI r4)) (cnF (nI K) (nI r3) mv)) (As := [.int (nI r4)]) (rest := []) ⟨hx, hb, hml, hown, hts⟩ (c_X2_addDoor_ok l D ad cI cd te ri pi pw K d mv ko so tl lp lb ld le C cl dq dy (nI r4) H.size hK8 (set_of hK8 hr4) (by omega)) (cwV 1 hts gL_build_X2_addDoor rfl rfl rfl (by decide +kernel) ⟨Nat.le_of_ble_eq_true rfl, Nat.le_of_ble_eq_true rfl⟩) hK hP hD hS hA [0, 1, 2, 3, 4, 5, 6, 7, 8, 9, 10, 11, 12, 13, 14, 15, 16] [17, 18, 19] [3, 4, 5, 6, 7, 8, 9, 10, 11, 12, 13, 14, 15, 16, 17, 18, 19, 0, 1, 2] [0] rfl rfl rfl rfl (by decide) rfl rfl rfl 14 rfl rfl rfl rfl hl.1 rfl (Nat.le_of_ble_eq_true rfl) dL_build_289 ⟨Nat.le_of_ble_eq_true rfl, Nat.le_of_ble_eq_true rfl⟩ (fun H locs hP hD hS => ?_)
            refine lv_iload hx hb dL_build_292 (lv_at hl 0 rfl) ?_
            refine lv_icmp_eq (tgt := 299) hx hb dL_build_294 (by decide) (fun c_294 => ?_) (fun c_294 => ?_)
            · refine lv_iconst (v := 0) hx hb dL_build_299 (by decide) ?_
              refine lv_istore (lv' := [(10, .int 0), (9, .int (nI d)), (0, .ref (ad 14)), (1, .ref b), (2, .int 0), (3, .int 5), (4, .int 5), (5, .ref (ad 17)), (6, .ref (ad 18)), (7, .ref (ad 19))]) hx hb dL_build_300 hl (by decide) rfl (fun ls hl => ?_)
              refine kc_forHW (pc := 302) (N := 5) (P := fun p H locs ls => va_P D vwCl (wLw ad cI cd te (upd ri d (nI r4)) (upd pi d (jPinsFor te (nI r4) K)) pw K (d + 1) (mv + jPop (pi d ^^^ jPinsFor te (nI r4) K)) ko so tl lp lb ld le C cl dq dy cd (upd ri d (nI r4)) (cnF (nI K) (nI r3) (jLW cd (nI r4) mv p))) H ∧ va_D A (wLw ad cI cd te (upd ri d (nI r4)) (upd pi d (jPinsFor te (nI r4) K)) pw K (d + 1) (mv + jPop (pi d ^^^ jPinsFor te (nI r4) K)) ko so tl lp lb ld le C cl dq dy cd (upd ri d (nI r4)) (cnF (nI K) (nI r3) (jLW cd (nI r4) mv p))) ∧ va_S A s.heap H locs ∧ lv_has ls 13 [(10, .int (nI p)), (9, .int (nI d)), (0, .ref (ad 14)), (1, .ref b), (2, .int 0), (3, .int 5), (4, .int 5), (5, .ref (ad 17)), (6, .ref (ad 18)), (7, .ref (ad 19))]) (fun p H locs ls hj_302 hp ih_302 => ?_) H locs ls ?_
              · obtain ⟨hP, hD, hS, hl⟩ := hp
                refine lv_iload hx hb dL_build_302 (lv_at hl 0 rfl) ?_
                refine lv_iconst (v := 5) hx hb dL_build_304 (by decide) ?_
                refine kc_tst (j := p) (N := 5) (tgt := 336) hx hb dL_build_305 (by decide) hj_302 (by omega) (fun hN => ?_) (fun hlt_302 => ?_)
                · subst hN
                  refine lv_iinc (v := nI (d + 1)) (lv' := [(9, .int (nI (d + 1))), (10, .int (nI 5)), (0, .ref (ad 14)), (1, .ref b), (2, .int 0), (3, .int 5), (4, .int 5), (5, .ref (ad 17)), (6, .ref (ad 18)), (7, .ref (ad 19))]) hx hb dL_build_336 hl (k := 1) rfl (kc_inc d) (by decide) rfl (fun ls hl => ?_)
                  refine lv_goto (tgt := 193) hx hb dL_build_339 (by decide) ?_
                  refine ih_193 _ _ _ hlt_193 ?_
                  refine ⟨upd ri d (nI r4), upd pi d (jPinsFor te (nI r4) K), mv + jPop (pi d ^^^ jPinsFor te (nI r4) K), ?_⟩
                  have eqw_fn : cnF (nI K) (nI r3) (mv + jPop (pi d ^^^ jPinsFor te (nI r4) K)) = cnF (nI K) (nI r3) (jLW cd (nI r4) mv 5) := by rw [LW_5 (pi := pi) (d := d) hK8 hbk.1 (he_193.2.2.1 d (Nat.le_refl d) (by omega)) hr4 mv]
                  show va_P D vwCl (wLw ad cI cd te (upd ri d (nI r4)) (upd pi d (jPinsFor te (nI r4) K)) pw K (d + 1) (mv + jPop (pi d ^^^ jPinsFor te (nI r4) K)) ko so tl lp lb ld le C cl dq dy cd (upd ri d (nI r4)) (cnF (nI K) (nI r3) (mv + jPop (pi d ^^^ jPinsFor te (nI r4) K)))) _ ∧ va_D A (wLw ad cI cd te (upd ri d (nI r4)) (upd pi d (jPinsFor te (nI r4) K)) pw K (d + 1) (mv + jPop (pi d ^^^ jPinsFor te (nI r4) K)) ko so tl lp lb ld le C cl dq dy cd (upd ri d (nI r4)) (cnF (nI K) (nI r3) (mv + jPop (pi d ^^^ jPinsFor te (nI r4) K)))) ∧ va_S A s.heap _ _ ∧ lv_has _ 13 [(9, .int (nI (d + 1))), (0, .ref (ad 14)), (1, .ref b), (2, .int 0), (3, .int 5), (4, .int 5), (5, .ref (ad 17)), (6, .ref (ad 18)), (7, .ref (ad 19))] ∧ bD te (upd ri d (nI r4)) (upd pi d (jPinsFor te (nI r4) K)) K (d + 1) (mv + jPop (pi d ^^^ jPinsFor te (nI r4) K))
                  rw [eqw_fn]
                  exact ⟨hP, hD, hS, lv_sub hl [0, 2, 3, 4, 5, 6, 7, 8, 9] rfl, bD_add he_193 (by omega) hr4⟩
                · refine lv_aload hx hb dL_build_308 (lv_at hl 9 rfl) ?_
                  refine lv_iconst (v := 2) hx hb dL_build_310 (by decide) ?_
                  refine lv_dup2_11 hx hb dL_build_311 rfl rfl ?_
                  refine kc_ald (i := 2) (n := 3) hx hb hK hP 19 0 rfl rfl (by omega) (by decide) dL_build_312 ?_
                  refine kc_top (show (cnF (nI K) (nI r3) (jLW cd (nI r4) mv p)) 2 = jLW cd (nI r4) mv p from rfl) ?_
                  refine lv_aload hx hb dL_build_313 (lv_at hl 8 rfl) ?_
                  refine lv_iload hx hb dL_build_315 (lv_at hl 1 rfl) ?_
                  refine kc_ald (i := d) (n := 8) hx hb hK hP 18 0 rfl rfl (by omega) (by decide) dL_build_317 ?_
                  refine kc_top (show (upd ri d (nI r4)) d = nI r4 from pk_us) ?_
                  refine lv_iload hx hb dL_build_318 (lv_at hl 0 rfl) ?_
                  refine lv_aload hx hb dL_build_320 (lv_at hl 7 rfl) ?_
                  refine kc_rSWi (As := [.int (nI r4), .int (nI p), .ref (ad 17)]) (rest := [.int (jLW cd (nI r4) mv p), .int 2, .ref (ad 19)]) ⟨hx, hb, hml, hown, hts⟩ (c_L_pins l D ad cI cd (nI r4) (nI p) ) (va_cwS 3 hts gL_build_L_pins rfl rfl rfl (by decide +kernel) ⟨Nat.le_of_ble_eq_true rfl, Nat.le_of_ble_eq_true rfl⟩) hK hP [17] [0] rfl rfl rfl hl.1 rfl (Nat.le_of_ble_eq_true rfl) dL_build_322 ⟨Nat.le_of_ble_eq_true rfl, Nat.le_of_ble_eq_true rfl⟩ ?_
                  refine kc_rSi (As := [.int (jLP cd (nI r4) (nI p) 8)]) (rest := [.int (jLW cd (nI r4) mv p), .int 2, .ref (ad 19)]) ⟨hx, hb, hml, hown, hts⟩ (c_J6_bitCount_0f7a4 l (jLP cd (nI r4) (nI p) 8) ) (va_cwS 1 hts gL_build_J6_bitCount_0f7a4 rfl rfl rfl (by decide +kernel) ⟨Nat.le_of_ble_eq_true rfl, Nat.le_of_ble_eq_true rfl⟩) rfl hl.1 rfl (Nat.le_of_ble_eq_true rfl) dL_build_325 ⟨Nat.le_of_ble_eq_true rfl, Nat.le_of_ble_eq_true rfl⟩ ?_
                  refine lv_iadd hx hb dL_build_328 ?_
                  refine kc_ast (i := 2) (n := 3) hx hb hK hP hD hS 19 0 rfl rfl (by omega) (by decide) dL_build_329 (fun H locs hP hD hS => ?_)
                  have hP : va_P D vwCl (wLw ad cI cd te (upd ri d (nI r4)) (upd pi d (jPinsFor te (nI r4) K)) pw K (d + 1) (mv + jPop (pi d ^^^ jPinsFor te (nI r4) K)) ko so tl lp lb ld le C cl dq dy cd (upd ri d (nI r4)) (upd (cnF (nI K) (nI r3) (jLW cd (nI r4) mv p)) 2 ((jLW cd (nI r4) mv p) + (jPop (jLP cd (nI r4) (nI p) 8))))) H := hP
                  have hD : va_D A (wLw ad cI cd te (upd ri d (nI r4)) (upd pi d (jPinsFor te (nI r4) K)) pw K (d + 1) (mv + jPop (pi d ^^^ jPinsFor te (nI r4) K)) ko so tl lp lb ld le C cl dq dy cd (upd ri d (nI r4)) (upd (cnF (nI K) (nI r3) (jLW cd (nI r4) mv p)) 2 ((jLW cd (nI r4) mv p) + (jPop (jLP cd (nI r4) (nI p) 8))))) := hD
                  have eqw_fn : cnF (nI K) (nI r3) ((jLW cd (nI r4) mv p) + (jPop (jLP cd (nI r4) (nI p) 8))) = upd (cnF (nI K) (nI r3) (jLW cd (nI r4) mv p)) 2 ((jLW cd (nI r4) mv p) + (jPop (jLP cd (nI r4) (nI p) 8))) := cnF_s2 _ _ _ _
                  have hP : va_P D vwCl (wLw ad cI cd te (upd ri d (nI r4)) (upd pi d (jPinsFor te (nI r4) K)) pw K (d + 1) (mv + jPop (pi d ^^^ jPinsFor te (nI r4) K)) ko so tl lp lb ld le C cl dq dy cd (upd ri d (nI r4)) (cnF (nI K) (nI r3) ((jLW cd (nI r4) mv p) + (jPop (jLP cd (nI r4) (nI p) 8))))) H := by rw [eqw_fn]; exact hP
                  have hD : va_D A (wLw ad cI cd te (upd ri d (nI r4)) (upd pi d (jPinsFor te (nI r4) K)) pw K (d + 1) (mv + jPop (pi d ^^^ jPinsFor te (nI r4) K)) ko so tl lp lb ld le C cl dq dy cd (upd ri d (nI r4)) (cnF (nI K) (nI r3) ((jLW cd (nI r4) mv p) + (jPop (jLP cd (nI r4) (nI p) 8))))) := by rw [eqw_fn]; exact hD
                  refine lv_iinc (v := nI (p + 1)) (lv' := [(10, .int (nI (p + 1))), (9, .int (nI d)), (0, .ref (ad 14)), (1, .ref b), (2, .int 0), (3, .int 5), (4, .int 5), (5, .ref (ad 17)), (6, .ref (ad 18)), (7, .ref (ad 19))]) hx hb dL_build_330 hl (k := 0) rfl (kc_inc p) (by decide) rfl (fun ls hl => ?_)
                  refine lv_goto (tgt := 302) hx hb dL_build_333 (by decide) ?_
                  refine ih_302 _ _ _ hlt_302 ?_
                  have eqw_fn : cnF (nI K) (nI r3) (jLW cd (nI r4) mv (p + 1)) = cnF (nI K) (nI r3) ((jLW cd (nI r4) mv p) + (jPop (jLP cd (nI r4) (nI p) 8))) := rfl
                  show va_P D vwCl (wLw ad cI cd te (upd ri d (nI r4)) (upd pi d (jPinsFor te (nI r4) K)) pw K (d + 1) (mv + jPop (pi d ^^^ jPinsFor te (nI r4) K)) ko so tl lp lb ld le C cl dq dy cd (upd ri d (nI r4)) (cnF (nI K) (nI r3) (jLW cd (nI r4) mv (p + 1)))) _ ∧ va_D A (wLw ad cI cd te (upd ri d (nI r4)) (upd pi d (jPinsFor te (nI r4) K)) pw K (d + 1) (mv + jPop (pi d ^^^ jPinsFor te (nI r4) K)) ko so tl lp lb ld le C cl dq dy cd (upd ri d (nI r4)) (cnF (nI K) (nI r3) (jLW cd (nI r4) mv (p + 1)))) ∧ va_S A s.heap _ _ ∧ lv_has _ 13 [(10, .int (nI (p + 1))), (9, .int (nI d)), (0, .ref (ad 14)), (1, .ref b), (2, .int 0), (3, .int 5), (4, .int 5), (5, .ref (ad 17)), (6, .ref (ad 18)), (7, .ref (ad 19))]
                  rw [eqw_fn]
                  exact ⟨hP, hD, hS, lv_sub hl [0, 1, 2, 3, 4, 5, 6, 7, 8, 9] rfl⟩
              · exact ⟨hP, hD, hS, lv_sub hl [0, 1, 2, 3, 4, 5, 6, 7, 8, 9] rfl⟩
            · exact absurd rfl c_294
          · refine lv_aload hx hb dL_build_251 (lv_at hl 7 rfl) ?_
            refine lv_iload hx hb dL_build_253 (lv_at hl 0 rfl) ?_
            refine lv_dup2_11 hx hb dL_build_255 rfl rfl ?_
            refine kc_ald (i := d) (n := 8) hx hb hK hP 18 0 rfl rfl (by omega) (by decide) dL_build_256 ?_
            refine kc_top (show (upd ri d (nI r4)) d = nI r4 from pk_us) ?_
            refine lv_aload_n hx hb dL_build_257 rfl (lv_at hl 2 rfl) ?_
            refine lv_iload_n hx hb dL_build_258 rfl (lv_at hl 3 rfl) ?_
            refine lv_iconst (v := 5) hx hb dL_build_259 (by decide) ?_
            refine lv_iadd hx hb dL_build_260 ?_
            refine lv_iload hx hb dL_build_261 (lv_at hl 0 rfl) ?_
            refine lv_iconst (v := 4) hx hb dL_build_263 (by decide) ?_
            refine lv_irem hx hb dL_build_264 (by decide) ?_
            refine lv_iadd hx hb dL_build_265 ?_
            refine kc_top (show (0 + 5) + ((nI d) - (nI d) / 4 * 4) = nI (5 + d % 4) from idx4 (a := 5) (by omega)) ?_
            refine kc_rXi (As := [.ref b, .int (nI (5 + d % 4))]) (rest := [.int (nI r4), .int (nI d), .ref (ad 18)]) ⟨hx, hb, hml, hown, hts⟩ (c_L_cell l b L xs (5 + d % 4) hL31 (by omega)) (va_cwS 2 hts gL_build_L_cell rfl rfl rfl (by decide +kernel) ⟨Nat.le_of_ble_eq_true rfl, Nat.le_of_ble_eq_true rfl⟩) hXs hbl hbA hS rfl hl.1 rfl (Nat.le_of_ble_eq_true rfl) dL_build_266 ⟨Nat.le_of_ble_eq_true rfl, Nat.le_of_ble_eq_true rfl⟩ ?_
            refine lv_bipush (v := 9) hx hb dL_build_269 (by decide) ?_
            refine lv_ishr hx hb dL_build_271 ?_
            refine lv_iconst (v := 1) hx hb dL_build_272 (by decide) ?_
            refine lv_aload hx hb dL_build_273 (lv_at hl 8 rfl) ?_
            refine lv_iconst (v := 0) hx hb dL_build_275 (by decide) ?_
            refine kc_ald (i := 0) (n := 3) hx hb hK hP 19 0 rfl rfl (by omega) (by decide) dL_build_276 ?_
            refine kc_top (show (cnF (nI K) (nI r3) mv) 0 = nI K from rfl) ?_
            refine lv_ishl hx hb dL_build_277 ?_
            refine kc_top (show 1 <<< ((nI K) &&& 31) = nI (2 ^ K) from kc_sh hK8) ?_
            refine kc_rSi (As := [.int ((jCell xs L (5 + d % 4)) >>> (9 &&& 31)), .int (nI (2 ^ K))]) (rest := [.int (nI r4), .int (nI d), .ref (ad 18)]) ⟨hx, hb, hml, hown, hts⟩ (c_L_below l ((jCell xs L (5 + d % 4)) >>> (9 &&& 31)) (nI (2 ^ K)) (nI_ne0 (Nat.two_pow_pos K) (kc_2lt hK8))) (va_cwS 2 hts gL_build_L_below rfl rfl rfl (by decide +kernel) ⟨Nat.le_of_ble_eq_true rfl, Nat.le_of_ble_eq_true rfl⟩) rfl hl.1 rfl (Nat.le_of_ble_eq_true rfl) dL_build_278 ⟨Nat.le_of_ble_eq_true rfl, Nat.le_of_ble_eq_true rfl⟩ ?_
            obtain ⟨r5, hr5, er5⟩ := below_n ((jCell xs L (5 + d % 4)) >>> (9 &&& 31)) (n := (2 ^ K)) (Nat.two_pow_pos K) (kc_2lt hK8)
            refine kc_top (show jBelow ((jCell xs L (5 + d % 4)) >>> (9 &&& 31)) (nI (2 ^ K)) = nI r5 from er5) ?_
            refine lv_iand hx hb dL_build_281 ?_
            refine kc_top (show (nI r4) &&& (nI r5) = nI (r4 &&& r5) from nI_and _ _) ?_
            refine kc_ast (i := d) (n := 8) hx hb hK hP hD hS 18 0 rfl rfl (by omega) (by decide) dL_build_282 (fun H locs hP hD hS => ?_)
            have hP : va_P D vwCl (wLw ad cI cd te ri pi pw K d mv ko so tl lp lb ld le C cl dq dy cd (upd (upd ri d (nI r4)) d (nI (r4 &&& r5))) (cnF (nI K) (nI r3) mv)) H := hP
            have hD : va_D A (wLw ad cI cd te ri pi pw K d mv ko so tl lp lb ld le C cl dq dy cd (upd (upd ri d (nI r4)) d (nI (r4 &&& r5))) (cnF (nI K) (nI r3) mv)) := hD
            have eqw_fr : upd ri d (nI (r4 &&& r5)) = upd (upd ri d (nI r4)) d (nI (r4 &&& r5)) := (upd_upd _ _ _ _).symm
            have hP : va_P D vwCl (wLw ad cI cd te ri pi pw K d mv ko so tl lp lb ld le C cl dq dy cd (upd ri d (nI (r4 &&& r5))) (cnF (nI K) (nI r3) mv)) H := by rw [eqw_fr]; exact hP
            have hD : va_D A (wLw ad cI cd te ri pi pw K d mv ko so tl lp lb ld le C cl dq dy cd (upd ri d (nI (r4 &&& r5))) (cnF (nI K) (nI r3) mv)) := by rw [eqw_fr]; exact hD
            refine lv_aload_n hx hb dL_build_283 rfl (lv_at hl 1 rfl) ?_
            refine lv_aload hx hb dL_build_284 (lv_at hl 7 rfl) ?_
            refine lv_iload hx hb dL_build_286 (lv_at hl 0 rfl) ?_
            refine kc_ald (i := d) (n := 8) hx hb hK hP 18 0 rfl rfl (by omega) (by decide) dL_build_288 ?_
            refine kc_top (show (upd ri d (nI (r4 &&& r5))) d = nI (r4 &&& r5) from pk_us) ?_
            refine kc_wVi (w1 := wKc ad cI cd te (upd ri d (nI (r4 &&& r5))) (upd pi d (jPinsFor te (nI (r4 &&& r5)) K)) pw K (d + 1) (mv + jPop (pi d ^^^ jPinsFor te (nI (r4 &&& r5)) K)) ko so tl lp lb ld le C cl dq dy) (wr := [(ad 17, .inl (cI, 8, .inl cd)), (ad 18, .inl (cI, 8, .inl (upd ri d (nI (r4 &&& r5))))), (ad 19, .inl (cI, 3, .inl (cnF (nI K) (nI r3) mv)))]) (ws1 := wLw ad cI cd te (upd ri d (nI (r4 &&& r5))) (upd pi d (jPinsFor te (nI (r4 &&& r5)) K)) pw K (d + 1) (mv + jPop (pi d ^^^ jPinsFor te (nI (r4 &&& r5)) K)) ko so tl lp lb ld le C cl dq dy cd (upd ri d (nI (r4 &&& r5))) (cnF (nI K) (nI r3) mv)) (As := [.int (nI (r4 &&& r5))]) (rest := []) ⟨hx, hb, hml, hown, hts⟩ (c_X2_addDoor_ok l D ad cI cd te ri pi pw K d mv ko so tl lp lb ld le C cl dq dy (nI (r4 &&& r5)) H.size hK8 (set_of hK8 (Nat.lt_of_le_of_lt Nat.and_le_left hr4)) (by omega)) (cwV 1 hts gL_build_X2_addDoor rfl rfl rfl (by decide +kernel) ⟨Nat.le_of_ble_eq_true rfl, Nat.le_of_ble_eq_true rfl⟩) hK hP hD hS hA [0, 1, 2, 3, 4, 5, 6, 7, 8, 9, 10, 11, 12, 13, 14, 15, 16] [17, 18, 19] [3, 4, 5, 6, 7, 8, 9, 10, 11, 12, 13, 14, 15, 16, 17, 18, 19, 0, 1, 2] [0] rfl rfl rfl rfl (by decide) rfl rfl rfl 14 rfl rfl rfl rfl hl.1 rfl (Nat.le_of_ble_eq_true rfl) dL_build_289 ⟨Nat.le_of_ble_eq_true rfl, Nat.le_of_ble_eq_true rfl⟩ (fun H locs hP hD hS => ?_)
            refine lv_iload hx hb dL_build_292 (lv_at hl 0 rfl) ?_
            refine lv_icmp_eq (tgt := 299) hx hb dL_build_294 (by decide) (fun c_294 => ?_) (fun c_294 => ?_)
            · refine lv_iconst (v := 0) hx hb dL_build_299 (by decide) ?_
              refine lv_istore (lv' := [(10, .int 0), (9, .int (nI d)), (0, .ref (ad 14)), (1, .ref b), (2, .int 0), (3, .int 5), (4, .int 5), (5, .ref (ad 17)), (6, .ref (ad 18)), (7, .ref (ad 19))]) hx hb dL_build_300 hl (by decide) rfl (fun ls hl => ?_)
              refine kc_forHW (pc := 302) (N := 5) (P := fun p H locs ls => va_P D vwCl (wLw ad cI cd te (upd ri d (nI (r4 &&& r5))) (upd pi d (jPinsFor te (nI (r4 &&& r5)) K)) pw K (d + 1) (mv + jPop (pi d ^^^ jPinsFor te (nI (r4 &&& r5)) K)) ko so tl lp lb ld le C cl dq dy cd (upd ri d (nI (r4 &&& r5))) (cnF (nI K) (nI r3) (jLW cd (nI (r4 &&& r5)) mv p))) H ∧ va_D A (wLw ad cI cd te (upd ri d (nI (r4 &&& r5))) (upd pi d (jPinsFor te (nI (r4 &&& r5)) K)) pw K (d + 1) (mv + jPop (pi d ^^^ jPinsFor te (nI (r4 &&& r5)) K)) ko so tl lp lb ld le C cl dq dy cd (upd ri d (nI (r4 &&& r5))) (cnF (nI K) (nI r3) (jLW cd (nI (r4 &&& r5)) mv p))) ∧ va_S A s.heap H locs ∧ lv_has ls 13 [(10, .int (nI p)), (9, .int (nI d)), (0, .ref (ad 14)), (1, .ref b), (2, .int 0), (3, .int 5), (4, .int 5), (5, .ref (ad 17)), (6, .ref (ad 18)), (7, .ref (ad 19))]) (fun p H locs ls hj_302 hp ih_302 => ?_) H locs ls ?_
              · obtain ⟨hP, hD, hS, hl⟩ := hp
                refine lv_iload hx hb dL_build_302 (lv_at hl 0 rfl) ?_
                refine lv_iconst (v := 5) hx hb dL_build_304 (by decide) ?_
                refine kc_tst (j := p) (N := 5) (tgt := 336) hx hb dL_build_305 (by decide) hj_302 (by omega) (fun hN => ?_) (fun hlt_302 => ?_)
                · subst hN
                  refine lv_iinc (v := nI (d + 1)) (lv' := [(9, .int (nI (d + 1))), (10, .int (nI 5)), (0, .ref (ad 14)), (1, .ref b), (2, .int 0), (3, .int 5), (4, .int 5), (5, .ref (ad 17)), (6, .ref (ad 18)), (7, .ref (ad 19))]) hx hb dL_build_336 hl (k := 1) rfl (kc_inc d) (by decide) rfl (fun ls hl => ?_)
                  refine lv_goto (tgt := 193) hx hb dL_build_339 (by decide) ?_
                  refine ih_193 _ _ _ hlt_193 ?_
                  refine ⟨upd ri d (nI (r4 &&& r5)), upd pi d (jPinsFor te (nI (r4 &&& r5)) K), mv + jPop (pi d ^^^ jPinsFor te (nI (r4 &&& r5)) K), ?_⟩
                  have eqw_fn : cnF (nI K) (nI r3) (mv + jPop (pi d ^^^ jPinsFor te (nI (r4 &&& r5)) K)) = cnF (nI K) (nI r3) (jLW cd (nI (r4 &&& r5)) mv 5) := by rw [LW_5 (pi := pi) (d := d) hK8 hbk.1 (he_193.2.2.1 d (Nat.le_refl d) (by omega)) (Nat.lt_of_le_of_lt Nat.and_le_left hr4) mv]
                  show va_P D vwCl (wLw ad cI cd te (upd ri d (nI (r4 &&& r5))) (upd pi d (jPinsFor te (nI (r4 &&& r5)) K)) pw K (d + 1) (mv + jPop (pi d ^^^ jPinsFor te (nI (r4 &&& r5)) K)) ko so tl lp lb ld le C cl dq dy cd (upd ri d (nI (r4 &&& r5))) (cnF (nI K) (nI r3) (mv + jPop (pi d ^^^ jPinsFor te (nI (r4 &&& r5)) K)))) _ ∧ va_D A (wLw ad cI cd te (upd ri d (nI (r4 &&& r5))) (upd pi d (jPinsFor te (nI (r4 &&& r5)) K)) pw K (d + 1) (mv + jPop (pi d ^^^ jPinsFor te (nI (r4 &&& r5)) K)) ko so tl lp lb ld le C cl dq dy cd (upd ri d (nI (r4 &&& r5))) (cnF (nI K) (nI r3) (mv + jPop (pi d ^^^ jPinsFor te (nI (r4 &&& r5)) K)))) ∧ va_S A s.heap _ _ ∧ lv_has _ 13 [(9, .int (nI (d + 1))), (0, .ref (ad 14)), (1, .ref b), (2, .int 0), (3, .int 5), (4, .int 5), (5, .ref (ad 17)), (6, .ref (ad 18)), (7, .ref (ad 19))] ∧ bD te (upd ri d (nI (r4 &&& r5))) (upd pi d (jPinsFor te (nI (r4 &&& r5)) K)) K (d + 1) (mv + jPop (pi d ^^^ jPinsFor te (nI (r4 &&& r5)) K))
                  rw [eqw_fn]
                  exact ⟨hP, hD, hS, lv_sub hl [0, 2, 3, 4, 5, 6, 7, 8, 9] rfl, bD_add he_193 (by omega) (Nat.lt_of_le_of_lt Nat.and_le_left hr4)⟩
                · refine lv_aload hx hb dL_build_308 (lv_at hl 9 rfl) ?_
                  refine lv_iconst (v := 2) hx hb dL_build_310 (by decide) ?_
                  refine lv_dup2_11 hx hb dL_build_311 rfl rfl ?_
                  refine kc_ald (i := 2) (n := 3) hx hb hK hP 19 0 rfl rfl (by omega) (by decide) dL_build_312 ?_
                  refine kc_top (show (cnF (nI K) (nI r3) (jLW cd (nI (r4 &&& r5)) mv p)) 2 = jLW cd (nI (r4 &&& r5)) mv p from rfl) ?_
                  refine lv_aload hx hb dL_build_313 (lv_at hl 8 rfl) ?_
                  refine lv_iload hx hb dL_build_315 (lv_at hl 1 rfl) ?_
                  refine kc_ald (i := d) (n := 8) hx hb hK hP 18 0 rfl rfl (by omega) (by decide) dL_build_317 ?_
                  refine kc_top (show (upd ri d (nI (r4 &&& r5))) d = nI (r4 &&& r5) from pk_us) ?_
                  refine lv_iload hx hb dL_build_318 (lv_at hl 0 rfl) ?_
                  refine lv_aload hx hb dL_build_320 (lv_at hl 7 rfl) ?_
                  refine kc_rSWi (As := [.int (nI (r4 &&& r5)), .int (nI p), .ref (ad 17)]) (rest := [.int (jLW cd (nI (r4 &&& r5)) mv p), .int 2, .ref (ad 19)]) ⟨hx, hb, hml, hown, hts⟩ (c_L_pins l D ad cI cd (nI (r4 &&& r5)) (nI p) ) (va_cwS 3 hts gL_build_L_pins rfl rfl rfl (by decide +kernel) ⟨Nat.le_of_ble_eq_true rfl, Nat.le_of_ble_eq_true rfl⟩) hK hP [17] [0] rfl rfl rfl hl.1 rfl (Nat.le_of_ble_eq_true rfl) dL_build_322 ⟨Nat.le_of_ble_eq_true rfl, Nat.le_of_ble_eq_true rfl⟩ ?_
                  refine kc_rSi (As := [.int (jLP cd (nI (r4 &&& r5)) (nI p) 8)]) (rest := [.int (jLW cd (nI (r4 &&& r5)) mv p), .int 2, .ref (ad 19)]) ⟨hx, hb, hml, hown, hts⟩ (c_J6_bitCount_0f7a4 l (jLP cd (nI (r4 &&& r5)) (nI p) 8) ) (va_cwS 1 hts gL_build_J6_bitCount_0f7a4 rfl rfl rfl (by decide +kernel) ⟨Nat.le_of_ble_eq_true rfl, Nat.le_of_ble_eq_true rfl⟩) rfl hl.1 rfl (Nat.le_of_ble_eq_true rfl) dL_build_325 ⟨Nat.le_of_ble_eq_true rfl, Nat.le_of_ble_eq_true rfl⟩ ?_
                  refine lv_iadd hx hb dL_build_328 ?_
                  refine kc_ast (i := 2) (n := 3) hx hb hK hP hD hS 19 0 rfl rfl (by omega) (by decide) dL_build_329 (fun H locs hP hD hS => ?_)
                  have hP : va_P D vwCl (wLw ad cI cd te (upd ri d (nI (r4 &&& r5))) (upd pi d (jPinsFor te (nI (r4 &&& r5)) K)) pw K (d + 1) (mv + jPop (pi d ^^^ jPinsFor te (nI (r4 &&& r5)) K)) ko so tl lp lb ld le C cl dq dy cd (upd ri d (nI (r4 &&& r5))) (upd (cnF (nI K) (nI r3) (jLW cd (nI (r4 &&& r5)) mv p)) 2 ((jLW cd (nI (r4 &&& r5)) mv p) + (jPop (jLP cd (nI (r4 &&& r5)) (nI p) 8))))) H := hP
                  have hD : va_D A (wLw ad cI cd te (upd ri d (nI (r4 &&& r5))) (upd pi d (jPinsFor te (nI (r4 &&& r5)) K)) pw K (d + 1) (mv + jPop (pi d ^^^ jPinsFor te (nI (r4 &&& r5)) K)) ko so tl lp lb ld le C cl dq dy cd (upd ri d (nI (r4 &&& r5))) (upd (cnF (nI K) (nI r3) (jLW cd (nI (r4 &&& r5)) mv p)) 2 ((jLW cd (nI (r4 &&& r5)) mv p) + (jPop (jLP cd (nI (r4 &&& r5)) (nI p) 8))))) := hD
                  have eqw_fn : cnF (nI K) (nI r3) ((jLW cd (nI (r4 &&& r5)) mv p) + (jPop (jLP cd (nI (r4 &&& r5)) (nI p) 8))) = upd (cnF (nI K) (nI r3) (jLW cd (nI (r4 &&& r5)) mv p)) 2 ((jLW cd (nI (r4 &&& r5)) mv p) + (jPop (jLP cd (nI (r4 &&& r5)) (nI p) 8))) := cnF_s2 _ _ _ _
                  have hP : va_P D vwCl (wLw ad cI cd te (upd ri d (nI (r4 &&& r5))) (upd pi d (jPinsFor te (nI (r4 &&& r5)) K)) pw K (d + 1) (mv + jPop (pi d ^^^ jPinsFor te (nI (r4 &&& r5)) K)) ko so tl lp lb ld le C cl dq dy cd (upd ri d (nI (r4 &&& r5))) (cnF (nI K) (nI r3) ((jLW cd (nI (r4 &&& r5)) mv p) + (jPop (jLP cd (nI (r4 &&& r5)) (nI p) 8))))) H := by rw [eqw_fn]; exact hP
                  have hD : va_D A (wLw ad cI cd te (upd ri d (nI (r4 &&& r5))) (upd pi d (jPinsFor te (nI (r4 &&& r5)) K)) pw K (d + 1) (mv + jPop (pi d ^^^ jPinsFor te (nI (r4 &&& r5)) K)) ko so tl lp lb ld le C cl dq dy cd (upd ri d (nI (r4 &&& r5))) (cnF (nI K) (nI r3) ((jLW cd (nI (r4 &&& r5)) mv p) + (jPop (jLP cd (nI (r4 &&& r5)) (nI p) 8))))) := by rw [eqw_fn]; exact hD
                  refine lv_iinc (v := nI (p + 1)) (lv' := [(10, .int (nI (p + 1))), (9, .int (nI d)), (0, .ref (ad 14)), (1, .ref b), (2, .int 0), (3, .int 5), (4, .int 5), (5, .ref (ad 17)), (6, .ref (ad 18)), (7, .ref (ad 19))]) hx hb dL_build_330 hl (k := 0) rfl (kc_inc p) (by decide) rfl (fun ls hl => ?_)
                  refine lv_goto (tgt := 302) hx hb dL_build_333 (by decide) ?_
                  refine ih_302 _ _ _ hlt_302 ?_
                  have eqw_fn : cnF (nI K) (nI r3) (jLW cd (nI (r4 &&& r5)) mv (p + 1)) = cnF (nI K) (nI r3) ((jLW cd (nI (r4 &&& r5)) mv p) + (jPop (jLP cd (nI (r4 &&& r5)) (nI p) 8))) := rfl
                  show va_P D vwCl (wLw ad cI cd te (upd ri d (nI (r4 &&& r5))) (upd pi d (jPinsFor te (nI (r4 &&& r5)) K)) pw K (d + 1) (mv + jPop (pi d ^^^ jPinsFor te (nI (r4 &&& r5)) K)) ko so tl lp lb ld le C cl dq dy cd (upd ri d (nI (r4 &&& r5))) (cnF (nI K) (nI r3) (jLW cd (nI (r4 &&& r5)) mv (p + 1)))) _ ∧ va_D A (wLw ad cI cd te (upd ri d (nI (r4 &&& r5))) (upd pi d (jPinsFor te (nI (r4 &&& r5)) K)) pw K (d + 1) (mv + jPop (pi d ^^^ jPinsFor te (nI (r4 &&& r5)) K)) ko so tl lp lb ld le C cl dq dy cd (upd ri d (nI (r4 &&& r5))) (cnF (nI K) (nI r3) (jLW cd (nI (r4 &&& r5)) mv (p + 1)))) ∧ va_S A s.heap _ _ ∧ lv_has _ 13 [(10, .int (nI (p + 1))), (9, .int (nI d)), (0, .ref (ad 14)), (1, .ref b), (2, .int 0), (3, .int 5), (4, .int 5), (5, .ref (ad 17)), (6, .ref (ad 18)), (7, .ref (ad 19))]
                  rw [eqw_fn]
                  exact ⟨hP, hD, hS, lv_sub hl [0, 1, 2, 3, 4, 5, 6, 7, 8, 9] rfl⟩
              · exact ⟨hP, hD, hS, lv_sub hl [0, 1, 2, 3, 4, 5, 6, 7, 8, 9] rfl⟩
            · exact absurd rfl c_294
      · exact ⟨(fun _ => 0), (fun _ => 0), 0, hP, hD, hS, lv_sub hl [0, 2, 3, 4, 5, 6, 7, 8, 9] rfl, bD_0 te K⟩
    · refine lv_aload_n hx hb dL_build_23 rfl (lv_at hl 3 rfl) ?_
      refine lv_iload_n hx hb dL_build_24 rfl (lv_at hl 4 rfl) ?_
      refine lv_iconst (v := 1) hx hb dL_build_25 (by decide) ?_
      refine lv_iadd hx hb dL_build_26 ?_
      refine lv_iload hx hb dL_build_27 (lv_at hl 0 rfl) ?_
      refine lv_iconst (v := 4) hx hb dL_build_29 (by decide) ?_
      refine lv_irem hx hb dL_build_30 (by decide) ?_
      refine lv_iadd hx hb dL_build_31 ?_
      refine kc_top (show (0 + 1) + ((nI j) - (nI j) / 4 * 4) = nI (1 + j % 4) from idx4 (a := 1) (by omega)) ?_
      refine kc_rXi (As := [.ref b, .int (nI (1 + j % 4))]) (rest := []) ⟨hx, hb, hml, hown, hts⟩ (c_L_cell l b L xs (1 + j % 4) hL31 (by omega)) (va_cwS 2 hts gL_build_L_cell rfl rfl rfl (by decide +kernel) ⟨Nat.le_of_ble_eq_true rfl, Nat.le_of_ble_eq_true rfl⟩) hXs hbl hbA hS rfl hl.1 rfl (Nat.le_of_ble_eq_true rfl) dL_build_32 ⟨Nat.le_of_ble_eq_true rfl, Nat.le_of_ble_eq_true rfl⟩ ?_
      refine lv_iload hx hb dL_build_35 (lv_at hl 0 rfl) ?_
      refine lv_iconst (v := 4) hx hb dL_build_37 (by decide) ?_
      refine lv_idiv hx hb dL_build_38 (by decide) ?_
      refine lv_bipush (v := 9) hx hb dL_build_39 (by decide) ?_
      refine lv_imul hx hb dL_build_41 ?_
      refine lv_ishr hx hb dL_build_42 ?_
      refine lv_sipush (v := 1024) hx hb dL_build_43 (by decide) ?_
      refine kc_rSi (As := [.int ((jCell xs L (1 + j % 4)) >>> ((((nI j) / 4) * 9) &&& 31)), .int 1024]) (rest := []) ⟨hx, hb, hml, hown, hts⟩ (c_L_below l ((jCell xs L (1 + j % 4)) >>> ((((nI j) / 4) * 9) &&& 31)) 1024 (by decide)) (va_cwS 2 hts gL_build_L_below rfl rfl rfl (by decide +kernel) ⟨Nat.le_of_ble_eq_true rfl, Nat.le_of_ble_eq_true rfl⟩) rfl hl.1 rfl (Nat.le_of_ble_eq_true rfl) dL_build_46 ⟨Nat.le_of_ble_eq_true rfl, Nat.le_of_ble_eq_true rfl⟩ ?_
      obtain ⟨r1, hr1, er1⟩ := below_n ((jCell xs L (1 + j % 4)) >>> ((((nI j) / 4) * 9) &&& 31)) (n := 1024) (by omega) (by omega)
      refine kc_top (show jBelow ((jCell xs L (1 + j % 4)) >>> ((((nI j) / 4) * 9) &&& 31)) 1024 = nI r1 from er1) ?_
      refine lv_istore (lv' := [(10, .int (nI r1)), (9, .int (nI j)), (8, .int (nI (1 + r0))), (0, .ref (ad 14)), (1, .ref b), (2, .int 0), (3, .int 5), (4, .int 5), (5, .ref (ad 17)), (6, .ref (ad 18)), (7, .ref (ad 19))]) hx hb dL_build_49 hl (by decide) rfl (fun ls hl => ?_)
      refine lv_aload_n hx hb dL_build_51 rfl (lv_at hl 4 rfl) ?_
      refine lv_iload_n hx hb dL_build_52 rfl (lv_at hl 5 rfl) ?_
      refine kc_rXi (As := [.ref b, .int 0]) (rest := []) ⟨hx, hb, hml, hown, hts⟩ (c_L_cell l b L xs 0 hL31 (by omega)) (va_cwS 2 hts gL_build_L_cell rfl rfl rfl (by decide +kernel) ⟨Nat.le_of_ble_eq_true rfl, Nat.le_of_ble_eq_true rfl⟩) hXs hbl hbA hS rfl hl.1 rfl (Nat.le_of_ble_eq_true rfl) dL_build_53 ⟨Nat.le_of_ble_eq_true rfl, Nat.le_of_ble_eq_true rfl⟩ ?_
      refine lv_iconst (v := 4) hx hb dL_build_56 (by decide) ?_
      refine lv_ishr hx hb dL_build_57 ?_
      refine lv_iconst (v := 3) hx hb dL_build_58 (by decide) ?_
      refine kc_rSi (As := [.int ((jCell xs L 0) >>> (4 &&& 31)), .int 3]) (rest := []) ⟨hx, hb, hml, hown, hts⟩ (c_L_below l ((jCell xs L 0) >>> (4 &&& 31)) 3 (by decide)) (va_cwS 2 hts gL_build_L_below rfl rfl rfl (by decide +kernel) ⟨Nat.le_of_ble_eq_true rfl, Nat.le_of_ble_eq_true rfl⟩) rfl hl.1 rfl (Nat.le_of_ble_eq_true rfl) dL_build_59 ⟨Nat.le_of_ble_eq_true rfl, Nat.le_of_ble_eq_true rfl⟩ ?_
      refine lv_if_le (tgt := 82) hx hb dL_build_62 (by decide) (fun c_62 => ?_) (fun c_62 => ?_)
      · refine lv_iconst (v := 1) hx hb dL_build_82 (by decide) ?_
        refine lv_istore (lv' := [(11, .int 1), (10, .int (nI r1)), (9, .int (nI j)), (8, .int (nI (1 + r0))), (0, .ref (ad 14)), (1, .ref b), (2, .int 0), (3, .int 5), (4, .int 5), (5, .ref (ad 17)), (6, .ref (ad 18)), (7, .ref (ad 19))]) hx hb dL_build_83 hl (by decide) rfl (fun ls hl => ?_)
        refine lv_iconst (v := 0) hx hb dL_build_85 (by decide) ?_
        refine lv_istore (lv' := [(12, .int 0), (11, .int 1), (10, .int (nI r1)), (9, .int (nI j)), (8, .int (nI (1 + r0))), (0, .ref (ad 14)), (1, .ref b), (2, .int 0), (3, .int 5), (4, .int 5), (5, .ref (ad 17)), (6, .ref (ad 18)), (7, .ref (ad 19))]) hx hb dL_build_86 hl (by decide) rfl (fun ls hl => ?_)
        refine kc_forW (pc := 88) (N := K) (P := fun i ls => lv_has ls 13 [(12, .int (nI i)), (11, .int (bI (jNew cd (nI r1) i))), (10, .int (nI r1)), (9, .int (nI j)), (8, .int (nI (1 + r0))), (0, .ref (ad 14)), (1, .ref b), (2, .int 0), (3, .int 5), (4, .int 5), (5, .ref (ad 17)), (6, .ref (ad 18)), (7, .ref (ad 19))]) (fun i ls hj_88 hp ih_88 => ?_) ls ?_
        · have hl := hp
          refine lv_iload hx hb dL_build_88 (lv_at hl 0 rfl) ?_
          refine lv_aload hx hb dL_build_90 (lv_at hl 12 rfl) ?_
          refine lv_iconst (v := 0) hx hb dL_build_92 (by decide) ?_
          refine kc_ald (i := 0) (n := 3) hx hb hK hP 19 0 rfl rfl (by omega) (by decide) dL_build_93 ?_
          refine kc_top (show (cnF (nI K) 0 0) 0 = nI K from rfl) ?_
          refine kc_tst (j := i) (N := K) (tgt := 125) hx hb dL_build_94 (by decide) hj_88 (by omega) (fun hN => ?_) (fun hlt_88 => ?_)
          · subst hN
            refine lv_iload hx hb dL_build_125 (lv_at hl 1 rfl) ?_
            refine kc_ifneB (tgt := 133) hx hb dL_build_127 (by decide) (fun c_127 => ?_) (fun c_127 => ?_)
            · refine lv_aload hx hb dL_build_133 (lv_at hl 10 rfl) ?_
              refine lv_aload hx hb dL_build_135 (lv_at hl 12 rfl) ?_
              refine lv_iconst (v := 0) hx hb dL_build_137 (by decide) ?_
              refine kc_ald (i := 0) (n := 3) hx hb hK hP 19 0 rfl rfl (by omega) (by decide) dL_build_138 ?_
              refine kc_top (show (cnF (nI K) 0 0) 0 = nI K from rfl) ?_
              refine lv_iload hx hb dL_build_139 (lv_at hl 2 rfl) ?_
              refine kc_ast (i := K) (n := 8) hx hb hK hP hD hS 17 0 rfl rfl (by omega) (by decide) dL_build_141 (fun H locs hP hD hS => ?_)
              have hP : va_P D vwCl (wLw ad cI cd te (fun _ => 0) (fun _ => 0) pw K 0 0 ko so tl lp lb ld le C cl dq dy (upd cd K (nI r1)) (fun _ => 0) (cnF (nI K) 0 0)) H := hP
              have hD : va_D A (wLw ad cI cd te (fun _ => 0) (fun _ => 0) pw K 0 0 ko so tl lp lb ld le C cl dq dy (upd cd K (nI r1)) (fun _ => 0) (cnF (nI K) 0 0)) := hD
              refine lv_aload_n hx hb dL_build_142 rfl (lv_at hl 5 rfl) ?_
              refine lv_iload hx hb dL_build_143 (lv_at hl 2 rfl) ?_
              refine kc_wVi (w1 := wKc ad cI (upd cd K (nI r1)) (upd te K (jTeeth (nI r1) 5)) (fun _ => 0) (fun _ => 0) pw (K + 1) 0 0 ko so tl lp lb ld le C cl dq dy) (wr := [(ad 17, .inl (cI, 8, .inl (upd cd K (nI r1)))), (ad 18, .inl (cI, 8, .inl (fun _ => 0))), (ad 19, .inl (cI, 3, .inl (cnF (nI K) 0 0)))]) (ws1 := wLw ad cI (upd cd K (nI r1)) (upd te K (jTeeth (nI r1) 5)) (fun _ => 0) (fun _ => 0) pw (K + 1) 0 0 ko so tl lp lb ld le C cl dq dy (upd cd K (nI r1)) (fun _ => 0) (cnF (nI K) 0 0)) (As := [.int (nI r1)]) (rest := []) ⟨hx, hb, hml, hown, hts⟩ (c_X2_addKey_ok l D ad cI cd te (fun _ => 0) (fun _ => 0) pw K 0 0 ko so tl lp lb ld le C cl dq dy (nI r1) H.size (nI_pos (by omega)) (nI_lt (b := 1024) hr1 (by decide)) (by omega) ((nw_iff K).mp c_127)) (cwV 1 hts gL_build_X2_addKey rfl rfl rfl (by decide +kernel) ⟨Nat.le_of_ble_eq_true rfl, Nat.le_of_ble_eq_true rfl⟩) hK hP hD hS hA [0, 1, 2, 3, 4, 5, 6, 7, 8, 9, 10, 11, 12, 13, 14, 15, 16] [17, 18, 19] [3, 4, 5, 6, 7, 8, 9, 10, 11, 12, 13, 14, 15, 16, 17, 18, 19, 0, 1, 2] [0] rfl rfl rfl rfl (by decide) rfl rfl rfl 14 rfl rfl rfl rfl hl.1 rfl (Nat.le_of_ble_eq_true rfl) dL_build_145 ⟨Nat.le_of_ble_eq_true rfl, Nat.le_of_ble_eq_true rfl⟩ (fun H locs hP hD hS => ?_)
              refine lv_aload hx hb dL_build_148 (lv_at hl 12 rfl) ?_
              refine lv_iconst (v := 0) hx hb dL_build_150 (by decide) ?_
              refine kc_ald (i := 0) (n := 3) hx hb hK hP 19 0 rfl rfl (by omega) (by decide) dL_build_151 ?_
              refine kc_top (show (cnF (nI K) 0 0) 0 = nI K from rfl) ?_
              refine lv_icmp_eq (tgt := 157) hx hb dL_build_152 (by decide) (fun c_152 => ?_) (fun c_152 => ?_)
              · refine lv_aload hx hb dL_build_157 (lv_at hl 12 rfl) ?_
                refine lv_iconst (v := 0) hx hb dL_build_159 (by decide) ?_
                refine lv_dup2_11 hx hb dL_build_160 rfl rfl ?_
                refine kc_ald (i := 0) (n := 3) hx hb hK hP 19 0 rfl rfl (by omega) (by decide) dL_build_161 ?_
                refine kc_top (show (cnF (nI K) 0 0) 0 = nI K from rfl) ?_
                refine lv_iconst (v := 1) hx hb dL_build_162 (by decide) ?_
                refine lv_iadd hx hb dL_build_163 ?_
                refine kc_top (show (nI K) + 1 = nI (K + 1) from nI_add _ _) ?_
                refine kc_ast (i := 0) (n := 3) hx hb hK hP hD hS 19 0 rfl rfl (by omega) (by decide) dL_build_164 (fun H locs hP hD hS => ?_)
                have hP : va_P D vwCl (wLw ad cI (upd cd K (nI r1)) (upd te K (jTeeth (nI r1) 5)) (fun _ => 0) (fun _ => 0) pw (K + 1) 0 0 ko so tl lp lb ld le C cl dq dy (upd cd K (nI r1)) (fun _ => 0) (upd (cnF (nI K) 0 0) 0 (nI (K + 1)))) H := hP
                have hD : va_D A (wLw ad cI (upd cd K (nI r1)) (upd te K (jTeeth (nI r1) 5)) (fun _ => 0) (fun _ => 0) pw (K + 1) 0 0 ko so tl lp lb ld le C cl dq dy (upd cd K (nI r1)) (fun _ => 0) (upd (cnF (nI K) 0 0) 0 (nI (K + 1)))) := hD
                have eqw_fn : cnF (nI (K + 1)) 0 0 = upd (cnF (nI K) 0 0) 0 (nI (K + 1)) := cnF_s0 _ _ _ _
                have hP : va_P D vwCl (wLw ad cI (upd cd K (nI r1)) (upd te K (jTeeth (nI r1) 5)) (fun _ => 0) (fun _ => 0) pw (K + 1) 0 0 ko so tl lp lb ld le C cl dq dy (upd cd K (nI r1)) (fun _ => 0) (cnF (nI (K + 1)) 0 0)) H := by rw [eqw_fn]; exact hP
                have hD : va_D A (wLw ad cI (upd cd K (nI r1)) (upd te K (jTeeth (nI r1) 5)) (fun _ => 0) (fun _ => 0) pw (K + 1) 0 0 ko so tl lp lb ld le C cl dq dy (upd cd K (nI r1)) (fun _ => 0) (cnF (nI (K + 1)) 0 0)) := by rw [eqw_fn]; exact hD
                refine lv_iinc (v := nI (j + 1)) (lv' := [(9, .int (nI (j + 1))), (12, .int (nI K)), (11, .int (bI (jNew cd (nI r1) K))), (10, .int (nI r1)), (8, .int (nI (1 + r0))), (0, .ref (ad 14)), (1, .ref b), (2, .int 0), (3, .int 5), (4, .int 5), (5, .ref (ad 17)), (6, .ref (ad 18)), (7, .ref (ad 19))]) hx hb dL_build_165 hl (k := 3) rfl (kc_inc j) (by decide) rfl (fun ls hl => ?_)
                refine lv_goto (tgt := 16) hx hb dL_build_168 (by decide) ?_
                refine ih_16 _ _ _ hlt_16 ?_
                refine ⟨upd cd K (nI r1), upd te K (jTeeth (nI r1) 5), K + 1, ?_⟩
                show va_P D vwCl (wLw ad cI (upd cd K (nI r1)) (upd te K (jTeeth (nI r1) 5)) (fun _ => 0) (fun _ => 0) pw (K + 1) 0 0 ko so tl lp lb ld le C cl dq dy (upd cd K (nI r1)) (fun _ => 0) (cnF (nI (K + 1)) 0 0)) _ ∧ va_D A (wLw ad cI (upd cd K (nI r1)) (upd te K (jTeeth (nI r1) 5)) (fun _ => 0) (fun _ => 0) pw (K + 1) 0 0 ko so tl lp lb ld le C cl dq dy (upd cd K (nI r1)) (fun _ => 0) (cnF (nI (K + 1)) 0 0)) ∧ va_S A s.heap _ _ ∧ lv_has _ 13 [(9, .int (nI (j + 1))), (8, .int (nI (1 + r0))), (0, .ref (ad 14)), (1, .ref b), (2, .int 0), (3, .int 5), (4, .int 5), (5, .ref (ad 17)), (6, .ref (ad 18)), (7, .ref (ad 19))] ∧ (bK (upd cd K (nI r1)) (upd te K (jTeeth (nI r1) 5)) (K + 1) ∧ (K + 1) ≤ (j + 1) ∧ (0 < (j + 1) → 0 < (K + 1)))
                exact ⟨hP, hD, hS, lv_sub hl [0, 4, 5, 6, 7, 8, 9, 10, 11, 12] rfl, ⟨bK_add hbk hr1 c_127, by omega, fun _ => by omega⟩⟩
              · exact absurd rfl c_152
            · refine lv_goto (tgt := 165) hx hb dL_build_130 (by decide) ?_
              refine lv_iinc (v := nI (j + 1)) (lv' := [(9, .int (nI (j + 1))), (12, .int (nI K)), (11, .int (bI (jNew cd (nI r1) K))), (10, .int (nI r1)), (8, .int (nI (1 + r0))), (0, .ref (ad 14)), (1, .ref b), (2, .int 0), (3, .int 5), (4, .int 5), (5, .ref (ad 17)), (6, .ref (ad 18)), (7, .ref (ad 19))]) hx hb dL_build_165 hl (k := 3) rfl (kc_inc j) (by decide) rfl (fun ls hl => ?_)
              refine lv_goto (tgt := 16) hx hb dL_build_168 (by decide) ?_
              refine ih_16 _ _ _ hlt_16 ?_
              refine ⟨cd, te, K, ?_⟩
              show va_P D vwCl (wLw ad cI cd te (fun _ => 0) (fun _ => 0) pw K 0 0 ko so tl lp lb ld le C cl dq dy cd (fun _ => 0) (cnF (nI K) 0 0)) _ ∧ va_D A (wLw ad cI cd te (fun _ => 0) (fun _ => 0) pw K 0 0 ko so tl lp lb ld le C cl dq dy cd (fun _ => 0) (cnF (nI K) 0 0)) ∧ va_S A s.heap _ _ ∧ lv_has _ 13 [(9, .int (nI (j + 1))), (8, .int (nI (1 + r0))), (0, .ref (ad 14)), (1, .ref b), (2, .int 0), (3, .int 5), (4, .int 5), (5, .ref (ad 17)), (6, .ref (ad 18)), (7, .ref (ad 19))] ∧ (bK cd te K ∧ K ≤ (j + 1) ∧ (0 < (j + 1) → 0 < K))
              exact ⟨hP, hD, hS, lv_sub hl [0, 4, 5, 6, 7, 8, 9, 10, 11, 12] rfl, ⟨hbk, by omega, fun _ => by rcases Nat.eq_zero_or_pos K with h | h; (subst h; exact absurd rfl c_127); exact h⟩⟩
          · refine lv_iload hx hb dL_build_97 (lv_at hl 1 rfl) ?_
            refine kc_ifeqB (tgt := 116) hx hb dL_build_99 (by decide) (fun c_99 => ?_) (fun c_99 => ?_)
            · refine lv_iconst (v := 0) hx hb dL_build_116 (by decide) ?_
              refine lv_istore (lv' := [(11, .int 0), (12, .int (nI i)), (10, .int (nI r1)), (9, .int (nI j)), (8, .int (nI (1 + r0))), (0, .ref (ad 14)), (1, .ref b), (2, .int 0), (3, .int 5), (4, .int 5), (5, .ref (ad 17)), (6, .ref (ad 18)), (7, .ref (ad 19))]) hx hb dL_build_117 hl (by decide) rfl (fun ls hl => ?_)
              refine lv_iinc (v := nI (i + 1)) (lv' := [(12, .int (nI (i + 1))), (11, .int 0), (10, .int (nI r1)), (9, .int (nI j)), (8, .int (nI (1 + r0))), (0, .ref (ad 14)), (1, .ref b), (2, .int 0), (3, .int 5), (4, .int 5), (5, .ref (ad 17)), (6, .ref (ad 18)), (7, .ref (ad 19))]) hx hb dL_build_119 hl (k := 1) rfl (kc_inc i) (by decide) rfl (fun ls hl => ?_)
              refine lv_goto (tgt := 88) hx hb dL_build_122 (by decide) ?_
              refine ih_88 _ hlt_88 ?_
              have eq_11 : bI (jNew cd (nI r1) (i + 1)) = 0 := nw_a c_99
              show lv_has _ 13 [(12, .int (nI (i + 1))), (11, .int (bI (jNew cd (nI r1) (i + 1)))), (10, .int (nI r1)), (9, .int (nI j)), (8, .int (nI (1 + r0))), (0, .ref (ad 14)), (1, .ref b), (2, .int 0), (3, .int 5), (4, .int 5), (5, .ref (ad 17)), (6, .ref (ad 18)), (7, .ref (ad 19))]
              rw [eq_11]
              exact lv_sub hl [0, 1, 2, 3, 4, 5, 6, 7, 8, 9, 10, 11, 12] rfl
            · refine lv_aload hx hb dL_build_102 (lv_at hl 10 rfl) ?_
              refine lv_iload hx hb dL_build_104 (lv_at hl 0 rfl) ?_
              refine kc_ald (i := i) (n := 8) hx hb hK hP 17 0 rfl rfl (by omega) (by decide) dL_build_106 ?_
              refine lv_iload hx hb dL_build_107 (lv_at hl 2 rfl) ?_
              refine lv_icmp_eq (tgt := 116) hx hb dL_build_109 (by decide) (fun c_109 => ?_) (fun c_109 => ?_)
              · refine lv_iconst (v := 0) hx hb dL_build_116 (by decide) ?_
                refine lv_istore (lv' := [(11, .int 0), (12, .int (nI i)), (10, .int (nI r1)), (9, .int (nI j)), (8, .int (nI (1 + r0))), (0, .ref (ad 14)), (1, .ref b), (2, .int 0), (3, .int 5), (4, .int 5), (5, .ref (ad 17)), (6, .ref (ad 18)), (7, .ref (ad 19))]) hx hb dL_build_117 hl (by decide) rfl (fun ls hl => ?_)
                refine lv_iinc (v := nI (i + 1)) (lv' := [(12, .int (nI (i + 1))), (11, .int 0), (10, .int (nI r1)), (9, .int (nI j)), (8, .int (nI (1 + r0))), (0, .ref (ad 14)), (1, .ref b), (2, .int 0), (3, .int 5), (4, .int 5), (5, .ref (ad 17)), (6, .ref (ad 18)), (7, .ref (ad 19))]) hx hb dL_build_119 hl (k := 1) rfl (kc_inc i) (by decide) rfl (fun ls hl => ?_)
                refine lv_goto (tgt := 88) hx hb dL_build_122 (by decide) ?_
                refine ih_88 _ hlt_88 ?_
                have eq_11 : bI (jNew cd (nI r1) (i + 1)) = 0 := nw_b c_109
                show lv_has _ 13 [(12, .int (nI (i + 1))), (11, .int (bI (jNew cd (nI r1) (i + 1)))), (10, .int (nI r1)), (9, .int (nI j)), (8, .int (nI (1 + r0))), (0, .ref (ad 14)), (1, .ref b), (2, .int 0), (3, .int 5), (4, .int 5), (5, .ref (ad 17)), (6, .ref (ad 18)), (7, .ref (ad 19))]
                rw [eq_11]
                exact lv_sub hl [0, 1, 2, 3, 4, 5, 6, 7, 8, 9, 10, 11, 12] rfl
              · refine lv_iconst (v := 1) hx hb dL_build_112 (by decide) ?_
                refine lv_goto (tgt := 117) hx hb dL_build_113 (by decide) ?_
                refine lv_istore (lv' := [(11, .int 1), (12, .int (nI i)), (10, .int (nI r1)), (9, .int (nI j)), (8, .int (nI (1 + r0))), (0, .ref (ad 14)), (1, .ref b), (2, .int 0), (3, .int 5), (4, .int 5), (5, .ref (ad 17)), (6, .ref (ad 18)), (7, .ref (ad 19))]) hx hb dL_build_117 hl (by decide) rfl (fun ls hl => ?_)
                refine lv_iinc (v := nI (i + 1)) (lv' := [(12, .int (nI (i + 1))), (11, .int 1), (10, .int (nI r1)), (9, .int (nI j)), (8, .int (nI (1 + r0))), (0, .ref (ad 14)), (1, .ref b), (2, .int 0), (3, .int 5), (4, .int 5), (5, .ref (ad 17)), (6, .ref (ad 18)), (7, .ref (ad 19))]) hx hb dL_build_119 hl (k := 1) rfl (kc_inc i) (by decide) rfl (fun ls hl => ?_)
                refine lv_goto (tgt := 88) hx hb dL_build_122 (by decide) ?_
                refine ih_88 _ hlt_88 ?_
                have eq_11 : bI (jNew cd (nI r1) (i + 1)) = 1 := nw_c c_99 c_109
                show lv_has _ 13 [(12, .int (nI (i + 1))), (11, .int (bI (jNew cd (nI r1) (i + 1)))), (10, .int (nI r1)), (9, .int (nI j)), (8, .int (nI (1 + r0))), (0, .ref (ad 14)), (1, .ref b), (2, .int 0), (3, .int 5), (4, .int 5), (5, .ref (ad 17)), (6, .ref (ad 18)), (7, .ref (ad 19))]
                rw [eq_11]
                exact lv_sub hl [0, 1, 2, 3, 4, 5, 6, 7, 8, 9, 10, 11, 12] rfl
        · exact lv_sub hl [0, 1, 2, 3, 4, 5, 6, 7, 8, 9, 10, 11, 12] rfl
      · refine lv_iload hx hb dL_build_65 (lv_at hl 0 rfl) ?_
        refine lv_sipush (v := 341) hx hb dL_build_67 (by decide) ?_
        refine kc_top (show 341 = (341 : Int32) from rfl) ?_
        refine lv_iload hx hb dL_build_70 (lv_at hl 0 rfl) ?_
        refine lv_iconst (v := 1) hx hb dL_build_72 (by decide) ?_
        refine lv_ishr hx hb dL_build_73 ?_
        refine lv_sipush (v := 341) hx hb dL_build_74 (by decide) ?_
        refine kc_top (show 341 = (341 : Int32) from rfl) ?_
        refine lv_iand hx hb dL_build_77 ?_
        refine lv_ior hx hb dL_build_78 ?_
        refine lv_iand hx hb dL_build_79 ?_
        obtain ⟨r2, hr2, er2⟩ := and_lt hr1 (by omega) ((341 : Int32) ||| ((nI r1 >>> (1 &&& 31)) &&& (341 : Int32)))
        refine kc_top (show (nI r1) &&& ((341 : Int32) ||| (((nI r1) >>> (1 &&& 31)) &&& (341 : Int32))) = nI r2 from er2) ?_
        refine lv_istore (lv' := [(10, .int (nI r2)), (9, .int (nI j)), (8, .int (nI (1 + r0))), (0, .ref (ad 14)), (1, .ref b), (2, .int 0), (3, .int 5), (4, .int 5), (5, .ref (ad 17)), (6, .ref (ad 18)), (7, .ref (ad 19))]) hx hb dL_build_80 hl (by decide) rfl (fun ls hl => ?_)
        refine lv_iconst (v := 1) hx hb dL_build_82 (by decide) ?_
        refine lv_istore (lv' := [(11, .int 1), (10, .int (nI r2)), (9, .int (nI j)), (8, .int (nI (1 + r0))), (0, .ref (ad 14)), (1, .ref b), (2, .int 0), (3, .int 5), (4, .int 5), (5, .ref (ad 17)), (6, .ref (ad 18)), (7, .ref (ad 19))]) hx hb dL_build_83 hl (by decide) rfl (fun ls hl => ?_)
        refine lv_iconst (v := 0) hx hb dL_build_85 (by decide) ?_
        refine lv_istore (lv' := [(12, .int 0), (11, .int 1), (10, .int (nI r2)), (9, .int (nI j)), (8, .int (nI (1 + r0))), (0, .ref (ad 14)), (1, .ref b), (2, .int 0), (3, .int 5), (4, .int 5), (5, .ref (ad 17)), (6, .ref (ad 18)), (7, .ref (ad 19))]) hx hb dL_build_86 hl (by decide) rfl (fun ls hl => ?_)
        refine kc_forW (pc := 88) (N := K) (P := fun i ls => lv_has ls 13 [(12, .int (nI i)), (11, .int (bI (jNew cd (nI r2) i))), (10, .int (nI r2)), (9, .int (nI j)), (8, .int (nI (1 + r0))), (0, .ref (ad 14)), (1, .ref b), (2, .int 0), (3, .int 5), (4, .int 5), (5, .ref (ad 17)), (6, .ref (ad 18)), (7, .ref (ad 19))]) (fun i ls hj_88 hp ih_88 => ?_) ls ?_
        · have hl := hp
          refine lv_iload hx hb dL_build_88 (lv_at hl 0 rfl) ?_
          refine lv_aload hx hb dL_build_90 (lv_at hl 12 rfl) ?_
          refine lv_iconst (v := 0) hx hb dL_build_92 (by decide) ?_
          refine kc_ald (i := 0) (n := 3) hx hb hK hP 19 0 rfl rfl (by omega) (by decide) dL_build_93 ?_
          refine kc_top (show (cnF (nI K) 0 0) 0 = nI K from rfl) ?_
          refine kc_tst (j := i) (N := K) (tgt := 125) hx hb dL_build_94 (by decide) hj_88 (by omega) (fun hN => ?_) (fun hlt_88 => ?_)
          · subst hN
            refine lv_iload hx hb dL_build_125 (lv_at hl 1 rfl) ?_
            refine kc_ifneB (tgt := 133) hx hb dL_build_127 (by decide) (fun c_127 => ?_) (fun c_127 => ?_)
            · refine lv_aload hx hb dL_build_133 (lv_at hl 10 rfl) ?_
              refine lv_aload hx hb dL_build_135 (lv_at hl 12 rfl) ?_
              refine lv_iconst (v := 0) hx hb dL_build_137 (by decide) ?_
              refine kc_ald (i := 0) (n := 3) hx hb hK hP 19 0 rfl rfl (by omega) (by decide) dL_build_138 ?_
              refine kc_top (show (cnF (nI K) 0 0) 0 = nI K from rfl) ?_
              refine lv_iload hx hb dL_build_139 (lv_at hl 2 rfl) ?_
              refine kc_ast (i := K) (n := 8) hx hb hK hP hD hS 17 0 rfl rfl (by omega) (by decide) dL_build_141 (fun H locs hP hD hS => ?_)
              have hP : va_P D vwCl (wLw ad cI cd te (fun _ => 0) (fun _ => 0) pw K 0 0 ko so tl lp lb ld le C cl dq dy (upd cd K (nI r2)) (fun _ => 0) (cnF (nI K) 0 0)) H := hP
              have hD : va_D A (wLw ad cI cd te (fun _ => 0) (fun _ => 0) pw K 0 0 ko so tl lp lb ld le C cl dq dy (upd cd K (nI r2)) (fun _ => 0) (cnF (nI K) 0 0)) := hD
              refine lv_aload_n hx hb dL_build_142 rfl (lv_at hl 5 rfl) ?_
              refine lv_iload hx hb dL_build_143 (lv_at hl 2 rfl) ?_
              refine kc_wVi (w1 := wKc ad cI (upd cd K (nI r2)) (upd te K (jTeeth (nI r2) 5)) (fun _ => 0) (fun _ => 0) pw (K + 1) 0 0 ko so tl lp lb ld le C cl dq dy) (wr := [(ad 17, .inl (cI, 8, .inl (upd cd K (nI r2)))), (ad 18, .inl (cI, 8, .inl (fun _ => 0))), (ad 19, .inl (cI, 3, .inl (cnF (nI K) 0 0)))]) (ws1 := wLw ad cI (upd cd K (nI r2)) (upd te K (jTeeth (nI r2) 5)) (fun _ => 0) (fun _ => 0) pw (K + 1) 0 0 ko so tl lp lb ld le C cl dq dy (upd cd K (nI r2)) (fun _ => 0) (cnF (nI K) 0 0)) (As := [.int (nI r2)]) (rest := []) ⟨hx, hb, hml, hown, hts⟩ (c_X2_addKey_ok l D ad cI cd te (fun _ => 0) (fun _ => 0) pw K 0 0 ko so tl lp lb ld le C cl dq dy (nI r2) H.size (nI_pos (by omega)) (nI_lt (b := 1024) hr2 (by decide)) (by omega) ((nw_iff K).mp c_127)) (cwV 1 hts gL_build_X2_addKey rfl rfl rfl (by decide +kernel) ⟨Nat.le_of_ble_eq_true rfl, Nat.le_of_ble_eq_true rfl⟩) hK hP hD hS hA [0, 1, 2, 3, 4, 5, 6, 7, 8, 9, 10, 11, 12, 13, 14, 15, 16] [17, 18, 19] [3, 4, 5, 6, 7, 8, 9, 10, 11, 12, 13, 14, 15, 16, 17, 18, 19, 0, 1, 2] [0] rfl rfl rfl rfl (by decide) rfl rfl rfl 14 rfl rfl rfl rfl hl.1 rfl (Nat.le_of_ble_eq_true rfl) dL_build_145 ⟨Nat.le_of_ble_eq_true rfl, Nat.le_of_ble_eq_true rfl⟩ (fun H locs hP hD hS => ?_)
              refine lv_aload hx hb dL_build_148 (lv_at hl 12 rfl) ?_
              refine lv_iconst (v := 0) hx hb dL_build_150 (by decide) ?_
              refine kc_ald (i := 0) (n := 3) hx hb hK hP 19 0 rfl rfl (by omega) (by decide) dL_build_151 ?_
              refine kc_top (show (cnF (nI K) 0 0) 0 = nI K from rfl) ?_
              refine lv_icmp_eq (tgt := 157) hx hb dL_build_152 (by decide) (fun c_152 => ?_) (fun c_152 => ?_)
              · refine lv_aload hx hb dL_build_157 (lv_at hl 12 rfl) ?_
                refine lv_iconst (v := 0) hx hb dL_build_159 (by decide) ?_
                refine lv_dup2_11 hx hb dL_build_160 rfl rfl ?_
                refine kc_ald (i := 0) (n := 3) hx hb hK hP 19 0 rfl rfl (by omega) (by decide) dL_build_161 ?_
                refine kc_top (show (cnF (nI K) 0 0) 0 = nI K from rfl) ?_
                refine lv_iconst (v := 1) hx hb dL_build_162 (by decide) ?_
                refine lv_iadd hx hb dL_build_163 ?_
                refine kc_top (show (nI K) + 1 = nI (K + 1) from nI_add _ _) ?_
                refine kc_ast (i := 0) (n := 3) hx hb hK hP hD hS 19 0 rfl rfl (by omega) (by decide) dL_build_164 (fun H locs hP hD hS => ?_)
                have hP : va_P D vwCl (wLw ad cI (upd cd K (nI r2)) (upd te K (jTeeth (nI r2) 5)) (fun _ => 0) (fun _ => 0) pw (K + 1) 0 0 ko so tl lp lb ld le C cl dq dy (upd cd K (nI r2)) (fun _ => 0) (upd (cnF (nI K) 0 0) 0 (nI (K + 1)))) H := hP
                have hD : va_D A (wLw ad cI (upd cd K (nI r2)) (upd te K (jTeeth (nI r2) 5)) (fun _ => 0) (fun _ => 0) pw (K + 1) 0 0 ko so tl lp lb ld le C cl dq dy (upd cd K (nI r2)) (fun _ => 0) (upd (cnF (nI K) 0 0) 0 (nI (K + 1)))) := hD
                have eqw_fn : cnF (nI (K + 1)) 0 0 = upd (cnF (nI K) 0 0) 0 (nI (K + 1)) := cnF_s0 _ _ _ _
                have hP : va_P D vwCl (wLw ad cI (upd cd K (nI r2)) (upd te K (jTeeth (nI r2) 5)) (fun _ => 0) (fun _ => 0) pw (K + 1) 0 0 ko so tl lp lb ld le C cl dq dy (upd cd K (nI r2)) (fun _ => 0) (cnF (nI (K + 1)) 0 0)) H := by rw [eqw_fn]; exact hP
                have hD : va_D A (wLw ad cI (upd cd K (nI r2)) (upd te K (jTeeth (nI r2) 5)) (fun _ => 0) (fun _ => 0) pw (K + 1) 0 0 ko so tl lp lb ld le C cl dq dy (upd cd K (nI r2)) (fun _ => 0) (cnF (nI (K + 1)) 0 0)) := by rw [eqw_fn]; exact hD
                refine lv_iinc (v := nI (j + 1)) (lv' := [(9, .int (nI (j + 1))), (12, .int (nI K)), (11, .int (bI (jNew cd (nI r2) K))), (10, .int (nI r2)), (8, .int (nI (1 + r0))), (0, .ref (ad 14)), (1, .ref b), (2, .int 0), (3, .int 5), (4, .int 5), (5, .ref (ad 17)), (6, .ref (ad 18)), (7, .ref (ad 19))]) hx hb dL_build_165 hl (k := 3) rfl (kc_inc j) (by decide) rfl (fun ls hl => ?_)
                refine lv_goto (tgt := 16) hx hb dL_build_168 (by decide) ?_
                refine ih_16 _ _ _ hlt_16 ?_
                refine ⟨upd cd K (nI r2), upd te K (jTeeth (nI r2) 5), K + 1, ?_⟩
                show va_P D vwCl (wLw ad cI (upd cd K (nI r2)) (upd te K (jTeeth (nI r2) 5)) (fun _ => 0) (fun _ => 0) pw (K + 1) 0 0 ko so tl lp lb ld le C cl dq dy (upd cd K (nI r2)) (fun _ => 0) (cnF (nI (K + 1)) 0 0)) _ ∧ va_D A (wLw ad cI (upd cd K (nI r2)) (upd te K (jTeeth (nI r2) 5)) (fun _ => 0) (fun _ => 0) pw (K + 1) 0 0 ko so tl lp lb ld le C cl dq dy (upd cd K (nI r2)) (fun _ => 0) (cnF (nI (K + 1)) 0 0)) ∧ va_S A s.heap _ _ ∧ lv_has _ 13 [(9, .int (nI (j + 1))), (8, .int (nI (1 + r0))), (0, .ref (ad 14)), (1, .ref b), (2, .int 0), (3, .int 5), (4, .int 5), (5, .ref (ad 17)), (6, .ref (ad 18)), (7, .ref (ad 19))] ∧ (bK (upd cd K (nI r2)) (upd te K (jTeeth (nI r2) 5)) (K + 1) ∧ (K + 1) ≤ (j + 1) ∧ (0 < (j + 1) → 0 < (K + 1)))
                exact ⟨hP, hD, hS, lv_sub hl [0, 4, 5, 6, 7, 8, 9, 10, 11, 12] rfl, ⟨bK_add hbk hr2 c_127, by omega, fun _ => by omega⟩⟩
              · exact absurd rfl c_152
            · refine lv_goto (tgt := 165) hx hb dL_build_130 (by decide) ?_
              refine lv_iinc (v := nI (j + 1)) (lv' := [(9, .int (nI (j + 1))), (12, .int (nI K)), (11, .int (bI (jNew cd (nI r2) K))), (10, .int (nI r2)), (8, .int (nI (1 + r0))), (0, .ref (ad 14)), (1, .ref b), (2, .int 0), (3, .int 5), (4, .int 5), (5, .ref (ad 17)), (6, .ref (ad 18)), (7, .ref (ad 19))]) hx hb dL_build_165 hl (k := 3) rfl (kc_inc j) (by decide) rfl (fun ls hl => ?_)
              refine lv_goto (tgt := 16) hx hb dL_build_168 (by decide) ?_
              refine ih_16 _ _ _ hlt_16 ?_
              refine ⟨cd, te, K, ?_⟩
              show va_P D vwCl (wLw ad cI cd te (fun _ => 0) (fun _ => 0) pw K 0 0 ko so tl lp lb ld le C cl dq dy cd (fun _ => 0) (cnF (nI K) 0 0)) _ ∧ va_D A (wLw ad cI cd te (fun _ => 0) (fun _ => 0) pw K 0 0 ko so tl lp lb ld le C cl dq dy cd (fun _ => 0) (cnF (nI K) 0 0)) ∧ va_S A s.heap _ _ ∧ lv_has _ 13 [(9, .int (nI (j + 1))), (8, .int (nI (1 + r0))), (0, .ref (ad 14)), (1, .ref b), (2, .int 0), (3, .int 5), (4, .int 5), (5, .ref (ad 17)), (6, .ref (ad 18)), (7, .ref (ad 19))] ∧ (bK cd te K ∧ K ≤ (j + 1) ∧ (0 < (j + 1) → 0 < K))
              exact ⟨hP, hD, hS, lv_sub hl [0, 4, 5, 6, 7, 8, 9, 10, 11, 12] rfl, ⟨hbk, by omega, fun _ => by rcases Nat.eq_zero_or_pos K with h | h; (subst h; exact absurd rfl c_127); exact h⟩⟩
          · refine lv_iload hx hb dL_build_97 (lv_at hl 1 rfl) ?_
            refine kc_ifeqB (tgt := 116) hx hb dL_build_99 (by decide) (fun c_99 => ?_) (fun c_99 => ?_)
            · refine lv_iconst (v := 0) hx hb dL_build_116 (by decide) ?_
              refine lv_istore (lv' := [(11, .int 0), (12, .int (nI i)), (10, .int (nI r2)), (9, .int (nI j)), (8, .int (nI (1 + r0))), (0, .ref (ad 14)), (1, .ref b), (2, .int 0), (3, .int 5), (4, .int 5), (5, .ref (ad 17)), (6, .ref (ad 18)), (7, .ref (ad 19))]) hx hb dL_build_117 hl (by decide) rfl (fun ls hl => ?_)
              refine lv_iinc (v := nI (i + 1)) (lv' := [(12, .int (nI (i + 1))), (11, .int 0), (10, .int (nI r2)), (9, .int (nI j)), (8, .int (nI (1 + r0))), (0, .ref (ad 14)), (1, .ref b), (2, .int 0), (3, .int 5), (4, .int 5), (5, .ref (ad 17)), (6, .ref (ad 18)), (7, .ref (ad 19))]) hx hb dL_build_119 hl (k := 1) rfl (kc_inc i) (by decide) rfl (fun ls hl => ?_)
              refine lv_goto (tgt := 88) hx hb dL_build_122 (by decide) ?_
              refine ih_88 _ hlt_88 ?_
              have eq_11 : bI (jNew cd (nI r2) (i + 1)) = 0 := nw_a c_99
              show lv_has _ 13 [(12, .int (nI (i + 1))), (11, .int (bI (jNew cd (nI r2) (i + 1)))), (10, .int (nI r2)), (9, .int (nI j)), (8, .int (nI (1 + r0))), (0, .ref (ad 14)), (1, .ref b), (2, .int 0), (3, .int 5), (4, .int 5), (5, .ref (ad 17)), (6, .ref (ad 18)), (7, .ref (ad 19))]
              rw [eq_11]
              exact lv_sub hl [0, 1, 2, 3, 4, 5, 6, 7, 8, 9, 10, 11, 12] rfl
            · refine lv_aload hx hb dL_build_102 (lv_at hl 10 rfl) ?_
              refine lv_iload hx hb dL_build_104 (lv_at hl 0 rfl) ?_
              refine kc_ald (i := i) (n := 8) hx hb hK hP 17 0 rfl rfl (by omega) (by decide) dL_build_106 ?_
              refine lv_iload hx hb dL_build_107 (lv_at hl 2 rfl) ?_
              refine lv_icmp_eq (tgt := 116) hx hb dL_build_109 (by decide) (fun c_109 => ?_) (fun c_109 => ?_)
              · refine lv_iconst (v := 0) hx hb dL_build_116 (by decide) ?_
                refine lv_istore (lv' := [(11, .int 0), (12, .int (nI i)), (10, .int (nI r2)), (9, .int (nI j)), (8, .int (nI (1 + r0))), (0, .ref (ad 14)), (1, .ref b), (2, .int 0), (3, .int 5), (4, .int 5), (5, .ref (ad 17)), (6, .ref (ad 18)), (7, .ref (ad 19))]) hx hb dL_build_117 hl (by decide) rfl (fun ls hl => ?_)
                refine lv_iinc (v := nI (i + 1)) (lv' := [(12, .int (nI (i + 1))), (11, .int 0), (10, .int (nI r2)), (9, .int (nI j)), (8, .int (nI (1 + r0))), (0, .ref (ad 14)), (1, .ref b), (2, .int 0), (3, .int 5), (4, .int 5), (5, .ref (ad 17)), (6, .ref (ad 18)), (7, .ref (ad 19))]) hx hb dL_build_119 hl (k := 1) rfl (kc_inc i) (by decide) rfl (fun ls hl => ?_)
                refine lv_goto (tgt := 88) hx hb dL_build_122 (by decide) ?_
                refine ih_88 _ hlt_88 ?_
                have eq_11 : bI (jNew cd (nI r2) (i + 1)) = 0 := nw_b c_109
                show lv_has _ 13 [(12, .int (nI (i + 1))), (11, .int (bI (jNew cd (nI r2) (i + 1)))), (10, .int (nI r2)), (9, .int (nI j)), (8, .int (nI (1 + r0))), (0, .ref (ad 14)), (1, .ref b), (2, .int 0), (3, .int 5), (4, .int 5), (5, .ref (ad 17)), (6, .ref (ad 18)), (7, .ref (ad 19))]
                rw [eq_11]
                exact lv_sub hl [0, 1, 2, 3, 4, 5, 6, 7, 8, 9, 10, 11, 12] rfl
              · refine lv_iconst (v := 1) hx hb dL_build_112 (by decide) ?_
                refine lv_goto (tgt := 117) hx hb dL_build_113 (by decide) ?_
                refine lv_istore (lv' := [(11, .int 1), (12, .int (nI i)), (10, .int (nI r2)), (9, .int (nI j)), (8, .int (nI (1 + r0))), (0, .ref (ad 14)), (1, .ref b), (2, .int 0), (3, .int 5), (4, .int 5), (5, .ref (ad 17)), (6, .ref (ad 18)), (7, .ref (ad 19))]) hx hb dL_build_117 hl (by decide) rfl (fun ls hl => ?_)
                refine lv_iinc (v := nI (i + 1)) (lv' := [(12, .int (nI (i + 1))), (11, .int 1), (10, .int (nI r2)), (9, .int (nI j)), (8, .int (nI (1 + r0))), (0, .ref (ad 14)), (1, .ref b), (2, .int 0), (3, .int 5), (4, .int 5), (5, .ref (ad 17)), (6, .ref (ad 18)), (7, .ref (ad 19))]) hx hb dL_build_119 hl (k := 1) rfl (kc_inc i) (by decide) rfl (fun ls hl => ?_)
                refine lv_goto (tgt := 88) hx hb dL_build_122 (by decide) ?_
                refine ih_88 _ hlt_88 ?_
                have eq_11 : bI (jNew cd (nI r2) (i + 1)) = 1 := nw_c c_99 c_109
                show lv_has _ 13 [(12, .int (nI (i + 1))), (11, .int (bI (jNew cd (nI r2) (i + 1)))), (10, .int (nI r2)), (9, .int (nI j)), (8, .int (nI (1 + r0))), (0, .ref (ad 14)), (1, .ref b), (2, .int 0), (3, .int 5), (4, .int 5), (5, .ref (ad 17)), (6, .ref (ad 18)), (7, .ref (ad 19))]
                rw [eq_11]
                exact lv_sub hl [0, 1, 2, 3, 4, 5, 6, 7, 8, 9, 10, 11, 12] rfl
        · exact lv_sub hl [0, 1, 2, 3, 4, 5, 6, 7, 8, 9, 10, 11, 12] rfl
  · exact ⟨(fun _ => 0), (fun _ => 0), 0, hP, hD, hS, lv_sub hl [0, 1, 2, 3, 4, 5, 6, 7, 8, 9] rfl, ⟨bK_0, Nat.le_refl 0, fun h => h⟩⟩
