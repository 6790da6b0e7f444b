/-! what the law asks, said of the class's answers -/
section LPU
variable {ri cd te pi : Nat → Int32} {K Dn : Nat}
/-- a key of the rights of a door opens it -/
theorem own_opens {d i : Nat} (hK : K ≤ 8) (hi : i < K) (hr : bt (ri d) i = true) : mOpens ri cd K (cd i) d 5 = true := by
  rw [mOpens_iff]
  intro q hq
  have := gD_lt (cd i) q
  exact (bt_mPins hK d q (by omega)).mpr ⟨i, hi, hr, rfl⟩
theorem set_bit {r i : Nat} (hK : K ≤ 8) (hr : r < 2 ^ K) (hi : i < 32) (h : bt (nI r) i = true) : i < K := by
  rcases Nat.lt_or_ge i K with w | w
  · exact w
  · rw [bt_nI r hi, Nat.testBit_lt_two_pow (Nat.lt_of_lt_of_le hr (Nat.pow_le_pow_right (by decide) w))] at h
    exact absurd h (by decide)
theorem A_own {d r : Nat} (hK : K ≤ 8) (ht : okTe cd te K) (hp : pi d = jPinsFor te (ri d) K) (hr : r < 2 ^ K) (hri : ri d = nI r) : ri d &&& (jOpeners pi te d K ^^^ (-1)) = 0 := by
  rw [b_eq0]
  intro i hi
  rw [b_and, b_not hi, bt_openers hK ht hp hi]
  cases h : bt (ri d) i with
  | false => rfl
  | true =>
    have hiK : i < K := set_bit hK hr hi (by rw [← hri]; exact h)
    rw [own_opens hK hiK h, decide_eq_true hiK]
    rfl
theorem sN_pick {f : Nat → Nat} {P : Nat → Bool} (N : Nat) : ∀ K, (∀ i, i < K → f i < N) → (∀ i j, i < K → j < K → f i = f j → i = j) → sN (fun k => (P (f k)).toNat) K ≤ sN (fun n => (P n).toNat) N := by
  intro K h1 h2
  have e1 : ∀ i, i < K → (P (f i)).toNat = sN (fun n => (decide (f i = n) && P n).toNat) N := by
    intro i hi
    have : ∀ M, sN (fun n => (decide (f i = n) && P n).toNat) M = if f i < M then (P (f i)).toNat else 0 := by
      intro M
      induction M with
      | zero => rfl
      | succ M ih =>
        show sN (fun n => (decide (f i = n) && P n).toNat) M + (decide (f i = M) && P M).toNat = _
        rw [ih]
        by_cases q : f i = M
        · rw [if_neg (by omega), if_pos (by omega), decide_eq_true q, ← q]
          simp
        · rw [decide_eq_false q]
          by_cases q2 : f i < M
          · rw [if_pos q2, if_pos (by omega)]; simp
          · rw [if_neg q2, if_neg (by omega)]; simp
    rw [this N, if_pos (h1 i hi)]
  rw [sN_cong e1, sN_swap (fun k n => (decide (f k = n) && P n).toNat) N K]
  have e2 : ∀ M, sN (fun n => sN (fun k => (decide (f k = n) && P n).toNat) K) M ≤ sN (fun n => (P n).toNat) M := by
    intro M
    induction M with
    | zero => exact Nat.le_refl 0
    | succ M ih =>
      show sN (fun n => sN (fun k => (decide (f k = n) && P n).toNat) K) M + sN (fun k => (decide (f k = M) && P M).toNat) K ≤ sN (fun n => (P n).toNat) M + (P M).toNat
      refine Nat.add_le_add ih ?_
      cases hP : P M with
      | false => rw [sN_cong (g := fun _ => 0) (fun k _ => by simp), sN_0]; exact Nat.zero_le _
      | true =>
        have : ∀ n, n ≤ K → sN (fun k => (decide (f k = M) && true).toNat) n ≤ 1 ∧ ((∀ k, k < n → ¬ f k = M) → sN (fun k => (decide (f k = M) && true).toNat) n = 0) := by
          intro n
          induction n with
          | zero => exact fun _ => ⟨Nat.zero_le 1, fun _ => rfl⟩
          | succ n ihn =>
            intro hn
            obtain ⟨i1, i2⟩ := ihn (by omega)
            have es : sN (fun k => (decide (f k = M) && true).toNat) (n + 1) = sN (fun k => (decide (f k = M) && true).toNat) n + (decide (f n = M) && true).toNat := rfl
            by_cases q : f n = M
            · have z := i2 (fun k hk e => absurd (h2 k n (by omega) (by omega) (e.trans q.symm)) (by omega))
              refine ⟨?_, fun h => absurd q (h n (by omega))⟩
              rw [es, z, decide_eq_true q]
              exact Nat.le_refl 1
            · have e0 : (decide (f n = M) && true).toNat = 0 := by rw [decide_eq_false q]; rfl
              refine ⟨by rw [es, e0]; exact i1, fun h => ?_⟩
              rw [es, e0, i2 (fun k hk => h k (by omega))]
        exact (this K (Nat.le_refl K)).1
  exact e2 N
theorem cd_idx (hb : ∀ i, i < K → ∃ n, n < 1024 ∧ cd i = nI n) {i : Nat} (hi : i < K) : (cd i).toBitVec.toNat < 1024 ∧ cd i = nI (cd i).toBitVec.toNat := by
  obtain ⟨n, hn, e⟩ := hb i hi
  have : (cd i).toBitVec.toNat = n := by
    rw [e]
    show (Int32.ofNat n).toBitVec.toNat = n
    rw [Int32.toBitVec_ofNat', BitVec.toNat_ofNat]
    exact Nat.mod_eq_of_lt (by omega)
  rw [this]
  exact ⟨hn, e⟩
/-- at least as many codes open a door as keys -/
theorem A_codes {d : Nat} (hK : K ≤ 8) (hk : bK cd te K) (hp : pi d = jPinsFor te (ri d) K) : ¬ jCodes pi d 5 < jPop (jOpeners pi te d K) := by
  obtain ⟨ht, hc, hd⟩ := hk
  have e1 : jPop (jOpeners pi te d K) = nI (sN (fun i => (mOpens ri cd K (nI (cd i).toBitVec.toNat) d 5).toNat) K) := by
    rw [jPop_set hK (fun i h1 hi => by rw [bt_openers hK ht hp hi, decide_eq_false (by omega), Bool.false_and])]
    congr 1
    refine sN_cong (fun i hi => ?_)
    rw [bt_openers hK ht hp (by omega), decide_eq_true hi, Bool.true_and, ← (cd_idx hc hi).2]
  have e2 : jCodes pi d 5 = nI (sN (fun n => (mOpens ri cd K (nI n) d 5).toNat) 1024) := by
    rw [L_codes (cd := cd) (te := te) (ri := ri) hK ht hp]
    unfold mCodes
    rw [fo_cong (g := fun q t => t + nI ((mOpens ri cd K (nI q) d 5).toNat)) (fun q t _ => by cases mOpens ri cd K (nI q) d 5 <;> rfl)]
    have := fo_sum (f := fun q => (mOpens ri cd K (nI q) d 5).toNat) (g := fun q => nI ((mOpens ri cd K (nI q) d 5).toNat)) (a := 0) (n := 1024) (fun _ _ => rfl)
    rw [Nat.zero_add] at this
    exact this
  have h3 := sN_pick (f := fun i => (cd i).toBitVec.toNat) (P := fun n => mOpens ri cd K (nI n) d 5) 1024 K (fun i hi => (cd_idx hc hi).1) (fun i j hi hj e => hd i j hi hj (by
    have e : (cd i).toBitVec.toNat = (cd j).toBitVec.toNat := e
    rw [(cd_idx hc hi).2, (cd_idx hc hj).2, e]))
  have h4 : sN (fun n => (mOpens ri cd K (nI n) d 5).toNat) 1024 ≤ 1024 * 1 := sN_le (fun i _ => Bool.toNat_le _)
  rw [e1, e2]
  exact nI_nlt h3 (by omega)
theorem A_none {d : Nat} (hK : K ≤ 8) (ht : okTe cd te K) (hp : pi d = jPinsFor te (ri d) K) (h0 : ri d = 0) : jOpeners pi te d K = 0 := by
  rw [b_eq0]
  intro i hi
  rw [bt_openers hK ht hp hi]
  cases hm : mOpens ri cd K (cd i) d 5 with
  | false => rw [Bool.and_false]
  | true =>
    have hg := gD_lt (cd i) 0
    obtain ⟨k, _, h, _⟩ := (bt_mPins hK d 0 (by omega)).mp ((mOpens_iff (cd i) d 5).mp hm 0 (by decide))
    rw [h0, b_0] at h
    exact absurd h (by decide)
theorem A_doors {k d : Nat} (hD : Dn ≤ 8) (hd : d < Dn) : jHas (jDoors pi te k Dn) d ↔ jContains (pi d) (te k) = true := by
  rw [bt_has (by omega)]
  unfold jDoors
  rw [b_fo, b_0]
  constructor
  · rintro (h | ⟨j, hj, h1, h2⟩)
    · exact absurd h (by decide)
    · rw [b_sh1 (by omega) (by omega)] at h2
      rw [show d = j from of_decide_eq_true h2]
      exact h1
  · intro h
    exact Or.inr ⟨d, hd, h, by rw [b_sh1 (by omega) (by omega)]; exact decide_eq_true rfl⟩
theorem dig8 (code : Int32) {p : Nat} (hp : p < 5) : (code >>> ((8 - 2 * nI p) &&& 31)) &&& 3 = mDigit code (nI p) := by
  have hs : ∀ q, q < 5 → ((8 : Int32) - 2 * nI q) = 2 * (4 - nI q) := by decide +kernel
  rw [hs p hp]
  rfl
/-- a digit of a code among the pins -/
theorem pin_at {d p : Nat} (hK : K ≤ 8) (ht : okTe cd te K) (hpi : pi d = jPinsFor te (ri d) K) (hp : p < 5) (code : Int32) : ((jPinsAt pi d (nI p)) >>> ((((code >>> ((8 - 2 * nI p) &&& 31)) &&& 3)) &&& 31)) &&& 1 = 1 ↔ jHasB (mPins ri cd d (nI p) K) (mDigit code (nI p)) = true := by
  rw [dig8 code hp, L_pins hK ht hpi hp]
  unfold jHasB
  rw [decide_eq_true_iff]
theorem A_pin {k d p : Nat} (hK : K ≤ 8) (ht : okTe cd te K) (hpi : pi d = jPinsFor te (ri d) K) (hk : k < K) (hp : p < 5) (h : jContains (pi d) (te k) = true) : ¬ ((jPinsAt pi d (nI p)) >>> ((((cd k >>> ((8 - 2 * nI p) &&& 31)) &&& 3)) &&& 31)) &&& 1 = 0 := by
  have h1 : mOpens ri cd K (cd k) d 5 = true := by rw [← L_open hK ht (cd k) d, ← hpi, ← ht k hk]; exact h
  have h2 := (mOpens_iff (cd k) d 5).mp h1 p hp
  have h3 := (pin_at hK ht hpi hp (cd k)).mpr (by rw [mDigit_g, bt_hasB (by have := gD_lt (cd k) p; omega)]; exact h2)
  rw [h3]
  decide
theorem or_lt {a b : Nat} (ha : a < 2 ^ K) (hb : b < 2 ^ K) : ∃ x, x < 2 ^ K ∧ nI a ||| nI b = nI x := by
  refine ⟨a ||| b, Nat.or_lt_two_pow ha hb, b_ext (fun i hi => ?_)⟩
  rw [b_or, bt_nI _ hi, bt_nI _ hi, bt_nI _ hi, Nat.testBit_or]
theorem A_mono {d : Nat} {mo : Int32} (hK : K ≤ 8) (ht : okTe cd te K) (hp : pi d = jPinsFor te (ri d) K) (hm : ∀ i, i < 32 → bt (ri d) i = true → bt mo i = true) : jOpeners pi te d K &&& (jOpeners (upd pi d (jPinsFor te mo K)) te d K ^^^ (-1)) = 0 := by
  rw [b_eq0]
  intro i hi
  rw [b_and, b_not hi, bt_openers hK ht hp hi, bt_openers (ri := upd ri d mo) hK ht (by rw [pk_us, pk_us]) hi]
  cases h : mOpens ri cd K (cd i) d 5 with
  | false => rw [Bool.and_false, Bool.false_and]
  | true =>
    have : mOpens (upd ri d mo) cd K (cd i) d 5 = true := by
      rw [mOpens_iff] at h ⊢
      intro q hq
      have hg := gD_lt (cd i) q
      obtain ⟨k, hk, h1, h2⟩ := (bt_mPins hK d q (by omega)).mp (h q hq)
      exact (bt_mPins hK d q (by omega)).mpr ⟨k, hk, by rw [pk_us]; exact hm k (by omega) h1, h2⟩
    rw [this]
    cases decide (i < K) <;> rfl
theorem or_bit (x y : Int32) : ∀ i, i < 32 → bt x i = true → bt (x ||| y) i = true := fun i _ h => by rw [b_or, h, Bool.true_or]
theorem A_backR (d : Nat) (x : Int32) : ri = upd (upd ri d x) d (ri d) := ((upd_upd _ _ _ _).trans (upd_same _ _)).symm
theorem A_backP {d : Nat} (x : Int32) (hp : pi d = jPinsFor te (ri d) K) : pi = upd (upd pi d x) d (jPinsFor te (ri d) K) := by rw [upd_upd, ← hp, upd_same]
/-- the work, as a small number -/
def mOk (mv : Int32) (n : Nat) : Prop := ∃ w, w ≤ n ∧ mv = nI w
theorem mOk_add {mv : Int32} {n : Nat} (h : mOk mv n) (x : Int32) : mOk (mv + jPop x) (n + 64) := by
  obtain ⟨w, hw, e⟩ := h
  obtain ⟨c, hc, e2⟩ := jPop_nI x
  exact ⟨w + c, by omega, by rw [e, e2, nI_add]⟩
theorem mOk_le {mv : Int32} {n n' : Nat} (h : mOk mv n) (hn : n ≤ n') : mOk mv n' := by
  obtain ⟨w, hw, e⟩ := h
  exact ⟨w, by omega, e⟩
theorem A_rework {te' : Nat → Int32} {mv : Int32} {n : Nat} (h : mOk mv n) (hn : n ≤ 2000) (hD : Dn ≤ 8) : mv ≤ jRework te' ri K pi mv Dn := by
  obtain ⟨w, hw, e⟩ := h
  have : ∀ j, ∃ c, c ≤ 64 * j ∧ jRework te' ri K pi mv j = nI (w + c) := by
    intro j
    induction j with
    | zero => exact ⟨0, by omega, e⟩
    | succ j ih =>
      obtain ⟨c, hc, e1⟩ := ih
      obtain ⟨c2, hc2, e2⟩ := jPop_nI (jRepin te' ri K pi j j ^^^ jPinsFor te' (ri j) K)
      refine ⟨c + c2, by omega, ?_⟩
      show jRework te' ri K pi mv j + jPop (jRepin te' ri K pi j j ^^^ jPinsFor te' (ri j) K) = _
      rw [e1, e2, nI_add, Nat.add_assoc]
  obtain ⟨c, hc, e3⟩ := this Dn
  rw [e3, e]
  exact nI_le (by omega) (by omega)
/-- the best code is free, and the old one opens nothing by it -/
theorem best_is {pw : Nat → Int32} {k : Nat} : ∀ n, (jBest cd te ri pi pw K Dn k n).1 = (-1) ∨ ∃ c, c < n ∧ (jBest cd te ri pi pw K Dn k n).1 = nI c ∧ ¬ jTaken cd K (nI c) = true ∧ ¬ jOldOpens ri pw te k (jTeeth (nI c) 5) Dn = true
  | 0 => Or.inl rfl
  | n + 1 => by
    have ih := best_is (pw := pw) (k := k) n
    have up : (jBest cd te ri pi pw K Dn k n).1 = (-1) ∨ ∃ c, c < n + 1 ∧ (jBest cd te ri pi pw K Dn k n).1 = nI c ∧ ¬ jTaken cd K (nI c) = true ∧ ¬ jOldOpens ri pw te k (jTeeth (nI c) 5) Dn = true := by
      rcases ih with h | ⟨c, hc, h⟩
      · exact Or.inl h
      · exact Or.inr ⟨c, by omega, h⟩
    rw [jBest_s]
    generalize jBest cd te ri pi pw K Dn k n = b at up ⊢
    unfold jBStep
    by_cases h1 : jTaken cd K (nI n) = true
    · rw [if_pos h1]; exact up
    · rw [if_neg h1]
      by_cases h2 : jOldOpens ri pw te k (jTeeth (nI n) 5) Dn = true
      · rw [if_pos h2]; exact up
      · rw [if_neg h2]
        split
        · split
          · exact Or.inr ⟨n, by omega, rfl, h1, h2⟩
          · split
            · exact Or.inr ⟨n, by omega, rfl, h1, h2⟩
            · split
              · exact up
              · exact Or.inr ⟨n, by omega, rfl, h1, h2⟩
        · exact up
theorem best_ok {pw : Nat → Int32} {k : Nat} (hne : ¬ (jBest cd te ri pi pw K Dn k 1024).1 = (-1)) : ∃ c, c < 1024 ∧ (jBest cd te ri pi pw K Dn k 1024).1 = nI c ∧ ¬ jTaken cd K (nI c) = true ∧ ¬ jOldOpens ri pw te k (jTeeth (nI c) 5) Dn = true := (best_is 1024).elim (fun h => absurd h hne) (fun h => h)
theorem taken_ne {c : Int32} (h : ¬ jTaken cd K c = true) {i : Nat} (hi : i < K) : ¬ cd i = c := fun e => h (jAny_t i hi (decide_eq_true e))
/-- behind the change: the old code opens no door -/
theorem A_old {pw : Nat → Int32} {k c d : Nat} (hK : K ≤ 8) (ht : okTe cd te K) (hk : k < K) (hd : d < Dn) (h : ¬ jOldOpens ri (jWithout te ri K k pw Dn) te k (jTeeth (nI c) 5) Dn = true) : ¬ mOpens ri (upd cd k (nI c)) K (cd k) d 5 = true := by
  intro h1
  refine h (jAny_t d hd ?_)
  rw [L_with hK hk hd, ht k hk, L_open hK (ht.upd (nI c))]
  exact h1
theorem A_last {cd2 te2 pi2 : Nat → Int32} {code : Int32} (hK : K ≤ 8) (ht : okTe cd2 te2 K) (hp : okPi te2 ri pi2 K Dn) (h : ∀ d, d < Dn → ¬ mOpens ri cd2 K code d 5 = true) : jDoors pi2 (upd te2 K (jTeeth code 5)) K Dn = 0 := by
  rw [b_eq0]
  intro i hi
  cases hb : bt (jDoors pi2 (upd te2 K (jTeeth code 5)) K Dn) i with
  | false => rfl
  | true =>
    unfold jDoors at hb
    rw [b_fo, b_0] at hb
    rcases hb with h0 | ⟨d, hd, h1, _⟩
    · exact absurd h0 (by decide)
    · rw [pk_us, hp d hd, L_open hK ht] at h1
      exact absurd h1 (h d hd)
theorem A_free {k c : Nat} (hd : ∀ i j, i < K → j < K → cd i = cd j → i = j) (hk : k < K) (h : ¬ jTaken cd K (nI c) = true) : ¬ jTaken (upd cd k (nI c)) K (cd k) = true := by
  refine jAny_f (fun i hi e => ?_)
  have e := of_decide_eq_true e
  by_cases q : i = k
  · subst q
    rw [pk_us] at e
    exact taken_ne h hk e.symm
  · rw [pk_un q] at e
    exact q (hd i k hi hk e)
theorem op_a {cd2 : Nat → Int32} {code : Int32} {d p : Nat} (h : ¬ mOpens ri cd2 K code d p = true) : bI (mOpens ri cd2 K code d (p + 1)) = 0 := bI_f (fun q => h (by rw [mOpens_s, Bool.and_eq_true] at q; exact q.1))
theorem op_b {cd2 : Nat → Int32} {code : Int32} {d p : Nat} (h : ¬ jHasB (mPins ri cd2 d (nI p) K) (mDigit code (nI p)) = true) : bI (mOpens ri cd2 K code d (p + 1)) = 0 := bI_f (fun q => h (by rw [mOpens_s, Bool.and_eq_true] at q; exact q.2))
theorem op_c {cd2 : Nat → Int32} {code : Int32} {d p : Nat} (h1 : mOpens ri cd2 K code d p = true) (h : jHasB (mPins ri cd2 d (nI p) K) (mDigit code (nI p)) = true) : bI (mOpens ri cd2 K code d (p + 1)) = 1 := bI_t (by rw [mOpens_s, h1, h]; rfl)
end LPU
