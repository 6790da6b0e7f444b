/-! replace, on both sides -/
theorem upd_upd (f : Nat → Int32) (k : Nat) (a b : Int32) : upd (upd f k a) k b = upd f k b := by
  funext i
  by_cases h : i = k
  · subst h; rw [pk_us, pk_us]
  · rw [pk_un h, pk_un h, pk_un h]
theorem upd_same (f : Nat → Int32) (k : Nat) : upd f k (f k) = f := by
  funext i
  by_cases h : i = k
  · subst h; rw [pk_us]
  · rw [pk_un h]
theorem okTe.upd {cd te : Nat → Int32} {K k : Nat} (h : okTe cd te K) (x : Int32) : okTe (upd cd k x) (upd te k (jTeeth x 5)) K := by
  intro j hj
  by_cases e : j = k
  · subst e; rw [pk_us, pk_us]
  · rw [pk_un e, pk_un e]; exact h j hj
theorem bt_pinsRaw {te : Nat → Int32} {K : Nat} (hK : K ≤ 8) (r : Int32) (i : Nat) : bt (jPinsFor te r K) i = true ↔ ∃ k, k < K ∧ bt r k = true ∧ bt (te k) i = true := by
  unfold jPinsFor
  rw [b_fo, b_0]
  constructor
  · rintro (h | ⟨k, hk, h1, h2⟩)
    · exact absurd h (by decide)
    · exact ⟨k, hk, (bt_has (by omega)).mp h1, h2⟩
  · rintro ⟨k, hk, h1, h2⟩
    exact Or.inr ⟨k, hk, (bt_has (by omega)).mpr h1, h2⟩
theorem fo_upd {g : Nat → Int32} {f : Nat → Int32} : ∀ {n : Nat}, (∀ d, d < n → fo (fun d f => upd f d (g d)) f n d = g d) ∧ (∀ d, n ≤ d → fo (fun d f => upd f d (g d)) f n d = f d)
  | 0 => ⟨fun d h => absurd h (Nat.not_lt_zero d), fun _ _ => rfl⟩
  | n + 1 => by
    have ih := fo_upd (g := g) (f := f) (n := n)
    constructor
    · intro d hd
      rw [fo_s]
      by_cases h : d = n
      · subst h; rw [pk_us]
      · rw [pk_un h]; exact ih.1 d (by omega)
    · intro d hd
      rw [fo_s, pk_un (by omega)]
      exact ih.2 d (by omega)
theorem without_at {te ri pw : Nat → Int32} {K k n d : Nat} (hd : d < n) : jWithout te ri K k pw n d = jPinsFor te (ri d &&& (((1 : Int32) <<< (nI k &&& 31)) ^^^ (-1))) K := by
  unfold jWithout
  exact fo_upd.1 d hd
/-- the pins with key k's teeth replaced -/
theorem L_with {te ri pw : Nat → Int32} {K k n d : Nat} (hK : K ≤ 8) (hk : k < K) (hd : d < n) (t : Int32) : jPinsWith ri (jWithout te ri K k pw n) k t d = jPinsFor (upd te k t) (ri d) K := by
  refine b_ext (fun i hi => ?_)
  have hw : bt (jWithout te ri K k pw n d) i = true ↔ ∃ o, o < K ∧ (bt (ri d) o = true ∧ ¬ o = k) ∧ bt (te o) i = true := by
    rw [without_at hd, bt_pinsRaw hK]
    constructor
    · rintro ⟨o, ho, h1, h2⟩
      rw [b_and, b_not (by omega), b_sh1 (by omega) (by omega)] at h1
      simp only [Bool.and_eq_true, Bool.not_eq_true', decide_eq_false_iff_not] at h1
      exact ⟨o, ho, h1, h2⟩
    · rintro ⟨o, ho, h1, h2⟩
      refine ⟨o, ho, ?_, h2⟩
      rw [b_and, b_not (by omega), b_sh1 (by omega) (by omega)]
      simp only [Bool.and_eq_true, Bool.not_eq_true', decide_eq_false_iff_not]
      exact h1
  unfold jPinsWith
  rw [Bool.eq_iff_iff, bt_pinsRaw hK]
  have hh : jHas (ri d) k ↔ bt (ri d) k = true := bt_has (by omega)
  by_cases hr : bt (ri d) k = true
  · rw [if_pos (hh.mpr hr), b_or, Bool.or_eq_true, hw]
    constructor
    · rintro (⟨o, ho, ⟨h1, h2⟩, h3⟩ | h)
      · exact ⟨o, ho, h1, by rw [pk_un h2]; exact h3⟩
      · exact ⟨k, hk, hr, by rw [pk_us]; exact h⟩
    · rintro ⟨o, ho, h1, h2⟩
      by_cases e : o = k
      · subst e; rw [pk_us] at h2; exact Or.inr h2
      · rw [pk_un e] at h2; exact Or.inl ⟨o, ho, ⟨h1, e⟩, h2⟩
  · rw [if_neg (fun q => hr (hh.mp q)), hw]
    constructor
    · rintro ⟨o, ho, ⟨h1, h2⟩, h3⟩
      exact ⟨o, ho, h1, by rw [pk_un h2]; exact h3⟩
    · rintro ⟨o, ho, h1, h2⟩
      by_cases e : o = k
      · subst e; exact absurd h1 hr
      · rw [pk_un e] at h2; exact ⟨o, ho, ⟨h1, e⟩, h2⟩
theorem mFree_iff {cd mc : Nat → Int32} {k : Nat} (hm : ∀ i, ¬ i = k → mc i = cd i) (code : Int32) : ∀ n, n < 2 ^ 31 → k < 2 ^ 31 → (mFree mc k (cd k) code n = true ↔ ∀ i, i < n → ¬ cd i = code)
  | 0, _, _ => ⟨fun _ i hi => absurd hi (Nat.not_lt_zero i), fun _ => rfl⟩
  | n + 1, hn, hk => by
    have e : (if nI n = nI k then cd k else mc n) = cd n := by
      by_cases h : n = k
      · rw [if_pos (by rw [h]), h]
      · rw [if_neg (fun q => h (by
          have := congrArg Int32.toInt q
          rw [nI_toInt (by omega), nI_toInt hk] at this
          omega)), hm n h]
    rw [mFree_s, e, Bool.and_eq_true, mFree_iff hm code n (by omega) hk]
    simp only [Bool.not_eq_true', decide_eq_false_iff_not]
    constructor
    · rintro ⟨h1, h2⟩ i hi
      rcases Nat.lt_or_ge i n with q | q
      · exact h1 i q
      · rw [show i = n by omega]; exact h2
    · intro h
      exact ⟨fun i hi => h i (by omega), h n (by omega)⟩
theorem L_free {cd mc : Nat → Int32} {k K : Nat} (hK : K ≤ 8) (hk : k < K) (hm : ∀ i, ¬ i = k → mc i = cd i) (code : Int32) : mFree mc k (cd k) code K = true ↔ ¬ jTaken cd K code = true := by
  have hp : (8 : Nat) < 2 ^ 31 := by decide
  rw [mFree_iff hm code K (by omega) (by omega)]
  unfold jTaken
  rw [jAny_iff]
  constructor
  · rintro h ⟨i, hi, e⟩
    exact h i hi (of_decide_eq_true e)
  · intro h i hi e
    exact h ⟨i, hi, decide_eq_true e⟩
theorem mDoors0 {ri cd : Nat → Int32} {K : Nat} {code : Int32} {Dn : Nat} (hD : Dn ≤ 8) : mDoors ri cd K code Dn = 0 ↔ ∀ d, d < Dn → ¬ mOpens ri cd K code d 5 = true := by
  rw [b_eq0]
  constructor
  · intro h d hd ho
    have := h d (by omega)
    have h2 : bt (mDoors ri cd K code Dn) d = true := by
      unfold mDoors
      rw [b_fo]
      exact Or.inr ⟨d, hd, ho, by rw [b_sh1 (by omega) (by omega)]; exact decide_eq_true rfl⟩
    rw [h2] at this
    exact absurd this (by decide)
  · intro h i hi
    cases hb : bt (mDoors ri cd K code Dn) i with
    | false => rfl
    | true =>
      unfold mDoors at hb
      rw [b_fo, b_0] at hb
      rcases hb with hb | ⟨d, hd, h1, _⟩
      · exact absurd hb (by decide)
      · exact absurd h1 (h d hd)
section RP
variable {cd te ri pi pw : Nat → Int32} {K Dn k : Nat}
/-- the old key opens a door after the change, on both sides -/
theorem L_old (hK : K ≤ 8) (hD : Dn ≤ 8) (ht : okTe cd te K) (hk : k < K) (n : Nat) : jOldOpens ri (jWithout te ri K k pw Dn) te k (jTeeth (nI n) 5) Dn = true ↔ ¬ mDoors ri (upd cd k (nI n)) K (cd k) Dn = 0 := by
  rw [mDoors0 hD]
  unfold jOldOpens
  rw [jAny_iff]
  have e : ∀ d, d < Dn → jContains (jPinsWith ri (jWithout te ri K k pw Dn) k (jTeeth (nI n) 5) d) (te k) = mOpens ri (upd cd k (nI n)) K (cd k) d 5 := fun d hd => by
    rw [L_with hK hk hd, ht k hk]
    exact L_open hK (ht.upd (nI n)) (cd k) d
  constructor
  · rintro ⟨d, hd, h⟩ q
    rw [e d hd] at h
    exact q d hd h
  · intro h
    refine Classical.byContradiction fun q => h (fun d hd ho => q ⟨d, hd, by rw [e d hd]; exact ho⟩)
theorem L_strayIn (hK : K ≤ 8) (ht : okTe cd te K) (hk : k < K) (n : Nat) {d : Nat} (hd : d < Dn) (c : Nat) : ∀ j, j ≤ K → jStrayIn ri (jWithout te ri K k pw Dn) te k (jTeeth (nI n) 5) d (nI c) j = nI (c + sN (fun o => sB ri (upd cd k (nI n)) K d o) j)
  | 0, _ => rfl
  | j + 1, hj => by
    have ih := L_strayIn hK ht hk n hd c j (by omega)
    unfold jStrayIn at ih ⊢
    rw [fo_s, ih]
    have e1 : (if nI j = nI k then jTeeth (nI n) 5 else te j) = jTeeth (upd cd k (nI n) j) 5 := by
      have hp : (8 : Nat) < 2 ^ 31 := by decide
      by_cases h : j = k
      · rw [if_pos (by rw [h]), h, pk_us]
      · rw [if_neg (fun q => h (by
          have := congrArg Int32.toInt q
          rw [nI_toInt (by omega), nI_toInt (by omega)] at this
          omega)), pk_un h, ht j (by omega)]
    rw [e1, L_with hK hk hd, L_open hK (ht.upd (nI n))]
    show _ = nI (c + (sN (fun o => sB ri (upd cd k (nI n)) K d o) j + sB ri (upd cd k (nI n)) K d j))
    have hh : jHas (ri d) j ↔ bt (ri d) j = true := bt_has (by omega)
    unfold sB
    cases h1 : bt (ri d) j with
    | true =>
      rw [if_pos (hh.mpr h1), Bool.not_true, Bool.and_false]
      rfl
    | false =>
      rw [if_neg (fun q => by rw [hh.mp q] at h1; exact absurd h1 (by decide)), Bool.not_false, Bool.and_true]
      cases h2 : mOpens ri (upd cd k (nI n)) K (upd cd k (nI n) j) d 5 with
      | true =>
        rw [if_pos rfl, show (1 : Int32) = nI 1 from rfl, nI_add]
        congr 1
      | false => rfl
/-- the strays of the doors below n, as the class counts them: right if they are at most M -/
theorem L_strayW (hK : K ≤ 8) (hD : Dn ≤ 8) (ht : okTe cd te K) (hk : k < K) (n : Nat) {M : Nat} (hM : M ≤ 64) : ∀ j, j ≤ Dn → ∃ R, jStraysWith ri (jWithout te ri K k pw Dn) te k (jTeeth (nI n) 5) (nI M) K j = nI R ∧ R ≤ sN (fun d => sN (fun o => sB ri (upd cd k (nI n)) K d o) K) j ∧ (R ≤ M → R = sN (fun d => sN (fun o => sB ri (upd cd k (nI n)) K d o) K) j) ∧ R ≤ 128
  | 0, _ => ⟨0, rfl, Nat.le_refl _, fun _ => rfl, by omega⟩
  | j + 1, hj => by
    have hp : (128 : Nat) < 2 ^ 31 := by decide
    obtain ⟨R, h1, h2, h3, h4⟩ := L_strayW hK hD ht hk n hM j (by omega)
    have hs : sN (fun d => sN (fun o => sB ri (upd cd k (nI n)) K d o) K) (j + 1) = sN (fun d => sN (fun o => sB ri (upd cd k (nI n)) K d o) K) j + sN (fun o => sB ri (upd cd k (nI n)) K j o) K := rfl
    have hb : sN (fun o => sB ri (upd cd k (nI n)) K j o) K ≤ K * 1 := sN_le (fun i _ => by
      unfold sB
      exact Bool.toNat_le _)
    unfold jStraysWith at h1 ⊢
    rw [fo_s, h1]
    by_cases hc : R ≤ M
    · rw [if_neg (kc_nlt (nI_le hc (by omega))), L_strayIn hK ht hk n (by omega) R K (Nat.le_refl _)]
      have := h3 hc
      exact ⟨_, rfl, by omega, fun _ => by omega, by omega⟩
    · rw [if_pos (by
        rw [Int32.lt_iff_toInt_lt, nI_toInt (by omega), nI_toInt (by omega)]
        omega)]
      exact ⟨R, rfl, by omega, fun h => absurd h hc, h4⟩
theorem L_workW (hK : K ≤ 8) (ht : okTe cd te K) (hp : okPi te ri pi K Dn) (hk : k < K) (n : Nat) : jWorkWith ri pi (jWithout te ri K k pw Dn) k (jTeeth (nI n) 5) Dn = mTurned ri (upd cd k (nI n)) (mPinsAll ri cd K Dn) K Dn := by
  unfold jWorkWith mTurned
  refine fo_cong (fun d w hd => ?_)
  rw [L_with hK hk hd, hp d hd, L_pop hK ht hK (ht.upd (nI n)) d d]
  rw [show mPinsAll ri cd K Dn d = mAll ri cd K d 5 from fo_upd.1 d hd]
/-- the two searches, side by side -/
theorem L_best (hK : K ≤ 8) (hD : Dn ≤ 8) (ht : okTe cd te K) (hp : okPi te ri pi K Dn) (hk : k < K) : ∀ n, n ≤ 1024 →
    (∀ i, ¬ i = k → (mR ri cd (mPinsAll ri cd K Dn) K Dn k (cd k) n).1 i = cd i) ∧
    (jBest cd te ri pi (jWithout te ri K k pw Dn) K Dn k n).1 = (mR ri cd (mPinsAll ri cd K Dn) K Dn k (cd k) n).2.1 ∧
    (((jBest cd te ri pi (jWithout te ri K k pw Dn) K Dn k n).1 = (-1) ∧ (jBest cd te ri pi (jWithout te ri K k pw Dn) K Dn k n).2.1 = nI 64) ∨
     (∃ c M, c < 1024 ∧ M ≤ 64 ∧ (jBest cd te ri pi (jWithout te ri K k pw Dn) K Dn k n).1 = nI c ∧ (jBest cd te ri pi (jWithout te ri K k pw Dn) K Dn k n).2.1 = nI M ∧ (mR ri cd (mPinsAll ri cd K Dn) K Dn k (cd k) n).2.2.1 = nI M ∧
      (jBest cd te ri pi (jWithout te ri K k pw Dn) K Dn k n).2.2 = mTurned ri (upd cd k (nI c)) (mPinsAll ri cd K Dn) K Dn ∧ (mR ri cd (mPinsAll ri cd K Dn) K Dn k (cd k) n).2.2.2 = mTurned ri (upd cd k (nI c)) (mPinsAll ri cd K Dn) K Dn))
  | 0, _ => ⟨fun _ _ => rfl, rfl, Or.inl ⟨rfl, rfl⟩⟩
  | n + 1, hn => by
    have hp31 : (1024 : Nat) < 2 ^ 31 := by decide
    obtain ⟨hm, hb, hst⟩ := L_best hK hD ht hp hk n (by omega)
    rw [jBest_s, mR_s]
    revert hm hb hst
    generalize jBest cd te ri pi (jWithout te ri K k pw Dn) K Dn k n = a
    generalize mR ri cd (mPinsAll ri cd K Dn) K Dn k (cd k) n = b
    intro hm hb hst
    have hu : upd b.1 k (nI n) = upd cd k (nI n) := by
      funext i
      by_cases h : i = k
      · subst h; rw [pk_us, pk_us]
      · rw [pk_un h, pk_un h]; exact hm i h
    have hm2 : ∀ i, ¬ i = k → upd cd k (nI n) i = cd i := fun i h => pk_un h
    unfold jBStep mRStep
    rw [hu]
    by_cases h1 : jTaken cd K (nI n) = true
    · rw [if_pos h1, if_neg (fun q => (L_free hK hk hm (nI n)).mp q h1)]
      exact ⟨hm, hb, hst⟩
    rw [if_neg h1, if_pos ((L_free hK hk hm (nI n)).mpr h1)]
    by_cases h2 : jOldOpens ri (jWithout te ri K k pw Dn) te k (jTeeth (nI n) 5) Dn = true
    · rw [if_pos h2, if_neg ((L_old hK hD ht hk n).mp h2)]
      exact ⟨hm2, hb, hst⟩
    rw [if_neg h2, if_pos (Classical.byContradiction fun q => h2 ((L_old hK hD ht hk n).mpr q))]
    have hS0 : mStrays ri (upd cd k (nI n)) K Dn K = nI (sN (fun d => sN (fun o => sB ri (upd cd k (nI n)) K d o) K) Dn) := by
      rw [mStrays_n K (by omega), ← sN_swap (fun d o => sB ri (upd cd k (nI n)) K d o) K Dn]
    have hSle : sN (fun d => sN (fun o => sB ri (upd cd k (nI n)) K d o) K) Dn ≤ 64 := by
      have h8 : ∀ d, d < Dn → sN (fun o => sB ri (upd cd k (nI n)) K d o) K ≤ 8 := fun d _ => by
        have := sN_le (f := fun o => sB ri (upd cd k (nI n)) K d o) (b := 1) (n := K) (fun i _ => by unfold sB; exact Bool.toNat_le _)
        omega
      have := sN_le h8
      omega
    have hSW := fun M (hM : M ≤ 64) => L_strayW (ri := ri) (pw := pw) hK hD ht hk n hM Dn (Nat.le_refl _)
    rw [hS0, L_workW hK ht hp hk n]
    revert hSW hSle hS0
    generalize sN (fun d => sN (fun o => sB ri (upd cd k (nI n)) K d o) K) Dn = S
    intro hS0 hSle hSW
    rcases hst with ⟨e1, e2⟩ | ⟨c0, M, hc0, hM, e1, e2, e3, e4, e5⟩
    · obtain ⟨R, r1, r2, r3, r4⟩ := hSW 64 (Nat.le_refl _)
      rw [e2, r1, if_pos (nI_le (by omega) (by omega)), if_pos e1, if_pos (by rw [← hb]; exact e1)]
      refine ⟨hm2, rfl, Or.inr ⟨n, S, by omega, by omega, rfl, ?_, rfl, rfl, rfl⟩⟩
      rw [r3 (by omega)]
    · obtain ⟨R, r1, r2, r3, r4⟩ := hSW M hM
      have hne : ¬ a.1 = (-1) := by rw [e1]; exact nI_nm1 (by omega)
      have hlt : ∀ x y : Nat, x ≤ 128 → y ≤ 128 → (nI x < nI y ↔ x < y) := fun x y hx hy => by
        rw [Int32.lt_iff_toInt_lt, nI_toInt (by omega), nI_toInt (by omega)]
        omega
      have hle : ∀ x y : Nat, x ≤ 128 → y ≤ 128 → (nI x ≤ nI y ↔ x ≤ y) := fun x y hx hy => by
        rw [Int32.le_iff_toInt_le, nI_toInt (by omega), nI_toInt (by omega)]
        omega
      rw [e2, r1, if_neg hne, if_neg (by rw [← hb]; exact hne), e3]
      by_cases q1 : R ≤ M
      · have eR := r3 q1
        subst eR
        rw [if_pos ((hle _ _ (by omega) (by omega)).mpr q1)]
        rw [if_neg (fun q => by have := (hlt _ _ (by omega) (by omega)).mp q; omega)]
        by_cases q2 : R < M
        · rw [if_pos ((hlt _ _ (by omega) (by omega)).mpr q2)]
          rw [if_neg (fun q => by
            have := congrArg Int32.toInt q
            rw [nI_toInt (by omega), nI_toInt (by omega)] at this
            omega)]
          exact ⟨hm2, rfl, Or.inr ⟨n, R, by omega, by omega, rfl, rfl, rfl, rfl, rfl⟩⟩
        · have eM : R = M := by omega
          subst eM
          rw [if_neg (fun q => q2 ((hlt _ _ (by omega) (by omega)).mp q)), if_pos rfl, e4, e5]
          by_cases q3 : mTurned ri (upd cd k (nI c0)) (mPinsAll ri cd K Dn) K Dn ≤ mTurned ri (upd cd k (nI n)) (mPinsAll ri cd K Dn) K Dn
          · rw [if_pos q3, if_neg (kc_nlt q3)]
            exact ⟨hm2, hb, Or.inr ⟨c0, R, hc0, hM, e1, e2, e3, e4, e5⟩⟩
          · rw [if_neg q3, if_pos (kc_nlt2 q3)]
            exact ⟨hm2, rfl, Or.inr ⟨n, R, by omega, by omega, rfl, rfl, rfl, rfl, rfl⟩⟩
      · rw [if_neg (fun q => q1 ((hle _ _ (by omega) (by omega)).mp q)), if_pos ((hlt _ _ (by omega) (by omega)).mpr (by omega))]
        exact ⟨hm2, hb, Or.inr ⟨c0, M, hc0, hM, e1, e2, e3, e4, e5⟩⟩
theorem L_best_eq (hK : K ≤ 8) (hD : Dn ≤ 8) (ht : okTe cd te K) (hp : okPi te ri pi K Dn) (hk : k < K) : (jBest cd te ri pi (jWithout te ri K k pw Dn) K Dn k 1024).1 = (mR ri cd (mPinsAll ri cd K Dn) K Dn k (cd k) 1024).2.1 := (L_best (pw := pw) hK hD ht hp hk 1024 (Nat.le_refl _)).2.1
theorem L_best_arr (hK : K ≤ 8) (hD : Dn ≤ 8) (ht : okTe cd te K) (hp : okPi te ri pi K Dn) (hk : k < K) (x : Int32) : upd (mR ri cd (mPinsAll ri cd K Dn) K Dn k (cd k) 1024).1 k x = upd cd k x := by
  have hm := (L_best (pw := fun _ => 0) hK hD ht hp hk 1024 (Nat.le_refl _)).1
  funext i
  by_cases h : i = k
  · subst h; rw [pk_us, pk_us]
  · rw [pk_un h, pk_un h]; exact hm i h
theorem repin_at {te' : Nat → Int32} {n d : Nat} : (d < n → jRepin te' ri K pi n d = jPinsFor te' (ri d) K) ∧ (n ≤ d → jRepin te' ri K pi n d = pi d) := ⟨fun h => fo_upd.1 d h, fun h => fo_upd.2 d h⟩
theorem fo_acc {g : Nat → Int32} (a : Int32) : ∀ n, fo (fun d w => w + g d) a n = a + fo (fun d w => w + g d) 0 n
  | 0 => by show a = a + 0; rw [Int32.add_zero]
  | n + 1 => by rw [fo_s, fo_s, fo_acc a n, Int32.add_assoc]
theorem L_rework (hK : K ≤ 8) (hD : Dn ≤ 8) (ht : okTe cd te K) (hp : okPi te ri pi K Dn) (hk : k < K) (mv : Int32) (hne : ¬ (jBest cd te ri pi (jWithout te ri K k pw Dn) K Dn k 1024).1 = (-1)) : jRework (upd te k (jTeeth (jBest cd te ri pi (jWithout te ri K k pw Dn) K Dn k 1024).1 5)) ri K pi mv Dn = mv + (mR ri cd (mPinsAll ri cd K Dn) K Dn k (cd k) 1024).2.2.2 := by
  rcases (L_best (pw := pw) hK hD ht hp hk 1024 (Nat.le_refl _)).2.2 with ⟨e1, _⟩ | ⟨c, M, hc, hM, e1, e2, e3, e4, e5⟩
  · exact absurd e1 hne
  · rw [e5, e1]
    unfold jRework
    rw [fo_cong (g := fun d w => w + jPop (mPinsAll ri cd K Dn d ^^^ mAll ri (upd cd k (nI c)) K d 5)) (fun d w hd => by
      rw [repin_at.2 (Nat.le_refl _), hp d hd, L_pop hK ht hK (ht.upd (nI c)) d d, show mPinsAll ri cd K Dn d = mAll ri cd K d 5 from fo_upd.1 d hd])]
    exact fo_acc mv Dn
end RP
