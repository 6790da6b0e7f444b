/-! copies, persons, sets: both sides alike -/
theorem bt_nI (j : Nat) {i : Nat} (hi : i < 32) : bt (nI j) i = j.testBit i := by
  show (BitVec.ofNat 32 j).getLsbD i = _
  rw [BitVec.getLsbD_ofNat, decide_eq_true hi, Bool.true_and]
theorem jSet_ex {n : Nat} {x : Int32} (hn : n ≤ 8) (h : jSet n x = true) : ∃ j, j < 2 ^ n ∧ x = nI j := by
  obtain ⟨h0, h1⟩ := of_decide_eq_true h
  rw [kc_sh hn] at h1
  exact jIn_ex (n := 2 ^ n) (decide_eq_true ⟨h0, h1⟩)
theorem jSet_bit {n : Nat} {x : Int32} (hn : n ≤ 8) (h : jSet n x = true) {i : Nat} (h1 : n ≤ i) (hi : i < 32) : bt x i = false := by
  obtain ⟨j, hj, rfl⟩ := jSet_ex hn h
  rw [bt_nI j hi]
  exact Nat.testBit_lt_two_pow (Nat.lt_of_lt_of_le hj (Nat.pow_le_pow_right (by omega) h1))
theorem jSet_mono {n : Nat} {x : Int32} (hn : n < 8) (h : jSet n x = true) : jSet (n + 1) x = true := by
  obtain ⟨j, hj, rfl⟩ := jSet_ex (by omega) h
  have h2 : 2 ^ n < 2 ^ (n + 1) := Nat.pow_lt_pow_right (by omega) (by omega)
  have := jIn_ok (n := 2 ^ (n + 1)) (k := j) (by omega) (kc_2lt (by omega))
  unfold jSet
  rw [kc_sh (by omega)]
  exact this
theorem msk_bits : ∀ n, n < 9 → ∀ i, i < 32 → bt (-(nI (2 ^ n))) i = decide (n ≤ i) := by decide +kernel
theorem L_set {n : Nat} (hn : n ≤ 8) (x : Int32) : jSetOf n x = jSet n x := by
  rw [Bool.eq_iff_iff]
  constructor
  · intro h
    have h := of_decide_eq_true h
    rw [kc_sh hn, b_eq0] at h
    have e : x = x &&& nI (2 ^ n - 1) := by
      refine b_ext (fun i hi => ?_)
      rw [b_and, bt_nI _ hi, Nat.testBit_two_pow_sub_one]
      have := h i hi
      rw [b_and, msk_bits n (by omega) i hi] at this
      rcases Nat.lt_or_ge i n with q | q
      · rw [decide_eq_true q, Bool.and_true]
      · rw [decide_eq_true q, Bool.and_true] at this
        rw [this, Bool.false_and]
    rw [pk_and x n (by
      show (nI (2 ^ n - 1)).toBitVec.toNat = _
      exact pk_tn (by have := kc_2lt hn; omega))] at e
    have hj : x.toBitVec.toNat % 2 ^ n < 2 ^ n := Nat.mod_lt _ (Nat.two_pow_pos n)
    have := jIn_ok hj (kc_2lt hn)
    unfold jSet
    rw [kc_sh hn, e]
    exact this
  · intro h
    refine decide_eq_true ?_
    rw [kc_sh hn, b_eq0]
    intro i hi
    rw [b_and, msk_bits n (by omega) i hi]
    rcases Nat.lt_or_ge i n with q | q
    · rw [decide_eq_false (by omega), Bool.and_false]
    · rw [jSet_bit hn h q hi, Bool.false_and]
/-! persons -/
theorem bt_held {ko so lp : Nat → Int32} {tn kn : Nat → Nat} {C : Nat} (hk : ∀ c, c < C → ko c = nI (kn c) ∧ kn c < 8) (pe : Int32) {k : Nat} (h32 : k < 32) : bt (jHeld ko so lp tn pe C) k = true ↔ ∃ c, c < C ∧ jHolder so lp tn c = pe ∧ kn c = k := by
  unfold jHeld
  rw [b_fo, b_0]
  constructor
  · rintro (h | ⟨c, hc, h1, h2⟩)
    · exact absurd h (by decide)
    · rw [(hk c hc).1, b_sh1 (by have := (hk c hc).2; omega) h32] at h2
      exact ⟨c, hc, h1, (of_decide_eq_true h2).symm⟩
  · rintro ⟨c, hc, h1, h2⟩
    refine Or.inr ⟨c, hc, h1, ?_⟩
    rw [(hk c hc).1, b_sh1 (by have := (hk c hc).2; omega) h32]
    exact decide_eq_true h2.symm
theorem bt_lost {ko so : Nat → Int32} {kn : Nat → Nat} {C : Nat} (hk : ∀ c, c < C → ko c = nI (kn c) ∧ kn c < 8) {k : Nat} (h32 : k < 32) : bt (jLost ko so C) k = true ↔ ∃ c, c < C ∧ so c = 2 ∧ kn c = k := by
  unfold jLost
  rw [b_fo, b_0]
  constructor
  · rintro (h | ⟨c, hc, h1, h2⟩)
    · exact absurd h (by decide)
    · rw [(hk c hc).1, b_sh1 (by have := (hk c hc).2; omega) h32] at h2
      exact ⟨c, hc, h1, (of_decide_eq_true h2).symm⟩
  · rintro ⟨c, hc, h1, h2⟩
    refine Or.inr ⟨c, hc, h1, ?_⟩
    rw [(hk c hc).1, b_sh1 (by have := (hk c hc).2; omega) h32]
    exact decide_eq_true h2.symm
theorem bt_doorsAll {pi te : Nat → Int32} {set : Int32} {Dn K : Nat} (hK : K ≤ 8) (i : Nat) : bt (jDoorsAll pi te set Dn K) i = true ↔ ∃ k, k < K ∧ bt set k = true ∧ bt (jDoors pi te k Dn) i = true := by
  unfold jDoorsAll
  rw [b_fo, b_0]
  constructor
  · rintro (h | ⟨k, hk, h1, h2⟩)
    · exact absurd h (by decide)
    · exact ⟨k, hk, (bt_has (by omega)).mp h1, h2⟩
  · rintro ⟨k, hk, h1, h2⟩
    exact Or.inr ⟨k, hk, (bt_has (by omega)).mpr h1, h2⟩
theorem told2 (mk ms mu mt mp : Nat → Int32) (tn : Nat → Nat) (c : Nat) : mTold mk ms mu mt mp tn c 2 = jHolder ms mp tn c := rfl
/-- the copies' keys, as numbers below K -/
def okK (ko : Nat → Int32) (kn : Nat → Nat) (C K : Nat) : Prop := ∀ c, c < C → ko c = nI (kn c) ∧ kn c < K
theorem okK.ke {ko : Nat → Int32} {kn : Nat → Nat} {C K : Nat} (h : okK ko kn C K) (hK : K ≤ 8) : okKe C ko kn := fun c hc => ⟨(h c hc).1, by have := (h c hc).2; omega⟩
theorem L_reach {ri cd te pi : Nat → Int32} {K Dn : Nat} (hK : K ≤ 8) (ht : okTe cd te K) (hp : okPi te ri pi K Dn) {ko so lp mu tl : Nat → Int32} {tn kn : Nat → Nat} {C : Nat} (hk : okK ko kn C K) {pe : Int32} (hpe : ¬ pe = (-1)) :
    jReach pi te Dn K ko so lp tn C pe = mReach ri cd ko so mu tl lp K Dn kn tn pe C := by
  refine b_ext (fun i hi => ?_)
  unfold jReach mReach
  have e : ∀ c t, c < C → (if so c = 1 then (if mTold ko so mu tl lp tn c 2 = pe then t ||| mDoors ri cd K (cd (kn c)) Dn else t) else t) = (if (so c = 1 ∧ jHolder so lp tn c = pe) then t ||| mDoors ri cd K (cd (kn c)) Dn else t) := by
    intro c t _
    rw [told2]
    by_cases h1 : so c = 1
    · by_cases h2 : jHolder so lp tn c = pe
      · rw [if_pos h1, if_pos h2, if_pos ⟨h1, h2⟩]
      · rw [if_pos h1, if_neg h2, if_neg (fun h => h2 h.2)]
    · rw [if_neg h1, if_neg (fun h => h1 h.1)]
  rw [fo_cong e, Bool.eq_iff_iff, bt_doorsAll hK, b_fo, b_0]
  constructor
  · rintro ⟨k, hk1, h1, h2⟩
    obtain ⟨c, hc, h3, h4⟩ := (bt_held (hk.ke hK) pe (by omega)).mp h1
    have hs : so c = 1 := by
      by_cases h : so c = 1
      · exact h
      · unfold jHolder at h3
        rw [if_neg h] at h3
        exact absurd h3.symm hpe
    refine Or.inr ⟨c, hc, ⟨hs, h3⟩, ?_⟩
    rw [← L_doors hK ht hp (hk c hc).2, h4]
    exact h2
  · rintro (h | ⟨c, hc, ⟨h1, h2⟩, h3⟩)
    · exact absurd h (by decide)
    · refine ⟨kn c, (hk c hc).2, (bt_held (hk.ke hK) pe (by have := (hk c hc).2; omega)).mpr ⟨c, hc, h2, rfl⟩, ?_⟩
      rw [L_doors hK ht hp (hk c hc).2]
      exact h3
theorem L_risk {ri cd te pi : Nat → Int32} {K Dn : Nat} (hK : K ≤ 8) (ht : okTe cd te K) (hp : okPi te ri pi K Dn) {ko so : Nat → Int32} {kn : Nat → Nat} {C : Nat} (hk : okK ko kn C K) :
    jRisk pi te Dn K ko so C = mRisk ri cd so K Dn kn C := by
  refine b_ext (fun i hi => ?_)
  unfold jRisk mRisk
  rw [Bool.eq_iff_iff, bt_doorsAll hK, b_fo, b_0]
  constructor
  · rintro ⟨k, hk1, h1, h2⟩
    obtain ⟨c, hc, h3, h4⟩ := (bt_lost (hk.ke hK) (by omega)).mp h1
    refine Or.inr ⟨c, hc, h3, ?_⟩
    rw [← L_doors hK ht hp (hk c hc).2, h4]
    exact h2
  · rintro (h | ⟨c, hc, h1, h3⟩)
    · exact absurd h (by decide)
    · refine ⟨kn c, (hk c hc).2, (bt_lost (hk.ke hK) (by have := (hk c hc).2; omega)).mpr ⟨c, hc, h1, rfl⟩, ?_⟩
      rw [L_doors hK ht hp (hk c hc).2]
      exact h3
theorem nI_nm1 {n : Nat} (h : n < 2 ^ 31) : ¬ nI n = (-1) := by
  intro e
  have h1 := congrArg Int32.toInt e
  rw [nI_toInt h] at h1
  have h2 : (-1 : Int32).toInt = -1 := rfl
  omega
theorem L_exp {ri cd te pi : Nat → Int32} {K Dn : Nat} (hK : K ≤ 8) (ht : okTe cd te K) (hp : okPi te ri pi K Dn) {ko so lp mu tl : Nat → Int32} {tn kn : Nat → Nat} {C : Nat} (hk : okK ko kn C K) :
    jExp pi te Dn K ko so lp tn C 8 = mExp ri cd ko so mu tl lp K Dn C kn tn 8 := by
  unfold jExp mExp
  rw [L_risk hK ht hp hk]
  refine fo_cong (fun pe t hpe => ?_)
  rw [L_reach hK ht hp hk (nI_nm1 (by omega))]
/-! what is told of a copy -/
def okMu (so ld mu : Nat → Int32) (tn : Nat → Nat) (C : Nat) : Prop := ∀ c, c < C → so c = 1 → ld (c * 9 + tn c - 1) = mu c
theorem L_due {so ld mu : Nat → Int32} {tn : Nat → Nat} {C : Nat} (h : okMu so ld mu tn C) {c : Nat} (hc : c < C) : jDue so ld tn c = if so c = 1 then mu c else -1 := by
  unfold jDue
  by_cases h1 : so c = 1
  · rw [if_pos h1, if_pos h1, h c hc h1]
  · rw [if_neg h1, if_neg h1]
theorem L_told {ko so tl lp ld mu : Nat → Int32} {tn : Nat → Nat} {C : Nat} (h : okMu so ld mu tn C) {c : Nat} (hc : c < C) (wh : Int32) : jTold ko so tl lp ld tn c wh = mTold ko so mu tl lp tn c wh := by
  unfold jTold mTold
  rw [L_due h hc]
  rfl
theorem L_late {so ld mu : Nat → Int32} {tn : Nat → Nat} {C : Nat} (h : okMu so ld mu tn C) (dy : Int32) : jLate so ld tn dy C = mLate so mu dy C := by
  unfold jLate mLate
  refine fo_cong (fun c t hc => ?_)
  by_cases h1 : so c = 1
  · rw [if_pos h1, if_pos h1, L_due h hc, if_pos h1]
  · rw [if_neg h1, if_neg h1]
theorem L_digest {ri cd te pi : Nat → Int32} {K Dn : Nat} (hK : K ≤ 8) (ht : okTe cd te K) (hp : okPi te ri pi K Dn) {ko so tl lp ld mu : Nat → Int32} {tn : Nat → Nat} {C : Nat} (hm : okMu so ld mu tn C) (mv dy : Int32) :
    jDigC ko so tl lp ld tn (mix (mix (mix (jDigD ri pi (mix (jDigK cd (mix 173 (nI K)) K) (nI Dn)) Dn) mv) dy) (nI C)) C = mDigC ko so mu tl lp tn (mix (mix (mix (mDigD ri cd K (mix (mDigK cd (5363 + Int32.toInt64 (nI K)) K) (nI Dn)) Dn) mv) dy) (nI C)) C := by
  have e0 : mix 173 (nI K) = 5363 + Int32.toInt64 (nI K) := by
    unfold mix
    rw [show (173 : Int64) * 31 = 5363 from by decide]
  have e1 : jDigK cd (mix 173 (nI K)) K = mDigK cd (5363 + Int32.toInt64 (nI K)) K := by rw [e0]; rfl
  have e2 : ∀ d, jDigD ri pi d Dn = mDigD ri cd K d Dn := by
    intro d
    unfold jDigD mDigD
    refine fo_cong (fun k d2 hk => ?_)
    unfold jMixDoor mDigP
    refine fo_cong (fun q d3 hq => ?_)
    rw [L_pins hK ht (hp k hk) hq]
  have e3 : ∀ d, jDigC ko so tl lp ld tn d C = mDigC ko so mu tl lp tn d C := by
    intro d
    unfold jDigC mDigC
    refine fo_cong (fun c d2 hc => ?_)
    unfold jMixCopy mDigW
    rw [L_due hm hc]
    rfl
  rw [e3, e2, e1]
/-! who had a copy -/
theorem jFst_inv {p : Nat → Bool} : ∀ {n : Nat}, (∀ i, jFst p n = some i → i < n ∧ p i = true) ∧ (jFst p n = none → ∀ i, i < n → ¬ p i = true)
  | 0 => ⟨fun i h => by simp [jFst] at h, fun _ i hi => absurd hi (Nat.not_lt_zero i)⟩
  | n + 1 => by
    have ih := jFst_inv (p := p) (n := n)
    constructor
    · intro i h
      simp only [jFst] at h
      cases hq : jFst p n with
      | some j =>
        rw [hq] at h
        simp only [Option.some.injEq] at h
        subst h
        have := ih.1 j hq
        exact ⟨by omega, this.2⟩
      | none =>
        rw [hq] at h
        by_cases hp : p n = true
        · simp only [if_pos hp, Option.some.injEq] at h
          subst h
          exact ⟨by omega, hp⟩
        · simp [if_neg hp] at h
    · intro h i hi
      simp only [jFst] at h
      cases hq : jFst p n with
      | some j => rw [hq] at h; simp at h
      | none =>
        rw [hq] at h
        by_cases hp : p n = true
        · simp [if_pos hp] at h
        · rcases Nat.lt_or_ge i n with q | q
          · exact ih.2 hq i q
          · rw [show i = n by omega]; exact hp
theorem fo_none {P : Nat → Prop} [DecidablePred P] {v : Nat → Int32} {a : Int32} : ∀ {n : Nat}, (∀ i, i < n → ¬ P i) → fo (fun i h => if P i then v i else h) a n = a
  | 0, _ => rfl
  | n + 1, h => by rw [fo_s, if_neg (h n (by omega)), fo_none (fun i hi => h i (by omega))]
theorem fo_only {P : Nat → Prop} [DecidablePred P] {v : Nat → Int32} {a : Int32} {i : Nat} (hi : P i) : ∀ {n : Nat}, i < n → (∀ j, j < n → P j → j = i) → fo (fun i h => if P i then v i else h) a n = v i
  | 0, h, _ => absurd h (Nat.not_lt_zero i)
  | n + 1, h, hu => by
    rw [fo_s]
    by_cases hn : P n
    · rw [if_pos hn, hu n (by omega) hn]
    · rw [if_neg hn]
      rcases Nat.lt_or_ge i n with q | q
      · exact fo_only hi q (fun j hj => hu j (by omega))
      · exact absurd (show P n by rw [show n = i by omega]; exact hi) hn
/-- the loans of the copies follow each other -/
def okHo (so lb le : Nat → Int32) (tn : Nat → Nat) (C : Nat) (dy : Int32) : Prop := ∀ c, c < C → (∀ i, i < tn c → lb (c * 9 + i) ≤ dy) ∧ (∀ i, i + 1 < tn c → le (c * 9 + i) ≤ lb (c * 9 + (i + 1)) ∧ lb (c * 9 + i) ≤ lb (c * 9 + (i + 1))) ∧ (¬ so c = 1 → ∀ i, i + 1 = tn c → le (c * 9 + i) ≤ dy)
/-- the ends on both sides -/
def okEnd (le me : Nat → Int32) : Prop := ∀ i, (me i = (-1) ∧ le i = 10000) ∨ (me i = le i ∧ ¬ me i = (-1))
theorem lb_mono {so lb le : Nat → Int32} {tn : Nat → Nat} {C : Nat} {dy : Int32} (h : okHo so lb le tn C dy) {c : Nat} (hc : c < C) : ∀ (n i : Nat), i + n < tn c → (lb (c * 9 + i)).toInt ≤ (lb (c * 9 + (i + n))).toInt
  | 0, i, _ => Int.le_refl _
  | n + 1, i, hn => by
    have h1 := lb_mono h hc n i (by omega)
    have h2 := ((h c hc).2.1 (i + n) (by omega)).2
    rw [Int32.le_iff_toInt_le] at h2
    exact Int.le_trans h1 h2
theorem L_holderAt {so lp lb le me : Nat → Int32} {tn : Nat → Nat} {C : Nat} {dy da : Int32} (h : okHo so lb le tn C dy) (he : okEnd le me) {c : Nat} (hc : c < C) (hda : da ≤ dy) (hdy : dy ≤ 9999) : jHolderOn lp lb le c (tn c) da = mHolderAt lp lb me c da (tn c) := by
  have hP : ∀ i t, i < tn c → (if da < lb (c * 9 + i) then t else if me (c * 9 + i) = (-1) then lp (c * 9 + i) else if me (c * 9 + i) ≤ da then t else lp (c * 9 + i)) = if (¬ da < lb (c * 9 + i) ∧ ¬ le (c * 9 + i) ≤ da) then lp (c * 9 + i) else t := by
    intro i t _
    by_cases h1 : da < lb (c * 9 + i)
    · rw [if_pos h1, if_neg (fun q => q.1 h1)]
    · rw [if_neg h1]
      rcases he (c * 9 + i) with ⟨e1, e2⟩ | ⟨e1, e2⟩
      · have hq : ¬ le (c * 9 + i) ≤ da := by
          rw [e2]
          intro q
          rw [Int32.le_iff_toInt_le] at q hda hdy
          have a1 : (10000 : Int32).toInt = 10000 := rfl
          have a2 : (9999 : Int32).toInt = 9999 := rfl
          omega
        rw [if_pos e1, if_pos ⟨h1, hq⟩]
      · rw [if_neg e2, e1]
        by_cases h2 : le (c * 9 + i) ≤ da
        · rw [if_pos h2, if_neg (fun q => q.2 h2)]
        · rw [if_neg h2, if_pos ⟨h1, h2⟩]
  have hu : ∀ i j, i < tn c → j < tn c → (¬ da < lb (c * 9 + i) ∧ ¬ le (c * 9 + i) ≤ da) → (¬ da < lb (c * 9 + j) ∧ ¬ le (c * 9 + j) ≤ da) → i < j → False := by
    intro i j hi hj h1 h2 hij
    have a1 := ((h c hc).2.1 i (by omega)).1
    have a2 := lb_mono h hc (j - (i + 1)) (i + 1) (by omega)
    rw [show i + 1 + (j - (i + 1)) = j by omega] at a2
    have a3 := h1.2
    have a4 := h2.1
    rw [Int32.le_iff_toInt_le] at a1 a3
    rw [Int32.lt_iff_toInt_lt] at a4
    omega
  unfold mHolderAt
  rw [fo_cong hP]
  unfold jHolderOn
  cases hq : jFst (fun n => decide (¬ da < lb (c * 9 + n) ∧ ¬ le (c * 9 + n) ≤ da)) (tn c) with
  | none =>
    have := jFst_inv.2 hq
    rw [fo_none (P := fun i => ¬ da < lb (c * 9 + i) ∧ ¬ le (c * 9 + i) ≤ da) (fun i hi q => this i hi (decide_eq_true q))]
  | some i =>
    have hi := jFst_inv.1 i hq
    have hPi := of_decide_eq_true hi.2
    rw [fo_only (P := fun i => ¬ da < lb (c * 9 + i) ∧ ¬ le (c * 9 + i) ≤ da) (i := i) hPi hi.1 (fun j hj q => by
      rcases Nat.lt_trichotomy i j with z | z | z
      · exact (hu i j hi.1 hj hPi q z).elim
      · exact z.symm
      · exact (hu j i hj hi.1 q hPi z).elim)]
