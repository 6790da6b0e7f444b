/-! suggest, on both sides -/
theorem jFst_low {p : Nat → Bool} : ∀ {n i : Nat}, jFst p n = some i → ∀ j, j < i → ¬ p j = true
  | 0, i, h => by simp [jFst] at h
  | n + 1, i, h => by
    simp only [jFst] at h
    cases hq : jFst p n with
    | some j =>
      rw [hq] at h
      simp only [Option.some.injEq] at h
      subst h
      exact jFst_low hq
    | none =>
      rw [hq] at h
      by_cases hp : p n = true
      · simp only [if_pos hp, Option.some.injEq] at h
        subst h
        exact jFst_inv.2 hq
      · simp [if_neg hp] at h
theorem nI_in8 {a b : Nat} (ha : a < 1024) (hb : b < 1024) (h : nI a = nI b) : a = b := by
  have hp : (1024 : Nat) < 2 ^ 31 := by decide
  have := congrArg Int32.toInt h
  rw [nI_toInt (by omega), nI_toInt (by omega)] at this
  omega
theorem first0 : ∀ n k, k < n → mFirst0 n k = (-1)
  | 0, _, h => absurd h (Nat.not_lt_zero _)
  | n + 1, k, h => by
    have e : mFirst0 (n + 1) = upd (mFirst0 n) n (-1) := rfl
    rw [e]
    by_cases q : k = n
    · subst q; rw [pk_us]
    · rw [pk_un q]; exact first0 n k (by omega)
/-- the lowest copy of key k that can be lent, as the reference finds it -/
theorem mFirst_inv {so tl : Nat → Int32} {kn : Nat → Nat} {C : Nat} {k : Nat} (hk : k < 8) : ∀ n, n ≤ C →
    (mFirst so tl kn C n k = (-1) ∧ ∀ c, C - n ≤ c → c < C → ¬ (kn c = k ∧ so c = 0 ∧ ¬ 9 ≤ tl c)) ∨
    (∃ c, C - n ≤ c ∧ c < C ∧ (kn c = k ∧ so c = 0 ∧ ¬ 9 ≤ tl c) ∧ mFirst so tl kn C n k = nI c ∧ ∀ j, C - n ≤ j → j < c → ¬ (kn j = k ∧ so j = 0 ∧ ¬ 9 ≤ tl j))
  | 0, _ => Or.inl ⟨first0 8 k hk, fun c h1 h2 => by omega⟩
  | n + 1, hn => by
    have ih := mFirst_inv (so := so) (tl := tl) (kn := kn) (C := C) hk n (by omega)
    unfold mFirst at ih ⊢
    rw [fo_s]
    have hc : C - 1 - n = C - (n + 1) := by omega
    rw [hc]
    by_cases hP : kn (C - (n + 1)) = k ∧ so (C - (n + 1)) = 0 ∧ ¬ 9 ≤ tl (C - (n + 1))
    · rw [if_pos hP.2.1, if_neg hP.2.2, hP.1, pk_us]
      exact Or.inr ⟨C - (n + 1), Nat.le_refl _, by omega, hP, rfl, fun j h1 h2 => by omega⟩
    · have e : (if so (C - (n + 1)) = 0 then (if 9 ≤ tl (C - (n + 1)) then fo (fun i f => if so (C - 1 - i) = 0 then (if 9 ≤ tl (C - 1 - i) then f else upd f (kn (C - 1 - i)) (nI (C - 1 - i))) else f) (mFirst0 8) n else upd (fo (fun i f => if so (C - 1 - i) = 0 then (if 9 ≤ tl (C - 1 - i) then f else upd f (kn (C - 1 - i)) (nI (C - 1 - i))) else f) (mFirst0 8) n) (kn (C - (n + 1))) (nI (C - (n + 1)))) else fo (fun i f => if so (C - 1 - i) = 0 then (if 9 ≤ tl (C - 1 - i) then f else upd f (kn (C - 1 - i)) (nI (C - 1 - i))) else f) (mFirst0 8) n) k = fo (fun i f => if so (C - 1 - i) = 0 then (if 9 ≤ tl (C - 1 - i) then f else upd f (kn (C - 1 - i)) (nI (C - 1 - i))) else f) (mFirst0 8) n k := by
        by_cases h1 : so (C - (n + 1)) = 0
        · rw [if_pos h1]
          by_cases h2 : 9 ≤ tl (C - (n + 1))
          · rw [if_pos h2]
          · rw [if_neg h2, pk_un (fun q => hP ⟨q.symm, h1, h2⟩)]
        · rw [if_neg h1]
      rw [e]
      rcases ih with ⟨h1, h2⟩ | ⟨c, c1, c2, c3, c4, c5⟩
      · refine Or.inl ⟨h1, fun c q1 q2 => ?_⟩
        rcases Nat.lt_or_ge c (C - n) with z | z
        · rw [show c = C - (n + 1) by omega]; exact hP
        · exact h2 c z q2
      · refine Or.inr ⟨c, by omega, c2, c3, c4, fun j q1 q2 => ?_⟩
        rcases Nat.lt_or_ge j (C - n) with z | z
        · rw [show j = C - (n + 1) by omega]; exact hP
        · exact c5 j z q2
theorem L_first {ko so tl : Nat → Int32} {kn : Nat → Nat} {C K : Nat} (hK : K ≤ 8) (hC : C ≤ 24) (hk : okK ko kn C K) {k : Nat} (hk8 : k < 8) : jFirst ko so tl (nI k) C = mFirst so tl kn C C k := by
  have hP : ∀ c, c < C → ((decide (ko c = nI k) && jCan so tl c) = true ↔ (kn c = k ∧ so c = 0 ∧ ¬ 9 ≤ tl c)) := by
    intro c hc
    unfold jCan
    rw [Bool.and_eq_true, decide_eq_true_iff, decide_eq_true_iff, (hk c hc).1]
    have := (hk c hc).2
    constructor
    · rintro ⟨h1, h2⟩
      exact ⟨nI_in8 (by omega) (by omega) h1, h2⟩
    · rintro ⟨h1, h2⟩
      exact ⟨by rw [h1], h2⟩
  unfold jFirst
  cases hq : jFst (fun c => decide (ko c = nI k) && jCan so tl c) C with
  | none =>
    have h0 := jFst_inv.2 hq
    rcases mFirst_inv (so := so) (tl := tl) (kn := kn) (C := C) hk8 C (Nat.le_refl _) with ⟨h1, _⟩ | ⟨c, c1, c2, c3, _⟩
    · exact h1.symm
    · exact absurd ((hP c c2).mpr c3) (h0 c c2)
  | some c =>
    have h0 := jFst_inv.1 c hq
    have hl := jFst_low hq
    rcases mFirst_inv (so := so) (tl := tl) (kn := kn) (C := C) hk8 C (Nat.le_refl _) with ⟨_, h2⟩ | ⟨c', c1, c2, c3, c4, c5⟩
    · exact absurd ((hP c h0.1).mp h0.2) (h2 c (by omega) h0.1)
    · rw [c4]
      rcases Nat.lt_trichotomy c c' with z | z | z
      · exact absurd ((hP c h0.1).mp h0.2) (c5 c (by omega) z)
      · rw [z]
      · exact absurd ((hP c' c2).mpr c3) (hl c' z)
theorem jFirst_lt {ko so tl : Nat → Int32} {key : Int32} {C : Nat} : jFirst ko so tl key C = (-1) ∨ ∃ c, c < C ∧ jFirst ko so tl key C = nI c := by
  unfold jFirst
  cases hq : jFst (fun c => decide (ko c = key) && jCan so tl c) C with
  | none => exact Or.inl rfl
  | some c => exact Or.inr ⟨c, (jFst_inv.1 c hq).1, rfl⟩
section SG
variable {ri cd fx cl dq : Nat → Int32} {K Dn : Nat}
/-- one set of keys, on both sides -/
theorem L_sset (hK : K ≤ 8) (hf : ∀ k, k < K → cl k = fx k) (hq : ∀ k, k < K → dq k = mDoors ri cd K (cd k) Dn) (re set : Int32) : ∀ n, n ≤ K →
    (mSSet ri cd fx K Dn re set n).2.1 = re ||| jSOpen dq set n ∧
    ((mSSet ri cd fx K Dn re set n).2.2 = true ↔ ¬ jAny n (fun k => decide (jHas set k ∧ cl k = (-1))) = true) ∧
    ((mSSet ri cd fx K Dn re set n).2.2 = true → (mSSet ri cd fx K Dn re set n).1 = jSCop0 cl set n)
  | 0, _ => ⟨by show re = re ||| 0; exact Int32.or_zero.symm, ⟨fun _ q => by obtain ⟨i, hi, _⟩ := jAny_iff.mp q; exact absurd hi (Nat.not_lt_zero i), fun _ => rfl⟩, fun _ => rfl⟩
  | n + 1, hn => by
    obtain ⟨h1, h2, h3⟩ := L_sset hK hf hq re set n (by omega)
    rw [mSSet_s]
    revert h1 h2 h3
    generalize mSSet ri cd fx K Dn re set n = b
    intro h1 h2 h3
    have hb : jHasB set (nI n) = true ↔ jHas set n := by rw [bt_hasB (by omega)]; exact (bt_has (by omega)).symm
    have hA : jAny (n + 1) (fun k => decide (jHas set k ∧ cl k = (-1))) = true ↔ (jAny n (fun k => decide (jHas set k ∧ cl k = (-1))) = true ∨ (jHas set n ∧ cl n = (-1))) := by
      rw [jAny_iff, jAny_iff]
      constructor
      · rintro ⟨i, hi, h⟩
        rcases Nat.lt_or_ge i n with q | q
        · exact Or.inl ⟨i, q, h⟩
        · rw [show i = n by omega] at h; exact Or.inr (of_decide_eq_true h)
      · rintro (⟨i, hi, h⟩ | h)
        · exact ⟨i, by omega, h⟩
        · exact ⟨n, by omega, decide_eq_true h⟩
    unfold mSIn
    by_cases hh : jHas set n
    · rw [if_pos (hb.mpr hh)]
      refine ⟨?_, ?_, ?_⟩
      · show b.2.1 ||| mDoors ri cd K (cd n) Dn = re ||| fo _ 0 (n + 1)
        rw [fo_s, if_pos hh, h1, hq n (by omega), Int32.or_assoc]
        rfl
      · show (b.2.2 && !(decide (fx n = (-1)))) = true ↔ _
        rw [hA, Bool.and_eq_true, h2, ← hf n (by omega)]
        simp only [Bool.not_eq_true', decide_eq_false_iff_not]
        constructor
        · rintro ⟨q1, q2⟩ (q | q)
          · exact q1 q
          · exact q2 q.2
        · intro q
          exact ⟨fun z => q (Or.inl z), fun z => q (Or.inr ⟨hh, z⟩)⟩
      · intro q
        have q' : (b.2.2 && !(decide (fx n = (-1)))) = true := q
        rw [Bool.and_eq_true] at q'
        have hn1 : ¬ fx n = (-1) := by simpa using q'.2
        show (if fx n = (-1) then b.1 else b.1 ||| ((1 : Int32) <<< (fx n &&& 31))) = fo _ 0 (n + 1)
        rw [fo_s, if_pos hh, if_neg hn1, h3 q'.1, hf n (by omega)]
        rfl
    · rw [if_neg (fun z => hh (hb.mp z))]
      refine ⟨?_, ?_, ?_⟩
      · show _ = re ||| fo _ 0 (n + 1)
        rw [fo_s, if_neg hh, h1]
        rfl
      · rw [hA, h2]
        constructor
        · rintro q1 (q | q)
          · exact q1 q
          · exact hh q.1
        · intro q z
          exact q (Or.inl z)
      · intro q
        show _ = fo _ 0 (n + 1)
        rw [fo_s, if_neg hh, h3 q]
        rfl
theorem bt_doors8 {k i : Nat} (hD : Dn ≤ 8) (hi : Dn ≤ i) (hi2 : i < 32) : bt (mDoors ri cd K (cd k) Dn) i = false := by
  cases hb : bt (mDoors ri cd K (cd k) Dn) i with
  | false => rfl
  | true =>
    unfold mDoors at hb
    rw [b_fo, b_0] at hb
    rcases hb with hb | ⟨d, hd, _, h⟩
    · exact absurd hb (by decide)
    · rw [b_sh1 (by omega) hi2] at h
      have := of_decide_eq_true h
      omega
theorem bt_scop {C : Nat} (hC : C ≤ 24) (hcl : ∀ k, k < K → cl k = (-1) ∨ ∃ c, c < C ∧ cl k = nI c) {set : Int32} (hn : ¬ jAny K (fun k => decide (jHas set k ∧ cl k = (-1))) = true) : bt (jSCop0 cl set K) 31 = false := by
  cases hb : bt (jSCop0 cl set K) 31 with
  | false => rfl
  | true =>
    unfold jSCop0 at hb
    rw [b_fo, b_0] at hb
    rcases hb with hb | ⟨k, hk, h1, h⟩
    · exact absurd hb (by decide)
    · rcases hcl k hk with e | ⟨c, hc, e⟩
      · exact absurd (jAny_iff.mpr ⟨k, hk, decide_eq_true ⟨h1, e⟩⟩) hn
      · rw [e, b_sh1 (by omega) (by omega)] at h
        have := of_decide_eq_true h
        omega
theorem bt_nm1 {x : Int32} (h : bt x 31 = false) : ¬ x = (-1) := by
  intro e
  rw [e, b_m1 31 (by omega)] at h
  exact absurd h (by decide)
theorem pop8 (hD : Dn ≤ 8) (hq : ∀ k, k < K → dq k = mDoors ri cd K (cd k) Dn) {re : Int32} (hre : ∀ i, Dn ≤ i → i < 32 → bt re i = false) (set : Int32) : ∃ q, q ≤ 8 ∧ jPop (re ||| jSOpen dq set K) = nI q := by
  refine ⟨_, ?_, jPop_set hD (fun i h1 h2 => ?_)⟩
  · have := sN_le (f := fun i => (bt (re ||| jSOpen dq set K) i).toNat) (b := 1) (n := Dn) (fun i _ => Bool.toNat_le _)
    omega
  · rw [b_or, hre i h1 h2, Bool.false_or]
    cases hb : bt (jSOpen dq set K) i with
    | false => rfl
    | true =>
      unfold jSOpen at hb
      rw [b_fo, b_0] at hb
      rcases hb with hb | ⟨k, hk, _, h⟩
      · exact absurd hb (by decide)
      · rw [hq k hk, bt_doors8 hD h1 h2] at h
        exact absurd h (by decide)
theorem L_sug {C : Nat} (hK : K ≤ 8) (hD : Dn ≤ 8) (hC : C ≤ 24) (hf : ∀ k, k < K → cl k = fx k) (hcl : ∀ k, k < K → cl k = (-1) ∨ ∃ c, c < C ∧ cl k = nI c) (hq : ∀ k, k < K → dq k = mDoors ri cd K (cd k) Dn) {re : Int32} (hre : ∀ i, Dn ≤ i → i < 32 → bt re i = false) (wa : Int32) : ∀ n,
    (jSug cl dq K re wa n).1 = (mSug ri cd fx K Dn re wa n).1 ∧ ((jSug cl dq K re wa n).1 = (-1) ∨ ∃ q, q ≤ 8 ∧ (mSug ri cd fx K Dn re wa n).2 = nI q ∧ (jSug cl dq K re wa n).2 = jPop (jSug cl dq K re wa n).1 * 9 + nI q)
  | 0 => ⟨rfl, Or.inl rfl⟩
  | n + 1 => by
    obtain ⟨h1, h2⟩ := L_sug hK hD hC hf hcl hq hre wa n
    obtain ⟨s1, s2, s3⟩ := L_sset (cl := cl) (dq := dq) hK hf hq re (nI n) K (Nat.le_refl _)
    rw [jSug_s, mSug_s]
    revert h1 h2
    generalize jSug cl dq K re wa n = a
    generalize mSug ri cd fx K Dn re wa n = b
    intro h1 h2
    unfold jSStep mSStep jContains jSRank
    rw [s1]
    by_cases hA : jAny K (fun k => decide (jHas (nI n) k ∧ cl k = (-1))) = true
    · have e : jSCop cl (nI n) K = (-1) := by unfold jSCop; rw [if_pos hA]
      rw [if_neg (fun q => s2.mp q hA), e, if_pos rfl]
      by_cases hw : decide (wa &&& ((re ||| jSOpen dq (nI n) K) ^^^ (-1)) = 0) = true
      · rw [if_pos hw]; exact ⟨h1, h2⟩
      · rw [if_neg hw]; exact ⟨h1, h2⟩
    have e : jSCop cl (nI n) K = jSCop0 cl (nI n) K := by unfold jSCop; rw [if_neg hA]
    have hne := bt_nm1 (bt_scop hC hcl hA)
    obtain ⟨B, hB, eB⟩ := pop8 hD hq hre (nI n)
    rw [if_pos (s2.mpr hA), s3 (s2.mpr hA), e, eB, if_neg hne]
    revert hne
    generalize jSCop0 cl (nI n) K = co
    intro hne
    by_cases hw : wa &&& ((re ||| jSOpen dq (nI n) K) ^^^ (-1)) = 0
    · rw [if_pos (decide_eq_true hw), if_pos hw]
      obtain ⟨A, hA64, eA⟩ := jPop_nI co
      have hp : (100000 : Nat) < 2 ^ 31 := by decide
      by_cases hb : a.1 = (-1)
      · have hb' : b.1 = (-1) := by rw [← h1]; exact hb
        rw [if_pos hb]
        have hsz : mSize co b.1 = Int32.ofInt ((A : Int) - 99) := by
          unfold mSize
          rw [if_pos hb', eA, show (99 : Int32) = nI 99 from rfl]
          have hall : ∀ A : Nat, A < 64 → nI A - nI 99 = Int32.ofInt ((A : Int) - 99) := by decide +kernel
          exact hall A hA64
        have hneg : ∀ A : Nat, A < 64 → ¬ (0 : Int32) < Int32.ofInt ((A : Int) - 99) ∧ ¬ Int32.ofInt ((A : Int) - 99) = 0 := by decide +kernel
        rw [hsz, if_neg (hneg A hA64).1, if_neg (hneg A hA64).2]
        exact ⟨rfl, Or.inr ⟨B, hB, rfl, by rfl⟩⟩
      · have hb' : ¬ b.1 = (-1) := by rw [← h1]; exact hb
        rw [if_neg hb]
        rcases h2 with h2 | ⟨B0, hB0, e1, e2⟩
        · exact absurd h2 hb
        obtain ⟨A0, hA0, eA0⟩ := jPop_nI a.1
        have hsz : mSize co b.1 = nI A - nI A0 := by
          unfold mSize
          rw [if_neg hb', eA, ← h1, eA0]
        rw [hsz, e1, e2, eA0, eA, show (9 : Int32) = nI 9 from rfl, pk_mul, pk_mul, nI_add, nI_add]
        have hlt : ∀ x y : Nat, x < 10000 → y < 10000 → (nI x < nI y ↔ x < y) := fun x y hx hy => by
          rw [Int32.lt_iff_toInt_lt, nI_toInt (by omega), nI_toInt (by omega)]
          omega
        have heq : ∀ x y : Nat, x < 10000 → y < 10000 → (nI x = nI y ↔ x = y) := fun x y hx hy => by
          constructor
          · intro h
            have := congrArg Int32.toInt h
            rw [nI_toInt (by omega), nI_toInt (by omega)] at this
            omega
          · intro h; rw [h]
        have hsub : ∀ x, x < 64 → ∀ y, y < 64 → ((0 : Int32) < nI x - nI y ↔ y < x) ∧ (nI x - nI y = 0 ↔ x = y) := by decide +kernel
        have hsA := hsub A hA64 A0 hA0
        have hsB := hsub B (by omega) B0 (by omega)
        have nA : A < A0 ∨ A = A0 → ¬ (0 : Int32) < nI A - nI A0 := fun h q => by have := hsA.1.mp q; omega
        have nA' : ¬ A = A0 → ¬ nI A - nI A0 = 0 := fun h q => h (hsA.2.mp q)
        have nB : B < B0 ∨ B = B0 → ¬ (0 : Int32) < nI B - nI B0 := fun h q => by have := hsB.1.mp q; omega
        have nB' : ¬ B = B0 → ¬ nI B - nI B0 = 0 := fun h q => h (hsB.2.mp q)
        have nL : ¬ A * 9 + B < A0 * 9 + B0 → ¬ nI (A * 9 + B) < nI (A0 * 9 + B0) := fun h q => h ((hlt _ _ (by omega) (by omega)).mp q)
        have nE : ¬ A * 9 + B = A0 * 9 + B0 → ¬ nI (A * 9 + B) = nI (A0 * 9 + B0) := fun h q => h ((heq _ _ (by omega) (by omega)).mp q)
        have pL : A * 9 + B < A0 * 9 + B0 → nI (A * 9 + B) < nI (A0 * 9 + B0) := fun h => (hlt _ _ (by omega) (by omega)).mpr h
        have hnew : nI (A * 9 + B) = jPop co * nI 9 + nI B := by rw [eA, pk_mul, nI_add]
        rcases Nat.lt_trichotomy A A0 with z | z | z
        · rw [if_pos (pL (by omega)), if_neg (nA (Or.inl z)), if_neg (nA' (by omega))]
          exact ⟨rfl, Or.inr ⟨B, hB, rfl, hnew⟩⟩
        · rw [if_neg (nA (Or.inr z)), if_pos (hsA.2.mpr z)]
          rcases Nat.lt_trichotomy B B0 with y | y | y
          · rw [if_pos (pL (by omega)), if_neg (nB (Or.inl y)), if_neg (nB' (by omega))]
            exact ⟨rfl, Or.inr ⟨B, hB, rfl, hnew⟩⟩
          · rw [if_neg (nL (by omega)), if_pos ((heq _ _ (by omega) (by omega)).mpr (by rw [z, y])), if_neg (nB (Or.inr y)), if_pos (hsB.2.mpr y)]
            by_cases x1 : a.1 ≤ co
            · rw [if_pos x1]
              by_cases x2 : co ≤ b.1
              · rw [if_pos x2]
                have ec : a.1 = co := by
                  rw [← h1] at x2
                  rw [Int32.le_iff_toInt_le] at x1 x2
                  exact Int32.toInt_inj.mp (by omega)
                exact ⟨ec, Or.inr ⟨B, hB, rfl, by rw [e2, y]; rfl⟩⟩
              · rw [if_neg x2]
                exact ⟨h1, Or.inr ⟨B0, hB0, e1, e2⟩⟩
            · have x2 : co ≤ b.1 := by
                have := kc_nlt2 x1
                rw [← h1]
                rw [Int32.lt_iff_toInt_lt] at this
                rw [Int32.le_iff_toInt_le]
                omega
              rw [if_neg x1, if_pos x2]
              exact ⟨rfl, Or.inr ⟨B, hB, rfl, hnew⟩⟩
          · rw [if_neg (nL (by omega)), if_neg (nE (by omega)), if_pos (hsB.1.mpr y)]
            exact ⟨h1, Or.inr ⟨B0, hB0, e1, e2⟩⟩
        · rw [if_neg (nL (by omega)), if_neg (nE (by omega)), if_pos (hsA.1.mpr z)]
          exact ⟨h1, Or.inr ⟨B0, hB0, e1, e2⟩⟩
    · rw [if_neg (fun q => hw (of_decide_eq_true q)), if_neg hw]
      exact ⟨h1, h2⟩
end SG
theorem bt_reach {ri cd te pi : Nat → Int32} {K Dn : Nat} (hK : K ≤ 8) (hD : Dn ≤ 8) (ht : okTe cd te K) (hp : okPi te ri pi K Dn) {ko so lp : Nat → Int32} {tn : Nat → Nat} {C : Nat} (pe : Int32) {i : Nat} (h1 : Dn ≤ i) (h2 : i < 32) : bt (jReach pi te Dn K ko so lp tn C pe) i = false := by
  cases hb : bt (jReach pi te Dn K ko so lp tn C pe) i with
  | false => rfl
  | true =>
    unfold jReach at hb
    rw [bt_doorsAll hK] at hb
    obtain ⟨k, hk, _, h⟩ := hb
    rw [L_doors hK ht hp hk, bt_doors8 hD h1 h2] at h
    exact absurd h (by decide)
theorem L_suggest {ri cd te pi : Nat → Int32} {K Dn : Nat} (hK : K ≤ 8) (hD : Dn ≤ 8) (ht : okTe cd te K) (hp : okPi te ri pi K Dn) {ko so tl lp mu cl dq : Nat → Int32} {tn kn : Nat → Nat} {C : Nat} (hC : C ≤ 24) (hk : okK ko kn C K) {pe : Int32} (hpe : ¬ pe = (-1)) (wa : Int32) :
    (jSug (jToLend ko so tl C cl K) (jOpened pi te Dn dq K) K (jReach pi te Dn K ko so lp tn C pe) wa (2 ^ K)).1 = (mSug ri cd (mFirst so tl kn C C) K Dn (mReach ri cd ko so mu tl lp K Dn kn tn pe C) wa (2 ^ K)).1 := by
  rw [← L_reach (mu := mu) (tl := tl) hK ht hp hk hpe]
  have hcl : ∀ k, k < K → jToLend ko so tl C cl K k = jFirst ko so tl (nI k) C := fun k h => fo_upd.1 k h
  have hdq : ∀ k, k < K → jOpened pi te Dn dq K k = jDoors pi te k Dn := fun k h => fo_upd.1 k h
  exact (L_sug (C := C) hK hD hC (fun k h => by rw [hcl k h, L_first hK hC hk (by omega)]) (fun k h => by rw [hcl k h]; exact jFirst_lt) (fun k h => by rw [hdq k h, L_doors hK ht hp h]) (fun i h1 h2 => bt_reach hK hD ht hp pe h1 h2) wa (2 ^ K)).1
