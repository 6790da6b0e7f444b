def bt (x : Int32) (i : Nat) : Bool := x.toBitVec.getLsbD i
theorem b_ext {x y : Int32} (h : ∀ i, i < 32 → bt x i = bt y i) : x = y := Int32.toBitVec_inj.mp (BitVec.eq_of_getLsbD_eq (fun i hi => h i hi))
theorem b_or (x y : Int32) (i : Nat) : bt (x ||| y) i = (bt x i || bt y i) := by unfold bt; rw [Int32.toBitVec_or, BitVec.getLsbD_or]
theorem b_and (x y : Int32) (i : Nat) : bt (x &&& y) i = (bt x i && bt y i) := by unfold bt; rw [Int32.toBitVec_and, BitVec.getLsbD_and]
theorem b_xor (x y : Int32) (i : Nat) : bt (x ^^^ y) i = (bt x i ^^ bt y i) := by unfold bt; rw [Int32.toBitVec_xor, BitVec.getLsbD_xor]
theorem b_big {x : Int32} {i : Nat} (h : 32 ≤ i) : bt x i = false := BitVec.getLsbD_of_ge _ _ h
theorem b_m1 : ∀ i, i < 32 → bt (-1) i = true := by decide +kernel
theorem b_0 (i : Nat) : bt 0 i = false := BitVec.getLsbD_zero
theorem s_l : ∀ n, n < 32 → ((nI n &&& 31).toBitVec.smod 32).toNat = n := by decide +kernel
theorem s_u : ∀ n, n < 32 → (((nI n).toUInt32 &&& Int32.toUInt32 31).toBitVec % 32).toNat = n := by decide +kernel
theorem b_shl (n : Nat) (hn : n < 32) (x : Int32) {i : Nat} (hi : i < 32) : bt (x <<< (nI n &&& 31)) i = (decide (n ≤ i) && bt x (i - n)) := by
  unfold bt
  rw [Int32.toBitVec_shiftLeft]
  show (x.toBitVec <<< ((nI n &&& 31).toBitVec.smod 32).toNat).getLsbD i = _
  rw [s_l n hn, BitVec.getLsbD_shiftLeft]
  rcases Nat.lt_or_ge i n with h | h
  · simp [h, Nat.not_le.mpr h]
  · simp [hi, h, Nat.not_lt.mpr h]
theorem b_ushr (n : Nat) (hn : n < 32) (x : Int32) (i : Nat) : bt ((x.toUInt32 >>> ((nI n).toUInt32 &&& Int32.toUInt32 31)).toInt32) i = bt x (n + i) := by
  show (x.toUInt32 >>> ((nI n).toUInt32 &&& Int32.toUInt32 31)).toBitVec.getLsbD i = x.toUInt32.toBitVec.getLsbD (n + i)
  rw [UInt32.toBitVec_shiftRight]
  show (x.toUInt32.toBitVec >>> (((nI n).toUInt32 &&& Int32.toUInt32 31).toBitVec % 32).toNat).getLsbD i = _
  rw [s_u n hn, BitVec.getLsbD_ushiftRight]
theorem b_sshr (n : Nat) (hn : n < 32) (x : Int32) {i : Nat} (hi : i < 32) : bt (x >>> (nI n &&& 31)) i = if n + i < 32 then bt x (n + i) else bt x 31 := by
  unfold bt
  rw [Int32.toBitVec_shiftRight]
  show (x.toBitVec.sshiftRight ((nI n &&& 31).toBitVec.smod 32).toNat).getLsbD i = _
  rw [s_l n hn, BitVec.getLsbD_sshiftRight, BitVec.msb_eq_getLsbD_last]
  simp [hi]
theorem b_shl8 (x : Int32) {i : Nat} (hi : i < 32) : bt (x <<< ((8 : Int32) &&& 31)) i = (decide (8 ≤ i) && bt x (i - 8)) := b_shl 8 (by omega) x hi
theorem b_shl16 (x : Int32) {i : Nat} (hi : i < 32) : bt (x <<< ((16 : Int32) &&& 31)) i = (decide (16 ≤ i) && bt x (i - 16)) := b_shl 16 (by omega) x hi
theorem b_shl24 (x : Int32) {i : Nat} (hi : i < 32) : bt (x <<< ((24 : Int32) &&& 31)) i = (decide (24 ≤ i) && bt x (i - 24)) := b_shl 24 (by omega) x hi
theorem b_sshr8 (x : Int32) {i : Nat} (hi : i < 32) : bt (x >>> ((8 : Int32) &&& 31)) i = if 8 + i < 32 then bt x (8 + i) else bt x 31 := b_sshr 8 (by omega) x hi
/-! sets as bits (the rows above are of kit/laws/BITS.to-paste) -/
theorem b_1 : ∀ i, i < 32 → bt 1 i = decide (i = 0) := by decide +kernel
theorem b_3 : ∀ i, i < 32 → bt 3 i = decide (i < 2) := by decide +kernel
theorem b_15 : ∀ i, i < 32 → bt 15 i = decide (i < 4) := by decide +kernel
theorem b_sh1 {g : Nat} (hg : g < 32) {i : Nat} (hi : i < 32) : bt ((1 : Int32) <<< (nI g &&& 31)) i = decide (i = g) := by
  rw [b_shl g hg 1 hi]
  rcases Nat.lt_or_ge i g with h | h
  · rw [decide_eq_false (Nat.not_le.mpr h), decide_eq_false (by omega), Bool.false_and]
  · rw [decide_eq_true h, b_1 (i - g) (by omega), Bool.true_and]
    exact decide_eq_decide.mpr (by omega)
theorem b_one {x : Int32} (h : ∀ i, 0 < i → i < 32 → bt x i = false) : x = 1 ↔ bt x 0 = true := by
  constructor
  · intro e; rw [e]; decide
  · intro e
    refine b_ext (fun i hi => ?_)
    rw [b_1 i hi]
    rcases Nat.eq_zero_or_pos i with h0 | h0
    · subst h0; rw [e]; rfl
    · rw [h i h0 hi, decide_eq_false (by omega)]
theorem bt_has {s : Int32} {k : Nat} (hk : k < 32) : jHas s k ↔ bt s k = true := by
  unfold jHas
  rw [b_one (fun i h0 hi => by rw [b_and, b_1 i hi, decide_eq_false (by omega), Bool.and_false])]
  rw [b_and, b_sshr k hk s (by omega), if_pos (by omega), Nat.add_zero, b_1 0 (by omega)]
  simp
theorem bt_hasB {s : Int32} {k : Nat} (hk : k < 32) : jHasB s (nI k) = bt s k := by
  rw [Bool.eq_iff_iff]
  unfold jHasB
  rw [decide_eq_true_iff]
  exact bt_has hk
/-- the bits of a union that a loop makes -/
theorem b_fo {P : Nat → Prop} [DecidablePred P] {f : Nat → Int32} {a : Int32} {i : Nat} : ∀ n, bt (fo (fun k t => if P k then t ||| f k else t) a n) i = true ↔ bt a i = true ∨ ∃ k, k < n ∧ P k ∧ bt (f k) i = true
  | 0 => by simp [fo]
  | n + 1 => by
    rw [fo_s]
    have ih := b_fo (P := P) (f := f) (a := a) (i := i) n
    by_cases h : P n
    · rw [if_pos h, b_or, Bool.or_eq_true, ih]
      constructor
      · rintro ((h1 | ⟨k, hk, h1, h2⟩) | h1)
        · exact Or.inl h1
        · exact Or.inr ⟨k, by omega, h1, h2⟩
        · exact Or.inr ⟨n, by omega, h, h1⟩
      · rintro (h1 | ⟨k, hk, h1, h2⟩)
        · exact Or.inl (Or.inl h1)
        · rcases Nat.lt_or_ge k n with q | q
          · exact Or.inl (Or.inr ⟨k, q, h1, h2⟩)
          · rw [show k = n by omega] at h2; exact Or.inr h2
    · rw [if_neg h, ih]
      constructor
      · rintro (h1 | ⟨k, hk, h1, h2⟩)
        · exact Or.inl h1
        · exact Or.inr ⟨k, by omega, h1, h2⟩
      · rintro (h1 | ⟨k, hk, h1, h2⟩)
        · exact Or.inl h1
        · rcases Nat.lt_or_ge k n with q | q
          · exact Or.inr ⟨k, q, h1, h2⟩
          · rw [show k = n by omega] at h1; exact absurd h1 h
/-- .. without a condition -/
theorem b_fo1 {f : Nat → Int32} {a : Int32} {i : Nat} (n : Nat) : bt (fo (fun k t => t ||| f k) a n) i = true ↔ bt a i = true ∨ ∃ k, k < n ∧ bt (f k) i = true := by
  have h := b_fo (P := fun _ => True) (f := f) (a := a) (i := i) n
  simp only [if_true, true_and] at h
  exact h
theorem fo_cong {α : Type} {f g : Nat → α → α} {a : α} : ∀ {n : Nat}, (∀ k t, k < n → f k t = g k t) → fo f a n = fo g a n
  | 0, _ => rfl
  | n + 1, h => by
    rw [fo_s, fo_s, fo_cong (fun k t hk => h k t (by omega)), h n _ (by omega)]
theorem b_not {x : Int32} {i : Nat} (hi : i < 32) : bt (x ^^^ (-1)) i = !(bt x i) := by
  rw [b_xor, b_m1 i hi, Bool.xor_true]
theorem b_eq0 {x : Int32} : x = 0 ↔ ∀ i, i < 32 → bt x i = false := by
  constructor
  · intro h i _; rw [h, b_0]
  · intro h; refine b_ext (fun i hi => ?_); rw [h i hi, b_0]
theorem bt_contains {a b : Int32} : jContains a b = true ↔ ∀ i, i < 32 → bt b i = true → bt a i = true := by
  unfold jContains
  rw [decide_eq_true_iff, b_eq0]
  constructor
  · intro h i hi hb
    have := h i hi
    rw [b_and, b_not hi, hb, Bool.true_and] at this
    simpa using this
  · intro h i hi
    rw [b_and, b_not hi]
    cases hb : bt b i with
    | false => rfl
    | true => rw [h i hi hb]; rfl
/-! digits, teeth, pins -/
def gD (code : Int32) (q : Nat) : Nat := (code >>> (((4 - nI q) * 2) &&& 31)).toBitVec.toNat % 4
theorem gD_lt (code : Int32) (q : Nat) : gD code q < 4 := Nat.mod_lt _ (by decide)
theorem jDigit_g (code : Int32) (q : Nat) : jDigit code (nI q) = nI (gD code q) := pk_and (m := 3) _ 2 rfl
theorem mDigit_g (code : Int32) (q : Nat) : mDigit code (nI q) = nI (gD code q) := by
  unfold mDigit
  rw [Int32.mul_comm]
  exact jDigit_g code q
theorem tooth_g (code : Int32) {q : Nat} : nI q * 4 + jDigit code (nI q) = nI (4 * q + gD code q) := by
  rw [jDigit_g, show (4 : Int32) = nI 4 from rfl, pk_mul, nI_add, Nat.mul_comm]
theorem bt_teeth (code : Int32) {i : Nat} (hi : i < 32) : bt (jTeeth code 5) i = true ↔ ∃ q, q < 5 ∧ i = 4 * q + gD code q := by
  unfold jTeeth
  rw [b_fo1, b_0]
  constructor
  · rintro (h | ⟨q, hq, h⟩)
    · exact absurd h (by decide)
    · rw [tooth_g, b_sh1 (by have := gD_lt code q; omega) hi] at h
      exact ⟨q, hq, of_decide_eq_true h⟩
  · rintro ⟨q, hq, h⟩
    refine Or.inr ⟨q, hq, ?_⟩
    rw [tooth_g, b_sh1 (by have := gD_lt code q; omega) hi]
    exact decide_eq_true h
theorem bt_teeth4 (code : Int32) {q g : Nat} (hq : q < 5) (hg : g < 4) : bt (jTeeth code 5) (4 * q + g) = true ↔ gD code q = g := by
  rw [bt_teeth code (by omega)]
  constructor
  · rintro ⟨r, hr, h⟩
    have := gD_lt code r
    have e : r = q := by omega
    subst e
    omega
  · intro h
    exact ⟨q, hq, by omega⟩
/-- te: the teeth of the codes cd of K keys -/
def okTe (cd te : Nat → Int32) (K : Nat) : Prop := ∀ k, k < K → te k = jTeeth (cd k) 5
theorem bt_pinsFor {cd te : Nat → Int32} {K : Nat} (hK : K ≤ 8) (ht : okTe cd te K) (r : Int32) {i : Nat} (hi : i < 32) : bt (jPinsFor te r K) i = true ↔ ∃ k, k < K ∧ bt r k = true ∧ ∃ q, q < 5 ∧ i = 4 * q + gD (cd k) q := by
  unfold jPinsFor
  rw [b_fo, b_0]
  constructor
  · rintro (h | ⟨k, hk, h1, h2⟩)
    · exact absurd h (by decide)
    · rw [ht k hk, bt_teeth _ hi] at h2
      exact ⟨k, hk, (bt_has (by omega)).mp h1, h2⟩
  · rintro ⟨k, hk, h1, h2⟩
    exact Or.inr ⟨k, hk, (bt_has (by omega)).mpr h1, by rw [ht k hk, bt_teeth _ hi]; exact h2⟩
theorem bt_pins4 {cd te : Nat → Int32} {K : Nat} (hK : K ≤ 8) (ht : okTe cd te K) (r : Int32) {q g : Nat} (hq : q < 5) (hg : g < 4) : bt (jPinsFor te r K) (4 * q + g) = true ↔ ∃ k, k < K ∧ bt r k = true ∧ gD (cd k) q = g := by
  rw [bt_pinsFor hK ht r (by omega)]
  constructor
  · rintro ⟨k, hk, h1, r', hr, h⟩
    have := gD_lt (cd k) r'
    have e : r' = q := by omega
    subst e
    exact ⟨k, hk, h1, by omega⟩
  · rintro ⟨k, hk, h1, h⟩
    exact ⟨k, hk, h1, q, hq, by omega⟩
theorem bt_pins20 {cd te : Nat → Int32} {K : Nat} (hK : K ≤ 8) (ht : okTe cd te K) (r : Int32) {i : Nat} (h20 : 20 ≤ i) (hi : i < 32) : bt (jPinsFor te r K) i = false := by
  cases h : bt (jPinsFor te r K) i with
  | false => rfl
  | true =>
    obtain ⟨k, hk, h1, q, hq, e⟩ := (bt_pinsFor hK ht r hi).mp h
    have := gD_lt (cd k) q
    omega
theorem bt_mPins {ri cd : Nat → Int32} {K : Nat} (hK : K ≤ 8) (d q : Nat) {i : Nat} (hi : i < 32) : bt (mPins ri cd d (nI q) K) i = true ↔ ∃ k, k < K ∧ bt (ri d) k = true ∧ gD (cd k) q = i := by
  unfold mPins
  rw [b_fo, b_0]
  constructor
  · rintro (h | ⟨k, hk, h1, h2⟩)
    · exact absurd h (by decide)
    · have := gD_lt (cd k) q
      rw [mDigit_g, b_sh1 (by omega) hi] at h2
      rw [bt_hasB (by omega)] at h1
      exact ⟨k, hk, h1, (of_decide_eq_true h2).symm⟩
  · rintro ⟨k, hk, h1, h2⟩
    have := gD_lt (cd k) q
    refine Or.inr ⟨k, hk, by rw [bt_hasB (by omega)]; exact h1, ?_⟩
    rw [mDigit_g, b_sh1 (by omega) hi]
    exact decide_eq_true h2.symm
/-- promise 8's two sides -/
theorem L_pins {ri cd te pi : Nat → Int32} {K d q : Nat} (hK : K ≤ 8) (ht : okTe cd te K) (hp : pi d = jPinsFor te (ri d) K) (hq : q < 5) : jPinsAt pi d (nI q) = mPins ri cd d (nI q) K := by
  refine b_ext (fun i hi => ?_)
  unfold jPinsAt
  rw [show nI q * 4 = nI (4 * q) from by rw [show (4 : Int32) = nI 4 from rfl, pk_mul, Nat.mul_comm], b_and, b_15 i hi, b_sshr (4 * q) (by omega) _ hi, hp]
  rw [Bool.eq_iff_iff, Bool.and_eq_true, decide_eq_true_iff, bt_mPins hK d q hi]
  constructor
  · rintro ⟨h1, h2⟩
    rw [if_pos (by omega)] at h1
    exact (bt_pins4 hK ht (ri d) hq h2).mp h1
  · rintro ⟨k, hk, h1, h2⟩
    have := gD_lt (cd k) q
    have hi4 : i < 4 := by omega
    rw [if_pos (by omega)]
    exact ⟨(bt_pins4 hK ht (ri d) hq hi4).mpr ⟨k, hk, h1, h2⟩, hi4⟩
theorem mOpens_iff {ri cd : Nat → Int32} {K : Nat} (code : Int32) (d : Nat) : ∀ n, mOpens ri cd K code d n = true ↔ ∀ q, q < n → bt (mPins ri cd d (nI q) K) (gD code q) = true
  | 0 => ⟨fun _ _ h => absurd h (Nat.not_lt_zero _), fun _ => rfl⟩
  | n + 1 => by
    rw [mOpens_s, Bool.and_eq_true, mOpens_iff code d n, mDigit_g, bt_hasB (by have := gD_lt code n; omega)]
    constructor
    · rintro ⟨h1, h2⟩ q hq
      rcases Nat.lt_or_ge q n with h | h
      · exact h1 q h
      · rw [show q = n by omega]; exact h2
    · intro h
      exact ⟨fun q hq => h q (by omega), h n (by omega)⟩
/-- a code opens a door, on both sides -/
theorem L_open {ri cd te : Nat → Int32} {K : Nat} (hK : K ≤ 8) (ht : okTe cd te K) (code : Int32) (d : Nat) : jContains (jPinsFor te (ri d) K) (jTeeth code 5) = mOpens ri cd K code d 5 := by
  rw [Bool.eq_iff_iff, bt_contains, mOpens_iff]
  constructor
  · intro h q hq
    have hg := gD_lt code q
    obtain ⟨k, hk, h1, h2⟩ := (bt_pins4 hK ht (ri d) hq hg).mp (h (4 * q + gD code q) (by omega) ((bt_teeth4 code hq hg).mpr rfl))
    exact (bt_mPins hK d q (by omega)).mpr ⟨k, hk, h1, h2⟩
  · intro h i hi hb
    obtain ⟨q, hq, e⟩ := (bt_teeth code hi).mp hb
    have hg := gD_lt code q
    obtain ⟨k, hk, h1, h2⟩ := (bt_mPins hK d q (by omega)).mp (h q hq)
    rw [e]
    exact (bt_pins4 hK ht (ri d) hq hg).mpr ⟨k, hk, h1, h2⟩
/-- pi: the pins of Dn doors -/
def okPi (te ri pi : Nat → Int32) (K Dn : Nat) : Prop := ∀ d, d < Dn → pi d = jPinsFor te (ri d) K
theorem L_openK {ri cd te pi : Nat → Int32} {K Dn : Nat} (hK : K ≤ 8) (ht : okTe cd te K) (hp : okPi te ri pi K Dn) {k d : Nat} (hk : k < K) (hd : d < Dn) : jContains (pi d) (te k) = mOpens ri cd K (cd k) d 5 := by
  rw [hp d hd, ht k hk]
  exact L_open hK ht (cd k) d
theorem L_doors {ri cd te pi : Nat → Int32} {K Dn : Nat} (hK : K ≤ 8) (ht : okTe cd te K) (hp : okPi te ri pi K Dn) {k : Nat} (hk : k < K) : jDoors pi te k Dn = mDoors ri cd K (cd k) Dn := by
  unfold jDoors mDoors
  refine fo_cong (fun d t hd => ?_)
  rw [L_openK hK ht hp hk hd]
theorem L_openers {ri cd te pi : Nat → Int32} {K Dn : Nat} (hK : K ≤ 8) (ht : okTe cd te K) (hp : okPi te ri pi K Dn) {d : Nat} (hd : d < Dn) : jOpeners pi te d K = mOpeners ri cd K d K := by
  unfold jOpeners mOpeners
  refine fo_cong (fun k t hk => ?_)
  rw [L_openK hK ht hp hk hd]
theorem L_above (a b : Int32) : jAbove a b = mAbove a b := by
  unfold jAbove mAbove jContains
  rw [Bool.eq_iff_iff, decide_eq_true_iff, decide_eq_true_iff, decide_eq_true_iff]
