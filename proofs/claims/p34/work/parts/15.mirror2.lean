/-! the reference's answers as functions, laid as its code computes them -/
theorem kc_nlt {a b : Int32} (h : a ≤ b) : ¬ b < a := by
  rw [Int32.lt_iff_toInt_lt, Int32.le_iff_toInt_le] at *
  omega
theorem kc_nle {a b : Int32} (h : a < b) : ¬ b ≤ a := by
  rw [Int32.lt_iff_toInt_lt, Int32.le_iff_toInt_le] at *
  omega
theorem kc_nlt2 {a b : Int32} (h : ¬ a ≤ b) : b < a := by
  rw [Int32.lt_iff_toInt_lt, Int32.le_iff_toInt_le] at *
  omega
/-- a number of things: 0 to n - 1 -/
def jIn (n : Nat) (x : Int32) : Bool := decide (¬ x < 0 ∧ ¬ nI n ≤ x)
theorem jIn_ok {n k : Nat} (h : k < n) (hn : n < 2 ^ 31) : jIn n (nI k) = true := decide_eq_true ⟨nI_pos (by omega), nI_ge h hn⟩
theorem jIn_ex {n : Nat} {x : Int32} (h : jIn n x = true) : ∃ k, k < n ∧ x = nI k := by
  obtain ⟨h0, h1⟩ := of_decide_eq_true h
  obtain ⟨k, hk, rfl⟩ := nI_of h0
  refine ⟨k, ?_, rfl⟩
  rcases Nat.lt_or_ge k n with q | q
  · exact q
  · exact absurd (nI_le q hk) h1
theorem jIn_no {n : Nat} {x : Int32} (h : ¬ jIn n x = true) : x < 0 ∨ nI n ≤ x := by
  by_cases h0 : x < 0
  · exact Or.inl h0
  · by_cases h1 : nI n ≤ x
    · exact Or.inr h1
    · exact absurd (decide_eq_true ⟨h0, h1⟩) h
theorem jIn_5 {x : Int32} (h0 : ¬ x < 0) (h1 : ¬ 4 < x) : jIn 5 x = true := by
  refine decide_eq_true ⟨h0, fun h => h1 ?_⟩
  rw [Int32.le_iff_toInt_le] at h
  rw [Int32.lt_iff_toInt_lt] at *
  have e5 : (nI 5).toInt = 5 := rfl
  have e4 : (4 : Int32).toInt = 4 := rfl
  omega
def jSet (n : Nat) (x : Int32) : Bool := decide (¬ x < 0 ∧ ¬ ((1 : Int32) <<< (nI n &&& 31)) ≤ x)
def jHasB (s x : Int32) : Bool := decide ((s >>> (x &&& 31)) &&& 1 = 1)
def mDigit (code p : Int32) : Int32 := (code >>> ((2 * (4 - p)) &&& 31)) &&& 3
def mPins (mr mc : Nat → Int32) (d : Nat) (p : Int32) (n : Nat) : Int32 := fo (fun k t => if jHasB (mr d) (nI k) = true then t ||| ((1 : Int32) <<< (mDigit (mc k) p &&& 31)) else t) 0 n
def mAll (mr mc : Nat → Int32) (K d n : Nat) : Int32 := fo (fun p t => 16 * t + mPins mr mc d (nI p) K) 0 n
def mOpens (mr mc : Nat → Int32) (K : Nat) (code : Int32) (d n : Nat) : Bool := fo (fun p b => b && jHasB (mPins mr mc d (nI p) K) (mDigit code (nI p))) true n
theorem mOpens_s (mr mc : Nat → Int32) (K : Nat) (code : Int32) (d n : Nat) : mOpens mr mc K code d (n + 1) = (mOpens mr mc K code d n && jHasB (mPins mr mc d (nI n) K) (mDigit code (nI n))) := rfl
theorem kc_bf {b : Bool} (h : ¬ b = true) : b = false := by cases b; rfl; exact absurd rfl h
def mDoors (mr mc : Nat → Int32) (K : Nat) (code : Int32) (n : Nat) : Int32 := fo (fun d t => if mOpens mr mc K code d 5 = true then t ||| ((1 : Int32) <<< (nI d &&& 31)) else t) 0 n
def mStrayK (mr mc : Nat → Int32) (K k : Nat) (t : Int32) (n : Nat) : Int32 := fo (fun d t => if mOpens mr mc K (mc k) d 5 = true then (if jHasB (mr d) (nI k) = true then t + 0 else t + 1) else t + 0) t n
def mStrays (mr mc : Nat → Int32) (K D n : Nat) : Int32 := fo (fun k t => mStrayK mr mc K k t D) 0 n
def mOpeners (mr mc : Nat → Int32) (K d n : Nat) : Int32 := fo (fun k t => if mOpens mr mc K (mc k) d 5 = true then t ||| ((1 : Int32) <<< (nI k &&& 31)) else t) 0 n
def mCodes (mr mc : Nat → Int32) (K d n : Nat) : Int32 := fo (fun q t => if mOpens mr mc K (nI q) d 5 = true then t + 1 else t + 0) 0 n
def mAbove (a b : Int32) : Bool := decide (b &&& (a ^^^ (-1)) = 0 ∧ ¬ a = b)
/-- replace: whether a code is free; the codes, the best code, its strays, its work -/
def mFree (mc : Nat → Int32) (k : Nat) (old code : Int32) (n : Nat) : Bool := fo (fun i b => b && !(decide ((if nI i = nI k then old else mc i) = code))) true n
theorem mFree_s (mc : Nat → Int32) (k : Nat) (old code : Int32) (n : Nat) : mFree mc k old code (n + 1) = (mFree mc k old code n && !(decide ((if nI n = nI k then old else mc n) = code))) := rfl
def mTurned (mr mc px : Nat → Int32) (K n : Nat) : Int32 := fo (fun d t => t + jPop (px d ^^^ mAll mr mc K d 5)) 0 n
def mPinsAll (mr mc : Nat → Int32) (K : Nat) (n : Nat) : Nat → Int32 := fo (fun d px => upd px d (mAll mr mc K d 5)) (fun _ => 0) n
abbrev mRT : Type := (Nat → Int32) × Int32 × Int32 × Int32
def mRStep (mr px : Nat → Int32) (K D k : Nat) (old : Int32) (c : Nat) (b : mRT) : mRT :=
  if mFree b.1 k old (nI c) K = true then
    (if mDoors mr (upd b.1 k (nI c)) K old D = 0 then
      (if b.2.1 = (-1) then (upd b.1 k (nI c), nI c, mStrays mr (upd b.1 k (nI c)) K D K, mTurned mr (upd b.1 k (nI c)) px K D)
       else if b.2.2.1 < mStrays mr (upd b.1 k (nI c)) K D K then (upd b.1 k (nI c), b.2)
       else if mStrays mr (upd b.1 k (nI c)) K D K = b.2.2.1 then
         (if mTurned mr (upd b.1 k (nI c)) px K D < b.2.2.2 then (upd b.1 k (nI c), nI c, mStrays mr (upd b.1 k (nI c)) K D K, mTurned mr (upd b.1 k (nI c)) px K D) else (upd b.1 k (nI c), b.2))
       else (upd b.1 k (nI c), nI c, mStrays mr (upd b.1 k (nI c)) K D K, mTurned mr (upd b.1 k (nI c)) px K D))
    else (upd b.1 k (nI c), b.2))
  else b
def mR (mr mc px : Nat → Int32) (K D k : Nat) (old : Int32) (n : Nat) : mRT := fo (mRStep mr px K D k old) (mc, -1, 0, 0) n
theorem mR_s (mr mc px : Nat → Int32) (K D k : Nat) (old : Int32) (n : Nat) : mR mr mc px K D k old (n + 1) = mRStep mr px K D k old n (mR mr mc px K D k old n) := rfl
theorem kc_lastM {f : Nat → Int32} {c t : Nat} (h : f c = nI t) (h1 : 1 ≤ t) : 9 * nI c + f c - 1 = nI (c * 9 + t - 1) := by
  rw [show (9 : Int32) * nI c = nI c * 9 from by rw [show (9 : Int32) = nI 9 from rfl, pk_mul, pk_mul, Nat.mul_comm]]
  exact kc_lastN h h1
theorem kc_9 (c : Nat) : 9 * nI c = nI (c * 9) := by rw [show (9 : Int32) = nI 9 from rfl, pk_mul, Nat.mul_comm]
theorem kc_sh {K : Nat} (h : K ≤ 8) : (1 : Int32) <<< (nI K &&& 31) = nI (2 ^ K) := by
  rcases (show K = 0 ∨ K = 1 ∨ K = 2 ∨ K = 3 ∨ K = 4 ∨ K = 5 ∨ K = 6 ∨ K = 7 ∨ K = 8 by omega) with rfl | rfl | rfl | rfl | rfl | rfl | rfl | rfl | rfl <;> rfl
theorem kc_2lt {K : Nat} (h : K ≤ 8) : 2 ^ K < 2 ^ 31 := Nat.pow_lt_pow_right (by omega) (by omega)
theorem jPop_nI (x : Int32) : ∃ c, c < 64 ∧ jPop x = nI c := by
  refine ⟨_, Nat.mod_lt _ (by decide), pk_and (m := 63) (jPop5 (jPop4 (jPop3 (jPop2 (jPop1 x))))) 6 rfl⟩
theorem kc_ddn8 : ∀ c, c < 64 → ∀ d, d < 8 → FP.ddiv (FP.i2d (nI c)) (FP.i2d (nI (d + 1))) &&& 0x7fffffffffffffff ≤ 0x7ff0000000000000 := by decide +kernel
theorem kc_ddn (x : Int32) {D : Nat} (h0 : 0 < D) (h8 : D ≤ 8) : vf_n64 (FP.ddiv (FP.i2d (jPop x)) (FP.i2d (nI D))) := by
  obtain ⟨c, hc, e⟩ := jPop_nI x
  rw [e]
  obtain ⟨d, rfl⟩ : ∃ d, D = d + 1 := ⟨D - 1, by omega⟩
  exact kc_ddn8 c hc d (by omega)
/-! the reference's copies -/
def okKe (C : Nat) (mk : Nat → Int32) (kn : Nat → Nat) : Prop := ∀ c, c < C → mk c = nI (kn c) ∧ kn c < 8
def mTold (mk ms mu mt mp : Nat → Int32) (tn : Nat → Nat) (c : Nat) (what : Int32) : Int32 :=
  if what = 0 then mk c else if what = 1 then ms c else if what = 2 then (if ms c = 1 then mp (c * 9 + tn c - 1) else -1) else if what = 3 then (if ms c = 1 then mu c else -1) else mt c
theorem kc_sw4 {x : Int32} (h0 : ¬ x = 0) (h1 : ¬ x = 1) (h2 : ¬ x = 2) (h3 : ¬ x = 3) : x.toInt < 0 ∨ 3 < x.toInt := by
  have g0 : ¬ x.toInt = 0 := fun q => h0 (Int32.toInt_inj.mp q)
  have g1 : ¬ x.toInt = 1 := fun q => h1 (Int32.toInt_inj.mp q)
  have g2 : ¬ x.toInt = 2 := fun q => h2 (Int32.toInt_inj.mp q)
  have g3 : ¬ x.toInt = 3 := fun q => h3 (Int32.toInt_inj.mp q)
  omega
def mRisk (mr mc ms : Nat → Int32) (K D : Nat) (kn : Nat → Nat) (n : Nat) : Int32 := fo (fun c t => if ms c = 2 then t ||| mDoors mr mc K (mc (kn c)) D else t) 0 n
def mReach (mr mc mk ms mu mt mp : Nat → Int32) (K D : Nat) (kn tn : Nat → Nat) (pe : Int32) (n : Nat) : Int32 := fo (fun c t => if ms c = 1 then (if mTold mk ms mu mt mp tn c 2 = pe then t ||| mDoors mr mc K (mc (kn c)) D else t) else t) 0 n
def mLate (ms mu : Nat → Int32) (my : Int32) (n : Nat) : Int32 := fo (fun c t => if ms c = 1 then (if my ≤ mu c then t else t ||| ((1 : Int32) <<< (nI c &&& 31))) else t) 0 n
def mHolderAt (mp mb me : Nat → Int32) (c : Nat) (dy : Int32) (n : Nat) : Int32 := fo (fun i h => if dy < mb (c * 9 + i) then h else if me (c * 9 + i) = (-1) then mp (c * 9 + i) else if me (c * 9 + i) ≤ dy then h else mp (c * 9 + i)) (-1) n
def mMax0 (x : Int32) : Int32 := if x ≤ 0 then 0 else x
/-! suggest -/
def mFirst0 (n : Nat) : Nat → Int32 := fo (fun k f => upd f k (-1)) (fun _ => 0) n
/-- the lowest copy of each key that can be lent, from the highest down: n copies are looked at -/
def mFirst (ms mt : Nat → Int32) (kn : Nat → Nat) (C : Nat) (n : Nat) : Nat → Int32 := fo (fun i f => if ms (C - 1 - i) = 0 then (if 9 ≤ mt (C - 1 - i) then f else upd f (kn (C - 1 - i)) (nI (C - 1 - i))) else f) (mFirst0 8) n
/-- one set of keys: the copies, the doors, whether it can be -/
abbrev mST : Type := Int32 × Int32 × Bool
def mSIn (mr mc fx : Nat → Int32) (K D : Nat) (set : Int32) (k : Nat) (b : mST) : mST :=
  if jHasB set (nI k) = true then
    (if fx k = (-1) then b.1 else b.1 ||| ((1 : Int32) <<< (fx k &&& 31)), b.2.1 ||| mDoors mr mc K (mc k) D, b.2.2 && !(decide (fx k = (-1))))
  else b
def mSSet (mr mc fx : Nat → Int32) (K D : Nat) (re set : Int32) (n : Nat) : mST := fo (mSIn mr mc fx K D set) (0, re, true) n
theorem mSSet_s (mr mc fx : Nat → Int32) (K D : Nat) (re set : Int32) (n : Nat) : mSSet mr mc fx K D re set (n + 1) = mSIn mr mc fx K D set n (mSSet mr mc fx K D re set n) := rfl
def mSize (a b : Int32) : Int32 := jPop a - (if b = (-1) then 99 else jPop b)
def mSStep (mr mc fx : Nat → Int32) (K D : Nat) (re wa : Int32) (i : Nat) (b : Int32 × Int32) : Int32 × Int32 :=
  if (mSSet mr mc fx K D re (nI i) K).2.2 = true then
    (if wa &&& ((mSSet mr mc fx K D re (nI i) K).2.1 ^^^ (-1)) = 0 then
      (if 0 < mSize (mSSet mr mc fx K D re (nI i) K).1 b.1 then b
       else if mSize (mSSet mr mc fx K D re (nI i) K).1 b.1 = 0 then
         (if 0 < jPop (mSSet mr mc fx K D re (nI i) K).2.1 - b.2 then b
          else if jPop (mSSet mr mc fx K D re (nI i) K).2.1 - b.2 = 0 then
            (if (mSSet mr mc fx K D re (nI i) K).1 ≤ b.1 then ((mSSet mr mc fx K D re (nI i) K).1, jPop (mSSet mr mc fx K D re (nI i) K).2.1) else b)
          else ((mSSet mr mc fx K D re (nI i) K).1, jPop (mSSet mr mc fx K D re (nI i) K).2.1))
       else ((mSSet mr mc fx K D re (nI i) K).1, jPop (mSSet mr mc fx K D re (nI i) K).2.1))
     else b)
  else b
def mSug (mr mc fx : Nat → Int32) (K D : Nat) (re wa : Int32) (n : Nat) : Int32 × Int32 := fo (mSStep mr mc fx K D re wa) (-1, 0) n
theorem mSug_s (mr mc fx : Nat → Int32) (K D : Nat) (re wa : Int32) (n : Nat) : mSug mr mc fx K D re wa (n + 1) = mSStep mr mc fx K D re wa n (mSug mr mc fx K D re wa n) := rfl
/-! exposure, digest -/
def mExp (mr mc mk ms mu mt mp : Nat → Int32) (K D C : Nat) (kn tn : Nat → Nat) (n : Nat) : Int32 := fo (fun pe t => t ||| mReach mr mc mk ms mu mt mp K D kn tn (nI pe) C) (mRisk mr mc ms K D kn C) n
def mix (d : Int64) (x : Int32) : Int64 := d * 31 + Int32.toInt64 x
def mDigK (mc : Nat → Int32) (d : Int64) (n : Nat) : Int64 := fo (fun k d => mix d (mc k)) d n
def mDigP (mr mc : Nat → Int32) (K k : Nat) (d : Int64) (n : Nat) : Int64 := fo (fun p d => mix d (mPins mr mc k (nI p) K)) d n
def mDigD (mr mc : Nat → Int32) (K : Nat) (d : Int64) (n : Nat) : Int64 := fo (fun k d => mDigP mr mc K k (mix d (mr k)) 5) d n
def mDigW (mk ms mu mt mp : Nat → Int32) (tn : Nat → Nat) (c : Nat) (d : Int64) (n : Nat) : Int64 := fo (fun w d => mix d (mTold mk ms mu mt mp tn c (nI w))) d n
def mDigC (mk ms mu mt mp : Nat → Int32) (tn : Nat → Nat) (d : Int64) (n : Nat) : Int64 := fo (fun c d => mDigW mk ms mu mt mp tn c d 5) d n
theorem kc_pre {N j : Nat} (h : j < N) : nI (N - j) - 1 = nI (N - 1 - j) := by
  rw [show (1 : Int32) = nI 1 from rfl, pk_sub (by omega)]
  congr 1
  omega
theorem kc_dec {N j : Nat} (h : j < N) : nI (N - 1 - j) + Int32.ofInt (-1) = nI (N - (j + 1)) - 1 := by
  rw [show N - 1 - j = N - (j + 1) by omega, Int32.sub_eq_add_neg]
  rfl
section KD
variable {p : Program} {l : Launch} {e : Env} {R : Room} {s : State} {m : MethodId} {args : Array Value} {below : List Frame} {meth : Method} {c : Code} {H : Heap} {locs : List Loc} {cells slots : Nat} {Q : State → Prop}
variable {cc : ByteArray} {pc : Nat} {ls : Array Slot} {rest : List Value} {D : va_G} {tys : List (ClassId × FieldType)} {ws : va_W} {A : Nat → Prop} {H0 : Heap}
/-- the test of a loop that counts down to 0 -/
theorem kc_tst0 (hexec : p.tables.exec = Jvm.exec) (hb : c.code = cc) {j N : Nat} {off : Int} {tgt : Nat} (hdg : decode cc pc = .ok (.ifCond .lt off, 3)) (ht : (pc : Int) + off = (tgt : Int)) (hj : j ≤ N) (hN : N < 2 ^ 31)
    (kt : N = j → W p l e R s m args below meth c H locs cells slots Q (F0 m tgt ls rest)) (kf : j < N → W p l e R s m args below meth c H locs cells slots Q (F0 m (pc + 3) ls rest)) : W p l e R s m args below meth c H locs cells slots Q (F0 m pc ls (.int (nI (N - j) - 1) :: rest)) :=
  lv_if_lt hexec hb hdg ht (fun h => kt (by
    rcases Nat.lt_or_ge j N with q | q
    · rw [kc_pre q] at h; exact absurd h (nI_pos (by omega))
    · omega)) (fun h => kf (by
    rcases Nat.lt_or_ge j N with q | q
    · exact q
    · refine absurd ?_ h
      rw [show N - j = 0 by omega]
      decide))
/-- new int[N]: of the class that the world's int arrays have -/
theorem kc_newI (hexec : p.tables.exec = Jvm.exec) (hb : c.code = cc) (harr : (Cond.arrayClass .int).before args s = true) {cI : ClassId} (hK : kcK D tys s) (t0 : Nat) (ht : tys[t0]? = some (cI, .int)) (hP : va_P D vwCl ws H) (hD : va_D A ws) (hS : va_S A H0 H locs) (hA : ∀ q, H0.size ≤ q → A q) {N : Nat} (hN : N < 1000) (hcells : cells + 1 ≤ R.cells) (hslots : slots + N ≤ R.slots) (hdg : decode cc pc = .ok (.newarray .int, 2))
    (kk : ∀ (q : Nat) (H : Heap), va_P D vwCl (ws ++ [(q, .inl (cI, N, .inl (fun _ => 0)))]) H → va_D A (ws ++ [(q, .inl (cI, N, .inl (fun _ => 0)))]) → va_S A H0 H locs → W p l e R s m args below meth c H locs (cells + 1) (slots + N) Q (F0 m (pc + 2) ls (.ref q :: rest))) : W p l e R s m args below meth c H locs cells slots Q (F0 m pc ls (.int (nI N) :: rest)) := by
  refine va_newa (atype := .int) hexec hb harr rfl hK.1 hP hD hS hA (a0 := (N, .inl (fun _ => 0))) (fun cA => rfl) (nI_pos (by omega)) (nI_clamp (by omega)) (by show N * 4 ≤ 536870912; omega) hcells hslots hdg (fun q cA H1 hK1 hP1 hD1 hS1 => ?_)
  have h1 : va_RA s cA .int := (hK1.2 tys.length (cA, .int) (by simp; rfl)).2
  have h2 : va_RA s cI .int := (hK.1.2 t0 (cI, .int) ht).2
  have e : cA = cI := Option.some.inj (h1.symm.trans h2)
  subst e
  exact kk q H1 hP1 hD1 hS1
end KD
