/-! the methods' answers as functions, laid as the code computes them (whole numbers of 32 bits) -/
/-- whether bit k of a set stands -/
abbrev jHas (s : Int32) (k : Nat) : Prop := (s >>> (nI k &&& 31)) &&& 1 = 1
def jContains (a b : Int32) : Bool := decide (b &&& (a ^^^ (-1)) = 0)
def jPop1 (x : Int32) : Int32 := x - ((Int32.toUInt32 x >>> (Int32.toUInt32 1 &&& Int32.toUInt32 31)).toInt32 &&& 1431655765)
def jPop2 (x : Int32) : Int32 := (x &&& 858993459) + ((Int32.toUInt32 x >>> (Int32.toUInt32 2 &&& Int32.toUInt32 31)).toInt32 &&& 858993459)
def jPop3 (x : Int32) : Int32 := (x + (Int32.toUInt32 x >>> (Int32.toUInt32 4 &&& Int32.toUInt32 31)).toInt32) &&& 252645135
def jPop4 (x : Int32) : Int32 := x + (Int32.toUInt32 x >>> (Int32.toUInt32 8 &&& Int32.toUInt32 31)).toInt32
def jPop5 (x : Int32) : Int32 := x + (Int32.toUInt32 x >>> (Int32.toUInt32 16 &&& Int32.toUInt32 31)).toInt32
def jPop (x : Int32) : Int32 := jPop5 (jPop4 (jPop3 (jPop2 (jPop1 x)))) &&& 63
/-! the plan -/
def jTaken (cd : Nat → Int32) (K : Nat) (code : Int32) : Bool := jAny K (fun i => decide (cd i = code))
def jDigit (code p : Int32) : Int32 := (code >>> (((4 - p) * 2) &&& 31)) &&& 3
def jTeeth (code : Int32) (n : Nat) : Int32 := fo (fun p t => t ||| ((1 : Int32) <<< ((nI p * 4 + jDigit code (nI p)) &&& 31))) 0 n
def jPinsFor (te : Nat → Int32) (r : Int32) (K : Nat) : Int32 := fo (fun k t => if jHas r k then t ||| te k else t) 0 K
def jPinsAt (pi : Nat → Int32) (d : Nat) (po : Int32) : Int32 := (pi d >>> ((po * 4) &&& 31)) &&& 15
def jOpeners (pi te : Nat → Int32) (d K : Nat) : Int32 := fo (fun k t => if jContains (pi d) (te k) = true then t ||| ((1 : Int32) <<< (nI k &&& 31)) else t) 0 K
def jDoors (pi te : Nat → Int32) (k Dn : Nat) : Int32 := fo (fun d t => if jContains (pi d) (te k) = true then t ||| ((1 : Int32) <<< (nI d &&& 31)) else t) 0 Dn
def jDoorsAll (pi te : Nat → Int32) (set : Int32) (Dn K : Nat) : Int32 := fo (fun k t => if jHas set k then t ||| jDoors pi te k Dn else t) 0 K
def jStrays (pi te ri : Nat → Int32) (K Dn : Nat) : Int32 := fo (fun d t => t + jPop (jOpeners pi te d K &&& (ri d ^^^ (-1)))) 0 Dn
def jCodes (pi : Nat → Int32) (d : Nat) (n : Nat) : Int32 := fo (fun p t => t * jPop (jPinsAt pi d (nI p))) 1 n
def jPinsWith (ri pw : Nat → Int32) (k : Nat) (t : Int32) (d : Nat) : Int32 := if jHas (ri d) k then pw d ||| t else pw d
def jOldOpens (ri pw te : Nat → Int32) (k : Nat) (t : Int32) (Dn : Nat) : Bool := jAny Dn (fun d => jContains (jPinsWith ri pw k t d) (te k))
def jStrayIn (ri pw te : Nat → Int32) (k : Nat) (t : Int32) (d : Nat) (c : Int32) (n : Nat) : Int32 := fo (fun o c => if jHas (ri d) o then c else if jContains (jPinsWith ri pw k t d) (if nI o = nI k then t else te o) = true then c + 1 else c) c n
def jStraysWith (ri pw te : Nat → Int32) (k : Nat) (t most : Int32) (K : Nat) (n : Nat) : Int32 := fo (fun d c => if most < c then c else jStrayIn ri pw te k t d c K) 0 n
def jWorkWith (ri pi pw : Nat → Int32) (k : Nat) (t : Int32) (n : Nat) : Int32 := fo (fun d w => w + jPop (pi d ^^^ jPinsWith ri pw k t d)) 0 n
def jRepin (te ri : Nat → Int32) (K : Nat) (pi : Nat → Int32) (n : Nat) : Nat → Int32 := fo (fun d pi => upd pi d (jPinsFor te (ri d) K)) pi n
def jRework (te ri : Nat → Int32) (K : Nat) (pi : Nat → Int32) (mv : Int32) (n : Nat) : Int32 := fo (fun d mv => mv + jPop (jRepin te ri K pi d d ^^^ jPinsFor te (ri d) K)) mv n
def jWithout (te ri : Nat → Int32) (K k : Nat) (pw : Nat → Int32) (n : Nat) : Nat → Int32 := fo (fun d pw => upd pw d (jPinsFor te (ri d &&& (((1 : Int32) <<< (nI k &&& 31)) ^^^ (-1))) K)) pw n
def jBStep (cd te ri pi pw : Nat → Int32) (K Dn k : Nat) (c : Nat) (b : Int32 × Int32 × Int32) : Int32 × Int32 × Int32 :=
  if jTaken cd K (nI c) = true then b else if jOldOpens ri pw te k (jTeeth (nI c) 5) Dn = true then b else
  if jStraysWith ri pw te k (jTeeth (nI c) 5) b.2.1 K Dn ≤ b.2.1 then
    (if b.1 = (-1) then (nI c, jStraysWith ri pw te k (jTeeth (nI c) 5) b.2.1 K Dn, jWorkWith ri pi pw k (jTeeth (nI c) 5) Dn)
     else if jStraysWith ri pw te k (jTeeth (nI c) 5) b.2.1 K Dn < b.2.1 then (nI c, jStraysWith ri pw te k (jTeeth (nI c) 5) b.2.1 K Dn, jWorkWith ri pi pw k (jTeeth (nI c) 5) Dn)
     else if b.2.2 ≤ jWorkWith ri pi pw k (jTeeth (nI c) 5) Dn then b
     else (nI c, jStraysWith ri pw te k (jTeeth (nI c) 5) b.2.1 K Dn, jWorkWith ri pi pw k (jTeeth (nI c) 5) Dn))
  else b
def jBest (cd te ri pi pw : Nat → Int32) (K Dn k : Nat) (n : Nat) : Int32 × Int32 × Int32 := fo (jBStep cd te ri pi pw K Dn k) (-1, 64, 0) n
theorem jBest_s (cd te ri pi pw : Nat → Int32) (K Dn k n : Nat) : jBest cd te ri pi pw K Dn k (n + 1) = jBStep cd te ri pi pw K Dn k n (jBest cd te ri pi pw K Dn k n) := rfl
/-! the ledger: tn: how often each copy was lent, as a number -/
def okLe (so tl : Nat → Int32) (tn : Nat → Nat) : Prop := ∀ c, c < 24 → tl c = nI (tn c) ∧ tn c ≤ 9 ∧ (so c = 1 → 1 ≤ tn c)
theorem kc_last {f : Nat → Int32} {c t : Nat} (h : f c = nI (t + 1)) : nI c * 9 + f c - 1 = nI (c * 9 + t) := by
  rw [h, show (9 : Int32) = nI 9 from rfl, pk_mul, nI_add, show (1 : Int32) = nI 1 from rfl, pk_sub (by omega)]
  rfl
theorem kc_lastN {f : Nat → Int32} {c t : Nat} (h : f c = nI t) (h1 : 1 ≤ t) : nI c * 9 + f c - 1 = nI (c * 9 + t - 1) := by
  obtain ⟨u, rfl⟩ : ∃ u, t = u + 1 := ⟨t - 1, by omega⟩
  rw [kc_last h]
  rfl
def jCan (so tl : Nat → Int32) (c : Nat) : Bool := decide (so c = 0 ∧ ¬ 9 ≤ tl c)
def jHolder (so lp : Nat → Int32) (tn : Nat → Nat) (c : Nat) : Int32 := if so c = 1 then lp (c * 9 + tn c - 1) else -1
def jDue (so ld : Nat → Int32) (tn : Nat → Nat) (c : Nat) : Int32 := if so c = 1 then ld (c * 9 + tn c - 1) else -1
def jMoveEnd (so le : Nat → Int32) (tn : Nat → Nat) (c : Nat) (day : Int32) : Nat → Int32 := if so c = 1 then upd le (c * 9 + tn c - 1) day else le
def jVoidSo (ko : Nat → Int32) (key : Int32) (so : Nat → Int32) (n : Nat) : Nat → Int32 := fo (fun c so => if ko c = key then upd so c 3 else so) so n
def jVoidEnd (ko : Nat → Int32) (key : Int32) (so le : Nat → Int32) (tn : Nat → Nat) (day : Int32) (n : Nat) : Nat → Int32 := fo (fun c le => if ko c = key then jMoveEnd so le tn c day else le) le n
theorem jVoidSo_at {ko : Nat → Int32} {key : Int32} {so : Nat → Int32} : ∀ {n i : Nat}, n ≤ i → jVoidSo ko key so n i = so i
  | 0, _, _ => rfl
  | n + 1, i, h => by
    have ih := jVoidSo_at (ko := ko) (key := key) (so := so) (n := n) (i := i) (by omega)
    simp only [jVoidSo, fo_s] at ih ⊢
    by_cases hc : ko n = key
    · rw [if_pos hc, pk_un (by omega)]; exact ih
    · rw [if_neg hc]; exact ih
theorem okLe_void {ko : Nat → Int32} {key : Int32} {so tl : Nat → Int32} {tn : Nat → Nat} (h : okLe so tl tn) : ∀ n, okLe (jVoidSo ko key so n) tl tn
  | 0 => h
  | n + 1 => fun c hc => by
    have ih := okLe_void (ko := ko) (key := key) h n c hc
    refine ⟨ih.1, ih.2.1, fun q => ?_⟩
    simp only [jVoidSo, fo_s] at ih q
    by_cases hk : ko n = key
    · rw [if_pos hk] at q
      by_cases hn : c = n
      · subst hn
        rw [pk_us] at q
        exact absurd q (by decide)
      · rw [pk_un hn] at q
        exact ih.2.2 q
    · rw [if_neg hk] at q
      exact ih.2.2 q
def jHolderOn (lp lb le : Nat → Int32) (c t : Nat) (day : Int32) : Int32 := match jFst (fun n => decide (¬ day < lb (c * 9 + n) ∧ ¬ le (c * 9 + n) ≤ day)) t with
  | some n => lp (c * 9 + n)
  | none => -1
def jLate (so ld : Nat → Int32) (tn : Nat → Nat) (day : Int32) (n : Nat) : Int32 := fo (fun c t => if so c = 1 then (if day ≤ jDue so ld tn c then t else t ||| ((1 : Int32) <<< (nI c &&& 31))) else t) 0 n
def jHeld (ko so lp : Nat → Int32) (tn : Nat → Nat) (person : Int32) (n : Nat) : Int32 := fo (fun c t => if jHolder so lp tn c = person then t ||| ((1 : Int32) <<< (ko c &&& 31)) else t) 0 n
def jLost (ko so : Nat → Int32) (n : Nat) : Int32 := fo (fun c t => if so c = 2 then t ||| ((1 : Int32) <<< (ko c &&& 31)) else t) 0 n
def jFirst (ko so tl : Nat → Int32) (key : Int32) (n : Nat) : Int32 := match jFst (fun c => decide (ko c = key) && jCan so tl c) n with
  | some c => nI c
  | none => -1
