/-! the class's own answers, over plan and ledger -/
def jSetOf (n : Nat) (x : Int32) : Bool := decide (x &&& (-((1 : Int32) <<< (nI n &&& 31))) = 0)
def jReach (pi te : Nat → Int32) (Dn K : Nat) (ko so lp : Nat → Int32) (tn : Nat → Nat) (C : Nat) (pe : Int32) : Int32 := jDoorsAll pi te (jHeld ko so lp tn pe C) Dn K
def jRisk (pi te : Nat → Int32) (Dn K : Nat) (ko so : Nat → Int32) (C : Nat) : Int32 := jDoorsAll pi te (jLost ko so C) Dn K
def jExp (pi te : Nat → Int32) (Dn K : Nat) (ko so lp : Nat → Int32) (tn : Nat → Nat) (C : Nat) (n : Nat) : Int32 := fo (fun p t => t ||| jReach pi te Dn K ko so lp tn C (nI p)) (jRisk pi te Dn K ko so C) n
def jTold (ko so tl lp ld : Nat → Int32) (tn : Nat → Nat) (c : Nat) (what : Int32) : Int32 :=
  if what = 0 then ko c else if what = 1 then so c else if what = 2 then jHolder so lp tn c else if what = 3 then jDue so ld tn c else tl c
def jAbove (a b : Int32) : Bool := decide (jContains a b = true ∧ ¬ a = b)
def jToLend (ko so tl : Nat → Int32) (C : Nat) (cl : Nat → Int32) (n : Nat) : Nat → Int32 := fo (fun k f => upd f k (jFirst ko so tl (nI k) C)) cl n
def jOpened (pi te : Nat → Int32) (Dn : Nat) (dq : Nat → Int32) (n : Nat) : Nat → Int32 := fo (fun k f => upd f k (jDoors pi te k Dn)) dq n
def jSOpen (dq : Nat → Int32) (set : Int32) (n : Nat) : Int32 := fo (fun k t => if jHas set k then t ||| dq k else t) 0 n
def jSCop0 (cl : Nat → Int32) (set : Int32) (n : Nat) : Int32 := fo (fun k t => if jHas set k then t ||| ((1 : Int32) <<< (cl k &&& 31)) else t) 0 n
def jSCop (cl : Nat → Int32) (set : Int32) (K : Nat) : Int32 := if jAny K (fun k => decide (jHas set k ∧ cl k = (-1))) = true then -1 else jSCop0 cl set K
def jSRank (a b : Int32) : Int32 := jPop a * 9 + jPop b
def jSStep (cl dq : Nat → Int32) (K : Nat) (re wa : Int32) (i : Nat) (b : Int32 × Int32) : Int32 × Int32 :=
  if jContains (re ||| jSOpen dq (nI i) K) wa = true then
    (if jSCop cl (nI i) K = (-1) then b
     else if b.1 = (-1) then (jSCop cl (nI i) K, jSRank (jSCop cl (nI i) K) (re ||| jSOpen dq (nI i) K))
     else if jSRank (jSCop cl (nI i) K) (re ||| jSOpen dq (nI i) K) < b.2 then (jSCop cl (nI i) K, jSRank (jSCop cl (nI i) K) (re ||| jSOpen dq (nI i) K))
     else if jSRank (jSCop cl (nI i) K) (re ||| jSOpen dq (nI i) K) = b.2 then
       (if b.1 ≤ jSCop cl (nI i) K then b else (jSCop cl (nI i) K, jSRank (jSCop cl (nI i) K) (re ||| jSOpen dq (nI i) K)))
     else b)
  else b
def jSug (cl dq : Nat → Int32) (K : Nat) (re wa : Int32) (n : Nat) : Int32 × Int32 := fo (jSStep cl dq K re wa) (-1, 0) n
theorem jSug_s (cl dq : Nat → Int32) (K : Nat) (re wa : Int32) (n : Nat) : jSug cl dq K re wa (n + 1) = jSStep cl dq K re wa n (jSug cl dq K re wa n) := rfl
def jMixDoor (ri pi : Nat → Int32) (d : Nat) (dl : Int64) (n : Nat) : Int64 := fo (fun p d2 => mix d2 (jPinsAt pi d (nI p))) (mix dl (ri d)) n
def jMixCopy (ko so tl lp ld : Nat → Int32) (tn : Nat → Nat) (c : Nat) (dl : Int64) : Int64 := mix (mix (mix (mix (mix dl (ko c)) (so c)) (jHolder so lp tn c)) (jDue so ld tn c)) (tl c)
def jDigK (cd : Nat → Int32) (d : Int64) (n : Nat) : Int64 := fo (fun k d => mix d (cd k)) d n
def jDigD (ri pi : Nat → Int32) (d : Int64) (n : Nat) : Int64 := fo (fun k d => jMixDoor ri pi k d 5) d n
def jDigC (ko so tl lp ld : Nat → Int32) (tn : Nat → Nat) (d : Int64) (n : Nat) : Int64 := fo (fun c d => jMixCopy ko so tl lp ld tn c d) d n
theorem kc_sw5 {q : Nat} (h0 : ¬ nI q = 0) (h1 : ¬ nI q = 1) (h2 : ¬ nI q = 2) (h3 : ¬ nI q = 3) (h4 : ¬ nI q = 4) : ¬ q < 5 := by
  intro h
  rcases (show q = 0 ∨ q = 1 ∨ q = 2 ∨ q = 3 ∨ q = 4 by omega) with rfl | rfl | rfl | rfl | rfl
  · exact h0 rfl
  · exact h1 rfl
  · exact h2 rfl
  · exact h3 rfl
  · exact h4 rfl
