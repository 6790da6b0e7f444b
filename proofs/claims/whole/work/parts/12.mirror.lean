/-! the methods' answers as functions, laid as the code computes them (whole numbers of 32 bits) -/
/-- whether bit k of a set stands -/
abbrev jHas (s : Int32) (k : Nat) : Prop := (s >>> (nI k &&& 31)) &&& 1 = 1
def jContains (a b : Int32) : Bool := decide (b &&& (a ^^^ (-1)) = 0)
def jPop1 (x : Int32) : Int32 := x - ((Int32.toUInt32 x >>> (Int32.toUInt32 1 &&& Int32.toUInt32 31)).toInt32 &&& 1431655765)
def jPop2 (x : Int32) : Int32 := (x &&& 858993459) + ((Int32.toUInt32 x >>> (Int32.toUInt32 2 &&& Int32.toUInt32 31)).toInt32 &&& 858993459)
def jPop3 (x : Int32) : Int32 := (x + (Int32.toUInt32 x >>> (Int32.toUInt32 4 &&& Int32.toUInt32 31)).toInt32) &&& 252645135
def jPop4 (x : Int32) : Int32 := x + (Int32.toUInt32 x >>> (Int32.toUInt32 8 &&& Int32.toUInt32 31)).toInt32
def jPop5 (x : Int32) : Int32 := x + (Int32.toUInt32 x >>> (Int32.toUInt32 16 &&& Int32.toUInt32 31)).toInt32
def jPop (x : Int32) : Int32 := jPop5 (jPop4 (jPop3 (jPop2 (jPop1 x)))) &&& 63
/-! the plan -/
def jTaken (cd : Nat → Int32) (K : Nat) (code : Int32) : Bool := jAny K (fun i => decide (cd i = code))
def jDigit (code p : Int32) : Int32 := (code >>> (((4 - p) * 2) &&& 31)) &&& 3
def jTeeth (code : Int32) (n : Nat) : Int32 := fo (fun p t => t ||| ((1 : Int32) <<< ((nI p * 4 + jDigit code (nI p)) &&& 31))) 0 n
def jPinsFor (te : Nat → Int32) (r : Int32) (K : Nat) : Int32 := fo (fun k t => if jHas r k then t ||| te k else t) 0 K
def jPinsAt (pi : Nat → Int32) (d : Nat) (po : Int32) : Int32 := (pi d >>> ((po * 4) &&& 31)) &&& 15
def jOpeners (pi te : Nat → Int32) (d K : Nat) : Int32 := fo (fun k t => if jContains (pi d) (te k) = true then t ||| ((1 : Int32) <<< (nI k &&& 31)) else t) 0 K
def jDoors (pi te : Nat → Int32) (k Dn : Nat) : Int32 := fo (fun d t => if jContains (pi d) (te k) = true then t ||| ((1 : Int32) <<< (nI d &&& 31)) else t) 0 Dn
def jDoorsAll (pi te : Nat → Int32) (set : Int32) (Dn K : Nat) : Int32 := fo (fun k t => if jHas set k then t ||| jDoors pi te k Dn else t) 0 K
def jStrays (pi te ri : Nat → Int32) (K Dn : Nat) : Int32 := fo (fun d t => t + jPop (jOpeners pi te d K &&& (ri d ^^^ (-1)))) 0 Dn
def jCodes (pi : Nat → Int32) (d : Nat) (n : Nat) : Int32 := fo (fun p t => t * jPop (jPinsAt pi d (nI p))) 1 n
def jPinsWith (ri pw : Nat → Int32) (k : Nat) (t : Int32) (d : Nat) : Int32 := if jHas (ri d) k then pw d ||| t else pw d
def jOldOpens (ri pw te : Nat → Int32) (k : Nat) (t : Int32) (Dn : Nat) : Bool := jAny Dn (fun d => jContains (jPinsWith ri pw k t d) (te k))
def jStrayIn (ri pw te : Nat → Int32) (k : Nat) (t : Int32) (d : Nat) (c : Int32) (n : Nat) : Int32 := fo (fun o c => if jHas (ri d) o then c else if jContains (jPinsWith ri pw k t d) (if nI o = nI k then t else te o) = true then c + 1 else c) c n
def jStraysWith (ri pw te : Nat → Int32) (k : Nat) (t most : Int32) (K : Nat) (n : Nat) : Int32 := fo (fun d c => if most < c then c else jStrayIn ri pw te k t d c K) 0 n
def jWorkWith (ri pi pw : Nat → Int32) (k : Nat) (t : Int32) (n : Nat) : Int32 := fo (fun d w => w + jPop (pi d ^^^ jPinsWith ri pw k t d)) 0 n
