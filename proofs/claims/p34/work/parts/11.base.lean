/-! rows of this claim's own: reads (the heap stays), the nest link, loops, array rows by a number -/
/-- the one link to a private member of a nest mate that is called again and again -/
abbrev kcNest : Cond := .methodLinkNest RX1 57 yX2_contains "KeyCabinet"
def kcK (D : va_G) (tys : List (ClassId × FieldType)) (U : State) : Prop := va_K D vwCl tys U ∧ va_Nw kcNest U
theorem kcK.warm {D : va_G} {tys : List (ClassId × FieldType)} {s U : State} (h : kcK D tys s) (hW : s.WarmedH U.vm) : kcK D tys U := ⟨va_K.moved hW.alike h.1, va_Nw.warmM hW h.2⟩
theorem kcK.call {D : va_G} {tys : List (ClassId × FieldType)} {U : State} (h : kcK D tys U) (g : JFrame) (mk : MethodId) (a : Array Value) : kcK D tys (U.calling g mk a) := ⟨va_K.moved (u := U) (U := U.calling g mk a) (Vm.Alike.refl U.vm) h.1, va_Nw.same rfl (u := U) (U := U.calling g mk a) rfl h.2⟩
theorem kcK.sub {D : va_G} {tys tys' : List (ClassId × FieldType)} {U : State} (h : kcK D tys U) (is : List Nat) (hs : is.filterMap (fun i => tys[i]?) = tys') : kcK D tys' U := ⟨h.1.sub is hs, h.2⟩
/-- a boolean answer -/
def bI (b : Bool) : Int32 := if b = true then 1 else 0
theorem bI_nar (b : Bool) : narrow .boolean (.int (bI b)) = .int (bI b) := by cases b <;> rfl
theorem bI_0 {b : Bool} : bI b = 0 ↔ ¬ b = true := by cases b <;> simp [bI]
theorem bI_t {b : Bool} (h : b = true) : bI b = 1 := by rw [h]; rfl
theorem bI_f {b : Bool} (h : ¬ b = true) : bI b = 0 := by cases b; rfl; exact absurd rfl h
theorem bI_d {p : Prop} [Decidable p] (h : p) : bI (decide p) = 1 := bI_t (decide_eq_true h)
theorem bI_n {p : Prop} [Decidable p] (h : ¬ p) : bI (decide p) = 0 := bI_f (by simpa using h)
theorem kc_inc (j : Nat) : nI j + Int32.ofInt 1 = nI (j + 1) := nI_1 j
theorem map_fm {α β : Type} {f : α → Option β} : ∀ {is : List α} {w : List β}, is.map f = w.map some → is.filterMap f = w
  | [], [], _ => rfl
  | [], _ :: _, h => by simp at h
  | _ :: _, [], h => by simp at h
  | i :: is, x :: w, h => by
    simp only [List.map_cons, List.cons.injEq] at h
    rw [List.filterMap_cons, h.1, map_fm h.2]
/-- a counted fold -/
def fo {α : Type} (f : Nat → α → α) (a : α) : Nat → α
  | 0 => a
  | n + 1 => f n (fo f a n)
theorem fo_s {α : Type} (f : Nat → α → α) (a : α) (n : Nat) : fo f a (n + 1) = f n (fo f a n) := rfl
theorem fo_0 {α : Type} (f : Nat → α → α) (a : α) : fo f a 0 = a := rfl
/-- a loop that counts up, its state in the locals alone -/
theorem kc_for {N : Nat} {P : Nat → Array Slot → Prop} {g : Array Slot → Prop} (hs : ∀ (j : Nat) (ls : Array Slot), j ≤ N → P j ls → (∀ ls', j < N → P (j + 1) ls' → g ls') → g ls) (ls : Array Slot) (h : P 0 ls) : g ls := by
  have key : ∀ (n j : Nat) (ls : Array Slot), j + n = N → P j ls → g ls := by
    intro n
    induction n with
    | zero => intro j ls hj h; exact hs j ls (by omega) h (fun _ h1 _ => absurd h1 (by omega))
    | succ n ih => intro j ls hj h; exact hs j ls (by omega) h (fun ls' _ h' => ih (j + 1) ls' (by omega) h')
  exact key N 0 ls (by omega) h
/-- a loop that counts up, its state in the heap too -/
theorem kc_forH {N : Nat} {P : Nat → Heap → List Loc → Array Slot → Prop} {g : Heap → List Loc → Array Slot → Prop} (hs : ∀ (j : Nat) (H : Heap) (locs : List Loc) (ls : Array Slot), j ≤ N → P j H locs ls → (∀ H' locs' ls', j < N → P (j + 1) H' locs' ls' → g H' locs' ls') → g H locs ls) (H : Heap) (locs : List Loc) (ls : Array Slot) (h : P 0 H locs ls) : g H locs ls := by
  have key : ∀ (n j : Nat) (H : Heap) (locs : List Loc) (ls : Array Slot), j + n = N → P j H locs ls → g H locs ls := by
    intro n
    induction n with
    | zero => intro j H locs ls hj h; exact hs j H locs ls (by omega) h (fun _ _ _ h1 _ => absurd h1 (by omega))
    | succ n ih => intro j H locs ls hj h; exact hs j H locs ls (by omega) h (fun H' locs' ls' _ h' => ih (j + 1) H' locs' ls' (by omega) h')
  exact key N 0 H locs ls (by omega) h
/-- a thing below n -/
def jAny (n : Nat) (p : Nat → Bool) : Bool := (List.range n).any p
theorem jAny_t {n : Nat} {p : Nat → Bool} (j : Nat) (hj : j < n) (h : p j = true) : jAny n p = true := List.any_eq_true.mpr ⟨j, List.mem_range.mpr hj, h⟩
theorem jAny_f {n : Nat} {p : Nat → Bool} (h : ∀ i, i < n → ¬ p i = true) : ¬ jAny n p = true := fun q => by
  obtain ⟨i, hi, hp⟩ := List.any_eq_true.mp q
  exact h i (List.mem_range.mp hi) hp
theorem jAny_iff {n : Nat} {p : Nat → Bool} : jAny n p = true ↔ ∃ i, i < n ∧ p i = true := by
  constructor
  · intro q
    obtain ⟨i, hi, hp⟩ := List.any_eq_true.mp q
    exact ⟨i, List.mem_range.mp hi, hp⟩
  · rintro ⟨i, hi, hp⟩
    exact jAny_t i hi hp
/-- the first thing below n -/
def jFst (p : Nat → Bool) : Nat → Option Nat
  | 0 => none
  | n + 1 => match jFst p n with
    | some i => some i
    | none => if p n = true then some n else none
theorem jFst_none {p : Nat → Bool} : ∀ {n : Nat}, (∀ i, i < n → ¬ p i = true) → jFst p n = none
  | 0, _ => rfl
  | n + 1, h => by simp only [jFst, jFst_none (fun i hi => h i (Nat.lt_succ_of_lt hi)), if_neg (h n (Nat.lt_succ_self n))]
theorem jFst_some {p : Nat → Bool} {j : Nat} (h : ∀ i, i < j → ¬ p i = true) (hp : p j = true) : ∀ {n : Nat}, j < n → jFst p n = some j
  | 0, hn => absurd hn (Nat.not_lt_zero j)
  | n + 1, hn => by
    rcases Nat.lt_or_ge j n with q | q
    · simp only [jFst, jFst_some h hp q]
    · have e : j = n := by omega
      subst e
      simp only [jFst, jFst_none h, if_pos hp]
theorem fo_stuck {α : Type} {f : Nat → α → α} {a c : α} {j : Nat} (h0 : fo f a j = c) (h : ∀ d, j ≤ d → f d c = c) : ∀ n, j ≤ n → fo f a n = c := by
  intro n hn
  induction n with
  | zero => rw [show j = 0 by omega] at h0; exact h0
  | succ n ih =>
    rcases Nat.lt_or_ge n j with q | q
    · rw [show n + 1 = j by omega]; exact h0
    · rw [fo_s, ih q]; exact h n q
section KC
variable {p : Program} {l : Launch} {e : Env} {R : Room} {s : State} {m : MethodId} {args : Array Value} {below : List Frame} {meth : Method} {c : Code} {H : Heap} {locs : List Loc} {cells slots : Nat} {Q : State → Prop}
variable {cc : ByteArray} {pc : Nat} {ls : Array Slot} {rest st0 : List Value} {D : va_G} {tys tyc : List (ClassId × FieldType)} {ws wc : va_W} {A0 : Nat → Prop} {H0 : Heap}
/-- a counted loop in a walk: its state in the locals alone -/
theorem kc_forW {N : Nat} {P : Nat → Array Slot → Prop} (hs : ∀ (j : Nat) (ls : Array Slot), j ≤ N → P j ls → (∀ ls', j < N → P (j + 1) ls' → W p l e R s m args below meth c H locs cells slots Q (F0 m pc ls' [])) → W p l e R s m args below meth c H locs cells slots Q (F0 m pc ls [])) (ls : Array Slot) (h : P 0 ls) : W p l e R s m args below meth c H locs cells slots Q (F0 m pc ls []) :=
  kc_for (N := N) (P := P) (g := fun ls => W p l e R s m args below meth c H locs cells slots Q (F0 m pc ls [])) hs ls h
/-- .. in the heap too -/
theorem kc_forHW {N : Nat} {P : Nat → Heap → List Loc → Array Slot → Prop} (hs : ∀ (j : Nat) (H : Heap) (locs : List Loc) (ls : Array Slot), j ≤ N → P j H locs ls → (∀ H' locs' ls', j < N → P (j + 1) H' locs' ls' → W p l e R s m args below meth c H' locs' cells slots Q (F0 m pc ls' [])) → W p l e R s m args below meth c H locs cells slots Q (F0 m pc ls [])) (H : Heap) (locs : List Loc) (ls : Array Slot) (h : P 0 H locs ls) : W p l e R s m args below meth c H locs cells slots Q (F0 m pc ls []) :=
  kc_forH (N := N) (P := P) (g := fun H locs ls => W p l e R s m args below meth c H locs cells slots Q (F0 m pc ls [])) hs H locs ls h
theorem W.genH (k : ∀ (H' : Heap) (locs' : List Loc), H' = H → locs' = locs → W p l e R s m args below meth c H' locs' cells slots Q (F0 m pc ls st0)) : W p l e R s m args below meth c H locs cells slots Q (F0 m pc ls st0) := k H locs rfl rfl
theorem kc_top {x y : Int32} (h : x = y) (k : W p l e R s m args below meth c H locs cells slots Q (F0 m pc ls (.int y :: rest))) : W p l e R s m args below meth c H locs cells slots Q (F0 m pc ls (.int x :: rest)) := by
  rw [h]; exact k
theorem kc_topl {x y : Int64} (h : x = y) (k : W p l e R s m args below meth c H locs cells slots Q (F0 m pc ls (.long y :: rest))) : W p l e R s m args below meth c H locs cells slots Q (F0 m pc ls (.long x :: rest)) := by
  rw [h]; exact k
theorem kc_ald (hexec : p.tables.exec = Jvm.exec) (hb : c.code = cc) (hK : kcK D tys s) (hP : va_P D vwCl ws H) (q0 t0 : Nat) {a : Nat} {cA : ClassId} {n : Nat} {f : Nat → Int32} (ha : ws[q0]? = some (a, .inl (cA, n, .inl f))) (ht : tys[t0]? = some (cA, .int)) {i : Nat} (hi : i < n) (hn : n < 2 ^ 31) (hdg : decode cc pc = .ok (.iaload, 1))
    (kk : W p l e R s m args below meth c H locs cells slots Q (F0 m (pc + 1) ls (.int (f i) :: rest))) : W p l e R s m args below meth c H locs cells slots Q (F0 m pc ls (.int (nI i) :: .ref a :: rest)) := by
  refine va_iald hexec hb hK.1 hP q0 t0 ha ht (vp_in_nI hi hn) hdg ?_
  rw [nI_clamp (by omega)]
  exact kk
theorem kc_ast {A : Nat → Prop} (hexec : p.tables.exec = Jvm.exec) (hb : c.code = cc) (hK : kcK D tys s) (hP : va_P D vwCl ws H) (hD : va_D A ws) (hS : va_S A H0 H locs) (q0 t0 : Nat) {a : Nat} {cA : ClassId} {n : Nat} {f : Nat → Int32} (ha : ws[q0]? = some (a, .inl (cA, n, .inl f))) (ht : tys[t0]? = some (cA, .int)) {i : Nat} {x : Int32} (hi : i < n) (hn : n < 2 ^ 31) (hdg : decode cc pc = .ok (.iastore, 1))
    (kk : ∀ (H : Heap) (locs : List Loc), va_P D vwCl (ws.set q0 (a, .inl (cA, n, .inl (upd f i x)))) H → va_D A (ws.set q0 (a, .inl (cA, n, .inl (upd f i x)))) → va_S A H0 H locs → W p l e R s m args below meth c H locs cells slots Q (F0 m (pc + 1) ls rest)) : W p l e R s m args below meth c H locs cells slots Q (F0 m pc ls (.int x :: .int (nI i) :: .ref a :: rest)) := by
  refine va_iast hexec hb hK.1 hP hD hS q0 t0 ha ht (vp_in_nI hi hn) hdg ?_
  rw [nI_clamp (by omega)]
  exact kk
theorem kc_ifeqB (hexec : p.tables.exec = Jvm.exec) (hb : c.code = cc) {b : Bool} {off : Int} {tgt : Nat} (hdg : decode cc pc = .ok (.ifCond .eq off, 3)) (ht : (pc : Int) + off = (tgt : Int))
    (kt : ¬ b = true → W p l e R s m args below meth c H locs cells slots Q (F0 m tgt ls rest)) (kf : b = true → W p l e R s m args below meth c H locs cells slots Q (F0 m (pc + 3) ls rest)) : W p l e R s m args below meth c H locs cells slots Q (F0 m pc ls (.int (bI b) :: rest)) :=
  lv_if_eq hexec hb hdg ht (fun h => kt (bI_0.mp h)) (fun h => kf (by cases b; exact absurd rfl h; rfl))
theorem kc_ifneB (hexec : p.tables.exec = Jvm.exec) (hb : c.code = cc) {b : Bool} {off : Int} {tgt : Nat} (hdg : decode cc pc = .ok (.ifCond .ne off, 3)) (ht : (pc : Int) + off = (tgt : Int))
    (kt : b = true → W p l e R s m args below meth c H locs cells slots Q (F0 m tgt ls rest)) (kf : ¬ b = true → W p l e R s m args below meth c H locs cells slots Q (F0 m (pc + 3) ls rest)) : W p l e R s m args below meth c H locs cells slots Q (F0 m pc ls (.int (bI b) :: rest)) :=
  lv_if_ne hexec hb hdg ht (fun h => kt (by cases b; exact absurd rfl h; rfl)) (fun h => kf (bI_0.mp h))
/-- the test of a counted loop: on while j < N -/
theorem kc_tst (hexec : p.tables.exec = Jvm.exec) (hb : c.code = cc) {j N : Nat} {off : Int} {tgt : Nat} (hdg : decode cc pc = .ok (.if_icmp .ge off, 3)) (ht : (pc : Int) + off = (tgt : Int)) (hj : j ≤ N) (hN : N < 2 ^ 31)
    (kt : N = j → W p l e R s m args below meth c H locs cells slots Q (F0 m tgt ls rest)) (kf : j < N → W p l e R s m args below meth c H locs cells slots Q (F0 m (pc + 3) ls rest)) : W p l e R s m args below meth c H locs cells slots Q (F0 m pc ls (.int (nI N) :: .int (nI j) :: rest)) :=
  lv_icmp_ge hexec hb hdg ht (fun h => kt (by have := (nI_leI (by omega) (by omega)).mp h; omega)) (fun h => kf (by
    rcases Nat.lt_or_ge j N with q | q
    · exact q
    · exact absurd (nI_le q (by omega)) h))
/-- a call of a reading method: the heap stays, the answer is a known int -/
theorem kc_run_i {mc ms : Nat} {post : Int32 → Prop} {a : Array Value} (hr : va_Run p l e R s m args below meth c H locs cells slots 0 0 (F0 m pc ls st0) rest (vp_Si post a) (fun _ => False)) (k : ∀ r, post r → W p l e R s m args below meth c H locs cells slots Q (F0 m (pc + 3) ls (.int r :: rest))) : W p l e R s m args below meth c H locs cells slots Q (F0 m pc ls st0) := by
  intro T hT X
  obtain ⟨v, st₀, t, T', L, h0, X', hL, e1, e2, ⟨r, hv, hp, hh⟩, st⟩ := hr T hT X
  cases hv
  have hL0 : L = [] := by
    cases L with
    | nil => rfl
    | cons q L => exact absurd (hL q List.mem_cons_self) (fun h => h)
  subst hL0
  rw [List.append_nil] at X'
  obtain ⟨t2, a1, b1⟩ := k r hp T' (by rw [e1, hh, h0]) X'
  exact ⟨t2, st t2 a1, b1⟩
theorem kc_run_l {post : Int64 → Prop} {a : Array Value} (hr : va_Run p l e R s m args below meth c H locs cells slots 0 0 (F0 m pc ls st0) rest (vp_Sl post a) (fun _ => False)) (k : ∀ r, post r → W p l e R s m args below meth c H locs cells slots Q (F0 m (pc + 3) ls (.long r :: rest))) : W p l e R s m args below meth c H locs cells slots Q (F0 m pc ls st0) := by
  intro T hT X
  obtain ⟨v, st₀, t, T', L, h0, X', hL, e1, e2, ⟨r, hv, hp, hh⟩, st⟩ := hr T hT X
  cases hv
  have hL0 : L = [] := by
    cases L with
    | nil => rfl
    | cons q L => exact absurd (hL q List.mem_cons_self) (fun h => h)
  subst hL0
  rw [List.append_nil] at X'
  obtain ⟨t2, a1, b1⟩ := k r hp T' (by rw [e1, hh, h0]) X'
  exact ⟨t2, st t2 a1, b1⟩
theorem kc_run_d {post : UInt64 → Prop} {a : Array Value} (hr : va_Run p l e R s m args below meth c H locs cells slots 0 0 (F0 m pc ls st0) rest (vp_Sd post a) (fun _ => False)) (k : ∀ r, post r → W p l e R s m args below meth c H locs cells slots Q (F0 m (pc + 3) ls (.double r :: rest))) : W p l e R s m args below meth c H locs cells slots Q (F0 m pc ls st0) := by
  intro T hT X
  obtain ⟨v, st₀, t, T', L, h0, X', hL, e1, e2, ⟨r, hv, hp, hh⟩, st⟩ := hr T hT X
  cases hv
  have hL0 : L = [] := by
    cases L with
    | nil => rfl
    | cons q L => exact absurd (hL q List.mem_cons_self) (fun h => h)
  subst hL0
  rw [List.append_nil] at X'
  obtain ⟨t2, a1, b1⟩ := k r hp T' (by rw [e1, hh, h0]) X'
  exact ⟨t2, st t2 a1, b1⟩
/-- what a reading method starts with -/
abbrev rdP (av : List Value) (D : va_G) (wc : va_W) (tyc : List (ClassId × FieldType)) : Array Value → State → Prop := va_Pc av (fun U => va_P D vwCl wc U.heap ∧ kcK D tyc U)
theorem rdP_blind (av : List Value) (D : va_G) (wc : va_W) (tyc : List (ClassId × FieldType)) : FrameBlind (rdP av D wc tyc) := fun a U g mk q => ⟨q.1, q.2.1, q.2.2.call g mk a⟩
theorem rdP_use {av : List Value} {is it : List Nat} (hK : kcK D tys s) (hP : va_P D vwCl ws H) (hs : is.filterMap (fun i => ws[i]?) = wc) (ht : it.filterMap (fun i => tys[i]?) = tyc) : ∀ U : State, U.heap = H → s.WarmedH U.vm → rdP av D wc tyc av.toArray U :=
  fun U hU hW => ⟨rfl, by rw [hU]; exact hP.sub is hs, (hK.sub it ht).warm hW⟩
variable {y : MethodName} {bytes : ByteArray} {maxL nL n index : Nat} {ret : Option FieldType} {wsy Ts : List Cond} {rm : Room} {own C host : String} {b : Addr} {As : List Value}
/-- an instance method that reads and answers an int -/
theorem kc_rVi {v : Int32} (S : CallFix p m c cc nL s args Ts own) (hM : Met l y wsy rm (rdP (.ref b :: As) D wc tyc) (vp_Si (fun r => r = v)) 0 0 (fun _ => False)) (cw : CallW R s args own C index y bytes maxL ret wsy rm 0 0 n) (hK : kcK D tys s) (hP : va_P D vwCl ws H) (is it : List Nat) (hs : is.filterMap (fun i => ws[i]?) = wc) (ht : it.filterMap (fun i => tys[i]?) = tyc)
    (q0 : Nat) {ci : Nat} {fs : List Value} {q : vw_C} (hq : vwCl[ci]? = some q) (he : ws[q0]? = some (b, .inr (ci, fs))) (hC : q.1 = C) (hn : As.length = n) (hsize : ls.size = nL) (hst : st0 = As.reverse ++ .ref b :: rest) (hW : (rest.map fun v => v.category).sum ≤ 8) (hdg : decode cc pc = .ok (.invokevirtual index, 3)) (hf : cells ≤ R.cells ∧ slots ≤ R.slots)
    (k : W p l e R s m args below meth c H locs cells slots Q (F0 m (pc + 3) ls (.int v :: rest))) : W p l e R s m args below meth c H locs cells slots Q (F0 m pc ls st0) :=
  kc_run_i (mc := 0) (ms := 0) (va_runV S hM cw ⟨rdP_blind _ _ _ _, hC ▸ va_recv hK.1 hP hq he, rdP_use hK hP hs ht⟩ rfl hn hsize hst (lv_room (rest := st0) (pc := pc) (ls := ls) (m := m) hW) hdg hf) (fun r hr => by rw [hr]; exact k)
theorem kc_rVl {v : Int64} (S : CallFix p m c cc nL s args Ts own) (hM : Met l y wsy rm (rdP (.ref b :: As) D wc tyc) (vp_Sl (fun r => r = v)) 0 0 (fun _ => False)) (cw : CallW R s args own C index y bytes maxL ret wsy rm 0 0 n) (hK : kcK D tys s) (hP : va_P D vwCl ws H) (is it : List Nat) (hs : is.filterMap (fun i => ws[i]?) = wc) (ht : it.filterMap (fun i => tys[i]?) = tyc)
    (q0 : Nat) {ci : Nat} {fs : List Value} {q : vw_C} (hq : vwCl[ci]? = some q) (he : ws[q0]? = some (b, .inr (ci, fs))) (hC : q.1 = C) (hn : As.length = n) (hsize : ls.size = nL) (hst : st0 = As.reverse ++ .ref b :: rest) (hW : (rest.map fun v => v.category).sum ≤ 8) (hdg : decode cc pc = .ok (.invokevirtual index, 3)) (hf : cells ≤ R.cells ∧ slots ≤ R.slots)
    (k : W p l e R s m args below meth c H locs cells slots Q (F0 m (pc + 3) ls (.long v :: rest))) : W p l e R s m args below meth c H locs cells slots Q (F0 m pc ls st0) :=
  kc_run_l (va_runV S hM cw ⟨rdP_blind _ _ _ _, hC ▸ va_recv hK.1 hP hq he, rdP_use hK hP hs ht⟩ rfl hn hsize hst (lv_room (rest := st0) (pc := pc) (ls := ls) (m := m) hW) hdg hf) (fun r hr => by rw [hr]; exact k)
theorem kc_rVd {v : UInt64} (S : CallFix p m c cc nL s args Ts own) (hM : Met l y wsy rm (rdP (.ref b :: As) D wc tyc) (vp_Sd (fun r => r = v)) 0 0 (fun _ => False)) (cw : CallW R s args own C index y bytes maxL ret wsy rm 0 0 n) (hK : kcK D tys s) (hP : va_P D vwCl ws H) (is it : List Nat) (hs : is.filterMap (fun i => ws[i]?) = wc) (ht : it.filterMap (fun i => tys[i]?) = tyc)
    (q0 : Nat) {ci : Nat} {fs : List Value} {q : vw_C} (hq : vwCl[ci]? = some q) (he : ws[q0]? = some (b, .inr (ci, fs))) (hC : q.1 = C) (hn : As.length = n) (hsize : ls.size = nL) (hst : st0 = As.reverse ++ .ref b :: rest) (hW : (rest.map fun v => v.category).sum ≤ 8) (hdg : decode cc pc = .ok (.invokevirtual index, 3)) (hf : cells ≤ R.cells ∧ slots ≤ R.slots)
    (k : W p l e R s m args below meth c H locs cells slots Q (F0 m (pc + 3) ls (.double v :: rest))) : W p l e R s m args below meth c H locs cells slots Q (F0 m pc ls st0) :=
  kc_run_d (va_runV S hM cw ⟨rdP_blind _ _ _ _, hC ▸ va_recv hK.1 hP hq he, rdP_use hK hP hs ht⟩ rfl hn hsize hst (lv_room (rest := st0) (pc := pc) (ls := ls) (m := m) hW) hdg hf) (fun r hr => by rw [hr]; exact k)
/-- a static method that reads nothing -/
abbrev stP (av : List Value) : Array Value → State → Prop := va_Pc av (fun _ => True)
theorem stP_blind (av : List Value) : FrameBlind (stP av) := fun _ _ _ _ q => ⟨q.1, trivial⟩
theorem kc_rSi {v : Int32} (S : CallFix p m c cc nL s args Ts own) (hM : Met l y wsy rm (stP As) (vp_Si (fun r => r = v)) 0 0 (fun _ => False)) (cw : CallB R s args own index y bytes maxL ret wsy rm 0 0 n ∧ (Cond.static y).before args s = true)
    (hn : As.length = n) (hsize : ls.size = nL) (hst : st0 = As.reverse ++ rest) (hW : (rest.map fun v => v.category).sum ≤ 8) (hdg : decode cc pc = .ok (.invokestatic index, 3)) (hf : cells ≤ R.cells ∧ slots ≤ R.slots)
    (k : W p l e R s m args below meth c H locs cells slots Q (F0 m (pc + 3) ls (.int v :: rest))) : W p l e R s m args below meth c H locs cells slots Q (F0 m pc ls st0) :=
  kc_run_i (mc := 0) (ms := 0) (va_runS S hM cw ⟨stP_blind _, fun _ _ _ => ⟨rfl, trivial⟩⟩ rfl hn hsize hst (lv_room (rest := st0) (pc := pc) (ls := ls) (m := m) hW) hdg hf) (fun r hr => by rw [hr]; exact k)
theorem kc_rSl {v : Int64} (S : CallFix p m c cc nL s args Ts own) (hM : Met l y wsy rm (stP As) (vp_Sl (fun r => r = v)) 0 0 (fun _ => False)) (cw : CallB R s args own index y bytes maxL ret wsy rm 0 0 n ∧ (Cond.static y).before args s = true)
    (hn : As.length = n) (hsize : ls.size = nL) (hst : st0 = As.reverse ++ rest) (hW : (rest.map fun v => v.category).sum ≤ 8) (hdg : decode cc pc = .ok (.invokestatic index, 3)) (hf : cells ≤ R.cells ∧ slots ≤ R.slots)
    (k : W p l e R s m args below meth c H locs cells slots Q (F0 m (pc + 3) ls (.long v :: rest))) : W p l e R s m args below meth c H locs cells slots Q (F0 m pc ls st0) :=
  kc_run_l (va_runS S hM cw ⟨stP_blind _, fun _ _ _ => ⟨rfl, trivial⟩⟩ rfl hn hsize hst (lv_room (rest := st0) (pc := pc) (ls := ls) (m := m) hW) hdg hf) (fun r hr => by rw [hr]; exact k)
/-- .. of a nest mate -/
theorem kc_rNi {v : Int32} (S : CallFix p m c cc nL s args Ts own) (hM : Met l y wsy rm (stP As) (vp_Si (fun r => r = v)) 0 0 (fun _ => False)) (cw : va_CN R s args own index y host bytes maxL ret wsy rm 0 0 n) (hst' : (Cond.static y).before args s = true)
    (hn : As.length = n) (hsize : ls.size = nL) (hst : st0 = As.reverse ++ rest) (hW : (rest.map fun v => v.category).sum ≤ 8) (hdg : decode cc pc = .ok (.invokestatic index, 3)) (hf : cells ≤ R.cells ∧ slots ≤ R.slots)
    (k : W p l e R s m args below meth c H locs cells slots Q (F0 m (pc + 3) ls (.int v :: rest))) : W p l e R s m args below meth c H locs cells slots Q (F0 m pc ls st0) :=
  kc_run_i (mc := 0) (ms := 0) (va_runSN S hM ⟨cw, hst', trivial⟩ ⟨stP_blind _, fun _ _ _ => ⟨rfl, trivial⟩⟩ rfl hn hsize hst (lv_room (rest := st0) (pc := pc) (ls := ls) (m := m) hW) hdg hf) (fun r hr => by rw [hr]; exact k)
theorem kc_run_v {post : Unit → Prop} {a : Array Value} (hr : va_Run p l e R s m args below meth c H locs cells slots 0 0 (F0 m pc ls st0) rest (va_Sv post a) (fun _ => False)) (k : W p l e R s m args below meth c H locs cells slots Q (F0 m (pc + 3) ls rest)) : W p l e R s m args below meth c H locs cells slots Q (F0 m pc ls st0) := by
  intro T hT X
  obtain ⟨v, st₀, t, T', L, h0, X', hL, e1, e2, ⟨hv, hp, hh⟩, st⟩ := hr T hT X
  cases hv
  have hL0 : L = [] := by
    cases L with
    | nil => rfl
    | cons q L => exact absurd (hL q List.mem_cons_self) (fun h => h)
  subst hL0
  rw [List.append_nil] at X'
  obtain ⟨t2, a1, b1⟩ := k T' (by rw [e1, hh, h0]) X'
  exact ⟨t2, st t2 a1, b1⟩
/-- an instance method that reads and answers nothing -/
theorem kc_rVv (S : CallFix p m c cc nL s args Ts own) (hM : Met l y wsy rm (rdP (.ref b :: As) D wc tyc) (va_Sv (fun _ => True)) 0 0 (fun _ => False)) (cw : CallW R s args own C index y bytes maxL ret wsy rm 0 0 n) (hK : kcK D tys s) (hP : va_P D vwCl ws H) (is it : List Nat) (hs : is.filterMap (fun i => ws[i]?) = wc) (ht : it.filterMap (fun i => tys[i]?) = tyc)
    (q0 : Nat) {ci : Nat} {fs : List Value} {q : vw_C} (hq : vwCl[ci]? = some q) (he : ws[q0]? = some (b, .inr (ci, fs))) (hC : q.1 = C) (hn : As.length = n) (hsize : ls.size = nL) (hst : st0 = As.reverse ++ .ref b :: rest) (hW : (rest.map fun v => v.category).sum ≤ 8) (hdg : decode cc pc = .ok (.invokevirtual index, 3)) (hf : cells ≤ R.cells ∧ slots ≤ R.slots)
    (k : W p l e R s m args below meth c H locs cells slots Q (F0 m (pc + 3) ls rest)) : W p l e R s m args below meth c H locs cells slots Q (F0 m pc ls st0) :=
  kc_run_v (va_runV S hM cw ⟨rdP_blind _ _ _ _, hC ▸ va_recv hK.1 hP hq he, rdP_use hK hP hs ht⟩ rfl hn hsize hst (lv_room (rest := st0) (pc := pc) (ls := ls) (m := m) hW) hdg hf) k
/-- what a writing method starts with, and what it leaves -/
abbrev wrP (av : List Value) (D : va_G) (sz : Nat) (wc : va_W) (tyc : List (ClassId × FieldType)) : Array Value → State → Prop := va_Pc av (fun U => U.heap.size = sz ∧ va_P D vwCl wc U.heap ∧ va_D (fun _ => True) wc ∧ kcK D tyc U)
abbrev wrB (D : va_G) (sz : Nat) (wc w1 : va_W) : Unit → State → Prop := fun _ t => va_P D vwCl w1 t.heap ∧ va_D (va_A wc sz) w1
theorem wrP_blind (av : List Value) (D : va_G) (sz : Nat) (wc : va_W) (tyc : List (ClassId × FieldType)) : FrameBlind (wrP av D sz wc tyc) := fun a U g mk q => ⟨q.1, q.2.1, q.2.2.1, q.2.2.2.1, q.2.2.2.2.call g mk a⟩
variable {w1 wr ws1 : va_W}
/-- behind a writing call: the caller's cells in their old order -/
theorem kc_join {H1 : Heap} (hP : va_P D vwCl ws H) (hD : va_D A0 ws) (isC isR perm : List Nat) (hC : isC.map (fun i => ws[i]?) = wc.map some) (hR : isR.map (fun i => ws[i]?) = wr.map some) (hnR : va_nd isR = true) (hdis : ∀ i ∈ isR, i ∉ isC) (hpm : perm.map (fun i => (wr ++ w1)[i]?) = ws1.map some) (hnp : va_nd perm = true)
    (hk : ∀ q : Nat, q < H.size → ¬ va_A wc H.size q → H1[q]? = H[q]?) (hF : ∀ q, va_A wc H.size q → A0 q) (hP1 : va_P D vwCl w1 H1) (hD1 : va_D (va_A wc H.size) w1) : va_P D vwCl ws1 H1 ∧ va_D A0 ws1 := by
  obtain ⟨hP2, hD2⟩ := va_join (wr := wr) (w1 := w1) hP hD isC isR hC hR hnR hdis hk hF hP1 hD1
  exact ⟨hP2.sub perm (map_fm hpm), hD2.sub perm hnp hpm⟩
theorem kc_wVi {mc ms : Nat} {v : Int32} (S : CallFix p m c cc nL s args Ts own) (hM : Met l y wsy rm (wrP (.ref b :: As) D H.size wc tyc) (va_Qi (fun r (_ : Unit) => r = v) (wrB D H.size wc w1) (va_A wc H.size)) mc ms (va_A wc H.size)) (cw : CallW R s args own C index y bytes maxL ret wsy rm mc ms n) (hK : kcK D tys s) (hP : va_P D vwCl ws H) (hD : va_D A0 ws) (hS : va_S A0 H0 H locs) (hA : ∀ q, H0.size ≤ q → A0 q)
    (isC isR perm it : List Nat) (hC : isC.map (fun i => ws[i]?) = wc.map some) (hnC : va_nd isC = true) (hR : isR.map (fun i => ws[i]?) = wr.map some) (hnR : va_nd isR = true) (hdis : ∀ i ∈ isR, i ∉ isC) (hpm : perm.map (fun i => (wr ++ w1)[i]?) = ws1.map some) (hnp : va_nd perm = true) (ht : it.filterMap (fun i => tys[i]?) = tyc)
    (q0 : Nat) {ci : Nat} {fs : List Value} {q : vw_C} (hq : vwCl[ci]? = some q) (he : ws[q0]? = some (b, .inr (ci, fs))) (hCl : q.1 = C) (hn : As.length = n) (hsize : ls.size = nL) (hst : st0 = As.reverse ++ .ref b :: rest) (hW : (rest.map fun v => v.category).sum ≤ 8) (hdg : decode cc pc = .ok (.invokevirtual index, 3)) (hf : cells + mc ≤ R.cells ∧ slots + ms ≤ R.slots)
    (k : ∀ (H : Heap) (locs : List Loc), va_P D vwCl ws1 H → va_D A0 ws1 → va_S A0 H0 H locs → W p l e R s m args below meth c H locs (cells + mc) (slots + ms) Q (F0 m (pc + 3) ls (.int v :: rest))) : W p l e R s m args below meth c H locs cells slots Q (F0 m pc ls st0) := by
  have hFc := va_free (wc := wc) hD hS hA isC hC
  refine va_calli (va_runV S hM cw ⟨wrP_blind _ _ _ _ _, hCl ▸ va_recv hK.1 hP hq he, fun U hU hW' => ⟨rfl, by rw [hU], by rw [hU]; exact hP.sub isC (map_fm hC), (hD.sub isC hnC hC).weaken (fun _ _ _ _ => trivial), (hK.sub it ht).warm hW'⟩⟩ rfl hn hsize hst (lv_room (rest := st0) (pc := pc) (ls := ls) (m := m) hW) hdg hf) hS (fun q _ h => hFc q h) hFc (fun r u t H1 locs1 ht1 hvm hw hB hz1 hk1 hS1 => ?_)
  obtain ⟨hP1, hD1⟩ := hB
  rw [ht1] at hP1
  obtain ⟨hP2, hD2⟩ := kc_join hP hD isC isR perm hC hR hnR hdis hpm hnp hk1 hFc hP1 hD1
  rw [hw]
  exact k H1 locs1 hP2 hD2 hS1
theorem kc_wVv {mc ms : Nat} (S : CallFix p m c cc nL s args Ts own) (hM : Met l y wsy rm (wrP (.ref b :: As) D H.size wc tyc) (va_Qv (fun (_ : Unit) => True) (wrB D H.size wc w1) (va_A wc H.size)) mc ms (va_A wc H.size)) (cw : CallW R s args own C index y bytes maxL ret wsy rm mc ms n) (hK : kcK D tys s) (hP : va_P D vwCl ws H) (hD : va_D A0 ws) (hS : va_S A0 H0 H locs) (hA : ∀ q, H0.size ≤ q → A0 q)
    (isC isR perm it : List Nat) (hC : isC.map (fun i => ws[i]?) = wc.map some) (hnC : va_nd isC = true) (hR : isR.map (fun i => ws[i]?) = wr.map some) (hnR : va_nd isR = true) (hdis : ∀ i ∈ isR, i ∉ isC) (hpm : perm.map (fun i => (wr ++ w1)[i]?) = ws1.map some) (hnp : va_nd perm = true) (ht : it.filterMap (fun i => tys[i]?) = tyc)
    (q0 : Nat) {ci : Nat} {fs : List Value} {q : vw_C} (hq : vwCl[ci]? = some q) (he : ws[q0]? = some (b, .inr (ci, fs))) (hCl : q.1 = C) (hn : As.length = n) (hsize : ls.size = nL) (hst : st0 = As.reverse ++ .ref b :: rest) (hW : (rest.map fun v => v.category).sum ≤ 8) (hdg : decode cc pc = .ok (.invokevirtual index, 3)) (hf : cells + mc ≤ R.cells ∧ slots + ms ≤ R.slots)
    (k : ∀ (H : Heap) (locs : List Loc), va_P D vwCl ws1 H → va_D A0 ws1 → va_S A0 H0 H locs → W p l e R s m args below meth c H locs (cells + mc) (slots + ms) Q (F0 m (pc + 3) ls rest)) : W p l e R s m args below meth c H locs cells slots Q (F0 m pc ls st0) := by
  have hFc := va_free (wc := wc) hD hS hA isC hC
  refine va_callv (va_runV S hM cw ⟨wrP_blind _ _ _ _ _, hCl ▸ va_recv hK.1 hP hq he, fun U hU hW' => ⟨rfl, by rw [hU], by rw [hU]; exact hP.sub isC (map_fm hC), (hD.sub isC hnC hC).weaken (fun _ _ _ _ => trivial), (hK.sub it ht).warm hW'⟩⟩ rfl hn hsize hst (lv_room (rest := st0) (pc := pc) (ls := ls) (m := m) hW) hdg hf) hS (fun q _ h => hFc q h) hFc (fun u t H1 locs1 ht1 hvm hw hB hz1 hk1 hS1 => ?_)
  obtain ⟨hP1, hD1⟩ := hB
  rw [ht1] at hP1
  obtain ⟨hP2, hD2⟩ := kc_join hP hD isC isR perm hC hR hnR hdis hpm hnp hk1 hFc hP1 hD1
  exact k H1 locs1 hP2 hD2 hS1
theorem kc_wVl {mc ms : Nat} {v : Int64} (S : CallFix p m c cc nL s args Ts own) (hM : Met l y wsy rm (wrP (.ref b :: As) D H.size wc tyc) (va_Ql (fun r (_ : Unit) => r = v) (wrB D H.size wc w1) (va_A wc H.size)) mc ms (va_A wc H.size)) (cw : CallW R s args own C index y bytes maxL ret wsy rm mc ms n) (hK : kcK D tys s) (hP : va_P D vwCl ws H) (hD : va_D A0 ws) (hS : va_S A0 H0 H locs) (hA : ∀ q, H0.size ≤ q → A0 q)
    (isC isR perm it : List Nat) (hC : isC.map (fun i => ws[i]?) = wc.map some) (hnC : va_nd isC = true) (hR : isR.map (fun i => ws[i]?) = wr.map some) (hnR : va_nd isR = true) (hdis : ∀ i ∈ isR, i ∉ isC) (hpm : perm.map (fun i => (wr ++ w1)[i]?) = ws1.map some) (hnp : va_nd perm = true) (ht : it.filterMap (fun i => tys[i]?) = tyc)
    (q0 : Nat) {ci : Nat} {fs : List Value} {q : vw_C} (hq : vwCl[ci]? = some q) (he : ws[q0]? = some (b, .inr (ci, fs))) (hCl : q.1 = C) (hn : As.length = n) (hsize : ls.size = nL) (hst : st0 = As.reverse ++ .ref b :: rest) (hW : (rest.map fun v => v.category).sum ≤ 8) (hdg : decode cc pc = .ok (.invokevirtual index, 3)) (hf : cells + mc ≤ R.cells ∧ slots + ms ≤ R.slots)
    (k : ∀ (H : Heap) (locs : List Loc), va_P D vwCl ws1 H → va_D A0 ws1 → va_S A0 H0 H locs → W p l e R s m args below meth c H locs (cells + mc) (slots + ms) Q (F0 m (pc + 3) ls (.long v :: rest))) : W p l e R s m args below meth c H locs cells slots Q (F0 m pc ls st0) := by
  have hFc := va_free (wc := wc) hD hS hA isC hC
  refine va_calll (va_runV S hM cw ⟨wrP_blind _ _ _ _ _, hCl ▸ va_recv hK.1 hP hq he, fun U hU hW' => ⟨rfl, by rw [hU], by rw [hU]; exact hP.sub isC (map_fm hC), (hD.sub isC hnC hC).weaken (fun _ _ _ _ => trivial), (hK.sub it ht).warm hW'⟩⟩ rfl hn hsize hst (lv_room (rest := st0) (pc := pc) (ls := ls) (m := m) hW) hdg hf) hS (fun q _ h => hFc q h) hFc (fun r u t H1 locs1 ht1 hvm hw hB hz1 hk1 hS1 => ?_)
  obtain ⟨hP1, hD1⟩ := hB
  rw [ht1] at hP1
  obtain ⟨hP2, hD2⟩ := kc_join hP hD isC isR perm hC hR hnR hdis hpm hnp hk1 hFc hP1 hD1
  rw [hw]
  exact k H1 locs1 hP2 hD2 hS1
theorem kc_wVd {mc ms : Nat} {v : UInt64} (S : CallFix p m c cc nL s args Ts own) (hM : Met l y wsy rm (wrP (.ref b :: As) D H.size wc tyc) (va_Qd (fun r (_ : Unit) => r = v) (wrB D H.size wc w1) (va_A wc H.size)) mc ms (va_A wc H.size)) (cw : CallW R s args own C index y bytes maxL ret wsy rm mc ms n) (hK : kcK D tys s) (hP : va_P D vwCl ws H) (hD : va_D A0 ws) (hS : va_S A0 H0 H locs) (hA : ∀ q, H0.size ≤ q → A0 q)
    (isC isR perm it : List Nat) (hC : isC.map (fun i => ws[i]?) = wc.map some) (hnC : va_nd isC = true) (hR : isR.map (fun i => ws[i]?) = wr.map some) (hnR : va_nd isR = true) (hdis : ∀ i ∈ isR, i ∉ isC) (hpm : perm.map (fun i => (wr ++ w1)[i]?) = ws1.map some) (hnp : va_nd perm = true) (ht : it.filterMap (fun i => tys[i]?) = tyc)
    (q0 : Nat) {ci : Nat} {fs : List Value} {q : vw_C} (hq : vwCl[ci]? = some q) (he : ws[q0]? = some (b, .inr (ci, fs))) (hCl : q.1 = C) (hn : As.length = n) (hsize : ls.size = nL) (hst : st0 = As.reverse ++ .ref b :: rest) (hW : (rest.map fun v => v.category).sum ≤ 8) (hdg : decode cc pc = .ok (.invokevirtual index, 3)) (hf : cells + mc ≤ R.cells ∧ slots + ms ≤ R.slots)
    (k : ∀ (H : Heap) (locs : List Loc), va_P D vwCl ws1 H → va_D A0 ws1 → va_S A0 H0 H locs → W p l e R s m args below meth c H locs (cells + mc) (slots + ms) Q (F0 m (pc + 3) ls (.double v :: rest))) : W p l e R s m args below meth c H locs cells slots Q (F0 m pc ls st0) := by
  have hFc := va_free (wc := wc) hD hS hA isC hC
  refine va_calld (va_runV S hM cw ⟨wrP_blind _ _ _ _ _, hCl ▸ va_recv hK.1 hP hq he, fun U hU hW' => ⟨rfl, by rw [hU], by rw [hU]; exact hP.sub isC (map_fm hC), (hD.sub isC hnC hC).weaken (fun _ _ _ _ => trivial), (hK.sub it ht).warm hW'⟩⟩ rfl hn hsize hst (lv_room (rest := st0) (pc := pc) (ls := ls) (m := m) hW) hdg hf) hS (fun q _ h => hFc q h) hFc (fun r u t H1 locs1 ht1 hvm hw hB hz1 hk1 hS1 => ?_)
  obtain ⟨hP1, hD1⟩ := hB
  rw [ht1] at hP1
  obtain ⟨hP2, hD2⟩ := kc_join hP hD isC isR perm hC hR hnR hdis hpm hnp hk1 hFc hP1 hD1
  rw [hw]
  exact k H1 locs1 hP2 hD2 hS1
end KC
