/-! the law of the property of its own: calls of static methods, the script, joins -/
def jBelow (v n : Int32) : Int32 := (v &&& 2147483647) - (v &&& 2147483647) / n * n
theorem below_n (v : Int32) {n : Nat} (h0 : 0 < n) (h : n < 2 ^ 31) : ∃ r, r < n ∧ jBelow v (nI n) = nI r := by
  refine ⟨v.toBitVec.toNat % 2 ^ 31 % n, Nat.mod_lt _ h0, ?_⟩
  unfold jBelow
  rw [pk_and (m := 2147483647) v 31 rfl]
  exact pk_rem (Nat.mod_lt _ (by decide)) h0 h
/-- the count row of the law: keys, doors, work -/
def cnF (a b c : Int32) : Nat → Int32 := fun i => if i = 0 then a else if i = 1 then b else if i = 2 then c else 0
theorem cnF_00 : cnF (nI 0) 0 0 = fun _ => 0 := by
  funext i
  unfold cnF
  split
  · rfl
  · split
    · rfl
    · split <;> rfl
theorem cnF_s0 (a b c v : Int32) : cnF v b c = upd (cnF a b c) 0 v := by
  funext i
  unfold cnF upd
  by_cases h0 : i = 0
  · simp [h0]
  · simp [h0]
theorem cnF_s1 (a b c v : Int32) : cnF a v c = upd (cnF a b c) 1 v := by
  funext i
  unfold cnF upd
  by_cases h1 : i = 1
  · simp [h1]
  · simp [h1]
theorem cnF_s2 (a b c v : Int32) : cnF a b v = upd (cnF a b c) 2 v := by
  funext i
  unfold cnF upd
  by_cases h2 : i = 2
  · simp [h2]
  · simp [h2]
def jCell (xs : Nat → Int32) (L k : Nat) : Int32 := if k < L then xs k else 790386105 * nI (k + 3)
section KLB
variable {p : Program} {l : Launch} {e : Env} {R : Room} {s : State} {m : MethodId} {args : Array Value} {below : List Frame} {meth : Method} {c : Code} {H : Heap} {locs : List Loc} {cells slots : Nat} {Q : State → Prop}
variable {cc : ByteArray} {pc : Nat} {ls : Array Slot} {rest st0 : List Value} {D : va_G} {tys tyc : List (ClassId × FieldType)} {ws wc w1 wr ws1 : va_W} {A0 : Nat → Prop} {H0 : Heap}
variable {y : MethodName} {bytes : ByteArray} {maxL nL n index : Nat} {ret : Option FieldType} {wsy Ts : List Cond} {rm : Room} {own : String} {As : List Value} {mc ms : Nat} {b L : Nat} {xs : Nat → Int32}
/-- a place where two roads meet -/
theorem kc_jn {pc2 : Nat} {P : Array Slot → Prop} (h : ∀ ls, P ls → W p l e R s m args below meth c H locs cells slots Q (F0 m pc2 ls [])) (k : (∀ ls, P ls → W p l e R s m args below meth c H locs cells slots Q (F0 m pc2 ls [])) → W p l e R s m args below meth c H locs cells slots Q (F0 m pc ls st0)) : W p l e R s m args below meth c H locs cells slots Q (F0 m pc ls st0) := k h
/-- a static method that reads the world -/
theorem kc_rSWi {v : Int32} (S : CallFix p m c cc nL s args Ts own) (hM : Met l y wsy rm (rdP As D wc tyc) (vp_Si (fun r => r = v)) 0 0 (fun _ => False)) (cw : CallB R s args own index y bytes maxL ret wsy rm 0 0 n ∧ (Cond.static y).before args s = true) (hK : kcK D tys s) (hP : va_P D vwCl ws H) (is it : List Nat) (hs : is.filterMap (fun i => ws[i]?) = wc) (ht : it.filterMap (fun i => tys[i]?) = tyc)
    (hn : As.length = n) (hsize : ls.size = nL) (hst : st0 = As.reverse ++ rest) (hW : (rest.map fun v => v.category).sum ≤ 8) (hdg : decode cc pc = .ok (.invokestatic index, 3)) (hf : cells ≤ R.cells ∧ slots ≤ R.slots)
    (k : W p l e R s m args below meth c H locs cells slots Q (F0 m (pc + 3) ls (.int v :: rest))) : W p l e R s m args below meth c H locs cells slots Q (F0 m pc ls st0) :=
  kc_run_i (mc := 0) (ms := 0) (va_runS S hM cw ⟨rdP_blind _ _ _ _, rdP_use hK hP hs ht⟩ rfl hn hsize hst (lv_room (rest := st0) (pc := pc) (ls := ls) (m := m) hW) hdg hf) (fun r hr => by rw [hr]; exact k)
/-- an int of the script -/
theorem kc_sld (hexec : p.tables.exec = Jvm.exec) (hb : c.code = cc) (hX : va_X b L xs s H0) (hbl : b < H0.size) (hbA : ¬ A0 b) (hS : va_S A0 H0 H locs) {i : Nat} (hi : i < L) (hL : L < 2 ^ 31) (hdg : decode cc pc = .ok (.iaload, 1))
    (kk : W p l e R s m args below meth c H locs cells slots Q (F0 m (pc + 1) ls (.int (xs i) :: rest))) : W p l e R s m args below meth c H locs cells slots Q (F0 m pc ls (.int (nI i) :: .ref b :: rest)) := by
  refine va_sld hexec hb hX hbl hbA hS (vp_in_nI hi hL) hdg ?_
  rw [nI_clamp (by omega)]
  exact kk
/-- .. that reads the script -/
abbrev scP (av : List Value) (b L : Nat) (xs : Nat → Int32) : Array Value → State → Prop := va_Pc av (fun U => va_X b L xs U U.heap)
theorem scP_blind (av : List Value) (b L : Nat) (xs : Nat → Int32) : FrameBlind (scP av b L xs) := fun a U g mk q => ⟨q.1, va_X.moved (u := U) (U := U.calling g mk a) (Vm.Alike.refl U.vm) q.2⟩
theorem va_X.at (hX : va_X b L xs s H0) (hbl : b < H0.size) (hbA : ¬ A0 b) (hS : va_S A0 H0 H locs) : va_X b L xs s H := hX.kept (hS.2.1 b hbl hbA)
theorem kc_rXi {v : Int32} (S : CallFix p m c cc nL s args Ts own) (hM : Met l y wsy rm (scP As b L xs) (vp_Si (fun r => r = v)) 0 0 (fun _ => False)) (cw : CallB R s args own index y bytes maxL ret wsy rm 0 0 n ∧ (Cond.static y).before args s = true) (hX : va_X b L xs s H0) (hbl : b < H0.size) (hbA : ¬ A0 b) (hS : va_S A0 H0 H locs)
    (hn : As.length = n) (hsize : ls.size = nL) (hst : st0 = As.reverse ++ rest) (hW : (rest.map fun v => v.category).sum ≤ 8) (hdg : decode cc pc = .ok (.invokestatic index, 3)) (hf : cells ≤ R.cells ∧ slots ≤ R.slots)
    (k : W p l e R s m args below meth c H locs cells slots Q (F0 m (pc + 3) ls (.int v :: rest))) : W p l e R s m args below meth c H locs cells slots Q (F0 m pc ls st0) :=
  kc_run_i (mc := 0) (ms := 0) (va_runS S hM cw ⟨scP_blind _ _ _ _, fun U hU hW' => ⟨rfl, show va_X b L xs U U.heap by rw [hU]; exact va_X.moved hW'.alike (hX.at hbl hbA hS)⟩⟩ rfl hn hsize hst (lv_room (rest := st0) (pc := pc) (ls := ls) (m := m) hW) hdg hf) (fun r hr => by rw [hr]; exact k)
/-- .. that reads the script and writes its world; what it leaves is told by u -/
abbrev wsP (av : List Value) (D : va_G) (sz : Nat) (wc : va_W) (tyc : List (ClassId × FieldType)) (b L : Nat) (xs : Nat → Int32) : Array Value → State → Prop := va_Pc av (fun U => U.heap.size = sz ∧ va_P D vwCl wc U.heap ∧ va_D (fun _ => True) wc ∧ kcK D tyc U ∧ va_X b L xs U U.heap ∧ b < sz ∧ ¬ va_A wc sz b)
theorem wsP_blind (av : List Value) (D : va_G) (sz : Nat) (wc : va_W) (tyc : List (ClassId × FieldType)) (b L : Nat) (xs : Nat → Int32) : FrameBlind (wsP av D sz wc tyc b L xs) := fun a U g mk q => ⟨q.1, q.2.1, q.2.2.1, q.2.2.2.1, q.2.2.2.2.1.call g mk a, va_X.moved (u := U) (U := U.calling g mk a) (Vm.Alike.refl U.vm) q.2.2.2.2.2.1, q.2.2.2.2.2.2.1, q.2.2.2.2.2.2.2⟩
theorem kc_wSXi {UT : Type} {post : UT → Prop} {wq : UT → va_W} {v : Int32} (S : CallFix p m c cc nL s args Ts own) (hM : Met l y wsy rm (wsP As D H.size wc tyc b L xs) (va_Qi (fun r (u : UT) => r = v ∧ post u) (fun u => wrB D H.size wc (wq u) ()) (va_A wc H.size)) mc ms (va_A wc H.size)) (cw : CallB R s args own index y bytes maxL ret wsy rm mc ms n ∧ (Cond.static y).before args s = true) (hK : kcK D tys s) (hP : va_P D vwCl wc H) (hD : va_D A0 wc) (hX : va_X b L xs s H0) (hbl : b < H0.size) (hbA : ¬ A0 b) (hS : va_S A0 H0 H locs) (hA : ∀ q, H0.size ≤ q → A0 q)
    (isC it : List Nat) (hC : isC.map (fun i => wc[i]?) = wc.map some) (hnC : va_nd isC = true) (ht : it.filterMap (fun i => tys[i]?) = tyc)
    (hn : As.length = n) (hsize : ls.size = nL) (hst : st0 = As.reverse ++ rest) (hW : (rest.map fun v => v.category).sum ≤ 8) (hdg : decode cc pc = .ok (.invokestatic index, 3)) (hf : cells + mc ≤ R.cells ∧ slots + ms ≤ R.slots)
    (k : ∀ (u : UT) (H : Heap) (locs : List Loc), post u → va_P D vwCl (wq u) H → va_D A0 (wq u) → va_S A0 H0 H locs → W p l e R s m args below meth c H locs (cells + mc) (slots + ms) Q (F0 m (pc + 3) ls (.int v :: rest))) : W p l e R s m args below meth c H locs cells slots Q (F0 m pc ls st0) := by
  have hFc := va_free (wc := wc) hD hS hA isC hC
  refine va_calli (va_runS S hM cw ⟨wsP_blind _ _ _ _ _ _ _ _, fun U hU hW' => ⟨rfl, by rw [hU], by rw [hU]; exact hP, hD.weaken (fun _ _ _ _ => trivial), (hK.sub it ht).warm hW', by rw [hU]; exact va_X.moved hW'.alike (hX.at hbl hbA hS), Nat.lt_of_lt_of_le hbl hS.1, fun h => hbA (hFc b h)⟩⟩ rfl hn hsize hst (lv_room (rest := st0) (pc := pc) (ls := ls) (m := m) hW) hdg hf) hS (fun q _ h => hFc q h) hFc (fun r u t H1 locs1 ht1 hvm hw hB hz1 hk1 hS1 => ?_)
  obtain ⟨hP1, hD1⟩ := hB
  rw [ht1] at hP1
  obtain ⟨hP2, hD2⟩ := va_join (wr := []) (w1 := wq u) hP hD isC [] hC rfl rfl (fun i h => by cases h) hk1 hFc hP1 hD1
  rw [hw.1]
  exact k u H1 locs1 hw.2 hP2 hD2 hS1
end KLB
