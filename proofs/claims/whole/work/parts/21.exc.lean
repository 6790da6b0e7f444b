/-! throwing: what a thrower needs of the start, and what it leaves -/
def kcTexts : List (Nat × String) := [(36, "a code is 0 to 1023"), (46, "there are 8 keys"), (53, "a key has this code"), (66, "there are 8 doors"), (89, "a position is 0 to 4"), (131, "there are 24 copies"), (148, "it is not in the cabinet, or it has been lent 9 times"), (157, "it is not lent"), (171, "it is lost or void"), (176, "it is not lost"), (181, "it would be later than day 9999"), (189, "what is 0 to 4"), (194, "the day is 0 to today"), (205, "it contains something that is no door"), (231, "there is no such key"), (233, "there is no such door"), (235, "there is no such copy"), (237, "a person is 0 to 7"), (239, "it contains something that is no key"), (241, "days are 1 to 99")]
def kcBads : List Cond := [.declares (Bundle.initS "java/lang/RuntimeException"), .declares (Bundle.initS "java/lang/Exception"), .declares (Bundle.initS Bundle.tN), .castable "java/lang/IllegalArgumentException" "java/lang/IllegalArgumentException", .castable "java/lang/IllegalStateException" "java/lang/IllegalStateException", .castable "java/lang/IndexOutOfBoundsException" "java/lang/IndexOutOfBoundsException"]
def kcNcs : List (String × String) := [("java/lang/IllegalArgumentException", "java/lang/IllegalStateException"), ("java/lang/IllegalArgumentException", "java/lang/IndexOutOfBoundsException"), ("java/lang/IllegalStateException", "java/lang/IllegalArgumentException"), ("java/lang/IllegalStateException", "java/lang/IndexOutOfBoundsException"), ("java/lang/IndexOutOfBoundsException", "java/lang/IllegalArgumentException"), ("java/lang/IndexOutOfBoundsException", "java/lang/IllegalStateException")]
theorem kcBads_tab : ∀ w ∈ kcBads, w.onTables = true := by decide +kernel
theorem kcBads_warm {s U : State} (hW : s.WarmedH U.vm) (h : ∀ w ∈ kcBads, va_Nw w s) : ∀ w ∈ kcBads, va_Nw w U := by
  intro w hw
  have hz := h w hw
  simp only [kcBads, List.mem_cons, List.not_mem_nil, or_false] at hw
  rcases hw with rfl | rfl | rfl | rfl | rfl | rfl
  · exact va_Nw.warmD hW hz
  · exact va_Nw.warmD hW hz
  · exact va_Nw.warmD hW hz
  · exact va_Nw.warmC hW hz
  · exact va_Nw.warmC hW hz
  · exact va_Nw.warmC hW hz
def kcX (A : Nat → Prop) (U : State) (H : Heap) : Prop := vx_Zq Bundle.tN "UNASSIGNED_STACK" Bundle.steD A U H ∧ vx_Zq Bundle.tN "SUPPRESSED_SENTINEL" Bundle.listD A U H ∧ (∀ w ∈ kcBads, va_Nw w U) ∧ (∀ q ∈ kcTexts, ∃ a, vk_R RX2 q.1 q.2 a U) ∧ (∀ q ∈ kcNcs, va_Nc q.1 q.2 U)
theorem kcX.warm {A : Nat → Prop} {s U : State} {H : Heap} (h : kcX A s H) (hW : s.WarmedH U.vm) : kcX A U H :=
  ⟨h.1.moved hW.alike, h.2.1.moved hW.alike, kcBads_warm hW h.2.2.1, fun q hq => by obtain ⟨a, ha⟩ := h.2.2.2.1 q hq; exact ⟨a, ha.warm hW⟩, fun q hq => (h.2.2.2.2 q hq).moved hW.alike⟩
theorem kcX.call {A : Nat → Prop} {U : State} {H : Heap} (h : kcX A U H) (g : JFrame) (mk : MethodId) (a : Array Value) : kcX A (U.calling g mk a) H :=
  ⟨h.1.moved (u := U) (U := U.calling g mk a) (Vm.Alike.refl U.vm), h.2.1.moved (u := U) (U := U.calling g mk a) (Vm.Alike.refl U.vm), fun w hw => va_Nw.same (kcBads_tab w hw) (u := U) (U := U.calling g mk a) rfl (h.2.2.1 w hw), fun q hq => by obtain ⟨b, hb⟩ := h.2.2.2.1 q hq; exact ⟨b, vk_R.same (u := U) (U := U.calling g mk a) rfl hb⟩, fun q hq => (h.2.2.2.2 q hq).moved (u := U) (U := U.calling g mk a) (Vm.Alike.refl U.vm)⟩
theorem kcX.narrow {A B : Nat → Prop} {U : State} {H : Heap} (h : kcX A U H) (hAB : ∀ q, B q → A q) : kcX B U H := ⟨h.1.narrow hAB, h.2.1.narrow hAB, h.2.2⟩
theorem kcX.kept {A : Nat → Prop} {U : State} {H H1 : Heap} (h : kcX A U H) (hq : ∀ a : Nat, a < H.size → ¬ A a → H1[a]? = H[a]?) : kcX A U H1 := ⟨h.1.kept hq, h.2.1.kept hq, h.2.2⟩
/-- what a throwing call starts with, and what it leaves: the exception, and all that was there -/
abbrev xrP (av : List Value) (D : va_G) (sz : Nat) (wc : va_W) (tyc : List (ClassId × FieldType)) : Array Value → State → Prop := va_Pc av (fun U => U.heap.size = sz ∧ va_P D vwCl wc U.heap ∧ kcK D tyc U ∧ kcX (fun q => sz ≤ q) U U.heap)
theorem xrP_blind (av : List Value) (D : va_G) (sz : Nat) (wc : va_W) (tyc : List (ClassId × FieldType)) : FrameBlind (xrP av D sz wc tyc) := fun a U g mk q => ⟨q.1, q.2.1, q.2.2.1, q.2.2.2.1.call g mk a, q.2.2.2.2.call g mk a⟩
abbrev xrX (E : String) (sz : Nat) : String → State → State → Prop := vx_X (fun _ : Unit => True) (fun E' _ _ => E' = E) (fun q => sz ≤ q)
abbrev xrN : Array Value → State → Outcome → State → Prop := fun _ _ _ _ => False
theorem kcT38_bad : ∀ w ∈ (vx_atS RX2 38 "java/lang/IllegalArgumentException" ["java/lang/RuntimeException", "java/lang/Exception"]).filter (fun w => !goodWord w), w ∈ kcBads := by decide +kernel
theorem kcT38_ot : ∀ w ∈ Cond.classLink RX2 34 "java/lang/IllegalArgumentException" :: Cond.initialized "java/lang/IllegalArgumentException" :: vx_atS RX2 38 "java/lang/IllegalArgumentException" ["java/lang/RuntimeException", "java/lang/Exception"], vx_ot w = true := by decide +kernel
theorem kcT48_bad : ∀ w ∈ (vx_atS RX2 48 "java/lang/IllegalStateException" ["java/lang/RuntimeException", "java/lang/Exception"]).filter (fun w => !goodWord w), w ∈ kcBads := by decide +kernel
theorem kcT48_ot : ∀ w ∈ Cond.classLink RX2 44 "java/lang/IllegalStateException" :: Cond.initialized "java/lang/IllegalStateException" :: vx_atS RX2 48 "java/lang/IllegalStateException" ["java/lang/RuntimeException", "java/lang/Exception"], vx_ot w = true := by decide +kernel
theorem kcT91_bad : ∀ w ∈ (vx_atS RX2 91 "java/lang/IndexOutOfBoundsException" ["java/lang/RuntimeException", "java/lang/Exception"]).filter (fun w => !goodWord w), w ∈ kcBads := by decide +kernel
theorem kcT91_ot : ∀ w ∈ Cond.classLink RX2 87 "java/lang/IndexOutOfBoundsException" :: Cond.initialized "java/lang/IndexOutOfBoundsException" :: vx_atS RX2 91 "java/lang/IndexOutOfBoundsException" ["java/lang/RuntimeException", "java/lang/Exception"], vx_ot w = true := by decide +kernel
theorem kcT_fit : ∀ n ∈ ["java/lang/RuntimeException", "java/lang/Exception"], Bundle.fit n = true := by decide +kernel
section KX
variable {p : Program} {l : Launch} {e : Env} {R : Room} {s : State} {m : MethodId} {args : Array Value} {below : List Frame} {meth : Method} {c : Code} {H : Heap} {locs : List Loc} {cells slots : Nat} {Q : State → Prop}
variable {cc : ByteArray} {pc : Nat} {ls : Array Slot} {rest st0 : List Value} {D : va_G} {tys tyc : List (ClassId × FieldType)} {ws wc : va_W} {A0 : Nat → Prop} {H0 : Heap}
variable {y : MethodName} {bytes : ByteArray} {maxL nL n index : Nat} {ret : Option FieldType} {wsy Ts : List Cond} {rm : Room} {own C : String} {b : Addr} {As : List Value} {E : String} {mc ms mcY msY : Nat} {free : Addr → Prop}
/-- behind a call that throws -/
theorem kc_xrun {st₁ : Array Value} (hr : vx_Run p l e R s m args below meth c H locs cells slots mcY msY (F0 m pc ls st0) rest (xrN st₁) (xrX E H.size) (fun q => H.size ≤ q)) (hS : va_S A0 H0 H locs) (hA : ∀ q, H0.size ≤ q → A0 q)
    (kx : ∀ (ce : Cell) (q9 : Addr) (H1 : Heap) (locs1 : List Loc), H.size ≤ H1.size → (∀ q : Nat, q < H.size → H1[q]? = H[q]?) → va_S A0 H0 H1 locs1 → H1[q9]? = some ce → ce.vm = .none → s.vm.findClass E = some ce.cls → vx_W p l e R s m args below meth c H1 locs1 (cells + mcY) (slots + msY) Q (F0 m pc ls rest) q9) : W p l e R s m args below meth c H locs cells slots Q (F0 m pc ls st0) := by
  intro T hT X
  rcases hr T hT X with ⟨v, st₀, t, T', L, h0, X', hL, e1, e2, hF, st⟩ | ⟨q, st₀, t, T', L, E', ce, h0, X', hL, e1, e2, ⟨u, hp, hb, hF⟩, hce, hcv, hcl, st⟩
  · exact hF.elim
  · subst hb
    obtain ⟨k1, k2, k3⟩ := vx_keep h0 e1 hS (fun q h1 h2 => absurd h1 (Nat.not_lt.mpr h2)) (fun q h => hA q (Nat.le_trans hS.1 h)) hL hF
    obtain ⟨t2, a1, b1⟩ := kx ce q T'.heap (locs ++ L) k1 (fun q h1 => k2 q h1 (Nat.not_le.mpr h1)) k3 (by rw [e1]; exact hce) hcv hcl T' rfl X'
    exact ⟨t2, st.trans a1, b1⟩
theorem kc_xV (S : CallFix p m c cc nL s args Ts own) (hM : vx_Met l y wsy rm (xrP (.ref b :: As) D H.size wc tyc) xrN (xrX E H.size) mcY msY (fun q => H.size ≤ q)) (cw : CallW R s args own C index y bytes maxL ret wsy rm mcY msY n) (hK : kcK D tys s) (hP : va_P D vwCl ws H) (hX : kcX (fun q => H.size ≤ q) s H) (is it : List Nat) (hs : is.filterMap (fun i => ws[i]?) = wc) (ht : it.filterMap (fun i => tys[i]?) = tyc)
    (q0 : Nat) {ci : Nat} {fs : List Value} {q : vw_C} (hq : vwCl[ci]? = some q) (he : ws[q0]? = some (b, .inr (ci, fs))) (hC : q.1 = C) (hn : As.length = n) (hsize : ls.size = nL) (hst : st0 = As.reverse ++ .ref b :: rest) (hW : (rest.map fun v => v.category).sum ≤ 8) (hdg : decode cc pc = .ok (.invokevirtual index, 3)) (hf : cells + mcY ≤ R.cells ∧ slots + msY ≤ R.slots) (hS : va_S A0 H0 H locs) (hA : ∀ q, H0.size ≤ q → A0 q)
    (kx : ∀ (ce : Cell) (q9 : Addr) (H1 : Heap) (locs1 : List Loc), H.size ≤ H1.size → (∀ q : Nat, q < H.size → H1[q]? = H[q]?) → va_S A0 H0 H1 locs1 → H1[q9]? = some ce → ce.vm = .none → s.vm.findClass E = some ce.cls → vx_W p l e R s m args below meth c H1 locs1 (cells + mcY) (slots + msY) Q (F0 m pc ls rest) q9) : W p l e R s m args below meth c H locs cells slots Q (F0 m pc ls st0) :=
  kc_xrun (vx_runV S hM cw ⟨xrP_blind _ _ _ _ _, hC ▸ va_recv hK.1 hP hq he, fun U hU hW' => ⟨rfl, by rw [hU], by rw [hU]; exact hP.sub is hs, (hK.sub it ht).warm hW', by rw [hU]; exact hX.warm hW'⟩⟩ rfl hn hsize hst (lv_room (rest := st0) (pc := pc) (ls := ls) (m := m) hW) hdg hf) hS hA kx
/-- .. that goes on to the caller -/
theorem kc_xout {H1 : Heap} {locs1 : List Loc} {cells1 slots1 : Nat} {ce : Cell} {q9 : Addr} (hex : ∀ x ∈ c.exceptionTable.toList, False) (hlocks : meth.locks = false) (hz : s.heap.size ≤ H1.size) (hk : ∀ q : Nat, q < s.heap.size → H1[q]? = s.heap[q]?) (hS : va_S (fun q => s.heap.size ≤ q) s.heap H1 locs1) (hce : H1[q9]? = some ce) (hcv : ce.vm = .none) (hcl : s.vm.findClass E = some ce.cls) (hc : cells1 ≤ mc) (hs : slots1 ≤ ms) :
    vx_W p l e R s m args below meth c H1 locs1 cells1 slots1 (vx_MQ below xrN (xrX E s.heap.size) args s mc ms (fun q => s.heap.size ≤ q)) (F0 m pc ls rest) q9 :=
  vx_out (fun x h => (hex x h).elim) hlocks hce hcv hcl (fun t ht _ => ⟨(), trivial, rfl, by rw [ht]; exact hz, fun q hq _ => by rw [ht]; exact hk q hq⟩) hS.2.2 hc hs
end KX
theorem kc_swo5 {x : Int32} (h0 : ¬ x = 0) (h1 : ¬ x = 1) (h2 : ¬ x = 2) (h3 : ¬ x = 3) (h4 : ¬ x = 4) : x.toInt < 0 ∨ 4 < x.toInt := by
  have g0 : ¬ x.toInt = 0 := fun q => h0 (Int32.toInt_inj.mp q)
  have g1 : ¬ x.toInt = 1 := fun q => h1 (Int32.toInt_inj.mp q)
  have g2 : ¬ x.toInt = 2 := fun q => h2 (Int32.toInt_inj.mp q)
  have g3 : ¬ x.toInt = 3 := fun q => h3 (Int32.toInt_inj.mp q)
  have g4 : ¬ x.toInt = 4 := fun q => h4 (Int32.toInt_inj.mp q)
  omega
/-- what a helper of the law starts with, where the class may throw -/
abbrev hxP (av : List Value) (D : va_G) (sz : Nat) (wc : va_W) (tyc : List (ClassId × FieldType)) : Array Value → State → Prop := va_Pc av (fun U => U.heap.size = sz ∧ va_P D vwCl wc U.heap ∧ va_D (fun _ => True) wc ∧ kcK D tyc U ∧ kcX (fun q => sz ≤ q) U U.heap)
theorem hxP_blind (av : List Value) (D : va_G) (sz : Nat) (wc : va_W) (tyc : List (ClassId × FieldType)) : FrameBlind (hxP av D sz wc tyc) := fun a U g mk q => ⟨q.1, q.2.1, q.2.2.1, q.2.2.2.1, q.2.2.2.2.1.call g mk a, q.2.2.2.2.2.call g mk a⟩
section KL
variable {p : Program} {l : Launch} {e : Env} {R : Room} {s : State} {m : MethodId} {args : Array Value} {below : List Frame} {meth : Method} {c : Code} {H : Heap} {locs : List Loc} {cells slots : Nat} {Q : State → Prop}
variable {cc : ByteArray} {pc : Nat} {ls : Array Slot} {rest st0 : List Value} {D : va_G} {tys tyc : List (ClassId × FieldType)} {ws wc : va_W} {A : Nat → Prop} {H0 : Heap}
theorem kc_lst (hexec : p.tables.exec = Jvm.exec) (hb : c.code = cc) (hK : kcK D tys s) (hP : va_P D vwCl ws H) (hD : va_D A ws) (hS : va_S A H0 H locs) (q0 t0 : Nat) {a : Nat} {cA : ClassId} {n : Nat} {f : Nat → Int64} (ha : ws[q0]? = some (a, .inl (cA, n, .inr (.inl f)))) (ht : tys[t0]? = some (cA, .long)) {i : Nat} {x : Int64} (hi : i < n) (hn : n < 2 ^ 31) (hdg : decode cc pc = .ok (.lastore, 1))
    (kk : ∀ (H : Heap) (locs : List Loc), va_P D vwCl (ws.set q0 (a, .inl (cA, n, .inr (.inl (vp_updL f i x))))) H → va_D A (ws.set q0 (a, .inl (cA, n, .inr (.inl (vp_updL f i x))))) → va_S A H0 H locs → W p l e R s m args below meth c H locs cells slots Q (F0 m (pc + 1) ls rest)) : W p l e R s m args below meth c H locs cells slots Q (F0 m pc ls (.long x :: .int (nI i) :: .ref a :: rest)) := by
  refine va_last hexec hb hK.1 hP hD hS q0 t0 ha ht (vp_in_nI hi hn) hdg ?_
  rw [nI_clamp (by omega)]
  exact kk
theorem kc_lld (hexec : p.tables.exec = Jvm.exec) (hb : c.code = cc) (hK : kcK D tys s) (hP : va_P D vwCl ws H) (q0 t0 : Nat) {a : Nat} {cA : ClassId} {n : Nat} {f : Nat → Int64} (ha : ws[q0]? = some (a, .inl (cA, n, .inr (.inl f)))) (ht : tys[t0]? = some (cA, .long)) {i : Nat} (hi : i < n) (hn : n < 2 ^ 31) (hdg : decode cc pc = .ok (.laload, 1))
    (kk : W p l e R s m args below meth c H locs cells slots Q (F0 m (pc + 1) ls (.long (f i) :: rest))) : W p l e R s m args below meth c H locs cells slots Q (F0 m pc ls (.int (nI i) :: .ref a :: rest)) := by
  refine va_lald hexec hb hK.1 hP q0 t0 ha ht (vp_in_nI hi hn) hdg ?_
  rw [nI_clamp (by omega)]
  exact kk
end KL
