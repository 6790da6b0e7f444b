theorem kc_arrI {args : Array Value} {s : State} (h : (Cond.arrayClass .int).before args s = true) : ∃ cA, ArrOfT s cA .int ∧ va_RA s cA .int := by
  obtain ⟨cA, kA, comp, h1, h2, h3⟩ := Cond.arrayClass_spec h
  exact ⟨cA, fun n z => ⟨fun k h => (by cases h), kA, h2, comp, h3⟩, h1⟩
section KIB
variable {p : Program} {l : Launch} {e : Env} {R : Room} {s : State} {m : MethodId} {args : Array Value} {below : List Frame} {meth : Method} {c : Code} {H : Heap} {locs : List Loc} {cells slots : Nat} {Q : State → Prop}
variable {cc : ByteArray} {pc : Nat} {ls : Array Slot} {rest st0 : List Value} {D : va_G} {ws wc wr : va_W} {A0 : Nat → Prop} {H0 : Heap}
variable {y : MethodName} {bytes : ByteArray} {maxL nL index : Nat} {wsy Ts : List Cond} {rm : Room} {own : String} {b : Addr} {mc ms : Nat}
/-- behind a constructor -/
theorem kc_iB {w1 : (Nat → Nat) → va_W} {pu : (Nat → Nat) → Prop} {Pc : Array Value → State → Prop} (S : CallFix p m c cc nL s args Ts own) (hM : Met l y wsy rm Pc (va_Qv pu (fun u => wrB D H.size wc (w1 u) ()) (va_A wc H.size)) mc ms (va_A wc H.size)) (cw : CallB R s args own index y bytes maxL none wsy rm mc ms 0 ∧ y.name = "<init>" ∧ (Cond.instanceMethod y).before args s = true) (hp : PreS s H Pc [.ref b]) (hP : va_P D vwCl ws H) (hD : va_D A0 ws) (hS : va_S A0 H0 H locs) (hA : ∀ q, H0.size ≤ q → A0 q)
    (isC isR : List Nat) (hC : isC.map (fun i => ws[i]?) = wc.map some) (hnC : va_nd isC = true) (hR : isR.map (fun i => ws[i]?) = wr.map some) (hnR : va_nd isR = true) (hdis : ∀ i ∈ isR, i ∉ isC)
    (hsize : ls.size = nL) (hst : st0 = .ref b :: rest) (hW : (rest.map fun v => v.category).sum ≤ 8) (hdg : decode cc pc = .ok (.invokespecial index, 3)) (hf : cells + mc ≤ R.cells ∧ slots + ms ≤ R.slots)
    (k : ∀ (u : Nat → Nat) (H : Heap) (locs : List Loc), pu u → va_P D vwCl (wr ++ w1 u) H → va_D A0 (wr ++ w1 u) → va_S A0 H0 H locs → W p l e R s m args below meth c H locs (cells + mc) (slots + ms) Q (F0 m (pc + 3) ls rest)) : W p l e R s m args below meth c H locs cells slots Q (F0 m pc ls st0) := by
  have hFc := va_free (wc := wc) hD hS hA isC hC
  refine va_callv (va_runI (As := []) S hM cw hp rfl rfl hsize hst (lv_room (rest := st0) (pc := pc) (ls := ls) (m := m) hW) hdg hf) hS (fun q _ h => hFc q h) hFc (fun u t H1 locs1 ht1 hvm hw hB hz1 hk1 hS1 => ?_)
  obtain ⟨hP1, hD1⟩ := hB
  rw [ht1] at hP1
  obtain ⟨hP2, hD2⟩ := va_join (wr := wr) (w1 := w1 u) hP hD isC isR hC hR hnR hdis hk1 hFc hP1 hD1
  exact k u H1 locs1 hw hP2 hD2 hS1
end KIB
set_option maxHeartbeats 4000000 in
set_option maxRecDepth 100000 in
theorem whole_start {p : Program} {e : Env} {s : State} {m : MethodId} {below : List Frame} {meth : Method} {c : Code} (l : Launch) (hflags : l.flags = flags0) {b L : Nat} {xs : Nat → Int32} (hL : L ≤ 260) (C0 : lw_At p s m meth c b L xs) : W p l e room_1 s m #[Value.ref b] below meth c s.heap [] 0 0 (lw_Z below #[Value.ref b] s) (entryFrame m ([Value.ref b] : List Value).toArray 12) := by
  obtain ⟨hx, hb, hr, hml, hown, htb, hXs, hbl, hlocks, hgv⟩ := id C0
  have hb : c.code = cL_law := hb
  have hts := fun w h => htb w (wsL_law_in w h)
  have hA : ∀ q : Nat, s.heap.size ≤ q → (fun q : Nat => s.heap.size ≤ q) q := fun _ h => h
  have hbA : ¬ (fun q : Nat => s.heap.size ≤ q) b := Nat.not_le.mpr hbl
  have hL31 : L < 2 ^ 31 := by omega
  obtain ⟨k0, i0, hKn0⟩ := u_known (C := RX0) (T := TX0) (N := 8) (n := 8) htb inX0 (htb (.instantiable RX0 8) (by decide +kernel))
  obtain ⟨k1, i1, hKn1⟩ := u_known (C := RX1) (T := TX1) (N := 8) (n := 8) htb inX1 (htb (.instantiable RX1 8) (by decide +kernel))
  obtain ⟨k2, i2, hKn2⟩ := u_known (C := RX2) (T := TX2) (N := 5) (n := 5) htb inX2 (htb (.instantiable RX2 5) (by decide +kernel))
  obtain ⟨dC, dI, hKc⟩ : ∃ (dC : Nat → ClassId) (dI : Nat → Nat → Nat), ∀ (k : Nat) (q : vw_C), vwCl[k]? = some q → u_Kn s q.1 q.2.1 q.2.2 (dC k) (dI k) := by
    refine ⟨fun k => if k = 0 then k0 else if k = 1 then k1 else k2, fun k => if k = 0 then i0 else if k = 1 then i1 else i2, ?_⟩
    intro k q hq
    match k, hq with
    | 0, hq => cases hq; exact hKn0
    | 1, hq => cases hq; exact hKn1
    | 2, hq => cases hq; exact hKn2
    | k + 3, hq => simp [vwCl] at hq
  obtain ⟨cI, aI1, aI2⟩ := kc_arrI (htb (.arrayClass .int) (by decide +kernel))
  have hK : kcK (dC, dI) [(cI, .int)] s := by
    refine ⟨⟨hKc, fun k q h => ?_⟩, va_Nw.of rfl (htb kcNest (by decide +kernel))⟩
    match k, h with
    | 0, h => cases h; exact ⟨aI1, aI2⟩
    | k + 1, h => simp at h
  have hN1 : va_Nw kcN15 s := va_Nw.of rfl (htb kcN15 (by decide +kernel))
  have hN2 : va_Nw kcN22 s := va_Nw.of rfl (htb kcN22 (by decide +kernel))
  have hS : va_S (fun q : Nat => s.heap.size ≤ q) s.heap s.heap [] := va_S.rf
  have hP : va_P (dC, dI) vwCl [] s.heap := fun k q h => by simp at h
  have hD : va_D (fun q : Nat => s.heap.size ≤ q) [] := ⟨fun i j p q h => by simp at h, fun k q h => by simp at h⟩
  have hl := lv_entry ([.ref b]) (n := 12) (Nat.le_of_ble_eq_true rfl)
  rw [lg_entry_eq]
  generalize (lg_sl ([.ref b]) ++ List.replicate (12 - (lg_sl ([.ref b])).length) Slot.unset).toArray = ls at hl ⊢
  have hl : lv_has ls 12 [(0, .ref b)] := hl
  refine va_new (ci := 2) (fs := [.null, .null, .null, .null, .int 0]) (C := RX2) (T := TX2) (N := 5) hx hb htb inX2 tyX2 tyX2_ok hown (htb (.classLink R_law 20 RX2) (by decide +kernel)) (htb (.instantiable RX2 5) (by decide +kernel)) (htb (.initialized RX2) (by decide +kernel)) hK.1 hP hD hS hA rfl (fun j hj => by rcases (show j = 0 ∨ j = 1 ∨ j = 2 ∨ j = 3 ∨ j = 4 by omega) with rfl | rfl | rfl | rfl | rfl <;> rfl) (Nat.le_of_ble_eq_true rfl) (Nat.le_of_ble_eq_true rfl) dL_law_0 (fun hc H hP hD hS => ?_)
  have hP : va_P (dC, dI) vwCl ([(hc, .inr (2, [.null, .null, .null, .null, .int 0]))]) H := hP
  have hD : va_D (fun q : Nat => s.heap.size ≤ q) ([(hc, .inr (2, [.null, .null, .null, .null, .int 0]))]) := hD
  refine W.widen (k := 1) (n := 5) (by omega) (by omega) ?_
  refine lv_dup hx hb dL_law_3 rfl ?_
  refine kc_iB (w1 := fun u => wKc u cI (fun _ => 0) (fun _ => 0) (fun _ => 0) (fun _ => 0) (fun _ => 0) 0 0 0 (fun _ => 0) (fun _ => 0) (fun _ => 0) (fun _ => 0) (fun _ => 0) (fun _ => 0) (fun _ => 0) 0 (fun _ => 0) (fun _ => 0) 0) (wc := [(hc, .inr (2, [.null, .null, .null, .null, .int 0]))]) (wr := []) (rest := [.ref hc]) ⟨hx, hb, hml, hown, hts⟩ (c_X2_init l (dC, dI) cI hc H.size) (cwI 0 hts gL_law_X2_init rfl rfl rfl (htb (.initialized RX2) (by decide +kernel)) (htb (.methodLink R_law 47 yX2_init) (by decide +kernel)) (htb (.instanceMethod yX2_init) (by decide +kernel)) rfl (by decide +kernel) ⟨Nat.le_of_ble_eq_true rfl, Nat.le_of_ble_eq_true rfl⟩) ⟨nxP_blind _ _ _ _ _, fun U hU hW => ⟨rfl, by rw [hU], by rw [hU]; exact hP.sub [0] rfl, (hD.sub [0] (by decide) rfl).weaken (fun _ _ _ _ => trivial), (hK.sub [0] rfl).warm hW, va_Nw.warmM hW hN1, va_Nw.warmM hW hN2⟩⟩ hP hD hS hA [0] [] rfl rfl rfl rfl (by decide) hl.1 rfl (Nat.le_of_ble_eq_true rfl) dL_law_4 ⟨Nat.le_of_ble_eq_true rfl, Nat.le_of_ble_eq_true rfl⟩ (fun u1 H locs hu hP2 hD2 hS2 => ?_)
  clear hP hD hS
  subst hu
  have hP := hP2
  have hD := hD2
  have hS := hS2
  clear hP2 hD2 hS2
  have hP : va_P (dC, dI) vwCl (wKc u1 cI (fun _ => 0) (fun _ => 0) (fun _ => 0) (fun _ => 0) (fun _ => 0) 0 0 0 (fun _ => 0) (fun _ => 0) (fun _ => 0) (fun _ => 0) (fun _ => 0) (fun _ => 0) (fun _ => 0) 0 (fun _ => 0) (fun _ => 0) 0) H := hP
  have hD : va_D (fun q : Nat => s.heap.size ≤ q) (wKc u1 cI (fun _ => 0) (fun _ => 0) (fun _ => 0) (fun _ => 0) (fun _ => 0) 0 0 0 (fun _ => 0) (fun _ => 0) (fun _ => 0) (fun _ => 0) (fun _ => 0) (fun _ => 0) (fun _ => 0) 0 (fun _ => 0) (fun _ => 0) 0) := hD
  refine W.widen (k := 17) (n := 1013) (by omega) (by omega) ?_
  refine lv_astore_n (lv' := [(1, .ref (u1 14)), (0, .ref b)]) hx hb dL_law_7 rfl hl (by decide) rfl (fun ls hl => ?_)
  refine lv_bipush (v := 8) hx hb dL_law_8 (by decide) ?_
  refine kc_newI (N := 8) hx hb (htb (.arrayClass .int) (by decide +kernel)) hK 0 rfl hP hD hS hA (by decide) (Nat.le_of_ble_eq_true rfl) (Nat.le_of_ble_eq_true rfl) dL_law_10 (fun q10 H hP hD hS => ?_)
  have hP : va_P (dC, dI) vwCl (wKc u1 cI (fun _ => 0) (fun _ => 0) (fun _ => 0) (fun _ => 0) (fun _ => 0) 0 0 0 (fun _ => 0) (fun _ => 0) (fun _ => 0) (fun _ => 0) (fun _ => 0) (fun _ => 0) (fun _ => 0) 0 (fun _ => 0) (fun _ => 0) 0 ++ [(q10, .inl (cI, 8, .inl (fun _ => 0)))]) H := hP
  have hD : va_D (fun q : Nat => s.heap.size ≤ q) (wKc u1 cI (fun _ => 0) (fun _ => 0) (fun _ => 0) (fun _ => 0) (fun _ => 0) 0 0 0 (fun _ => 0) (fun _ => 0) (fun _ => 0) (fun _ => 0) (fun _ => 0) (fun _ => 0) (fun _ => 0) 0 (fun _ => 0) (fun _ => 0) 0 ++ [(q10, .inl (cI, 8, .inl (fun _ => 0)))]) := hD
  refine W.widen (k := 18) (n := 1021) (by omega) (by omega) ?_
  refine lv_astore_n (lv' := [(2, .ref q10), (1, .ref (u1 14)), (0, .ref b)]) hx hb dL_law_12 rfl hl (by decide) rfl (fun ls hl => ?_)
  refine lv_bipush (v := 8) hx hb dL_law_13 (by decide) ?_
  refine kc_newI (N := 8) hx hb (htb (.arrayClass .int) (by decide +kernel)) hK 0 rfl hP hD hS hA (by decide) (Nat.le_of_ble_eq_true rfl) (Nat.le_of_ble_eq_true rfl) dL_law_15 (fun q15 H hP hD hS => ?_)
  have hP : va_P (dC, dI) vwCl (wKc u1 cI (fun _ => 0) (fun _ => 0) (fun _ => 0) (fun _ => 0) (fun _ => 0) 0 0 0 (fun _ => 0) (fun _ => 0) (fun _ => 0) (fun _ => 0) (fun _ => 0) (fun _ => 0) (fun _ => 0) 0 (fun _ => 0) (fun _ => 0) 0 ++ [(q10, .inl (cI, 8, .inl (fun _ => 0)))] ++ [(q15, .inl (cI, 8, .inl (fun _ => 0)))]) H := hP
  have hD : va_D (fun q : Nat => s.heap.size ≤ q) (wKc u1 cI (fun _ => 0) (fun _ => 0) (fun _ => 0) (fun _ => 0) (fun _ => 0) 0 0 0 (fun _ => 0) (fun _ => 0) (fun _ => 0) (fun _ => 0) (fun _ => 0) (fun _ => 0) (fun _ => 0) 0 (fun _ => 0) (fun _ => 0) 0 ++ [(q10, .inl (cI, 8, .inl (fun _ => 0)))] ++ [(q15, .inl (cI, 8, .inl (fun _ => 0)))]) := hD
  refine W.widen (k := 19) (n := 1029) (by omega) (by omega) ?_
  refine lv_astore_n (lv' := [(3, .ref q15), (2, .ref q10), (1, .ref (u1 14)), (0, .ref b)]) hx hb dL_law_17 rfl hl (by decide) rfl (fun ls hl => ?_)
  refine lv_iconst (v := 3) hx hb dL_law_18 (by decide) ?_
  refine kc_newI (N := 3) hx hb (htb (.arrayClass .int) (by decide +kernel)) hK 0 rfl hP hD hS hA (by decide) (Nat.le_of_ble_eq_true rfl) (Nat.le_of_ble_eq_true rfl) dL_law_19 (fun q19 H hP hD hS => ?_)
  have hP : va_P (dC, dI) vwCl (wKc u1 cI (fun _ => 0) (fun _ => 0) (fun _ => 0) (fun _ => 0) (fun _ => 0) 0 0 0 (fun _ => 0) (fun _ => 0) (fun _ => 0) (fun _ => 0) (fun _ => 0) (fun _ => 0) (fun _ => 0) 0 (fun _ => 0) (fun _ => 0) 0 ++ [(q10, .inl (cI, 8, .inl (fun _ => 0)))] ++ [(q15, .inl (cI, 8, .inl (fun _ => 0)))] ++ [(q19, .inl (cI, 3, .inl (fun _ => 0)))]) H := hP
  have hD : va_D (fun q : Nat => s.heap.size ≤ q) (wKc u1 cI (fun _ => 0) (fun _ => 0) (fun _ => 0) (fun _ => 0) (fun _ => 0) 0 0 0 (fun _ => 0) (fun _ => 0) (fun _ => 0) (fun _ => 0) (fun _ => 0) (fun _ => 0) (fun _ => 0) 0 (fun _ => 0) (fun _ => 0) 0 ++ [(q10, .inl (cI, 8, .inl (fun _ => 0)))] ++ [(q15, .inl (cI, 8, .inl (fun _ => 0)))] ++ [(q19, .inl (cI, 3, .inl (fun _ => 0)))]) := hD
  refine W.widen (k := 20) (n := 1032) (by omega) (by omega) ?_
  refine lv_astore (lv' := [(4, .ref q19), (3, .ref q15), (2, .ref q10), (1, .ref (u1 14)), (0, .ref b)]) hx hb dL_law_21 hl (by decide) rfl (fun ls hl => ?_)
  obtain ⟨ad, ead⟩ : ∃ x, x = mkad [u1 0, u1 1, u1 2, u1 3, u1 4, u1 5, u1 6, u1 7, u1 8, u1 9, u1 10, u1 11, u1 12, u1 13, u1 14, u1 15, u1 16, q10, q15, q19] := ⟨_, rfl⟩
  have hP : va_P (dC, dI) vwCl (wLw ad cI (fun _ => 0) (fun _ => 0) (fun _ => 0) (fun _ => 0) (fun _ => 0) 0 0 0 (fun _ => 0) (fun _ => 0) (fun _ => 0) (fun _ => 0) (fun _ => 0) (fun _ => 0) (fun _ => 0) 0 (fun _ => 0) (fun _ => 0) 0 (fun _ => 0) (fun _ => 0) (fun _ => 0)) H := by rw [ead]; exact hP.sub [0, 1, 2, 3, 4, 5, 6, 7, 8, 9, 10, 11, 12, 13, 14, 15, 16, 17, 18, 19] rfl
  have hD : va_D (fun q : Nat => s.heap.size ≤ q) (wLw ad cI (fun _ => 0) (fun _ => 0) (fun _ => 0) (fun _ => 0) (fun _ => 0) 0 0 0 (fun _ => 0) (fun _ => 0) (fun _ => 0) (fun _ => 0) (fun _ => 0) (fun _ => 0) (fun _ => 0) 0 (fun _ => 0) (fun _ => 0) 0 (fun _ => 0) (fun _ => 0) (fun _ => 0)) := by rw [ead]; exact hD.sub [0, 1, 2, 3, 4, 5, 6, 7, 8, 9, 10, 11, 12, 13, 14, 15, 16, 17, 18, 19] (by decide) rfl
  have hl : lv_has ls 12 [(4, .ref (ad 19)), (3, .ref (ad 18)), (2, .ref (ad 17)), (1, .ref (ad 14)), (0, .ref b)] := by rw [ead]; exact hl
  clear ead
  refine lv_aload_n hx hb dL_law_23 rfl (lv_at hl 3 rfl) ?_
  refine lv_aload_n hx hb dL_law_24 rfl (lv_at hl 4 rfl) ?_
  refine lv_iconst (v := 0) hx hb dL_law_25 (by decide) ?_
  refine lv_iconst (v := 5) hx hb dL_law_26 (by decide) ?_
  refine lv_iconst (v := 5) hx hb dL_law_27 (by decide) ?_
  refine lv_aload_n hx hb dL_law_28 rfl (lv_at hl 2 rfl) ?_
  refine lv_aload_n hx hb dL_law_29 rfl (lv_at hl 1 rfl) ?_
  refine lv_aload hx hb dL_law_30 (lv_at hl 0 rfl) ?_
  refine kc_wSXi (UT := bU) (post := bOk) (wq := fun u => wLw ad cI u.1 u.2.1 u.2.2.1 u.2.2.2.1 (fun _ => 0) u.2.2.2.2.1 u.2.2.2.2.2.1 u.2.2.2.2.2.2 (fun _ => 0) (fun _ => 0) (fun _ => 0) (fun _ => 0) (fun _ => 0) (fun _ => 0) (fun _ => 0) 0 (fun _ => 0) (fun _ => 0) 0 u.1 u.2.2.1 (cnF (nI u.2.2.2.2.1) (nI u.2.2.2.2.2.1) u.2.2.2.2.2.2)) (As := [.ref (ad 14), .ref b, .int 0, .int 5, .int 5, .ref (ad 17), .ref (ad 18), .ref (ad 19)]) (rest := []) ⟨hx, hb, hml, hown, hts⟩ (c_L_build l (dC, dI) ad cI (fun _ => 0) (fun _ => 0) (fun _ => 0) (fun _ => 0) (fun _ => 0) (fun _ => 0) (fun _ => 0) (fun _ => 0) 0 (fun _ => 0) (fun _ => 0) 0 b L xs H.size hL31) (va_cwS 8 hts gL_law_L_build rfl rfl rfl (by decide +kernel) ⟨Nat.le_of_ble_eq_true rfl, Nat.le_of_ble_eq_true rfl⟩) hK hP hD hXs hbl hbA hS hA [0, 1, 2, 3, 4, 5, 6, 7, 8, 9, 10, 11, 12, 13, 14, 15, 16, 17, 18, 19] [0] rfl (by decide) rfl rfl hl.1 rfl (Nat.le_of_ble_eq_true rfl) dL_law_32 ⟨Nat.le_of_ble_eq_true rfl, Nat.le_of_ble_eq_true rfl⟩ (fun u H locs hu hP2 hD2 hS2 => ?_)
  clear hP hD hS
  obtain ⟨cd, te, ri, pi, K, Dn, mv⟩ := u
  have hP : va_P (dC, dI) vwCl (wLw ad cI cd te ri pi (fun _ => 0) K Dn mv (fun _ => 0) (fun _ => 0) (fun _ => 0) (fun _ => 0) (fun _ => 0) (fun _ => 0) (fun _ => 0) 0 (fun _ => 0) (fun _ => 0) 0 cd ri (cnF (nI K) (nI Dn) mv)) H := hP2
  have hD : va_D (fun q : Nat => s.heap.size ≤ q) (wLw ad cI cd te ri pi (fun _ => 0) K Dn mv (fun _ => 0) (fun _ => 0) (fun _ => 0) (fun _ => 0) (fun _ => 0) (fun _ => 0) (fun _ => 0) 0 (fun _ => 0) (fun _ => 0) 0 cd ri (cnF (nI K) (nI Dn) mv)) := hD2
  have hS := hS2
  clear hP2 hD2 hS2
  obtain ⟨hK0, hK5, hD5, hbk, hri, hpi, h0, w, hw1, hw2⟩ := hu
  have hK0 : 0 < K := hK0
  have hK5 : K ≤ 5 := hK5
  have hD5 : Dn ≤ 5 := hD5
  have hw1 : w ≤ 64 * Dn := hw1
  refine lv_if_ne (tgt := 40) hx hb dL_law_35 (by decide) (fun _ => ?_) (fun h => absurd h (by decide))
  exact lw_main C0 hK hL31 rfl ad cd te ri pi (fun _ => 0) K Dn mv (fun _ => 0) (fun _ => 0) (fun _ => 0) (fun _ => 0) (fun _ => 0) (fun _ => 0) (fun _ => 0) 0 (fun _ => 0) (fun _ => 0) 0 mv (fun _ => 0) hK0 hK5 hD5 hbk hri hpi (Nat.zero_le 24) (fun _ _ => ⟨rfl, Nat.zero_le 9, fun q => absurd q (show ¬ (0 : Int32) = 1 by decide)⟩) ⟨w, by omega, hw2⟩ hP hD hS (lv_sub hl [4, 3, 2, 1, 0] rfl)
