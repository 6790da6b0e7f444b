/-! one call of the script: whatever its numbers, both sides answer alike and stay alike -/
theorem kc_leq {a b : Int32} (h : ¬ b < a) : a ≤ b := by
  rw [Int32.lt_iff_toInt_lt] at h
  rw [Int32.le_iff_toInt_le]
  omega
theorem kc_le99 {a : Int32} (h : ¬ (99 : Int32) < a) : a ≤ 99 := kc_leq h
set_option maxHeartbeats 1000000 in
theorem st_addKey {p : Program} {l : Launch} {e : Env} {s : State} {m : MethodId} {below : List Frame} {meth : Method} {c : Code} {Q : State → Prop} {b L : Nat} {xs : Nat → Int32} (hlf : l.stackTraces = false) (C0 : lw_At p s m meth c b L xs) {D : va_G} {cI cL : ClassId} (hK : kcK D [(cI, .int), (cL, .long)] s) (hX0 : kcX (fun q => s.heap.size ≤ q) s s.heap) (hL : L ≤ 2048) {i : Nat} (hi : i + 3 < L) {ad md : Nat → Nat} {ws : va_W} (hI : lw_I ad cI cL md ws) {H : Heap} {locs : List Loc} {cells slots : Nat} (hce : cells + 2 ≤ 601024) (hsl : slots + 16 ≤ 7293034) (hP : va_P D vwCl ws H) (hD : va_D (fun q => s.heap.size ≤ q) ws) (hS : va_S (fun q => s.heap.size ≤ q) s.heap H locs) {ls : Array Slot} (hl : lv_has ls 9 [(0, .ref b), (1, .ref (ad 14)), (2, .ref (md 0)), (3, .ref (ad 17)), (4, .int (nI i))]) (K1 : ∀ (H : Heap) (locs : List Loc) (ls : Array Slot) (ws : va_W), lw_I ad cI cL md ws → va_P D vwCl ws H → va_D (fun q => s.heap.size ≤ q) ws → va_S (fun q => s.heap.size ≤ q) s.heap H locs → lv_has ls 9 [(0, .ref b), (1, .ref (ad 14)), (2, .ref (md 0)), (3, .ref (ad 17)), (4, .int (nI i))] → W p l e room_1 s m #[Value.ref b] below meth c H locs (cells + 2) (slots + 16) Q (F0 m 1633 ls [])) : W p l e room_1 s m #[Value.ref b] below meth c H locs cells slots Q (F0 m 176 ls []) := by
  obtain ⟨cd, te, ri, pi, pw, K, Dn, mv, ko, so, tl, lp, lb, ld, le, C, cl, dq, dy, ou, th, mu, me, tn, kn, rfl, hPP, hLL⟩ := hI
  obtain ⟨hK8, hD8, hTe, hPi, hPi0, hRi⟩ := id hPP
  obtain ⟨hC24, hkn, hok, htl0, hMu, hHo, hEnd, hd0, hd9⟩ := id hLL
  by_cases hb : xs (i + 1) < 0 ∨ (1024 : Int32) ≤ xs (i + 1)
  · refine lw_addKey_f1_f1 hlf C0 hK hX0 hL i hi ad cd te ri pi pw K Dn mv ko so tl lp lb ld le C cl dq dy ou md th K cd Dn ri mv dy C ko so mu tl lp lb me (xs (i + 1)) hb hb rfl hce hsl hP hD hS hl (fun H locs ls hP hD hS hl => K1 H locs ls _ ?_ hP hD hS hl)
    exact lw_I.mk hPP hLL
  · have h1 : ¬ xs (i + 1) < 0 := fun q => hb (Or.inl q)
    have h2 : xs (i + 1) < 1024 := kc_nlt2 (fun q => hb (Or.inr q))
    rcases Nat.lt_or_ge K 8 with hK7 | hKe
    · by_cases hf : jTaken cd K (xs (i + 1)) = true
      · refine lw_addKey_f2b_f2b hlf C0 hK hX0 hL i hi ad cd te ri pi pw K Dn mv ko so tl lp lb ld le C cl dq dy ou md th K cd Dn ri mv dy C ko so mu tl lp lb me (xs (i + 1)) h1 h2 hK7 hf h1 h2 hK7 hf rfl hce hsl hP hD hS hl (fun H locs ls hP hD hS hl => K1 H locs ls _ ?_ hP hD hS hl)
        exact lw_I.mk hPP hLL
      · refine lw_addKey_ok_ok hlf C0 hK hX0 hL i hi ad cd te ri pi pw K Dn mv ko so tl lp lb ld le C cl dq dy ou md th K cd Dn ri mv dy C ko so mu tl lp lb me (xs (i + 1)) h1 h2 hK7 hf h1 h2 hK7 hf rfl rfl hce hsl hP hD hS hl (fun H locs ls hP hD hS hl => K1 H locs ls _ ?_ hP hD hS hl)
        exact lw_I.mk (pI_addKey hPP hK7 _) (lI_key hLL (Nat.le_succ _))
    · refine lw_addKey_f2a_f2a hlf C0 hK hX0 hL i hi ad cd te ri pi pw K Dn mv ko so tl lp lb ld le C cl dq dy ou md th K cd Dn ri mv dy C ko so mu tl lp lb me (xs (i + 1)) h1 h2 (by omega) h1 h2 (by omega) rfl hce hsl hP hD hS hl (fun H locs ls hP hD hS hl => K1 H locs ls _ ?_ hP hD hS hl)
      exact lw_I.mk hPP hLL
set_option maxHeartbeats 1000000 in
theorem st_addDoor {p : Program} {l : Launch} {e : Env} {s : State} {m : MethodId} {below : List Frame} {meth : Method} {c : Code} {Q : State → Prop} {b L : Nat} {xs : Nat → Int32} (hlf : l.stackTraces = false) (C0 : lw_At p s m meth c b L xs) {D : va_G} {cI cL : ClassId} (hK : kcK D [(cI, .int), (cL, .long)] s) (hX0 : kcX (fun q => s.heap.size ≤ q) s s.heap) (hL : L ≤ 2048) {i : Nat} (hi : i + 3 < L) {ad md : Nat → Nat} {ws : va_W} (hI : lw_I ad cI cL md ws) {H : Heap} {locs : List Loc} {cells slots : Nat} (hce : cells + 2 ≤ 601024) (hsl : slots + 16 ≤ 7293034) (hP : va_P D vwCl ws H) (hD : va_D (fun q => s.heap.size ≤ q) ws) (hS : va_S (fun q => s.heap.size ≤ q) s.heap H locs) {ls : Array Slot} (hl : lv_has ls 9 [(0, .ref b), (1, .ref (ad 14)), (2, .ref (md 0)), (3, .ref (ad 17)), (4, .int (nI i))]) (K1 : ∀ (H : Heap) (locs : List Loc) (ls : Array Slot) (ws : va_W), lw_I ad cI cL md ws → va_P D vwCl ws H → va_D (fun q => s.heap.size ≤ q) ws → va_S (fun q => s.heap.size ≤ q) s.heap H locs → lv_has ls 9 [(0, .ref b), (1, .ref (ad 14)), (2, .ref (md 0)), (3, .ref (ad 17)), (4, .int (nI i))] → W p l e room_1 s m #[Value.ref b] below meth c H locs (cells + 2) (slots + 16) Q (F0 m 1633 ls [])) : W p l e room_1 s m #[Value.ref b] below meth c H locs cells slots Q (F0 m 232 ls []) := by
  obtain ⟨cd, te, ri, pi, pw, K, Dn, mv, ko, so, tl, lp, lb, ld, le, C, cl, dq, dy, ou, th, mu, me, tn, kn, rfl, hPP, hLL⟩ := hI
  obtain ⟨hK8, hD8, hTe, hPi, hPi0, hRi⟩ := id hPP
  obtain ⟨hC24, hkn, hok, htl0, hMu, hHo, hEnd, hd0, hd9⟩ := id hLL
  by_cases hs : jSet K (xs (i + 1)) = true
  · rcases Nat.lt_or_ge Dn 8 with hD7 | hDe
    · refine lw_addDoor_ok_ok hlf C0 hK hX0 hL i hi ad cd te ri pi pw K Dn mv ko so tl lp lb ld le C cl dq dy ou md th K cd Dn ri mv dy C ko so mu tl lp lb me (xs (i + 1)) hK8 (by rw [L_set hK8]; exact hs) hD7 hK8 hs hD7 rfl rfl hce hsl hP hD hS hl (fun H locs ls hP hD hS hl => K1 H locs ls _ ?_ hP hD hS hl)
      rw [← L_addDoor hPP hD7]
      exact lw_I.mk (pI_addDoor hPP hD7 hs) hLL
    · refine lw_addDoor_f2_f2 hlf C0 hK hX0 hL i hi ad cd te ri pi pw K Dn mv ko so tl lp lb ld le C cl dq dy ou md th K cd Dn ri mv dy C ko so mu tl lp lb me (xs (i + 1)) (by rw [L_set hK8]; exact hs) (by omega) hs (by omega) rfl hce hsl hP hD hS hl (fun H locs ls hP hD hS hl => K1 H locs ls _ ?_ hP hD hS hl)
      exact lw_I.mk hPP hLL
  · refine lw_addDoor_f1_f1 hlf C0 hK hX0 hL i hi ad cd te ri pi pw K Dn mv ko so tl lp lb ld le C cl dq dy ou md th K cd Dn ri mv dy C ko so mu tl lp lb me (xs (i + 1)) (by rw [L_set hK8]; exact hs) hs rfl hce hsl hP hD hS hl (fun H locs ls hP hD hS hl => K1 H locs ls _ ?_ hP hD hS hl)
    exact lw_I.mk hPP hLL
set_option maxHeartbeats 1000000 in
theorem st_setRights {p : Program} {l : Launch} {e : Env} {s : State} {m : MethodId} {below : List Frame} {meth : Method} {c : Code} {Q : State → Prop} {b L : Nat} {xs : Nat → Int32} (hlf : l.stackTraces = false) (C0 : lw_At p s m meth c b L xs) {D : va_G} {cI cL : ClassId} (hK : kcK D [(cI, .int), (cL, .long)] s) (hX0 : kcX (fun q => s.heap.size ≤ q) s s.heap) (hL : L ≤ 2048) {i : Nat} (hi : i + 3 < L) {ad md : Nat → Nat} {ws : va_W} (hI : lw_I ad cI cL md ws) {H : Heap} {locs : List Loc} {cells slots : Nat} (hce : cells + 2 ≤ 601024) (hsl : slots + 16 ≤ 7293034) (hP : va_P D vwCl ws H) (hD : va_D (fun q => s.heap.size ≤ q) ws) (hS : va_S (fun q => s.heap.size ≤ q) s.heap H locs) {ls : Array Slot} (hl : lv_has ls 9 [(0, .ref b), (1, .ref (ad 14)), (2, .ref (md 0)), (3, .ref (ad 17)), (4, .int (nI i))]) (K1 : ∀ (H : Heap) (locs : List Loc) (ls : Array Slot) (ws : va_W), lw_I ad cI cL md ws → va_P D vwCl ws H → va_D (fun q => s.heap.size ≤ q) ws → va_S (fun q => s.heap.size ≤ q) s.heap H locs → lv_has ls 9 [(0, .ref b), (1, .ref (ad 14)), (2, .ref (md 0)), (3, .ref (ad 17)), (4, .int (nI i))] → W p l e room_1 s m #[Value.ref b] below meth c H locs (cells + 2) (slots + 16) Q (F0 m 1633 ls [])) : W p l e room_1 s m #[Value.ref b] below meth c H locs cells slots Q (F0 m 288 ls []) := by
  obtain ⟨cd, te, ri, pi, pw, K, Dn, mv, ko, so, tl, lp, lb, ld, le, C, cl, dq, dy, ou, th, mu, me, tn, kn, rfl, hPP, hLL⟩ := hI
  obtain ⟨hK8, hD8, hTe, hPi, hPi0, hRi⟩ := id hPP
  obtain ⟨hC24, hkn, hok, htl0, hMu, hHo, hEnd, hd0, hd9⟩ := id hLL
  by_cases hx1 : jIn Dn (xs (i + 1)) = true
  · obtain ⟨d, hd, e1⟩ := jIn_ex hx1
    by_cases hs : jSet K (xs (i + 2)) = true
    · refine lw_setRights_ok_ok hlf C0 hK hX0 hL i hi ad cd te ri pi pw K Dn mv ko so tl lp lb ld le C cl dq dy ou md th K cd Dn ri mv dy C ko so mu tl lp lb me d (xs (i + 2)) hK8 hD8 hd (by rw [L_set hK8]; exact hs) hK8 hD8 hd hs e1 rfl rfl hce hsl hP hD hS hl (fun H locs ls hP hD hS hl => K1 H locs ls _ ?_ hP hD hS hl)
      rw [← L_setRights hPP hd]
      exact lw_I.mk (pI_setRights hPP hd hs) hLL
    · refine lw_setRights_f2_f2 hlf C0 hK hX0 hL i hi ad cd te ri pi pw K Dn mv ko so tl lp lb ld le C cl dq dy ou md th K cd Dn ri mv dy C ko so mu tl lp lb me d (xs (i + 2)) hD8 hd (by rw [L_set hK8]; exact hs) hD8 hd hs e1 rfl hce hsl hP hD hS hl (fun H locs ls hP hD hS hl => K1 H locs ls _ ?_ hP hD hS hl)
      exact lw_I.mk hPP hLL
  · refine lw_setRights_f1_f1 hlf C0 hK hX0 hL i hi ad cd te ri pi pw K Dn mv ko so tl lp lb ld le C cl dq dy ou md th K cd Dn ri mv dy C ko so mu tl lp lb me (xs (i + 1)) (xs (i + 2)) hx1 hx1 rfl rfl hce hsl hP hD hS hl (fun H locs ls hP hD hS hl => K1 H locs ls _ ?_ hP hD hS hl)
    exact lw_I.mk hPP hLL
set_option maxHeartbeats 1000000 in
theorem st_code {p : Program} {l : Launch} {e : Env} {s : State} {m : MethodId} {below : List Frame} {meth : Method} {c : Code} {Q : State → Prop} {b L : Nat} {xs : Nat → Int32} (hlf : l.stackTraces = false) (C0 : lw_At p s m meth c b L xs) {D : va_G} {cI cL : ClassId} (hK : kcK D [(cI, .int), (cL, .long)] s) (hX0 : kcX (fun q => s.heap.size ≤ q) s s.heap) (hL : L ≤ 2048) {i : Nat} (hi : i + 3 < L) {ad md : Nat → Nat} {ws : va_W} (hI : lw_I ad cI cL md ws) {H : Heap} {locs : List Loc} {cells slots : Nat} (hce : cells + 2 ≤ 601024) (hsl : slots + 16 ≤ 7293034) (hP : va_P D vwCl ws H) (hD : va_D (fun q => s.heap.size ≤ q) ws) (hS : va_S (fun q => s.heap.size ≤ q) s.heap H locs) {ls : Array Slot} (hl : lv_has ls 9 [(0, .ref b), (1, .ref (ad 14)), (2, .ref (md 0)), (3, .ref (ad 17)), (4, .int (nI i))]) (K1 : ∀ (H : Heap) (locs : List Loc) (ls : Array Slot) (ws : va_W), lw_I ad cI cL md ws → va_P D vwCl ws H → va_D (fun q => s.heap.size ≤ q) ws → va_S (fun q => s.heap.size ≤ q) s.heap H locs → lv_has ls 9 [(0, .ref b), (1, .ref (ad 14)), (2, .ref (md 0)), (3, .ref (ad 17)), (4, .int (nI i))] → W p l e room_1 s m #[Value.ref b] below meth c H locs (cells + 2) (slots + 16) Q (F0 m 1633 ls [])) : W p l e room_1 s m #[Value.ref b] below meth c H locs cells slots Q (F0 m 382 ls []) := by
  obtain ⟨cd, te, ri, pi, pw, K, Dn, mv, ko, so, tl, lp, lb, ld, le, C, cl, dq, dy, ou, th, mu, me, tn, kn, rfl, hPP, hLL⟩ := hI
  obtain ⟨hK8, hD8, hTe, hPi, hPi0, hRi⟩ := id hPP
  obtain ⟨hC24, hkn, hok, htl0, hMu, hHo, hEnd, hd0, hd9⟩ := id hLL
  by_cases hx1 : jIn K (xs (i + 1)) = true
  · obtain ⟨k, hk, e1⟩ := jIn_ex hx1
    refine lw_code_ok_ok hlf C0 hK hX0 hL i hi ad cd te ri pi pw K Dn mv ko so tl lp lb ld le C cl dq dy ou md th K cd Dn ri mv dy C ko so mu tl lp lb me k hK8 hk hK8 hk e1 rfl hce hsl hP hD hS hl (fun H locs ls hP hD hS hl => K1 H locs ls _ ?_ hP hD hS hl)
    exact lw_I.mk hPP hLL
  · refine lw_code_f1_f1 hlf C0 hK hX0 hL i hi ad cd te ri pi pw K Dn mv ko so tl lp lb ld le C cl dq dy ou md th K cd Dn ri mv dy C ko so mu tl lp lb me (xs (i + 1)) hx1 hx1 rfl hce hsl hP hD hS hl (fun H locs ls hP hD hS hl => K1 H locs ls _ ?_ hP hD hS hl)
    exact lw_I.mk hPP hLL
set_option maxHeartbeats 1000000 in
theorem st_pins {p : Program} {l : Launch} {e : Env} {s : State} {m : MethodId} {below : List Frame} {meth : Method} {c : Code} {Q : State → Prop} {b L : Nat} {xs : Nat → Int32} (hlf : l.stackTraces = false) (C0 : lw_At p s m meth c b L xs) {D : va_G} {cI cL : ClassId} (hK : kcK D [(cI, .int), (cL, .long)] s) (hX0 : kcX (fun q => s.heap.size ≤ q) s s.heap) (hL : L ≤ 2048) {i : Nat} (hi : i + 3 < L) {ad md : Nat → Nat} {ws : va_W} (hI : lw_I ad cI cL md ws) {H : Heap} {locs : List Loc} {cells slots : Nat} (hce : cells + 2 ≤ 601024) (hsl : slots + 16 ≤ 7293034) (hP : va_P D vwCl ws H) (hD : va_D (fun q => s.heap.size ≤ q) ws) (hS : va_S (fun q => s.heap.size ≤ q) s.heap H locs) {ls : Array Slot} (hl : lv_has ls 9 [(0, .ref b), (1, .ref (ad 14)), (2, .ref (md 0)), (3, .ref (ad 17)), (4, .int (nI i))]) (K1 : ∀ (H : Heap) (locs : List Loc) (ls : Array Slot) (ws : va_W), lw_I ad cI cL md ws → va_P D vwCl ws H → va_D (fun q => s.heap.size ≤ q) ws → va_S (fun q => s.heap.size ≤ q) s.heap H locs → lv_has ls 9 [(0, .ref b), (1, .ref (ad 14)), (2, .ref (md 0)), (3, .ref (ad 17)), (4, .int (nI i))] → W p l e room_1 s m #[Value.ref b] below meth c H locs (cells + 2) (slots + 16) Q (F0 m 1633 ls [])) : W p l e room_1 s m #[Value.ref b] below meth c H locs cells slots Q (F0 m 438 ls []) := by
  obtain ⟨cd, te, ri, pi, pw, K, Dn, mv, ko, so, tl, lp, lb, ld, le, C, cl, dq, dy, ou, th, mu, me, tn, kn, rfl, hPP, hLL⟩ := hI
  obtain ⟨hK8, hD8, hTe, hPi, hPi0, hRi⟩ := id hPP
  obtain ⟨hC24, hkn, hok, htl0, hMu, hHo, hEnd, hd0, hd9⟩ := id hLL
  by_cases hx1 : jIn Dn (xs (i + 1)) = true
  · obtain ⟨d, hd, e1⟩ := jIn_ex hx1
    by_cases hx2 : jIn 5 (xs (i + 2)) = true
    · obtain ⟨q, hq, e2⟩ := jIn_ex hx2
      refine lw_pins_ok_ok hlf C0 hK hX0 hL i hi ad cd te ri pi pw K Dn mv ko so tl lp lb ld le C cl dq dy ou md th K cd Dn ri mv dy C ko so mu tl lp lb me d q hD8 hd hq hK8 hD8 hd hq e1 e2 (L_pins hK8 hTe (hPi d hd) hq) hce hsl hP hD hS hl (fun H locs ls hP hD hS hl => K1 H locs ls _ ?_ hP hD hS hl)
      exact lw_I.mk hPP hLL
    · refine lw_pins_f2_f2 hlf C0 hK hX0 hL i hi ad cd te ri pi pw K Dn mv ko so tl lp lb ld le C cl dq dy ou md th K cd Dn ri mv dy C ko so mu tl lp lb me d (xs (i + 2)) hD8 hd hx2 hD8 hd hx2 e1 rfl hce hsl hP hD hS hl (fun H locs ls hP hD hS hl => K1 H locs ls _ ?_ hP hD hS hl)
      exact lw_I.mk hPP hLL
  · refine lw_pins_f1_f1 hlf C0 hK hX0 hL i hi ad cd te ri pi pw K Dn mv ko so tl lp lb ld le C cl dq dy ou md th K cd Dn ri mv dy C ko so mu tl lp lb me (xs (i + 1)) (xs (i + 2)) hx1 hx1 rfl rfl hce hsl hP hD hS hl (fun H locs ls hP hD hS hl => K1 H locs ls _ ?_ hP hD hS hl)
    exact lw_I.mk hPP hLL
set_option maxHeartbeats 1000000 in
theorem st_opens {p : Program} {l : Launch} {e : Env} {s : State} {m : MethodId} {below : List Frame} {meth : Method} {c : Code} {Q : State → Prop} {b L : Nat} {xs : Nat → Int32} (hlf : l.stackTraces = false) (C0 : lw_At p s m meth c b L xs) {D : va_G} {cI cL : ClassId} (hK : kcK D [(cI, .int), (cL, .long)] s) (hX0 : kcX (fun q => s.heap.size ≤ q) s s.heap) (hL : L ≤ 2048) {i : Nat} (hi : i + 3 < L) {ad md : Nat → Nat} {ws : va_W} (hI : lw_I ad cI cL md ws) {H : Heap} {locs : List Loc} {cells slots : Nat} (hce : cells + 2 ≤ 601024) (hsl : slots + 16 ≤ 7293034) (hP : va_P D vwCl ws H) (hD : va_D (fun q => s.heap.size ≤ q) ws) (hS : va_S (fun q => s.heap.size ≤ q) s.heap H locs) {ls : Array Slot} (hl : lv_has ls 9 [(0, .ref b), (1, .ref (ad 14)), (2, .ref (md 0)), (3, .ref (ad 17)), (4, .int (nI i))]) (K1 : ∀ (H : Heap) (locs : List Loc) (ls : Array Slot) (ws : va_W), lw_I ad cI cL md ws → va_P D vwCl ws H → va_D (fun q => s.heap.size ≤ q) ws → va_S (fun q => s.heap.size ≤ q) s.heap H locs → lv_has ls 9 [(0, .ref b), (1, .ref (ad 14)), (2, .ref (md 0)), (3, .ref (ad 17)), (4, .int (nI i))] → W p l e room_1 s m #[Value.ref b] below meth c H locs (cells + 2) (slots + 16) Q (F0 m 1633 ls [])) : W p l e room_1 s m #[Value.ref b] below meth c H locs cells slots Q (F0 m 506 ls []) := by
  obtain ⟨cd, te, ri, pi, pw, K, Dn, mv, ko, so, tl, lp, lb, ld, le, C, cl, dq, dy, ou, th, mu, me, tn, kn, rfl, hPP, hLL⟩ := hI
  obtain ⟨hK8, hD8, hTe, hPi, hPi0, hRi⟩ := id hPP
  obtain ⟨hC24, hkn, hok, htl0, hMu, hHo, hEnd, hd0, hd9⟩ := id hLL
  by_cases hx1 : jIn K (xs (i + 1)) = true
  · obtain ⟨k, hk, e1⟩ := jIn_ex hx1
    by_cases hx2 : jIn Dn (xs (i + 2)) = true
    · obtain ⟨d, hd, e2⟩ := jIn_ex hx2
      refine lw_opens_ok_ok hlf C0 hK hX0 hL i hi ad cd te ri pi pw K Dn mv ko so tl lp lb ld le C cl dq dy ou md th K cd Dn ri mv dy C ko so mu tl lp lb me k d hK8 hD8 hk hd hK8 hD8 hk hd e1 e2 (L_openK hK8 hTe hPi hk hd) hce hsl hP hD hS hl (fun H locs ls hP hD hS hl => K1 H locs ls _ ?_ hP hD hS hl)
      exact lw_I.mk hPP hLL
    · refine lw_opens_f2_f2 hlf C0 hK hX0 hL i hi ad cd te ri pi pw K Dn mv ko so tl lp lb ld le C cl dq dy ou md th K cd Dn ri mv dy C ko so mu tl lp lb me k (xs (i + 2)) hK8 hk hx2 hK8 hk hx2 e1 rfl hce hsl hP hD hS hl (fun H locs ls hP hD hS hl => K1 H locs ls _ ?_ hP hD hS hl)
      exact lw_I.mk hPP hLL
  · refine lw_opens_f1_f1 hlf C0 hK hX0 hL i hi ad cd te ri pi pw K Dn mv ko so tl lp lb ld le C cl dq dy ou md th K cd Dn ri mv dy C ko so mu tl lp lb me (xs (i + 1)) (xs (i + 2)) hx1 hx1 rfl rfl hce hsl hP hD hS hl (fun H locs ls hP hD hS hl => K1 H locs ls _ ?_ hP hD hS hl)
    exact lw_I.mk hPP hLL
set_option maxHeartbeats 1000000 in
theorem st_openers {p : Program} {l : Launch} {e : Env} {s : State} {m : MethodId} {below : List Frame} {meth : Method} {c : Code} {Q : State → Prop} {b L : Nat} {xs : Nat → Int32} (hlf : l.stackTraces = false) (C0 : lw_At p s m meth c b L xs) {D : va_G} {cI cL : ClassId} (hK : kcK D [(cI, .int), (cL, .long)] s) (hX0 : kcX (fun q => s.heap.size ≤ q) s s.heap) (hL : L ≤ 2048) {i : Nat} (hi : i + 3 < L) {ad md : Nat → Nat} {ws : va_W} (hI : lw_I ad cI cL md ws) {H : Heap} {locs : List Loc} {cells slots : Nat} (hce : cells + 2 ≤ 601024) (hsl : slots + 16 ≤ 7293034) (hP : va_P D vwCl ws H) (hD : va_D (fun q => s.heap.size ≤ q) ws) (hS : va_S (fun q => s.heap.size ≤ q) s.heap H locs) {ls : Array Slot} (hl : lv_has ls 9 [(0, .ref b), (1, .ref (ad 14)), (2, .ref (md 0)), (3, .ref (ad 17)), (4, .int (nI i))]) (K1 : ∀ (H : Heap) (locs : List Loc) (ls : Array Slot) (ws : va_W), lw_I ad cI cL md ws → va_P D vwCl ws H → va_D (fun q => s.heap.size ≤ q) ws → va_S (fun q => s.heap.size ≤ q) s.heap H locs → lv_has ls 9 [(0, .ref b), (1, .ref (ad 14)), (2, .ref (md 0)), (3, .ref (ad 17)), (4, .int (nI i))] → W p l e room_1 s m #[Value.ref b] below meth c H locs (cells + 2) (slots + 16) Q (F0 m 1633 ls [])) : W p l e room_1 s m #[Value.ref b] below meth c H locs cells slots Q (F0 m 581 ls []) := by
  obtain ⟨cd, te, ri, pi, pw, K, Dn, mv, ko, so, tl, lp, lb, ld, le, C, cl, dq, dy, ou, th, mu, me, tn, kn, rfl, hPP, hLL⟩ := hI
  obtain ⟨hK8, hD8, hTe, hPi, hPi0, hRi⟩ := id hPP
  obtain ⟨hC24, hkn, hok, htl0, hMu, hHo, hEnd, hd0, hd9⟩ := id hLL
  by_cases hx1 : jIn Dn (xs (i + 1)) = true
  · obtain ⟨d, hd, e1⟩ := jIn_ex hx1
    refine lw_openers_ok_ok hlf C0 hK hX0 hL i hi ad cd te ri pi pw K Dn mv ko so tl lp lb ld le C cl dq dy ou md th K cd Dn ri mv dy C ko so mu tl lp lb me d hK8 hD8 hd hK8 hD8 hd e1 (L_openers hK8 hTe hPi hd) hce hsl hP hD hS hl (fun H locs ls hP hD hS hl => K1 H locs ls _ ?_ hP hD hS hl)
    exact lw_I.mk hPP hLL
  · refine lw_openers_f1_f1 hlf C0 hK hX0 hL i hi ad cd te ri pi pw K Dn mv ko so tl lp lb ld le C cl dq dy ou md th K cd Dn ri mv dy C ko so mu tl lp lb me (xs (i + 1)) hx1 hx1 rfl hce hsl hP hD hS hl (fun H locs ls hP hD hS hl => K1 H locs ls _ ?_ hP hD hS hl)
    exact lw_I.mk hPP hLL
set_option maxHeartbeats 1000000 in
theorem st_doors {p : Program} {l : Launch} {e : Env} {s : State} {m : MethodId} {below : List Frame} {meth : Method} {c : Code} {Q : State → Prop} {b L : Nat} {xs : Nat → Int32} (hlf : l.stackTraces = false) (C0 : lw_At p s m meth c b L xs) {D : va_G} {cI cL : ClassId} (hK : kcK D [(cI, .int), (cL, .long)] s) (hX0 : kcX (fun q => s.heap.size ≤ q) s s.heap) (hL : L ≤ 2048) {i : Nat} (hi : i + 3 < L) {ad md : Nat → Nat} {ws : va_W} (hI : lw_I ad cI cL md ws) {H : Heap} {locs : List Loc} {cells slots : Nat} (hce : cells + 2 ≤ 601024) (hsl : slots + 16 ≤ 7293034) (hP : va_P D vwCl ws H) (hD : va_D (fun q => s.heap.size ≤ q) ws) (hS : va_S (fun q => s.heap.size ≤ q) s.heap H locs) {ls : Array Slot} (hl : lv_has ls 9 [(0, .ref b), (1, .ref (ad 14)), (2, .ref (md 0)), (3, .ref (ad 17)), (4, .int (nI i))]) (K1 : ∀ (H : Heap) (locs : List Loc) (ls : Array Slot) (ws : va_W), lw_I ad cI cL md ws → va_P D vwCl ws H → va_D (fun q => s.heap.size ≤ q) ws → va_S (fun q => s.heap.size ≤ q) s.heap H locs → lv_has ls 9 [(0, .ref b), (1, .ref (ad 14)), (2, .ref (md 0)), (3, .ref (ad 17)), (4, .int (nI i))] → W p l e room_1 s m #[Value.ref b] below meth c H locs (cells + 2) (slots + 16) Q (F0 m 1633 ls [])) : W p l e room_1 s m #[Value.ref b] below meth c H locs cells slots Q (F0 m 637 ls []) := by
  obtain ⟨cd, te, ri, pi, pw, K, Dn, mv, ko, so, tl, lp, lb, ld, le, C, cl, dq, dy, ou, th, mu, me, tn, kn, rfl, hPP, hLL⟩ := hI
  obtain ⟨hK8, hD8, hTe, hPi, hPi0, hRi⟩ := id hPP
  obtain ⟨hC24, hkn, hok, htl0, hMu, hHo, hEnd, hd0, hd9⟩ := id hLL
  by_cases hx1 : jIn K (xs (i + 1)) = true
  · obtain ⟨k, hk, e1⟩ := jIn_ex hx1
    refine lw_doors_ok_ok hlf C0 hK hX0 hL i hi ad cd te ri pi pw K Dn mv ko so tl lp lb ld le C cl dq dy ou md th K cd Dn ri mv dy C ko so mu tl lp lb me k hK8 hD8 hk hK8 hD8 hk e1 (L_doors hK8 hTe hPi hk) hce hsl hP hD hS hl (fun H locs ls hP hD hS hl => K1 H locs ls _ ?_ hP hD hS hl)
    exact lw_I.mk hPP hLL
  · refine lw_doors_f1_f1 hlf C0 hK hX0 hL i hi ad cd te ri pi pw K Dn mv ko so tl lp lb ld le C cl dq dy ou md th K cd Dn ri mv dy C ko so mu tl lp lb me (xs (i + 1)) hx1 hx1 rfl hce hsl hP hD hS hl (fun H locs ls hP hD hS hl => K1 H locs ls _ ?_ hP hD hS hl)
    exact lw_I.mk hPP hLL
set_option maxHeartbeats 1000000 in
theorem st_codes {p : Program} {l : Launch} {e : Env} {s : State} {m : MethodId} {below : List Frame} {meth : Method} {c : Code} {Q : State → Prop} {b L : Nat} {xs : Nat → Int32} (hlf : l.stackTraces = false) (C0 : lw_At p s m meth c b L xs) {D : va_G} {cI cL : ClassId} (hK : kcK D [(cI, .int), (cL, .long)] s) (hX0 : kcX (fun q => s.heap.size ≤ q) s s.heap) (hL : L ≤ 2048) {i : Nat} (hi : i + 3 < L) {ad md : Nat → Nat} {ws : va_W} (hI : lw_I ad cI cL md ws) {H : Heap} {locs : List Loc} {cells slots : Nat} (hce : cells + 2 ≤ 601024) (hsl : slots + 16 ≤ 7293034) (hP : va_P D vwCl ws H) (hD : va_D (fun q => s.heap.size ≤ q) ws) (hS : va_S (fun q => s.heap.size ≤ q) s.heap H locs) {ls : Array Slot} (hl : lv_has ls 9 [(0, .ref b), (1, .ref (ad 14)), (2, .ref (md 0)), (3, .ref (ad 17)), (4, .int (nI i))]) (K1 : ∀ (H : Heap) (locs : List Loc) (ls : Array Slot) (ws : va_W), lw_I ad cI cL md ws → va_P D vwCl ws H → va_D (fun q => s.heap.size ≤ q) ws → va_S (fun q => s.heap.size ≤ q) s.heap H locs → lv_has ls 9 [(0, .ref b), (1, .ref (ad 14)), (2, .ref (md 0)), (3, .ref (ad 17)), (4, .int (nI i))] → W p l e room_1 s m #[Value.ref b] below meth c H locs (cells + 2) (slots + 16) Q (F0 m 1633 ls [])) : W p l e room_1 s m #[Value.ref b] below meth c H locs cells slots Q (F0 m 706 ls []) := by
  obtain ⟨cd, te, ri, pi, pw, K, Dn, mv, ko, so, tl, lp, lb, ld, le, C, cl, dq, dy, ou, th, mu, me, tn, kn, rfl, hPP, hLL⟩ := hI
  obtain ⟨hK8, hD8, hTe, hPi, hPi0, hRi⟩ := id hPP
  obtain ⟨hC24, hkn, hok, htl0, hMu, hHo, hEnd, hd0, hd9⟩ := id hLL
  by_cases hx1 : jIn Dn (xs (i + 1)) = true
  · obtain ⟨d, hd, e1⟩ := jIn_ex hx1
    refine lw_codes_ok_ok hlf C0 hK hX0 hL i hi ad cd te ri pi pw K Dn mv ko so tl lp lb ld le C cl dq dy ou md th K cd Dn ri mv dy C ko so mu tl lp lb me d hD8 hd hK8 hD8 hd e1 (L_codes hK8 hTe (hPi d hd)) hce hsl hP hD hS hl (fun H locs ls hP hD hS hl => K1 H locs ls _ ?_ hP hD hS hl)
    exact lw_I.mk hPP hLL
  · refine lw_codes_f1_f1 hlf C0 hK hX0 hL i hi ad cd te ri pi pw K Dn mv ko so tl lp lb ld le C cl dq dy ou md th K cd Dn ri mv dy C ko so mu tl lp lb me (xs (i + 1)) hx1 hx1 rfl hce hsl hP hD hS hl (fun H locs ls hP hD hS hl => K1 H locs ls _ ?_ hP hD hS hl)
    exact lw_I.mk hPP hLL
set_option maxHeartbeats 1000000 in
theorem st_isAbove {p : Program} {l : Launch} {e : Env} {s : State} {m : MethodId} {below : List Frame} {meth : Method} {c : Code} {Q : State → Prop} {b L : Nat} {xs : Nat → Int32} (hlf : l.stackTraces = false) (C0 : lw_At p s m meth c b L xs) {D : va_G} {cI cL : ClassId} (hK : kcK D [(cI, .int), (cL, .long)] s) (hX0 : kcX (fun q => s.heap.size ≤ q) s s.heap) (hL : L ≤ 2048) {i : Nat} (hi : i + 3 < L) {ad md : Nat → Nat} {ws : va_W} (hI : lw_I ad cI cL md ws) {H : Heap} {locs : List Loc} {cells slots : Nat} (hce : cells + 2 ≤ 601024) (hsl : slots + 16 ≤ 7293034) (hP : va_P D vwCl ws H) (hD : va_D (fun q => s.heap.size ≤ q) ws) (hS : va_S (fun q => s.heap.size ≤ q) s.heap H locs) {ls : Array Slot} (hl : lv_has ls 9 [(0, .ref b), (1, .ref (ad 14)), (2, .ref (md 0)), (3, .ref (ad 17)), (4, .int (nI i))]) (K1 : ∀ (H : Heap) (locs : List Loc) (ls : Array Slot) (ws : va_W), lw_I ad cI cL md ws → va_P D vwCl ws H → va_D (fun q => s.heap.size ≤ q) ws → va_S (fun q => s.heap.size ≤ q) s.heap H locs → lv_has ls 9 [(0, .ref b), (1, .ref (ad 14)), (2, .ref (md 0)), (3, .ref (ad 17)), (4, .int (nI i))] → W p l e room_1 s m #[Value.ref b] below meth c H locs (cells + 2) (slots + 16) Q (F0 m 1633 ls [])) : W p l e room_1 s m #[Value.ref b] below meth c H locs cells slots Q (F0 m 762 ls []) := by
  obtain ⟨cd, te, ri, pi, pw, K, Dn, mv, ko, so, tl, lp, lb, ld, le, C, cl, dq, dy, ou, th, mu, me, tn, kn, rfl, hPP, hLL⟩ := hI
  obtain ⟨hK8, hD8, hTe, hPi, hPi0, hRi⟩ := id hPP
  obtain ⟨hC24, hkn, hok, htl0, hMu, hHo, hEnd, hd0, hd9⟩ := id hLL
  by_cases hx1 : jIn K (xs (i + 1)) = true
  · obtain ⟨k, hk, e1⟩ := jIn_ex hx1
    by_cases hx2 : jIn K (xs (i + 2)) = true
    · obtain ⟨k2, hk2, e2⟩ := jIn_ex hx2
      refine lw_isAbove_ok_ok hlf C0 hK hX0 hL i hi ad cd te ri pi pw K Dn mv ko so tl lp lb ld le C cl dq dy ou md th K cd Dn ri mv dy C ko so mu tl lp lb me k k2 hK8 hD8 hk hk2 hK8 hD8 hk hk2 e1 e2 (by rw [L_doors hK8 hTe hPi hk, L_doors hK8 hTe hPi hk2]; exact L_above _ _) hce hsl hP hD hS hl (fun H locs ls hP hD hS hl => K1 H locs ls _ ?_ hP hD hS hl)
      exact lw_I.mk hPP hLL
    · refine lw_isAbove_f2_f2 hlf C0 hK hX0 hL i hi ad cd te ri pi pw K Dn mv ko so tl lp lb ld le C cl dq dy ou md th K cd Dn ri mv dy C ko so mu tl lp lb me k (xs (i + 2)) hK8 hk hx2 hK8 hk hx2 e1 rfl hce hsl hP hD hS hl (fun H locs ls hP hD hS hl => K1 H locs ls _ ?_ hP hD hS hl)
      exact lw_I.mk hPP hLL
  · refine lw_isAbove_f1_f1 hlf C0 hK hX0 hL i hi ad cd te ri pi pw K Dn mv ko so tl lp lb ld le C cl dq dy ou md th K cd Dn ri mv dy C ko so mu tl lp lb me (xs (i + 1)) (xs (i + 2)) hx1 hx1 rfl rfl hce hsl hP hD hS hl (fun H locs ls hP hD hS hl => K1 H locs ls _ ?_ hP hD hS hl)
    exact lw_I.mk hPP hLL
set_option maxHeartbeats 1000000 in
theorem st_replace {p : Program} {l : Launch} {e : Env} {s : State} {m : MethodId} {below : List Frame} {meth : Method} {c : Code} {Q : State → Prop} {b L : Nat} {xs : Nat → Int32} (hlf : l.stackTraces = false) (C0 : lw_At p s m meth c b L xs) {D : va_G} {cI cL : ClassId} (hK : kcK D [(cI, .int), (cL, .long)] s) (hX0 : kcX (fun q => s.heap.size ≤ q) s s.heap) (hL : L ≤ 2048) {i : Nat} (hi : i + 3 < L) {ad md : Nat → Nat} {ws : va_W} (hI : lw_I ad cI cL md ws) {H : Heap} {locs : List Loc} {cells slots : Nat} (hce : cells + 2 ≤ 601024) (hsl : slots + 16 ≤ 7293034) (hP : va_P D vwCl ws H) (hD : va_D (fun q => s.heap.size ≤ q) ws) (hS : va_S (fun q => s.heap.size ≤ q) s.heap H locs) {ls : Array Slot} (hl : lv_has ls 9 [(0, .ref b), (1, .ref (ad 14)), (2, .ref (md 0)), (3, .ref (ad 17)), (4, .int (nI i))]) (K1 : ∀ (H : Heap) (locs : List Loc) (ls : Array Slot) (ws : va_W), lw_I ad cI cL md ws → va_P D vwCl ws H → va_D (fun q => s.heap.size ≤ q) ws → va_S (fun q => s.heap.size ≤ q) s.heap H locs → lv_has ls 9 [(0, .ref b), (1, .ref (ad 14)), (2, .ref (md 0)), (3, .ref (ad 17)), (4, .int (nI i))] → W p l e room_1 s m #[Value.ref b] below meth c H locs (cells + 2) (slots + 16) Q (F0 m 1633 ls [])) : W p l e room_1 s m #[Value.ref b] below meth c H locs cells slots Q (F0 m 850 ls []) := by
  obtain ⟨cd, te, ri, pi, pw, K, Dn, mv, ko, so, tl, lp, lb, ld, le, C, cl, dq, dy, ou, th, mu, me, tn, kn, rfl, hPP, hLL⟩ := hI
  obtain ⟨hK8, hD8, hTe, hPi, hPi0, hRi⟩ := id hPP
  obtain ⟨hC24, hkn, hok, htl0, hMu, hHo, hEnd, hd0, hd9⟩ := id hLL
  by_cases hx1 : jIn K (xs (i + 1)) = true
  · obtain ⟨k, hk, e1⟩ := jIn_ex hx1
    have e0 := L_best_eq (pw := pw) hK8 hD8 hTe hPi hk
    by_cases hne : (jBest cd te ri pi (jWithout te ri K k pw Dn) K Dn k 1024).1 = (-1)
    · refine lw_replace_none_none hlf C0 hK hX0 hL i hi ad cd te ri pi pw K Dn mv ko so tl lp lb ld le C cl dq dy ou md th K cd Dn ri mv dy C ko so mu tl lp lb me k tn hK8 hD8 hk hne hK8 hD8 hC24 hk hok (by rw [← e0]; exact hne) e1 rfl hce hsl hP hD hS hl (fun H locs ls hP hD hS hl => K1 H locs ls _ ?_ hP hD hS hl)
      rw [L_best_arr hK8 hD8 hTe hPi hk, upd_same]
      exact lw_I.mk hPP hLL
    · refine lw_replace_ok_ok hlf C0 hK hX0 hL i hi ad cd te ri pi pw K Dn mv ko so tl lp lb ld le C cl dq dy ou md th K cd Dn ri mv dy C ko so mu tl lp lb me k tn hK8 hD8 hC24 hk hok hne hK8 hD8 hC24 hk hok (by rw [← e0]; exact hne) e1 e0 hce hsl hP hD hS hl (fun H locs ls hP hD hS hl => K1 H locs ls _ ?_ hP hD hS hl)
      rw [L_best_arr hK8 hD8 hTe hPi hk, ← e0, ← L_rework hK8 hD8 hTe hPi hk mv hne]
      exact lw_I.mk (pI_replace hPP k _) (lI_void hLL (nI k) C (Nat.le_refl C))
  · refine lw_replace_f1_f1 hlf C0 hK hX0 hL i hi ad cd te ri pi pw K Dn mv ko so tl lp lb ld le C cl dq dy ou md th K cd Dn ri mv dy C ko so mu tl lp lb me (xs (i + 1)) hx1 hx1 rfl hce hsl hP hD hS hl (fun H locs ls hP hD hS hl => K1 H locs ls _ ?_ hP hD hS hl)
    exact lw_I.mk hPP hLL
set_option maxHeartbeats 1000000 in
theorem st_cut {p : Program} {l : Launch} {e : Env} {s : State} {m : MethodId} {below : List Frame} {meth : Method} {c : Code} {Q : State → Prop} {b L : Nat} {xs : Nat → Int32} (hlf : l.stackTraces = false) (C0 : lw_At p s m meth c b L xs) {D : va_G} {cI cL : ClassId} (hK : kcK D [(cI, .int), (cL, .long)] s) (hX0 : kcX (fun q => s.heap.size ≤ q) s s.heap) (hL : L ≤ 2048) {i : Nat} (hi : i + 3 < L) {ad md : Nat → Nat} {ws : va_W} (hI : lw_I ad cI cL md ws) {H : Heap} {locs : List Loc} {cells slots : Nat} (hce : cells + 2 ≤ 601024) (hsl : slots + 16 ≤ 7293034) (hP : va_P D vwCl ws H) (hD : va_D (fun q => s.heap.size ≤ q) ws) (hS : va_S (fun q => s.heap.size ≤ q) s.heap H locs) {ls : Array Slot} (hl : lv_has ls 9 [(0, .ref b), (1, .ref (ad 14)), (2, .ref (md 0)), (3, .ref (ad 17)), (4, .int (nI i))]) (K1 : ∀ (H : Heap) (locs : List Loc) (ls : Array Slot) (ws : va_W), lw_I ad cI cL md ws → va_P D vwCl ws H → va_D (fun q => s.heap.size ≤ q) ws → va_S (fun q => s.heap.size ≤ q) s.heap H locs → lv_has ls 9 [(0, .ref b), (1, .ref (ad 14)), (2, .ref (md 0)), (3, .ref (ad 17)), (4, .int (nI i))] → W p l e room_1 s m #[Value.ref b] below meth c H locs (cells + 2) (slots + 16) Q (F0 m 1633 ls [])) : W p l e room_1 s m #[Value.ref b] below meth c H locs cells slots Q (F0 m 906 ls []) := by
  obtain ⟨cd, te, ri, pi, pw, K, Dn, mv, ko, so, tl, lp, lb, ld, le, C, cl, dq, dy, ou, th, mu, me, tn, kn, rfl, hPP, hLL⟩ := hI
  obtain ⟨hK8, hD8, hTe, hPi, hPi0, hRi⟩ := id hPP
  obtain ⟨hC24, hkn, hok, htl0, hMu, hHo, hEnd, hd0, hd9⟩ := id hLL
  by_cases hx1 : jIn K (xs (i + 1)) = true
  · obtain ⟨k, hk, e1⟩ := jIn_ex hx1
    rcases Nat.lt_or_ge C 24 with hC23 | hCe
    · refine lw_cut_ok_ok hlf C0 hK hX0 hL i hi ad cd te ri pi pw K Dn mv ko so tl lp lb ld le C cl dq dy ou md th K cd Dn ri mv dy C ko so mu tl lp lb me k hK8 hk hC23 hK8 hk hC23 e1 rfl hce hsl hP hD hS hl (fun H locs ls hP hD hS hl => K1 H locs ls _ ?_ hP hD hS hl)
      rw [(lI_cut hLL hC23 hk).2]
      exact lw_I.mk hPP (lI_cut hLL hC23 hk).1
    · refine lw_cut_f2_f2 hlf C0 hK hX0 hL i hi ad cd te ri pi pw K Dn mv ko so tl lp lb ld le C cl dq dy ou md th K cd Dn ri mv dy C ko so mu tl lp lb me k hK8 hk (by omega) hK8 hk (by omega) e1 hce hsl hP hD hS hl (fun H locs ls hP hD hS hl => K1 H locs ls _ ?_ hP hD hS hl)
      exact lw_I.mk hPP hLL
  · refine lw_cut_f1_f1 hlf C0 hK hX0 hL i hi ad cd te ri pi pw K Dn mv ko so tl lp lb ld le C cl dq dy ou md th K cd Dn ri mv dy C ko so mu tl lp lb me (xs (i + 1)) hx1 hx1 rfl hce hsl hP hD hS hl (fun H locs ls hP hD hS hl => K1 H locs ls _ ?_ hP hD hS hl)
    exact lw_I.mk hPP hLL
set_option maxHeartbeats 1000000 in
theorem st_lend {p : Program} {l : Launch} {e : Env} {s : State} {m : MethodId} {below : List Frame} {meth : Method} {c : Code} {Q : State → Prop} {b L : Nat} {xs : Nat → Int32} (hlf : l.stackTraces = false) (C0 : lw_At p s m meth c b L xs) {D : va_G} {cI cL : ClassId} (hK : kcK D [(cI, .int), (cL, .long)] s) (hX0 : kcX (fun q => s.heap.size ≤ q) s s.heap) (hL : L ≤ 2048) {i : Nat} (hi : i + 3 < L) {ad md : Nat → Nat} {ws : va_W} (hI : lw_I ad cI cL md ws) {H : Heap} {locs : List Loc} {cells slots : Nat} (hce : cells + 2 ≤ 601024) (hsl : slots + 16 ≤ 7293034) (hP : va_P D vwCl ws H) (hD : va_D (fun q => s.heap.size ≤ q) ws) (hS : va_S (fun q => s.heap.size ≤ q) s.heap H locs) {ls : Array Slot} (hl : lv_has ls 9 [(0, .ref b), (1, .ref (ad 14)), (2, .ref (md 0)), (3, .ref (ad 17)), (4, .int (nI i))]) (K1 : ∀ (H : Heap) (locs : List Loc) (ls : Array Slot) (ws : va_W), lw_I ad cI cL md ws → va_P D vwCl ws H → va_D (fun q => s.heap.size ≤ q) ws → va_S (fun q => s.heap.size ≤ q) s.heap H locs → lv_has ls 9 [(0, .ref b), (1, .ref (ad 14)), (2, .ref (md 0)), (3, .ref (ad 17)), (4, .int (nI i))] → W p l e room_1 s m #[Value.ref b] below meth c H locs (cells + 2) (slots + 16) Q (F0 m 1633 ls [])) : W p l e room_1 s m #[Value.ref b] below meth c H locs cells slots Q (F0 m 962 ls []) := by
  obtain ⟨cd, te, ri, pi, pw, K, Dn, mv, ko, so, tl, lp, lb, ld, le, C, cl, dq, dy, ou, th, mu, me, tn, kn, rfl, hPP, hLL⟩ := hI
  obtain ⟨hK8, hD8, hTe, hPi, hPi0, hRi⟩ := id hPP
  obtain ⟨hC24, hkn, hok, htl0, hMu, hHo, hEnd, hd0, hd9⟩ := id hLL
  by_cases hx1 : jIn C (xs (i + 1)) = true
  · obtain ⟨cx, hc, e1⟩ := jIn_ex hx1
    by_cases hp : jIn 8 (xs (i + 2)) = true
    · by_cases hz : xs (i + 3) < 1 ∨ (99 : Int32) < xs (i + 3)
      · refine lw_lend_f2_f2 hlf C0 hK hX0 hL i hi ad cd te ri pi pw K Dn mv ko so tl lp lb ld le C cl dq dy ou md th K cd Dn ri mv dy C ko so mu tl lp lb me cx (xs (i + 2)) (xs (i + 3)) hC24 hc hp hz hC24 hc hp hz e1 rfl rfl hce hsl hP hD hS hl (fun H locs ls hP hD hS hl => K1 H locs ls _ ?_ hP hD hS hl)
        exact lw_I.mk hPP hLL
      · have hz1 : ¬ xs (i + 3) < 1 := fun q => hz (Or.inl q)
        have hz2 : xs (i + 3) ≤ 99 := kc_le99 (fun q => hz (Or.inr q))
        by_cases h0 : so cx = 0
        · have ht := (hok cx (by omega)).1
          have ht9 := (hok cx (by omega)).2.1
          rcases Nat.lt_or_ge (tn cx) 9 with ht8 | ht8
          · refine lw_lend_ok_ok hlf C0 hK hX0 hL i hi ad cd te ri pi pw K Dn mv ko so tl lp lb ld le C cl dq dy ou md th K cd Dn ri mv dy C ko so mu tl lp lb me cx (xs (i + 2)) (xs (i + 3)) tn hC24 hc hp hz1 hz2 (decide_eq_true ⟨h0, fun q => nI_ge ht8 (by omega) (by rw [ht] at q; exact q)⟩) ht ht8 hC24 hc hp hz1 hz2 h0 ht ht8 e1 rfl rfl rfl hce hsl hP hD hS hl (fun H locs ls hP hD hS hl => K1 H locs ls _ ?_ hP hD hS hl)
            exact lw_I.mk hPP (lI_lend hLL hc h0 ht8 (dy + xs (i + 3)))
          · refine lw_lend_f3_f3b hlf C0 hK hX0 hL i hi ad cd te ri pi pw K Dn mv ko so tl lp lb ld le C cl dq dy ou md th K cd Dn ri mv dy C ko so mu tl lp lb me cx (xs (i + 2)) (xs (i + 3)) hC24 hc hp hz1 hz2 (fun q => (of_decide_eq_true q).2 (by rw [ht]; exact nI_le ht8 (by omega))) hC24 hc hp hz1 hz2 h0 (by rw [ht, show tn cx = 9 by omega]; rfl) e1 rfl rfl hce hsl hP hD hS hl (fun H locs ls hP hD hS hl => K1 H locs ls _ ?_ hP hD hS hl)
            exact lw_I.mk hPP hLL
        · refine lw_lend_f3_f3a hlf C0 hK hX0 hL i hi ad cd te ri pi pw K Dn mv ko so tl lp lb ld le C cl dq dy ou md th K cd Dn ri mv dy C ko so mu tl lp lb me cx (xs (i + 2)) (xs (i + 3)) hC24 hc hp hz1 hz2 (fun q => h0 (of_decide_eq_true q).1) hC24 hc hp hz1 hz2 h0 e1 rfl rfl hce hsl hP hD hS hl (fun H locs ls hP hD hS hl => K1 H locs ls _ ?_ hP hD hS hl)
          exact lw_I.mk hPP hLL
    · refine lw_lend_f1b_f1b hlf C0 hK hX0 hL i hi ad cd te ri pi pw K Dn mv ko so tl lp lb ld le C cl dq dy ou md th K cd Dn ri mv dy C ko so mu tl lp lb me cx (xs (i + 2)) (xs (i + 3)) hC24 hc hp hC24 hc hp e1 rfl rfl hce hsl hP hD hS hl (fun H locs ls hP hD hS hl => K1 H locs ls _ ?_ hP hD hS hl)
      exact lw_I.mk hPP hLL
  · refine lw_lend_f1_f1 hlf C0 hK hX0 hL i hi ad cd te ri pi pw K Dn mv ko so tl lp lb ld le C cl dq dy ou md th K cd Dn ri mv dy C ko so mu tl lp lb me (xs (i + 1)) (xs (i + 2)) (xs (i + 3)) hx1 hx1 rfl rfl rfl hce hsl hP hD hS hl (fun H locs ls hP hD hS hl => K1 H locs ls _ ?_ hP hD hS hl)
    exact lw_I.mk hPP hLL
set_option maxHeartbeats 1000000 in
theorem st_giveBack {p : Program} {l : Launch} {e : Env} {s : State} {m : MethodId} {below : List Frame} {meth : Method} {c : Code} {Q : State → Prop} {b L : Nat} {xs : Nat → Int32} (hlf : l.stackTraces = false) (C0 : lw_At p s m meth c b L xs) {D : va_G} {cI cL : ClassId} (hK : kcK D [(cI, .int), (cL, .long)] s) (hX0 : kcX (fun q => s.heap.size ≤ q) s s.heap) (hL : L ≤ 2048) {i : Nat} (hi : i + 3 < L) {ad md : Nat → Nat} {ws : va_W} (hI : lw_I ad cI cL md ws) {H : Heap} {locs : List Loc} {cells slots : Nat} (hce : cells + 2 ≤ 601024) (hsl : slots + 16 ≤ 7293034) (hP : va_P D vwCl ws H) (hD : va_D (fun q => s.heap.size ≤ q) ws) (hS : va_S (fun q => s.heap.size ≤ q) s.heap H locs) {ls : Array Slot} (hl : lv_has ls 9 [(0, .ref b), (1, .ref (ad 14)), (2, .ref (md 0)), (3, .ref (ad 17)), (4, .int (nI i))]) (K1 : ∀ (H : Heap) (locs : List Loc) (ls : Array Slot) (ws : va_W), lw_I ad cI cL md ws → va_P D vwCl ws H → va_D (fun q => s.heap.size ≤ q) ws → va_S (fun q => s.heap.size ≤ q) s.heap H locs → lv_has ls 9 [(0, .ref b), (1, .ref (ad 14)), (2, .ref (md 0)), (3, .ref (ad 17)), (4, .int (nI i))] → W p l e room_1 s m #[Value.ref b] below meth c H locs (cells + 2) (slots + 16) Q (F0 m 1633 ls [])) : W p l e room_1 s m #[Value.ref b] below meth c H locs cells slots Q (F0 m 1042 ls []) := by
  obtain ⟨cd, te, ri, pi, pw, K, Dn, mv, ko, so, tl, lp, lb, ld, le, C, cl, dq, dy, ou, th, mu, me, tn, kn, rfl, hPP, hLL⟩ := hI
  obtain ⟨hK8, hD8, hTe, hPi, hPi0, hRi⟩ := id hPP
  obtain ⟨hC24, hkn, hok, htl0, hMu, hHo, hEnd, hd0, hd9⟩ := id hLL
  by_cases hx1 : jIn C (xs (i + 1)) = true
  · obtain ⟨cx, hc, e1⟩ := jIn_ex hx1
    by_cases h1 : so cx = 1
    · refine lw_giveBack_ok_ok hlf C0 hK hX0 hL i hi ad cd te ri pi pw K Dn mv ko so tl lp lb ld le C cl dq dy ou md th K cd Dn ri mv dy C ko so mu tl lp lb me cx tn hC24 hc hok h1 hC24 hc hok h1 e1 (by rw [L_due hMu hc, if_pos h1]) hce hsl hP hD hS hl (fun H locs ls hP hD hS hl => K1 H locs ls _ ?_ hP hD hS hl)
      exact lw_I.mk hPP (lI_end hLL hc (by decide))
    · refine lw_giveBack_f2_f2 hlf C0 hK hX0 hL i hi ad cd te ri pi pw K Dn mv ko so tl lp lb ld le C cl dq dy ou md th K cd Dn ri mv dy C ko so mu tl lp lb me cx hC24 hc h1 hC24 hc h1 e1 hce hsl hP hD hS hl (fun H locs ls hP hD hS hl => K1 H locs ls _ ?_ hP hD hS hl)
      exact lw_I.mk hPP hLL
  · refine lw_giveBack_f1_f1 hlf C0 hK hX0 hL i hi ad cd te ri pi pw K Dn mv ko so tl lp lb ld le C cl dq dy ou md th K cd Dn ri mv dy C ko so mu tl lp lb me (xs (i + 1)) hx1 hx1 rfl hce hsl hP hD hS hl (fun H locs ls hP hD hS hl => K1 H locs ls _ ?_ hP hD hS hl)
    exact lw_I.mk hPP hLL
set_option maxHeartbeats 1000000 in
theorem st_lose {p : Program} {l : Launch} {e : Env} {s : State} {m : MethodId} {below : List Frame} {meth : Method} {c : Code} {Q : State → Prop} {b L : Nat} {xs : Nat → Int32} (hlf : l.stackTraces = false) (C0 : lw_At p s m meth c b L xs) {D : va_G} {cI cL : ClassId} (hK : kcK D [(cI, .int), (cL, .long)] s) (hX0 : kcX (fun q => s.heap.size ≤ q) s s.heap) (hL : L ≤ 2048) {i : Nat} (hi : i + 3 < L) {ad md : Nat → Nat} {ws : va_W} (hI : lw_I ad cI cL md ws) {H : Heap} {locs : List Loc} {cells slots : Nat} (hce : cells + 2 ≤ 601024) (hsl : slots + 16 ≤ 7293034) (hP : va_P D vwCl ws H) (hD : va_D (fun q => s.heap.size ≤ q) ws) (hS : va_S (fun q => s.heap.size ≤ q) s.heap H locs) {ls : Array Slot} (hl : lv_has ls 9 [(0, .ref b), (1, .ref (ad 14)), (2, .ref (md 0)), (3, .ref (ad 17)), (4, .int (nI i))]) (K1 : ∀ (H : Heap) (locs : List Loc) (ls : Array Slot) (ws : va_W), lw_I ad cI cL md ws → va_P D vwCl ws H → va_D (fun q => s.heap.size ≤ q) ws → va_S (fun q => s.heap.size ≤ q) s.heap H locs → lv_has ls 9 [(0, .ref b), (1, .ref (ad 14)), (2, .ref (md 0)), (3, .ref (ad 17)), (4, .int (nI i))] → W p l e room_1 s m #[Value.ref b] below meth c H locs (cells + 2) (slots + 16) Q (F0 m 1633 ls [])) : W p l e room_1 s m #[Value.ref b] below meth c H locs cells slots Q (F0 m 1098 ls []) := by
  obtain ⟨cd, te, ri, pi, pw, K, Dn, mv, ko, so, tl, lp, lb, ld, le, C, cl, dq, dy, ou, th, mu, me, tn, kn, rfl, hPP, hLL⟩ := hI
  obtain ⟨hK8, hD8, hTe, hPi, hPi0, hRi⟩ := id hPP
  obtain ⟨hC24, hkn, hok, htl0, hMu, hHo, hEnd, hd0, hd9⟩ := id hLL
  by_cases hx1 : jIn C (xs (i + 1)) = true
  · obtain ⟨cx, hc, e1⟩ := jIn_ex hx1
    by_cases hn : so cx = 2 ∨ so cx = 3
    · refine lw_lose_f2_f2 hlf C0 hK hX0 hL i hi ad cd te ri pi pw K Dn mv ko so tl lp lb ld le C cl dq dy ou md th K cd Dn ri mv dy C ko so mu tl lp lb me cx hC24 hc hn hC24 hc hn e1 hce hsl hP hD hS hl (fun H locs ls hP hD hS hl => K1 H locs ls _ ?_ hP hD hS hl)
      exact lw_I.mk hPP hLL
    · refine lw_lose_ok_ok hlf C0 hK hX0 hL i hi ad cd te ri pi pw K Dn mv ko so tl lp lb ld le C cl dq dy ou md th K cd Dn ri mv dy C ko so mu tl lp lb me cx tn kn hK8 hD8 hC24 hc hok (hkn.ke hK8) (fun q => hn (Or.inl q)) (fun q => hn (Or.inr q)) hK8 hD8 hC24 hc hok (hkn.ke hK8) (fun q => hn (Or.inl q)) (fun q => hn (Or.inr q)) e1 (L_doors hK8 hTe hPi (hkn cx hc).2) hce hsl hP hD hS hl (fun H locs ls hP hD hS hl => K1 H locs ls _ ?_ hP hD hS hl)
      exact lw_I.mk hPP (lI_end hLL hc (by decide))
  · refine lw_lose_f1_f1 hlf C0 hK hX0 hL i hi ad cd te ri pi pw K Dn mv ko so tl lp lb ld le C cl dq dy ou md th K cd Dn ri mv dy C ko so mu tl lp lb me (xs (i + 1)) hx1 hx1 rfl hce hsl hP hD hS hl (fun H locs ls hP hD hS hl => K1 H locs ls _ ?_ hP hD hS hl)
    exact lw_I.mk hPP hLL
set_option maxHeartbeats 1000000 in
theorem st_find {p : Program} {l : Launch} {e : Env} {s : State} {m : MethodId} {below : List Frame} {meth : Method} {c : Code} {Q : State → Prop} {b L : Nat} {xs : Nat → Int32} (hlf : l.stackTraces = false) (C0 : lw_At p s m meth c b L xs) {D : va_G} {cI cL : ClassId} (hK : kcK D [(cI, .int), (cL, .long)] s) (hX0 : kcX (fun q => s.heap.size ≤ q) s s.heap) (hL : L ≤ 2048) {i : Nat} (hi : i + 3 < L) {ad md : Nat → Nat} {ws : va_W} (hI : lw_I ad cI cL md ws) {H : Heap} {locs : List Loc} {cells slots : Nat} (hce : cells + 2 ≤ 601024) (hsl : slots + 16 ≤ 7293034) (hP : va_P D vwCl ws H) (hD : va_D (fun q => s.heap.size ≤ q) ws) (hS : va_S (fun q => s.heap.size ≤ q) s.heap H locs) {ls : Array Slot} (hl : lv_has ls 9 [(0, .ref b), (1, .ref (ad 14)), (2, .ref (md 0)), (3, .ref (ad 17)), (4, .int (nI i))]) (K1 : ∀ (H : Heap) (locs : List Loc) (ls : Array Slot) (ws : va_W), lw_I ad cI cL md ws → va_P D vwCl ws H → va_D (fun q => s.heap.size ≤ q) ws → va_S (fun q => s.heap.size ≤ q) s.heap H locs → lv_has ls 9 [(0, .ref b), (1, .ref (ad 14)), (2, .ref (md 0)), (3, .ref (ad 17)), (4, .int (nI i))] → W p l e room_1 s m #[Value.ref b] below meth c H locs (cells + 2) (slots + 16) Q (F0 m 1633 ls [])) : W p l e room_1 s m #[Value.ref b] below meth c H locs cells slots Q (F0 m 1154 ls []) := by
  obtain ⟨cd, te, ri, pi, pw, K, Dn, mv, ko, so, tl, lp, lb, ld, le, C, cl, dq, dy, ou, th, mu, me, tn, kn, rfl, hPP, hLL⟩ := hI
  obtain ⟨hK8, hD8, hTe, hPi, hPi0, hRi⟩ := id hPP
  obtain ⟨hC24, hkn, hok, htl0, hMu, hHo, hEnd, hd0, hd9⟩ := id hLL
  by_cases hx1 : jIn C (xs (i + 1)) = true
  · obtain ⟨cx, hc, e1⟩ := jIn_ex hx1
    by_cases h2 : so cx = 2
    · refine lw_find_ok_ok hlf C0 hK hX0 hL i hi ad cd te ri pi pw K Dn mv ko so tl lp lb ld le C cl dq dy ou md th K cd Dn ri mv dy C ko so mu tl lp lb me cx tn kn hK8 hD8 hC24 hc hok h2 hK8 hD8 hC24 hc (hkn.ke hK8) h2 e1 (L_risk hK8 hTe hPi hkn) hce hsl hP hD hS hl (fun H locs ls hP hD hS hl => K1 H locs ls _ ?_ hP hD hS hl)
      exact lw_I.mk hPP (lI_find hLL hc (by rw [h2]; decide) (by decide))
    · refine lw_find_f2_f2 hlf C0 hK hX0 hL i hi ad cd te ri pi pw K Dn mv ko so tl lp lb ld le C cl dq dy ou md th K cd Dn ri mv dy C ko so mu tl lp lb me cx hC24 hc h2 hC24 hc h2 e1 hce hsl hP hD hS hl (fun H locs ls hP hD hS hl => K1 H locs ls _ ?_ hP hD hS hl)
      exact lw_I.mk hPP hLL
  · refine lw_find_f1_f1 hlf C0 hK hX0 hL i hi ad cd te ri pi pw K Dn mv ko so tl lp lb ld le C cl dq dy ou md th K cd Dn ri mv dy C ko so mu tl lp lb me (xs (i + 1)) hx1 hx1 rfl hce hsl hP hD hS hl (fun H locs ls hP hD hS hl => K1 H locs ls _ ?_ hP hD hS hl)
    exact lw_I.mk hPP hLL
set_option maxHeartbeats 1000000 in
theorem st_pass {p : Program} {l : Launch} {e : Env} {s : State} {m : MethodId} {below : List Frame} {meth : Method} {c : Code} {Q : State → Prop} {b L : Nat} {xs : Nat → Int32} (hlf : l.stackTraces = false) (C0 : lw_At p s m meth c b L xs) {D : va_G} {cI cL : ClassId} (hK : kcK D [(cI, .int), (cL, .long)] s) (hX0 : kcX (fun q => s.heap.size ≤ q) s s.heap) (hL : L ≤ 2048) {i : Nat} (hi : i + 3 < L) {ad md : Nat → Nat} {ws : va_W} (hI : lw_I ad cI cL md ws) {H : Heap} {locs : List Loc} {cells slots : Nat} (hce : cells + 2 ≤ 601024) (hsl : slots + 16 ≤ 7293034) (hP : va_P D vwCl ws H) (hD : va_D (fun q => s.heap.size ≤ q) ws) (hS : va_S (fun q => s.heap.size ≤ q) s.heap H locs) {ls : Array Slot} (hl : lv_has ls 9 [(0, .ref b), (1, .ref (ad 14)), (2, .ref (md 0)), (3, .ref (ad 17)), (4, .int (nI i))]) (K1 : ∀ (H : Heap) (locs : List Loc) (ls : Array Slot) (ws : va_W), lw_I ad cI cL md ws → va_P D vwCl ws H → va_D (fun q => s.heap.size ≤ q) ws → va_S (fun q => s.heap.size ≤ q) s.heap H locs → lv_has ls 9 [(0, .ref b), (1, .ref (ad 14)), (2, .ref (md 0)), (3, .ref (ad 17)), (4, .int (nI i))] → W p l e room_1 s m #[Value.ref b] below meth c H locs (cells + 2) (slots + 16) Q (F0 m 1633 ls [])) : W p l e room_1 s m #[Value.ref b] below meth c H locs cells slots Q (F0 m 1210 ls []) := by
  obtain ⟨cd, te, ri, pi, pw, K, Dn, mv, ko, so, tl, lp, lb, ld, le, C, cl, dq, dy, ou, th, mu, me, tn, kn, rfl, hPP, hLL⟩ := hI
  obtain ⟨hK8, hD8, hTe, hPi, hPi0, hRi⟩ := id hPP
  obtain ⟨hC24, hkn, hok, htl0, hMu, hHo, hEnd, hd0, hd9⟩ := id hLL
  by_cases hz : xs (i + 1) < 1 ∨ (99 : Int32) < xs (i + 1)
  · refine lw_pass_f1_f1 hlf C0 hK hX0 hL i hi ad cd te ri pi pw K Dn mv ko so tl lp lb ld le C cl dq dy ou md th K cd Dn ri mv dy C ko so mu tl lp lb me (xs (i + 1)) hz hz rfl hce hsl hP hD hS hl (fun H locs ls hP hD hS hl => K1 H locs ls _ ?_ hP hD hS hl)
    exact lw_I.mk hPP hLL
  · have hz1 : ¬ xs (i + 1) < 1 := fun q => hz (Or.inl q)
    have hz2 : xs (i + 1) ≤ 99 := kc_le99 (fun q => hz (Or.inr q))
    by_cases h9 : dy + xs (i + 1) ≤ 9999
    · refine lw_pass_ok_ok hlf C0 hK hX0 hL i hi ad cd te ri pi pw K Dn mv ko so tl lp lb ld le C cl dq dy ou md th K cd Dn ri mv dy C ko so mu tl lp lb me (xs (i + 1)) hz1 hz2 h9 hz1 hz2 h9 rfl rfl hce hsl hP hD hS hl (fun H locs ls hP hD hS hl => K1 H locs ls _ ?_ hP hD hS hl)
      exact lw_I.mk hPP (lI_pass hLL hz1 hz2 h9)
    · refine lw_pass_f2_f2 hlf C0 hK hX0 hL i hi ad cd te ri pi pw K Dn mv ko so tl lp lb ld le C cl dq dy ou md th K cd Dn ri mv dy C ko so mu tl lp lb me (xs (i + 1)) hz1 hz2 h9 hz1 hz2 h9 rfl hce hsl hP hD hS hl (fun H locs ls hP hD hS hl => K1 H locs ls _ ?_ hP hD hS hl)
      exact lw_I.mk hPP hLL
set_option maxHeartbeats 1000000 in
theorem st_copy {p : Program} {l : Launch} {e : Env} {s : State} {m : MethodId} {below : List Frame} {meth : Method} {c : Code} {Q : State → Prop} {b L : Nat} {xs : Nat → Int32} (hlf : l.stackTraces = false) (C0 : lw_At p s m meth c b L xs) {D : va_G} {cI cL : ClassId} (hK : kcK D [(cI, .int), (cL, .long)] s) (hX0 : kcX (fun q => s.heap.size ≤ q) s s.heap) (hL : L ≤ 2048) {i : Nat} (hi : i + 3 < L) {ad md : Nat → Nat} {ws : va_W} (hI : lw_I ad cI cL md ws) {H : Heap} {locs : List Loc} {cells slots : Nat} (hce : cells + 2 ≤ 601024) (hsl : slots + 16 ≤ 7293034) (hP : va_P D vwCl ws H) (hD : va_D (fun q => s.heap.size ≤ q) ws) (hS : va_S (fun q => s.heap.size ≤ q) s.heap H locs) {ls : Array Slot} (hl : lv_has ls 9 [(0, .ref b), (1, .ref (ad 14)), (2, .ref (md 0)), (3, .ref (ad 17)), (4, .int (nI i))]) (K1 : ∀ (H : Heap) (locs : List Loc) (ls : Array Slot) (ws : va_W), lw_I ad cI cL md ws → va_P D vwCl ws H → va_D (fun q => s.heap.size ≤ q) ws → va_S (fun q => s.heap.size ≤ q) s.heap H locs → lv_has ls 9 [(0, .ref b), (1, .ref (ad 14)), (2, .ref (md 0)), (3, .ref (ad 17)), (4, .int (nI i))] → W p l e room_1 s m #[Value.ref b] below meth c H locs (cells + 2) (slots + 16) Q (F0 m 1633 ls [])) : W p l e room_1 s m #[Value.ref b] below meth c H locs cells slots Q (F0 m 1292 ls []) := by
  obtain ⟨cd, te, ri, pi, pw, K, Dn, mv, ko, so, tl, lp, lb, ld, le, C, cl, dq, dy, ou, th, mu, me, tn, kn, rfl, hPP, hLL⟩ := hI
  obtain ⟨hK8, hD8, hTe, hPi, hPi0, hRi⟩ := id hPP
  obtain ⟨hC24, hkn, hok, htl0, hMu, hHo, hEnd, hd0, hd9⟩ := id hLL
  by_cases hx1 : jIn C (xs (i + 1)) = true
  · obtain ⟨cx, hc, e1⟩ := jIn_ex hx1
    by_cases hx2 : jIn 5 (xs (i + 2)) = true
    · obtain ⟨q, hq, e2⟩ := jIn_ex hx2
      refine lw_copy_ok_ok hlf C0 hK hX0 hL i hi ad cd te ri pi pw K Dn mv ko so tl lp lb ld le C cl dq dy ou md th K cd Dn ri mv dy C ko so mu tl lp lb me cx q tn hC24 hc hok hq hC24 hc hok hq e1 e2 (L_told hMu hc _) hce hsl hP hD hS hl (fun H locs ls hP hD hS hl => K1 H locs ls _ ?_ hP hD hS hl)
      exact lw_I.mk hPP hLL
    · refine lw_copy_f2_f2 hlf C0 hK hX0 hL i hi ad cd te ri pi pw K Dn mv ko so tl lp lb ld le C cl dq dy ou md th K cd Dn ri mv dy C ko so mu tl lp lb me cx (xs (i + 2)) hC24 hc hx2 hC24 hc hx2 e1 rfl hce hsl hP hD hS hl (fun H locs ls hP hD hS hl => K1 H locs ls _ ?_ hP hD hS hl)
      exact lw_I.mk hPP hLL
  · refine lw_copy_f1_f1 hlf C0 hK hX0 hL i hi ad cd te ri pi pw K Dn mv ko so tl lp lb ld le C cl dq dy ou md th K cd Dn ri mv dy C ko so mu tl lp lb me (xs (i + 1)) (xs (i + 2)) hx1 hx1 rfl rfl hce hsl hP hD hS hl (fun H locs ls hP hD hS hl => K1 H locs ls _ ?_ hP hD hS hl)
    exact lw_I.mk hPP hLL
set_option maxHeartbeats 1000000 in
theorem st_holderAt {p : Program} {l : Launch} {e : Env} {s : State} {m : MethodId} {below : List Frame} {meth : Method} {c : Code} {Q : State → Prop} {b L : Nat} {xs : Nat → Int32} (hlf : l.stackTraces = false) (C0 : lw_At p s m meth c b L xs) {D : va_G} {cI cL : ClassId} (hK : kcK D [(cI, .int), (cL, .long)] s) (hX0 : kcX (fun q => s.heap.size ≤ q) s s.heap) (hL : L ≤ 2048) {i : Nat} (hi : i + 3 < L) {ad md : Nat → Nat} {ws : va_W} (hI : lw_I ad cI cL md ws) {H : Heap} {locs : List Loc} {cells slots : Nat} (hce : cells + 2 ≤ 601024) (hsl : slots + 16 ≤ 7293034) (hP : va_P D vwCl ws H) (hD : va_D (fun q => s.heap.size ≤ q) ws) (hS : va_S (fun q => s.heap.size ≤ q) s.heap H locs) {ls : Array Slot} (hl : lv_has ls 9 [(0, .ref b), (1, .ref (ad 14)), (2, .ref (md 0)), (3, .ref (ad 17)), (4, .int (nI i))]) (K1 : ∀ (H : Heap) (locs : List Loc) (ls : Array Slot) (ws : va_W), lw_I ad cI cL md ws → va_P D vwCl ws H → va_D (fun q => s.heap.size ≤ q) ws → va_S (fun q => s.heap.size ≤ q) s.heap H locs → lv_has ls 9 [(0, .ref b), (1, .ref (ad 14)), (2, .ref (md 0)), (3, .ref (ad 17)), (4, .int (nI i))] → W p l e room_1 s m #[Value.ref b] below meth c H locs (cells + 2) (slots + 16) Q (F0 m 1633 ls [])) : W p l e room_1 s m #[Value.ref b] below meth c H locs cells slots Q (F0 m 1373 ls []) := by
  obtain ⟨cd, te, ri, pi, pw, K, Dn, mv, ko, so, tl, lp, lb, ld, le, C, cl, dq, dy, ou, th, mu, me, tn, kn, rfl, hPP, hLL⟩ := hI
  obtain ⟨hK8, hD8, hTe, hPi, hPi0, hRi⟩ := id hPP
  obtain ⟨hC24, hkn, hok, htl0, hMu, hHo, hEnd, hd0, hd9⟩ := id hLL
  by_cases hx1 : jIn C (xs (i + 1)) = true
  · obtain ⟨cx, hc, e1⟩ := jIn_ex hx1
    by_cases hz : xs (i + 2) < 0 ∨ dy < xs (i + 2)
    · refine lw_holderAt_f2_f2 hlf C0 hK hX0 hL i hi ad cd te ri pi pw K Dn mv ko so tl lp lb ld le C cl dq dy ou md th K cd Dn ri mv dy C ko so mu tl lp lb me cx (xs (i + 2)) hC24 hc hz hC24 hc hz e1 rfl hce hsl hP hD hS hl (fun H locs ls hP hD hS hl => K1 H locs ls _ ?_ hP hD hS hl)
      exact lw_I.mk hPP hLL
    · have hz1 : ¬ xs (i + 2) < 0 := fun q => hz (Or.inl q)
      have hz2 : xs (i + 2) ≤ dy := kc_leq (fun q => hz (Or.inr q))
      refine lw_holderAt_ok_ok hlf C0 hK hX0 hL i hi ad cd te ri pi pw K Dn mv ko so tl lp lb ld le C cl dq dy ou md th K cd Dn ri mv dy C ko so mu tl lp lb me cx (xs (i + 2)) tn hC24 hc hok hz1 hz2 hC24 hc hok hz1 hz2 e1 rfl (L_holderAt hHo hEnd hc hz2 (Int32.le_iff_toInt_le.mpr hd9)) hce hsl hP hD hS hl (fun H locs ls hP hD hS hl => K1 H locs ls _ ?_ hP hD hS hl)
      exact lw_I.mk hPP hLL
  · refine lw_holderAt_f1_f1 hlf C0 hK hX0 hL i hi ad cd te ri pi pw K Dn mv ko so tl lp lb ld le C cl dq dy ou md th K cd Dn ri mv dy C ko so mu tl lp lb me (xs (i + 1)) (xs (i + 2)) hx1 hx1 rfl rfl hce hsl hP hD hS hl (fun H locs ls hP hD hS hl => K1 H locs ls _ ?_ hP hD hS hl)
    exact lw_I.mk hPP hLL
set_option maxHeartbeats 1000000 in
theorem st_reach {p : Program} {l : Launch} {e : Env} {s : State} {m : MethodId} {below : List Frame} {meth : Method} {c : Code} {Q : State → Prop} {b L : Nat} {xs : Nat → Int32} (hlf : l.stackTraces = false) (C0 : lw_At p s m meth c b L xs) {D : va_G} {cI cL : ClassId} (hK : kcK D [(cI, .int), (cL, .long)] s) (hX0 : kcX (fun q => s.heap.size ≤ q) s s.heap) (hL : L ≤ 2048) {i : Nat} (hi : i + 3 < L) {ad md : Nat → Nat} {ws : va_W} (hI : lw_I ad cI cL md ws) {H : Heap} {locs : List Loc} {cells slots : Nat} (hce : cells + 2 ≤ 601024) (hsl : slots + 16 ≤ 7293034) (hP : va_P D vwCl ws H) (hD : va_D (fun q => s.heap.size ≤ q) ws) (hS : va_S (fun q => s.heap.size ≤ q) s.heap H locs) {ls : Array Slot} (hl : lv_has ls 9 [(0, .ref b), (1, .ref (ad 14)), (2, .ref (md 0)), (3, .ref (ad 17)), (4, .int (nI i))]) (K1 : ∀ (H : Heap) (locs : List Loc) (ls : Array Slot) (ws : va_W), lw_I ad cI cL md ws → va_P D vwCl ws H → va_D (fun q => s.heap.size ≤ q) ws → va_S (fun q => s.heap.size ≤ q) s.heap H locs → lv_has ls 9 [(0, .ref b), (1, .ref (ad 14)), (2, .ref (md 0)), (3, .ref (ad 17)), (4, .int (nI i))] → W p l e room_1 s m #[Value.ref b] below meth c H locs (cells + 2) (slots + 16) Q (F0 m 1633 ls [])) : W p l e room_1 s m #[Value.ref b] below meth c H locs cells slots Q (F0 m 1441 ls []) := by
  obtain ⟨cd, te, ri, pi, pw, K, Dn, mv, ko, so, tl, lp, lb, ld, le, C, cl, dq, dy, ou, th, mu, me, tn, kn, rfl, hPP, hLL⟩ := hI
  obtain ⟨hK8, hD8, hTe, hPi, hPi0, hRi⟩ := id hPP
  obtain ⟨hC24, hkn, hok, htl0, hMu, hHo, hEnd, hd0, hd9⟩ := id hLL
  by_cases hp : jIn 8 (xs (i + 1)) = true
  · have hpe : ¬ xs (i + 1) = (-1) := by obtain ⟨j, hj, e⟩ := jIn_ex hp; rw [e]; exact nI_nm1 (by omega)
    refine lw_reach_ok_ok hlf C0 hK hX0 hL i hi ad cd te ri pi pw K Dn mv ko so tl lp lb ld le C cl dq dy ou md th K cd Dn ri mv dy C ko so mu tl lp lb me (xs (i + 1)) tn kn hK8 hD8 hC24 hok hp hK8 hD8 hC24 (hkn.ke hK8) hok hp rfl (L_reach hK8 hTe hPi hkn hpe) hce hsl hP hD hS hl (fun H locs ls hP hD hS hl => K1 H locs ls _ ?_ hP hD hS hl)
    exact lw_I.mk hPP hLL
  · refine lw_reach_f1_f1 hlf C0 hK hX0 hL i hi ad cd te ri pi pw K Dn mv ko so tl lp lb ld le C cl dq dy ou md th K cd Dn ri mv dy C ko so mu tl lp lb me (xs (i + 1)) hp hp rfl hce hsl hP hD hS hl (fun H locs ls hP hD hS hl => K1 H locs ls _ ?_ hP hD hS hl)
    exact lw_I.mk hPP hLL
set_option maxHeartbeats 1000000 in
theorem st_suggest {p : Program} {l : Launch} {e : Env} {s : State} {m : MethodId} {below : List Frame} {meth : Method} {c : Code} {Q : State → Prop} {b L : Nat} {xs : Nat → Int32} (hlf : l.stackTraces = false) (C0 : lw_At p s m meth c b L xs) {D : va_G} {cI cL : ClassId} (hK : kcK D [(cI, .int), (cL, .long)] s) (hX0 : kcX (fun q => s.heap.size ≤ q) s s.heap) (hL : L ≤ 2048) {i : Nat} (hi : i + 3 < L) {ad md : Nat → Nat} {ws : va_W} (hI : lw_I ad cI cL md ws) {H : Heap} {locs : List Loc} {cells slots : Nat} (hce : cells + 2 ≤ 601024) (hsl : slots + 16 ≤ 7293034) (hP : va_P D vwCl ws H) (hD : va_D (fun q => s.heap.size ≤ q) ws) (hS : va_S (fun q => s.heap.size ≤ q) s.heap H locs) {ls : Array Slot} (hl : lv_has ls 9 [(0, .ref b), (1, .ref (ad 14)), (2, .ref (md 0)), (3, .ref (ad 17)), (4, .int (nI i))]) (K1 : ∀ (H : Heap) (locs : List Loc) (ls : Array Slot) (ws : va_W), lw_I ad cI cL md ws → va_P D vwCl ws H → va_D (fun q => s.heap.size ≤ q) ws → va_S (fun q => s.heap.size ≤ q) s.heap H locs → lv_has ls 9 [(0, .ref b), (1, .ref (ad 14)), (2, .ref (md 0)), (3, .ref (ad 17)), (4, .int (nI i))] → W p l e room_1 s m #[Value.ref b] below meth c H locs (cells + 2) (slots + 16) Q (F0 m 1633 ls [])) : W p l e room_1 s m #[Value.ref b] below meth c H locs cells slots Q (F0 m 1510 ls []) := by
  obtain ⟨cd, te, ri, pi, pw, K, Dn, mv, ko, so, tl, lp, lb, ld, le, C, cl, dq, dy, ou, th, mu, me, tn, kn, rfl, hPP, hLL⟩ := hI
  obtain ⟨hK8, hD8, hTe, hPi, hPi0, hRi⟩ := id hPP
  obtain ⟨hC24, hkn, hok, htl0, hMu, hHo, hEnd, hd0, hd9⟩ := id hLL
  by_cases hp : jIn 8 (xs (i + 1)) = true
  · have hpe : ¬ xs (i + 1) = (-1) := by obtain ⟨j, hj, e⟩ := jIn_ex hp; rw [e]; exact nI_nm1 (by omega)
    by_cases hs : jSet Dn (xs (i + 2)) = true
    · refine lw_suggest_ok_ok hlf C0 hK hX0 hL i hi ad cd te ri pi pw K Dn mv ko so tl lp lb ld le C cl dq dy ou md th K cd Dn ri mv dy C ko so mu tl lp lb me (xs (i + 1)) (xs (i + 2)) tn kn hK8 hD8 hC24 hok hp (by rw [L_set hD8]; exact hs) hK8 hD8 hC24 (hkn.ke hK8) hok hp hs rfl rfl (L_suggest hK8 hD8 hTe hPi hC24 hkn hpe _) hce hsl hP hD hS hl (fun H locs ls hP hD hS hl => K1 H locs ls _ ?_ hP hD hS hl)
      exact lw_I.mk hPP hLL
    · refine lw_suggest_f2_f2 hlf C0 hK hX0 hL i hi ad cd te ri pi pw K Dn mv ko so tl lp lb ld le C cl dq dy ou md th K cd Dn ri mv dy C ko so mu tl lp lb me (xs (i + 1)) (xs (i + 2)) hD8 hp (by rw [L_set hD8]; exact hs) hD8 hp hs rfl rfl hce hsl hP hD hS hl (fun H locs ls hP hD hS hl => K1 H locs ls _ ?_ hP hD hS hl)
      exact lw_I.mk hPP hLL
  · refine lw_suggest_f1_f1 hlf C0 hK hX0 hL i hi ad cd te ri pi pw K Dn mv ko so tl lp lb ld le C cl dq dy ou md th K cd Dn ri mv dy C ko so mu tl lp lb me (xs (i + 1)) (xs (i + 2)) hp hp rfl rfl hce hsl hP hD hS hl (fun H locs ls hP hD hS hl => K1 H locs ls _ ?_ hP hD hS hl)
    exact lw_I.mk hPP hLL
set_option maxHeartbeats 1000000 in
theorem st_keyCount {p : Program} {l : Launch} {e : Env} {s : State} {m : MethodId} {below : List Frame} {meth : Method} {c : Code} {Q : State → Prop} {b L : Nat} {xs : Nat → Int32} (hlf : l.stackTraces = false) (C0 : lw_At p s m meth c b L xs) {D : va_G} {cI cL : ClassId} (hK : kcK D [(cI, .int), (cL, .long)] s) (hX0 : kcX (fun q => s.heap.size ≤ q) s s.heap) (hL : L ≤ 2048) {i : Nat} (hi : i + 3 < L) {ad md : Nat → Nat} {ws : va_W} (hI : lw_I ad cI cL md ws) {H : Heap} {locs : List Loc} {cells slots : Nat} (hce : cells + 2 ≤ 601024) (hsl : slots + 16 ≤ 7293034) (hP : va_P D vwCl ws H) (hD : va_D (fun q => s.heap.size ≤ q) ws) (hS : va_S (fun q => s.heap.size ≤ q) s.heap H locs) {ls : Array Slot} (hl : lv_has ls 9 [(0, .ref b), (1, .ref (ad 14)), (2, .ref (md 0)), (3, .ref (ad 17)), (4, .int (nI i))]) (K1 : ∀ (H : Heap) (locs : List Loc) (ls : Array Slot) (ws : va_W), lw_I ad cI cL md ws → va_P D vwCl ws H → va_D (fun q => s.heap.size ≤ q) ws → va_S (fun q => s.heap.size ≤ q) s.heap H locs → lv_has ls 9 [(0, .ref b), (1, .ref (ad 14)), (2, .ref (md 0)), (3, .ref (ad 17)), (4, .int (nI i))] → W p l e room_1 s m #[Value.ref b] below meth c H locs (cells + 2) (slots + 16) Q (F0 m 1633 ls [])) : W p l e room_1 s m #[Value.ref b] below meth c H locs cells slots Q (F0 m 356 ls []) := by
  obtain ⟨cd, te, ri, pi, pw, K, Dn, mv, ko, so, tl, lp, lb, ld, le, C, cl, dq, dy, ou, th, mu, me, tn, kn, rfl, hPP, hLL⟩ := hI
  obtain ⟨hK8, hD8, hTe, hPi, hPi0, hRi⟩ := id hPP
  obtain ⟨hC24, hkn, hok, htl0, hMu, hHo, hEnd, hd0, hd9⟩ := id hLL
  refine lw_keyCount hlf C0 hK hX0 hL i hi ad cd te ri pi pw K Dn mv ko so tl lp lb ld le C cl dq dy ou md th K cd Dn ri mv dy C ko so mu tl lp lb me rfl hce hsl hP hD hS hl (fun H locs ls hP hD hS hl => K1 H locs ls _ ?_ hP hD hS hl)
  exact lw_I.mk hPP hLL
set_option maxHeartbeats 1000000 in
theorem st_doorCount {p : Program} {l : Launch} {e : Env} {s : State} {m : MethodId} {below : List Frame} {meth : Method} {c : Code} {Q : State → Prop} {b L : Nat} {xs : Nat → Int32} (hlf : l.stackTraces = false) (C0 : lw_At p s m meth c b L xs) {D : va_G} {cI cL : ClassId} (hK : kcK D [(cI, .int), (cL, .long)] s) (hX0 : kcX (fun q => s.heap.size ≤ q) s s.heap) (hL : L ≤ 2048) {i : Nat} (hi : i + 3 < L) {ad md : Nat → Nat} {ws : va_W} (hI : lw_I ad cI cL md ws) {H : Heap} {locs : List Loc} {cells slots : Nat} (hce : cells + 2 ≤ 601024) (hsl : slots + 16 ≤ 7293034) (hP : va_P D vwCl ws H) (hD : va_D (fun q => s.heap.size ≤ q) ws) (hS : va_S (fun q => s.heap.size ≤ q) s.heap H locs) {ls : Array Slot} (hl : lv_has ls 9 [(0, .ref b), (1, .ref (ad 14)), (2, .ref (md 0)), (3, .ref (ad 17)), (4, .int (nI i))]) (K1 : ∀ (H : Heap) (locs : List Loc) (ls : Array Slot) (ws : va_W), lw_I ad cI cL md ws → va_P D vwCl ws H → va_D (fun q => s.heap.size ≤ q) ws → va_S (fun q => s.heap.size ≤ q) s.heap H locs → lv_has ls 9 [(0, .ref b), (1, .ref (ad 14)), (2, .ref (md 0)), (3, .ref (ad 17)), (4, .int (nI i))] → W p l e room_1 s m #[Value.ref b] below meth c H locs (cells + 2) (slots + 16) Q (F0 m 1633 ls [])) : W p l e room_1 s m #[Value.ref b] below meth c H locs cells slots Q (F0 m 369 ls []) := by
  obtain ⟨cd, te, ri, pi, pw, K, Dn, mv, ko, so, tl, lp, lb, ld, le, C, cl, dq, dy, ou, th, mu, me, tn, kn, rfl, hPP, hLL⟩ := hI
  obtain ⟨hK8, hD8, hTe, hPi, hPi0, hRi⟩ := id hPP
  obtain ⟨hC24, hkn, hok, htl0, hMu, hHo, hEnd, hd0, hd9⟩ := id hLL
  refine lw_doorCount hlf C0 hK hX0 hL i hi ad cd te ri pi pw K Dn mv ko so tl lp lb ld le C cl dq dy ou md th K cd Dn ri mv dy C ko so mu tl lp lb me rfl hce hsl hP hD hS hl (fun H locs ls hP hD hS hl => K1 H locs ls _ ?_ hP hD hS hl)
  exact lw_I.mk hPP hLL
set_option maxHeartbeats 1000000 in
theorem st_strays {p : Program} {l : Launch} {e : Env} {s : State} {m : MethodId} {below : List Frame} {meth : Method} {c : Code} {Q : State → Prop} {b L : Nat} {xs : Nat → Int32} (hlf : l.stackTraces = false) (C0 : lw_At p s m meth c b L xs) {D : va_G} {cI cL : ClassId} (hK : kcK D [(cI, .int), (cL, .long)] s) (hX0 : kcX (fun q => s.heap.size ≤ q) s s.heap) (hL : L ≤ 2048) {i : Nat} (hi : i + 3 < L) {ad md : Nat → Nat} {ws : va_W} (hI : lw_I ad cI cL md ws) {H : Heap} {locs : List Loc} {cells slots : Nat} (hce : cells + 2 ≤ 601024) (hsl : slots + 16 ≤ 7293034) (hP : va_P D vwCl ws H) (hD : va_D (fun q => s.heap.size ≤ q) ws) (hS : va_S (fun q => s.heap.size ≤ q) s.heap H locs) {ls : Array Slot} (hl : lv_has ls 9 [(0, .ref b), (1, .ref (ad 14)), (2, .ref (md 0)), (3, .ref (ad 17)), (4, .int (nI i))]) (K1 : ∀ (H : Heap) (locs : List Loc) (ls : Array Slot) (ws : va_W), lw_I ad cI cL md ws → va_P D vwCl ws H → va_D (fun q => s.heap.size ≤ q) ws → va_S (fun q => s.heap.size ≤ q) s.heap H locs → lv_has ls 9 [(0, .ref b), (1, .ref (ad 14)), (2, .ref (md 0)), (3, .ref (ad 17)), (4, .int (nI i))] → W p l e room_1 s m #[Value.ref b] below meth c H locs (cells + 2) (slots + 16) Q (F0 m 1633 ls [])) : W p l e room_1 s m #[Value.ref b] below meth c H locs cells slots Q (F0 m 693 ls []) := by
  obtain ⟨cd, te, ri, pi, pw, K, Dn, mv, ko, so, tl, lp, lb, ld, le, C, cl, dq, dy, ou, th, mu, me, tn, kn, rfl, hPP, hLL⟩ := hI
  obtain ⟨hK8, hD8, hTe, hPi, hPi0, hRi⟩ := id hPP
  obtain ⟨hC24, hkn, hok, htl0, hMu, hHo, hEnd, hd0, hd9⟩ := id hLL
  refine lw_strays hlf C0 hK hX0 hL i hi ad cd te ri pi pw K Dn mv ko so tl lp lb ld le C cl dq dy ou md th K cd Dn ri mv dy C ko so mu tl lp lb me hK8 hD8 hK8 hD8 (L_strays hK8 hTe hPi) hce hsl hP hD hS hl (fun H locs ls hP hD hS hl => K1 H locs ls _ ?_ hP hD hS hl)
  exact lw_I.mk hPP hLL
set_option maxHeartbeats 1000000 in
theorem st_work {p : Program} {l : Launch} {e : Env} {s : State} {m : MethodId} {below : List Frame} {meth : Method} {c : Code} {Q : State → Prop} {b L : Nat} {xs : Nat → Int32} (hlf : l.stackTraces = false) (C0 : lw_At p s m meth c b L xs) {D : va_G} {cI cL : ClassId} (hK : kcK D [(cI, .int), (cL, .long)] s) (hX0 : kcX (fun q => s.heap.size ≤ q) s s.heap) (hL : L ≤ 2048) {i : Nat} (hi : i + 3 < L) {ad md : Nat → Nat} {ws : va_W} (hI : lw_I ad cI cL md ws) {H : Heap} {locs : List Loc} {cells slots : Nat} (hce : cells + 2 ≤ 601024) (hsl : slots + 16 ≤ 7293034) (hP : va_P D vwCl ws H) (hD : va_D (fun q => s.heap.size ≤ q) ws) (hS : va_S (fun q => s.heap.size ≤ q) s.heap H locs) {ls : Array Slot} (hl : lv_has ls 9 [(0, .ref b), (1, .ref (ad 14)), (2, .ref (md 0)), (3, .ref (ad 17)), (4, .int (nI i))]) (K1 : ∀ (H : Heap) (locs : List Loc) (ls : Array Slot) (ws : va_W), lw_I ad cI cL md ws → va_P D vwCl ws H → va_D (fun q => s.heap.size ≤ q) ws → va_S (fun q => s.heap.size ≤ q) s.heap H locs → lv_has ls 9 [(0, .ref b), (1, .ref (ad 14)), (2, .ref (md 0)), (3, .ref (ad 17)), (4, .int (nI i))] → W p l e room_1 s m #[Value.ref b] below meth c H locs (cells + 2) (slots + 16) Q (F0 m 1633 ls [])) : W p l e room_1 s m #[Value.ref b] below meth c H locs cells slots Q (F0 m 837 ls []) := by
  obtain ⟨cd, te, ri, pi, pw, K, Dn, mv, ko, so, tl, lp, lb, ld, le, C, cl, dq, dy, ou, th, mu, me, tn, kn, rfl, hPP, hLL⟩ := hI
  obtain ⟨hK8, hD8, hTe, hPi, hPi0, hRi⟩ := id hPP
  obtain ⟨hC24, hkn, hok, htl0, hMu, hHo, hEnd, hd0, hd9⟩ := id hLL
  refine lw_work hlf C0 hK hX0 hL i hi ad cd te ri pi pw K Dn mv ko so tl lp lb ld le C cl dq dy ou md th K cd Dn ri mv dy C ko so mu tl lp lb me rfl hce hsl hP hD hS hl (fun H locs ls hP hD hS hl => K1 H locs ls _ ?_ hP hD hS hl)
  exact lw_I.mk hPP hLL
set_option maxHeartbeats 1000000 in
theorem st_today {p : Program} {l : Launch} {e : Env} {s : State} {m : MethodId} {below : List Frame} {meth : Method} {c : Code} {Q : State → Prop} {b L : Nat} {xs : Nat → Int32} (hlf : l.stackTraces = false) (C0 : lw_At p s m meth c b L xs) {D : va_G} {cI cL : ClassId} (hK : kcK D [(cI, .int), (cL, .long)] s) (hX0 : kcX (fun q => s.heap.size ≤ q) s s.heap) (hL : L ≤ 2048) {i : Nat} (hi : i + 3 < L) {ad md : Nat → Nat} {ws : va_W} (hI : lw_I ad cI cL md ws) {H : Heap} {locs : List Loc} {cells slots : Nat} (hce : cells + 2 ≤ 601024) (hsl : slots + 16 ≤ 7293034) (hP : va_P D vwCl ws H) (hD : va_D (fun q => s.heap.size ≤ q) ws) (hS : va_S (fun q => s.heap.size ≤ q) s.heap H locs) {ls : Array Slot} (hl : lv_has ls 9 [(0, .ref b), (1, .ref (ad 14)), (2, .ref (md 0)), (3, .ref (ad 17)), (4, .int (nI i))]) (K1 : ∀ (H : Heap) (locs : List Loc) (ls : Array Slot) (ws : va_W), lw_I ad cI cL md ws → va_P D vwCl ws H → va_D (fun q => s.heap.size ≤ q) ws → va_S (fun q => s.heap.size ≤ q) s.heap H locs → lv_has ls 9 [(0, .ref b), (1, .ref (ad 14)), (2, .ref (md 0)), (3, .ref (ad 17)), (4, .int (nI i))] → W p l e room_1 s m #[Value.ref b] below meth c H locs (cells + 2) (slots + 16) Q (F0 m 1633 ls [])) : W p l e room_1 s m #[Value.ref b] below meth c H locs cells slots Q (F0 m 1266 ls []) := by
  obtain ⟨cd, te, ri, pi, pw, K, Dn, mv, ko, so, tl, lp, lb, ld, le, C, cl, dq, dy, ou, th, mu, me, tn, kn, rfl, hPP, hLL⟩ := hI
  obtain ⟨hK8, hD8, hTe, hPi, hPi0, hRi⟩ := id hPP
  obtain ⟨hC24, hkn, hok, htl0, hMu, hHo, hEnd, hd0, hd9⟩ := id hLL
  refine lw_today hlf C0 hK hX0 hL i hi ad cd te ri pi pw K Dn mv ko so tl lp lb ld le C cl dq dy ou md th K cd Dn ri mv dy C ko so mu tl lp lb me rfl hce hsl hP hD hS hl (fun H locs ls hP hD hS hl => K1 H locs ls _ ?_ hP hD hS hl)
  exact lw_I.mk hPP hLL
set_option maxHeartbeats 1000000 in
theorem st_copyCount {p : Program} {l : Launch} {e : Env} {s : State} {m : MethodId} {below : List Frame} {meth : Method} {c : Code} {Q : State → Prop} {b L : Nat} {xs : Nat → Int32} (hlf : l.stackTraces = false) (C0 : lw_At p s m meth c b L xs) {D : va_G} {cI cL : ClassId} (hK : kcK D [(cI, .int), (cL, .long)] s) (hX0 : kcX (fun q => s.heap.size ≤ q) s s.heap) (hL : L ≤ 2048) {i : Nat} (hi : i + 3 < L) {ad md : Nat → Nat} {ws : va_W} (hI : lw_I ad cI cL md ws) {H : Heap} {locs : List Loc} {cells slots : Nat} (hce : cells + 2 ≤ 601024) (hsl : slots + 16 ≤ 7293034) (hP : va_P D vwCl ws H) (hD : va_D (fun q => s.heap.size ≤ q) ws) (hS : va_S (fun q => s.heap.size ≤ q) s.heap H locs) {ls : Array Slot} (hl : lv_has ls 9 [(0, .ref b), (1, .ref (ad 14)), (2, .ref (md 0)), (3, .ref (ad 17)), (4, .int (nI i))]) (K1 : ∀ (H : Heap) (locs : List Loc) (ls : Array Slot) (ws : va_W), lw_I ad cI cL md ws → va_P D vwCl ws H → va_D (fun q => s.heap.size ≤ q) ws → va_S (fun q => s.heap.size ≤ q) s.heap H locs → lv_has ls 9 [(0, .ref b), (1, .ref (ad 14)), (2, .ref (md 0)), (3, .ref (ad 17)), (4, .int (nI i))] → W p l e room_1 s m #[Value.ref b] below meth c H locs (cells + 2) (slots + 16) Q (F0 m 1633 ls [])) : W p l e room_1 s m #[Value.ref b] below meth c H locs cells slots Q (F0 m 1279 ls []) := by
  obtain ⟨cd, te, ri, pi, pw, K, Dn, mv, ko, so, tl, lp, lb, ld, le, C, cl, dq, dy, ou, th, mu, me, tn, kn, rfl, hPP, hLL⟩ := hI
  obtain ⟨hK8, hD8, hTe, hPi, hPi0, hRi⟩ := id hPP
  obtain ⟨hC24, hkn, hok, htl0, hMu, hHo, hEnd, hd0, hd9⟩ := id hLL
  refine lw_copyCount hlf C0 hK hX0 hL i hi ad cd te ri pi pw K Dn mv ko so tl lp lb ld le C cl dq dy ou md th K cd Dn ri mv dy C ko so mu tl lp lb me rfl hce hsl hP hD hS hl (fun H locs ls hP hD hS hl => K1 H locs ls _ ?_ hP hD hS hl)
  exact lw_I.mk hPP hLL
set_option maxHeartbeats 1000000 in
theorem st_overdue {p : Program} {l : Launch} {e : Env} {s : State} {m : MethodId} {below : List Frame} {meth : Method} {c : Code} {Q : State → Prop} {b L : Nat} {xs : Nat → Int32} (hlf : l.stackTraces = false) (C0 : lw_At p s m meth c b L xs) {D : va_G} {cI cL : ClassId} (hK : kcK D [(cI, .int), (cL, .long)] s) (hX0 : kcX (fun q => s.heap.size ≤ q) s s.heap) (hL : L ≤ 2048) {i : Nat} (hi : i + 3 < L) {ad md : Nat → Nat} {ws : va_W} (hI : lw_I ad cI cL md ws) {H : Heap} {locs : List Loc} {cells slots : Nat} (hce : cells + 2 ≤ 601024) (hsl : slots + 16 ≤ 7293034) (hP : va_P D vwCl ws H) (hD : va_D (fun q => s.heap.size ≤ q) ws) (hS : va_S (fun q => s.heap.size ≤ q) s.heap H locs) {ls : Array Slot} (hl : lv_has ls 9 [(0, .ref b), (1, .ref (ad 14)), (2, .ref (md 0)), (3, .ref (ad 17)), (4, .int (nI i))]) (K1 : ∀ (H : Heap) (locs : List Loc) (ls : Array Slot) (ws : va_W), lw_I ad cI cL md ws → va_P D vwCl ws H → va_D (fun q => s.heap.size ≤ q) ws → va_S (fun q => s.heap.size ≤ q) s.heap H locs → lv_has ls 9 [(0, .ref b), (1, .ref (ad 14)), (2, .ref (md 0)), (3, .ref (ad 17)), (4, .int (nI i))] → W p l e room_1 s m #[Value.ref b] below meth c H locs (cells + 2) (slots + 16) Q (F0 m 1633 ls [])) : W p l e room_1 s m #[Value.ref b] below meth c H locs cells slots Q (F0 m 1360 ls []) := by
  obtain ⟨cd, te, ri, pi, pw, K, Dn, mv, ko, so, tl, lp, lb, ld, le, C, cl, dq, dy, ou, th, mu, me, tn, kn, rfl, hPP, hLL⟩ := hI
  obtain ⟨hK8, hD8, hTe, hPi, hPi0, hRi⟩ := id hPP
  obtain ⟨hC24, hkn, hok, htl0, hMu, hHo, hEnd, hd0, hd9⟩ := id hLL
  refine lw_overdue hlf C0 hK hX0 hL i hi ad cd te ri pi pw K Dn mv ko so tl lp lb ld le C cl dq dy ou md th K cd Dn ri mv dy C ko so mu tl lp lb me tn hC24 hok hC24 (L_late hMu dy) hce hsl hP hD hS hl (fun H locs ls hP hD hS hl => K1 H locs ls _ ?_ hP hD hS hl)
  exact lw_I.mk hPP hLL
set_option maxHeartbeats 1000000 in
theorem st_risk {p : Program} {l : Launch} {e : Env} {s : State} {m : MethodId} {below : List Frame} {meth : Method} {c : Code} {Q : State → Prop} {b L : Nat} {xs : Nat → Int32} (hlf : l.stackTraces = false) (C0 : lw_At p s m meth c b L xs) {D : va_G} {cI cL : ClassId} (hK : kcK D [(cI, .int), (cL, .long)] s) (hX0 : kcX (fun q => s.heap.size ≤ q) s s.heap) (hL : L ≤ 2048) {i : Nat} (hi : i + 3 < L) {ad md : Nat → Nat} {ws : va_W} (hI : lw_I ad cI cL md ws) {H : Heap} {locs : List Loc} {cells slots : Nat} (hce : cells + 2 ≤ 601024) (hsl : slots + 16 ≤ 7293034) (hP : va_P D vwCl ws H) (hD : va_D (fun q => s.heap.size ≤ q) ws) (hS : va_S (fun q => s.heap.size ≤ q) s.heap H locs) {ls : Array Slot} (hl : lv_has ls 9 [(0, .ref b), (1, .ref (ad 14)), (2, .ref (md 0)), (3, .ref (ad 17)), (4, .int (nI i))]) (K1 : ∀ (H : Heap) (locs : List Loc) (ls : Array Slot) (ws : va_W), lw_I ad cI cL md ws → va_P D vwCl ws H → va_D (fun q => s.heap.size ≤ q) ws → va_S (fun q => s.heap.size ≤ q) s.heap H locs → lv_has ls 9 [(0, .ref b), (1, .ref (ad 14)), (2, .ref (md 0)), (3, .ref (ad 17)), (4, .int (nI i))] → W p l e room_1 s m #[Value.ref b] below meth c H locs (cells + 2) (slots + 16) Q (F0 m 1633 ls [])) : W p l e room_1 s m #[Value.ref b] below meth c H locs cells slots Q (F0 m 1497 ls []) := by
  obtain ⟨cd, te, ri, pi, pw, K, Dn, mv, ko, so, tl, lp, lb, ld, le, C, cl, dq, dy, ou, th, mu, me, tn, kn, rfl, hPP, hLL⟩ := hI
  obtain ⟨hK8, hD8, hTe, hPi, hPi0, hRi⟩ := id hPP
  obtain ⟨hC24, hkn, hok, htl0, hMu, hHo, hEnd, hd0, hd9⟩ := id hLL
  refine lw_risk hlf C0 hK hX0 hL i hi ad cd te ri pi pw K Dn mv ko so tl lp lb ld le C cl dq dy ou md th K cd Dn ri mv dy C ko so mu tl lp lb me kn hK8 hD8 hC24 hK8 hD8 hC24 (hkn.ke hK8) (L_risk hK8 hTe hPi hkn) hce hsl hP hD hS hl (fun H locs ls hP hD hS hl => K1 H locs ls _ ?_ hP hD hS hl)
  exact lw_I.mk hPP hLL
set_option maxHeartbeats 1000000 in
theorem st_digest {p : Program} {l : Launch} {e : Env} {s : State} {m : MethodId} {below : List Frame} {meth : Method} {c : Code} {Q : State → Prop} {b L : Nat} {xs : Nat → Int32} (hlf : l.stackTraces = false) (C0 : lw_At p s m meth c b L xs) {D : va_G} {cI cL : ClassId} (hK : kcK D [(cI, .int), (cL, .long)] s) (hX0 : kcX (fun q => s.heap.size ≤ q) s s.heap) (hL : L ≤ 2048) {i : Nat} (hi : i + 3 < L) {ad md : Nat → Nat} {ws : va_W} (hI : lw_I ad cI cL md ws) {H : Heap} {locs : List Loc} {cells slots : Nat} (hce : cells + 2 ≤ 601024) (hsl : slots + 16 ≤ 7293034) (hP : va_P D vwCl ws H) (hD : va_D (fun q => s.heap.size ≤ q) ws) (hS : va_S (fun q => s.heap.size ≤ q) s.heap H locs) {ls : Array Slot} (hl : lv_has ls 9 [(0, .ref b), (1, .ref (ad 14)), (2, .ref (md 0)), (3, .ref (ad 17)), (4, .int (nI i))]) (K1 : ∀ (H : Heap) (locs : List Loc) (ls : Array Slot) (ws : va_W), lw_I ad cI cL md ws → va_P D vwCl ws H → va_D (fun q => s.heap.size ≤ q) ws → va_S (fun q => s.heap.size ≤ q) s.heap H locs → lv_has ls 9 [(0, .ref b), (1, .ref (ad 14)), (2, .ref (md 0)), (3, .ref (ad 17)), (4, .int (nI i))] → W p l e room_1 s m #[Value.ref b] below meth c H locs (cells + 2) (slots + 16) Q (F0 m 1633 ls [])) : W p l e room_1 s m #[Value.ref b] below meth c H locs cells slots Q (F0 m 1619 ls []) := by
  obtain ⟨cd, te, ri, pi, pw, K, Dn, mv, ko, so, tl, lp, lb, ld, le, C, cl, dq, dy, ou, th, mu, me, tn, kn, rfl, hPP, hLL⟩ := hI
  obtain ⟨hK8, hD8, hTe, hPi, hPi0, hRi⟩ := id hPP
  obtain ⟨hC24, hkn, hok, htl0, hMu, hHo, hEnd, hd0, hd9⟩ := id hLL
  refine lw_digest hlf C0 hK hX0 hL i hi ad cd te ri pi pw K Dn mv ko so tl lp lb ld le C cl dq dy ou md th K cd Dn ri mv dy C ko so mu tl lp lb me tn hK8 hD8 hC24 hok hK8 hD8 hC24 hok (L_digest hK8 hTe hPi hMu mv dy) hce hsl hP hD hS hl (fun H locs ls hP hD hS hl => K1 H locs ls _ ?_ hP hD hS hl)
  exact lw_I.mk hPP hLL
set_option maxHeartbeats 1000000 in
theorem st_exposure {p : Program} {l : Launch} {e : Env} {s : State} {m : MethodId} {below : List Frame} {meth : Method} {c : Code} {Q : State → Prop} {b L : Nat} {xs : Nat → Int32} (hlf : l.stackTraces = false) (C0 : lw_At p s m meth c b L xs) {D : va_G} {cI cL : ClassId} (hK : kcK D [(cI, .int), (cL, .long)] s) (hX0 : kcX (fun q => s.heap.size ≤ q) s s.heap) (hL : L ≤ 2048) {i : Nat} (hi : i + 3 < L) {ad md : Nat → Nat} {ws : va_W} (hI : lw_I ad cI cL md ws) {H : Heap} {locs : List Loc} {cells slots : Nat} (hce : cells + 2 ≤ 601024) (hsl : slots + 16 ≤ 7293034) (hP : va_P D vwCl ws H) (hD : va_D (fun q => s.heap.size ≤ q) ws) (hS : va_S (fun q => s.heap.size ≤ q) s.heap H locs) {ls : Array Slot} (hl : lv_has ls 9 [(0, .ref b), (1, .ref (ad 14)), (2, .ref (md 0)), (3, .ref (ad 17)), (4, .int (nI i))]) (K1 : ∀ (H : Heap) (locs : List Loc) (ls : Array Slot) (ws : va_W), lw_I ad cI cL md ws → va_P D vwCl ws H → va_D (fun q => s.heap.size ≤ q) ws → va_S (fun q => s.heap.size ≤ q) s.heap H locs → lv_has ls 9 [(0, .ref b), (1, .ref (ad 14)), (2, .ref (md 0)), (3, .ref (ad 17)), (4, .int (nI i))] → W p l e room_1 s m #[Value.ref b] below meth c H locs (cells + 2) (slots + 16) Q (F0 m 1633 ls [])) : W p l e room_1 s m #[Value.ref b] below meth c H locs cells slots Q (F0 m 1578 ls []) := by
  obtain ⟨cd, te, ri, pi, pw, K, Dn, mv, ko, so, tl, lp, lb, ld, le, C, cl, dq, dy, ou, th, mu, me, tn, kn, rfl, hPP, hLL⟩ := hI
  obtain ⟨hK8, hD8, hTe, hPi, hPi0, hRi⟩ := id hPP
  obtain ⟨hC24, hkn, hok, htl0, hMu, hHo, hEnd, hd0, hd9⟩ := id hLL
  rcases Nat.eq_zero_or_pos Dn with hDe | hDp
  · refine lw_exposure_z_z hlf C0 hK hX0 hL i hi ad cd te ri pi pw K Dn mv ko so tl lp lb ld le C cl dq dy ou md th K cd Dn ri mv dy C ko so mu tl lp lb me tn kn hDe hK8 hD8 hC24 (hkn.ke hK8) hok hDe rfl hce hsl hP hD hS hl (fun H locs ls hP hD hS hl => K1 H locs ls _ ?_ hP hD hS hl)
    exact lw_I.mk hPP hLL
  · refine lw_exposure_ok_ok hlf C0 hK hX0 hL i hi ad cd te ri pi pw K Dn mv ko so tl lp lb ld le C cl dq dy ou md th K cd Dn ri mv dy C ko so mu tl lp lb me tn kn hK8 hD8 hC24 hok hDp hK8 hD8 hC24 (hkn.ke hK8) hok hDp (by rw [L_exp (mu := mu) (tl := tl) hK8 hTe hPi hkn]) hce hsl hP hD hS hl (fun H locs ls hP hD hS hl => K1 H locs ls _ ?_ hP hD hS hl)
    exact lw_I.mk hPP hLL
