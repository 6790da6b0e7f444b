/-! the law reads its script: the switch, the loop -/
theorem kc_gap {j L : Nat} (h : L ≤ 4 * j + 3) (hj : 4 * j < 4096) : Int32.ofNat L - 4 < nI (4 * j) := by
  rw [Int32.lt_iff_toInt_lt, nI_toInt (by omega)]
  have := pk_sub_toInt (a := L) (b := 4) (by omega) (by omega)
  have e : Int32.ofNat L - 4 = nI L - nI 4 := rfl
  rw [e, this]
  omega
theorem kc_inc4 (j : Nat) : nI (4 * j) + Int32.ofInt 4 = nI (4 * (j + 1)) := by
  rw [show Int32.ofInt 4 = nI 4 from rfl, nI_add, Nat.mul_add]
set_option maxHeartbeats 2000000 in
theorem lw_switch {p : Program} {l : Launch} {e : Env} {s : State} {m : MethodId} {below : List Frame} {meth : Method} {c : Code} {Q : State → Prop} {b L : Nat} {xs : Nat → Int32} (hlf : l.stackTraces = false) (C0 : lw_At p s m meth c b L xs) {D : va_G} {cI cL : ClassId} (hK : kcK D [(cI, .int), (cL, .long)] s) (hX0 : kcX (fun q => s.heap.size ≤ q) s s.heap) (hL : L ≤ 2048) {i : Nat} (hi : i + 3 < L) {ad md : Nat → Nat} {ws : va_W} (hI : lw_I ad cI cL md ws) {H : Heap} {locs : List Loc} {cells slots : Nat} (hce : cells + 2 ≤ 601024) (hsl : slots + 16 ≤ 7293034) (hP : va_P D vwCl ws H) (hD : va_D (fun q => s.heap.size ≤ q) ws) (hS : va_S (fun q => s.heap.size ≤ q) s.heap H locs) {ls : Array Slot} (hl : lv_has ls 9 [(0, .ref b), (1, .ref (ad 14)), (2, .ref (md 0)), (3, .ref (ad 17)), (4, .int (nI i))]) (K1 : ∀ (H : Heap) (locs : List Loc) (ls : Array Slot) (ws : va_W), lw_I ad cI cL md ws → va_P D vwCl ws H → va_D (fun q => s.heap.size ≤ q) ws → va_S (fun q => s.heap.size ≤ q) s.heap H locs → lv_has ls 9 [(0, .ref b), (1, .ref (ad 14)), (2, .ref (md 0)), (3, .ref (ad 17)), (4, .int (nI i))] → W p l e room_1 s m #[Value.ref b] below meth c H locs (cells + 2) (slots + 16) Q (F0 m 1633 ls [])) {o : Nat} (ho : o < 32) : W p l e room_1 s m #[Value.ref b] below meth c H locs cells slots Q (F0 m 39 ls [.int (nI o)]) := by
  have hx := C0.1
  have hb : c.code = cL_law := C0.2.1
  rcases (show o = 0 ∨ o = 1 ∨ o = 2 ∨ o = 3 ∨ o = 4 ∨ o = 5 ∨ o = 6 ∨ o = 7 ∨ o = 8 ∨ o = 9 ∨ o = 10 ∨ o = 11 ∨ o = 12 ∨ o = 13 ∨ o = 14 ∨ o = 15 ∨ o = 16 ∨ o = 17 ∨ o = 18 ∨ o = 19 ∨ o = 20 ∨ o = 21 ∨ o = 22 ∨ o = 23 ∨ o = 24 ∨ o = 25 ∨ o = 26 ∨ o = 27 ∨ o = 28 ∨ o = 29 ∨ o = 30 ∨ o = 31 by omega) with rfl | rfl | rfl | rfl | rfl | rfl | rfl | rfl | rfl | rfl | rfl | rfl | rfl | rfl | rfl | rfl | rfl | rfl | rfl | rfl | rfl | rfl | rfl | rfl | rfl | rfl | rfl | rfl | rfl | rfl | rfl | rfl
  · refine lv_tableIn (off := 137) (tgt := 176) hx hb dL_law_39 (by decide) (by decide) (by decide) (by decide) ?_
    exact st_addKey hlf C0 hK hX0 hL hi hI hce hsl hP hD hS hl K1
  · refine lv_tableIn (off := 193) (tgt := 232) hx hb dL_law_39 (by decide) (by decide) (by decide) (by decide) ?_
    exact st_addDoor hlf C0 hK hX0 hL hi hI hce hsl hP hD hS hl K1
  · refine lv_tableIn (off := 249) (tgt := 288) hx hb dL_law_39 (by decide) (by decide) (by decide) (by decide) ?_
    exact st_setRights hlf C0 hK hX0 hL hi hI hce hsl hP hD hS hl K1
  · refine lv_tableIn (off := 317) (tgt := 356) hx hb dL_law_39 (by decide) (by decide) (by decide) (by decide) ?_
    exact st_keyCount hlf C0 hK hX0 hL hi hI hce hsl hP hD hS hl K1
  · refine lv_tableIn (off := 330) (tgt := 369) hx hb dL_law_39 (by decide) (by decide) (by decide) (by decide) ?_
    exact st_doorCount hlf C0 hK hX0 hL hi hI hce hsl hP hD hS hl K1
  · refine lv_tableIn (off := 343) (tgt := 382) hx hb dL_law_39 (by decide) (by decide) (by decide) (by decide) ?_
    exact st_code hlf C0 hK hX0 hL hi hI hce hsl hP hD hS hl K1
  · refine lv_tableIn (off := 399) (tgt := 438) hx hb dL_law_39 (by decide) (by decide) (by decide) (by decide) ?_
    exact st_pins hlf C0 hK hX0 hL hi hI hce hsl hP hD hS hl K1
  · refine lv_tableIn (off := 467) (tgt := 506) hx hb dL_law_39 (by decide) (by decide) (by decide) (by decide) ?_
    exact st_opens hlf C0 hK hX0 hL hi hI hce hsl hP hD hS hl K1
  · refine lv_tableIn (off := 542) (tgt := 581) hx hb dL_law_39 (by decide) (by decide) (by decide) (by decide) ?_
    exact st_openers hlf C0 hK hX0 hL hi hI hce hsl hP hD hS hl K1
  · refine lv_tableIn (off := 598) (tgt := 637) hx hb dL_law_39 (by decide) (by decide) (by decide) (by decide) ?_
    exact st_doors hlf C0 hK hX0 hL hi hI hce hsl hP hD hS hl K1
  · refine lv_tableIn (off := 654) (tgt := 693) hx hb dL_law_39 (by decide) (by decide) (by decide) (by decide) ?_
    exact st_strays hlf C0 hK hX0 hL hi hI hce hsl hP hD hS hl K1
  · refine lv_tableIn (off := 667) (tgt := 706) hx hb dL_law_39 (by decide) (by decide) (by decide) (by decide) ?_
    exact st_codes hlf C0 hK hX0 hL hi hI hce hsl hP hD hS hl K1
  · refine lv_tableIn (off := 723) (tgt := 762) hx hb dL_law_39 (by decide) (by decide) (by decide) (by decide) ?_
    exact st_isAbove hlf C0 hK hX0 hL hi hI hce hsl hP hD hS hl K1
  · refine lv_tableIn (off := 798) (tgt := 837) hx hb dL_law_39 (by decide) (by decide) (by decide) (by decide) ?_
    exact st_work hlf C0 hK hX0 hL hi hI hce hsl hP hD hS hl K1
  · refine lv_tableIn (off := 811) (tgt := 850) hx hb dL_law_39 (by decide) (by decide) (by decide) (by decide) ?_
    exact st_replace hlf C0 hK hX0 hL hi hI hce hsl hP hD hS hl K1
  · refine lv_tableIn (off := 867) (tgt := 906) hx hb dL_law_39 (by decide) (by decide) (by decide) (by decide) ?_
    exact st_cut hlf C0 hK hX0 hL hi hI hce hsl hP hD hS hl K1
  · refine lv_tableIn (off := 923) (tgt := 962) hx hb dL_law_39 (by decide) (by decide) (by decide) (by decide) ?_
    exact st_lend hlf C0 hK hX0 hL hi hI hce hsl hP hD hS hl K1
  · refine lv_tableIn (off := 1003) (tgt := 1042) hx hb dL_law_39 (by decide) (by decide) (by decide) (by decide) ?_
    exact st_giveBack hlf C0 hK hX0 hL hi hI hce hsl hP hD hS hl K1
  · refine lv_tableIn (off := 1059) (tgt := 1098) hx hb dL_law_39 (by decide) (by decide) (by decide) (by decide) ?_
    exact st_lose hlf C0 hK hX0 hL hi hI hce hsl hP hD hS hl K1
  · refine lv_tableIn (off := 1115) (tgt := 1154) hx hb dL_law_39 (by decide) (by decide) (by decide) (by decide) ?_
    exact st_find hlf C0 hK hX0 hL hi hI hce hsl hP hD hS hl K1
  · refine lv_tableIn (off := 1171) (tgt := 1210) hx hb dL_law_39 (by decide) (by decide) (by decide) (by decide) ?_
    exact st_pass hlf C0 hK hX0 hL hi hI hce hsl hP hD hS hl K1
  · refine lv_tableIn (off := 1227) (tgt := 1266) hx hb dL_law_39 (by decide) (by decide) (by decide) (by decide) ?_
    exact st_today hlf C0 hK hX0 hL hi hI hce hsl hP hD hS hl K1
  · refine lv_tableIn (off := 1240) (tgt := 1279) hx hb dL_law_39 (by decide) (by decide) (by decide) (by decide) ?_
    exact st_copyCount hlf C0 hK hX0 hL hi hI hce hsl hP hD hS hl K1
  · refine lv_tableIn (off := 1253) (tgt := 1292) hx hb dL_law_39 (by decide) (by decide) (by decide) (by decide) ?_
    exact st_copy hlf C0 hK hX0 hL hi hI hce hsl hP hD hS hl K1
  · refine lv_tableIn (off := 1321) (tgt := 1360) hx hb dL_law_39 (by decide) (by decide) (by decide) (by decide) ?_
    exact st_overdue hlf C0 hK hX0 hL hi hI hce hsl hP hD hS hl K1
  · refine lv_tableIn (off := 1334) (tgt := 1373) hx hb dL_law_39 (by decide) (by decide) (by decide) (by decide) ?_
    exact st_holderAt hlf C0 hK hX0 hL hi hI hce hsl hP hD hS hl K1
  · refine lv_tableIn (off := 1402) (tgt := 1441) hx hb dL_law_39 (by decide) (by decide) (by decide) (by decide) ?_
    exact st_reach hlf C0 hK hX0 hL hi hI hce hsl hP hD hS hl K1
  · refine lv_tableIn (off := 1458) (tgt := 1497) hx hb dL_law_39 (by decide) (by decide) (by decide) (by decide) ?_
    exact st_risk hlf C0 hK hX0 hL hi hI hce hsl hP hD hS hl K1
  · refine lv_tableIn (off := 1471) (tgt := 1510) hx hb dL_law_39 (by decide) (by decide) (by decide) (by decide) ?_
    exact st_suggest hlf C0 hK hX0 hL hi hI hce hsl hP hD hS hl K1
  · refine lv_tableIn (off := 1539) (tgt := 1578) hx hb dL_law_39 (by decide) (by decide) (by decide) (by decide) ?_
    exact st_exposure hlf C0 hK hX0 hL hi hI hce hsl hP hD hS hl K1
  · refine lv_tableIn (off := 1580) (tgt := 1619) hx hb dL_law_39 (by decide) (by decide) (by decide) (by decide) ?_
    exact st_digest hlf C0 hK hX0 hL hi hI hce hsl hP hD hS hl K1
  · refine lv_tableOut (tgt := 1633) hx hb dL_law_39 (by decide) (by decide) ?_
    refine W.widen (k := cells + 2) (n := slots + 16) (by omega) (by omega) ?_
    exact K1 _ _ _ _ hI hP hD hS hl
set_option maxHeartbeats 2000000 in
theorem lw_loop {p : Program} {l : Launch} {e : Env} {s : State} {m : MethodId} {below : List Frame} {meth : Method} {c : Code} {Q : State → Prop} {b L : Nat} {xs : Nat → Int32} (hlf : l.stackTraces = false) (C0 : lw_At p s m meth c b L xs) {D : va_G} {cI cL : ClassId} (hK : kcK D [(cI, .int), (cL, .long)] s) (hX0 : kcX (fun q => s.heap.size ≤ q) s s.heap) (hL : L ≤ 2048) {ad md : Nat → Nat} (KE : ∀ (H : Heap) (locs : List Loc) (ls : Array Slot), va_S (fun q => s.heap.size ≤ q) s.heap H locs → W p l e room_1 s m #[Value.ref b] below meth c H locs 601024 7293034 Q (F0 m 1639 ls [])) :
    ∀ (n j : Nat) (H : Heap) (locs : List Loc) (cells slots : Nat) (ls : Array Slot) (ws : va_W), 4 * j + 4 * n = 2052 → cells + 2 * n ≤ 601024 → slots + 16 * n ≤ 7293034 → lw_I ad cI cL md ws → va_P D vwCl ws H → va_D (fun q => s.heap.size ≤ q) ws → va_S (fun q => s.heap.size ≤ q) s.heap H locs → lv_has ls 9 [(0, .ref b), (1, .ref (ad 14)), (2, .ref (md 0)), (3, .ref (ad 17)), (4, .int (nI (4 * j)))] → W p l e room_1 s m #[Value.ref b] below meth c H locs cells slots Q (F0 m 23 ls []) := by
  intro n
  induction n with
  | zero =>
    intro j H locs cells slots ls ws hn hce hsl hI hP hD hS hl
    obtain ⟨hx, hb, hr, hml, hown, hts, hXs, hbl, hlocks, hgv⟩ := id C0
    have hb : c.code = cL_law := hb
    have hbA : ¬ (fun q : Nat => s.heap.size ≤ q) b := Nat.not_le.mpr hbl
    refine lv_iload hx hb dL_law_23 (lv_at hl 4 rfl) ?_
    refine lv_aload_n hx hb dL_law_25 rfl (lv_at hl 0 rfl) ?_
    refine va_slen hx hb hXs hbl hbA hS dL_law_26 ?_
    refine lv_iconst (v := 4) hx hb dL_law_27 (by decide) ?_
    refine lv_isub hx hb dL_law_28 ?_
    refine lv_icmp_gt (tgt := 1639) hx hb dL_law_29 (by decide) (fun _ => ?_) (fun h => absurd (kc_gap (j := j) (L := L) (by omega) (by omega)) h)
    refine W.widen (k := 601024) (n := 7293034) (by omega) (by omega) ?_
    exact KE _ _ _ hS
  | succ n ih =>
    intro j H locs cells slots ls ws hn hce hsl hI hP hD hS hl
    obtain ⟨hx, hb, hr, hml, hown, hts, hXs, hbl, hlocks, hgv⟩ := id C0
    have hb : c.code = cL_law := hb
    have hbA : ¬ (fun q : Nat => s.heap.size ≤ q) b := Nat.not_le.mpr hbl
    refine lv_iload hx hb dL_law_23 (lv_at hl 4 rfl) ?_
    refine lv_aload_n hx hb dL_law_25 rfl (lv_at hl 0 rfl) ?_
    refine va_slen hx hb hXs hbl hbA hS dL_law_26 ?_
    refine lv_iconst (v := 4) hx hb dL_law_27 (by decide) ?_
    refine lv_isub hx hb dL_law_28 ?_
    refine lv_icmp_gt (tgt := 1639) hx hb dL_law_29 (by decide) (fun _ => ?_) (fun h => ?_)
    · refine W.widen (k := 601024) (n := 7293034) (by omega) (by omega) ?_
      exact KE _ _ _ hS
    have hi : 4 * j + 3 < L := by
      rcases Nat.lt_or_ge (4 * j + 3) L with q | q
      · exact q
      · exact absurd (kc_gap q (by omega)) h
    refine lv_aload_n hx hb dL_law_32 rfl (lv_at hl 0 rfl) ?_
    refine lv_iload hx hb dL_law_33 (lv_at hl 4 rfl) ?_
    refine kc_sld (i := 4 * j) hx hb hXs hbl hbA hS (by omega) (by omega) dL_law_35 ?_
    refine lv_bipush (v := 31) hx hb dL_law_36 (by decide) ?_
    refine lv_iand hx hb dL_law_38 ?_
    obtain ⟨o, ho, eo⟩ := pk_andE (xs (4 * j)) (m := 31) 5 rfl
    rw [eo]
    refine lw_switch hlf C0 hK hX0 hL hi hI (by omega) (by omega) hP hD hS hl (fun H locs ls ws hI hP hD hS hl => ?_) ho
    refine lv_iinc (v := nI (4 * (j + 1))) (lv' := [(4, .int (nI (4 * (j + 1)))), (0, .ref b), (1, .ref (ad 14)), (2, .ref (md 0)), (3, .ref (ad 17))]) hx hb dL_law_1633 hl (k := 4) rfl (kc_inc4 j) (by decide) rfl (fun ls hl => ?_)
    refine lv_goto (tgt := 23) hx hb dL_law_1636 (by decide) ?_
    exact ih (j + 1) H locs (cells + 2) (slots + 16) ls ws (by omega) (by omega) (by omega) hI hP hD hS (lv_sub hl [1, 2, 3, 4, 0] rfl)
