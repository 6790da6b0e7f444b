/-! what class and reference share, between two calls -/
def pI (cd te ri pi : Nat → Int32) (K Dn : Nat) : Prop := K ≤ 8 ∧ Dn ≤ 8 ∧ okTe cd te K ∧ okPi te ri pi K Dn ∧ (∀ d, Dn ≤ d → d < 8 → pi d = 0) ∧ (∀ d, d < Dn → jSet K (ri d) = true)
def lI (K : Nat) (ko so tl lb ld le : Nat → Int32) (C : Nat) (dy : Int32) (mu me : Nat → Int32) (tn kn : Nat → Nat) : Prop := C ≤ 24 ∧ okK ko kn C K ∧ okLe so tl tn ∧ (∀ c, C ≤ c → c < 24 → tl c = 0) ∧ okMu so ld mu tn C ∧ okHo so lb le tn C dy ∧ okEnd le me ∧ 0 ≤ dy.toInt ∧ dy.toInt ≤ 9999
theorem pins_key {cd te : Nat → Int32} {K : Nat} (hK : K < 8) {r : Int32} (hr : jSet K r = true) (x : Int32) : jPinsFor (upd te K x) r (K + 1) = jPinsFor te r K := by
  have h : ¬ jHas r K := fun q => by
    have h1 := (bt_has (by omega)).mp q
    rw [jSet_bit (by omega) hr (Nat.le_refl K) (by omega)] at h1
    exact absurd h1 (by decide)
  unfold jPinsFor
  rw [fo_s, if_neg h]
  refine fo_cong (fun k t hk => ?_)
  rw [pk_un (by omega)]
theorem pI_addKey {cd te ri pi : Nat → Int32} {K Dn : Nat} (h : pI cd te ri pi K Dn) (hK : K < 8) (code : Int32) : pI (upd cd K code) (upd te K (jTeeth code 5)) ri pi (K + 1) Dn := by
  obtain ⟨h1, h2, h3, h4, h5, h6⟩ := h
  refine ⟨by omega, h2, ?_, ?_, h5, fun d hd => jSet_mono hK (h6 d hd)⟩
  · intro k hk
    by_cases e : k = K
    · subst e; rw [pk_us, pk_us]
    · rw [pk_un e, pk_un e]; exact h3 k (by omega)
  · intro d hd
    rw [h4 d hd, pins_key (cd := cd) hK (h6 d hd)]
theorem pI_addDoor {cd te ri pi : Nat → Int32} {K Dn : Nat} (h : pI cd te ri pi K Dn) (hD : Dn < 8) {r : Int32} (hr : jSet K r = true) : pI cd te (upd ri Dn r) (upd pi Dn (jPinsFor te r K)) K (Dn + 1) := by
  obtain ⟨h1, h2, h3, h4, h5, h6⟩ := h
  refine ⟨h1, by omega, h3, ?_, ?_, ?_⟩
  · intro d hd
    by_cases e : d = Dn
    · subst e; rw [pk_us, pk_us]
    · rw [pk_un e, pk_un e]; exact h4 d (by omega)
  · intro d hd h8
    rw [pk_un (by omega)]; exact h5 d (by omega) h8
  · intro d hd
    by_cases e : d = Dn
    · subst e; rw [pk_us]; exact hr
    · rw [pk_un e]; exact h6 d (by omega)
theorem pI_setRights {cd te ri pi : Nat → Int32} {K Dn : Nat} (h : pI cd te ri pi K Dn) {j : Nat} (hj : j < Dn) {r : Int32} (hr : jSet K r = true) : pI cd te (upd ri j r) (upd pi j (jPinsFor te r K)) K Dn := by
  obtain ⟨h1, h2, h3, h4, h5, h6⟩ := h
  refine ⟨h1, h2, h3, ?_, ?_, ?_⟩
  · intro d hd
    by_cases e : d = j
    · subst e; rw [pk_us, pk_us]
    · rw [pk_un e, pk_un e]; exact h4 d hd
  · intro d hd h8
    rw [pk_un (by omega)]; exact h5 d hd h8
  · intro d hd
    by_cases e : d = j
    · subst e; rw [pk_us]; exact hr
    · rw [pk_un e]; exact h6 d hd
theorem pI_replace {cd te ri pi : Nat → Int32} {K Dn : Nat} (h : pI cd te ri pi K Dn) (k : Nat) (x : Int32) : pI (upd cd k x) (upd te k (jTeeth x 5)) ri (jRepin (upd te k (jTeeth x 5)) ri K pi Dn) K Dn := by
  obtain ⟨h1, h2, h3, h4, h5, h6⟩ := h
  exact ⟨h1, h2, h3.upd x, fun d hd => repin_at.1 hd, fun d hd h8 => by rw [repin_at.2 hd]; exact h5 d hd h8, h6⟩
/-! what the works cost -/
theorem pins_none (te : Nat → Int32) {K : Nat} (hK : K ≤ 8) : jPinsFor te 0 K = 0 := by
  refine b_ext (fun i hi => ?_)
  rw [b_0, Bool.eq_false_iff]
  intro h
  obtain ⟨k, hk, h1, _⟩ := (bt_pinsRaw hK 0 i).mp h
  rw [b_0] at h1
  exact absurd h1 (by decide)
theorem mPins_none (cd : Nat → Int32) {K : Nat} (hK : K ≤ 8) (d q : Nat) : mPins (fun _ => 0) cd d (nI q) K = 0 := by
  refine b_ext (fun i hi => ?_)
  rw [b_0, Bool.eq_false_iff]
  intro h
  obtain ⟨k, hk, h1, _⟩ := (bt_mPins hK d q hi).mp h
  rw [b_0] at h1
  exact absurd h1 (by decide)
theorem mAll_none (cd : Nat → Int32) {K : Nat} (hK : K ≤ 8) (d : Nat) : mAll (fun _ => 0) cd K d 5 = 0 := by
  unfold mAll
  simp only [fo]
  rw [mPins_none cd hK, mPins_none cd hK, mPins_none cd hK, mPins_none cd hK, mPins_none cd hK]
  rfl
theorem x0 (x : Int32) : 0 ^^^ x = x := by
  refine b_ext (fun i hi => ?_)
  rw [b_xor, b_0, Bool.false_xor]
theorem L_addDoor {cd te ri pi : Nat → Int32} {K Dn : Nat} (h : pI cd te ri pi K Dn) (hD : Dn < 8) (r : Int32) : jPop (pi Dn ^^^ jPinsFor te r K) = jPop (mAll (upd ri Dn r) cd K Dn 5) := by
  obtain ⟨h1, h2, h3, h4, h5, h6⟩ := h
  have e := L_pop (ri := fun _ => 0) (ri' := upd ri Dn r) h1 h3 h1 h3 0 Dn
  rw [pins_none te h1, mAll_none cd h1, x0 (mAll (upd ri Dn r) cd K Dn 5), pk_us] at e
  rw [h5 Dn (Nat.le_refl _) hD]
  exact e
theorem L_setRights {cd te ri pi : Nat → Int32} {K Dn : Nat} (h : pI cd te ri pi K Dn) {d : Nat} (hd : d < Dn) (r : Int32) : jPop (pi d ^^^ jPinsFor te r K) = jPop (mAll ri cd K d 5 ^^^ mAll (upd ri d r) cd K d 5) := by
  obtain ⟨h1, h2, h3, h4, h5, h6⟩ := h
  have e := L_pop (ri := ri) (ri' := upd ri d r) h1 h3 h1 h3 d d
  rw [pk_us] at e
  rw [h4 d hd]
  exact e
/-! the copies -/
theorem lI_key {K K' : Nat} {ko so tl lb ld le : Nat → Int32} {C : Nat} {dy : Int32} {mu me : Nat → Int32} {tn kn : Nat → Nat} (h : lI K ko so tl lb ld le C dy mu me tn kn) (hK : K ≤ K') : lI K' ko so tl lb ld le C dy mu me tn kn := by
  obtain ⟨h1, h2, h3⟩ := h
  exact ⟨h1, fun c hc => ⟨(h2 c hc).1, Nat.lt_of_lt_of_le (h2 c hc).2 hK⟩, h3⟩
theorem lI_cut {K : Nat} {ko so tl lb ld le : Nat → Int32} {C : Nat} {dy : Int32} {mu me : Nat → Int32} {tn kn : Nat → Nat} (h : lI K ko so tl lb ld le C dy mu me tn kn) (hC : C < 24) {k : Nat} (hk : k < K) : lI K (upd ko C (nI k)) (upd so C 0) tl lb ld le (C + 1) dy mu me tn (fun c => if c = C then k else kn c) ∧ upd tl C 0 = tl := by
  obtain ⟨h1, h2, h3, h4, h5, h6, h7, h8⟩ := h
  have ht0 : tn C = 0 := by
    have e := (h3 C hC).1
    rw [h4 C (Nat.le_refl _) hC] at e
    exact (nI_in8 (a := 0) (b := tn C) (by omega) (by have := (h3 C hC).2.1; omega) e).symm
  refine ⟨⟨by omega, ?_, ?_, fun c hc => h4 c (by omega), ?_, ?_, h7, h8⟩, ?_⟩
  · intro c hc
    show upd ko C (nI k) c = nI (if c = C then k else kn c) ∧ (if c = C then k else kn c) < K
    by_cases e : c = C
    · subst e; rw [pk_us, if_pos rfl]; exact ⟨rfl, hk⟩
    · rw [pk_un e, if_neg e]; exact h2 c (by omega)
  · intro c hc
    refine ⟨(h3 c hc).1, (h3 c hc).2.1, fun q => ?_⟩
    by_cases e : c = C
    · subst e; rw [pk_us] at q; exact absurd q (by decide)
    · rw [pk_un e] at q; exact (h3 c hc).2.2 q
  · intro c hc q
    by_cases e : c = C
    · subst e; rw [pk_us] at q; exact absurd q (by decide)
    · rw [pk_un e] at q; exact h5 c (by omega) q
  · intro c hc
    by_cases e : c = C
    · subst e
      rw [ht0]
      exact ⟨fun i hi => absurd hi (Nat.not_lt_zero i), fun i hi => absurd hi (Nat.not_lt_zero _), fun _ i hi => by omega⟩
    · obtain ⟨a1, a2, a3⟩ := h6 c (by omega)
      exact ⟨a1, a2, fun q => a3 (by rw [pk_un e] at q; exact q)⟩
  · rw [← h4 C (Nat.le_refl _) hC]; exact upd_same tl C
theorem cell_ne {c c' i j : Nat} (hi : i < 9) (hj : j < 9) (h : ¬ c = c') : ¬ c * 9 + i = c' * 9 + j := by omega
theorem lI_lend {K : Nat} {ko so tl lb ld le : Nat → Int32} {C : Nat} {dy : Int32} {mu me : Nat → Int32} {tn kn : Nat → Nat} (h : lI K ko so tl lb ld le C dy mu me tn kn) {cx : Nat} (hc : cx < C) (hs : so cx = 0) (ht : tn cx < 9) (du : Int32) : lI K ko (upd so cx 1) (upd tl cx (nI (tn cx + 1))) (upd lb (cx * 9 + tn cx) dy) (upd ld (cx * 9 + tn cx) du) (upd le (cx * 9 + tn cx) 10000) C dy (upd mu cx du) (upd me (cx * 9 + tn cx) (-1)) (fun c => if c = cx then tn cx + 1 else tn c) kn := by
  obtain ⟨h1, h2, h3, h4, h5, h6, h7, h8⟩ := h
  refine ⟨h1, h2, ?_, ?_, ?_, ?_, ?_, h8⟩
  · intro c hc24
    show upd tl cx (nI (tn cx + 1)) c = nI (if c = cx then tn cx + 1 else tn c) ∧ (if c = cx then tn cx + 1 else tn c) ≤ 9 ∧ (upd so cx 1 c = 1 → 1 ≤ (if c = cx then tn cx + 1 else tn c))
    by_cases e : c = cx
    · subst e; rw [pk_us, pk_us, if_pos rfl]; exact ⟨rfl, by omega, fun _ => by omega⟩
    · rw [pk_un e, pk_un e, if_neg e]; exact h3 c hc24
  · intro c hc1 hc2
    rw [pk_un (by omega)]; exact h4 c hc1 hc2
  · intro c hcC q
    show upd ld (cx * 9 + tn cx) du (c * 9 + (if c = cx then tn cx + 1 else tn c) - 1) = upd mu cx du c
    by_cases e : c = cx
    · subst e
      rw [if_pos rfl, show c * 9 + (tn c + 1) - 1 = c * 9 + tn c by omega, pk_us, pk_us]
    · rw [if_neg e, pk_un e]
      rw [pk_un e] at q
      have hq := (h3 c (by omega)).2.2 q
      have hq2 := (h3 c (by omega)).2.1
      rw [pk_un (by omega)]
      exact h5 c hcC q
  · intro c hcC
    show (∀ i, i < (if c = cx then tn cx + 1 else tn c) → _) ∧ (∀ i, i + 1 < (if c = cx then tn cx + 1 else tn c) → _) ∧ (_ → ∀ i, i + 1 = (if c = cx then tn cx + 1 else tn c) → _)
    obtain ⟨a1, a2, a3⟩ := h6 c hcC
    have h9 := (h3 c (by omega)).2.1
    by_cases e : c = cx
    · subst e
      rw [if_pos rfl]
      refine ⟨fun i hi => ?_, fun i hi => ?_, fun q => ?_⟩
      · by_cases z : i = tn c
        · rw [z, pk_us]; exact Int32.le_iff_toInt_le.mpr (Int.le_refl _)
        · rw [pk_un (by omega)]; exact a1 i (by omega)
      · rw [pk_un (show ¬ c * 9 + i = c * 9 + tn c by omega), pk_un (show ¬ c * 9 + i = c * 9 + tn c by omega)]
        by_cases z : i + 1 = tn c
        · rw [z, pk_us]
          exact ⟨a3 (by rw [hs]; decide) i z, a1 i (by omega)⟩
        · rw [pk_un (by omega)]; exact a2 i (by omega)
      · rw [pk_us] at q; exact absurd rfl q
    · rw [if_neg e, pk_un e]
      refine ⟨fun i hi => ?_, fun i hi => ?_, fun q i hi => ?_⟩
      · rw [pk_un (cell_ne (by omega) (by omega) e)]; exact a1 i hi
      · rw [pk_un (cell_ne (by omega) (by omega) e), pk_un (cell_ne (by omega) (by omega) e), pk_un (cell_ne (by omega) (by omega) e)]; exact a2 i hi
      · rw [pk_un (cell_ne (by omega) (by omega) e)]; exact a3 q i hi
  · intro i
    by_cases z : i = cx * 9 + tn cx
    · rw [z, pk_us, pk_us]; exact Or.inl ⟨rfl, rfl⟩
    · rw [pk_un z, pk_un z]; exact h7 i
theorem lI_end {K : Nat} {ko so tl lb ld le : Nat → Int32} {C : Nat} {dy : Int32} {mu me : Nat → Int32} {tn kn : Nat → Nat} (h : lI K ko so tl lb ld le C dy mu me tn kn) {cx : Nat} (hc : cx < C) {v : Int32} (hv : ¬ v = 1) : lI K ko (upd so cx v) tl lb ld (jMoveEnd so le tn cx dy) C dy mu (jMoveEnd so me tn cx dy) tn kn := by
  obtain ⟨h1, h2, h3, h4, h5, h6, h7, h8⟩ := h
  have hso : ∀ c, upd so cx v c = 1 → ¬ c = cx ∧ so c = 1 := fun c q => by
    by_cases e : c = cx
    · subst e; rw [pk_us] at q; exact absurd q hv
    · rw [pk_un e] at q; exact ⟨e, q⟩
  have hdy : ¬ dy = (-1) := fun q => by
    have := h8.1
    rw [q] at this
    exact absurd this (by decide)
  refine ⟨h1, h2, fun c hc24 => ⟨(h3 c hc24).1, (h3 c hc24).2.1, fun q => (h3 c hc24).2.2 (hso c q).2⟩, h4, fun c hcC q => h5 c hcC (hso c q).2, ?_, ?_, h8⟩
  · intro c hcC
    obtain ⟨a1, a2, a3⟩ := h6 c hcC
    have h9 := (h3 c (by omega)).2.1
    have h9x := (h3 cx (by omega)).2.1
    unfold jMoveEnd
    by_cases hs : so cx = 1
    · rw [if_pos hs]
      have h1x := (h3 cx (by omega)).2.2 hs
      by_cases e : c = cx
      · subst e
        refine ⟨a1, fun i hi => ?_, fun _ i hi => ?_⟩
        · rw [pk_un (by omega)]; exact a2 i hi
        · rw [show c * 9 + i = c * 9 + tn c - 1 by omega, pk_us]; exact Int32.le_iff_toInt_le.mpr (Int.le_refl _)
      · refine ⟨a1, fun i hi => ?_, fun q i hi => ?_⟩
        · rw [pk_un (by omega)]; exact a2 i hi
        · rw [pk_un (by omega)]; exact a3 (by rw [pk_un e] at q; exact q) i hi
    · rw [if_neg hs]
      refine ⟨a1, a2, fun q => a3 ?_⟩
      by_cases e : c = cx
      · subst e; exact hs
      · rw [pk_un e] at q; exact q
  · intro i
    unfold jMoveEnd
    by_cases hs : so cx = 1
    · rw [if_pos hs, if_pos hs]
      by_cases z : i = cx * 9 + tn cx - 1
      · rw [z, pk_us, pk_us]; exact Or.inr ⟨rfl, hdy⟩
      · rw [pk_un z, pk_un z]; exact h7 i
    · rw [if_neg hs, if_neg hs]; exact h7 i
theorem lI_find {K : Nat} {ko so tl lb ld le : Nat → Int32} {C : Nat} {dy : Int32} {mu me : Nat → Int32} {tn kn : Nat → Nat} (h : lI K ko so tl lb ld le C dy mu me tn kn) {cx : Nat} (hc : cx < C) (hs : ¬ so cx = 1) {v : Int32} (hv : ¬ v = 1) : lI K ko (upd so cx v) tl lb ld le C dy mu me tn kn := by
  have := lI_end h hc hv
  unfold jMoveEnd at this
  rw [if_neg hs, if_neg hs] at this
  exact this
theorem lI_void {K : Nat} {ko so tl lb ld le : Nat → Int32} {C : Nat} {dy : Int32} {mu me : Nat → Int32} {tn kn : Nat → Nat} (h : lI K ko so tl lb ld le C dy mu me tn kn) (key : Int32) : ∀ n, n ≤ C → lI K ko (jVoidSo ko key so n) tl lb ld (jVoidEnd ko key so le tn dy n) C dy mu (jVoidEnd ko key so me tn dy n) tn kn
  | 0, _ => h
  | n + 1, hn => by
    have ih := lI_void h key n (by omega)
    have e0 := jVoidSo_at (ko := ko) (key := key) (so := so) (Nat.le_refl n)
    unfold jVoidSo jVoidEnd at ih ⊢
    rw [fo_s, fo_s, fo_s]
    by_cases hk : ko n = key
    · rw [if_pos hk, if_pos hk, if_pos hk]
      have := lI_end ih (cx := n) (by omega) (v := 3) (by decide)
      unfold jMoveEnd at this ⊢
      unfold jVoidSo at e0
      rw [e0] at this
      exact this
    · rw [if_neg hk, if_neg hk, if_neg hk]; exact ih
theorem dy_add {dy dz : Int32} (h0 : 0 ≤ dy.toInt) (h9 : dy.toInt ≤ 9999) (z1 : ¬ dz < 1) (z2 : dz ≤ 99) : (dy + dz).toInt = dy.toInt + dz.toInt ∧ 1 ≤ dz.toInt ∧ dz.toInt ≤ 99 := by
  rw [Int32.lt_iff_toInt_lt] at z1
  rw [Int32.le_iff_toInt_le] at z2
  have e1 : (1 : Int32).toInt = 1 := rfl
  have e2 : (99 : Int32).toInt = 99 := rfl
  refine ⟨?_, by omega, by omega⟩
  rw [Int32.toInt_add]
  have : ∀ z : Int, 0 ≤ z → z < 20000 → z.bmod (2 ^ 32) = z := fun z a b => by
    rw [Int.bmod_eq_of_le (by omega) (by omega)]
  exact this _ (by omega) (by omega)
theorem lI_pass {K : Nat} {ko so tl lb ld le : Nat → Int32} {C : Nat} {dy : Int32} {mu me : Nat → Int32} {tn kn : Nat → Nat} (h : lI K ko so tl lb ld le C dy mu me tn kn) {dz : Int32} (z1 : ¬ dz < 1) (z2 : dz ≤ 99) (z3 : dy + dz ≤ 9999) : lI K ko so tl lb ld le C (dy + dz) mu me tn kn := by
  obtain ⟨h1, h2, h3, h4, h5, h6, h7, h8, h9⟩ := h
  obtain ⟨e, d1, d2⟩ := dy_add h8 h9 z1 z2
  have e9 : (9999 : Int32).toInt = 9999 := rfl
  rw [Int32.le_iff_toInt_le] at z3
  have hle : ∀ x : Int32, x ≤ dy → x ≤ dy + dz := fun x hx => by
    rw [Int32.le_iff_toInt_le] at hx ⊢
    omega
  refine ⟨h1, h2, h3, h4, h5, fun c hc => ?_, h7, by omega, by omega⟩
  obtain ⟨a1, a2, a3⟩ := h6 c hc
  exact ⟨fun i hi => hle _ (a1 i hi), a2, fun q i hi => hle _ (a3 q i hi)⟩
/-- the cells of the class and of the reference, alike -/
def lw_I (ad : Nat → Nat) (cI : ClassId) (cL : ClassId) (md : Nat → Nat) (ws : va_W) : Prop := ∃ (cd te ri pi pw : Nat → Int32) (K Dn : Nat) (mv : Int32) (ko so tl lp lb ld le : Nat → Int32) (C : Nat) (cl dq : Nat → Int32) (dy : Int32) (ou : Nat → Int64) (th : Int32) (mu me : Nat → Int32) (tn kn : Nat → Nat), ws = wLaw ad cI cd te ri pi pw K Dn mv ko so tl lp lb ld le C cl dq dy cL ou md th K cd Dn ri mv dy C ko so mu tl lp lb me ∧ pI cd te ri pi K Dn ∧ lI K ko so tl lb ld le C dy mu me tn kn
theorem lw_I.mk {ad : Nat → Nat} {cI cL : ClassId} {md : Nat → Nat} {cd te ri pi pw : Nat → Int32} {K Dn : Nat} {mv : Int32} {ko so tl lp lb ld le : Nat → Int32} {C : Nat} {cl dq : Nat → Int32} {dy : Int32} {ou : Nat → Int64} {th : Int32} {mu me : Nat → Int32} {tn kn : Nat → Nat} (h1 : pI cd te ri pi K Dn) (h2 : lI K ko so tl lb ld le C dy mu me tn kn) : lw_I ad cI cL md (wLaw ad cI cd te ri pi pw K Dn mv ko so tl lp lb ld le C cl dq dy cL ou md th K cd Dn ri mv dy C ko so mu tl lp lb me) := ⟨cd, te, ri, pi, pw, K, Dn, mv, ko, so, tl, lp, lb, ld, le, C, cl, dq, dy, ou, th, mu, me, tn, kn, rfl, h1, h2⟩
