/-! what class and reference share, between two calls -/
def pI (cd te ri pi : Nat → Int32) (K Dn : Nat) : Prop := K ≤ 8 ∧ Dn ≤ 8 ∧ okTe cd te K ∧ okPi te ri pi K Dn ∧ (∀ d, Dn ≤ d → d < 8 → pi d = 0) ∧ (∀ d, d < Dn → jSet K (ri d) = true)
def lI (K : Nat) (ko so tl lb ld le : Nat → Int32) (C : Nat) (dy : Int32) (mu me : Nat → Int32) (tn kn : Nat → Nat) : Prop := C ≤ 24 ∧ okK ko kn C K ∧ okLe so tl tn ∧ (∀ c, C ≤ c → c < 24 → tl c = 0) ∧ okMu so ld mu tn C ∧ okHo so lb le tn C dy ∧ okEnd le me ∧ 0 ≤ dy.toInt ∧ dy.toInt ≤ 9999
theorem pins_key {cd te : Nat → Int32} {K : Nat} (hK : K < 8) {r : Int32} (hr : jSet K r = true) (x : Int32) : jPinsFor (upd te K x) r (K + 1) = jPinsFor te r K := by
  have h : ¬ jHas r K := fun q => by
    have h1 := (bt_has (by omega)).mp q
    rw [jSet_bit (by omega) hr (Nat.le_refl K) (by omega)] at h1
    exact absurd h1 (by decide)
  unfold jPinsFor
  rw [fo_s, if_neg h]
  refine fo_cong (fun k t hk => ?_)
  rw [pk_un (by omega)]
theorem pI_addKey {cd te ri pi : Nat → Int32} {K Dn : Nat} (h : pI cd te ri pi K Dn) (hK : K < 8) (code : Int32) : pI (upd cd K code) (upd te K (jTeeth code 5)) ri pi (K + 1) Dn := by
  obtain ⟨h1, h2, h3, h4, h5, h6⟩ := h
  refine ⟨by omega, h2, ?_, ?_, h5, fun d hd => jSet_mono hK (h6 d hd)⟩
  · intro k hk
    by_cases e : k = K
    · subst e; rw [pk_us, pk_us]
    · rw [pk_un e, pk_un e]; exact h3 k (by omega)
  · intro d hd
    rw [h4 d hd, pins_key (cd := cd) hK (h6 d hd)]
theorem pI_addDoor {cd te ri pi : Nat → Int32} {K Dn : Nat} (h : pI cd te ri pi K Dn) (hD : Dn < 8) {r : Int32} (hr : jSet K r = true) : pI cd te (upd ri Dn r) (upd pi Dn (jPinsFor te r K)) K (Dn + 1) := by
  obtain ⟨h1, h2, h3, h4, h5, h6⟩ := h
  refine ⟨h1, by omega, h3, ?_, ?_, ?_⟩
  · intro d hd
    by_cases e : d = Dn
    · subst e; rw [pk_us, pk_us]
    · rw [pk_un e, pk_un e]; exact h4 d (by omega)
  · intro d hd h8
    rw [pk_un (by omega)]; exact h5 d (by omega) h8
  · intro d hd
    by_cases e : d = Dn
    · subst e; rw [pk_us]; exact hr
    · rw [pk_un e]; exact h6 d (by omega)
theorem pI_setRights {cd te ri pi : Nat → Int32} {K Dn : Nat} (h : pI cd te ri pi K Dn) {j : Nat} (hj : j < Dn) {r : Int32} (hr : jSet K r = true) : pI cd te (upd ri j r) (upd pi j (jPinsFor te r K)) K Dn := by
  obtain ⟨h1, h2, h3, h4, h5, h6⟩ := h
  refine ⟨h1, h2, h3, ?_, ?_, ?_⟩
  · intro d hd
    by_cases e : d = j
    · subst e; rw [pk_us, pk_us]
    · rw [pk_un e, pk_un e]; exact h4 d hd
  · intro d hd h8
    rw [pk_un (by omega)]; exact h5 d hd h8
  · intro d hd
    by_cases e : d = j
    · subst e; rw [pk_us]; exact hr
    · rw [pk_un e]; exact h6 d hd
theorem pI_replace {cd te ri pi : Nat → Int32} {K Dn : Nat} (h : pI cd te ri pi K Dn) (k : Nat) (x : Int32) : pI (upd cd k x) (upd te k (jTeeth x 5)) ri (jRepin (upd te k (jTeeth x 5)) ri K pi Dn) K Dn := by
  obtain ⟨h1, h2, h3, h4, h5, h6⟩ := h
  exact ⟨h1, h2, h3.upd x, fun d hd => repin_at.1 hd, fun d hd h8 => by rw [repin_at.2 hd]; exact h5 d hd h8, h6⟩
/-! what the works cost -/
theorem pins_none (te : Nat → Int32) {K : Nat} (hK : K ≤ 8) : jPinsFor te 0 K = 0 := by
  refine b_ext (fun i hi => ?_)
  rw [b_0, Bool.eq_false_iff]
  intro h
  obtain ⟨k, hk, h1, _⟩ := (bt_pinsRaw hK 0 i).mp h
  rw [b_0] at h1
  exact absurd h1 (by decide)
theorem mPins_none (cd : Nat → Int32) {K : Nat} (hK : K ≤ 8) (d q : Nat) : mPins (fun _ => 0) cd d (nI q) K = 0 := by
  refine b_ext (fun i hi => ?_)
  rw [b_0, Bool.eq_false_iff]
  intro h
  obtain ⟨k, hk, h1, _⟩ := (bt_mPins hK d q hi).mp h
  rw [b_0] at h1
  exact absurd h1 (by decide)
theorem mAll_none (cd : Nat → Int32) {K : Nat} (hK : K ≤ 8) (d : Nat) : mAll (fun _ => 0) cd K d 5 = 0 := by
  unfold mAll
  simp only [fo]
  rw [mPins_none cd hK, mPins_none cd hK, mPins_none cd hK, mPins_none cd hK, mPins_none cd hK]
  rfl
theorem x0 (x : Int32) : 0 ^^^ x = x := by
  refine b_ext (fun i hi => ?_)
  rw [b_xor, b_0, Bool.false_xor]
theorem L_addDoor {cd te ri pi : Nat → Int32} {K Dn : Nat} (h : pI cd te ri pi K Dn) (hD : Dn < 8) (r : Int32) : jPop (pi Dn ^^^ jPinsFor te r K) = jPop (mAll (upd ri Dn r) cd K Dn 5) := by
  obtain ⟨h1, h2, h3, h4, h5, h6⟩ := h
  have e := L_pop (ri := fun _ => 0) (ri' := upd ri Dn r) h1 h3 h1 h3 0 Dn
  rw [pins_none te h1, mAll_none cd h1, x0 (mAll (upd ri Dn r) cd K Dn 5), pk_us] at e
  rw [h5 Dn (Nat.le_refl _) hD]
  exact e
theorem L_setRights {cd te ri pi : Nat → Int32} {K Dn : Nat} (h : pI cd te ri pi K Dn) {d : Nat} (hd : d < Dn) (r : Int32) : jPop (pi d ^^^ jPinsFor te r K) = jPop (mAll ri cd K d 5 ^^^ mAll (upd ri d r) cd K d 5) := by
  obtain ⟨h1, h2, h3, h4, h5, h6⟩ := h
  have e := L_pop (ri := ri) (ri' := upd ri d r) h1 h3 h1 h3 d d
  rw [pk_us] at e
  rw [h4 d hd]
  exact e
/-! the copies -/
