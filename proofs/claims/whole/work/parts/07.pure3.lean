/-! the reference numbers products and arrows: masks over those alone -/
def mt_ct (k : Nat → Nat) (w : Nat) : Nat → Nat
  | 0 => 0
  | t + 1 => if k t = w then mt_ct k w t + 1 else mt_ct k w t
theorem mt_ct_le {k : Nat → Nat} {w s t : Nat} (h : s ≤ t) : mt_ct k w s ≤ mt_ct k w t := by
  induction t with
  | zero => have : s = 0 := by omega
            subst this; exact Nat.le_refl _
  | succ t ih =>
    by_cases e : s = t + 1
    · rw [e]; exact Nat.le_refl _
    · have := ih (by omega)
      simp only [mt_ct]
      split <;> omega
theorem mt_ct_lt {k : Nat → Nat} {w s t : Nat} (hk : k s = w) (h : s < t) : mt_ct k w s < mt_ct k w t := by
  have h1 : mt_ct k w (s + 1) = mt_ct k w s + 1 := by simp [mt_ct, hk]
  have h2 : mt_ct k w (s + 1) ≤ mt_ct k w t := mt_ct_le h
  omega
theorem mt_ct_inj {k : Nat → Nat} {w s t : Nat} (hs : k s = w) (ht : k t = w) (h : mt_ct k w s = mt_ct k w t) : s = t := by
  rcases Nat.lt_trichotomy s t with q | q | q
  · have := mt_ct_lt hs q; omega
  · exact q
  · have := mt_ct_lt ht q; omega
theorem mt_ct_n {k : Nat → Nat} {w : Nat} (t : Nat) : mt_ct k w t ≤ t := by
  induction t with
  | zero => exact Nat.le_refl _
  | succ t ih => simp only [mt_ct]; split <;> omega
def mt_cz (k : Nat → Nat) (w : Nat) (f : Nat → Bool) : Nat → Nat
  | 0 => 0
  | n + 1 => if k n = w ∧ f n = true then mt_cz k w f n ||| 2 ^ mt_ct k w n else mt_cz k w f n
theorem mt_cz_bit {k : Nat → Nat} {w : Nat} {f : Nat → Bool} {n i : Nat} : (mt_cz k w f n).testBit i = true ↔ ∃ t, t < n ∧ k t = w ∧ f t = true ∧ mt_ct k w t = i := by
  induction n with
  | zero => simp [mt_cz]
  | succ n ih =>
    simp only [mt_cz]
    by_cases h : k n = w ∧ f n = true
    · rw [if_pos h, Nat.testBit_or, Nat.testBit_two_pow, Bool.or_eq_true, ih, decide_eq_true_iff]
      constructor
      · rintro (⟨t, h1, h2⟩ | h1)
        · exact ⟨t, by omega, h2⟩
        · exact ⟨n, by omega, h.1, h.2, h1⟩
      · rintro ⟨t, h1, h2, h3, h4⟩
        by_cases e : t = n
        · subst e; exact Or.inr h4
        · exact Or.inl ⟨t, by omega, h2, h3, h4⟩
    · rw [if_neg h, ih]
      constructor
      · rintro ⟨t, h1, h2⟩
        exact ⟨t, by omega, h2⟩
      · rintro ⟨t, h1, h2, h3, h4⟩
        by_cases e : t = n
        · subst e; exact absurd ⟨h2, h3⟩ h
        · exact ⟨t, by omega, h2, h3, h4⟩
theorem mt_cz_at {k : Nat → Nat} {w : Nat} {f : Nat → Bool} {n t : Nat} (ht : t < n) (hk : k t = w) : (mt_cz k w f n).testBit (mt_ct k w t) = f t := by
  rw [Bool.eq_iff_iff, mt_cz_bit]
  constructor
  · rintro ⟨t', h1, h2, h3, h4⟩
    have := mt_ct_inj h2 hk h4
    subst this
    exact h3
  · intro h
    exact ⟨t, ht, hk, h, rfl⟩
theorem mt_cz_lt {k : Nat → Nat} {w : Nat} {f : Nat → Bool} {n : Nat} : mt_cz k w f n < 2 ^ mt_ct k w n := by
  apply Nat.lt_pow_two_of_testBit
  intro i hi
  cases e : (mt_cz k w f n).testBit i
  · rfl
  · obtain ⟨t, h1, h2, h3, h4⟩ := mt_cz_bit.mp e
    have := mt_ct_lt h2 h1
    omega
theorem mt_cz_ext {k : Nat → Nat} {w n x : Nat} {f : Nat → Bool} (h1 : ∀ t, t < n → k t = w → x.testBit (mt_ct k w t) = f t) (h2 : ∀ i, x.testBit i = true → ∃ t, t < n ∧ k t = w ∧ mt_ct k w t = i) : x = mt_cz k w f n := by
  apply Nat.eq_of_testBit_eq
  intro i
  rw [Bool.eq_iff_iff, mt_cz_bit]
  constructor
  · intro h
    obtain ⟨t, a1, a2, a3⟩ := h2 i h
    subst a3
    exact ⟨t, a1, a2, by rw [← h1 t a1 a2]; exact h, rfl⟩
  · rintro ⟨t, a1, a2, a3, rfl⟩
    rw [h1 t a1 a2]; exact a3
theorem mt_cz_src {k : Nat → Nat} {w : Nat} {f : Nat → Bool} {n i : Nat} (h : (mt_cz k w f n).testBit i = true) : ∃ t, t < n ∧ k t = w ∧ mt_ct k w t = i := by
  obtain ⟨t, h1, h2, -, h4⟩ := mt_cz_bit.mp h
  exact ⟨t, h1, h2, h4⟩
theorem mt_cz_and {k : Nat → Nat} {w : Nat} {f g : Nat → Bool} {n : Nat} : mt_cz k w f n &&& mt_cz k w g n = mt_cz k w (fun t => f t && g t) n := by
  apply mt_cz_ext
  · intro t ht hk
    rw [Nat.testBit_and, mt_cz_at ht hk, mt_cz_at ht hk]
  · intro i h
    rw [Nat.testBit_and, Bool.and_eq_true] at h
    exact mt_cz_src h.1
theorem mt_cz_or {k : Nat → Nat} {w : Nat} {f g : Nat → Bool} {n : Nat} : mt_cz k w f n ||| mt_cz k w g n = mt_cz k w (fun t => f t || g t) n := by
  apply mt_cz_ext
  · intro t ht hk
    rw [Nat.testBit_or, mt_cz_at ht hk, mt_cz_at ht hk]
  · intro i h
    rw [Nat.testBit_or, Bool.or_eq_true] at h
    exact h.elim mt_cz_src mt_cz_src
theorem mt_cz_dif {k : Nat → Nat} {w : Nat} {f g : Nat → Bool} {n : Nat} : mt_dif (mt_cz k w f n) (mt_cz k w g n) = mt_cz k w (fun t => f t && !g t) n := by
  apply mt_cz_ext
  · intro t ht hk
    rw [mt_dif_bit, mt_cz_at ht hk, mt_cz_at ht hk]
  · intro i h
    rw [mt_dif_bit, Bool.and_eq_true] at h
    exact mt_cz_src h.1
theorem mt_cz_0 {k : Nat → Nat} {w n : Nat} : mt_cz k w (fun _ => false) n = 0 := by
  induction n with
  | zero => rfl
  | succ n ih => simp [mt_cz, ih]
/-- what the reference's rows are, once nothing more comes -/
theorem mt_ref {k a b : Nat → Nat} {n : Nat} (hw : mt_wf k a b n) {PR BR RW : Nat → Prop}
    (h0 : BR 0) (hor : ∀ x y, BR x → BR y → BR (x ||| y))
    (hrow : ∀ z, RW z ↔ ((∃ c, c < 6 ∧ z = mt_pf k a b (mt_rc k a c) n) ∨ (∃ x, PR x ∧ z = mt_pf k a b (fun t => k t == 1 && x.testBit (mt_ct k 1 t)) n) ∨ ∃ x, BR x ∧ z = mt_pf k a b (fun t => k t == 2 && !x.testBit (mt_ct k 2 t)) n))
    (hp : ∀ x y, RW x → RW y → PR (mt_cz k 1 (fun t => x.testBit (a t) && y.testBit (b t)) n))
    (hf : ∀ (x : Nat) (q : Option Nat), RW x → (∀ r, q = some r → RW r) → BR (mt_cz k 2 (mt_sf a b x q) n))
    (sp : ∀ x, PR x → ∃ p q, mt_R k a b n p ∧ mt_R k a b n q ∧ x = mt_cz k 1 (fun t => p.testBit (a t) && q.testBit (b t)) n)
    (sb : ∀ x, BR x → ∃ bf, mt_BF a b (mt_R k a b n) bf ∧ x = mt_cz k 2 bf n) (z : Nat) : RW z ↔ mt_R k a b n z := by
  have ep : ∀ p q : Nat, mt_pf k a b (fun t => k t == 1 && (mt_cz k 1 (fun t => p.testBit (a t) && q.testBit (b t)) n).testBit (mt_ct k 1 t)) n = mt_pf k a b (mt_rp k a b p q) n := by
    intro p q
    apply mt_pf_r
    intro t ht
    by_cases hk : k t = 1
    · simp [mt_rp, hk, mt_cz_at ht hk]
    · have e : (k t == 1) = false := beq_eq_false_iff_ne.mpr hk
      simp [mt_rp, e]
  have eb : ∀ bf : Nat → Bool, mt_pf k a b (fun t => k t == 2 && !(mt_cz k 2 bf n).testBit (mt_ct k 2 t)) n = mt_pf k a b (mt_rf k bf) n := by
    intro bf
    apply mt_pf_r
    intro t ht
    by_cases hk : k t = 2
    · simp [mt_rf, hk, mt_cz_at ht hk]
    · have e : (k t == 2) = false := beq_eq_false_iff_ne.mpr hk
      simp [mt_rf, e]
  refine mt_R_is hw (S := RW) ?_ ?_ ?_ ?_ z
  · intro c hc
    exact (hrow _).mpr (Or.inl ⟨c, hc, rfl⟩)
  · intro x y hx hy
    exact (hrow _).mpr (Or.inr (Or.inl ⟨_, hp x y hx hy, (ep x y).symm⟩))
  · intro bf hbf
    have hB : BR (mt_cz k 2 bf n) := by
      refine hbf (fun bf => BR (mt_cz k 2 bf n)) ?_ ?_
      · show BR (mt_cz k 2 (fun _ => false) n)
        rw [mt_cz_0]; exact h0
      · intro f p q h1 h2 h3
        have := hor _ _ h1 (hf p q h2 h3)
        rw [mt_cz_or] at this
        exact this
    exact (hrow _).mpr (Or.inr (Or.inr ⟨_, hB, (eb bf).symm⟩))
  · intro p h
    rcases (hrow p).mp h with ⟨c, hc, rfl⟩ | ⟨x, hx, rfl⟩ | ⟨x, hx, rfl⟩
    · exact mt_R_c hc
    · obtain ⟨p, q, h1, h2, rfl⟩ := sp x hx
      rw [ep]
      exact mt_R_p hw h1 h2
    · obtain ⟨bf, h1, rfl⟩ := sb x hx
      rw [eb]
      exact mt_R_f hw h1
