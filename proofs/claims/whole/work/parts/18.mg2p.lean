theorem va_up_idE {α : Type} {f : Nat → α} {k : Nat} {v : α} (h : f k = v) : va_up f k v = f := by rw [← h]; exact va_up_id f k
theorem mt_memb {S T V : Nat → Prop} {t : Nat} (h : ∀ z, V z ↔ (T z ∨ ∃ x, S x ∧ x.testBit t = true ∧ z = x)) (z : Nat) : V z ↔ (T z ∨ (S z ∧ z.testBit t = true)) := by
  rw [h]
  constructor
  · intro h1
    rcases h1 with h1 | ⟨x, h1, h2, h3⟩
    · exact Or.inl h1
    · subst h3; exact Or.inr ⟨h1, h2⟩
  · intro h1
    rcases h1 with h1 | ⟨h1, h2⟩
    · exact Or.inl h1
    · exact Or.inr ⟨z, h1, h2, rfl⟩
section PR
variable {k a b : Nat → Nat} {n : Nat} {S T X A1 B1 V V0 : Nat → Prop}
theorem mt_pairs_of (hX : ∀ z, X z ↔ ∃ x y, A1 x ∧ B1 y ∧ z = x &&& y) (hA : ∀ z, A1 z ↔ (False ∨ ∃ x, S x ∧ z = mt_ps k a n x)) (hB : ∀ z, B1 z ↔ (False ∨ ∃ x, T x ∧ z = mt_ps k b n x)) (hV : ∀ z, V z ↔ (V0 z ∨ ∃ x, X x ∧ z = mt_pf k a b (fun t => Nat.testBit x t) n)) (z : Nat) : V z ↔ (V0 z ∨ ∃ x y, S x ∧ T y ∧ z = mt_pf k a b (mt_rp k a b x y) n) := by
  have e : ∀ x y, mt_pf k a b (fun t => Nat.testBit (mt_ps k a n x &&& mt_ps k b n y) t) n = mt_pf k a b (mt_rp k a b x y) n := fun x y => mt_pf_r (fun t ht => mt_pair_bit t ht)
  rw [hV]
  constructor
  · intro h
    rcases h with h | ⟨w, h1, h2⟩
    · exact Or.inl h
    · obtain ⟨x, y, h3, h4, rfl⟩ := (hX w).mp h1
      rcases (hA x).mp h3 with h5 | ⟨x', h5, rfl⟩
      · exact h5.elim
      · rcases (hB y).mp h4 with h6 | ⟨y', h6, rfl⟩
        · exact h6.elim
        · exact Or.inr ⟨x', y', h5, h6, by rw [h2, e]⟩
  · intro h
    rcases h with h | ⟨x, y, h1, h2, h3⟩
    · exact Or.inl h
    · exact Or.inr ⟨_, (hX _).mpr ⟨_, _, (hA _).mpr (Or.inr ⟨x, h1, rfl⟩), (hB _).mpr (Or.inr ⟨y, h2, rfl⟩), rfl⟩, by rw [h3, e]⟩
theorem mt_pairs_lt (hX : ∀ z, X z ↔ ∃ x y, A1 x ∧ B1 y ∧ z = x &&& y) (hA : ∀ z, A1 z ↔ (False ∨ ∃ x, S x ∧ z = mt_ps k a n x)) {q : Nat} (hq : X q) : q < 2 ^ n := by
  obtain ⟨x, y, h3, h4, rfl⟩ := (hX q).mp hq
  rcases (hA x).mp h3 with h5 | ⟨x', h5, rfl⟩
  · exact h5.elim
  · exact Nat.lt_of_le_of_lt Nat.and_le_left (mt_ma_lt _ _)
theorem mt_pairs_hi (hX : ∀ z, X z ↔ ∃ x y, A1 x ∧ B1 y ∧ z = x &&& y) (hA : ∀ z, A1 z ↔ (False ∨ ∃ x, S x ∧ z = mt_ps k a n x)) {q : Nat} (hq : X q) (t : Nat) (_ht : t < n) (h3 : 3 ≤ k t) : q.testBit t = false := by
  obtain ⟨x, y, h3', h4, rfl⟩ := (hX q).mp hq
  rcases (hA x).mp h3' with h5 | ⟨x', h5, rfl⟩
  · exact h5.elim
  · unfold mt_ps
    have e : (k t == 1) = false := beq_eq_false_iff_ne.mpr (by omega)
    rw [Nat.testBit_and, mt_ma_bit, e]
    simp
theorem mt_stp_lt {z : Nat} (h : mt_stp k a b n S z) : z < 2 ^ n := by
  obtain ⟨p, q, -, -, rfl⟩ := h
  exact mt_ma_lt _ _
theorem mt_fun_hi {t z : Nat} (ht : t < n) (h3 : 3 ≤ k t) : (mt_dif (mt_ar k n) z).testBit t = false := by
  have e : (k t == 2) = false := beq_eq_false_iff_ne.mpr (by omega)
  unfold mt_ar
  rw [mt_dif_bit, mt_ma_bit, e]
  simp
theorem mt_funs_of {Y : Nat → Prop} (hX : ∀ z, X z ↔ mt_stp k a b n S z) (hY : ∀ z, Y z ↔ mt_cl X z) (hV : ∀ z, V z ↔ (V0 z ∨ ∃ x, Y x ∧ z = mt_pf k a b (fun t => Nat.testBit (mt_dif (mt_ar k n) x) t) n)) (z : Nat) : V z ↔ (V0 z ∨ ∃ bf, mt_BF a b S bf ∧ z = mt_pf k a b (mt_rf k bf) n) := by
  have e : ∀ bf : Nat → Bool, mt_pf k a b (fun t => Nat.testBit (mt_dif (mt_ar k n) (mt_ma (fun t => k t == 2 && bf t) n)) t) n = mt_pf k a b (mt_rf k bf) n := fun bf => mt_pf_r (fun t ht => mt_fun_bit bf t ht)
  have hY2 : ∀ x, Y x ↔ ∃ bf, mt_BF a b S bf ∧ x = mt_ma (fun t => k t == 2 && bf t) n := fun x => (hY x).trans ((mt_cl_congr hX x).trans (mt_brk_is x))
  rw [hV]
  constructor
  · intro h
    rcases h with h | ⟨x, h1, h2⟩
    · exact Or.inl h
    · obtain ⟨bf, h3, rfl⟩ := (hY2 x).mp h1
      exact Or.inr ⟨bf, h3, by rw [h2, e]⟩
  · intro h
    rcases h with h | ⟨bf, h1, h2⟩
    · exact Or.inl h
    · exact Or.inr ⟨_, (hY2 _).mpr ⟨bf, h1, rfl⟩, by rw [h2, e]⟩
end PR
