/-! the sets and loops of the class, by numbers -/
/-- how many longs hold 2 ^ b bits -/
def mt_wd (b : Nat) : Nat := (2 ^ b + 63) / 64
theorem mt_p13 {b : Nat} (h : b ≤ 13) : 0 < 2 ^ b ∧ 2 ^ b ≤ 8192 := ⟨Nat.two_pow_pos b, Nat.pow_le_pow_right (n := 2) (i := b) (j := 13) (by decide) h⟩
theorem mt_wd_le {b : Nat} (h : b ≤ 13) : mt_wd b ≤ 128 ∧ 2 ^ b ≤ 64 * mt_wd b ∧ 0 < mt_wd b := by
  have := mt_p13 h
  unfold mt_wd
  omega
theorem mt_wd_mono {b c : Nat} (h : b ≤ c) : mt_wd b ≤ mt_wd c := by
  have : 2 ^ b ≤ 2 ^ c := Nat.pow_le_pow_right (by decide) h
  unfold mt_wd
  omega
/-- membership -/
def mt_el (u : Nat) (f : Nat → Int64) (x : Nat) : Prop := x < 64 * u ∧ mt_bt f x
theorem mt_nx_0 {S : Nat → Prop} {e p : Nat} (h : mt_nx S e 0 p) (x : Nat) : ¬ (x < p ∧ S x) := fun q => h.2.2.1 x (Nat.zero_le _) q.1 q.2
theorem mt_nx_s {S : Nat → Prop} {e p p' : Nat} (h : mt_nx S e (p + 1) p') (hp : S p) (x : Nat) : (x < p' ∧ S x) ↔ ((x < p ∧ S x) ∨ x = p) := by
  have h1 := h.1
  constructor
  · rintro ⟨h2, h3⟩
    by_cases e1 : x < p
    · exact Or.inl ⟨e1, h3⟩
    · by_cases e2 : x = p
      · exact Or.inr e2
      · exact absurd h3 (h.2.2.1 x (by omega) h2)
  · rintro (⟨h2, h3⟩ | h2)
    · exact ⟨by omega, h3⟩
    · subst h2; exact ⟨by omega, hp⟩
theorem mt_nx_e {u : Nat} {f : Nat → Int64} {i p : Nat} (h : mt_nx (mt_el u f) (64 * u) i p) (he : 64 * u ≤ p) (x : Nat) : (x < p ∧ mt_el u f x) ↔ mt_el u f x := ⟨fun q => q.2, fun q => ⟨by have := q.1; omega, q⟩⟩
/-- one way up settles all: a step -/
def mt_up (k a b : Nat → Nat) (r : Nat → Bool) (s t x : Nat) : Prop := ∀ i, x.testBit i = if i < t then (mt_pf k a b r t).testBit i else s.testBit i
theorem mt_up_0 {k a b : Nat → Nat} {r : Nat → Bool} {s : Nat} : mt_up k a b r s 0 s := fun i => by rw [if_neg (by omega)]
theorem mt_up_lt {k a b : Nat → Nat} {r : Nat → Bool} {s t x n : Nat} (h : mt_up k a b r s t x) (ht : t ≤ n) (hs : s < 2 ^ n) : x < 2 ^ n := by
  apply Nat.lt_pow_two_of_testBit
  intro i hi
  rw [h i, if_neg (by omega)]
  exact Nat.testBit_lt_two_pow (Nat.lt_of_lt_of_le hs (Nat.pow_le_pow_right (by decide) hi))
theorem mt_up_in {k a b : Nat → Nat} {r : Nat → Bool} {s t x n : Nat} (hw : mt_wf k a b n) (ht : t < n) (h : mt_up k a b r s t x) (h1 : k t ≤ 2 → r t = s.testBit t) (h2 : 3 ≤ k t → s.testBit t = false) : mt_in k a b r t (mt_pf k a b r t) = (mt_in k a b (fun _ => false) t x || x.testBit t) := by
  have hxt : x.testBit t = s.testBit t := by rw [h t, if_neg (by omega)]
  obtain ⟨h6, h7, -⟩ := hw t ht
  by_cases e0 : k t ≤ 2
  · have e3 : ¬ k t = 3 := by omega
    have e4 : ¬ k t = 4 := by omega
    have e5 : ¬ k t = 5 := by omega
    have e6 : ¬ k t = 6 := by omega
    simp [mt_in, e3, e4, e5, e6, h1 e0, hxt]
  · have hf := h2 (by omega)
    rw [hxt, hf]
    by_cases e6 : k t = 6
    · simp [mt_in, e6]
    · obtain ⟨ha, hb⟩ := h7 (by omega) e6
      have xa : x.testBit (a t) = (mt_pf k a b r t).testBit (a t) := by rw [h (a t), if_pos ha]
      have xb : x.testBit (b t) = (mt_pf k a b r t).testBit (b t) := by rw [h (b t), if_pos hb]
      have e : k t = 3 ∨ k t = 4 ∨ k t = 5 := by omega
      rcases e with e | e | e <;> simp [mt_in, e, xa, xb]
theorem mt_up_t {k a b : Nat → Nat} {r : Nat → Bool} {s t x n : Nat} (hw : mt_wf k a b n) (ht : t < n) (h : mt_up k a b r s t x) (h1 : k t ≤ 2 → r t = s.testBit t) (h2 : 3 ≤ k t → s.testBit t = false) (hf : mt_in k a b (fun _ => false) t x = true) : mt_up k a b r s (t + 1) (x ||| 2 ^ t) := by
  have e := mt_up_in hw ht h h1 h2
  rw [hf, Bool.true_or] at e
  intro i
  rw [Nat.testBit_or, Nat.testBit_two_pow, mt_pf_top]
  by_cases c1 : i = t
  · subst c1
    simp [e]
  · have c1' : ¬ t = i := fun q => c1 q.symm
    rw [h i]
    by_cases c2 : i < t
    · simp [c1, c1', c2, Nat.lt_succ_of_lt c2]
    · have c3 : ¬ i < t + 1 := by omega
      simp [c1', c2, c3]
theorem mt_up_f {k a b : Nat → Nat} {r : Nat → Bool} {s t x n : Nat} (hw : mt_wf k a b n) (ht : t < n) (h : mt_up k a b r s t x) (h1 : k t ≤ 2 → r t = s.testBit t) (h2 : 3 ≤ k t → s.testBit t = false) (hf : mt_in k a b (fun _ => false) t x = false) : mt_up k a b r s (t + 1) x := by
  have e := mt_up_in hw ht h h1 h2
  rw [hf, Bool.false_or] at e
  intro i
  rw [mt_pf_top]
  by_cases c1 : i = t
  · subst c1
    simp [e]
  · rw [h i]
    by_cases c2 : i < t
    · simp [c1, c2, Nat.lt_succ_of_lt c2]
    · have c3 : ¬ i < t + 1 := by omega
      simp [c2, c3]
theorem mt_up_e {k a b : Nat → Nat} {r : Nat → Bool} {s x n : Nat} (h : mt_up k a b r s n x) (hs : s < 2 ^ n) : x = mt_pf k a b r n := by
  apply Nat.eq_of_testBit_eq
  intro i
  rw [h i]
  by_cases c : i < n
  · rw [if_pos c]
  · rw [if_neg c, Nat.testBit_lt_two_pow (Nat.lt_of_lt_of_le hs (Nat.pow_le_pow_right (by decide) (by omega))), Nat.testBit_lt_two_pow (Nat.lt_of_lt_of_le (mt_pf_lt k a b r n) (Nat.pow_le_pow_right (by decide) (by omega)))]
