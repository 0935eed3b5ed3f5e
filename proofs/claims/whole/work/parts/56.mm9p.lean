abbrev gMS : Type := (Nat → Nat → Int32) × Nat × Nat × Nat × Nat × Nat × (Nat → Int64)
/-- the reference's cells hold this state -/
def mt_MR (u : gMS) (T : gTS) (V : gVS) : Prop := match u, T, V with
  | (J, n, v, kn, pr, ar, X), (n', k, a, b, dp, fc), (v', vk, va, vb, vl) => n = n' ∧ v = v' ∧ n ≤ 12 ∧ mt_MT J n k a b ∧ mt_TE J n dp fc ∧ mt_wf k a b n ∧ (∀ t, t < n → dp t ≤ 5) ∧ v ≤ 20 ∧ mt_MV J v vk va vb vl ∧ mt_vw n v vk va vb vl ∧ kn ≤ n ∧ (kn = n → 0 < n → mt_KN (J 9) pr ar X k a b n)
theorem mt_dd_k1 (x y : Nat) : mt_dd 1 x y = max x y + 1 := Nat.add_comm _ _
theorem mt_dd_k2 (x y : Nat) : mt_dd 2 x y = max x y + 1 := Nat.add_comm _ _
theorem mt_dd_k3 (x y : Nat) : mt_dd 3 x y = max x y + 0 := rfl
theorem mt_dd_k4 (x y : Nat) : mt_dd 4 x y = max x y + 0 := rfl
theorem mt_dd_k5 (x y : Nat) : mt_dd 5 x y = max x y + 0 := rfl
theorem mt_MR_addT {J J' : Nat → Nat → Int32} {n v kn pr ar : Nat} {X : Nat → Int64} {k a b dp vk va vb vl : Nat → Nat} {fc : Nat → Bool} {kk x y d : Nat} {z : Bool} (hM : mt_MR (J, n, v, kn, pr, ar, X) (n, k, a, b, dp, fc) (v, vk, va, vb, vl)) (hn : n < 12) (hJ : mt_IN J n kk x y d z J') (hd : d ≤ 5) (hw : mt_wf (va_up k n kk) (va_up a n x) (va_up b n y) (n + 1)) :
    mt_MR (J', n + 1, v, 0, pr, ar, X) (sp_addT (n, k, a, b, dp, fc) kk x y d z) (v, vk, va, vb, vl) := by
  obtain ⟨-, -, c1, c2, c3, c4, c5, c7, c8, c9, c10, c11⟩ := hM
  refine ⟨rfl, rfl, by omega, ?_, ?_, hw, ?_, c7, ?_, ?_, Nat.zero_le _, fun h => absurd h (by omega)⟩
  · intro t ht
    by_cases e : t = n
    · subst e
      rw [va_up_self, va_up_self, va_up_self]
      exact ⟨hJ.2.1, hJ.2.2.1, hJ.2.2.2.1⟩
    · rw [va_up_ne _ _ e, va_up_ne _ _ e, va_up_ne _ _ e, hJ.1 0 t (Or.inl e), hJ.1 1 t (Or.inl e), hJ.1 2 t (Or.inl e)]
      exact c2 t (by omega)
  · intro t ht
    by_cases e : t = n
    · subst e
      rw [va_up_self, va_up_self]
      exact ⟨hJ.2.2.2.2.1, hJ.2.2.2.2.2⟩
    · rw [va_up_ne _ _ e, va_up_ne _ _ e, hJ.1 3 t (Or.inl e), hJ.1 4 t (Or.inl e)]
      exact c3 t (by omega)
  · intro t ht
    by_cases e : t = n
    · subst e; rw [va_up_self]; exact hd
    · rw [va_up_ne _ _ e]; exact c5 t (by omega)
  · intro i hi
    rw [hJ.1 5 i (Or.inr (by decide)), hJ.1 6 i (Or.inr (by decide)), hJ.1 7 i (Or.inr (by decide)), hJ.1 8 i (Or.inr (by decide))]
    exact c8 i hi
  · intro i hi
    obtain ⟨q1, q2, q3, q4, q5⟩ := c9 i hi
    exact ⟨q1, q2, q3, fun h => by have := q4 h; omega, q5⟩
theorem mt_MR_wk {J : Nat → Nat → Int32} {P : Nat → Int32} {n v kn pr ar pr' ar' : Nat} {X X' : Nat → Int64} {k a b dp vk va vb vl : Nat → Nat} {fc : Nat → Bool} (hM : mt_MR (J, n, v, kn, pr, ar, X) (n, k, a, b, dp, fc) (v, vk, va, vb, vl)) (hK : mt_KN P pr' ar' X' k a b n) : mt_MR (va_up J 9 P, n, v, n, pr', ar', X') (n, k, a, b, dp, fc) (v, vk, va, vb, vl) := by
  obtain ⟨-, -, c1, c2, c3, c4, c5, c7, c8, c9, c10, c11⟩ := hM
  exact ⟨rfl, rfl, c1, c2, c3, c4, c5, c7, c8, c9, Nat.le_refl _, fun _ _ => by rw [va_up_self]; exact hK⟩
theorem mt_MT_3 {J : Nat → Nat → Int32} {n kk x y : Nat} {k a b : Nat → Nat} (h : mt_MT J n k a b) : mt_MT (va_up (va_up (va_up J 0 (upd (J 0) n (nI kk))) 1 (upd (va_up J 0 (upd (J 0) n (nI kk)) 1) n (nI x))) 2 (upd (va_up (va_up J 0 (upd (J 0) n (nI kk))) 1 (upd (va_up J 0 (upd (J 0) n (nI kk)) 1) n (nI x)) 2) n (nI y))) (n + 1) (va_up k n kk) (va_up a n x) (va_up b n y) := by
  intro t ht
  show upd (J 0) n (nI kk) t = _ ∧ upd (J 1) n (nI x) t = _ ∧ upd (J 2) n (nI y) t = _
  by_cases e : t = n
  · subst e
    rw [va_up_self, va_up_self, va_up_self, pk_us, pk_us, pk_us]
    exact ⟨rfl, rfl, rfl⟩
  · rw [va_up_ne _ _ e, va_up_ne _ _ e, va_up_ne _ _ e, pk_un e, pk_un e, pk_un e]
    exact h t (by omega)
theorem mt_MR_ans {J : Nat → Nat → Int32} {P : Nat → Int32} {n v kn pr ar pr' ar' kk x y : Nat} {X X' : Nat → Int64} {k a b dp vk va vb vl : Nat → Nat} {fc : Nat → Bool} (hM : mt_MR (J, n, v, kn, pr, ar, X) (n, k, a, b, dp, fc) (v, vk, va, vb, vl)) : mt_MR (va_up (va_up (va_up (va_up J 0 (upd (J 0) n (nI kk))) 1 (upd (va_up J 0 (upd (J 0) n (nI kk)) 1) n (nI x))) 2 (upd (va_up (va_up J 0 (upd (J 0) n (nI kk))) 1 (upd (va_up J 0 (upd (J 0) n (nI kk)) 1) n (nI x)) 2) n (nI y))) 9 P, n, v, 0, pr', ar', X') (n, k, a, b, dp, fc) (v, vk, va, vb, vl) := by
  obtain ⟨-, -, c1, c2, c3, c4, c5, c7, c8, c9, c10, c11⟩ := hM
  refine ⟨rfl, rfl, c1, ?_, c3, c4, c5, c7, c8, c9, Nat.zero_le _, fun h h2 => absurd h2 (by omega)⟩
  intro t ht
  show upd (J 0) n (nI kk) t = _ ∧ upd (J 1) n (nI x) t = _ ∧ upd (J 2) n (nI y) t = _
  rw [pk_un (by omega), pk_un (by omega), pk_un (by omega)]
  exact c2 t ht
theorem mt_any_s {f : Nat → Bool} {q : Nat} {ff z ff' : Bool} (h : ff = true ↔ ∃ x, x < q ∧ f x = true) (hz : z = f q) (h' : (ff || z) = ff') : ff' = true ↔ ∃ x, x < q + 1 ∧ f x = true := by
  rw [← h', Bool.or_eq_true, h, hz]
  constructor
  · rintro (⟨x, h1, h2⟩ | h1)
    · exact ⟨x, by omega, h2⟩
    · exact ⟨q, by omega, h1⟩
  · rintro ⟨x, h1, h2⟩
    by_cases e : x = q
    · subst e; exact Or.inr h2
    · exact Or.inl ⟨x, by omega, h2⟩
section RR
variable {X : Nat → Int64} {k a b : Nat → Nat} {n i j : Nat}
theorem mt_lies_of13 (h : ∀ z, z < 8192 → (mt_ms X 0 z = true ↔ mt_R k a b n z)) (hn : n ≤ 13) : (¬ ∃ x, x < 8192 ∧ (mt_ms X 0 x && (x.testBit i && !x.testBit j)) = true) ↔ ∀ z, mt_R k a b n z → z.testBit i = true → z.testBit j = true := by
  constructor
  · intro h1 z h2 h3
    refine Classical.byContradiction fun h4 => h1 ⟨z, mt_lt13 (mt_R_lt h2) hn, ?_⟩
    rw [(h z (mt_lt13 (mt_R_lt h2) hn)).mpr h2, h3]
    cases e : z.testBit j
    · rfl
    · exact absurd e h4
  · rintro h1 ⟨x, h2, h3⟩
    simp only [Bool.and_eq_true] at h3
    have h4 := h1 x ((h x h2).mp h3.1) h3.2.1
    rw [h4] at h3
    exact absurd h3.2.2 (by decide)
theorem mt_lies_of (h : ∀ z, z < 8192 → (mt_ms X 0 z = true ↔ mt_R k a b n z)) (hn : n ≤ 12) : (¬ ∃ x, x < 8192 ∧ (mt_ms X 0 x && (x.testBit i && !x.testBit j)) = true) ↔ ∀ z, mt_R k a b n z → z.testBit i = true → z.testBit j = true := mt_lies_of13 h (by omega)
theorem mt_emp_of (h : ∀ z, z < 8192 → (mt_ms X 0 z = true ↔ mt_R k a b n z)) (hn : n ≤ 12) : (¬ ∃ x, x < 8192 ∧ (mt_ms X 0 x && x.testBit i) = true) ↔ ∀ z, mt_R k a b n z → ¬ z.testBit i = true := by
  constructor
  · intro h1 z h2 h3
    refine h1 ⟨z, mt_lt13 (mt_R_lt h2) (by omega), ?_⟩
    rw [(h z (mt_lt13 (mt_R_lt h2) (by omega))).mpr h2, h3]
    rfl
  · rintro h1 ⟨x, h2, h3⟩
    rw [Bool.and_eq_true] at h3
    exact h1 x ((h x h2).mp h3.1) h3.2
theorem mt_meets_of (h : ∀ z, z < 8192 → (mt_ms X 0 z = true ↔ mt_R k a b n z)) (hn : n ≤ 12) : (∃ x, x < 8192 ∧ (mt_ms X 0 x && (x.testBit i && x.testBit j)) = true) ↔ ∃ z, mt_R k a b n z ∧ z.testBit i = true ∧ z.testBit j = true := by
  constructor
  · rintro ⟨x, h2, h3⟩
    simp only [Bool.and_eq_true] at h3
    exact ⟨x, (h x h2).mp h3.1, h3.2⟩
  · rintro ⟨z, h1, h2, h3⟩
    refine ⟨z, mt_lt13 (mt_R_lt h1) (by omega), ?_⟩
    rw [(h z (mt_lt13 (mt_R_lt h1) (by omega))).mpr h1, h2, h3]
    rfl
end RR
