theorem mt_CR_rw {I : Nat → Nat → Int32} {n v : Nat} {us us' : Nat → Nat} {ct ct' : Nat → Nat → Int64} {k a b dp vk va vb vl : Nat → Nat} {fc : Nat → Bool} (hC : mt_CR (I, n, v, us, ct) (n, k, a, b, dp, fc) (v, vk, va, vb, vl)) (hR : mt_RW us' ct' n k a b) : mt_CR (I, n, v, us', ct') (n, k, a, b, dp, fc) (v, vk, va, vb, vl) := by
  obtain ⟨-, -, c1, c2, c3, c4, c5, c6, c7, c8, c9⟩ := hC
  exact ⟨rfl, rfl, c1, c2, c3, c4, c5, hR, c7, c8, c9⟩
theorem mt_CR_ans {I J : Nat → Nat → Int32} {n v : Nat} {us us' : Nat → Nat} {ct ct' : Nat → Nat → Int64} {k a b dp vk va vb vl : Nat → Nat} {fc : Nat → Bool} {kk x y d xx yy : Nat} {z : Bool} (hC : mt_CR (I, n, v, us, ct) (n, k, a, b, dp, fc) (v, vk, va, vb, vl)) (hJ : mt_IN I n kk x y d z J) (hR : mt_RW us' ct' (n + 1) (va_up k n kk) (va_up a n xx) (va_up b n yy)) : mt_CR (J, n, v, us', ct') (n, k, a, b, dp, fc) (v, vk, va, vb, vl) := by
  obtain ⟨-, -, c1, c2, c3, c4, c5, c6, c7, c8, c9⟩ := hC
  refine ⟨rfl, rfl, c1, ?_, ?_, c4, c5, ?_, c7, ?_, c9⟩
  · intro t ht
    rw [hJ.1 0 t (Or.inl (by omega)), hJ.1 1 t (Or.inl (by omega)), hJ.1 2 t (Or.inl (by omega))]
    exact c2 t ht
  · intro t ht
    rw [hJ.1 3 t (Or.inl (by omega)), hJ.1 4 t (Or.inl (by omega))]
    exact c3 t ht
  · intro j hj
    obtain ⟨h1, h2⟩ := hR j (by omega)
    refine ⟨h1, fun z => (h2 z).trans ((mt_R_congr j (c4.le hj) (fun t ht => ?_) z)).symm⟩
    rw [va_up_ne _ _ (by omega), va_up_ne _ _ (by omega), va_up_ne _ _ (by omega)]
    exact ⟨rfl, rfl, rfl⟩
  · intro i hi
    rw [hJ.1 5 i (Or.inr (by decide)), hJ.1 6 i (Or.inr (by decide)), hJ.1 7 i (Or.inr (by decide)), hJ.1 8 i (Or.inr (by decide))]
    exact c8 i hi
theorem mt_num_ext {f : Nat → Bool} {n : Nat} (hn : n ≤ 12) (h : ∀ t, n ≤ t → f t = false) : mt_num f 12 = mt_num f n := by
  have key : ∀ m, n ≤ m → mt_num f m = mt_num f n := by
    intro m hm
    induction m with
    | zero => have : n = 0 := by omega
              subst this; rfl
    | succ m ih =>
      by_cases e : n = m + 1
      · subst e; rfl
      · simp only [mt_num, h m (by omega)]
        exact ih (by omega)
  exact key 12 hn
theorem mt_cut_n {n : Nat} {x : Int32} (h : x < 0) : sp_cutn n x = 0 := by unfold sp_cutn; rw [if_pos h]
theorem mt_cut_p {n j : Nat} {x : Int32} (hj : j < 2 ^ 31) (h : x = nI j) : sp_cutn n x = min n j := by
  unfold sp_cutn
  subst h
  rw [if_neg (nI_pos hj), nI_clamp hj]
theorem sp_cutn_le (n : Nat) (x : Int32) : sp_cutn n x ≤ n := by
  unfold sp_cutn
  split
  · exact Nat.zero_le _
  · exact Nat.min_le_left _ _
theorem mt_CR_cut {I : Nat → Nat → Int32} {n v : Nat} {us : Nat → Nat} {ct : Nat → Nat → Int64} {k a b dp vk va vb vl : Nat → Nat} {fc : Nat → Bool} {x : Int32} (hC : mt_CR (I, n, v, us, ct) (n, k, a, b, dp, fc) (v, vk, va, vb, vl)) : mt_CR (I, sp_cutn n x, 0, us, ct) (sp_cut (n, k, a, b, dp, fc) x) (sp_cutV (v, vk, va, vb, vl)) := by
  obtain ⟨-, -, c1, c2, c3, c4, c5, c6, c7, c8, c9⟩ := hC
  have hle := sp_cutn_le n x
  exact ⟨rfl, rfl, by omega, fun t ht => c2 t (by omega), fun t ht => c3 t (by omega), c4.le hle, fun t ht => c5 t (by omega), fun j hj => c6 j (by omega), by decide, fun i hi => absurd hi (by omega), fun i hi => absurd hi (by omega)⟩
