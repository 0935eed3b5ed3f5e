theorem mt_dd_le {k x y : Nat} (hx : x ≤ 5) (hy : y ≤ 5) : mt_dd k x y ≤ 6 := by
  unfold mt_dd
  split
  · decide
  · split <;> omega
theorem mt_64 {x : Int32} (h0 : ¬ x < 0) (h1 : ¬ nI 63 < x) : ∃ i, sp_is 64 x i := by
  obtain ⟨j, h2, h3⟩ := nI_of h0
  subst h3
  refine ⟨j, Nat.not_le.mp fun q => h1 (nI_lt (by omega) h2), rfl⟩
theorem mt_6 {x : Int32} (h0 : ¬ x < 0) (h1 : x < nI 6) : ∃ i, sp_is 6 x i := by
  obtain ⟨j, h2, h3⟩ := nI_of h0
  subst h3
  exact ⟨j, (nI_ltI h2 (by decide)).mp h1, rfl⟩
theorem mt_IN_0 {I J : Nat → Nat → Int32} {n x y d1 d2 : Nat} {z1 z2 : Bool} (h : mt_IN I n 0 x y (mt_dd 0 d1 d2) (mt_ic 0 z1 z2) J) : mt_IN I n 0 x y 0 false J := h
theorem mt_IN_6 {I J : Nat → Nat → Int32} {n x y d1 d2 : Nat} {z1 z2 : Bool} (h : mt_IN I n 6 x y (mt_dd 6 d1 d2) (mt_ic 6 z1 z2) J) : mt_IN I n 6 x y 0 false J := h
