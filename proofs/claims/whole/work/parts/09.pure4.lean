theorem mt_el_put {u x : Nat} {f : Nat → Int64} (hx : x < 64 * u) (y : Nat) : mt_el u (vp_updL f (x / 64) (f (x / 64) ||| ((1 : Int64) <<< ((nI (x % 64)).toInt64 &&& 63)))) y ↔ (mt_el u f y ∨ y = x) := by
  unfold mt_el
  rw [mt_bt_put rfl]
  constructor
  · rintro ⟨h1, h2⟩
    rcases h2 with h2 | h2
    · exact Or.inl ⟨h1, h2⟩
    · exact Or.inr h2
  · intro h
    rcases h with ⟨h1, h2⟩ | h2
    · exact ⟨h1, Or.inl h2⟩
    · exact ⟨by omega, Or.inr h2⟩
theorem mt_el_t {u x : Nat} {f : Nat → Int64} (hx : x < 64 * u) (h : (if mt_lb (f (x / 64)) (x % 64) then (1 : Int64) else 0) ≠ 0) : mt_el u f x := by
  refine ⟨hx, ?_⟩
  unfold mt_bt
  cases h9 : mt_lb (f (x / 64)) (x % 64)
  · rw [h9] at h; exact absurd rfl h
  · rfl
theorem mt_el_f {u x : Nat} {f : Nat → Int64} (h : (if mt_lb (f (x / 64)) (x % 64) then (1 : Int64) else 0) = 0) : ¬ mt_el u f x := by
  rintro ⟨-, h8⟩
  unfold mt_bt at h8
  rw [h8] at h
  exact absurd h (by decide)
/-- the lowest member in a word, and the walk over the words -/
theorem mt_nx_word {u i j : Nat} {f : Nat → Int64} {r : Int64} (hj : j < u) (hij : i / 64 ≤ j) (h0 : ∀ x, i ≤ x → x < 64 * j → ¬ mt_bt f x) (hr : ∀ t, t < 64 → mt_lb r t = (mt_lb (f j) t && decide (i ≤ 64 * j + t))) {k : Nat} (hk : k < 64) (h1 : mt_lb r k = true) (h2 : ∀ t, t < k → mt_lb r t = false) : mt_nx (mt_el u f) (64 * u) i (j * 64 + k) := by
  have h3 := hr k hk
  rw [h1] at h3
  have h4 := (Bool.and_eq_true _ _).mp h3.symm
  have h5 : i ≤ 64 * j + k := of_decide_eq_true h4.2
  have e1 : (j * 64 + k) / 64 = j := by omega
  have e2 : (j * 64 + k) % 64 = k := by omega
  refine ⟨by omega, by omega, ?_, ?_⟩
  · rintro x hx1 hx2 ⟨-, hx3⟩
    by_cases c : x < 64 * j
    · exact h0 x hx1 c hx3
    · unfold mt_bt at hx3
      have e3 : x / 64 = j := by omega
      have e4 : x = 64 * j + x % 64 := by omega
      have h6 := hr (x % 64) (by omega)
      rw [e3] at hx3
      rw [hx3, decide_eq_true (by omega), h2 (x % 64) (by omega)] at h6
      cases h6
  · intro _
    refine ⟨by omega, ?_⟩
    unfold mt_bt
    rw [e1, e2]
    exact h4.1
theorem mt_nx_zero {i j : Nat} {f : Nat → Int64} {r : Int64} (h0 : ∀ x, i ≤ x → x < 64 * j → ¬ mt_bt f x) (hr : ∀ t, t < 64 → mt_lb r t = (mt_lb (f j) t && decide (i ≤ 64 * j + t))) (hz : r = 0) : ∀ x, i ≤ x → x < 64 * (j + 1) → ¬ mt_bt f x := by
  intro x hx1 hx2 hx3
  by_cases c : x < 64 * j
  · exact h0 x hx1 c hx3
  · unfold mt_bt at hx3
    have e3 : x / 64 = j := by omega
    have h6 := hr (x % 64) (by omega)
    rw [e3] at hx3
    rw [hz, mt_lb_0, hx3, decide_eq_true (by omega)] at h6
    cases h6
theorem mt_nx_end {u i : Nat} {f : Nat → Int64} (hi : i ≤ 64 * u) (h0 : ∀ x, i ≤ x → x < 64 * u → ¬ mt_bt f x) : mt_nx (mt_el u f) (64 * u) i (64 * u) := ⟨hi, Nat.le_refl _, fun x h1 h2 h3 => h0 x h1 h2 h3.2, fun h => absurd h (Nat.lt_irrefl _)⟩
theorem mt_nx_first {i : Nat} {f : Nat → Int64} (t : Nat) (ht : t < 64) : mt_lb (f (i / 64) &&& ((-1 : Int64) <<< ((nI (i % 64)).toInt64 &&& 63))) t = (mt_lb (f (i / 64)) t && decide (i ≤ 64 * (i / 64) + t)) := by
  rw [mt_lb_and, mt_lb_m1 _ (Nat.mod_lt _ (by decide)) t ht]
  congr 1
  rw [decide_eq_decide]
  omega
theorem mt_nx_later {i j : Nat} {f : Nat → Int64} (hj : i / 64 < j) (t : Nat) : mt_lb (f j) t = (mt_lb (f j) t && decide (i ≤ 64 * j + t)) := by
  rw [decide_eq_true (by omega), Bool.and_true]
theorem mt_cp_le (k : Nat) : mt_cp k ≤ 128 := by
  unfold mt_cp
  split
  · exact (mt_wd_le (by omega)).1
  · split <;> decide
theorem va_up_id {α : Type} (f : Nat → α) (k : Nat) : va_up f k (f k) = f := by
  funext j
  unfold va_up
  split
  · rename_i h; rw [h]
  · rfl
/-- the tables of the class hold these types -/
def mt_TR (I : Nat → Nat → Int32) (n : Nat) (k a b : Nat → Nat) : Prop := ∀ t, t < n → I 0 t = nI (k t) ∧ I 1 t = nI (a t) ∧ (k t ≠ 0 → I 2 t = nI (b t))
/-- their depths, and whether they are interfaces -/
def mt_TE (I : Nat → Nat → Int32) (n : Nat) (dp : Nat → Nat) (fc : Nat → Bool) : Prop := ∀ t, t < n → I 3 t = nI (dp t) ∧ I 4 t = mt_b (fc t)
def mt_dd (k x y : Nat) : Nat := if k = 0 ∨ k = 6 then 0 else if k = 1 ∨ k = 2 then 1 + max x y else max x y
def mt_ic (k : Nat) (x y : Bool) : Bool := if k = 4 then x && y else k == 2
theorem mt_maxI {x y : Nat} (hx : x < 2 ^ 31) (hy : y < 2 ^ 31) : (if nI x < nI y then nI y else nI x) = nI (max x y) := by
  by_cases h : nI x < nI y
  · rw [if_pos h]
    have := (nI_ltI hx hy).mp h
    rw [Nat.max_eq_right (by omega)]
  · rw [if_neg h]
    have : ¬ x < y := fun q => h ((nI_ltI hx hy).mpr q)
    rw [Nat.max_eq_left (by omega)]
theorem mt_minI {x y : Nat} (hx : x < 2 ^ 31) (hy : y < 2 ^ 31) : (if nI y < nI x then nI y else nI x) = nI (min x y) := by
  by_cases h : nI y < nI x
  · rw [if_pos h]
    have := (nI_ltI hy hx).mp h
    rw [Nat.min_eq_right (by omega)]
  · rw [if_neg h]
    have : ¬ y < x := fun q => h ((nI_ltI hy hx).mpr q)
    rw [Nat.min_eq_left (by omega)]
theorem mt_narz (x : Bool) : vp_nar .boolean (mt_b x) = mt_b x := by cases x <;> rfl
theorem mt_ma_t {f : Nat → Bool} {t : Nat} (h : f t = true) : mt_ma f t ||| 2 ^ t = mt_ma f (t + 1) := by simp [mt_ma, h]
theorem mt_ma_f {f : Nat → Bool} {t : Nat} (h : f t = false) : mt_ma f t = mt_ma f (t + 1) := by simp [mt_ma, h]
theorem mt_lt13 {x n : Nat} (hx : x < 2 ^ n) (hn : n ≤ 13) : x < 8192 := Nat.lt_of_lt_of_le hx (Nat.pow_le_pow_right (n := 2) (i := n) (j := 13) (by decide) hn)
