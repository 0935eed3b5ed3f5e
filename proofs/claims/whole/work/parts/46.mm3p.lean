theorem mt_cz_t {k : Nat → Nat} {kk x i : Nat} {f : Nat → Bool} (hx : x = mt_cz k kk f i) (hk : k i = kk) (hkk : kk = 1 ∨ kk = 2) (hf : f i = true) : x ||| 2 ^ mt_pl k i = mt_cz k kk f (i + 1) := by
  subst hx
  simp only [mt_cz, if_pos (And.intro hk hf)]
  unfold mt_pl
  rcases hkk with h | h
  · subst h; rw [if_pos hk]
  · subst h; rw [if_neg (by omega)]
theorem mt_cz_f {k : Nat → Nat} {kk x i : Nat} {f : Nat → Bool} (hx : x = mt_cz k kk f i) (h : ¬ (k i = kk ∧ f i = true)) : x = mt_cz k kk f (i + 1) := by
  subst hx
  simp only [mt_cz, if_neg h]
theorem mt_num_s {F : Nat → Int32} {i : Nat} {x : Int32} {G : Nat → Nat} (hF : ∀ t, t < i → F t = nI (G t)) (hx : x = nI (G i)) : ∀ t, t < i + 1 → upd F i x t = nI (G t) := by
  intro t ht
  by_cases e : t = i
  · subst e; rw [pk_us]; exact hx
  · rw [pk_un e]; exact hF t (by omega)
