/-! unions of steps -/
def mt_cl (T : Nat → Prop) (z : Nat) : Prop := ∀ X : Nat → Prop, X 0 → (∀ x s, X x → T s → X (x ||| s)) → X z
theorem mt_cl_0 {T : Nat → Prop} : mt_cl T 0 := fun _ h _ => h
theorem mt_cl_s {T : Nat → Prop} {x s : Nat} (h : mt_cl T x) (hs : T s) : mt_cl T (x ||| s) := fun X h0 h1 => h1 x s (h X h0 h1) hs
theorem mt_cl_or {T : Nat → Prop} {x y : Nat} (hx : mt_cl T x) (hy : mt_cl T y) : mt_cl T (x ||| y) := by
  refine hy (fun y => mt_cl T (x ||| y)) ?_ ?_
  · show mt_cl T (x ||| 0)
    rw [Nat.or_zero]; exact hx
  · intro y s h hs
    show mt_cl T (x ||| (y ||| s))
    rw [← Nat.or_assoc]; exact mt_cl_s h hs
theorem mt_cl_mono {T T' : Nat → Prop} (h : ∀ s, T s → T' s) {z : Nat} (hz : mt_cl T z) : mt_cl T' z := hz (mt_cl T') mt_cl_0 (fun _ s hx hs => mt_cl_s hx (h s hs))
theorem mt_cl_congr {T T' : Nat → Prop} (h : ∀ s, T s ↔ T' s) (z : Nat) : mt_cl T z ↔ mt_cl T' z := ⟨mt_cl_mono fun s => (h s).mp, mt_cl_mono fun s => (h s).mpr⟩
/-- one step more -/
theorem mt_cl_add {T T' : Nat → Prop} {s : Nat} (h : ∀ x, T' x ↔ (T x ∨ x = s)) (z : Nat) : mt_cl T' z ↔ (mt_cl T z ∨ ∃ b, mt_cl T b ∧ z = b ||| s) := by
  constructor
  · intro hz
    refine hz (fun z => mt_cl T z ∨ ∃ b, mt_cl T b ∧ z = b ||| s) (Or.inl mt_cl_0) ?_
    intro x y hx hy
    rcases (h y).mp hy with hy | hy
    · rcases hx with hx | ⟨b, hb, rfl⟩
      · exact Or.inl (mt_cl_s hx hy)
      · refine Or.inr ⟨b ||| y, mt_cl_s hb hy, ?_⟩
        rw [Nat.or_assoc, Nat.or_comm s y, ← Nat.or_assoc]
    · subst hy
      rcases hx with hx | ⟨b, hb, rfl⟩
      · exact Or.inr ⟨x, hx, rfl⟩
      · exact Or.inr ⟨b, hb, by rw [Nat.or_assoc, Nat.or_self]⟩
  · rintro (hz | ⟨b, hb, rfl⟩)
    · exact mt_cl_mono (fun x hx => (h x).mpr (Or.inl hx)) hz
    · exact mt_cl_s (mt_cl_mono (fun x hx => (h x).mpr (Or.inl hx)) hb) ((h s).mpr (Or.inr rfl))
theorem mt_cl_has {T T' : Nat → Prop} {s : Nat} (h : ∀ x, T' x ↔ (T x ∨ x = s)) (hs : mt_cl T s) (z : Nat) : mt_cl T' z ↔ mt_cl T z := by
  rw [mt_cl_add h]
  constructor
  · rintro (hz | ⟨b, hb, rfl⟩)
    · exact hz
    · exact mt_cl_or hb hs
  · exact Or.inl
theorem mt_cl_none {T : Nat → Prop} (h : ∀ s, ¬ T s) (z : Nat) : mt_cl T z ↔ z = 0 := by
  constructor
  · intro hz
    exact hz (fun z => z = 0) rfl (fun _ s _ hs => absurd hs (h s))
  · intro e; subst e; exact mt_cl_0
theorem mt_cl_lt {T : Nat → Prop} {n : Nat} (h : ∀ s, T s → s < 2 ^ n) {z : Nat} (hz : mt_cl T z) : z < 2 ^ n := hz (fun z => z < 2 ^ n) (Nat.two_pow_pos n) (fun _ s hx hs => Nat.or_lt_two_pow hx (h s hs))
/-! masks of arrows -/
theorem mt_ma_or (f g : Nat → Bool) (n : Nat) : mt_ma f n ||| mt_ma g n = mt_ma (fun t => f t || g t) n := by
  apply Nat.eq_of_testBit_eq
  intro i
  rw [Nat.testBit_or, mt_ma_bit, mt_ma_bit, mt_ma_bit]
  cases decide (i < n) <;> simp
theorem mt_ma_and (f g : Nat → Bool) (n : Nat) : mt_ma f n &&& mt_ma g n = mt_ma (fun t => f t && g t) n := by
  apply Nat.eq_of_testBit_eq
  intro i
  rw [Nat.testBit_and, mt_ma_bit, mt_ma_bit, mt_ma_bit]
  cases decide (i < n) <;> simp
theorem mt_ma_dif (f g : Nat → Bool) (n : Nat) : mt_dif (mt_ma f n) (mt_ma g n) = mt_ma (fun t => f t && !g t) n := by
  apply Nat.eq_of_testBit_eq
  intro i
  rw [mt_dif_bit, mt_ma_bit, mt_ma_bit, mt_ma_bit]
  cases decide (i < n) <;> simp
/-- starts and ends of steps, and what they break -/
def mt_fs (k a : Nat → Nat) (n p : Nat) : Nat := mt_ma (fun t => k t == 2 && p.testBit (a t)) n
def mt_ar (k : Nat → Nat) (n : Nat) : Nat := mt_ma (fun t => k t == 2) n
theorem mt_step_s {k a b : Nat → Nat} {n p r : Nat} : mt_fs k a n p &&& mt_dif (mt_ar k n) (mt_fs k b n r) = mt_ma (fun t => k t == 2 && mt_sf a b p (some r) t) n := by
  unfold mt_fs mt_ar
  rw [mt_ma_dif, mt_ma_and]
  apply mt_ma_congr
  intro t _
  simp only [mt_sf, mt_hi]
  cases k t == 2 <;> simp
theorem mt_step_n {k a b : Nat → Nat} {n p : Nat} : mt_fs k a n p &&& mt_ar k n = mt_ma (fun t => k t == 2 && mt_sf a b p none t) n := by
  unfold mt_fs mt_ar
  rw [mt_ma_and]
  apply mt_ma_congr
  intro t _
  simp only [mt_sf, mt_hi]
  cases k t == 2 <;> simp
/-- the sets of arrows that single steps break -/
def mt_stp (k a b : Nat → Nat) (n : Nat) (S : Nat → Prop) (z : Nat) : Prop := ∃ p q, S p ∧ (∀ r, q = some r → S r) ∧ z = mt_ma (fun t => k t == 2 && mt_sf a b p q t) n
theorem mt_stp_is {k a b : Nat → Nat} {n : Nat} {S : Nat → Prop} (z : Nat) : (∃ s e, (∃ p, S p ∧ s = mt_fs k a n p) ∧ (e = mt_ar k n ∨ ∃ r, S r ∧ e = mt_dif (mt_ar k n) (mt_fs k b n r)) ∧ z = s &&& e) ↔ mt_stp k a b n S z := by
  constructor
  · rintro ⟨s, e, ⟨p, hp, rfl⟩, (rfl | ⟨r, hr, rfl⟩), rfl⟩
    · exact ⟨p, none, hp, (fun r hr => by cases hr), mt_step_n⟩
    · exact ⟨p, some r, hp, (fun r2 hr2 => by cases hr2; exact hr), mt_step_s⟩
  · rintro ⟨p, q, hp, hq, rfl⟩
    cases q with
    | none => exact ⟨_, _, ⟨p, hp, rfl⟩, Or.inl rfl, mt_step_n.symm⟩
    | some r => exact ⟨_, _, ⟨p, hp, rfl⟩, Or.inr ⟨r, hq r rfl, rfl⟩, mt_step_s.symm⟩
theorem mt_brk_is {k a b : Nat → Nat} {n : Nat} {S : Nat → Prop} (z : Nat) : mt_cl (mt_stp k a b n S) z ↔ ∃ bf, mt_BF a b S bf ∧ z = mt_ma (fun t => k t == 2 && bf t) n := by
  constructor
  · intro hz
    refine hz (fun z => ∃ bf, mt_BF a b S bf ∧ z = mt_ma (fun t => k t == 2 && bf t) n) ⟨_, mt_BF_nil, ?_⟩ ?_
    · apply Nat.eq_of_testBit_eq
      intro i
      rw [mt_ma_bit]; simp
    · rintro x s ⟨bf, h1, rfl⟩ ⟨p, q, hp, hq, rfl⟩
      refine ⟨_, mt_BF_step h1 hp hq, ?_⟩
      rw [mt_ma_or]
      apply mt_ma_congr
      intro t _
      cases k t == 2 <;> simp
  · rintro ⟨bf, hbf, rfl⟩
    refine hbf (fun bf => mt_cl (mt_stp k a b n S) (mt_ma (fun t => k t == 2 && bf t) n)) ?_ ?_
    · have e : mt_ma (fun t => k t == 2 && false) n = 0 := by
        apply Nat.eq_of_testBit_eq
        intro i
        rw [mt_ma_bit]; simp
      show mt_cl _ (mt_ma (fun t => k t == 2 && false) n)
      rw [e]; exact mt_cl_0
    · intro f p q hf hp hq
      have e : mt_ma (fun t => k t == 2 && (f t || mt_sf a b p q t)) n = mt_ma (fun t => k t == 2 && f t) n ||| mt_ma (fun t => k t == 2 && mt_sf a b p q t) n := by
        rw [mt_ma_or]
        apply mt_ma_congr
        intro t _
        cases k t == 2 <;> simp
      show mt_cl _ (mt_ma (fun t => k t == 2 && (f t || mt_sf a b p q t)) n)
      rw [e]
      exact mt_cl_s hf ⟨p, q, hp, hq, rfl⟩
/-- the profile of the function that breaks these arrows: what profileFrom gets, and what comes -/
theorem mt_fun_bit {k : Nat → Nat} {n : Nat} (bf : Nat → Bool) (t : Nat) (ht : t < n) : (mt_dif (mt_ar k n) (mt_ma (fun t => k t == 2 && bf t) n)).testBit t = mt_rf k bf t := by
  unfold mt_ar
  rw [mt_ma_dif, mt_ma_bit]
  simp only [ht, decide_true, Bool.true_and, mt_rf]
  cases k t == 2 <;> simp
theorem mt_fun_lt {k : Nat → Nat} {n z : Nat} : mt_dif (mt_ar k n) z < 2 ^ n := Nat.lt_of_le_of_lt (mt_dif_le _ _) (mt_ma_lt _ _)
/-- pairs -/
def mt_ps (k c : Nat → Nat) (n p : Nat) : Nat := mt_ma (fun t => k t == 1 && p.testBit (c t)) n
theorem mt_pair_bit {k a b : Nat → Nat} {n x y : Nat} (t : Nat) (ht : t < n) : (mt_ps k a n x &&& mt_ps k b n y).testBit t = mt_rp k a b x y t := by
  unfold mt_ps
  rw [mt_ma_and, mt_ma_bit]
  simp only [ht, decide_true, Bool.true_and, mt_rp]
  cases k t == 1 <;> simp
theorem mt_pair_lt {k a b : Nat → Nat} {n x y : Nat} : mt_ps k a n x &&& mt_ps k b n y < 2 ^ n := Nat.lt_of_le_of_lt Nat.and_le_left (mt_ma_lt _ _)
/-- walking over a set and adding each member with a step in it, upwards -/
theorem mt_walk {B0 B : Nat → Prop} {s p : Nat} (hB : ∀ x, B x ↔ (B0 x ∨ ∃ b, B0 b ∧ b < p ∧ x = b ||| s)) (hp : B p) {B' : Nat → Prop} (hB' : ∀ x, B' x ↔ (B x ∨ x = p ||| s)) : ∀ x, B' x ↔ (B0 x ∨ ∃ b, B0 b ∧ b < p + 1 ∧ x = b ||| s) := by
  intro x
  rw [hB', hB]
  constructor
  · rintro ((h | ⟨b, h1, h2, h3⟩) | h)
    · exact Or.inl h
    · exact Or.inr ⟨b, h1, by omega, h3⟩
    · rcases (hB p).mp hp with h1 | ⟨b, h1, h2, h3⟩
      · exact Or.inr ⟨p, h1, by omega, h⟩
      · refine Or.inr ⟨b, h1, by omega, ?_⟩
        rw [h, h3, Nat.or_assoc, Nat.or_self]
  · rintro (h | ⟨b, h1, h2, h3⟩)
    · exact Or.inl (Or.inl h)
    · by_cases e : b = p
      · subst e; exact Or.inr h3
      · exact Or.inl (Or.inr ⟨b, h1, by omega, h3⟩)
/-- the walk goes on to the next member: nothing lies between -/
theorem mt_walk_n {B0 B : Nat → Prop} {s p p' e : Nat} (hB : ∀ x, B x ↔ (B0 x ∨ ∃ b, B0 b ∧ b < p ∧ x = b ||| s)) (hn : mt_nx B e p p') : ∀ x, B x ↔ (B0 x ∨ ∃ b, B0 b ∧ b < p' ∧ x = b ||| s) := by
  intro x
  rw [hB]
  constructor
  · rintro (h | ⟨b, h1, h2, h3⟩)
    · exact Or.inl h
    · have := hn.1
      exact Or.inr ⟨b, h1, by omega, h3⟩
  · rintro (h | ⟨b, h1, h2, h3⟩)
    · exact Or.inl h
    · by_cases c : b < p
      · exact Or.inr ⟨b, h1, c, h3⟩
      · exact absurd ((hB b).mpr (Or.inl h1)) (hn.2.2.1 b (by omega) h2)
