def mt_dn (q : Nat) : Int32 := nI q - 1
theorem mt_dn_of {q : Nat} (h : 1 ≤ q) : mt_dn q = nI (q - 1) := by
  unfold mt_dn
  exact pk_sub (a := q) (b := 1) h
theorem mt_dn_s {q : Nat} (h : 1 ≤ q) : mt_dn q + Int32.ofInt (-1) = mt_dn (q - 1) := by
  rw [mt_dn_of h, litm1]
  obtain ⟨r, rfl⟩ : ∃ r, q = r + 1 := ⟨q - 1, by omega⟩
  rw [Nat.add_sub_cancel]
  unfold mt_dn
  exact Int32.add_neg_eq_sub
theorem mt_dn_0 {q : Nat} (h : mt_dn q < 0) (hq : q < 2 ^ 31) : q = 0 := by
  refine Classical.byContradiction fun e => ?_
  rw [mt_dn_of (by omega)] at h
  exact absurd h (nI_pos (by omega))
theorem mt_dn_1 {q : Nat} (h : ¬ mt_dn q < 0) : 1 ≤ q := by
  refine Classical.byContradiction fun e => ?_
  have : q = 0 := by omega
  subst this
  exact absurd (by decide) h
def mt_cs (ar : Nat) (X : Nat → Int64) : Prop := mt_ms X 2 0 = true ∧ (∀ x, x < 8192 → mt_ms X 2 x = true → x < 2 ^ ar) ∧ ∀ x y, x < 8192 → y < 8192 → mt_ms X 2 x = true → mt_ms X 2 y = true → mt_ms X 2 (x ||| y) = true
theorem mt_st_0 {ar sx : Nat} {X : Nat → Int64} (h : ∀ x, x < 8192 → mt_ms X 2 x = true → x < 2 ^ ar) : ∀ x, x < 8192 → (mt_ms X 2 x = true ↔ (mt_ms X 2 x = true ∨ ∃ f, 2 ^ ar ≤ f ∧ f < 8192 ∧ mt_ms X 2 f = true ∧ x = f ||| sx)) := fun x _ => ⟨Or.inl, fun q => q.elim id (fun ⟨f, h1, h2, h3, _⟩ => absurd (h f h2 h3) (by omega))⟩
theorem mt_st_has {q sx : Nat} {X X1 : Nat → Int64} (hq : 1 ≤ q) (hq2 : q ≤ 8192) (hB : ∀ x, x < 8192 → (mt_ms X1 2 x = true ↔ (mt_ms X 2 x = true ∨ ∃ f, q ≤ f ∧ f < 8192 ∧ mt_ms X 2 f = true ∧ x = f ||| sx))) : mt_ms X1 2 (q - 1) = true ↔ mt_ms X 2 (q - 1) = true := by
  rw [hB (q - 1) (by omega)]
  refine ⟨fun h => h.elim id (fun ⟨f, h1, _, _, h4⟩ => ?_), Or.inl⟩
  have := Nat.left_le_or (n := f) (m := sx)
  omega
theorem mt_st_t {q sx : Nat} {X X1 X2 : Nat → Int64} (hq : 1 ≤ q) (hq2 : q ≤ 8192) (hB : ∀ x, x < 8192 → (mt_ms X1 2 x = true ↔ (mt_ms X 2 x = true ∨ ∃ f, q ≤ f ∧ f < 8192 ∧ mt_ms X 2 f = true ∧ x = f ||| sx))) (hp : mt_pt X1 X2 2 ((q - 1) ||| sx)) (hc : mt_ms X1 2 (q - 1) = true) : ∀ x, x < 8192 → (mt_ms X2 2 x = true ↔ (mt_ms X 2 x = true ∨ ∃ f, q - 1 ≤ f ∧ f < 8192 ∧ mt_ms X 2 f = true ∧ x = f ||| sx)) := by
  intro x hx
  have h0 := (mt_st_has hq (by omega) hB).mp hc
  rw [mt_pt_eq hp hx, hB x hx]
  constructor
  · rintro ((h | ⟨f, h1, h2⟩) | h)
    · exact Or.inl h
    · exact Or.inr ⟨f, by omega, h2⟩
    · exact Or.inr ⟨q - 1, by omega, by omega, h0, h⟩
  · rintro (h | ⟨f, h1, h2, h3, h4⟩)
    · exact Or.inl (Or.inl h)
    · by_cases e : f = q - 1
      · subst e; exact Or.inr h4
      · exact Or.inl (Or.inr ⟨f, by omega, h2, h3, h4⟩)
theorem mt_st_f {q sx : Nat} {X X1 : Nat → Int64} (hq : 1 ≤ q) (hq2 : q ≤ 8192) (hB : ∀ x, x < 8192 → (mt_ms X1 2 x = true ↔ (mt_ms X 2 x = true ∨ ∃ f, q ≤ f ∧ f < 8192 ∧ mt_ms X 2 f = true ∧ x = f ||| sx))) (hc : mt_ms X1 2 (q - 1) = false) : ∀ x, x < 8192 → (mt_ms X1 2 x = true ↔ (mt_ms X 2 x = true ∨ ∃ f, q - 1 ≤ f ∧ f < 8192 ∧ mt_ms X 2 f = true ∧ x = f ||| sx)) := by
  intro x hx
  rw [hB x hx]
  constructor
  · rintro (h | ⟨f, h1, h2⟩)
    · exact Or.inl h
    · exact Or.inr ⟨f, by omega, h2⟩
  · rintro (h | ⟨f, h1, h2, h3, h4⟩)
    · exact Or.inl h
    · by_cases e : f = q - 1
      · subst e
        have := (mt_st_has hq (by omega) hB).mpr h3
        rw [hc] at this
        cases this
      · exact Or.inr ⟨f, by omega, h2, h3, h4⟩
def mt_fk (ar : Nat) (X X1 : Nat → Int64) (St : Nat → Prop) (m : Bool) : Prop := (∀ c i, i < 8192 → c ≠ 2 → mt_ms X1 c i = mt_ms X c i) ∧ mt_cs ar X1 ∧ (∀ x, x < 8192 → mt_ms X 2 x = true → mt_ms X1 2 x = true) ∧ (∀ x, St x → x < 8192 ∧ mt_ms X1 2 x = true) ∧
  (∀ G : Nat → Prop, (∀ x, x < 8192 → mt_ms X 2 x = true → G x) → (∀ x y, G x → G y → G (x ||| y)) → (∀ x, St x → G x) → ∀ x, x < 8192 → mt_ms X1 2 x = true → G x) ∧ (m = true → ∃ x, x < 8192 ∧ mt_ms X1 2 x = true ∧ ¬ mt_ms X 2 x = true) ∧ (m = false → ∀ x, x < 8192 → mt_ms X1 2 x = true → mt_ms X 2 x = true)
theorem mt_fk_0 {ar : Nat} {X : Nat → Int64} {St : Nat → Prop} (hcs : mt_cs ar X) (h : ∀ x, ¬ St x) : mt_fk ar X X St false := ⟨fun _ _ _ _ => rfl, hcs, fun _ _ q => q, fun x q => absurd q (h x), fun G h1 _ _ x hx q => h1 x hx q, fun q => (by cases q), fun _ _ _ q => q⟩
theorem mt_fk_c {ar : Nat} {X X1 : Nat → Int64} {S S' : Nat → Prop} {m : Bool} (h : mt_fk ar X X1 S m) (he : ∀ x, S x ↔ S' x) : mt_fk ar X X1 S' m := by
  have e : S = S' := funext fun z => propext (he z)
  rw [← e]
  exact h
theorem mt_fk_s {ar y : Nat} {X X1 X2 : Nat → Int64} {St : Nat → Prop} {m m' z : Bool} (h : mt_fk ar X X1 St m) (ha : 2 ^ ar ≤ 8192) (hy : y < 2 ^ ar) (hz : (z = false → mt_ms X1 2 y = true ∧ X2 = X1) ∧ (z = true → mt_ms X1 2 y = false ∧ (∀ c i, i < 8192 → c ≠ 2 → mt_ms X2 c i = mt_ms X1 c i) ∧ ∀ x, x < 8192 → (mt_ms X2 2 x = true ↔ (mt_ms X1 2 x = true ∨ ∃ f, f < 8192 ∧ mt_ms X1 2 f = true ∧ x = f ||| y)))) (hm : (z || m) = m') : mt_fk ar X X2 (fun x => St x ∨ x = y) m' := by
  obtain ⟨h1, ⟨c1, c2, c3⟩, h3, h4, h5, h6, h7⟩ := h
  have hy8 : y < 8192 := by omega
  cases z with
  | false =>
    obtain ⟨z1, z2⟩ := hz.1 rfl
    subst z2
    have hm : m = m' := by simpa using hm
    subst hm
    exact ⟨h1, ⟨c1, c2, c3⟩, h3, fun x q => q.elim (h4 x) (fun q => by rw [q]; exact ⟨hy8, z1⟩), fun G g1 g2 g3 x hx q => h5 G g1 g2 (fun x q => g3 x (Or.inl q)) x hx q, h6, h7⟩
  | true =>
    obtain ⟨z1, z2, z3⟩ := hz.2 rfl
    have hm : true = m' := by simpa using hm
    subst hm
    have hlt : ∀ x, x < 8192 → mt_ms X2 2 x = true → x < 2 ^ ar := by
      intro x hx q
      rcases (z3 x hx).mp q with q | ⟨f, q1, q2, rfl⟩
      · exact c2 x hx q
      · exact Nat.or_lt_two_pow (c2 f q1 q2) hy
    have hy2 : mt_ms X2 2 y = true := (z3 y hy8).mpr (Or.inr ⟨0, by decide, c1, by rw [Nat.zero_or]⟩)
    refine ⟨fun c i hi hc => (z2 c i hi hc).trans (h1 c i hi hc), ⟨(z3 0 (by decide)).mpr (Or.inl c1), hlt, fun u w hu hw q1 q2 => ?_⟩, fun x hx q => (z3 x hx).mpr (Or.inl (h3 x hx q)), fun x q => ?_, fun G g1 g2 g3 x hx q => ?_, fun _ => ⟨y, hy8, hy2, fun q => ?_⟩, fun q => (by cases q)⟩
    · have huw : u ||| w < 8192 := Nat.lt_of_lt_of_le (Nat.or_lt_two_pow (hlt u hu q1) (hlt w hw q2)) ha
      refine (z3 _ huw).mpr ?_
      rcases (z3 u hu).mp q1 with q1 | ⟨f, f1, f2, rfl⟩ <;> rcases (z3 w hw).mp q2 with q2 | ⟨g, g1, g2, rfl⟩
      · exact Or.inl (c3 u w hu hw q1 q2)
      · exact Or.inr ⟨u ||| g, Nat.lt_of_lt_of_le (Nat.or_lt_two_pow (c2 u hu q1) (c2 g g1 g2)) ha, c3 u g hu g1 q1 g2, by rw [Nat.or_assoc]⟩
      · exact Or.inr ⟨f ||| w, Nat.lt_of_lt_of_le (Nat.or_lt_two_pow (c2 f f1 f2) (c2 w hw q2)) ha, c3 f w f1 hw f2 q2, by rw [Nat.or_assoc, Nat.or_comm y w, ← Nat.or_assoc]⟩
      · exact Or.inr ⟨f ||| g, Nat.lt_of_lt_of_le (Nat.or_lt_two_pow (c2 f f1 f2) (c2 g g1 g2)) ha, c3 f g f1 g1 f2 g2, by rw [Nat.or_assoc, Nat.or_assoc, ← Nat.or_assoc y g y, Nat.or_comm y g, Nat.or_assoc g y y, Nat.or_self]⟩
    · rcases q with q | q
      · exact ⟨(h4 x q).1, (z3 x (h4 x q).1).mpr (Or.inl (h4 x q).2)⟩
      · rw [q]; exact ⟨hy8, hy2⟩
    · rcases (z3 x hx).mp q with q | ⟨f, q1, q2, rfl⟩
      · exact h5 G g1 g2 (fun x q => g3 x (Or.inl q)) x hx q
      · exact g2 f y (h5 G g1 g2 (fun x q => g3 x (Or.inl q)) f q1 q2) (g3 y (Or.inr rfl))
    · rw [h3 y hy8 q] at z1
      cases z1
