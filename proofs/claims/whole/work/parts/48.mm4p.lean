def mt_co (X0 X : Nat → Int64) (k a b : Nat → Nat) (nn : Nat) (Rw : Nat → Prop) (zt : Prop) : Prop :=
  (∀ c i, i < 8192 → c ≠ 0 → (c < 3 ∨ 7 ≤ c) → mt_ms X c i = mt_ms X0 c i) ∧ (∀ i, i < 8192 → (mt_ms X 0 i = true ↔ Rw i)) ∧ (∀ r, Rw r → r < 8192) ∧
  (∀ i, i < 8192 → (mt_ms X 3 i = true ↔ ∃ r, Rw r ∧ i = mt_cz k 1 (fun t => Nat.testBit r (a t)) nn)) ∧ (∀ i, i < 8192 → (mt_ms X 4 i = true ↔ ∃ r, Rw r ∧ i = mt_cz k 1 (fun t => Nat.testBit r (b t)) nn)) ∧
  (∀ i, i < 8192 → (mt_ms X 5 i = true ↔ ∃ r, Rw r ∧ i = mt_cz k 2 (fun t => Nat.testBit r (a t)) nn)) ∧ (∀ i, i < 8192 → (mt_ms X 6 i = true ↔ ((zt ∧ i = 0) ∨ ∃ r, Rw r ∧ i = mt_cz k 2 (fun t => Nat.testBit r (b t)) nn)))
theorem mt_co_c {X0 X : Nat → Int64} {k a b : Nat → Nat} {nn : Nat} {R R' : Nat → Prop} {zt : Prop} (h : mt_co X0 X k a b nn R zt) (he : ∀ z, R z ↔ R' z) : mt_co X0 X k a b nn R' zt := by
  have e : R = R' := funext fun z => propext (he z)
  rw [← e]
  exact h
theorem mt_co_same {X0 X Y : Nat → Int64} {k a b : Nat → Nat} {nn : Nat} {R : Nat → Prop} {zt : Prop} (h : mt_co X0 X k a b nn R zt) (hs : ∀ c i, i < 8192 → mt_ms Y c i = mt_ms X c i) : mt_co X0 Y k a b nn R zt := by
  obtain ⟨h1, h2, h3, h4, h5, h6, h7⟩ := h
  exact ⟨fun c i hi q1 q2 => (hs c i hi).trans (h1 c i hi q1 q2), fun i hi => by rw [hs 0 i hi]; exact h2 i hi, h3, fun i hi => by rw [hs 3 i hi]; exact h4 i hi, fun i hi => by rw [hs 4 i hi]; exact h5 i hi, fun i hi => by rw [hs 5 i hi]; exact h6 i hi, fun i hi => by rw [hs 6 i hi]; exact h7 i hi⟩
theorem mt_pt_same {X Y : Nat → Int64} {c i : Nat} (h : mt_pt X Y c i) (h0 : mt_ms X c i = true) (c' i' : Nat) (hi : i' < 8192) : mt_ms Y c' i' = mt_ms X c' i' := by
  rw [h c' i' hi]
  by_cases e : c' = c ∧ i' = i
  · rw [e.1, e.2, h0]; rfl
  · rw [decide_eq_false e, Bool.or_false]
theorem mt_co_old {X0 X Y : Nat → Int64} {k a b : Nat → Nat} {nn rw : Nat} {R : Nat → Prop} (h : mt_co X0 X k a b nn R False) (hl : rw < 8192) (h0 : mt_ms X 0 rw = true) (hp : mt_pt X Y 0 rw) : mt_co X0 Y k a b nn (fun z => R z ∨ z = rw) False := mt_co_c (mt_co_same h (mt_pt_same hp h0)) (fun z => ⟨Or.inl, fun q => q.elim id (fun q => by subst q; exact (h.2.1 z hl).mp h0)⟩)
theorem mt_pt_ne {X Y : Nat → Int64} {c i c' i' : Nat} (h : mt_pt X Y c i) (hi : i' < 8192) (hc : c' ≠ c) : mt_ms Y c' i' = mt_ms X c' i' := by
  rw [h c' i' hi, decide_eq_false (fun q => hc q.1), Bool.or_false]
theorem mt_pt_eq {X Y : Nat → Int64} {c i i' : Nat} (h : mt_pt X Y c i) (hi : i' < 8192) : mt_ms Y c i' = true ↔ (mt_ms X c i' = true ∨ i' = i) := by
  rw [h c i' hi, Bool.or_eq_true, decide_eq_true_iff]
  exact ⟨fun q => q.elim Or.inl (fun q => Or.inr q.2), fun q => q.elim Or.inl (fun q => Or.inr ⟨rfl, q⟩)⟩
theorem mt_ex_or {R : Nat → Prop} {F : Nat → Nat} {rw i : Nat} : (∃ r, (R r ∨ r = rw) ∧ i = F r) ↔ ((∃ r, R r ∧ i = F r) ∨ i = F rw) := by
  constructor
  · rintro ⟨r, (h | h), e⟩
    · exact Or.inl ⟨r, h, e⟩
    · subst h; exact Or.inr e
  · rintro (⟨r, h, e⟩ | e)
    · exact ⟨r, Or.inl h, e⟩
    · exact ⟨rw, Or.inr rfl, e⟩
theorem mt_co_new {X0 X Y1 Y2 Y3 Y4 Y5 : Nat → Int64} {k a b : Nat → Nat} {nn rw : Nat} {R : Nat → Prop} (h : mt_co X0 X k a b nn R False) (hl : rw < 8192) (p1 : mt_pt X Y1 0 rw) (p2 : mt_pt Y1 Y2 3 (mt_cz k 1 (fun t => Nat.testBit rw (a t)) nn)) (p3 : mt_pt Y2 Y3 4 (mt_cz k 1 (fun t => Nat.testBit rw (b t)) nn)) (p4 : mt_pt Y3 Y4 5 (mt_cz k 2 (fun t => Nat.testBit rw (a t)) nn)) (p5 : mt_pt Y4 Y5 6 (mt_cz k 2 (fun t => Nat.testBit rw (b t)) nn)) : mt_co X0 Y5 k a b nn (fun z => R z ∨ z = rw) False := by
  obtain ⟨h1, h2, h3, h4, h5, h6, h7⟩ := h
  refine ⟨fun c i hi q1 q2 => ?_, fun i hi => ?_, fun r q => q.elim (h3 r) (fun q => by omega), fun i hi => ?_, fun i hi => ?_, fun i hi => ?_, fun i hi => ?_⟩
  · rw [mt_pt_ne p5 hi (by omega), mt_pt_ne p4 hi (by omega), mt_pt_ne p3 hi (by omega), mt_pt_ne p2 hi (by omega), mt_pt_ne p1 hi (by omega)]
    exact h1 c i hi q1 q2
  · rw [mt_pt_ne p5 hi (by decide), mt_pt_ne p4 hi (by decide), mt_pt_ne p3 hi (by decide), mt_pt_ne p2 hi (by decide), mt_pt_eq p1 hi, h2 i hi]
  · rw [mt_pt_ne p5 hi (by decide), mt_pt_ne p4 hi (by decide), mt_pt_ne p3 hi (by decide), mt_pt_eq p2 hi, mt_pt_ne p1 hi (by decide), h4 i hi]
    exact (mt_ex_or (F := fun r => mt_cz k 1 (fun t => Nat.testBit r (a t)) nn)).symm
  · rw [mt_pt_ne p5 hi (by decide), mt_pt_ne p4 hi (by decide), mt_pt_eq p3 hi, mt_pt_ne p2 hi (by decide), mt_pt_ne p1 hi (by decide), h5 i hi]
    exact (mt_ex_or (F := fun r => mt_cz k 1 (fun t => Nat.testBit r (b t)) nn)).symm
  · rw [mt_pt_ne p5 hi (by decide), mt_pt_eq p4 hi, mt_pt_ne p3 hi (by decide), mt_pt_ne p2 hi (by decide), mt_pt_ne p1 hi (by decide), h6 i hi]
    exact (mt_ex_or (F := fun r => mt_cz k 2 (fun t => Nat.testBit r (a t)) nn)).symm
  · rw [mt_pt_eq p5 hi, mt_pt_ne p4 hi (by decide), mt_pt_ne p3 hi (by decide), mt_pt_ne p2 hi (by decide), mt_pt_ne p1 hi (by decide), h7 i hi, or_assoc]
    exact or_congr_right (mt_ex_or (F := fun r => mt_cz k 2 (fun t => Nat.testBit r (b t)) nn)).symm
theorem mt_clr_ne {X Y : Nat → Int64} {c c' i : Nat} (h : mt_clr X Y c) (hi : i < 8192) (hc : c' ≠ c) : mt_ms Y c' i = mt_ms X c' i := by
  rw [h c' i hi]; simp [hc]
theorem mt_clr_eq {X Y : Nat → Int64} {c i : Nat} (h : mt_clr X Y c) (hi : i < 8192) : mt_ms Y c i = false := by
  rw [h c i hi]; simp
theorem mt_co_0 {X Y1 Y2 Y3 Y4 Y5 : Nat → Int64} {k a b : Nat → Nat} {nn : Nat} {F : Nat → Nat} (p1 : mt_clr X Y1 0) (p2 : mt_clr Y1 Y2 3) (p3 : mt_clr Y2 Y3 4) (p4 : mt_clr Y3 Y4 5) (p5 : mt_clr Y4 Y5 6) : mt_co X Y5 k a b nn (fun z => ∃ j, j < 0 ∧ z = F j) False := by
  have no : ∀ z, ¬ ∃ j, j < 0 ∧ z = F j := fun z ⟨j, h, _⟩ => absurd h (by omega)
  have nf : ∀ {G : Nat → Nat} {i : Nat}, ¬ ∃ r, (∃ j, j < 0 ∧ r = F j) ∧ i = G r := fun ⟨r, h, _⟩ => no r h
  refine ⟨fun c i hi q1 q2 => ?_, fun i hi => ?_, fun r q => absurd q (no r), fun i hi => ?_, fun i hi => ?_, fun i hi => ?_, fun i hi => ?_⟩
  · rw [mt_clr_ne p5 hi (by omega), mt_clr_ne p4 hi (by omega), mt_clr_ne p3 hi (by omega), mt_clr_ne p2 hi (by omega), mt_clr_ne p1 hi (by omega)]
  · rw [mt_clr_ne p5 hi (by decide), mt_clr_ne p4 hi (by decide), mt_clr_ne p3 hi (by decide), mt_clr_ne p2 hi (by decide), mt_clr_eq p1 hi]
    exact ⟨fun q => (by cases q), fun q => absurd q (no i)⟩
  · rw [mt_clr_ne p5 hi (by decide), mt_clr_ne p4 hi (by decide), mt_clr_ne p3 hi (by decide), mt_clr_eq p2 hi]
    exact ⟨fun q => (by cases q), fun q => absurd q nf⟩
  · rw [mt_clr_ne p5 hi (by decide), mt_clr_ne p4 hi (by decide), mt_clr_eq p3 hi]
    exact ⟨fun q => (by cases q), fun q => absurd q nf⟩
  · rw [mt_clr_ne p5 hi (by decide), mt_clr_eq p4 hi]
    exact ⟨fun q => (by cases q), fun q => absurd q nf⟩
  · rw [mt_clr_eq p5 hi]
    exact ⟨fun q => (by cases q), fun q => q.elim (fun q => q.1.elim) (fun q => absurd q nf)⟩
theorem mt_lt_s {P : Nat → Nat → Prop} {q z : Nat} : ((∃ j, j < q ∧ P j z) ∨ P q z) ↔ ∃ j, j < q + 1 ∧ P j z := by
  constructor
  · rintro (⟨j, h1, h2⟩ | h)
    · exact ⟨j, by omega, h2⟩
    · exact ⟨q, by omega, h⟩
  · rintro ⟨j, h1, h2⟩
    by_cases e : j = q
    · subst e; exact Or.inr h2
    · exact Or.inl ⟨j, by omega, h2⟩
theorem mt_or_0 {A : Prop} {Q : Nat → Prop} : A ↔ (A ∨ ∃ x, x < 0 ∧ Q x) := ⟨Or.inl, fun h => h.elim id (fun ⟨_, h, _⟩ => absurd h (by omega))⟩
theorem mt_lt_t {A : Prop} {P : Nat → Nat → Prop} {M : Nat → Prop} {q z : Nat} (hq : M q) : ((A ∨ ∃ x, x < q ∧ M x ∧ P x z) ∨ P q z) ↔ (A ∨ ∃ x, x < q + 1 ∧ M x ∧ P x z) := by
  constructor
  · rintro ((h | ⟨x, h1, h2⟩) | h)
    · exact Or.inl h
    · exact Or.inr ⟨x, by omega, h2⟩
    · exact Or.inr ⟨q, by omega, hq, h⟩
  · rintro (h | ⟨x, h1, h2, h3⟩)
    · exact Or.inl (Or.inl h)
    · by_cases e : x = q
      · subst e; exact Or.inr h3
      · exact Or.inl (Or.inr ⟨x, by omega, h2, h3⟩)
theorem mt_lt_f {A : Prop} {P : Nat → Nat → Prop} {M : Nat → Prop} {q z : Nat} (hq : ¬ M q) : (A ∨ ∃ x, x < q ∧ M x ∧ P x z) ↔ (A ∨ ∃ x, x < q + 1 ∧ M x ∧ P x z) := by
  constructor
  · rintro (h | ⟨x, h1, h2⟩)
    · exact Or.inl h
    · exact Or.inr ⟨x, by omega, h2⟩
  · rintro (h | ⟨x, h1, h2, h3⟩)
    · exact Or.inl h
    · by_cases e : x = q
      · subst e; exact absurd h2 hq
      · exact Or.inr ⟨x, by omega, h2, h3⟩
/-- the reference's rows, out of its pairs and broken sets -/
def mt_rows (X : Nat → Int64) (k a b : Nat → Nat) (nn pr ar z : Nat) : Prop := ((∃ j, j < 6 ∧ z = mt_pf k a b (mt_rc k a j) nn) ∨ ∃ x, x < 2 ^ pr ∧ mt_ms X 1 x = true ∧ z = mt_pf k a b (fun t => k t == 1 && Nat.testBit x (mt_pl k t)) nn) ∨ ∃ x, x < 2 ^ ar ∧ mt_ms X 2 x = true ∧ z = mt_pf k a b (fun t => k t == 2 && Nat.testBit (2 ^ ar - 1 - x) (mt_pl k t)) nn
theorem mt_co_end {X0 X Y : Nat → Int64} {k a b : Nat → Nat} {nn : Nat} {R : Nat → Prop} (h : mt_co X0 X k a b nn R False) (hp : mt_pt X Y 6 0) : mt_co X0 Y k a b nn R True := by
  obtain ⟨h1, h2, h3, h4, h5, h6, h7⟩ := h
  refine ⟨fun c i hi q1 q2 => ?_, fun i hi => ?_, h3, fun i hi => ?_, fun i hi => ?_, fun i hi => ?_, fun i hi => ?_⟩
  · rw [mt_pt_ne hp hi (by omega)]; exact h1 c i hi q1 q2
  · rw [mt_pt_ne hp hi (by decide)]; exact h2 i hi
  · rw [mt_pt_ne hp hi (by decide)]; exact h4 i hi
  · rw [mt_pt_ne hp hi (by decide)]; exact h5 i hi
  · rw [mt_pt_ne hp hi (by decide)]; exact h6 i hi
  · rw [mt_pt_eq hp hi, h7 i hi]
    constructor
    · rintro ((q | q) | q)
      · exact q.1.elim
      · exact Or.inr q
      · exact Or.inl ⟨trivial, q⟩
    · rintro (q | q)
      · exact Or.inr q.2
      · exact Or.inl (Or.inr q)
def mt_mk (c0 : Nat) (X X1 : Nat → Int64) (Dn : Nat → Prop) (m : Bool) : Prop := (∀ c i, i < 8192 → c ≠ c0 → mt_ms X1 c i = mt_ms X c i) ∧ (∀ x, x < 8192 → (mt_ms X1 c0 x = true ↔ (mt_ms X c0 x = true ∨ Dn x))) ∧ (m = true ↔ ∃ x, x < 8192 ∧ Dn x ∧ ¬ mt_ms X c0 x = true)
theorem mt_mk_0 {c0 : Nat} {X : Nat → Int64} {Dn : Nat → Prop} (h : ∀ x, ¬ Dn x) : mt_mk c0 X X Dn false := ⟨fun _ _ _ _ => rfl, fun x _ => ⟨Or.inl, fun q => q.elim id (fun q => absurd q (h x))⟩, ⟨fun q => (by cases q), fun ⟨x, _, q, _⟩ => absurd q (h x)⟩⟩
theorem mt_mk_c {c0 : Nat} {X X1 : Nat → Int64} {Dn Dm : Nat → Prop} {m : Bool} (h : mt_mk c0 X X1 Dn m) (he : ∀ x, Dn x ↔ Dm x) : mt_mk c0 X X1 Dm m := by
  have e : Dn = Dm := funext fun z => propext (he z)
  rw [← e]
  exact h
theorem mt_mk_put {c0 y : Nat} {X X1 X2 : Nat → Int64} {Dn : Nat → Prop} {m m' : Bool} (h : mt_mk c0 X X1 Dn m) (hp : mt_pt X1 X2 c0 y) (hy : y < 8192) (hm : (!mt_ms X1 c0 y || m) = m') : mt_mk c0 X X2 (fun x => Dn x ∨ x = y) m' := by
  obtain ⟨h1, h2, h3⟩ := h
  refine ⟨fun c i hi hc => (mt_pt_ne hp hi hc).trans (h1 c i hi hc), fun x hx => ?_, ?_⟩
  · rw [mt_pt_eq hp hx, h2 x hx, or_assoc]
  · rw [← hm, Bool.or_eq_true, h3]
    constructor
    · rintro (q | ⟨x, q1, q2, q3⟩)
      · refine ⟨y, hy, Or.inr rfl, fun q4 => ?_⟩
        rw [(h2 y hy).mpr (Or.inl q4)] at q
        cases q
      · exact ⟨x, q1, Or.inl q2, q3⟩
    · rintro ⟨x, q1, (q2 | q2), q3⟩
      · exact Or.inr ⟨x, q1, q2, q3⟩
      · subst q2
        by_cases e : Dn x
        · exact Or.inr ⟨x, q1, e, q3⟩
        · refine Or.inl ?_
          cases e2 : mt_ms X1 c0 x
          · rfl
          · exact absurd ((h2 x q1).mp e2) (fun q => q.elim q3 e)
section OI
variable {P : Nat → Nat → Prop} {A B : Nat → Prop} {q2 q3 N x : Nat}
theorem mt_out {f : Nat → Nat → Nat} (hq : N ≤ q3) : ((∃ y z, y < q2 ∧ z < N ∧ A y ∧ B z ∧ x = f y z) ∨ ∃ z, z < q3 ∧ A q2 ∧ B z ∧ x = f q2 z) ↔ ((∃ y z, y < q2 + 1 ∧ z < N ∧ A y ∧ B z ∧ x = f y z) ∨ ∃ z, (N ≤ z ∧ z < q3) ∧ A q2 ∧ B z ∧ x = f q2 z) := by
  constructor
  · rintro (⟨y, z, h1, h2⟩ | ⟨z, h1, h2⟩)
    · exact Or.inl ⟨y, z, by omega, h2⟩
    · by_cases c : z < N
      · exact Or.inl ⟨q2, z, by omega, c, h2⟩
      · exact Or.inr ⟨z, ⟨by omega, h1⟩, h2⟩
  · rintro (⟨y, z, h1, h2, h3⟩ | ⟨z, h1, h2⟩)
    · by_cases e : y = q2
      · subst e; exact Or.inr ⟨z, by omega, h3⟩
      · exact Or.inl ⟨y, z, by omega, h2, h3⟩
    · exact Or.inr ⟨z, h1.2, h2⟩
theorem mt_out' {f : Nat → Nat → Nat} (hq : q3 = N) : ((∃ y z, y < q2 ∧ z < N ∧ A y ∧ B z ∧ x = f y z) ∨ ∃ z, z < q3 ∧ A q2 ∧ B z ∧ x = f q2 z) ↔ (∃ y z, y < q2 + 1 ∧ z < N ∧ A y ∧ B z ∧ x = f y z) := by
  subst hq
  constructor
  · rintro (⟨y, z, h1, h2⟩ | ⟨z, h1, h2⟩)
    · exact ⟨y, z, by omega, h2⟩
    · exact ⟨q2, z, by omega, h1, h2⟩
  · rintro ⟨y, z, h1, h2, h3⟩
    by_cases e : y = q2
    · subst e; exact Or.inr ⟨z, h2, h3⟩
    · exact Or.inl ⟨y, z, by omega, h2, h3⟩
theorem mt_out_n {f : Nat → Nat → Nat} (hq : ¬ A q2) : ((∃ y z, y < q2 ∧ z < N ∧ A y ∧ B z ∧ x = f y z) ∨ ∃ z, z < q3 ∧ A q2 ∧ B z ∧ x = f q2 z) ↔ (∃ y z, y < q2 + 1 ∧ z < N ∧ A y ∧ B z ∧ x = f y z) := by
  constructor
  · rintro (⟨y, z, h1, h2⟩ | ⟨z, h1, h2, h3⟩)
    · exact ⟨y, z, by omega, h2⟩
    · exact absurd h2 hq
  · rintro ⟨y, z, h1, h2, h3, h4⟩
    by_cases e : y = q2
    · subst e; exact absurd h3 hq
    · exact Or.inl ⟨y, z, by omega, h2, h3, h4⟩
theorem mt_inn {f : Nat → Nat → Nat} {C : Prop} (hA : A q2) (hB : B q3) : ((C ∨ ∃ z, z < q3 ∧ A q2 ∧ B z ∧ x = f q2 z) ∨ x = f q2 q3) ↔ (C ∨ ∃ z, z < q3 + 1 ∧ A q2 ∧ B z ∧ x = f q2 z) := by
  constructor
  · rintro ((h | ⟨z, h1, h2⟩) | h)
    · exact Or.inl h
    · exact Or.inr ⟨z, by omega, h2⟩
    · exact Or.inr ⟨q3, by omega, hA, hB, h⟩
  · rintro (h | ⟨z, h1, h2, h3, h4⟩)
    · exact Or.inl (Or.inl h)
    · by_cases e : z = q3
      · subst e; exact Or.inr h4
      · exact Or.inl (Or.inr ⟨z, by omega, h2, h3, h4⟩)
theorem mt_inn_n {f : Nat → Nat → Nat} {C : Prop} (hB : ¬ B q3) : (C ∨ ∃ z, z < q3 ∧ A q2 ∧ B z ∧ x = f q2 z) ↔ (C ∨ ∃ z, z < q3 + 1 ∧ A q2 ∧ B z ∧ x = f q2 z) := by
  constructor
  · rintro (h | ⟨z, h1, h2⟩)
    · exact Or.inl h
    · exact Or.inr ⟨z, by omega, h2⟩
  · rintro (h | ⟨z, h1, h2, h3, h4⟩)
    · exact Or.inl h
    · by_cases e : z = q3
      · subst e; exact absurd h3 hB
      · exact Or.inr ⟨z, by omega, h2, h3, h4⟩
end OI
