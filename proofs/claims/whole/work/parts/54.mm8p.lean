theorem mt_MT_9 {J : Nat → Nat → Int32} {P : Nat → Int32} {n : Nat} {k a b : Nat → Nat} (h : mt_MT J n k a b) : mt_MT (va_up J 9 P) n k a b := h
theorem mt_num_le {f g : Nat → Bool} {n : Nat} (h : ∀ x, x < n → f x = true → g x = true) : mt_num f n ≤ mt_num g n := by
  induction n with
  | zero => exact Nat.le_refl _
  | succ n ih =>
    have i := ih (fun x hx => h x (by omega))
    have := h n (by omega)
    simp only [mt_num]
    cases e : f n
    · cases e2 : g n <;> simp <;> omega
    · rw [this e]; simp; omega
theorem mt_num_lt {f g : Nat → Bool} {n x : Nat} (h : ∀ x, x < n → f x = true → g x = true) (hx : x < n) (h1 : f x = false) (h2 : g x = true) : mt_num f n < mt_num g n := by
  induction n with
  | zero => omega
  | succ n ih =>
    have hl := mt_num_le (f := f) (g := g) (n := n) (fun y hy => h y (by omega))
    have := h n (by omega)
    simp only [mt_num]
    by_cases e : x = n
    · subst e; rw [h1, h2]; simp; omega
    · have i := ih (fun y hy => h y (by omega)) (by omega)
      cases e1 : f n
      · cases e2 : g n <;> simp <;> omega
      · rw [this e1]; simp; omega
theorem mt_num_n {f : Nat → Bool} {n : Nat} : mt_num f n ≤ n := by
  induction n with
  | zero => exact Nat.le_refl _
  | succ n ih => simp only [mt_num]; split <;> omega
def mt_mu (X : Nat → Int64) : Nat := 16384 - mt_num (mt_ms X 1) 8192 - mt_num (mt_ms X 2) 8192
def mt_KN (P : Nat → Int32) (pr ar : Nat) (X : Nat → Int64) (k a b : Nat → Nat) (nn : Nat) : Prop := (pr = mt_ct k 1 nn ∧ ar = mt_ct k 2 nn ∧ ∀ t, t < nn → P t = nI (mt_pl k t)) ∧ ∀ z, z < 8192 → (mt_ms X 0 z = true ↔ mt_R k a b nn z)
def mt_WK (k a b : Nat → Nat) (nn ar : Nat) (X : Nat → Int64) : Prop :=
  (∀ x, x < 8192 → mt_ms X 1 x = true → ∃ p q, mt_R k a b nn p ∧ mt_R k a b nn q ∧ x = mt_cz k 1 (fun t => p.testBit (a t) && q.testBit (b t)) nn) ∧ mt_cs ar X ∧
  (∀ x, x < 8192 → mt_ms X 2 x = true → ∃ bf, mt_BF a b (mt_R k a b nn) bf ∧ x = mt_cz k 2 bf nn)
theorem mt_wk_0 {k a b : Nat → Nat} {nn ar : Nat} {X Y1 Y2 Y3 : Nat → Int64} (h1 : mt_clr X Y1 1) (h2 : mt_clr Y1 Y2 2) (h3 : mt_pt Y2 Y3 2 0) : mt_WK k a b nn ar Y3 := by
  have e1 : ∀ x, x < 8192 → ¬ mt_ms Y3 1 x = true := fun x hx h => by
    rw [mt_pt_ne h3 hx (by decide), mt_clr_ne h2 hx (by decide), mt_clr_eq h1 hx] at h
    cases h
  have e2 : ∀ x, x < 8192 → (mt_ms Y3 2 x = true ↔ x = 0) := fun x hx => by
    rw [mt_pt_eq h3 hx, mt_clr_eq h2 hx]
    exact ⟨fun h => h.elim (fun h => by cases h) id, Or.inr⟩
  refine ⟨fun x hx h => absurd h (e1 x hx), ⟨(e2 0 (by decide)).mpr rfl, fun x hx h => ?_, fun x y hx hy h g => ?_⟩, fun x hx h => ⟨_, mt_BF_nil, ?_⟩⟩
  · rw [(e2 x hx).mp h]; exact Nat.two_pow_pos ar
  · rw [(e2 x hx).mp h, (e2 y hy).mp g]; exact (e2 0 (by decide)).mpr rfl
  · rw [(e2 x hx).mp h]; exact mt_cz_0.symm
theorem mt_cs_c {ar : Nat} {X Y : Nat → Int64} (h : mt_cs ar X) (ha : 2 ^ ar ≤ 8192) (he : ∀ x, x < 8192 → mt_ms Y 2 x = mt_ms X 2 x) : mt_cs ar Y := by
  obtain ⟨h1, h2, h3⟩ := h
  refine ⟨by rw [he 0 (by decide)]; exact h1, fun x hx q => h2 x hx (by rw [← he x hx]; exact q), fun x y hx hy q r => ?_⟩
  rw [he x hx] at q
  rw [he y hy] at r
  rw [he _ (Nat.lt_of_lt_of_le (Nat.or_lt_two_pow (h2 x hx q) (h2 y hy r)) ha)]
  exact h3 x y hx hy q r
theorem mt_co_2 {X0 X : Nat → Int64} {k a b : Nat → Nat} {nn : Nat} {R : Nat → Prop} {zt : Prop} (h : mt_co X0 X k a b nn R zt) {Dn : Nat → Prop} {Y : Nat → Int64} {m : Bool} (hm : mt_mk 1 X Y Dn m) : ∀ x, x < 8192 → mt_ms Y 2 x = mt_ms X0 2 x := fun x hx => (hm.1 2 x hx (by decide)).trans (h.1 2 x hx (by decide) (Or.inl (by decide)))
theorem mt_wk_cs {k a b : Nat → Nat} {nn ar : Nat} {X1 X2 X3 : Nat → Int64} {R Dn : Nat → Prop} {zt : Prop} {m : Bool} (hW : mt_WK k a b nn ar X1) (hco : mt_co X1 X2 k a b nn R zt) (hm : mt_mk 1 X2 X3 Dn m) (ha : 2 ^ ar ≤ 8192 := by exact (mt_p13 (by omega)).2) : mt_cs ar X3 := mt_cs_c hW.2.1 ha (mt_co_2 hco hm)
theorem mt_rows_iff {X : Nat → Int64} {k a b : Nat → Nat} {nn : Nat} (z : Nat) : mt_rows X k a b nn (mt_ct k 1 nn) (mt_ct k 2 nn) z ↔ ((∃ c, c < 6 ∧ z = mt_pf k a b (mt_rc k a c) nn) ∨ (∃ x, (x < 2 ^ mt_ct k 1 nn ∧ mt_ms X 1 x = true) ∧ z = mt_pf k a b (fun t => k t == 1 && x.testBit (mt_ct k 1 t)) nn) ∨ ∃ x, (x < 2 ^ mt_ct k 2 nn ∧ mt_ms X 2 x = true) ∧ z = mt_pf k a b (fun t => k t == 2 && !x.testBit (mt_ct k 2 t)) nn) := by
  have e1 : ∀ x : Nat, mt_pf k a b (fun t => k t == 1 && Nat.testBit x (mt_pl k t)) nn = mt_pf k a b (fun t => k t == 1 && x.testBit (mt_ct k 1 t)) nn := fun x => mt_pf_r (fun t ht => by
    by_cases hk : k t = 1
    · simp [mt_pl, hk]
    · have e : (k t == 1) = false := beq_eq_false_iff_ne.mpr hk
      simp [e])
  have e2 : ∀ x : Nat, x < 2 ^ mt_ct k 2 nn → mt_pf k a b (fun t => k t == 2 && Nat.testBit (2 ^ mt_ct k 2 nn - 1 - x) (mt_pl k t)) nn = mt_pf k a b (fun t => k t == 2 && !x.testBit (mt_ct k 2 t)) nn := fun x hx => mt_pf_r (fun t ht => by
    by_cases hk : k t = 2
    · have h1 : mt_pl k t = mt_ct k 2 t := by unfold mt_pl; rw [if_neg (by omega)]
      have h2 := mt_ct_lt hk ht
      rw [h1, show 2 ^ mt_ct k 2 nn - 1 - x = 2 ^ mt_ct k 2 nn - (x + 1) by omega, Nat.testBit_two_pow_sub_succ hx, decide_eq_true h2, Bool.true_and]
    · have e : (k t == 2) = false := beq_eq_false_iff_ne.mpr hk
      simp [e])
  unfold mt_rows
  rw [or_assoc]
  refine or_congr_right (or_congr ⟨?_, ?_⟩ ⟨?_, ?_⟩)
  · rintro ⟨x, h1, h2, h3⟩; exact ⟨x, ⟨h1, h2⟩, h3.trans (e1 x)⟩
  · rintro ⟨x, ⟨h1, h2⟩, h3⟩; exact ⟨x, h1, h2, h3.trans (e1 x).symm⟩
  · rintro ⟨x, h1, h2, h3⟩; exact ⟨x, ⟨h1, h2⟩, h3.trans (e2 x h1)⟩
  · rintro ⟨x, ⟨h1, h2⟩, h3⟩; exact ⟨x, h1, h2, h3.trans (e2 x h1).symm⟩
/-- rows made of sound pairs and sound broken sets are profiles -/
theorem mt_rows_s {X : Nat → Int64} {k a b : Nat → Nat} {nn : Nat} (hw : mt_wf k a b nn) (hn : nn ≤ 13) (hW : mt_WK k a b nn (mt_ct k 2 nn) X) (z : Nat) (h : mt_rows X k a b nn (mt_ct k 1 nn) (mt_ct k 2 nn) z) : mt_R k a b nn z := by
  have l1 := mt_ct_n (k := k) (w := 1) nn
  have l2 := mt_ct_n (k := k) (w := 2) nn
  rcases (mt_rows_iff z).mp h with ⟨c, hc, rfl⟩ | ⟨x, ⟨hx, hx2⟩, rfl⟩ | ⟨x, ⟨hx, hx2⟩, rfl⟩
  · exact mt_R_c hc
  · obtain ⟨p, q, h1, h2, rfl⟩ := hW.1 x (mt_lt13 hx (by omega)) hx2
    have e : mt_pf k a b (fun t => k t == 1 && (mt_cz k 1 (fun t => p.testBit (a t) && q.testBit (b t)) nn).testBit (mt_ct k 1 t)) nn = mt_pf k a b (mt_rp k a b p q) nn := mt_pf_r (fun t ht => by
      by_cases hk : k t = 1
      · simp [mt_rp, hk, mt_cz_at ht hk]
      · have e : (k t == 1) = false := beq_eq_false_iff_ne.mpr hk
        simp [mt_rp, e])
    rw [e]
    exact mt_R_p hw h1 h2
  · obtain ⟨bf, h1, rfl⟩ := hW.2.2 x (mt_lt13 hx (by omega)) hx2
    have e : mt_pf k a b (fun t => k t == 2 && !(mt_cz k 2 bf nn).testBit (mt_ct k 2 t)) nn = mt_pf k a b (mt_rf k bf) nn := mt_pf_r (fun t ht => by
      by_cases hk : k t = 2
      · simp [mt_rf, hk, mt_cz_at ht hk]
      · have e : (k t == 2) = false := beq_eq_false_iff_ne.mpr hk
        simp [mt_rf, e])
    rw [e]
    exact mt_R_f hw h1
/-- one turn of the reference's loop -/
theorem mt_wk_step {k a b : Nat → Nat} {nn : Nat} {X1 X2 X3 X4 : Nat → Int64} {q1 q2 : Bool} (hw : mt_wf k a b nn) (hn : nn ≤ 13) (hW : mt_WK k a b nn (mt_ct k 2 nn) X1) (hco : mt_co X1 X2 k a b nn (mt_rows X1 k a b nn (mt_ct k 1 nn) (mt_ct k 2 nn)) True)
    (hm : mt_mk 1 X2 X3 (fun x => ∃ y z, y < (2 ^ mt_ct k 1 nn) ∧ z < 2 ^ mt_ct k 1 nn ∧ mt_ms X2 3 y = true ∧ mt_ms X2 4 z = true ∧ x = y &&& z) q1) (hf : mt_fk (mt_ct k 2 nn) X3 X4 (fun x => ∃ y z, y < (2 ^ mt_ct k 2 nn) ∧ z < 2 ^ mt_ct k 2 nn ∧ mt_ms X3 5 y = true ∧ mt_ms X3 6 z = true ∧ x = mt_dif y z) q2) :
    mt_WK k a b nn (mt_ct k 2 nn) X4 ∧ ((q2 || q1) = false → ∀ z, z < 8192 → (mt_ms X4 0 z = true ↔ mt_R k a b nn z)) ∧ mt_mu X4 ≤ mt_mu X1 ∧ ((q2 || q1) = true → mt_mu X4 < mt_mu X1) := by
  have l1 := mt_ct_n (k := k) (w := 1) nn
  have l2 := mt_ct_n (k := k) (w := 2) nn
  have p1 := mt_p13 (b := mt_ct k 1 nn) (by omega)
  have p2 := mt_p13 (b := mt_ct k 2 nn) (by omega)
  have hrs := mt_rows_s hw hn hW
  obtain ⟨c1, c2, c3, c4, c5, c6, c7⟩ := hco
  obtain ⟨m1, m2, m3⟩ := hm
  obtain ⟨f1, f2, f3, f4, f5, f6, f7⟩ := hf
  have s1 : ∀ x, x < 8192 → mt_ms X2 1 x = mt_ms X1 1 x := fun x hx => c1 1 x hx (by decide) (Or.inl (by decide))
  have s2 : ∀ x, x < 8192 → mt_ms X3 2 x = mt_ms X1 2 x := fun x hx => (m1 2 x hx (by decide)).trans (c1 2 x hx (by decide) (Or.inl (by decide)))
  have s4 : ∀ x, x < 8192 → mt_ms X4 1 x = mt_ms X3 1 x := fun x hx => f1 1 x hx (by decide)
  have stp : ∀ (x : Nat) (q : Option Nat), mt_sf a b x q = fun t => x.testBit (a t) && !mt_hi q (b t) := fun x q => rfl
  -- what a step from FROM to TO breaks
  have hst : ∀ y z, y < 8192 → z < 8192 → mt_ms X3 5 y = true → mt_ms X3 6 z = true → ∃ (r : Nat) (q : Option Nat), mt_R k a b nn r ∧ (∀ r', q = some r' → mt_R k a b nn r') ∧ mt_dif y z = mt_cz k 2 (mt_sf a b r q) nn := by
    intro y z hy hz h5 h6
    rw [m1 5 y hy (by decide)] at h5
    rw [m1 6 z hz (by decide)] at h6
    obtain ⟨r, hr, rfl⟩ := (c6 y hy).mp h5
    rcases (c7 z hz).mp h6 with ⟨-, rfl⟩ | ⟨r', hr', rfl⟩
    · refine ⟨r, none, hrs r hr, fun _ h => (by cases h), ?_⟩
      rw [← mt_cz_0 (k := k) (w := 2) (n := nn), mt_cz_dif]
      rfl
    · refine ⟨r, some r', hrs r hr, fun r'' h => (by cases h; exact hrs r' hr'), ?_⟩
      rw [mt_cz_dif]
      rfl
  have hWK : mt_WK k a b nn (mt_ct k 2 nn) X4 := by
    refine ⟨fun x hx h => ?_, f2, fun x hx h => ?_⟩
    · rw [s4 x hx] at h
      rcases (m2 x hx).mp h with h | ⟨y, z, hy, hz, h3, h4, rfl⟩
      · rw [s1 x hx] at h; exact hW.1 x hx h
      · obtain ⟨r, hr, rfl⟩ := (c4 y (by omega)).mp h3
        obtain ⟨r', hr', rfl⟩ := (c5 z (by omega)).mp h4
        exact ⟨r, r', hrs r hr, hrs r' hr', mt_cz_and⟩
    · refine f5 (fun x => ∃ bf, mt_BF a b (mt_R k a b nn) bf ∧ x = mt_cz k 2 bf nn) (fun x hx h => ?_) ?_ ?_ x hx h
      · rw [s2 x hx] at h; exact hW.2.2 x hx h
      · rintro x y ⟨f, hf1, rfl⟩ ⟨g, hg1, rfl⟩
        exact ⟨_, mt_BF_or hf1 hg1, mt_cz_or⟩
      · rintro x ⟨y, z, hy, hz, h5, h6, rfl⟩
        obtain ⟨r, q, r1, r2, e⟩ := hst y z (by omega) (by omega) h5 h6
        refine ⟨_, mt_BF_step mt_BF_nil r1 r2, ?_⟩
        rw [e]
        congr 1
  have g1 : ∀ x, x < 8192 → mt_ms X1 1 x = true → mt_ms X4 1 x = true := fun x hx h => by
    rw [s4 x hx]; exact (m2 x hx).mpr (Or.inl (by rw [s1 x hx]; exact h))
  have g2 : ∀ x, x < 8192 → mt_ms X1 2 x = true → mt_ms X4 2 x = true := fun x hx h => f3 x hx (by rw [s2 x hx]; exact h)
  have n1 := mt_num_le g1
  have n2 := mt_num_le g2
  have b1 := mt_num_n (f := mt_ms X4 1) (n := 8192)
  have b2 := mt_num_n (f := mt_ms X4 2) (n := 8192)
  refine ⟨hWK, fun hq => ?_, by unfold mt_mu; omega, fun hq => ?_⟩
  · rw [Bool.or_eq_false_iff] at hq
    have nom : ∀ x, x < 8192 → (∃ y z, y < (2 ^ mt_ct k 1 nn) ∧ z < 2 ^ mt_ct k 1 nn ∧ mt_ms X2 3 y = true ∧ mt_ms X2 4 z = true ∧ x = y &&& z) → mt_ms X1 1 x = true := by
      intro x hx h
      refine Classical.byContradiction fun e => ?_
      have := m3.mpr ⟨x, hx, h, by rw [s1 x hx]; exact e⟩
      rw [hq.2] at this
      cases this
    have nof := f7 hq.1
    have key := fun z => mt_ref hw (PR := fun x => x < 2 ^ mt_ct k 1 nn ∧ mt_ms X1 1 x = true) (BR := fun x => x < 2 ^ mt_ct k 2 nn ∧ mt_ms X1 2 x = true) (RW := mt_rows X1 k a b nn (mt_ct k 1 nn) (mt_ct k 2 nn))
      ⟨p2.1, hW.2.1.1⟩ (fun x y hx hy => ⟨Nat.or_lt_two_pow hx.1 hy.1, hW.2.1.2.2 x y (by omega) (by omega) hx.2 hy.2⟩) mt_rows_iff
      (fun x y hx hy => by
        refine ⟨mt_cz_lt, ?_⟩
        refine nom _ (mt_lt13 mt_cz_lt (by omega)) ⟨mt_cz k 1 (fun t => x.testBit (a t)) nn, mt_cz k 1 (fun t => y.testBit (b t)) nn, mt_cz_lt, mt_cz_lt, ?_, ?_, mt_cz_and.symm⟩
        · exact (c4 _ (mt_lt13 mt_cz_lt (by omega))).mpr ⟨x, hx, rfl⟩
        · exact (c5 _ (mt_lt13 mt_cz_lt (by omega))).mpr ⟨y, hy, rfl⟩)
      (fun x q hx hq => by
        refine ⟨mt_cz_lt, ?_⟩
        have h5 : mt_ms X3 5 (mt_cz k 2 (fun t => x.testBit (a t)) nn) = true := by
          rw [m1 5 _ (mt_lt13 mt_cz_lt (by omega)) (by decide)]
          exact (c6 _ (mt_lt13 mt_cz_lt (by omega))).mpr ⟨x, hx, rfl⟩
        have h6 : mt_ms X3 6 (mt_cz k 2 (fun t => mt_hi q (b t)) nn) = true := by
          rw [m1 6 _ (mt_lt13 mt_cz_lt (by omega)) (by decide)]
          refine (c7 _ (mt_lt13 mt_cz_lt (by omega))).mpr ?_
          cases q with
          | none => exact Or.inl ⟨trivial, mt_cz_0⟩
          | some r => exact Or.inr ⟨r, hq r rfl, rfl⟩
        have h7 := f4 (mt_cz k 2 (mt_sf a b x q) nn) ⟨_, _, mt_cz_lt, mt_cz_lt, h5, h6, mt_cz_dif.symm⟩
        have h8 := nof _ h7.1 h7.2
        rw [s2 _ h7.1] at h8
        exact h8)
      (fun x hx => hW.1 x (by omega) hx.2) (fun x hx => hW.2.2 x (by omega) hx.2) z
    intro z hz
    rw [f1 0 z hz (by decide), m1 0 z hz (by decide), c2 z hz]
    exact key z
  · rw [Bool.or_eq_true] at hq
    rcases hq with hq | hq
    · obtain ⟨x, hx, h1, h2⟩ := f6 hq
      rw [s2 x hx] at h2
      have := mt_num_lt g2 hx (by cases e : mt_ms X1 2 x; rfl; exact absurd e h2) h1
      unfold mt_mu; omega
    · obtain ⟨x, hx, h1, h2⟩ := m3.mp hq
      rw [s1 x hx] at h2
      have := mt_num_lt g1 hx (by cases e : mt_ms X1 1 x; rfl; exact absurd e h2) (by rw [s4 x hx]; exact (m2 x hx).mpr (Or.inr h1))
      unfold mt_mu; omega
