theorem mt_65 {x : Int32} (h0 : ¬ x < 0) (h1 : x ≤ nI 5) : ∃ i, sp_is 6 x i := by
  obtain ⟨j, h2, h3⟩ := nI_of h0
  subst h3
  refine ⟨j, Nat.not_le.mp fun q => ?_, rfl⟩
  exact absurd h1 (Int32.not_le.mpr (nI_lt (by omega) h2))
theorem mt_MR_addV {J J' : Nat → Nat → Int32} {n v kn pr ar : Nat} {X : Nat → Int64} {k a b dp vk va vb vl : Nat → Nat} {fc : Nat → Bool} {kk x y lv : Nat} (hM : mt_MR (J, n, v, kn, pr, ar, X) (n, k, a, b, dp, fc) (v, vk, va, vb, vl)) (hv : v < 20) (hJ : mt_VN J v kk x y lv J') (hk : kk ≤ 2) (h0 : kk = 0 → x < 6) (h1 : kk = 1 → x < v ∧ y < v ∧ lv = vl x + vl y) (h2 : kk = 2 → x < n) (hl : 1 ≤ lv ∧ lv ≤ 4) (h9 : J' 9 = J 9 := by rfl) :
    mt_MR (J', n, v + 1, kn, pr, ar, X) (n, k, a, b, dp, fc) (sp_addV (v, vk, va, vb, vl) kk x y lv) := by
  obtain ⟨-, -, c1, c2, c3, c4, c5, c7, c8, c9, c10, c11⟩ := hM
  refine ⟨rfl, rfl, c1, ?_, ?_, c4, c5, by omega, ?_, ?_, c10, fun q1 q2 => by rw [h9]; exact c11 q1 q2⟩
  · intro t ht
    rw [hJ.1 0 t (Or.inr (by decide)), hJ.1 1 t (Or.inr (by decide)), hJ.1 2 t (Or.inr (by decide))]
    exact c2 t ht
  · intro t ht
    rw [hJ.1 3 t (Or.inr (by decide)), hJ.1 4 t (Or.inr (by decide))]
    exact c3 t ht
  · intro i hi
    by_cases e : i = v
    · subst e
      rw [va_up_self, va_up_self, va_up_self, va_up_self]
      exact ⟨hJ.2.1, hJ.2.2.1, hJ.2.2.2.1, hJ.2.2.2.2⟩
    · rw [va_up_ne _ _ e, va_up_ne _ _ e, va_up_ne _ _ e, va_up_ne _ _ e, hJ.1 5 i (Or.inl e), hJ.1 6 i (Or.inl e), hJ.1 7 i (Or.inl e), hJ.1 8 i (Or.inl e)]
      exact c8 i (by omega)
  · intro i hi
    by_cases e : i = v
    · subst e
      rw [va_up_self, va_up_self, va_up_self, va_up_self]
      refine ⟨hk, h0, fun h => ?_, h2, hl.1, hl.2⟩
      obtain ⟨q1, q2, q3⟩ := h1 h
      exact ⟨q1, q2, by rw [va_up_ne _ _ (by omega), va_up_ne _ _ (by omega)]; exact q3⟩
    · have hi' : i < v := by omega
      obtain ⟨q1, q2, q3, q4, q5⟩ := c9 i hi'
      rw [va_up_ne _ _ e, va_up_ne _ _ e, va_up_ne _ _ e, va_up_ne _ _ e]
      refine ⟨q1, q2, fun h => ?_, q4, q5⟩
      obtain ⟨r1, r2, r3⟩ := q3 h
      exact ⟨r1, r2, by rw [va_up_ne _ _ (by omega), va_up_ne _ _ (by omega)]; exact r3⟩
/-- set c0 holds Dn, every other set is as in X -/
def mt_fl (c0 : Nat) (X X1 : Nat → Int64) (Dn : Nat → Prop) : Prop := (∀ c i, i < 8192 → c ≠ c0 → mt_ms X1 c i = mt_ms X c i) ∧ ∀ z, z < 8192 → (mt_ms X1 c0 z = true ↔ Dn z)
theorem mt_fl_0 {c0 : Nat} {X Y : Nat → Int64} (h : mt_clr X Y c0) : mt_fl c0 X Y (fun _ => False) := ⟨fun _ _ hi hc => mt_clr_ne h hi hc, fun z hz => by rw [mt_clr_eq h hz]; exact ⟨fun q => (by cases q), False.elim⟩⟩
theorem mt_fl_c {c0 : Nat} {X Y : Nat → Int64} {D D' : Nat → Prop} (h : mt_fl c0 X Y D) (he : ∀ z, D z ↔ D' z) : mt_fl c0 X Y D' := ⟨h.1, fun z hz => (h.2 z hz).trans (he z)⟩
theorem mt_fl_p {c0 y : Nat} {X0 X Y : Nat → Int64} {D : Nat → Prop} (h : mt_fl c0 X0 X D) (hp : mt_pt X Y c0 y) : mt_fl c0 X0 Y (fun z => D z ∨ z = y) := ⟨fun c i hi hc => (mt_pt_ne hp hi hc).trans (h.1 c i hi hc), fun z hz => by rw [mt_pt_eq hp hz, h.2 z hz]⟩
section SR
variable {X : Nat → Int64} {k a b vk va vb vl : Nat → Nat} {n v vi : Nat}
theorem mt_sr0 (hk : vk vi = 0) (z : Nat) : (False ∨ z = mt_pf k a b (mt_rc k a (va vi)) n) ↔ mt_V k a b vk va vb n 4 vi z := by
  constructor
  · rintro (h | h)
    · exact h.elim
    · exact Or.inl ⟨hk, h⟩
  · rintro (⟨-, h⟩ | ⟨h, -⟩ | ⟨h, -⟩)
    · exact Or.inr h
    · omega
    · omega
theorem mt_p12 {z : Nat} (hz : z < 2 ^ n) (hn : n ≤ 12) : z < 4096 := Nat.lt_of_lt_of_le hz (Nat.pow_le_pow_right (n := 2) (i := n) (j := 12) (by decide) hn)
theorem mt_sr2 (hk : vk vi = 2) (hR : ∀ z, z < 8192 → (mt_ms X 0 z = true ↔ mt_R k a b n z)) (hn : n ≤ 12) (z : Nat) : (False ∨ ∃ x, x < 4096 ∧ (mt_ms X 0 x = true ∧ x.testBit (va vi) = true) ∧ z = x) ↔ mt_V k a b vk va vb n 4 vi z := by
  constructor
  · rintro (h | ⟨x, h1, h2, rfl⟩)
    · exact h.elim
    · exact Or.inr (Or.inl ⟨hk, (hR z (by omega)).mp h2.1, h2.2⟩)
  · rintro (⟨h, -⟩ | ⟨-, h1, h2⟩ | ⟨h, -⟩)
    · omega
    · have := mt_p12 (mt_R_lt h1) hn
      exact Or.inr ⟨z, this, ⟨(hR z (by omega)).mpr h1, h2⟩, rfl⟩
    · omega
theorem mt_gg (x y : Nat) : mt_pf k a b (fun t => k t == 1 && Nat.testBit (mt_cz k 1 (fun t => Nat.testBit x (a t)) n &&& mt_cz k 1 (fun t => Nat.testBit y (b t)) n) (mt_pl k t)) n = mt_pf k a b (mt_rp k a b x y) n := mt_pf_r (fun t ht => by
  by_cases hk : k t = 1
  · simp [mt_rp, mt_pl, hk, mt_cz_and, mt_cz_at ht hk]
  · have e : (k t == 1) = false := beq_eq_false_iff_ne.mpr hk
    simp [mt_rp, e])
theorem mt_sr1 (hk : vk vi = 1) (hn : n ≤ 12) (hvw : mt_vw n v vk va vb vl) (hvi : vi < v) (hva : ∀ c, c < vi → ∀ z, z < 8192 → (mt_ms X (7 + c) z = true ↔ mt_V k a b vk va vb n 4 c z)) (z : Nat) : (False ∨ ∃ x, x < 4096 ∧ mt_ms X (7 + va vi) x = true ∧ ∃ y, y < 4096 ∧ mt_ms X (7 + vb vi) y = true ∧ z = mt_pf k a b (fun t => k t == 1 && Nat.testBit (mt_cz k 1 (fun t => Nat.testBit x (a t)) n &&& mt_cz k 1 (fun t => Nat.testBit y (b t)) n) (mt_pl k t)) n) ↔ mt_V k a b vk va vb n 4 vi z := by
  obtain ⟨-, -, w3, -, -, w6⟩ := hvw vi hvi
  obtain ⟨w3a, w3b, w3c⟩ := w3 hk
  have q4 := (hvw (va vi) (by omega)).2.2.2.2
  have q5 := (hvw (vb vi) (by omega)).2.2.2.2
  have f1 := mt_V_fuel (k := k) (a := a) (b := b) hvw 4 3 (va vi) (by omega) (by omega) (by omega)
  have f2 := mt_V_fuel (k := k) (a := a) (b := b) hvw 4 3 (vb vi) (by omega) (by omega) (by omega)
  constructor
  · rintro (h | ⟨x, h1, h2, y, h3, h4, h5⟩)
    · exact h.elim
    · rw [mt_gg] at h5
      exact Or.inr (Or.inr ⟨hk, x, y, (f1 x).mp ((hva _ w3a x (by omega)).mp h2), (f2 y).mp ((hva _ w3b y (by omega)).mp h4), h5⟩)
  · rintro (⟨h, -⟩ | ⟨h, -⟩ | ⟨-, x, y, h1, h2, h3⟩)
    · omega
    · omega
    · have l1 := mt_p12 (mt_V_lt h1) hn
      have l2 := mt_p12 (mt_V_lt h2) hn
      exact Or.inr ⟨x, l1, (hva _ w3a x (by omega)).mpr ((f1 x).mpr h1), y, l2, (hva _ w3b y (by omega)).mpr ((f2 y).mpr h2), h3.trans (mt_gg x y).symm⟩
theorem mt_va_s {X1 : Nat → Int64} {q : Nat} (hva : ∀ c, c < q → ∀ z, z < 8192 → (mt_ms X (7 + c) z = true ↔ mt_V k a b vk va vb n 4 c z)) (h : mt_fl (7 + q) X X1 (fun z => mt_V k a b vk va vb n 4 q z)) : ∀ c, c < q + 1 → ∀ z, z < 8192 → (mt_ms X1 (7 + c) z = true ↔ mt_V k a b vk va vb n 4 c z) := by
  intro c hc z hz
  by_cases e : c = q
  · subst e; exact h.2 z hz
  · rw [h.1 (7 + c) z hz (by omega)]; exact hva c (by omega) z hz
theorem mt_KN_fl {X1 : Nat → Int64} {P : Nat → Int32} {pr ar q : Nat} {D : Nat → Prop} (hK : mt_KN P pr ar X k a b n) (h : mt_fl (7 + q) X X1 D) : mt_KN P pr ar X1 k a b n := ⟨hK.1, fun z hz => by rw [h.1 0 z hz (by omega)]; exact hK.2 z hz⟩
theorem mt_NU_9 {J : Nat → Nat → Int32} {P : Nat → Int32} {pr ar : Nat} (hK : mt_KN P pr ar X k a b n) : mt_NU (va_up J 9 P) pr ar n k := ⟨hK.1.1, hK.1.2.1, fun t ht => by rw [va_up_self]; exact hK.1.2.2 t ht⟩
theorem mt_MV_9 {J : Nat → Nat → Int32} {P : Nat → Int32} (h : mt_MV J v vk va vb vl) : mt_MV (va_up J 9 P) v vk va vb vl := h
theorem mt_isin {j : Nat} (h : ∀ z, z < 8192 → (mt_ms X (7 + vi) z = true ↔ mt_V k a b vk va vb n 4 vi z)) (hn : n ≤ 12) : (∀ x, x < 4096 → (!mt_ms X (7 + vi) x || x.testBit j) = true) ↔ ∀ z, mt_V k a b vk va vb n 4 vi z → z.testBit j = true := by
  constructor
  · intro h1 z h2
    have l := mt_p12 (mt_V_lt h2) hn
    have h3 := h1 z l
    rw [(h z (by omega)).mpr h2] at h3
    exact h3
  · intro h1 x hx
    cases e : mt_ms X (7 + vi) x
    · rfl
    · rw [h1 x ((h x (by omega)).mp e)]; rfl
end SR
theorem mt_all_s {f : Nat → Bool} {q : Nat} {al al' : Bool} (h : al = true ↔ ∀ x, x < q → f x = true) (h' : (al && f q) = al') : al' = true ↔ ∀ x, x < q + 1 → f x = true := by
  rw [← h', Bool.and_eq_true, h]
  constructor
  · rintro ⟨h1, h2⟩ x hx
    by_cases e : x = q
    · subst e; exact h2
    · exact h1 x (by omega)
  · intro h1
    exact ⟨fun x hx => h1 x (by omega), h1 q (by omega)⟩
theorem mt_bf (p : Nat → Prop) : ∃ f : Nat → Bool, ∀ t, f t = true ↔ p t := ⟨fun t => @decide (p t) (Classical.propDecidable _), fun t => @decide_eq_true_iff (p t) (Classical.propDecidable _)⟩
theorem mt_num_t {f : Nat → Bool} {c q : Nat} (h : c = mt_num f q) (h1 : f q = true) : c + 1 = mt_num f (q + 1) := by simp [mt_num, h, h1]
theorem mt_num_f {f : Nat → Bool} {c q : Nat} (h : c = mt_num f q) (h1 : ¬ f q = true) : c = mt_num f (q + 1) := by simp [mt_num, h, h1]
theorem mt_MR_cut' {J : Nat → Nat → Int32} {n v kn pr ar n' : Nat} {X : Nat → Int64} {k a b dp vk va vb vl : Nat → Nat} {fc : Nat → Bool} {x : Int32} (hM : mt_MR (J, n, v, kn, pr, ar, X) (n, k, a, b, dp, fc) (v, vk, va, vb, vl)) (hn' : n' = sp_cutn n x) : mt_MR (J, n', 0, 0, pr, ar, X) (sp_cut (n, k, a, b, dp, fc) x) (sp_cutV (v, vk, va, vb, vl)) := by
  subst hn'
  obtain ⟨-, -, c1, c2, c3, c4, c5, c7, c8, c9, c10, c11⟩ := hM
  have hle := sp_cutn_le n x
  exact ⟨rfl, rfl, by omega, fun t ht => c2 t (by omega), fun t ht => c3 t (by omega), c4.le hle, fun t ht => c5 t (by omega), by decide, fun i hi => absurd hi (by omega), fun i hi => absurd hi (by omega), Nat.zero_le _, fun q1 q2 => absurd q2 (by omega)⟩
