/-! ints and longs by their bits -/
theorem mt_sl : ∀ n, n < 32 → ((nI n &&& 31).toBitVec.smod 32).toNat = n := by decide +kernel
theorem mt_and (a b : Nat) : nI a &&& nI b = nI (a &&& b) := by
  apply Int32.toBitVec_inj.1
  show BitVec.ofNat 32 a &&& BitVec.ofNat 32 b = BitVec.ofNat 32 (a &&& b)
  apply BitVec.eq_of_getLsbD_eq
  intro i hi
  simp [hi]
theorem mt_or (a b : Nat) : nI a ||| nI b = nI (a ||| b) := by
  apply Int32.toBitVec_inj.1
  show BitVec.ofNat 32 a ||| BitVec.ofNat 32 b = BitVec.ofNat 32 (a ||| b)
  apply BitVec.eq_of_getLsbD_eq
  intro i hi
  simp [hi]
/-- a without b -/
def mt_dif (a b : Nat) : Nat := a &&& (a ^^^ b)
theorem mt_dif_bit (a b i : Nat) : (mt_dif a b).testBit i = (a.testBit i && !b.testBit i) := by
  unfold mt_dif
  rw [Nat.testBit_and, Nat.testBit_xor]
  cases a.testBit i <;> cases b.testBit i <;> rfl
theorem mt_dif_le (a b : Nat) : mt_dif a b ≤ a := Nat.and_le_left
theorem mt_andn (a b : Nat) : nI a &&& (nI b ^^^ (-1)) = nI (mt_dif a b) := by
  apply Int32.toBitVec_inj.1
  have h1 : (-1 : Int32).toBitVec = BitVec.allOnes 32 := by decide
  rw [Int32.toBitVec_and, Int32.toBitVec_xor, h1]
  show BitVec.ofNat 32 a &&& (BitVec.ofNat 32 b ^^^ BitVec.allOnes 32) = BitVec.ofNat 32 (mt_dif a b)
  apply BitVec.eq_of_getLsbD_eq
  intro i hi
  rw [BitVec.getLsbD_and, BitVec.getLsbD_xor, BitVec.getLsbD_ofNat, BitVec.getLsbD_ofNat, BitVec.getLsbD_ofNat, BitVec.getLsbD_allOnes, mt_dif_bit]
  simp only [hi, decide_true, Bool.true_and, Bool.xor_true]
theorem mt_shl {t : Nat} (h : t < 31) : (1 : Int32) <<< (nI t &&& 31) = nI (2 ^ t) := by
  have h0 : 2 ^ t < 2 ^ 32 := Nat.pow_lt_pow_right (by decide) (by omega)
  have h1 := pk_shlN (n := 1) (nI t &&& 31) t (mt_sl t (by omega)) (by rw [Nat.one_mul]; exact h0)
  rw [Nat.one_mul] at h1
  exact h1
theorem mt_shr {p t : Nat} (hp : p < 2 ^ 31) (ht : t < 32) : nI p >>> (nI t &&& 31) = nI (p / 2 ^ t) := pk_shrN hp _ t (mt_sl t ht)
/-- a truth as an int -/
def mt_b (x : Bool) : Int32 := if x then 1 else 0
theorem mt_b_t : mt_b true = 1 := rfl
theorem mt_b_f : mt_b false = 0 := rfl
theorem mt_bit1 {p t : Nat} (hp : p < 2 ^ 31) (ht : t < 32) : (nI p >>> (nI t &&& 31)) &&& nI 1 = mt_b (p.testBit t) := by
  rw [mt_shr hp ht, mt_and, Nat.and_one_is_mod, Nat.testBit_eq_decide_div_mod_eq]
  generalize p / 2 ^ t = z
  by_cases h : z % 2 = 1
  · rw [h]; rfl
  · have h2 : z % 2 = 0 := by omega
    rw [h2]; rfl
theorem mt_b_ne (x : Bool) : mt_b x ≠ 0 ↔ x = true := by cases x <;> decide
theorem mt_b_eq0 (x : Bool) : mt_b x = 0 ↔ x = false := by cases x <;> decide
theorem mt_b_eq1 (x : Bool) : mt_b x = nI 1 ↔ x = true := by cases x <;> decide
theorem mt_b_inj {x y : Bool} (h : mt_b x = mt_b y) : x = y := by revert h; cases x <;> cases y <;> decide
theorem mt_b_nar (x : Bool) : narrow .boolean (.int (mt_b x)) = .int (mt_b x) := by cases x <;> rfl
/-- branches on numbers -/
theorem mt_lt {a b : Nat} {A : Prop} (ha : a < 2 ^ 31) (hb : b < 2 ^ 31) (f : a < b → A) : nI a < nI b → A := fun h => f ((nI_ltI ha hb).mp h)
theorem mt_nlt {a b : Nat} {A : Prop} (ha : a < 2 ^ 31) (hb : b < 2 ^ 31) (f : b ≤ a → A) : ¬ nI a < nI b → A := fun h => f (Nat.not_lt.mp fun q => h ((nI_ltI ha hb).mpr q))
theorem mt_le {a b : Nat} {A : Prop} (ha : a < 2 ^ 31) (hb : b < 2 ^ 31) (f : a ≤ b → A) : nI a ≤ nI b → A := fun h => f ((nI_leI ha hb).mp h)
theorem mt_nle {a b : Nat} {A : Prop} (ha : a < 2 ^ 31) (hb : b < 2 ^ 31) (f : b < a → A) : ¬ nI a ≤ nI b → A := fun h => f (Nat.not_le.mp fun q => h ((nI_leI ha hb).mpr q))
theorem mt_eq {a b : Nat} {A : Prop} (ha : a < 2 ^ 31) (hb : b < 2 ^ 31) (f : a = b → A) : nI a = nI b → A := fun h => f ((nI_eq ha hb).mp h)
theorem mt_ne {a b : Nat} {A : Prop} (ha : a < 2 ^ 31) (hb : b < 2 ^ 31) (f : a ≠ b → A) : ¬ nI a = nI b → A := fun h => f fun q => h ((nI_eq ha hb).mpr q)
theorem mt_z {x : Bool} {A : Prop} (f : x = false → A) : mt_b x = 0 → A := fun h => f ((mt_b_eq0 x).mp h)
theorem mt_nz {x : Bool} {A : Prop} (f : x = true → A) : ¬ mt_b x = 0 → A := fun h => f ((mt_b_ne x).mp h)
/-! longs -/
def mt_lb (w : Int64) (i : Nat) : Bool := w.toBitVec.getLsbD i
theorem mt_lb_or (x y : Int64) (i : Nat) : mt_lb (x ||| y) i = (mt_lb x i || mt_lb y i) := by unfold mt_lb; rw [Int64.toBitVec_or, BitVec.getLsbD_or]
theorem mt_lb_and (x y : Int64) (i : Nat) : mt_lb (x &&& y) i = (mt_lb x i && mt_lb y i) := by unfold mt_lb; rw [Int64.toBitVec_and, BitVec.getLsbD_and]
theorem mt_lb_0 (i : Nat) : mt_lb 0 i = false := BitVec.getLsbD_zero
theorem mt_lb_ext {x y : Int64} (h : ∀ i, i < 64 → mt_lb x i = mt_lb y i) : x = y := Int64.toBitVec_inj.mp (BitVec.eq_of_getLsbD_eq (fun i hi => h i hi))
theorem mt_lb_shl : ∀ j, j < 64 → ∀ i, i < 64 → mt_lb ((1 : Int64) <<< ((nI j).toInt64 &&& 63)) i = decide (i = j) := by decide +kernel
theorem mt_lb_m1 : ∀ j, j < 64 → ∀ i, i < 64 → mt_lb ((-1 : Int64) <<< ((nI j).toInt64 &&& 63)) i = decide (j ≤ i) := by decide +kernel
theorem mt_sl6 : ∀ j, j < 64 → (((nI j).toInt64 &&& 63).toBitVec.smod 64).toNat = j := by decide +kernel
theorem mt_lb_shr {j : Nat} (hj : j < 64) (w : Int64) : (w >>> ((nI j).toInt64 &&& 63)) &&& 1 = if mt_lb w j then 1 else 0 := by
  apply mt_lb_ext
  intro i hi
  rw [mt_lb_and]
  have h1 : ∀ i, i < 64 → mt_lb 1 i = decide (i = 0) := by decide +kernel
  rw [h1 i hi]
  have h2 : mt_lb (w >>> ((nI j).toInt64 &&& 63)) 0 = mt_lb w j := by
    unfold mt_lb
    rw [Int64.toBitVec_shiftRight]
    show (w.toBitVec.sshiftRight (((nI j).toInt64 &&& 63).toBitVec.smod 64).toNat).getLsbD 0 = _
    rw [mt_sl6 j hj, BitVec.getLsbD_sshiftRight]
    simp [hj]
  by_cases e : i = 0
  · subst e
    rw [h2]
    cases mt_lb w j
    · simp [mt_lb_0]
    · simp [h1]
  · cases mt_lb w j
    · simp [e, mt_lb_0]
    · simp [e, h1 i hi]
/-- the lowest one of a long, and the ones in the place of the zeros below it -/
theorem mt_low {w : Int64} (h : w ≠ 0) : ∃ k, k < 64 ∧ mt_lb w k = true ∧ (∀ i, i < k → mt_lb w i = false) ∧ (w - 1) &&& (w ^^^ (-1)) = lN (2 ^ k - 1) := by
  have hex : ∃ k, mt_lb w k = true := by
    refine Classical.byContradiction fun q => h (mt_lb_ext fun i _ => ?_)
    rw [mt_lb_0]
    cases e : mt_lb w i
    · rfl
    · exact absurd ⟨i, e⟩ q
  obtain ⟨k, h1, h2⟩ := pk_least _ hex
  have hk : k < 64 := by
    refine Nat.not_le.mp fun q => ?_
    have := BitVec.getLsbD_of_ge w.toBitVec k q
    unfold mt_lb at h1
    rw [this] at h1
    cases h1
  have h3 : ∀ i, i < k → mt_lb w i = false := fun i hi => by
    cases e : mt_lb w i
    · rfl
    · exact absurd e (h2 i hi)
  refine ⟨k, hk, h1, h3, ?_⟩
  obtain ⟨n, hn⟩ : ∃ n, n = w.toBitVec.toNat := ⟨_, rfl⟩
  have hn64 : n < 2 ^ 64 := by rw [hn]; exact w.toBitVec.isLt
  have hb : ∀ i, mt_lb w i = n.testBit i := fun i => by rw [hn]; rfl
  have hmod : n % 2 ^ k = 0 := by
    apply Nat.eq_of_testBit_eq
    intro i
    rw [Nat.testBit_mod_two_pow, Nat.zero_testBit]
    by_cases hi : i < k
    · rw [← hb, h3 i hi]; simp
    · simp [hi]
  obtain ⟨q, hq⟩ : ∃ q, n = 2 ^ k * q := ⟨n / 2 ^ k, by have := Nat.div_add_mod n (2 ^ k); omega⟩
  have hp : 0 < 2 ^ k := Nat.two_pow_pos k
  have hodd : q % 2 = 1 := by
    have := h1
    rw [hb, hq, show 2 ^ k * q = 2 ^ k * q + 0 from rfl, Nat.testBit_two_pow_mul_add q hp k] at this
    simp at this
    omega
  have hq1 : n - 1 = 2 ^ k * (q - 1) + (2 ^ k - 1) := by
    obtain ⟨r, rfl⟩ : ∃ r, q = r + 1 := ⟨q - 1, by omega⟩
    rw [hq, Nat.mul_add]
    simp
    omega
  have hpos : 0 < n := by
    rw [hq]
    exact Nat.mul_pos hp (by omega)
  apply Int64.toBitVec_inj.mp
  have e1 : (-1 : Int64).toBitVec = BitVec.allOnes 64 := by decide
  have e2 : (w - 1).toBitVec = BitVec.ofNat 64 (n - 1) := by
    rw [Int64.toBitVec_sub]
    apply BitVec.eq_of_toNat_eq
    rw [BitVec.toNat_sub, BitVec.toNat_ofNat, ← hn]
    show (2 ^ 64 - 1 + n) % 2 ^ 64 = (n - 1) % 2 ^ 64
    omega
  rw [Int64.toBitVec_and, Int64.toBitVec_xor, e1, e2]
  apply BitVec.eq_of_getLsbD_eq
  intro i hi
  show (BitVec.ofNat 64 (n - 1) &&& (w.toBitVec ^^^ BitVec.allOnes 64)).getLsbD i = (BitVec.ofNat 64 (2 ^ k - 1)).getLsbD i
  have e3 : w.toBitVec.getLsbD i = n.testBit i := hb i
  rw [BitVec.getLsbD_and, BitVec.getLsbD_xor, BitVec.getLsbD_ofNat, BitVec.getLsbD_ofNat, BitVec.getLsbD_allOnes, e3, Nat.testBit_two_pow_sub_one, hq1, Nat.testBit_two_pow_mul_add (q - 1) (by omega) i]
  by_cases hik : i < k
  · have := h3 i hik
    rw [hb] at this
    simp [hik, hi, this]
  · have e4 : n.testBit i = q.testBit (i - k) := by
      rw [hq, show 2 ^ k * q = 2 ^ k * q + 0 from rfl, Nat.testBit_two_pow_mul_add q hp i, if_neg hik]
    simp only [hik, if_false, hi, decide_true, Bool.true_and, e4]
    by_cases hz : i - k = 0
    · rw [hz]
      have : (q - 1).testBit 0 = false := by simp; omega
      simp [this]
    · obtain ⟨j, hj⟩ : ∃ j, i - k = j + 1 := ⟨i - k - 1, by omega⟩
      rw [hj, Nat.testBit_succ, Nat.testBit_succ, show (q - 1) / 2 = q / 2 by omega]
      cases (q / 2).testBit j <;> simp
/-! a set of numbers in an array of longs -/
def mt_bt (f : Nat → Int64) (x : Nat) : Prop := mt_lb (f (x / 64)) (x % 64) = true
theorem mt_bt_put {f : Nat → Int64} {x : Nat} {v : Int64} (hv : v = f (x / 64) ||| ((1 : Int64) <<< ((nI (x % 64)).toInt64 &&& 63))) (y : Nat) : mt_bt (vp_updL f (x / 64) v) y ↔ (mt_bt f y ∨ y = x) := by
  subst hv
  unfold mt_bt vp_updL
  by_cases h : y / 64 = x / 64
  · rw [if_pos h, mt_lb_or, mt_lb_shl (x % 64) (Nat.mod_lt _ (by decide)) (y % 64) (Nat.mod_lt _ (by decide)), Bool.or_eq_true, decide_eq_true_iff, h]
    constructor
    · rintro (q | q)
      · exact Or.inl q
      · exact Or.inr (by omega)
    · rintro (q | q)
      · exact Or.inl q
      · exact Or.inr (by omega)
  · rw [if_neg h]
    constructor
    · exact Or.inl
    · rintro (q | q)
      · exact q
      · exact absurd (by rw [q]) h
theorem mt_bt_zero {f : Nat → Int64} {j : Nat} (y : Nat) : mt_bt (vp_updL f j 0) y ↔ (mt_bt f y ∧ y / 64 ≠ j) := by
  unfold mt_bt vp_updL
  by_cases h : y / 64 = j
  · rw [if_pos h, mt_lb_0]
    constructor
    · intro q; cases q
    · rintro ⟨-, q⟩; exact absurd h q
  · rw [if_neg h]
    exact ⟨fun q => ⟨q, h⟩, fun q => q.1⟩
/-- the least member from a start on, or the end -/
def mt_nx (S : Nat → Prop) (e i r : Nat) : Prop := i ≤ r ∧ r ≤ e ∧ (∀ x, i ≤ x → x < r → ¬ S x) ∧ (r < e → S r)
theorem mt_sl64 : ∀ n, n < 64 → ((nI n &&& 31).toBitVec.smod 32).toNat = n % 32 := by decide +kernel
theorem mt_bit32 {p t : Nat} (hp : p < 2 ^ 31) (ht : t < 64) : (nI p >>> (nI t &&& 31)) &&& nI 1 = mt_b (p.testBit (t % 32)) := by
  rw [pk_shrN hp _ (t % 32) (mt_sl64 t ht), mt_and, Nat.and_one_is_mod, Nat.testBit_eq_decide_div_mod_eq]
  generalize p / 2 ^ (t % 32) = z
  by_cases h : z % 2 = 1
  · rw [h]; rfl
  · have h2 : z % 2 = 0 := by omega
    rw [h2]; rfl
theorem mt_b1 {x : Bool} {A : Prop} (f : x = true → A) : mt_b x = nI 1 → A := fun h => f ((mt_b_eq1 x).mp h)
theorem mt_nb1 {x : Bool} {A : Prop} (f : x = false → A) : ¬ mt_b x = nI 1 → A := fun h => f (by cases x; rfl; exact absurd rfl h)
theorem mt_bb {x y : Bool} {A : Prop} (f : x = y → A) : mt_b x = mt_b y → A := fun h => f (mt_b_inj h)
theorem mt_nbb {x y : Bool} {A : Prop} (f : x ≠ y → A) : ¬ mt_b x = mt_b y → A := fun h => f (fun q => h (by rw [q]))
theorem mt_c0 {x y : Int64} {A : Prop} (f : x = y → A) : lg_cmp x y = 0 → A := fun h => f ((lg_cmp_eq x y).mp h)
theorem mt_nc0 {x y : Int64} {A : Prop} (f : x ≠ y → A) : ¬ lg_cmp x y = 0 → A := fun h => f fun q => h ((lg_cmp_eq x y).mpr q)
