/-! The meaning of the types, by numbers: masks, profiles, the set of profiles (mt_R). -/
/-- the number whose bit t, t below n, is f t -/
def mt_ma (f : Nat → Bool) : Nat → Nat
  | 0 => 0
  | n + 1 => if f n then mt_ma f n ||| 2 ^ n else mt_ma f n
theorem mt_ma_bit (f : Nat → Bool) (n t : Nat) : (mt_ma f n).testBit t = (decide (t < n) && f t) := by
  induction n with
  | zero => simp [mt_ma]
  | succ n ih =>
    simp only [mt_ma]
    by_cases e : n = t
    · subst e
      by_cases h : f n = true
      · simp [h, Nat.testBit_or, ih, Nat.testBit_two_pow]
      · simp [h, ih]
    · have e2 : (t < n + 1) ↔ (t < n) := by omega
      by_cases h : f n = true
      · simp [h, Nat.testBit_or, ih, Nat.testBit_two_pow, e, e2]
      · simp [h, ih, e2]
theorem mt_ma_lt (f : Nat → Bool) (n : Nat) : mt_ma f n < 2 ^ n := by
  apply Nat.lt_pow_two_of_testBit
  intro i hi
  rw [mt_ma_bit]
  simp [Nat.not_lt.mpr hi]
theorem mt_ma_congr {f g : Nat → Bool} {n : Nat} (h : ∀ t, t < n → f t = g t) : mt_ma f n = mt_ma g n := by
  induction n with
  | zero => rfl
  | succ n ih => simp only [mt_ma, ih (fun t ht => h t (by omega)), h n (by omega)]
/-- whether an element lies in type t, by its profile below t; r tells the types of constants, products, arrows -/
def mt_in (k a b : Nat → Nat) (r : Nat → Bool) (t p : Nat) : Bool :=
  if k t = 3 then p.testBit (a t) || p.testBit (b t) else if k t = 4 then p.testBit (a t) && p.testBit (b t) else if k t = 5 then !p.testBit (a t) else if k t = 6 then true else r t
def mt_pf (k a b : Nat → Nat) (r : Nat → Bool) : Nat → Nat
  | 0 => 0
  | n + 1 => if mt_in k a b r n (mt_pf k a b r n) then mt_pf k a b r n ||| 2 ^ n else mt_pf k a b r n
theorem mt_pf_lt (k a b : Nat → Nat) (r : Nat → Bool) (n : Nat) : mt_pf k a b r n < 2 ^ n := by
  induction n with
  | zero => simp [mt_pf]
  | succ n ih =>
    simp only [mt_pf]
    have h2 : mt_pf k a b r n < 2 ^ (n + 1) := by rw [Nat.pow_succ]; omega
    split
    · exact Nat.or_lt_two_pow h2 (by rw [Nat.pow_succ]; have := Nat.two_pow_pos n; omega)
    · exact h2
theorem mt_pf_top (k a b : Nat → Nat) (r : Nat → Bool) (n t : Nat) : (mt_pf k a b r (n + 1)).testBit t = (if t = n then mt_in k a b r n (mt_pf k a b r n) else (mt_pf k a b r n).testBit t) := by
  have hz : (mt_pf k a b r n).testBit n = false := Nat.testBit_lt_two_pow (mt_pf_lt k a b r n)
  simp only [mt_pf]
  by_cases e : t = n
  · subst e
    by_cases h : mt_in k a b r t (mt_pf k a b r t) = true
    · simp [h, Nat.testBit_or, Nat.testBit_two_pow]
    · simp [h, hz]
  · have e' : ¬ n = t := fun q => e q.symm
    by_cases h : mt_in k a b r n (mt_pf k a b r n) = true
    · simp [h, Nat.testBit_or, Nat.testBit_two_pow, e, e']
    · simp [h, e]
theorem mt_pf_low (k a b : Nat → Nat) (r : Nat → Bool) {m n t : Nat} (ht : t < m) (h : m ≤ n) : (mt_pf k a b r n).testBit t = (mt_pf k a b r m).testBit t := by
  induction n with
  | zero => omega
  | succ n ih =>
    by_cases e : m = n + 1
    · rw [e]
    · rw [mt_pf_top, if_neg (by omega)]
      exact ih (by omega)
theorem mt_pf_bit (k a b : Nat → Nat) (r : Nat → Bool) {n t : Nat} (h : t < n) : (mt_pf k a b r n).testBit t = mt_in k a b r t (mt_pf k a b r t) := by
  rw [mt_pf_low k a b r (Nat.lt_succ_self t) h, mt_pf_top, if_pos rfl]
theorem mt_pf_mod (k a b : Nat → Nat) (r : Nat → Bool) {m n : Nat} (h : m ≤ n) : mt_pf k a b r n % 2 ^ m = mt_pf k a b r m := by
  apply Nat.eq_of_testBit_eq
  intro i
  rw [Nat.testBit_mod_two_pow]
  by_cases hi : i < m
  · simp [hi, mt_pf_low k a b r hi h]
  · have := Nat.testBit_lt_two_pow (Nat.lt_of_lt_of_le (mt_pf_lt k a b r m) (Nat.pow_le_pow_right (by decide) (Nat.not_lt.mp hi)))
    simp [hi, this]
/-- parts of a type are older; its kind is one of seven; a mask of constants has six bits -/
def mt_wf (k a b : Nat → Nat) (n : Nat) : Prop := ∀ t, t < n → k t ≤ 6 ∧ (k t ≠ 0 → k t ≠ 6 → a t < t ∧ b t < t) ∧ a t < 64 ∧ b t < 64
theorem mt_wf.le {k a b : Nat → Nat} {m n : Nat} (h : mt_wf k a b n) (hm : m ≤ n) : mt_wf k a b m := fun t ht => h t (by omega)
theorem mt_in_congr {k a b k' a' b' : Nat → Nat} {r r' : Nat → Bool} {t p : Nat} (hk : k t = k' t) (ha : a t = a' t) (hb : b t = b' t) (hr : r t = r' t) : mt_in k a b r t p = mt_in k' a' b' r' t p := by
  simp only [mt_in, hk, ha, hb, hr]
theorem mt_pf_congr {k a b k' a' b' : Nat → Nat} {r r' : Nat → Bool} {n : Nat} (h : ∀ t, t < n → k t = k' t ∧ a t = a' t ∧ b t = b' t) (hr : ∀ t, t < n → r t = r' t) : mt_pf k a b r n = mt_pf k' a' b' r' n := by
  induction n with
  | zero => rfl
  | succ n ih =>
    have e := ih (fun t ht => h t (by omega)) (fun t ht => hr t (by omega))
    obtain ⟨h1, h2, h3⟩ := h n (by omega)
    simp only [mt_pf, e, mt_in_congr (p := mt_pf k' a' b' r' n) h1 h2 h3 (hr n (by omega))]
theorem mt_pf_r {k a b : Nat → Nat} {r r' : Nat → Bool} {n : Nat} (hr : ∀ t, t < n → r t = r' t) : mt_pf k a b r n = mt_pf k a b r' n := mt_pf_congr (fun _ _ => ⟨rfl, rfl, rfl⟩) hr
/-! elements: constants, pairs, functions -/
def mt_rc (k a : Nat → Nat) (c t : Nat) : Bool := k t == 0 && (a t).testBit c
def mt_rp (k a b : Nat → Nat) (p q t : Nat) : Bool := k t == 1 && (p.testBit (a t) && q.testBit (b t))
def mt_rf (k : Nat → Nat) (bf : Nat → Bool) (t : Nat) : Bool := k t == 2 && !bf t
/-- the arrows that a step from p to q (none: to failure) breaks -/
def mt_hi (q : Option Nat) (i : Nat) : Bool := match q with
  | none => false
  | some r => r.testBit i
def mt_sf (a b : Nat → Nat) (p : Nat) (q : Option Nat) (t : Nat) : Bool := p.testBit (a t) && !mt_hi q (b t)
/-- what the steps of a function together break -/
def mt_BF (a b : Nat → Nat) (S : Nat → Prop) (bf : Nat → Bool) : Prop := ∀ X : (Nat → Bool) → Prop, X (fun _ => false) → (∀ (f : Nat → Bool) (p : Nat) (q : Option Nat), X f → S p → (∀ r, q = some r → S r) → X (fun t => f t || mt_sf a b p q t)) → X bf
theorem mt_BF_nil {a b : Nat → Nat} {S : Nat → Prop} : mt_BF a b S (fun _ => false) := fun _ h _ => h
theorem mt_BF_step {a b : Nat → Nat} {S : Nat → Prop} {f : Nat → Bool} {p : Nat} {q : Option Nat} (h : mt_BF a b S f) (hp : S p) (hq : ∀ r, q = some r → S r) : mt_BF a b S (fun t => f t || mt_sf a b p q t) := fun X h0 hs => hs f p q (h X h0 hs) hp hq
theorem mt_BF_or {a b : Nat → Nat} {S : Nat → Prop} {f g : Nat → Bool} (hf : mt_BF a b S f) (hg : mt_BF a b S g) : mt_BF a b S (fun t => f t || g t) := by
  refine hg (fun g => mt_BF a b S (fun t => f t || g t)) ?_ ?_
  · have e : (fun t => f t || false) = f := by funext t; simp
    show mt_BF a b S (fun t => f t || false)
    rw [e]; exact hf
  · intro g p q h hp hq
    have e : (fun t => f t || (g t || mt_sf a b p q t)) = (fun t => (f t || g t) || mt_sf a b p q t) := by funext t; rw [Bool.or_assoc]
    show mt_BF a b S (fun t => f t || (g t || mt_sf a b p q t))
    rw [e]; exact mt_BF_step h hp hq
theorem mt_BF_map {a b : Nat → Nat} {S S' : Nat → Prop} {E : Nat → Prop} (hg : ∀ p, S p → ∃ p', S' p' ∧ ∀ t, E t → p'.testBit (a t) = p.testBit (a t) ∧ p'.testBit (b t) = p.testBit (b t)) {bf : Nat → Bool} (h : mt_BF a b S bf) : ∃ bf', mt_BF a b S' bf' ∧ ∀ t, E t → bf' t = bf t := by
  refine h (fun f => ∃ bf', mt_BF a b S' bf' ∧ ∀ t, E t → bf' t = f t) ⟨_, mt_BF_nil, fun _ _ => rfl⟩ ?_
  rintro f p q ⟨g, hg1, hg2⟩ hp hq
  obtain ⟨p', hp1, hp2⟩ := hg p hp
  cases q with
  | none => exact ⟨_, mt_BF_step (q := none) hg1 hp1 (fun r hr => by cases hr), fun t ht => by simp only [mt_sf, mt_hi, hg2 t ht, (hp2 t ht).1]⟩
  | some r =>
    obtain ⟨r', hr1, hr2⟩ := hg r (hq r rfl)
    exact ⟨_, mt_BF_step (q := some r') hg1 hp1 (fun z hz => by cases hz; exact hr1), fun t ht => by simp only [mt_sf, mt_hi, hg2 t ht, (hp2 t ht).1, (hr2 t ht).2]⟩
theorem mt_BF_mono {a b : Nat → Nat} {S S' : Nat → Prop} (hg : ∀ p, S p → S' p) {bf : Nat → Bool} (h : mt_BF a b S bf) : mt_BF a b S' bf := by
  refine h (fun f => mt_BF a b S' f) mt_BF_nil ?_
  intro f p q hf hp hq
  exact mt_BF_step hf (hg p hp) (fun r hr => hg r (hq r hr))
/-- the profiles that elements have for the first n types -/
def mt_R (k a b : Nat → Nat) : Nat → Nat → Prop
  | 0, p => p = 0
  | n + 1, p => (∃ c, c < 6 ∧ p = mt_pf k a b (mt_rc k a c) (n + 1)) ∨ (∃ x y, mt_R k a b n x ∧ mt_R k a b n y ∧ p = mt_pf k a b (mt_rp k a b x y) (n + 1)) ∨ (∃ bf, mt_BF a b (mt_R k a b n) bf ∧ p = mt_pf k a b (mt_rf k bf) (n + 1))
theorem mt_R_lt {k a b : Nat → Nat} {n p : Nat} (h : mt_R k a b n p) : p < 2 ^ n := by
  cases n with
  | zero => have h : p = 0 := h; subst h; decide
  | succ n =>
    rcases h with ⟨c, -, rfl⟩ | ⟨x, y, -, -, rfl⟩ | ⟨bf, -, rfl⟩ <;> exact mt_pf_lt _ _ _ _ _
theorem mt_rp_mod {k a b : Nat → Nat} {m : Nat} (hw : mt_wf k a b (m + 1)) (x y : Nat) : ∀ t, t < m + 1 → mt_rp k a b x y t = mt_rp k a b (x % 2 ^ m) (y % 2 ^ m) t := by
  intro t ht
  by_cases h1 : k t = 1
  · obtain ⟨-, h2, -⟩ := hw t ht
    obtain ⟨h3, h4⟩ := h2 (by omega) (by omega)
    have h5 : a t < m := by omega
    have h6 : b t < m := by omega
    simp [mt_rp, Nat.testBit_mod_two_pow, h5, h6]
  · have e : (k t == 1) = false := beq_eq_false_iff_ne.mpr h1
    simp [mt_rp, e]
theorem mt_rf_congr {k : Nat → Nat} {f g : Nat → Bool} {n : Nat} (h : ∀ t, (t < n ∧ k t = 2) → f t = g t) : ∀ t, t < n → mt_rf k f t = mt_rf k g t := by
  intro t ht
  by_cases h1 : k t = 2
  · simp [mt_rf, h t ⟨ht, h1⟩]
  · have e : (k t == 2) = false := beq_eq_false_iff_ne.mpr h1
    simp [mt_rf, e]
theorem mt_BF_mod {k a b : Nat → Nat} {m : Nat} (hw : mt_wf k a b (m + 1)) {S S' : Nat → Prop} (hg : ∀ p, S p → S' (p % 2 ^ m)) {bf : Nat → Bool} (h : mt_BF a b S bf) : ∃ bf', mt_BF a b S' bf' ∧ ∀ t, (t < m + 1 ∧ k t = 2) → bf' t = bf t := by
  refine mt_BF_map (E := fun t => t < m + 1 ∧ k t = 2) (fun p hp => ⟨p % 2 ^ m, hg p hp, ?_⟩) h
  rintro t ⟨ht, hk⟩
  obtain ⟨-, h2, -⟩ := hw t ht
  obtain ⟨h3, h4⟩ := h2 (by omega) (by omega)
  have h5 : a t < m := by omega
  have h6 : b t < m := by omega
  simp [Nat.testBit_mod_two_pow, h5, h6]
theorem mt_R_cut {k a b : Nat → Nat} : ∀ (n : Nat), mt_wf k a b (n + 1) → ∀ p, mt_R k a b (n + 1) p → mt_R k a b n (p % 2 ^ n)
  | 0, _, p, _ => by
    show p % 2 ^ 0 = 0
    simp [Nat.mod_one]
  | m + 1, hw, p, h => by
    have ih := mt_R_cut m (hw.le (by omega))
    have hw' : mt_wf k a b (m + 1) := hw.le (by omega)
    rcases h with ⟨c, hc, rfl⟩ | ⟨x, y, hx, hy, rfl⟩ | ⟨bf, hbf, rfl⟩
    · exact Or.inl ⟨c, hc, mt_pf_mod _ _ _ _ (by omega)⟩
    · refine Or.inr (Or.inl ⟨x % 2 ^ m, y % 2 ^ m, ih x hx, ih y hy, ?_⟩)
      rw [mt_pf_mod _ _ _ _ (by omega)]
      exact mt_pf_r (mt_rp_mod hw' x y)
    · obtain ⟨bf', h1, h2⟩ := mt_BF_mod hw' ih hbf
      refine Or.inr (Or.inr ⟨bf', h1, ?_⟩)
      rw [mt_pf_mod _ _ _ _ (by omega)]
      exact (mt_pf_r (mt_rf_congr h2)).symm
/-- the set is closed under making constants, pairs and functions -/
theorem mt_R_c {k a b : Nat → Nat} {n c : Nat} (hc : c < 6) : mt_R k a b n (mt_pf k a b (mt_rc k a c) n) := by
  cases n with
  | zero => rfl
  | succ n => exact Or.inl ⟨c, hc, rfl⟩
theorem mt_R_p {k a b : Nat → Nat} {n x y : Nat} (hw : mt_wf k a b n) (hx : mt_R k a b n x) (hy : mt_R k a b n y) : mt_R k a b n (mt_pf k a b (mt_rp k a b x y) n) := by
  cases n with
  | zero => rfl
  | succ n => exact Or.inr (Or.inl ⟨x % 2 ^ n, y % 2 ^ n, mt_R_cut n hw x hx, mt_R_cut n hw y hy, mt_pf_r (mt_rp_mod hw x y)⟩)
theorem mt_R_f {k a b : Nat → Nat} {n : Nat} {bf : Nat → Bool} (hw : mt_wf k a b n) (h : mt_BF a b (mt_R k a b n) bf) : mt_R k a b n (mt_pf k a b (mt_rf k bf) n) := by
  cases n with
  | zero => rfl
  | succ n =>
    obtain ⟨bf', h1, h2⟩ := mt_BF_mod hw (mt_R_cut n hw) h
    exact Or.inr (Or.inr ⟨bf', h1, (mt_pf_r (mt_rf_congr h2)).symm⟩)
/-- a closed set holds all of it -/
theorem mt_R_least {k a b : Nat → Nat} {n : Nat} (hw : mt_wf k a b n) {S : Nat → Prop} (hc : ∀ c, c < 6 → S (mt_pf k a b (mt_rc k a c) n)) (hp : ∀ x y, S x → S y → S (mt_pf k a b (mt_rp k a b x y) n)) (hf : ∀ bf, mt_BF a b S bf → S (mt_pf k a b (mt_rf k bf) n)) :
    ∀ (j : Nat), j ≤ n → ∀ p, mt_R k a b j p → ∃ x, S x ∧ x % 2 ^ j = p
  | 0, _, p, h => ⟨_, hc 0 (by decide), by have h : p = 0 := h; rw [h]; simp [Nat.mod_one]⟩
  | j + 1, hj, p, h => by
    have ih := mt_R_least hw hc hp hf j (by omega)
    have hwj : mt_wf k a b (j + 1) := hw.le hj
    rcases h with ⟨c, h1, rfl⟩ | ⟨x, y, hx, hy, rfl⟩ | ⟨bf, hbf, rfl⟩
    · exact ⟨_, hc c h1, mt_pf_mod _ _ _ _ hj⟩
    · obtain ⟨x', sx, rfl⟩ := ih x hx
      obtain ⟨y', sy, rfl⟩ := ih y hy
      refine ⟨_, hp x' y' sx sy, ?_⟩
      rw [mt_pf_mod _ _ _ _ hj]
      exact mt_pf_r (mt_rp_mod hwj x' y')
    · obtain ⟨bf', h1, h2⟩ := mt_BF_map (S' := S) (E := fun t => t < j + 1 ∧ k t = 2) (fun p hp => by
        obtain ⟨x, sx, hx⟩ := ih p hp
        refine ⟨x, sx, ?_⟩
        rintro t ⟨ht, hk⟩
        obtain ⟨-, h2, -⟩ := hwj t ht
        obtain ⟨h3, h4⟩ := h2 (by omega) (by omega)
        have h5 : a t < j := by omega
        have h6 : b t < j := by omega
        subst hx
        simp [Nat.testBit_mod_two_pow, h5, h6]) hbf
      refine ⟨_, hf bf' h1, ?_⟩
      rw [mt_pf_mod _ _ _ _ hj]
      exact mt_pf_r (mt_rf_congr h2)
/-- the reference's rows: closed, and nothing but what elements have -/
theorem mt_R_is {k a b : Nat → Nat} {n : Nat} (hw : mt_wf k a b n) {S : Nat → Prop} (hc : ∀ c, c < 6 → S (mt_pf k a b (mt_rc k a c) n)) (hp : ∀ x y, S x → S y → S (mt_pf k a b (mt_rp k a b x y) n)) (hf : ∀ bf, mt_BF a b S bf → S (mt_pf k a b (mt_rf k bf) n)) (hs : ∀ p, S p → mt_R k a b n p) (p : Nat) : S p ↔ mt_R k a b n p := by
  refine ⟨hs p, fun h => ?_⟩
  obtain ⟨x, sx, rfl⟩ := mt_R_least hw hc hp hf n (Nat.le_refl n) p h
  rw [Nat.mod_eq_of_lt (mt_R_lt (hs x sx))]
  exact sx
theorem mt_R_congr {k a b k' a' b' : Nat → Nat} : ∀ (n : Nat), mt_wf k a b n → (∀ t, t < n → k t = k' t ∧ a t = a' t ∧ b t = b' t) → ∀ p, mt_R k a b n p ↔ mt_R k' a' b' n p
  | 0, _, _, p => Iff.rfl
  | n + 1, hw, h, p => by
    have ih := mt_R_congr n (hw.le (by omega)) (fun t ht => h t (by omega))
    have hS : mt_R k a b n = mt_R k' a' b' n := funext fun q => propext (ih q)
    have e1 : ∀ c, mt_pf k a b (mt_rc k a c) (n + 1) = mt_pf k' a' b' (mt_rc k' a' c) (n + 1) := fun c => mt_pf_congr h (fun t ht => by obtain ⟨h1, h2, h3⟩ := h t ht; simp only [mt_rc, h1, h2])
    have e2 : ∀ x y, mt_pf k a b (mt_rp k a b x y) (n + 1) = mt_pf k' a' b' (mt_rp k' a' b' x y) (n + 1) := fun x y => mt_pf_congr h (fun t ht => by obtain ⟨h1, h2, h3⟩ := h t ht; simp only [mt_rp, h1, h2, h3])
    have e3 : ∀ f g : Nat → Bool, (∀ t, t < n + 1 → f t = g t) → mt_pf k a b (mt_rf k f) (n + 1) = mt_pf k' a' b' (mt_rf k' g) (n + 1) := fun f g hfg => mt_pf_congr h (fun t ht => by obtain ⟨h1, h2, h3⟩ := h t ht; simp only [mt_rf, h1, hfg t ht])
    have e4 : ∀ {a b a' b' : Nat → Nat} {S : Nat → Prop} {bf : Nat → Bool}, (∀ t, t < n + 1 → a t = a' t ∧ b t = b' t) → mt_BF a b S bf → ∃ bf', mt_BF a' b' S bf' ∧ ∀ t, t < n + 1 → bf t = bf' t := by
      intro a b a' b' S bf hab hb
      refine hb (fun f => ∃ bf', mt_BF a' b' S bf' ∧ ∀ t, t < n + 1 → f t = bf' t) ⟨_, mt_BF_nil, fun _ _ => rfl⟩ ?_
      rintro f p q ⟨g, g1, g2⟩ hp hq
      refine ⟨_, mt_BF_step g1 hp hq, fun t ht => ?_⟩
      obtain ⟨h1, h2⟩ := hab t ht
      simp only [mt_sf, g2 t ht, h1, h2]
    constructor
    · rintro (⟨c, hc, rfl⟩ | ⟨x, y, hx, hy, rfl⟩ | ⟨bf, hbf, rfl⟩)
      · exact Or.inl ⟨c, hc, e1 c⟩
      · exact Or.inr (Or.inl ⟨x, y, (ih x).mp hx, (ih y).mp hy, e2 x y⟩)
      · rw [hS] at hbf
        obtain ⟨bf', h1, h2⟩ := e4 (a' := a') (b' := b') (fun t ht => (h t ht).2) hbf
        exact Or.inr (Or.inr ⟨bf', h1, e3 _ _ h2⟩)
    · rintro (⟨c, hc, rfl⟩ | ⟨x, y, hx, hy, rfl⟩ | ⟨bf, hbf, rfl⟩)
      · exact Or.inl ⟨c, hc, (e1 c).symm⟩
      · exact Or.inr (Or.inl ⟨x, y, (ih x).mpr hx, (ih y).mpr hy, (e2 x y).symm⟩)
      · rw [← hS] at hbf
        obtain ⟨bf', h1, h2⟩ := e4 (a' := a) (b' := b) (fun t ht => by obtain ⟨-, q1, q2⟩ := h t ht; exact ⟨q1.symm, q2.symm⟩) hbf
        exact Or.inr (Or.inr ⟨bf', h1, (e3 _ _ (fun t ht => (h2 t ht).symm)).symm⟩)
