/-! what the calls do, in numbers: types (n, kinds, first parts, second parts, depths, interfaces) and values (v, kinds, firsts, seconds, leaves) -/
abbrev gTS : Type := Nat × (Nat → Nat) × (Nat → Nat) × (Nat → Nat) × (Nat → Nat) × (Nat → Bool)
abbrev gVS : Type := Nat × (Nat → Nat) × (Nat → Nat) × (Nat → Nat) × (Nat → Nat)
def sp_addT (T : gTS) (kk x y d : Nat) (z : Bool) : gTS := match T with
  | (n, k, a, b, dp, fc) => (n + 1, va_up k n kk, va_up a n x, va_up b n y, va_up dp n d, va_up fc n z)
def sp_addV (V : gVS) (kk x y lv : Nat) : gVS := match V with
  | (v, vk, va, vb, vl) => (v + 1, va_up vk v kk, va_up va v x, va_up vb v y, va_up vl v lv)
/-- an int that is the number of a type, of a value -/
def sp_is (n : Nat) (x : Int32) (i : Nat) : Prop := i < n ∧ x = nI i
theorem sp_is_inj {n i j : Nat} {x : Int32} (hn : n ≤ 100) (h1 : sp_is n x i) (h2 : sp_is n x j) : i = j := (nI_eq (by have := h1.1; omega) (by have := h2.1; omega)).mp (h1.2.symm.trans h2.2)
def sp_cst (T : gTS) (x : Int32) (r : Int32) (T' : gTS) : Prop :=
  (∃ i, sp_is 64 x i ∧ T.1 < 12 ∧ r = nI T.1 ∧ T' = sp_addT T 0 i 0 0 false) ∨ (¬ (∃ i, sp_is 64 x i ∧ T.1 < 12) ∧ r = -1 ∧ T' = T)
def sp_any (T : gTS) (r : Int32) (T' : gTS) : Prop :=
  (T.1 < 12 ∧ r = nI T.1 ∧ T' = sp_addT T 6 0 0 0 false) ∨ (¬ T.1 < 12 ∧ r = -1 ∧ T' = T)
def sp_okc (T : gTS) (kk : Nat) (x y : Int32) (i j : Nat) : Prop := sp_is T.1 x i ∧ sp_is T.1 y j ∧ T.1 < 12 ∧ mt_dd kk (T.2.2.2.2.1 i) (T.2.2.2.2.1 j) ≤ 5
def sp_cmb (T : gTS) (kk : Nat) (x y : Int32) (r : Int32) (T' : gTS) : Prop :=
  (∃ i j, sp_okc T kk x y i j ∧ r = nI T.1 ∧ T' = sp_addT T kk i j (mt_dd kk (T.2.2.2.2.1 i) (T.2.2.2.2.1 j)) (mt_ic kk (T.2.2.2.2.2 i) (T.2.2.2.2.2 j))) ∨ (¬ (∃ i j, sp_okc T kk x y i j) ∧ r = -1 ∧ T' = T)
/-- the profiles of a state's types -/
def sp_R (T : gTS) (z : Nat) : Prop := mt_R T.2.1 T.2.2.1 T.2.2.2.1 T.1 z
def sp_in (T : gTS) (i j : Nat) : Prop := ∀ z, sp_R T z → z.testBit i = true → z.testBit j = true
def sp_emp (T : gTS) (x r : Int32) : Prop := ∃ q, r = mt_b q ∧ (q = true ↔ ∃ i, sp_is T.1 x i ∧ ∀ z, sp_R T z → ¬ z.testBit i = true)
def sp_wth (T : gTS) (x y r : Int32) : Prop := ∃ q, r = mt_b q ∧ (q = true ↔ ∃ i j, sp_is T.1 x i ∧ sp_is T.1 y j ∧ sp_in T i j)
def sp_cmp (T : gTS) (x y r : Int32) : Prop :=
  (¬ (∃ i j, sp_is T.1 x i ∧ sp_is T.1 y j) ∧ r = -1) ∨ ∃ i j, sp_is T.1 x i ∧ sp_is T.1 y j ∧
    ((sp_in T i j ∧ sp_in T j i ∧ r = nI 3) ∨ (sp_in T i j ∧ ¬ sp_in T j i ∧ r = nI 1) ∨ (¬ sp_in T i j ∧ sp_in T j i ∧ r = nI 2) ∨ (¬ sp_in T i j ∧ ¬ sp_in T j i ∧ (∃ z, sp_R T z ∧ z.testBit i = true ∧ z.testBit j = true) ∧ r = nI 0) ∨ (¬ sp_in T i j ∧ ¬ sp_in T j i ∧ ¬ (∃ z, sp_R T z ∧ z.testBit i = true ∧ z.testBit j = true) ∧ r = nI 4))
def sp_ans (T : gTS) (x y w r : Int32) : Prop := ∃ q, r = mt_b q ∧ (q = true ↔ ∃ i j h, sp_is T.1 x i ∧ sp_is T.1 y j ∧ sp_is T.1 w h ∧ mt_dd 2 (T.2.2.2.2.1 j) (T.2.2.2.2.1 h) ≤ 5 ∧ sp_in (sp_addT T 2 j h 0 false) i T.1)
def sp_con (V : gVS) (x r : Int32) (V' : gVS) : Prop :=
  (∃ i, sp_is 6 x i ∧ V.1 < 20 ∧ r = nI V.1 ∧ V' = sp_addV V 0 i 0 1) ∨ (¬ (∃ i, sp_is 6 x i ∧ V.1 < 20) ∧ r = -1 ∧ V' = V)
def sp_okp (V : gVS) (x y : Int32) (i j : Nat) : Prop := sp_is V.1 x i ∧ sp_is V.1 y j ∧ V.1 < 20 ∧ V.2.2.2.2 i + V.2.2.2.2 j ≤ 4
def sp_pai (V : gVS) (x y r : Int32) (V' : gVS) : Prop :=
  (∃ i j, sp_okp V x y i j ∧ r = nI V.1 ∧ V' = sp_addV V 1 i j (V.2.2.2.2 i + V.2.2.2.2 j)) ∨ (¬ (∃ i j, sp_okp V x y i j) ∧ r = -1 ∧ V' = V)
def sp_okf (T : gTS) (V : gVS) (x : Int32) (i : Nat) : Prop := sp_is T.1 x i ∧ T.2.2.2.2.2 i = true ∧ V.1 < 20
def sp_fun (T : gTS) (V : gVS) (x r : Int32) (V' : gVS) : Prop :=
  (∃ i, sp_okf T V x i ∧ r = nI V.1 ∧ V' = sp_addV V 2 i 0 1) ∨ (¬ (∃ i, sp_okf T V x i) ∧ r = -1 ∧ V' = V)
/-- value i belongs to type j -/
def sp_bel (T : gTS) (V : gVS) (i j : Nat) : Prop := ∀ z, mt_V T.2.1 T.2.2.1 T.2.2.2.1 V.2.1 V.2.2.1 V.2.2.2.1 T.1 4 i z → z.testBit j = true
def sp_blg (T : gTS) (V : gVS) (x y r : Int32) : Prop := ∃ q, r = mt_b q ∧ (q = true ↔ ∃ i j, sp_is V.1 x i ∧ sp_is T.1 y j ∧ sp_bel T V i j)
def sp_mat (T : gTS) (V : gVS) (x y w o r : Int32) : Prop :=
  (¬ (∃ i j h m, sp_is V.1 x i ∧ sp_is T.1 y j ∧ sp_is T.1 w h ∧ sp_is T.1 o m) ∧ r = -1) ∨ ∃ i j h m, sp_is V.1 x i ∧ sp_is T.1 y j ∧ sp_is T.1 w h ∧ sp_is T.1 o m ∧
    ((sp_bel T V i j ∧ r = nI 1) ∨ (¬ sp_bel T V i j ∧ sp_bel T V i h ∧ r = nI 2) ∨ (¬ sp_bel T V i j ∧ ¬ sp_bel T V i h ∧ sp_bel T V i m ∧ r = nI 3) ∨ (¬ sp_bel T V i j ∧ ¬ sp_bel T V i h ∧ ¬ sp_bel T V i m ∧ r = nI 0))
def sp_srt (T : gTS) (V : gVS) (x r : Int32) : Prop :=
  (¬ (∃ i, sp_is V.1 x i) ∧ r = -1) ∨ ∃ i f, sp_is V.1 x i ∧ (∀ t, t < T.1 → (f t = true ↔ sp_bel T V i t)) ∧ r = nI (mt_num f T.1)
def sp_cutn (n : Nat) (x : Int32) : Nat := if x < 0 then 0 else min n x.toNatClampNeg
def sp_cut (T : gTS) (x : Int32) : gTS := match T with
  | (n, k, a, b, dp, fc) => (sp_cutn n x, k, a, b, dp, fc)
def sp_cutV (V : gVS) : gVS := match V with
  | (_, vk, va, vb, vl) => (0, vk, va, vb, vl)
/-- the class's cells hold this state -/
abbrev gST : Type := (Nat → Nat → Int32) × Nat × Nat × (Nat → Nat) × (Nat → Nat → Int64)
def mt_CR (u : gST) (T : gTS) (V : gVS) : Prop := match u, T, V with
  | (I, n, v, us, ct), (n', k, a, b, dp, fc), (v', vk, va, vb, vl) => n = n' ∧ v = v' ∧ n ≤ 12 ∧ mt_TR I n k a b ∧ mt_TE I n dp fc ∧ mt_wf k a b n ∧ (∀ t, t < n → dp t ≤ 5) ∧ mt_RW us ct n k a b ∧ v ≤ 20 ∧ mt_VR I v vk va vb vl ∧ mt_vw n v vk va vb vl
/-- a type more, in the class -/
theorem mt_CR_addT {I J : Nat → Nat → Int32} {n v : Nat} {us us' : Nat → Nat} {ct ct' : Nat → Nat → Int64} {k a b dp vk va vb vl : Nat → Nat} {fc : Nat → Bool} {kk x y yb d : Nat} {z : Bool} (hC : mt_CR (I, n, v, us, ct) (n, k, a, b, dp, fc) (v, vk, va, vb, vl)) (hn : n < 12) (hJ : mt_IN I n kk x y d z J) (hy : kk ≠ 0 → yb = y) (hd : d ≤ 5) (hw : mt_wf (va_up k n kk) (va_up a n x) (va_up b n yb) (n + 1)) (hR : mt_RW us' ct' (n + 1) (va_up k n kk) (va_up a n x) (va_up b n yb)) :
    mt_CR (J, n + 1, v, us', ct') (sp_addT (n, k, a, b, dp, fc) kk x yb d z) (v, vk, va, vb, vl) := by
  obtain ⟨-, -, c1, c2, c3, c4, c5, c6, c7, c8, c9⟩ := hC
  have hT : mt_TR I n (va_up k n kk) (va_up a n x) (va_up b n yb) := fun t ht => by
    rw [va_up_ne _ _ (by omega), va_up_ne _ _ (by omega), va_up_ne _ _ (by omega)]
    exact c2 t ht
  refine ⟨rfl, rfl, by omega, mt_TR_add hJ hT (va_up_self _ _ _) (va_up_self _ _ _) (fun h => by rw [va_up_self]; exact hy h), ?_, hw, ?_, hR, c7, ?_, ?_⟩
  · intro t ht
    by_cases e : t = n
    · subst e
      rw [va_up_self, va_up_self]
      exact ⟨hJ.2.2.2.2.1, hJ.2.2.2.2.2⟩
    · rw [va_up_ne _ _ e, va_up_ne _ _ e, hJ.1 3 t (Or.inl e), hJ.1 4 t (Or.inl e)]
      exact c3 t (by omega)
  · intro t ht
    by_cases e : t = n
    · subst e; rw [va_up_self]; exact hd
    · rw [va_up_ne _ _ e]; exact c5 t (by omega)
  · intro i hi
    rw [hJ.1 5 i (Or.inr (by decide)), hJ.1 6 i (Or.inr (by decide)), hJ.1 7 i (Or.inr (by decide)), hJ.1 8 i (Or.inr (by decide))]
    exact c8 i hi
  · intro i hi
    obtain ⟨q1, q2, q3, q4, q5⟩ := c9 i hi
    exact ⟨q1, q2, q3, fun h => by have := q4 h; omega, q5⟩
theorem mt_wf_add {k a b : Nat → Nat} {n kk x y : Nat} (hw : mt_wf k a b n) (hk : kk ≤ 6) (hxy : kk ≠ 0 → kk ≠ 6 → x < n ∧ y < n) (hx : x < 64) (hy : y < 64) : mt_wf (va_up k n kk) (va_up a n x) (va_up b n y) (n + 1) := by
  intro t ht
  by_cases e : t = n
  · subst e
    rw [va_up_self, va_up_self, va_up_self]
    exact ⟨hk, hxy, hx, hy⟩
  · rw [va_up_ne _ _ e, va_up_ne _ _ e, va_up_ne _ _ e]
    exact hw t (by omega)
theorem mt_RW_up {us : Nat → Nat} {ct : Nat → Nat → Int64} {n kk x y : Nat} {k a b : Nat → Nat} (h : mt_RW us ct n k a b) (hw : mt_wf k a b n) : mt_RW us ct n (va_up k n kk) (va_up a n x) (va_up b n y) := by
  intro j hj
  refine ⟨(h j hj).1, fun z => ((h j hj).2 z).trans (mt_R_congr j (hw.le hj) (fun t ht => ?_) z)⟩
  rw [va_up_ne _ _ (by omega), va_up_ne _ _ (by omega), va_up_ne _ _ (by omega)]
  exact ⟨rfl, rfl, rfl⟩
theorem mt_TR_up {I : Nat → Nat → Int32} {n kk x y : Nat} {k a b : Nat → Nat} (h : mt_TR I n k a b) : mt_TR I n (va_up k n kk) (va_up a n x) (va_up b n y) := fun t ht => by
  rw [va_up_ne _ _ (by omega), va_up_ne _ _ (by omega), va_up_ne _ _ (by omega)]
  exact h t ht
/-- a value more, in the class -/
theorem mt_CR_addV {I J : Nat → Nat → Int32} {n v : Nat} {us : Nat → Nat} {ct : Nat → Nat → Int64} {k a b dp vk va vb vl : Nat → Nat} {fc : Nat → Bool} {kk x y yb lv : Nat} (hC : mt_CR (I, n, v, us, ct) (n, k, a, b, dp, fc) (v, vk, va, vb, vl)) (hv : v < 20) (hJ : mt_VN I v kk x y lv J) (hy : kk = 1 → yb = y) (hk : kk ≤ 2) (h0 : kk = 0 → x < 6) (h1 : kk = 1 → x < v ∧ y < v ∧ lv = vl x + vl y) (h2 : kk = 2 → x < n) (hl : 1 ≤ lv ∧ lv ≤ 4) :
    mt_CR (J, n, v + 1, us, ct) (n, k, a, b, dp, fc) (sp_addV (v, vk, va, vb, vl) kk x yb lv) := by
  obtain ⟨-, -, c1, c2, c3, c4, c5, c6, c7, c8, c9⟩ := hC
  refine ⟨rfl, rfl, c1, ?_, ?_, c4, c5, c6, by omega, ?_, ?_⟩
  · intro t ht
    rw [hJ.1 0 t (Or.inr (by decide)), hJ.1 1 t (Or.inr (by decide)), hJ.1 2 t (Or.inr (by decide))]
    exact c2 t ht
  · intro t ht
    rw [hJ.1 3 t (Or.inr (by decide)), hJ.1 4 t (Or.inr (by decide))]
    exact c3 t ht
  · intro i hi
    by_cases e : i = v
    · subst e
      rw [va_up_self, va_up_self, va_up_self, va_up_self]
      exact ⟨hJ.2.1, hJ.2.2.1, hJ.2.2.2.2, fun h => by rw [hJ.2.2.2.1, hy h]⟩
    · rw [va_up_ne _ _ e, va_up_ne _ _ e, va_up_ne _ _ e, va_up_ne _ _ e, hJ.1 5 i (Or.inl e), hJ.1 6 i (Or.inl e), hJ.1 7 i (Or.inl e), hJ.1 8 i (Or.inl e)]
      exact c8 i (by omega)
  · intro i hi
    by_cases e : i = v
    · subst e
      rw [va_up_self, va_up_self, va_up_self, va_up_self]
      refine ⟨hk, h0, fun h => ?_, h2, hl.1, hl.2⟩
      obtain ⟨q1, q2, q3⟩ := h1 h
      rw [hy h]
      exact ⟨q1, q2, by rw [va_up_ne _ _ (by omega), va_up_ne _ _ (by omega)]; exact q3⟩
    · have hi' : i < v := by omega
      obtain ⟨q1, q2, q3, q4, q5⟩ := c9 i hi'
      rw [va_up_ne _ _ e, va_up_ne _ _ e, va_up_ne _ _ e, va_up_ne _ _ e]
      refine ⟨q1, q2, fun h => ?_, q4, q5⟩
      obtain ⟨r1, r2, r3⟩ := q3 h
      exact ⟨r1, r2, by rw [va_up_ne _ _ (by omega), va_up_ne _ _ (by omega)]; exact r3⟩
