/-- the values that the class holds -/
def mt_VR (I : Nat → Nat → Int32) (v : Nat) (vk va vb vl : Nat → Nat) : Prop := ∀ i, i < v → I 5 i = nI (vk i) ∧ I 6 i = nI (va i) ∧ I 8 i = nI (vl i) ∧ (vk i = 1 → I 7 i = nI (vb i))
def mt_vw (n v : Nat) (vk va vb vl : Nat → Nat) : Prop := ∀ i, i < v → vk i ≤ 2 ∧ (vk i = 0 → va i < 6) ∧ (vk i = 1 → va i < i ∧ vb i < i ∧ vl i = vl (va i) + vl (vb i)) ∧ (vk i = 2 → va i < n) ∧ 1 ≤ vl i ∧ vl i ≤ 4
theorem mt_has_t {x : Int32} {v : Nat} (h0 : ¬ x < 0) (h1 : ¬ nI v ≤ x) : ∃ j, j < v ∧ x = nI j := by
  obtain ⟨j, h2, h3⟩ := nI_of h0
  subst h3
  refine ⟨j, Nat.not_le.mp fun q => h1 (nI_le q h2), rfl⟩
def mt_VN (I : Nat → Nat → Int32) (v kk x y lv : Nat) (J : Nat → Nat → Int32) : Prop := (∀ j t, (t ≠ v ∨ j < 5) → J j t = I j t) ∧ J 5 v = nI kk ∧ J 6 v = nI x ∧ J 7 v = nI y ∧ J 8 v = nI lv
theorem mt_VN_of {I : Nat → Nat → Int32} {v kk x y lv : Nat} : mt_VN I v kk x y lv (va_up (va_up (va_up (va_up I 5 (upd (I 5) v (nI kk))) 6 (upd (I 6) v (nI x))) 7 (upd (I 7) v (nI y))) 8 (upd (I 8) v (nI lv))) := by
  refine ⟨fun j t h => ?_, pk_us, pk_us, pk_us, pk_us⟩
  by_cases e3 : j = 8
  · subst e3; rw [va_up_self]; exact pk_un (by omega)
  · rw [va_up_ne _ _ e3]
    by_cases e2 : j = 7
    · subst e2; rw [va_up_self]; exact pk_un (by omega)
    · rw [va_up_ne _ _ e2]
      by_cases e1 : j = 6
      · subst e1; rw [va_up_self]; exact pk_un (by omega)
      · rw [va_up_ne _ _ e1]
        by_cases e0 : j = 5
        · subst e0; rw [va_up_self]; exact pk_un (by omega)
        · rw [va_up_ne _ _ e0]
/-- the profiles of the elements of a value's sort; the first number bounds how deep pairs stand in one another -/
def mt_V (k a b vk va vb : Nat → Nat) (n : Nat) : Nat → Nat → Nat → Prop
  | 0, _, _ => False
  | f + 1, i, z => (vk i = 0 ∧ z = mt_pf k a b (mt_rc k a (va i)) n) ∨ (vk i = 2 ∧ mt_R k a b n z ∧ z.testBit (va i) = true) ∨ (vk i = 1 ∧ ∃ x y, mt_V k a b vk va vb n f (va i) x ∧ mt_V k a b vk va vb n f (vb i) y ∧ z = mt_pf k a b (mt_rp k a b x y) n)
theorem mt_V_lt {k a b vk va vb : Nat → Nat} {n f i z : Nat} (h : mt_V k a b vk va vb n f i z) : z < 2 ^ n := by
  cases f with
  | zero => exact h.elim
  | succ f =>
    rcases h with ⟨-, rfl⟩ | ⟨-, h, -⟩ | ⟨-, x, y, -, -, rfl⟩
    · exact mt_pf_lt _ _ _ _ _
    · exact mt_R_lt h
    · exact mt_pf_lt _ _ _ _ _
theorem mt_V_fuel {k a b vk va vb vl : Nat → Nat} {n v : Nat} (hw : mt_vw n v vk va vb vl) : ∀ (f f' i : Nat), i < v → vl i ≤ f → vl i ≤ f' → ∀ z, mt_V k a b vk va vb n f i z ↔ mt_V k a b vk va vb n f' i z
  | 0, f', i, hi, h1, h2, z => by have := (hw i hi).2.2.2.2.1; omega
  | f + 1, 0, i, hi, h1, h2, z => by have := (hw i hi).2.2.2.2.1; omega
  | f + 1, f' + 1, i, hi, h1, h2, z => by
    obtain ⟨w1, w2, w3, w4, w5, w6⟩ := hw i hi
    have key : vk i = 1 → (∀ x, mt_V k a b vk va vb n f (va i) x ↔ mt_V k a b vk va vb n f' (va i) x) ∧ (∀ x, mt_V k a b vk va vb n f (vb i) x ↔ mt_V k a b vk va vb n f' (vb i) x) := by
      intro e
      obtain ⟨q1, q2, q3⟩ := w3 e
      have q4 := (hw (va i) (by omega)).2.2.2.2.1
      have q5 := (hw (vb i) (by omega)).2.2.2.2.1
      exact ⟨mt_V_fuel hw f f' (va i) (by omega) (by omega) (by omega), mt_V_fuel hw f f' (vb i) (by omega) (by omega) (by omega)⟩
    constructor
    · rintro (h | h | ⟨h, x, y, h3, h4, h5⟩)
      · exact Or.inl h
      · exact Or.inr (Or.inl h)
      · exact Or.inr (Or.inr ⟨h, x, y, ((key h).1 x).mp h3, ((key h).2 y).mp h4, h5⟩)
    · rintro (h | h | ⟨h, x, y, h3, h4, h5⟩)
      · exact Or.inl h
      · exact Or.inr (Or.inl h)
      · exact Or.inr (Or.inr ⟨h, x, y, ((key h).1 x).mpr h3, ((key h).2 y).mpr h4, h5⟩)
theorem mt_RW_fr {us us' : Nat → Nat} {ct ct' : Nat → Nat → Int64} {n : Nat} {k a b : Nat → Nat} (h : mt_RW us ct n k a b) (hf : ∀ q, q ≤ n → us' q = us q ∧ ct' q = ct q) : mt_RW us' ct' n k a b := by
  intro j hj
  rw [(hf j hj).1, (hf j hj).2]
  exact h j hj
/-- which sets a filling at level L of the set h may change -/
def mt_ch (L h q : Nat) : Prop := q = h ∨ (14 ≤ q ∧ q ≤ 16) ∨ (19 + L ≤ q ∧ q ≤ 21) ∨ 22 + L ≤ q
abbrev gUC : Type := (Nat → Nat) × (Nat → Nat → Int64)
theorem mt_Vc {k a b vk va vb : Nat → Nat} {n f i : Nat} {T0 T : Nat → Prop} (hk : vk i = 0) (h0 : ∀ z, ¬ T0 z) (h : ∀ z, T z ↔ (T0 z ∨ z = mt_pf k a b (mt_rc k a (va i)) n)) (z : Nat) : T z ↔ mt_V k a b vk va vb n (f + 1) i z := by
  rw [h]
  constructor
  · intro h1
    rcases h1 with h1 | h1
    · exact absurd h1 (h0 z)
    · exact Or.inl ⟨hk, h1⟩
  · rintro (⟨-, h1⟩ | ⟨h1, -⟩ | ⟨h1, -⟩)
    · exact Or.inr h1
    · omega
    · omega
theorem mt_Vf {k a b vk va vb : Nat → Nat} {n f i : Nat} {T0 T S : Nat → Prop} (hk : vk i = 2) (hS : ∀ z, S z ↔ mt_R k a b n z) (h0 : ∀ z, ¬ T0 z) (h : ∀ z, T z ↔ (T0 z ∨ (S z ∧ z.testBit (va i) = true))) (z : Nat) : T z ↔ mt_V k a b vk va vb n (f + 1) i z := by
  rw [h]
  constructor
  · intro h1
    rcases h1 with h1 | ⟨h1, h2⟩
    · exact absurd h1 (h0 z)
    · exact Or.inr (Or.inl ⟨hk, (hS z).mp h1, h2⟩)
  · rintro (⟨h1, -⟩ | ⟨-, h1, h2⟩ | ⟨h1, -⟩)
    · omega
    · exact Or.inr ⟨(hS z).mpr h1, h2⟩
    · omega
theorem mt_Vp {k a b vk va vb : Nat → Nat} {n f i : Nat} {T0 T X Y : Nat → Prop} (hk : vk i = 1) (hX : ∀ z, X z ↔ mt_V k a b vk va vb n f (va i) z) (hY : ∀ z, Y z ↔ mt_V k a b vk va vb n f (vb i) z) (h0 : ∀ z, ¬ T0 z) (h : ∀ z, T z ↔ (T0 z ∨ ∃ x y, X x ∧ Y y ∧ z = mt_pf k a b (mt_rp k a b x y) n)) (z : Nat) : T z ↔ mt_V k a b vk va vb n (f + 1) i z := by
  rw [h]
  constructor
  · intro h1
    rcases h1 with h1 | ⟨x, y, h1, h2, h3⟩
    · exact absurd h1 (h0 z)
    · exact Or.inr (Or.inr ⟨hk, x, y, (hX x).mp h1, (hY y).mp h2, h3⟩)
  · rintro (⟨h1, -⟩ | ⟨h1, -⟩ | ⟨-, x, y, h1, h2, h3⟩)
    · omega
    · omega
    · exact Or.inr ⟨x, y, (hX x).mpr h1, (hY y).mpr h2, h3⟩
def mt_sh (S : Nat → Prop) (n q w : Nat) : Prop := ∀ t, w.testBit t = true ↔ (t < n ∧ ∀ z, (z < q ∧ S z) → z.testBit t = true)
theorem mt_sh_lt {S : Nat → Prop} {n q w : Nat} (h : mt_sh S n q w) : w < 2 ^ n := by
  apply Nat.lt_pow_two_of_testBit
  intro i hi
  cases e : w.testBit i
  · rfl
  · have := ((h i).mp e).1
    omega
theorem mt_sh_0 {S : Nat → Prop} {n e q : Nat} (hn : mt_nx S e 0 q) : mt_sh S n q (2 ^ n - 1) := by
  intro t
  rw [Nat.testBit_two_pow_sub_one, decide_eq_true_iff]
  exact ⟨fun h => ⟨h, fun z hz => absurd hz (mt_nx_0 hn z)⟩, fun h => h.1⟩
theorem mt_sh_s {S : Nat → Prop} {n e q q' w : Nat} (h : mt_sh S n q w) (hS : S q) (hn : mt_nx S e (q + 1) q') : mt_sh S n q' (w &&& q) := by
  intro t
  rw [Nat.testBit_and, Bool.and_eq_true, h t]
  constructor
  · rintro ⟨⟨h1, h2⟩, h3⟩
    refine ⟨h1, fun z hz => ?_⟩
    rcases (mt_nx_s hn hS z).mp hz with h4 | h4
    · exact h2 z h4
    · rw [h4]; exact h3
  · rintro ⟨h1, h2⟩
    exact ⟨⟨h1, fun z hz => h2 z ((mt_nx_s hn hS z).mpr (Or.inl hz))⟩, h2 q ((mt_nx_s hn hS q).mpr (Or.inr rfl))⟩
theorem mt_sh_e {u n q w : Nat} {f : Nat → Int64} {V : Nat → Prop} (h : mt_sh (mt_el u f) n q w) (he : 64 * u ≤ q) (hV : ∀ z, mt_el u f z ↔ V z) (t : Nat) : w.testBit t = true ↔ (t < n ∧ ∀ z, V z → z.testBit t = true) := by
  rw [h t]
  constructor
  · rintro ⟨h1, h2⟩
    exact ⟨h1, fun z hz => h2 z ⟨by have := ((hV z).mpr hz).1; omega, (hV z).mpr hz⟩⟩
  · rintro ⟨h1, h2⟩
    exact ⟨h1, fun z hz => h2 z ((hV z).mp hz.2)⟩
theorem d_VT_init_0 : decode b_VT_init 0 = .ok (.aload_n 0, 1) := by decide +kernel
theorem d_VT_init_1 : decode b_VT_init 1 = .ok (.invokespecial 3, 3) := by decide +kernel
theorem d_VT_init_4 : decode b_VT_init 4 = .ok (.aload_n 0, 1) := by decide +kernel
theorem d_VT_init_5 : decode b_VT_init 5 = .ok (.bipush 20, 2) := by decide +kernel
theorem d_VT_init_7 : decode b_VT_init 7 = .ok (.newarray .int, 2) := by decide +kernel
theorem d_VT_init_9 : decode b_VT_init 9 = .ok (.putfield 9, 3) := by decide +kernel
theorem d_VT_init_12 : decode b_VT_init 12 = .ok (.aload_n 0, 1) := by decide +kernel
theorem d_VT_init_13 : decode b_VT_init 13 = .ok (.bipush 20, 2) := by decide +kernel
theorem d_VT_init_15 : decode b_VT_init 15 = .ok (.newarray .int, 2) := by decide +kernel
theorem d_VT_init_17 : decode b_VT_init 17 = .ok (.putfield 15, 3) := by decide +kernel
theorem d_VT_init_20 : decode b_VT_init 20 = .ok (.aload_n 0, 1) := by decide +kernel
theorem d_VT_init_21 : decode b_VT_init 21 = .ok (.bipush 20, 2) := by decide +kernel
theorem d_VT_init_23 : decode b_VT_init 23 = .ok (.newarray .int, 2) := by decide +kernel
theorem d_VT_init_25 : decode b_VT_init 25 = .ok (.putfield 18, 3) := by decide +kernel
theorem d_VT_init_28 : decode b_VT_init 28 = .ok (.aload_n 0, 1) := by decide +kernel
theorem d_VT_init_29 : decode b_VT_init 29 = .ok (.bipush 20, 2) := by decide +kernel
theorem d_VT_init_31 : decode b_VT_init 31 = .ok (.newarray .int, 2) := by decide +kernel
theorem d_VT_init_33 : decode b_VT_init 33 = .ok (.putfield 21, 3) := by decide +kernel
theorem d_VT_init_36 : decode b_VT_init 36 = .ok (.aload_n 0, 1) := by decide +kernel
theorem d_VT_init_37 : decode b_VT_init 37 = .ok (.new 24, 3) := by decide +kernel
theorem d_VT_init_40 : decode b_VT_init 40 = .ok (.dup, 1) := by decide +kernel
theorem d_VT_init_41 : decode b_VT_init 41 = .ok (.bipush 12, 2) := by decide +kernel
theorem d_VT_init_43 : decode b_VT_init 43 = .ok (.invokespecial 26, 3) := by decide +kernel
theorem d_VT_init_46 : decode b_VT_init 46 = .ok (.putfield 29, 3) := by decide +kernel
theorem d_VT_init_49 : decode b_VT_init 49 = .ok (.aload_n 0, 1) := by decide +kernel
theorem d_VT_init_50 : decode b_VT_init 50 = .ok (.iconst 3, 1) := by decide +kernel
theorem d_VT_init_51 : decode b_VT_init 51 = .ok (.anewarray 24, 3) := by decide +kernel
theorem d_VT_init_54 : decode b_VT_init 54 = .ok (.putfield 33, 3) := by decide +kernel
theorem d_VT_init_57 : decode b_VT_init 57 = .ok (.aload_n 0, 1) := by decide +kernel
theorem d_VT_init_58 : decode b_VT_init 58 = .ok (.iconst 3, 1) := by decide +kernel
theorem d_VT_init_59 : decode b_VT_init 59 = .ok (.anewarray 24, 3) := by decide +kernel
theorem d_VT_init_62 : decode b_VT_init 62 = .ok (.putfield 37, 3) := by decide +kernel
theorem d_VT_init_65 : decode b_VT_init 65 = .ok (.iconst 0, 1) := by decide +kernel
theorem d_VT_init_66 : decode b_VT_init 66 = .ok (.istore_n 1, 1) := by decide +kernel
theorem d_VT_init_67 : decode b_VT_init 67 = .ok (.iload_n 1, 1) := by decide +kernel
theorem d_VT_init_68 : decode b_VT_init 68 = .ok (.iconst 3, 1) := by decide +kernel
theorem d_VT_init_69 : decode b_VT_init 69 = .ok (.if_icmp .ge 39, 3) := by decide +kernel
theorem d_VT_init_72 : decode b_VT_init 72 = .ok (.aload_n 0, 1) := by decide +kernel
theorem d_VT_init_73 : decode b_VT_init 73 = .ok (.getfield 33, 3) := by decide +kernel
theorem d_VT_init_76 : decode b_VT_init 76 = .ok (.iload_n 1, 1) := by decide +kernel
theorem d_VT_init_77 : decode b_VT_init 77 = .ok (.new 24, 3) := by decide +kernel
theorem d_VT_init_80 : decode b_VT_init 80 = .ok (.dup, 1) := by decide +kernel
theorem d_VT_init_81 : decode b_VT_init 81 = .ok (.bipush 12, 2) := by decide +kernel
theorem d_VT_init_83 : decode b_VT_init 83 = .ok (.invokespecial 26, 3) := by decide +kernel
theorem d_VT_init_86 : decode b_VT_init 86 = .ok (.aastore, 1) := by decide +kernel
theorem d_VT_init_87 : decode b_VT_init 87 = .ok (.aload_n 0, 1) := by decide +kernel
theorem d_VT_init_88 : decode b_VT_init 88 = .ok (.getfield 37, 3) := by decide +kernel
theorem d_VT_init_91 : decode b_VT_init 91 = .ok (.iload_n 1, 1) := by decide +kernel
theorem d_VT_init_92 : decode b_VT_init 92 = .ok (.new 24, 3) := by decide +kernel
theorem d_VT_init_95 : decode b_VT_init 95 = .ok (.dup, 1) := by decide +kernel
theorem d_VT_init_96 : decode b_VT_init 96 = .ok (.bipush 12, 2) := by decide +kernel
theorem d_VT_init_98 : decode b_VT_init 98 = .ok (.invokespecial 26, 3) := by decide +kernel
theorem d_VT_init_101 : decode b_VT_init 101 = .ok (.aastore, 1) := by decide +kernel
theorem d_VT_init_102 : decode b_VT_init 102 = .ok (.iinc 1 1, 3) := by decide +kernel
theorem d_VT_init_105 : decode b_VT_init 105 = .ok (.goto (-38), 3) := by decide +kernel
theorem d_VT_init_108 : decode b_VT_init 108 = .ok (.return_, 1) := by decide +kernel
theorem d_VT_has_0 : decode b_VT_has 0 = .ok (.iload_n 1, 1) := by decide +kernel
theorem d_VT_has_1 : decode b_VT_has 1 = .ok (.ifCond .lt 15, 3) := by decide +kernel
theorem d_VT_has_4 : decode b_VT_has 4 = .ok (.iload_n 1, 1) := by decide +kernel
theorem d_VT_has_5 : decode b_VT_has 5 = .ok (.aload_n 0, 1) := by decide +kernel
theorem d_VT_has_6 : decode b_VT_has 6 = .ok (.getfield 40, 3) := by decide +kernel
theorem d_VT_has_9 : decode b_VT_has 9 = .ok (.if_icmp .ge 7, 3) := by decide +kernel
theorem d_VT_has_12 : decode b_VT_has 12 = .ok (.iconst 1, 1) := by decide +kernel
theorem d_VT_has_13 : decode b_VT_has 13 = .ok (.goto 4, 3) := by decide +kernel
theorem d_VT_has_16 : decode b_VT_has 16 = .ok (.iconst 0, 1) := by decide +kernel
theorem d_VT_has_17 : decode b_VT_has 17 = .ok (.ireturn, 1) := by decide +kernel
theorem d_VT_add_0 : decode b_VT_add 0 = .ok (.aload_n 0, 1) := by decide +kernel
theorem d_VT_add_1 : decode b_VT_add 1 = .ok (.getfield 40, 3) := by decide +kernel
theorem d_VT_add_4 : decode b_VT_add 4 = .ok (.istore 5, 2) := by decide +kernel
theorem d_VT_add_6 : decode b_VT_add 6 = .ok (.aload_n 0, 1) := by decide +kernel
theorem d_VT_add_7 : decode b_VT_add 7 = .ok (.getfield 9, 3) := by decide +kernel
theorem d_VT_add_10 : decode b_VT_add 10 = .ok (.iload 5, 2) := by decide +kernel
theorem d_VT_add_12 : decode b_VT_add 12 = .ok (.iload_n 1, 1) := by decide +kernel
theorem d_VT_add_13 : decode b_VT_add 13 = .ok (.iastore, 1) := by decide +kernel
theorem d_VT_add_14 : decode b_VT_add 14 = .ok (.aload_n 0, 1) := by decide +kernel
theorem d_VT_add_15 : decode b_VT_add 15 = .ok (.getfield 15, 3) := by decide +kernel
theorem d_VT_add_18 : decode b_VT_add 18 = .ok (.iload 5, 2) := by decide +kernel
theorem d_VT_add_20 : decode b_VT_add 20 = .ok (.iload_n 2, 1) := by decide +kernel
theorem d_VT_add_21 : decode b_VT_add 21 = .ok (.iastore, 1) := by decide +kernel
theorem d_VT_add_22 : decode b_VT_add 22 = .ok (.aload_n 0, 1) := by decide +kernel
theorem d_VT_add_23 : decode b_VT_add 23 = .ok (.getfield 18, 3) := by decide +kernel
theorem d_VT_add_26 : decode b_VT_add 26 = .ok (.iload 5, 2) := by decide +kernel
theorem d_VT_add_28 : decode b_VT_add 28 = .ok (.iload_n 3, 1) := by decide +kernel
theorem d_VT_add_29 : decode b_VT_add 29 = .ok (.iastore, 1) := by decide +kernel
theorem d_VT_add_30 : decode b_VT_add 30 = .ok (.aload_n 0, 1) := by decide +kernel
theorem d_VT_add_31 : decode b_VT_add 31 = .ok (.getfield 21, 3) := by decide +kernel
theorem d_VT_add_34 : decode b_VT_add 34 = .ok (.iload 5, 2) := by decide +kernel
theorem d_VT_add_36 : decode b_VT_add 36 = .ok (.iload 4, 2) := by decide +kernel
theorem d_VT_add_38 : decode b_VT_add 38 = .ok (.iastore, 1) := by decide +kernel
theorem d_VT_add_39 : decode b_VT_add 39 = .ok (.aload_n 0, 1) := by decide +kernel
theorem d_VT_add_40 : decode b_VT_add 40 = .ok (.dup, 1) := by decide +kernel
theorem d_VT_add_41 : decode b_VT_add 41 = .ok (.getfield 40, 3) := by decide +kernel
theorem d_VT_add_44 : decode b_VT_add 44 = .ok (.iconst 1, 1) := by decide +kernel
theorem d_VT_add_45 : decode b_VT_add 45 = .ok (.iadd, 1) := by decide +kernel
theorem d_VT_add_46 : decode b_VT_add 46 = .ok (.putfield 40, 3) := by decide +kernel
theorem d_VT_add_49 : decode b_VT_add 49 = .ok (.iload 5, 2) := by decide +kernel
theorem d_VT_add_51 : decode b_VT_add 51 = .ok (.ireturn, 1) := by decide +kernel
theorem d_VT_typesOf_0 : decode b_VT_typesOf 0 = .ok (.aload_n 0, 1) := by decide +kernel
theorem d_VT_typesOf_1 : decode b_VT_typesOf 1 = .ok (.aload_n 0, 1) := by decide +kernel
theorem d_VT_typesOf_2 : decode b_VT_typesOf 2 = .ok (.getfield 29, 3) := by decide +kernel
theorem d_VT_typesOf_5 : decode b_VT_typesOf 5 = .ok (.iload_n 1, 1) := by decide +kernel
theorem d_VT_typesOf_6 : decode b_VT_typesOf 6 = .ok (.aload_n 2, 1) := by decide +kernel
theorem d_VT_typesOf_7 : decode b_VT_typesOf 7 = .ok (.iconst 0, 1) := by decide +kernel
theorem d_VT_typesOf_8 : decode b_VT_typesOf 8 = .ok (.invokevirtual 44, 3) := by decide +kernel
theorem d_VT_typesOf_11 : decode b_VT_typesOf 11 = .ok (.iconst 1, 1) := by decide +kernel
theorem d_VT_typesOf_12 : decode b_VT_typesOf 12 = .ok (.aload_n 2, 1) := by decide +kernel
theorem d_VT_typesOf_13 : decode b_VT_typesOf 13 = .ok (.getfield 48, 3) := by decide +kernel
theorem d_VT_typesOf_16 : decode b_VT_typesOf 16 = .ok (.getfield 54, 3) := by decide +kernel
theorem d_VT_typesOf_19 : decode b_VT_typesOf 19 = .ok (.ishl, 1) := by decide +kernel
theorem d_VT_typesOf_20 : decode b_VT_typesOf 20 = .ok (.iconst 1, 1) := by decide +kernel
theorem d_VT_typesOf_21 : decode b_VT_typesOf 21 = .ok (.isub, 1) := by decide +kernel
theorem d_VT_typesOf_22 : decode b_VT_typesOf 22 = .ok (.istore_n 3, 1) := by decide +kernel
theorem d_VT_typesOf_23 : decode b_VT_typesOf 23 = .ok (.aload_n 0, 1) := by decide +kernel
theorem d_VT_typesOf_24 : decode b_VT_typesOf 24 = .ok (.getfield 29, 3) := by decide +kernel
theorem d_VT_typesOf_27 : decode b_VT_typesOf 27 = .ok (.iconst 0, 1) := by decide +kernel
theorem d_VT_typesOf_28 : decode b_VT_typesOf 28 = .ok (.invokevirtual 57, 3) := by decide +kernel
theorem d_VT_typesOf_31 : decode b_VT_typesOf 31 = .ok (.istore 4, 2) := by decide +kernel
theorem d_VT_typesOf_33 : decode b_VT_typesOf 33 = .ok (.iload 4, 2) := by decide +kernel
theorem d_VT_typesOf_35 : decode b_VT_typesOf 35 = .ok (.aload_n 0, 1) := by decide +kernel
theorem d_VT_typesOf_36 : decode b_VT_typesOf 36 = .ok (.getfield 29, 3) := by decide +kernel
theorem d_VT_typesOf_39 : decode b_VT_typesOf 39 = .ok (.getfield 61, 3) := by decide +kernel
theorem d_VT_typesOf_42 : decode b_VT_typesOf 42 = .ok (.if_icmp .ge 24, 3) := by decide +kernel
theorem d_VT_typesOf_45 : decode b_VT_typesOf 45 = .ok (.iload_n 3, 1) := by decide +kernel
theorem d_VT_typesOf_46 : decode b_VT_typesOf 46 = .ok (.iload 4, 2) := by decide +kernel
theorem d_VT_typesOf_48 : decode b_VT_typesOf 48 = .ok (.iand, 1) := by decide +kernel
theorem d_VT_typesOf_49 : decode b_VT_typesOf 49 = .ok (.istore_n 3, 1) := by decide +kernel
theorem d_VT_typesOf_50 : decode b_VT_typesOf 50 = .ok (.aload_n 0, 1) := by decide +kernel
theorem d_VT_typesOf_51 : decode b_VT_typesOf 51 = .ok (.getfield 29, 3) := by decide +kernel
theorem d_VT_typesOf_54 : decode b_VT_typesOf 54 = .ok (.iload 4, 2) := by decide +kernel
theorem d_VT_typesOf_56 : decode b_VT_typesOf 56 = .ok (.iconst 1, 1) := by decide +kernel
theorem d_VT_typesOf_57 : decode b_VT_typesOf 57 = .ok (.iadd, 1) := by decide +kernel
theorem d_VT_typesOf_58 : decode b_VT_typesOf 58 = .ok (.invokevirtual 57, 3) := by decide +kernel
theorem d_VT_typesOf_61 : decode b_VT_typesOf 61 = .ok (.istore 4, 2) := by decide +kernel
theorem d_VT_typesOf_63 : decode b_VT_typesOf 63 = .ok (.goto (-30), 3) := by decide +kernel
theorem d_VT_typesOf_66 : decode b_VT_typesOf 66 = .ok (.iload_n 3, 1) := by decide +kernel
theorem d_VT_typesOf_67 : decode b_VT_typesOf 67 = .ok (.ireturn, 1) := by decide +kernel
theorem d_VT_fill_0 : decode b_VT_fill 0 = .ok (.aload_n 1, 1) := by decide +kernel
theorem d_VT_fill_1 : decode b_VT_fill 1 = .ok (.aload_n 3, 1) := by decide +kernel
theorem d_VT_fill_2 : decode b_VT_fill 2 = .ok (.getfield 48, 3) := by decide +kernel
theorem d_VT_fill_5 : decode b_VT_fill 5 = .ok (.getfield 54, 3) := by decide +kernel
theorem d_VT_fill_8 : decode b_VT_fill 8 = .ok (.invokevirtual 64, 3) := by decide +kernel
theorem d_VT_fill_11 : decode b_VT_fill 11 = .ok (.aload_n 0, 1) := by decide +kernel
theorem d_VT_fill_12 : decode b_VT_fill 12 = .ok (.getfield 9, 3) := by decide +kernel
theorem d_VT_fill_15 : decode b_VT_fill 15 = .ok (.iload_n 2, 1) := by decide +kernel
theorem d_VT_fill_16 : decode b_VT_fill 16 = .ok (.iaload, 1) := by decide +kernel
theorem d_VT_fill_17 : decode b_VT_fill 17 = .ok (.ifCond .ne 23, 3) := by decide +kernel
theorem d_VT_fill_20 : decode b_VT_fill 20 = .ok (.aload_n 1, 1) := by decide +kernel
theorem d_VT_fill_21 : decode b_VT_fill 21 = .ok (.aload_n 3, 1) := by decide +kernel
theorem d_VT_fill_22 : decode b_VT_fill 22 = .ok (.getfield 48, 3) := by decide +kernel
theorem d_VT_fill_25 : decode b_VT_fill 25 = .ok (.aload_n 0, 1) := by decide +kernel
theorem d_VT_fill_26 : decode b_VT_fill 26 = .ok (.getfield 15, 3) := by decide +kernel
theorem d_VT_fill_29 : decode b_VT_fill 29 = .ok (.iload_n 2, 1) := by decide +kernel
theorem d_VT_fill_30 : decode b_VT_fill 30 = .ok (.iaload, 1) := by decide +kernel
theorem d_VT_fill_31 : decode b_VT_fill 31 = .ok (.invokevirtual 67, 3) := by decide +kernel
theorem d_VT_fill_34 : decode b_VT_fill 34 = .ok (.invokevirtual 70, 3) := by decide +kernel
theorem d_VT_fill_37 : decode b_VT_fill 37 = .ok (.goto 96, 3) := by decide +kernel
theorem d_VT_fill_40 : decode b_VT_fill 40 = .ok (.aload_n 0, 1) := by decide +kernel
theorem d_VT_fill_41 : decode b_VT_fill 41 = .ok (.getfield 9, 3) := by decide +kernel
theorem d_VT_fill_44 : decode b_VT_fill 44 = .ok (.iload_n 2, 1) := by decide +kernel
theorem d_VT_fill_45 : decode b_VT_fill 45 = .ok (.iaload, 1) := by decide +kernel
theorem d_VT_fill_46 : decode b_VT_fill 46 = .ok (.iconst 2, 1) := by decide +kernel
theorem d_VT_fill_47 : decode b_VT_fill 47 = .ok (.if_icmp .ne 17, 3) := by decide +kernel
theorem d_VT_fill_50 : decode b_VT_fill 50 = .ok (.aload_n 3, 1) := by decide +kernel
theorem d_VT_fill_51 : decode b_VT_fill 51 = .ok (.aload_n 0, 1) := by decide +kernel
theorem d_VT_fill_52 : decode b_VT_fill 52 = .ok (.getfield 15, 3) := by decide +kernel
theorem d_VT_fill_55 : decode b_VT_fill 55 = .ok (.iload_n 2, 1) := by decide +kernel
theorem d_VT_fill_56 : decode b_VT_fill 56 = .ok (.iaload, 1) := by decide +kernel
theorem d_VT_fill_57 : decode b_VT_fill 57 = .ok (.aload_n 1, 1) := by decide +kernel
theorem d_VT_fill_58 : decode b_VT_fill 58 = .ok (.invokevirtual 73, 3) := by decide +kernel
theorem d_VT_fill_61 : decode b_VT_fill 61 = .ok (.goto 72, 3) := by decide +kernel
theorem d_VT_fill_64 : decode b_VT_fill 64 = .ok (.iload 4, 2) := by decide +kernel
theorem d_VT_fill_66 : decode b_VT_fill 66 = .ok (.iconst 3, 1) := by decide +kernel
theorem d_VT_fill_67 : decode b_VT_fill 67 = .ok (.if_icmp .ge 66, 3) := by decide +kernel
theorem d_VT_fill_70 : decode b_VT_fill 70 = .ok (.aload_n 0, 1) := by decide +kernel
theorem d_VT_fill_71 : decode b_VT_fill 71 = .ok (.aload_n 0, 1) := by decide +kernel
theorem d_VT_fill_72 : decode b_VT_fill 72 = .ok (.getfield 33, 3) := by decide +kernel
theorem d_VT_fill_75 : decode b_VT_fill 75 = .ok (.iload 4, 2) := by decide +kernel
theorem d_VT_fill_77 : decode b_VT_fill 77 = .ok (.aaload, 1) := by decide +kernel
theorem d_VT_fill_78 : decode b_VT_fill 78 = .ok (.aload_n 0, 1) := by decide +kernel
theorem d_VT_fill_79 : decode b_VT_fill 79 = .ok (.getfield 15, 3) := by decide +kernel
theorem d_VT_fill_82 : decode b_VT_fill 82 = .ok (.iload_n 2, 1) := by decide +kernel
theorem d_VT_fill_83 : decode b_VT_fill 83 = .ok (.iaload, 1) := by decide +kernel
theorem d_VT_fill_84 : decode b_VT_fill 84 = .ok (.aload_n 3, 1) := by decide +kernel
theorem d_VT_fill_85 : decode b_VT_fill 85 = .ok (.iload 4, 2) := by decide +kernel
theorem d_VT_fill_87 : decode b_VT_fill 87 = .ok (.iconst 1, 1) := by decide +kernel
theorem d_VT_fill_88 : decode b_VT_fill 88 = .ok (.iadd, 1) := by decide +kernel
theorem d_VT_fill_89 : decode b_VT_fill 89 = .ok (.invokevirtual 44, 3) := by decide +kernel
theorem d_VT_fill_92 : decode b_VT_fill 92 = .ok (.aload_n 0, 1) := by decide +kernel
theorem d_VT_fill_93 : decode b_VT_fill 93 = .ok (.aload_n 0, 1) := by decide +kernel
theorem d_VT_fill_94 : decode b_VT_fill 94 = .ok (.getfield 37, 3) := by decide +kernel
theorem d_VT_fill_97 : decode b_VT_fill 97 = .ok (.iload 4, 2) := by decide +kernel
theorem d_VT_fill_99 : decode b_VT_fill 99 = .ok (.aaload, 1) := by decide +kernel
theorem d_VT_fill_100 : decode b_VT_fill 100 = .ok (.aload_n 0, 1) := by decide +kernel
theorem d_VT_fill_101 : decode b_VT_fill 101 = .ok (.getfield 18, 3) := by decide +kernel
theorem d_VT_fill_104 : decode b_VT_fill 104 = .ok (.iload_n 2, 1) := by decide +kernel
theorem d_VT_fill_105 : decode b_VT_fill 105 = .ok (.iaload, 1) := by decide +kernel
theorem d_VT_fill_106 : decode b_VT_fill 106 = .ok (.aload_n 3, 1) := by decide +kernel
theorem d_VT_fill_107 : decode b_VT_fill 107 = .ok (.iload 4, 2) := by decide +kernel
theorem d_VT_fill_109 : decode b_VT_fill 109 = .ok (.iconst 1, 1) := by decide +kernel
theorem d_VT_fill_110 : decode b_VT_fill 110 = .ok (.iadd, 1) := by decide +kernel
theorem d_VT_fill_111 : decode b_VT_fill 111 = .ok (.invokevirtual 44, 3) := by decide +kernel
theorem d_VT_fill_114 : decode b_VT_fill 114 = .ok (.aload_n 3, 1) := by decide +kernel
theorem d_VT_fill_115 : decode b_VT_fill 115 = .ok (.aload_n 0, 1) := by decide +kernel
theorem d_VT_fill_116 : decode b_VT_fill 116 = .ok (.getfield 33, 3) := by decide +kernel
theorem d_VT_fill_119 : decode b_VT_fill 119 = .ok (.iload 4, 2) := by decide +kernel
theorem d_VT_fill_121 : decode b_VT_fill 121 = .ok (.aaload, 1) := by decide +kernel
theorem d_VT_fill_122 : decode b_VT_fill 122 = .ok (.aload_n 0, 1) := by decide +kernel
theorem d_VT_fill_123 : decode b_VT_fill 123 = .ok (.getfield 37, 3) := by decide +kernel
theorem d_VT_fill_126 : decode b_VT_fill 126 = .ok (.iload 4, 2) := by decide +kernel
theorem d_VT_fill_128 : decode b_VT_fill 128 = .ok (.aaload, 1) := by decide +kernel
theorem d_VT_fill_129 : decode b_VT_fill 129 = .ok (.aload_n 1, 1) := by decide +kernel
theorem d_VT_fill_130 : decode b_VT_fill 130 = .ok (.invokevirtual 77, 3) := by decide +kernel
theorem d_VT_fill_133 : decode b_VT_fill 133 = .ok (.return_, 1) := by decide +kernel
