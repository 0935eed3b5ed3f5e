abbrev gF3 : Type := (Nat → Int64) × (Nat → Int64) × (Nat → Int64)
abbrev gF4 : Type := (Nat → Int64) × gF3
abbrev gF5 : Type := (Nat → Int64) × gF4
theorem mt_hasb {q x : Nat} (h : q &&& 2 ^ x = 2 ^ x) : q.testBit x = true := by
  have := congrArg (fun z => z.testBit x) h
  simpa [Nat.testBit_and, Nat.testBit_two_pow] using this
theorem mt_bhas {q x : Nat} (h : q.testBit x = true) : q &&& 2 ^ x = 2 ^ x := by
  apply Nat.eq_of_testBit_eq
  intro i
  rw [Nat.testBit_and, Nat.testBit_two_pow]
  by_cases e : x = i
  · subst e; simp [h]
  · simp [e]
theorem mt_notb {q x : Nat} (h : q &&& 2 ^ x = 0) : ¬ q.testBit x = true := by
  intro h2
  have := congrArg (fun z => z.testBit x) h
  simp [Nat.testBit_and, Nat.testBit_two_pow, h2] at this
theorem mt_byb {q x : Nat} (h : ¬ (q &&& 2 ^ x = 0)) : q.testBit x = true := by
  cases e : q.testBit x
  · refine absurd ?_ h
    apply Nat.eq_of_testBit_eq
    intro i
    rw [Nat.testBit_and, Nat.testBit_two_pow, Nat.zero_testBit]
    by_cases e2 : x = i
    · subst e2; simp [e]
    · simp [e2]
  · rfl
theorem mt_cross {S T U : Nat → Prop} (h : ∀ z, U z ↔ (False ∨ ∃ x, S x ∧ ∃ y, T y ∧ z = x &&& y)) (z : Nat) : U z ↔ ∃ x y, S x ∧ T y ∧ z = x &&& y := by
  rw [h]
  constructor
  · intro h1
    rcases h1 with h1 | ⟨x, h1, y, h2, h3⟩
    · exact h1.elim
    · exact ⟨x, y, h1, h2, h3⟩
  · rintro ⟨x, y, h1, h2, h3⟩
    exact Or.inr ⟨x, h1, y, h2, h3⟩
theorem mt_walk_0 {B : Nat → Prop} {s : Nat} (x : Nat) : B x ↔ (B x ∨ ∃ y, B y ∧ y < 0 ∧ x = y ||| s) := ⟨Or.inl, fun h => h.elim id (fun ⟨_, _, h2, _⟩ => absurd h2 (by omega))⟩
theorem mt_walk_e {u q s : Nat} {f0 : Nat → Int64} {B : Nat → Prop} (h : ∀ x, B x ↔ (mt_el u f0 x ∨ ∃ y, mt_el u f0 y ∧ y < q ∧ x = y ||| s)) (he : 64 * u ≤ q) (z : Nat) : B z ↔ (mt_el u f0 z ∨ ∃ y, mt_el u f0 y ∧ z = y ||| s) := by
  rw [h]
  constructor
  · intro h1
    rcases h1 with h1 | ⟨y, h1, -, h2⟩
    · exact Or.inl h1
    · exact Or.inr ⟨y, h1, h2⟩
  · intro h1
    rcases h1 with h1 | ⟨y, h1, h2⟩
    · exact Or.inl h1
    · exact Or.inr ⟨y, h1, by have := h1.1; omega, h2⟩
theorem mt_cl_start {w q : Nat} {C f0 f1 : Nat → Int64} (h0 : ∀ z, ¬ mt_el w f0 z) (h1 : ∀ z, mt_el w f1 z ↔ (mt_el w f0 z ∨ z = 0)) (hn : mt_nx (mt_el w C) (64 * w) 0 q) (z : Nat) : mt_el w f1 z ↔ mt_cl (fun x => x < q ∧ mt_el w C x) z := by
  rw [mt_cl_none (fun x => mt_nx_0 hn x), h1]
  exact ⟨fun h => h.elim (fun h => absurd h (h0 z)) id, Or.inr⟩
theorem mt_cl_skip {w q q' : Nat} {C f : Nat → Int64} (hB : ∀ z, mt_el w f z ↔ mt_cl (fun x => x < q ∧ mt_el w C x) z) (hS : mt_el w C q) (hh : mt_el w f q) (hn : mt_nx (mt_el w C) (64 * w) (q + 1) q') (z : Nat) : mt_el w f z ↔ mt_cl (fun x => x < q' ∧ mt_el w C x) z := by
  rw [hB, mt_cl_has (fun x => mt_nx_s hn hS x) ((hB q).mp hh)]
theorem mt_cl_take {w q q' : Nat} {C f f' : Nat → Int64} (hB : ∀ z, mt_el w f z ↔ mt_cl (fun x => x < q ∧ mt_el w C x) z) (hS : mt_el w C q) (h1 : ∀ z, mt_el w f' z ↔ (mt_el w f z ∨ ∃ y, mt_el w f y ∧ z = y ||| q)) (hn : mt_nx (mt_el w C) (64 * w) (q + 1) q') (z : Nat) : mt_el w f' z ↔ mt_cl (fun x => x < q' ∧ mt_el w C x) z := by
  rw [mt_cl_add (fun x => mt_nx_s hn hS x), h1, hB]
  constructor
  · intro h
    rcases h with h | ⟨y, h2, h3⟩
    · exact Or.inl h
    · exact Or.inr ⟨y, (hB y).mp h2, h3⟩
  · intro h
    rcases h with h | ⟨y, h2, h3⟩
    · exact Or.inl h
    · exact Or.inr ⟨y, (hB y).mpr h2, h3⟩
theorem mt_cl_end {w q : Nat} {C : Nat → Int64} {T : Nat → Prop} (hB : ∀ z, T z ↔ mt_cl (fun x => x < q ∧ mt_el w C x) z) (he : 64 * w ≤ q) (z : Nat) : T z ↔ mt_cl (mt_el w C) z := by
  rw [hB]
  exact mt_cl_congr (fun x => ⟨fun h => h.2, fun h => ⟨by have := h.1; omega, h⟩⟩) z
theorem mt_one {T0 T : Nat → Prop} {x : Nat} (h0 : ∀ z, ¬ T0 z) (h : ∀ z, T z ↔ (T0 z ∨ z = x)) (z : Nat) : T z ↔ z = x := by
  rw [h]
  exact ⟨fun q => q.elim (fun q => absurd q (h0 z)) id, Or.inr⟩
theorem mt_stp_of {k a b : Nat → Nat} {n : Nat} {S T U : Nat → Prop} (hT : ∀ z, T z ↔ (False ∨ ∃ x, S x ∧ z = mt_fs k a n x)) (hU : ∀ z, U z ↔ (z = mt_ar k n ∨ ∃ x, S x ∧ z = mt_dif (mt_ar k n) (mt_fs k b n x))) (z : Nat) : (∃ x y, T x ∧ U y ∧ z = x &&& y) ↔ mt_stp k a b n S z := by
  rw [← mt_stp_is]
  constructor
  · rintro ⟨x, y, h1, h2, h3⟩
    exact ⟨x, y, ((hT x).mp h1).elim (fun h => h.elim) id, (hU y).mp h2, h3⟩
  · rintro ⟨x, y, h1, h2, h3⟩
    exact ⟨x, y, (hT x).mpr (Or.inr h1), (hU y).mpr h2, h3⟩
theorem d_MG_init_0 : decode b_MG_init 0 = .ok (.aload_n 0, 1) := by decide +kernel
theorem d_MG_init_1 : decode b_MG_init 1 = .ok (.invokespecial 3, 3) := by decide +kernel
theorem d_MG_init_4 : decode b_MG_init 4 = .ok (.aload_n 0, 1) := by decide +kernel
theorem d_MG_init_5 : decode b_MG_init 5 = .ok (.new 9, 3) := by decide +kernel
theorem d_MG_init_8 : decode b_MG_init 8 = .ok (.dup, 1) := by decide +kernel
theorem d_MG_init_9 : decode b_MG_init 9 = .ok (.invokespecial 11, 3) := by decide +kernel
theorem d_MG_init_12 : decode b_MG_init 12 = .ok (.putfield 12, 3) := by decide +kernel
theorem d_MG_init_15 : decode b_MG_init 15 = .ok (.aload_n 0, 1) := by decide +kernel
theorem d_MG_init_16 : decode b_MG_init 16 = .ok (.bipush 14, 2) := by decide +kernel
theorem d_MG_init_18 : decode b_MG_init 18 = .ok (.anewarray 18, 3) := by decide +kernel
theorem d_MG_init_21 : decode b_MG_init 21 = .ok (.putfield 20, 3) := by decide +kernel
theorem d_MG_init_24 : decode b_MG_init 24 = .ok (.aload_n 0, 1) := by decide +kernel
theorem d_MG_init_25 : decode b_MG_init 25 = .ok (.new 18, 3) := by decide +kernel
theorem d_MG_init_28 : decode b_MG_init 28 = .ok (.dup, 1) := by decide +kernel
theorem d_MG_init_29 : decode b_MG_init 29 = .ok (.bipush 13, 2) := by decide +kernel
theorem d_MG_init_31 : decode b_MG_init 31 = .ok (.invokespecial 24, 3) := by decide +kernel
theorem d_MG_init_34 : decode b_MG_init 34 = .ok (.putfield 27, 3) := by decide +kernel
theorem d_MG_init_37 : decode b_MG_init 37 = .ok (.aload_n 0, 1) := by decide +kernel
theorem d_MG_init_38 : decode b_MG_init 38 = .ok (.new 18, 3) := by decide +kernel
theorem d_MG_init_41 : decode b_MG_init 41 = .ok (.dup, 1) := by decide +kernel
theorem d_MG_init_42 : decode b_MG_init 42 = .ok (.bipush 13, 2) := by decide +kernel
theorem d_MG_init_44 : decode b_MG_init 44 = .ok (.invokespecial 24, 3) := by decide +kernel
theorem d_MG_init_47 : decode b_MG_init 47 = .ok (.putfield 31, 3) := by decide +kernel
theorem d_MG_init_50 : decode b_MG_init 50 = .ok (.aload_n 0, 1) := by decide +kernel
theorem d_MG_init_51 : decode b_MG_init 51 = .ok (.new 18, 3) := by decide +kernel
theorem d_MG_init_54 : decode b_MG_init 54 = .ok (.dup, 1) := by decide +kernel
theorem d_MG_init_55 : decode b_MG_init 55 = .ok (.bipush 13, 2) := by decide +kernel
theorem d_MG_init_57 : decode b_MG_init 57 = .ok (.invokespecial 24, 3) := by decide +kernel
theorem d_MG_init_60 : decode b_MG_init 60 = .ok (.putfield 34, 3) := by decide +kernel
theorem d_MG_init_63 : decode b_MG_init 63 = .ok (.aload_n 0, 1) := by decide +kernel
theorem d_MG_init_64 : decode b_MG_init 64 = .ok (.new 18, 3) := by decide +kernel
theorem d_MG_init_67 : decode b_MG_init 67 = .ok (.dup, 1) := by decide +kernel
theorem d_MG_init_68 : decode b_MG_init 68 = .ok (.bipush 13, 2) := by decide +kernel
theorem d_MG_init_70 : decode b_MG_init 70 = .ok (.invokespecial 24, 3) := by decide +kernel
theorem d_MG_init_73 : decode b_MG_init 73 = .ok (.putfield 37, 3) := by decide +kernel
theorem d_MG_init_76 : decode b_MG_init 76 = .ok (.iconst 0, 1) := by decide +kernel
theorem d_MG_init_77 : decode b_MG_init 77 = .ok (.istore_n 1, 1) := by decide +kernel
theorem d_MG_init_78 : decode b_MG_init 78 = .ok (.iload_n 1, 1) := by decide +kernel
theorem d_MG_init_79 : decode b_MG_init 79 = .ok (.bipush 13, 2) := by decide +kernel
theorem d_MG_init_81 : decode b_MG_init 81 = .ok (.if_icmp .gt 23, 3) := by decide +kernel
theorem d_MG_init_84 : decode b_MG_init 84 = .ok (.aload_n 0, 1) := by decide +kernel
theorem d_MG_init_85 : decode b_MG_init 85 = .ok (.getfield 20, 3) := by decide +kernel
theorem d_MG_init_88 : decode b_MG_init 88 = .ok (.iload_n 1, 1) := by decide +kernel
theorem d_MG_init_89 : decode b_MG_init 89 = .ok (.new 18, 3) := by decide +kernel
theorem d_MG_init_92 : decode b_MG_init 92 = .ok (.dup, 1) := by decide +kernel
theorem d_MG_init_93 : decode b_MG_init 93 = .ok (.iload_n 1, 1) := by decide +kernel
theorem d_MG_init_94 : decode b_MG_init 94 = .ok (.invokespecial 24, 3) := by decide +kernel
theorem d_MG_init_97 : decode b_MG_init 97 = .ok (.aastore, 1) := by decide +kernel
theorem d_MG_init_98 : decode b_MG_init 98 = .ok (.iinc 1 1, 3) := by decide +kernel
theorem d_MG_init_101 : decode b_MG_init 101 = .ok (.goto (-23), 3) := by decide +kernel
theorem d_MG_init_104 : decode b_MG_init 104 = .ok (.aload_n 0, 1) := by decide +kernel
theorem d_MG_init_105 : decode b_MG_init 105 = .ok (.getfield 20, 3) := by decide +kernel
theorem d_MG_init_108 : decode b_MG_init 108 = .ok (.iconst 0, 1) := by decide +kernel
theorem d_MG_init_109 : decode b_MG_init 109 = .ok (.aaload, 1) := by decide +kernel
theorem d_MG_init_110 : decode b_MG_init 110 = .ok (.iconst 0, 1) := by decide +kernel
theorem d_MG_init_111 : decode b_MG_init 111 = .ok (.invokevirtual 40, 3) := by decide +kernel
theorem d_MG_init_114 : decode b_MG_init 114 = .ok (.aload_n 0, 1) := by decide +kernel
theorem d_MG_init_115 : decode b_MG_init 115 = .ok (.getfield 20, 3) := by decide +kernel
theorem d_MG_init_118 : decode b_MG_init 118 = .ok (.iconst 0, 1) := by decide +kernel
theorem d_MG_init_119 : decode b_MG_init 119 = .ok (.aaload, 1) := by decide +kernel
theorem d_MG_init_120 : decode b_MG_init 120 = .ok (.iconst 0, 1) := by decide +kernel
theorem d_MG_init_121 : decode b_MG_init 121 = .ok (.invokevirtual 43, 3) := by decide +kernel
theorem d_MG_init_124 : decode b_MG_init 124 = .ok (.return_, 1) := by decide +kernel
theorem d_MG_add_0 : decode b_MG_add 0 = .ok (.aload_n 0, 1) := by decide +kernel
theorem d_MG_add_1 : decode b_MG_add 1 = .ok (.getfield 12, 3) := by decide +kernel
theorem d_MG_add_4 : decode b_MG_add 4 = .ok (.iload_n 1, 1) := by decide +kernel
theorem d_MG_add_5 : decode b_MG_add 5 = .ok (.iload_n 2, 1) := by decide +kernel
theorem d_MG_add_6 : decode b_MG_add 6 = .ok (.iload_n 3, 1) := by decide +kernel
theorem d_MG_add_7 : decode b_MG_add 7 = .ok (.invokevirtual 46, 3) := by decide +kernel
theorem d_MG_add_10 : decode b_MG_add 10 = .ok (.istore 4, 2) := by decide +kernel
theorem d_MG_add_12 : decode b_MG_add 12 = .ok (.aload_n 0, 1) := by decide +kernel
theorem d_MG_add_13 : decode b_MG_add 13 = .ok (.getfield 20, 3) := by decide +kernel
theorem d_MG_add_16 : decode b_MG_add 16 = .ok (.iload 4, 2) := by decide +kernel
theorem d_MG_add_18 : decode b_MG_add 18 = .ok (.aaload, 1) := by decide +kernel
theorem d_MG_add_19 : decode b_MG_add 19 = .ok (.astore 5, 2) := by decide +kernel
theorem d_MG_add_21 : decode b_MG_add 21 = .ok (.aload_n 0, 1) := by decide +kernel
theorem d_MG_add_22 : decode b_MG_add 22 = .ok (.getfield 20, 3) := by decide +kernel
theorem d_MG_add_25 : decode b_MG_add 25 = .ok (.iload 4, 2) := by decide +kernel
theorem d_MG_add_27 : decode b_MG_add 27 = .ok (.iconst 1, 1) := by decide +kernel
theorem d_MG_add_28 : decode b_MG_add 28 = .ok (.iadd, 1) := by decide +kernel
theorem d_MG_add_29 : decode b_MG_add 29 = .ok (.aaload, 1) := by decide +kernel
theorem d_MG_add_30 : decode b_MG_add 30 = .ok (.astore 6, 2) := by decide +kernel
theorem d_MG_add_32 : decode b_MG_add 32 = .ok (.aload 6, 2) := by decide +kernel
theorem d_MG_add_34 : decode b_MG_add 34 = .ok (.aload_n 0, 1) := by decide +kernel
theorem d_MG_add_35 : decode b_MG_add 35 = .ok (.getfield 12, 3) := by decide +kernel
theorem d_MG_add_38 : decode b_MG_add 38 = .ok (.getfield 49, 3) := by decide +kernel
theorem d_MG_add_41 : decode b_MG_add 41 = .ok (.invokevirtual 40, 3) := by decide +kernel
theorem d_MG_add_44 : decode b_MG_add 44 = .ok (.iconst 0, 1) := by decide +kernel
theorem d_MG_add_45 : decode b_MG_add 45 = .ok (.istore 7, 2) := by decide +kernel
theorem d_MG_add_47 : decode b_MG_add 47 = .ok (.iload 7, 2) := by decide +kernel
theorem d_MG_add_49 : decode b_MG_add 49 = .ok (.bipush 6, 2) := by decide +kernel
theorem d_MG_add_51 : decode b_MG_add 51 = .ok (.if_icmp .ge 23, 3) := by decide +kernel
theorem d_MG_add_54 : decode b_MG_add 54 = .ok (.aload 6, 2) := by decide +kernel
theorem d_MG_add_56 : decode b_MG_add 56 = .ok (.aload_n 0, 1) := by decide +kernel
theorem d_MG_add_57 : decode b_MG_add 57 = .ok (.getfield 12, 3) := by decide +kernel
theorem d_MG_add_60 : decode b_MG_add 60 = .ok (.iload 7, 2) := by decide +kernel
theorem d_MG_add_62 : decode b_MG_add 62 = .ok (.invokevirtual 53, 3) := by decide +kernel
theorem d_MG_add_65 : decode b_MG_add 65 = .ok (.invokevirtual 43, 3) := by decide +kernel
theorem d_MG_add_68 : decode b_MG_add 68 = .ok (.iinc 7 1, 3) := by decide +kernel
theorem d_MG_add_71 : decode b_MG_add 71 = .ok (.goto (-24), 3) := by decide +kernel
theorem d_MG_add_74 : decode b_MG_add 74 = .ok (.aload_n 0, 1) := by decide +kernel
theorem d_MG_add_75 : decode b_MG_add 75 = .ok (.aload 5, 2) := by decide +kernel
theorem d_MG_add_77 : decode b_MG_add 77 = .ok (.aload 5, 2) := by decide +kernel
theorem d_MG_add_79 : decode b_MG_add 79 = .ok (.aload 6, 2) := by decide +kernel
theorem d_MG_add_81 : decode b_MG_add 81 = .ok (.invokevirtual 57, 3) := by decide +kernel
theorem d_MG_add_84 : decode b_MG_add 84 = .ok (.aload_n 0, 1) := by decide +kernel
theorem d_MG_add_85 : decode b_MG_add 85 = .ok (.aload 5, 2) := by decide +kernel
theorem d_MG_add_87 : decode b_MG_add 87 = .ok (.aload 6, 2) := by decide +kernel
theorem d_MG_add_89 : decode b_MG_add 89 = .ok (.invokevirtual 61, 3) := by decide +kernel
theorem d_MG_add_92 : decode b_MG_add 92 = .ok (.iload 4, 2) := by decide +kernel
theorem d_MG_add_94 : decode b_MG_add 94 = .ok (.ireturn, 1) := by decide +kernel
theorem d_MG_addPairs_0 : decode b_MG_addPairs 0 = .ok (.aload_n 0, 1) := by decide +kernel
theorem d_MG_addPairs_1 : decode b_MG_addPairs 1 = .ok (.getfield 27, 3) := by decide +kernel
theorem d_MG_addPairs_4 : decode b_MG_addPairs 4 = .ok (.aload_n 0, 1) := by decide +kernel
theorem d_MG_addPairs_5 : decode b_MG_addPairs 5 = .ok (.getfield 12, 3) := by decide +kernel
theorem d_MG_addPairs_8 : decode b_MG_addPairs 8 = .ok (.getfield 49, 3) := by decide +kernel
theorem d_MG_addPairs_11 : decode b_MG_addPairs 11 = .ok (.invokevirtual 40, 3) := by decide +kernel
theorem d_MG_addPairs_14 : decode b_MG_addPairs 14 = .ok (.aload_n 1, 1) := by decide +kernel
theorem d_MG_addPairs_15 : decode b_MG_addPairs 15 = .ok (.iconst 0, 1) := by decide +kernel
theorem d_MG_addPairs_16 : decode b_MG_addPairs 16 = .ok (.invokevirtual 65, 3) := by decide +kernel
theorem d_MG_addPairs_19 : decode b_MG_addPairs 19 = .ok (.istore 4, 2) := by decide +kernel
theorem d_MG_addPairs_21 : decode b_MG_addPairs 21 = .ok (.iload 4, 2) := by decide +kernel
theorem d_MG_addPairs_23 : decode b_MG_addPairs 23 = .ok (.aload_n 1, 1) := by decide +kernel
theorem d_MG_addPairs_24 : decode b_MG_addPairs 24 = .ok (.getfield 68, 3) := by decide +kernel
theorem d_MG_addPairs_27 : decode b_MG_addPairs 27 = .ok (.if_icmp .ge 40, 3) := by decide +kernel
theorem d_MG_addPairs_30 : decode b_MG_addPairs 30 = .ok (.aload_n 0, 1) := by decide +kernel
theorem d_MG_addPairs_31 : decode b_MG_addPairs 31 = .ok (.getfield 27, 3) := by decide +kernel
theorem d_MG_addPairs_34 : decode b_MG_addPairs 34 = .ok (.aload_n 0, 1) := by decide +kernel
theorem d_MG_addPairs_35 : decode b_MG_addPairs 35 = .ok (.getfield 12, 3) := by decide +kernel
theorem d_MG_addPairs_38 : decode b_MG_addPairs 38 = .ok (.iconst 1, 1) := by decide +kernel
theorem d_MG_addPairs_39 : decode b_MG_addPairs 39 = .ok (.aload_n 0, 1) := by decide +kernel
theorem d_MG_addPairs_40 : decode b_MG_addPairs 40 = .ok (.getfield 12, 3) := by decide +kernel
theorem d_MG_addPairs_43 : decode b_MG_addPairs 43 = .ok (.getfield 71, 3) := by decide +kernel
theorem d_MG_addPairs_46 : decode b_MG_addPairs 46 = .ok (.iload 4, 2) := by decide +kernel
theorem d_MG_addPairs_48 : decode b_MG_addPairs 48 = .ok (.invokevirtual 75, 3) := by decide +kernel
theorem d_MG_addPairs_51 : decode b_MG_addPairs 51 = .ok (.invokevirtual 43, 3) := by decide +kernel
theorem d_MG_addPairs_54 : decode b_MG_addPairs 54 = .ok (.aload_n 1, 1) := by decide +kernel
theorem d_MG_addPairs_55 : decode b_MG_addPairs 55 = .ok (.iload 4, 2) := by decide +kernel
theorem d_MG_addPairs_57 : decode b_MG_addPairs 57 = .ok (.iconst 1, 1) := by decide +kernel
theorem d_MG_addPairs_58 : decode b_MG_addPairs 58 = .ok (.iadd, 1) := by decide +kernel
theorem d_MG_addPairs_59 : decode b_MG_addPairs 59 = .ok (.invokevirtual 65, 3) := by decide +kernel
theorem d_MG_addPairs_62 : decode b_MG_addPairs 62 = .ok (.istore 4, 2) := by decide +kernel
theorem d_MG_addPairs_64 : decode b_MG_addPairs 64 = .ok (.goto (-43), 3) := by decide +kernel
theorem d_MG_addPairs_67 : decode b_MG_addPairs 67 = .ok (.aload_n 0, 1) := by decide +kernel
theorem d_MG_addPairs_68 : decode b_MG_addPairs 68 = .ok (.getfield 31, 3) := by decide +kernel
theorem d_MG_addPairs_71 : decode b_MG_addPairs 71 = .ok (.aload_n 0, 1) := by decide +kernel
theorem d_MG_addPairs_72 : decode b_MG_addPairs 72 = .ok (.getfield 12, 3) := by decide +kernel
theorem d_MG_addPairs_75 : decode b_MG_addPairs 75 = .ok (.getfield 49, 3) := by decide +kernel
theorem d_MG_addPairs_78 : decode b_MG_addPairs 78 = .ok (.invokevirtual 40, 3) := by decide +kernel
theorem d_MG_addPairs_81 : decode b_MG_addPairs 81 = .ok (.aload_n 2, 1) := by decide +kernel
theorem d_MG_addPairs_82 : decode b_MG_addPairs 82 = .ok (.iconst 0, 1) := by decide +kernel
theorem d_MG_addPairs_83 : decode b_MG_addPairs 83 = .ok (.invokevirtual 65, 3) := by decide +kernel
theorem d_MG_addPairs_86 : decode b_MG_addPairs 86 = .ok (.istore 4, 2) := by decide +kernel
theorem d_MG_addPairs_88 : decode b_MG_addPairs 88 = .ok (.iload 4, 2) := by decide +kernel
theorem d_MG_addPairs_90 : decode b_MG_addPairs 90 = .ok (.aload_n 2, 1) := by decide +kernel
theorem d_MG_addPairs_91 : decode b_MG_addPairs 91 = .ok (.getfield 68, 3) := by decide +kernel
theorem d_MG_addPairs_94 : decode b_MG_addPairs 94 = .ok (.if_icmp .ge 40, 3) := by decide +kernel
theorem d_MG_addPairs_97 : decode b_MG_addPairs 97 = .ok (.aload_n 0, 1) := by decide +kernel
theorem d_MG_addPairs_98 : decode b_MG_addPairs 98 = .ok (.getfield 31, 3) := by decide +kernel
theorem d_MG_addPairs_101 : decode b_MG_addPairs 101 = .ok (.aload_n 0, 1) := by decide +kernel
theorem d_MG_addPairs_102 : decode b_MG_addPairs 102 = .ok (.getfield 12, 3) := by decide +kernel
theorem d_MG_addPairs_105 : decode b_MG_addPairs 105 = .ok (.iconst 1, 1) := by decide +kernel
theorem d_MG_addPairs_106 : decode b_MG_addPairs 106 = .ok (.aload_n 0, 1) := by decide +kernel
theorem d_MG_addPairs_107 : decode b_MG_addPairs 107 = .ok (.getfield 12, 3) := by decide +kernel
theorem d_MG_addPairs_110 : decode b_MG_addPairs 110 = .ok (.getfield 79, 3) := by decide +kernel
theorem d_MG_addPairs_113 : decode b_MG_addPairs 113 = .ok (.iload 4, 2) := by decide +kernel
theorem d_MG_addPairs_115 : decode b_MG_addPairs 115 = .ok (.invokevirtual 75, 3) := by decide +kernel
theorem d_MG_addPairs_118 : decode b_MG_addPairs 118 = .ok (.invokevirtual 43, 3) := by decide +kernel
theorem d_MG_addPairs_121 : decode b_MG_addPairs 121 = .ok (.aload_n 2, 1) := by decide +kernel
theorem d_MG_addPairs_122 : decode b_MG_addPairs 122 = .ok (.iload 4, 2) := by decide +kernel
theorem d_MG_addPairs_124 : decode b_MG_addPairs 124 = .ok (.iconst 1, 1) := by decide +kernel
theorem d_MG_addPairs_125 : decode b_MG_addPairs 125 = .ok (.iadd, 1) := by decide +kernel
theorem d_MG_addPairs_126 : decode b_MG_addPairs 126 = .ok (.invokevirtual 65, 3) := by decide +kernel
theorem d_MG_addPairs_129 : decode b_MG_addPairs 129 = .ok (.istore 4, 2) := by decide +kernel
theorem d_MG_addPairs_131 : decode b_MG_addPairs 131 = .ok (.goto (-43), 3) := by decide +kernel
theorem d_MG_addPairs_134 : decode b_MG_addPairs 134 = .ok (.aload_n 0, 1) := by decide +kernel
theorem d_MG_addPairs_135 : decode b_MG_addPairs 135 = .ok (.invokevirtual 82, 3) := by decide +kernel
theorem d_MG_addPairs_138 : decode b_MG_addPairs 138 = .ok (.aload_n 0, 1) := by decide +kernel
theorem d_MG_addPairs_139 : decode b_MG_addPairs 139 = .ok (.getfield 34, 3) := by decide +kernel
theorem d_MG_addPairs_142 : decode b_MG_addPairs 142 = .ok (.iconst 0, 1) := by decide +kernel
theorem d_MG_addPairs_143 : decode b_MG_addPairs 143 = .ok (.invokevirtual 65, 3) := by decide +kernel
theorem d_MG_addPairs_146 : decode b_MG_addPairs 146 = .ok (.istore 4, 2) := by decide +kernel
theorem d_MG_addPairs_148 : decode b_MG_addPairs 148 = .ok (.iload 4, 2) := by decide +kernel
theorem d_MG_addPairs_150 : decode b_MG_addPairs 150 = .ok (.aload_n 0, 1) := by decide +kernel
theorem d_MG_addPairs_151 : decode b_MG_addPairs 151 = .ok (.getfield 34, 3) := by decide +kernel
theorem d_MG_addPairs_154 : decode b_MG_addPairs 154 = .ok (.getfield 68, 3) := by decide +kernel
theorem d_MG_addPairs_157 : decode b_MG_addPairs 157 = .ok (.if_icmp .ge 32, 3) := by decide +kernel
theorem d_MG_addPairs_160 : decode b_MG_addPairs 160 = .ok (.aload_n 3, 1) := by decide +kernel
theorem d_MG_addPairs_161 : decode b_MG_addPairs 161 = .ok (.aload_n 0, 1) := by decide +kernel
theorem d_MG_addPairs_162 : decode b_MG_addPairs 162 = .ok (.getfield 12, 3) := by decide +kernel
theorem d_MG_addPairs_165 : decode b_MG_addPairs 165 = .ok (.iload 4, 2) := by decide +kernel
theorem d_MG_addPairs_167 : decode b_MG_addPairs 167 = .ok (.invokevirtual 85, 3) := by decide +kernel
theorem d_MG_addPairs_170 : decode b_MG_addPairs 170 = .ok (.invokevirtual 43, 3) := by decide +kernel
theorem d_MG_addPairs_173 : decode b_MG_addPairs 173 = .ok (.aload_n 0, 1) := by decide +kernel
theorem d_MG_addPairs_174 : decode b_MG_addPairs 174 = .ok (.getfield 34, 3) := by decide +kernel
theorem d_MG_addPairs_177 : decode b_MG_addPairs 177 = .ok (.iload 4, 2) := by decide +kernel
theorem d_MG_addPairs_179 : decode b_MG_addPairs 179 = .ok (.iconst 1, 1) := by decide +kernel
theorem d_MG_addPairs_180 : decode b_MG_addPairs 180 = .ok (.iadd, 1) := by decide +kernel
theorem d_MG_addPairs_181 : decode b_MG_addPairs 181 = .ok (.invokevirtual 65, 3) := by decide +kernel
theorem d_MG_addPairs_184 : decode b_MG_addPairs 184 = .ok (.istore 4, 2) := by decide +kernel
theorem d_MG_addPairs_186 : decode b_MG_addPairs 186 = .ok (.goto (-38), 3) := by decide +kernel
theorem d_MG_addPairs_189 : decode b_MG_addPairs 189 = .ok (.return_, 1) := by decide +kernel
theorem d_MG_addFunctions_0 : decode b_MG_addFunctions 0 = .ok (.aload_n 0, 1) := by decide +kernel
theorem d_MG_addFunctions_1 : decode b_MG_addFunctions 1 = .ok (.getfield 12, 3) := by decide +kernel
theorem d_MG_addFunctions_4 : decode b_MG_addFunctions 4 = .ok (.iconst 2, 1) := by decide +kernel
theorem d_MG_addFunctions_5 : decode b_MG_addFunctions 5 = .ok (.invokevirtual 88, 3) := by decide +kernel
theorem d_MG_addFunctions_8 : decode b_MG_addFunctions 8 = .ok (.istore_n 3, 1) := by decide +kernel
theorem d_MG_addFunctions_9 : decode b_MG_addFunctions 9 = .ok (.aload_n 0, 1) := by decide +kernel
theorem d_MG_addFunctions_10 : decode b_MG_addFunctions 10 = .ok (.iload_n 3, 1) := by decide +kernel
theorem d_MG_addFunctions_11 : decode b_MG_addFunctions 11 = .ok (.aload_n 1, 1) := by decide +kernel
theorem d_MG_addFunctions_12 : decode b_MG_addFunctions 12 = .ok (.invokevirtual 91, 3) := by decide +kernel
theorem d_MG_addFunctions_15 : decode b_MG_addFunctions 15 = .ok (.aload_n 0, 1) := by decide +kernel
theorem d_MG_addFunctions_16 : decode b_MG_addFunctions 16 = .ok (.invokevirtual 95, 3) := by decide +kernel
theorem d_MG_addFunctions_19 : decode b_MG_addFunctions 19 = .ok (.aload_n 0, 1) := by decide +kernel
theorem d_MG_addFunctions_20 : decode b_MG_addFunctions 20 = .ok (.getfield 37, 3) := by decide +kernel
theorem d_MG_addFunctions_23 : decode b_MG_addFunctions 23 = .ok (.iconst 0, 1) := by decide +kernel
theorem d_MG_addFunctions_24 : decode b_MG_addFunctions 24 = .ok (.invokevirtual 65, 3) := by decide +kernel
theorem d_MG_addFunctions_27 : decode b_MG_addFunctions 27 = .ok (.istore 4, 2) := by decide +kernel
theorem d_MG_addFunctions_29 : decode b_MG_addFunctions 29 = .ok (.iload 4, 2) := by decide +kernel
theorem d_MG_addFunctions_31 : decode b_MG_addFunctions 31 = .ok (.aload_n 0, 1) := by decide +kernel
theorem d_MG_addFunctions_32 : decode b_MG_addFunctions 32 = .ok (.getfield 37, 3) := by decide +kernel
theorem d_MG_addFunctions_35 : decode b_MG_addFunctions 35 = .ok (.getfield 68, 3) := by decide +kernel
theorem d_MG_addFunctions_38 : decode b_MG_addFunctions 38 = .ok (.if_icmp .ge 36, 3) := by decide +kernel
theorem d_MG_addFunctions_41 : decode b_MG_addFunctions 41 = .ok (.aload_n 2, 1) := by decide +kernel
theorem d_MG_addFunctions_42 : decode b_MG_addFunctions 42 = .ok (.aload_n 0, 1) := by decide +kernel
theorem d_MG_addFunctions_43 : decode b_MG_addFunctions 43 = .ok (.getfield 12, 3) := by decide +kernel
theorem d_MG_addFunctions_46 : decode b_MG_addFunctions 46 = .ok (.iload_n 3, 1) := by decide +kernel
theorem d_MG_addFunctions_47 : decode b_MG_addFunctions 47 = .ok (.iload 4, 2) := by decide +kernel
theorem d_MG_addFunctions_49 : decode b_MG_addFunctions 49 = .ok (.iconst (-1), 1) := by decide +kernel
theorem d_MG_addFunctions_50 : decode b_MG_addFunctions 50 = .ok (.ixor, 1) := by decide +kernel
theorem d_MG_addFunctions_51 : decode b_MG_addFunctions 51 = .ok (.iand, 1) := by decide +kernel
theorem d_MG_addFunctions_52 : decode b_MG_addFunctions 52 = .ok (.invokevirtual 85, 3) := by decide +kernel
theorem d_MG_addFunctions_55 : decode b_MG_addFunctions 55 = .ok (.invokevirtual 43, 3) := by decide +kernel
theorem d_MG_addFunctions_58 : decode b_MG_addFunctions 58 = .ok (.aload_n 0, 1) := by decide +kernel
theorem d_MG_addFunctions_59 : decode b_MG_addFunctions 59 = .ok (.getfield 37, 3) := by decide +kernel
theorem d_MG_addFunctions_62 : decode b_MG_addFunctions 62 = .ok (.iload 4, 2) := by decide +kernel
theorem d_MG_addFunctions_64 : decode b_MG_addFunctions 64 = .ok (.iconst 1, 1) := by decide +kernel
theorem d_MG_addFunctions_65 : decode b_MG_addFunctions 65 = .ok (.iadd, 1) := by decide +kernel
theorem d_MG_addFunctions_66 : decode b_MG_addFunctions 66 = .ok (.invokevirtual 65, 3) := by decide +kernel
theorem d_MG_addFunctions_69 : decode b_MG_addFunctions 69 = .ok (.istore 4, 2) := by decide +kernel
theorem d_MG_addFunctions_71 : decode b_MG_addFunctions 71 = .ok (.goto (-42), 3) := by decide +kernel
theorem d_MG_addFunctions_74 : decode b_MG_addFunctions 74 = .ok (.return_, 1) := by decide +kernel
theorem d_MG_findStepsThatBreak_0 : decode b_MG_findStepsThatBreak 0 = .ok (.aload_n 0, 1) := by decide +kernel
theorem d_MG_findStepsThatBreak_1 : decode b_MG_findStepsThatBreak 1 = .ok (.getfield 27, 3) := by decide +kernel
theorem d_MG_findStepsThatBreak_4 : decode b_MG_findStepsThatBreak 4 = .ok (.aload_n 0, 1) := by decide +kernel
theorem d_MG_findStepsThatBreak_5 : decode b_MG_findStepsThatBreak 5 = .ok (.getfield 12, 3) := by decide +kernel
theorem d_MG_findStepsThatBreak_8 : decode b_MG_findStepsThatBreak 8 = .ok (.getfield 49, 3) := by decide +kernel
theorem d_MG_findStepsThatBreak_11 : decode b_MG_findStepsThatBreak 11 = .ok (.invokevirtual 40, 3) := by decide +kernel
theorem d_MG_findStepsThatBreak_14 : decode b_MG_findStepsThatBreak 14 = .ok (.aload_n 0, 1) := by decide +kernel
theorem d_MG_findStepsThatBreak_15 : decode b_MG_findStepsThatBreak 15 = .ok (.getfield 31, 3) := by decide +kernel
theorem d_MG_findStepsThatBreak_18 : decode b_MG_findStepsThatBreak 18 = .ok (.aload_n 0, 1) := by decide +kernel
theorem d_MG_findStepsThatBreak_19 : decode b_MG_findStepsThatBreak 19 = .ok (.getfield 12, 3) := by decide +kernel
theorem d_MG_findStepsThatBreak_22 : decode b_MG_findStepsThatBreak 22 = .ok (.getfield 49, 3) := by decide +kernel
theorem d_MG_findStepsThatBreak_25 : decode b_MG_findStepsThatBreak 25 = .ok (.invokevirtual 40, 3) := by decide +kernel
theorem d_MG_findStepsThatBreak_28 : decode b_MG_findStepsThatBreak 28 = .ok (.aload_n 0, 1) := by decide +kernel
theorem d_MG_findStepsThatBreak_29 : decode b_MG_findStepsThatBreak 29 = .ok (.getfield 31, 3) := by decide +kernel
theorem d_MG_findStepsThatBreak_32 : decode b_MG_findStepsThatBreak 32 = .ok (.iload_n 1, 1) := by decide +kernel
theorem d_MG_findStepsThatBreak_33 : decode b_MG_findStepsThatBreak 33 = .ok (.invokevirtual 43, 3) := by decide +kernel
theorem d_MG_findStepsThatBreak_36 : decode b_MG_findStepsThatBreak 36 = .ok (.aload_n 2, 1) := by decide +kernel
theorem d_MG_findStepsThatBreak_37 : decode b_MG_findStepsThatBreak 37 = .ok (.iconst 0, 1) := by decide +kernel
theorem d_MG_findStepsThatBreak_38 : decode b_MG_findStepsThatBreak 38 = .ok (.invokevirtual 65, 3) := by decide +kernel
theorem d_MG_findStepsThatBreak_41 : decode b_MG_findStepsThatBreak 41 = .ok (.istore_n 3, 1) := by decide +kernel
theorem d_MG_findStepsThatBreak_42 : decode b_MG_findStepsThatBreak 42 = .ok (.iload_n 3, 1) := by decide +kernel
theorem d_MG_findStepsThatBreak_43 : decode b_MG_findStepsThatBreak 43 = .ok (.aload_n 2, 1) := by decide +kernel
theorem d_MG_findStepsThatBreak_44 : decode b_MG_findStepsThatBreak 44 = .ok (.getfield 68, 3) := by decide +kernel
theorem d_MG_findStepsThatBreak_47 : decode b_MG_findStepsThatBreak 47 = .ok (.if_icmp .ge 64, 3) := by decide +kernel
theorem d_MG_findStepsThatBreak_50 : decode b_MG_findStepsThatBreak 50 = .ok (.aload_n 0, 1) := by decide +kernel
theorem d_MG_findStepsThatBreak_51 : decode b_MG_findStepsThatBreak 51 = .ok (.getfield 27, 3) := by decide +kernel
theorem d_MG_findStepsThatBreak_54 : decode b_MG_findStepsThatBreak 54 = .ok (.aload_n 0, 1) := by decide +kernel
theorem d_MG_findStepsThatBreak_55 : decode b_MG_findStepsThatBreak 55 = .ok (.getfield 12, 3) := by decide +kernel
theorem d_MG_findStepsThatBreak_58 : decode b_MG_findStepsThatBreak 58 = .ok (.iconst 2, 1) := by decide +kernel
theorem d_MG_findStepsThatBreak_59 : decode b_MG_findStepsThatBreak 59 = .ok (.aload_n 0, 1) := by decide +kernel
theorem d_MG_findStepsThatBreak_60 : decode b_MG_findStepsThatBreak 60 = .ok (.getfield 12, 3) := by decide +kernel
theorem d_MG_findStepsThatBreak_63 : decode b_MG_findStepsThatBreak 63 = .ok (.getfield 71, 3) := by decide +kernel
theorem d_MG_findStepsThatBreak_66 : decode b_MG_findStepsThatBreak 66 = .ok (.iload_n 3, 1) := by decide +kernel
theorem d_MG_findStepsThatBreak_67 : decode b_MG_findStepsThatBreak 67 = .ok (.invokevirtual 75, 3) := by decide +kernel
theorem d_MG_findStepsThatBreak_70 : decode b_MG_findStepsThatBreak 70 = .ok (.invokevirtual 43, 3) := by decide +kernel
theorem d_MG_findStepsThatBreak_73 : decode b_MG_findStepsThatBreak 73 = .ok (.aload_n 0, 1) := by decide +kernel
theorem d_MG_findStepsThatBreak_74 : decode b_MG_findStepsThatBreak 74 = .ok (.getfield 31, 3) := by decide +kernel
theorem d_MG_findStepsThatBreak_77 : decode b_MG_findStepsThatBreak 77 = .ok (.iload_n 1, 1) := by decide +kernel
theorem d_MG_findStepsThatBreak_78 : decode b_MG_findStepsThatBreak 78 = .ok (.aload_n 0, 1) := by decide +kernel
theorem d_MG_findStepsThatBreak_79 : decode b_MG_findStepsThatBreak 79 = .ok (.getfield 12, 3) := by decide +kernel
theorem d_MG_findStepsThatBreak_82 : decode b_MG_findStepsThatBreak 82 = .ok (.iconst 2, 1) := by decide +kernel
theorem d_MG_findStepsThatBreak_83 : decode b_MG_findStepsThatBreak 83 = .ok (.aload_n 0, 1) := by decide +kernel
theorem d_MG_findStepsThatBreak_84 : decode b_MG_findStepsThatBreak 84 = .ok (.getfield 12, 3) := by decide +kernel
theorem d_MG_findStepsThatBreak_87 : decode b_MG_findStepsThatBreak 87 = .ok (.getfield 79, 3) := by decide +kernel
theorem d_MG_findStepsThatBreak_90 : decode b_MG_findStepsThatBreak 90 = .ok (.iload_n 3, 1) := by decide +kernel
theorem d_MG_findStepsThatBreak_91 : decode b_MG_findStepsThatBreak 91 = .ok (.invokevirtual 75, 3) := by decide +kernel
theorem d_MG_findStepsThatBreak_94 : decode b_MG_findStepsThatBreak 94 = .ok (.iconst (-1), 1) := by decide +kernel
theorem d_MG_findStepsThatBreak_95 : decode b_MG_findStepsThatBreak 95 = .ok (.ixor, 1) := by decide +kernel
theorem d_MG_findStepsThatBreak_96 : decode b_MG_findStepsThatBreak 96 = .ok (.iand, 1) := by decide +kernel
theorem d_MG_findStepsThatBreak_97 : decode b_MG_findStepsThatBreak 97 = .ok (.invokevirtual 43, 3) := by decide +kernel
theorem d_MG_findStepsThatBreak_100 : decode b_MG_findStepsThatBreak 100 = .ok (.aload_n 2, 1) := by decide +kernel
theorem d_MG_findStepsThatBreak_101 : decode b_MG_findStepsThatBreak 101 = .ok (.iload_n 3, 1) := by decide +kernel
theorem d_MG_findStepsThatBreak_102 : decode b_MG_findStepsThatBreak 102 = .ok (.iconst 1, 1) := by decide +kernel
theorem d_MG_findStepsThatBreak_103 : decode b_MG_findStepsThatBreak 103 = .ok (.iadd, 1) := by decide +kernel
theorem d_MG_findStepsThatBreak_104 : decode b_MG_findStepsThatBreak 104 = .ok (.invokevirtual 65, 3) := by decide +kernel
theorem d_MG_findStepsThatBreak_107 : decode b_MG_findStepsThatBreak 107 = .ok (.istore_n 3, 1) := by decide +kernel
theorem d_MG_findStepsThatBreak_108 : decode b_MG_findStepsThatBreak 108 = .ok (.goto (-66), 3) := by decide +kernel
theorem d_MG_findStepsThatBreak_111 : decode b_MG_findStepsThatBreak 111 = .ok (.aload_n 0, 1) := by decide +kernel
theorem d_MG_findStepsThatBreak_112 : decode b_MG_findStepsThatBreak 112 = .ok (.invokevirtual 82, 3) := by decide +kernel
theorem d_MG_findStepsThatBreak_115 : decode b_MG_findStepsThatBreak 115 = .ok (.return_, 1) := by decide +kernel
theorem d_MG_uniteSteps_0 : decode b_MG_uniteSteps 0 = .ok (.aload_n 0, 1) := by decide +kernel
theorem d_MG_uniteSteps_1 : decode b_MG_uniteSteps 1 = .ok (.getfield 37, 3) := by decide +kernel
theorem d_MG_uniteSteps_4 : decode b_MG_uniteSteps 4 = .ok (.aload_n 0, 1) := by decide +kernel
theorem d_MG_uniteSteps_5 : decode b_MG_uniteSteps 5 = .ok (.getfield 12, 3) := by decide +kernel
theorem d_MG_uniteSteps_8 : decode b_MG_uniteSteps 8 = .ok (.getfield 49, 3) := by decide +kernel
theorem d_MG_uniteSteps_11 : decode b_MG_uniteSteps 11 = .ok (.invokevirtual 40, 3) := by decide +kernel
theorem d_MG_uniteSteps_14 : decode b_MG_uniteSteps 14 = .ok (.aload_n 0, 1) := by decide +kernel
theorem d_MG_uniteSteps_15 : decode b_MG_uniteSteps 15 = .ok (.getfield 37, 3) := by decide +kernel
theorem d_MG_uniteSteps_18 : decode b_MG_uniteSteps 18 = .ok (.iconst 0, 1) := by decide +kernel
theorem d_MG_uniteSteps_19 : decode b_MG_uniteSteps 19 = .ok (.invokevirtual 43, 3) := by decide +kernel
theorem d_MG_uniteSteps_22 : decode b_MG_uniteSteps 22 = .ok (.aload_n 0, 1) := by decide +kernel
theorem d_MG_uniteSteps_23 : decode b_MG_uniteSteps 23 = .ok (.getfield 34, 3) := by decide +kernel
theorem d_MG_uniteSteps_26 : decode b_MG_uniteSteps 26 = .ok (.iconst 0, 1) := by decide +kernel
theorem d_MG_uniteSteps_27 : decode b_MG_uniteSteps 27 = .ok (.invokevirtual 65, 3) := by decide +kernel
theorem d_MG_uniteSteps_30 : decode b_MG_uniteSteps 30 = .ok (.istore_n 1, 1) := by decide +kernel
theorem d_MG_uniteSteps_31 : decode b_MG_uniteSteps 31 = .ok (.iload_n 1, 1) := by decide +kernel
theorem d_MG_uniteSteps_32 : decode b_MG_uniteSteps 32 = .ok (.aload_n 0, 1) := by decide +kernel
theorem d_MG_uniteSteps_33 : decode b_MG_uniteSteps 33 = .ok (.getfield 34, 3) := by decide +kernel
theorem d_MG_uniteSteps_36 : decode b_MG_uniteSteps 36 = .ok (.getfield 68, 3) := by decide +kernel
theorem d_MG_uniteSteps_39 : decode b_MG_uniteSteps 39 = .ok (.if_icmp .ge 33, 3) := by decide +kernel
theorem d_MG_uniteSteps_42 : decode b_MG_uniteSteps 42 = .ok (.aload_n 0, 1) := by decide +kernel
theorem d_MG_uniteSteps_43 : decode b_MG_uniteSteps 43 = .ok (.getfield 37, 3) := by decide +kernel
theorem d_MG_uniteSteps_46 : decode b_MG_uniteSteps 46 = .ok (.iload_n 1, 1) := by decide +kernel
theorem d_MG_uniteSteps_47 : decode b_MG_uniteSteps 47 = .ok (.invokevirtual 98, 3) := by decide +kernel
theorem d_MG_uniteSteps_50 : decode b_MG_uniteSteps 50 = .ok (.ifCond .ne 8, 3) := by decide +kernel
theorem d_MG_uniteSteps_53 : decode b_MG_uniteSteps 53 = .ok (.aload_n 0, 1) := by decide +kernel
theorem d_MG_uniteSteps_54 : decode b_MG_uniteSteps 54 = .ok (.iload_n 1, 1) := by decide +kernel
theorem d_MG_uniteSteps_55 : decode b_MG_uniteSteps 55 = .ok (.invokevirtual 102, 3) := by decide +kernel
theorem d_MG_uniteSteps_58 : decode b_MG_uniteSteps 58 = .ok (.aload_n 0, 1) := by decide +kernel
theorem d_MG_uniteSteps_59 : decode b_MG_uniteSteps 59 = .ok (.getfield 34, 3) := by decide +kernel
theorem d_MG_uniteSteps_62 : decode b_MG_uniteSteps 62 = .ok (.iload_n 1, 1) := by decide +kernel
theorem d_MG_uniteSteps_63 : decode b_MG_uniteSteps 63 = .ok (.iconst 1, 1) := by decide +kernel
theorem d_MG_uniteSteps_64 : decode b_MG_uniteSteps 64 = .ok (.iadd, 1) := by decide +kernel
theorem d_MG_uniteSteps_65 : decode b_MG_uniteSteps 65 = .ok (.invokevirtual 65, 3) := by decide +kernel
theorem d_MG_uniteSteps_68 : decode b_MG_uniteSteps 68 = .ok (.istore_n 1, 1) := by decide +kernel
theorem d_MG_uniteSteps_69 : decode b_MG_uniteSteps 69 = .ok (.goto (-38), 3) := by decide +kernel
theorem d_MG_uniteSteps_72 : decode b_MG_uniteSteps 72 = .ok (.return_, 1) := by decide +kernel
theorem d_MG_addStep_0 : decode b_MG_addStep 0 = .ok (.aload_n 0, 1) := by decide +kernel
theorem d_MG_addStep_1 : decode b_MG_addStep 1 = .ok (.getfield 37, 3) := by decide +kernel
theorem d_MG_addStep_4 : decode b_MG_addStep 4 = .ok (.iconst 0, 1) := by decide +kernel
theorem d_MG_addStep_5 : decode b_MG_addStep 5 = .ok (.invokevirtual 65, 3) := by decide +kernel
theorem d_MG_addStep_8 : decode b_MG_addStep 8 = .ok (.istore_n 2, 1) := by decide +kernel
theorem d_MG_addStep_9 : decode b_MG_addStep 9 = .ok (.iload_n 2, 1) := by decide +kernel
theorem d_MG_addStep_10 : decode b_MG_addStep 10 = .ok (.aload_n 0, 1) := by decide +kernel
theorem d_MG_addStep_11 : decode b_MG_addStep 11 = .ok (.getfield 37, 3) := by decide +kernel
theorem d_MG_addStep_14 : decode b_MG_addStep 14 = .ok (.getfield 68, 3) := by decide +kernel
theorem d_MG_addStep_17 : decode b_MG_addStep 17 = .ok (.if_icmp .ge 27, 3) := by decide +kernel
theorem d_MG_addStep_20 : decode b_MG_addStep 20 = .ok (.aload_n 0, 1) := by decide +kernel
theorem d_MG_addStep_21 : decode b_MG_addStep 21 = .ok (.getfield 37, 3) := by decide +kernel
theorem d_MG_addStep_24 : decode b_MG_addStep 24 = .ok (.iload_n 2, 1) := by decide +kernel
theorem d_MG_addStep_25 : decode b_MG_addStep 25 = .ok (.iload_n 1, 1) := by decide +kernel
theorem d_MG_addStep_26 : decode b_MG_addStep 26 = .ok (.ior, 1) := by decide +kernel
theorem d_MG_addStep_27 : decode b_MG_addStep 27 = .ok (.invokevirtual 43, 3) := by decide +kernel
theorem d_MG_addStep_30 : decode b_MG_addStep 30 = .ok (.aload_n 0, 1) := by decide +kernel
theorem d_MG_addStep_31 : decode b_MG_addStep 31 = .ok (.getfield 37, 3) := by decide +kernel
theorem d_MG_addStep_34 : decode b_MG_addStep 34 = .ok (.iload_n 2, 1) := by decide +kernel
theorem d_MG_addStep_35 : decode b_MG_addStep 35 = .ok (.iconst 1, 1) := by decide +kernel
theorem d_MG_addStep_36 : decode b_MG_addStep 36 = .ok (.iadd, 1) := by decide +kernel
theorem d_MG_addStep_37 : decode b_MG_addStep 37 = .ok (.invokevirtual 65, 3) := by decide +kernel
theorem d_MG_addStep_40 : decode b_MG_addStep 40 = .ok (.istore_n 2, 1) := by decide +kernel
theorem d_MG_addStep_41 : decode b_MG_addStep 41 = .ok (.goto (-32), 3) := by decide +kernel
theorem d_MG_addStep_44 : decode b_MG_addStep 44 = .ok (.return_, 1) := by decide +kernel
theorem d_MG_crossStartsWithEnds_0 : decode b_MG_crossStartsWithEnds 0 = .ok (.aload_n 0, 1) := by decide +kernel
theorem d_MG_crossStartsWithEnds_1 : decode b_MG_crossStartsWithEnds 1 = .ok (.getfield 34, 3) := by decide +kernel
theorem d_MG_crossStartsWithEnds_4 : decode b_MG_crossStartsWithEnds 4 = .ok (.aload_n 0, 1) := by decide +kernel
theorem d_MG_crossStartsWithEnds_5 : decode b_MG_crossStartsWithEnds 5 = .ok (.getfield 12, 3) := by decide +kernel
theorem d_MG_crossStartsWithEnds_8 : decode b_MG_crossStartsWithEnds 8 = .ok (.getfield 49, 3) := by decide +kernel
theorem d_MG_crossStartsWithEnds_11 : decode b_MG_crossStartsWithEnds 11 = .ok (.invokevirtual 40, 3) := by decide +kernel
theorem d_MG_crossStartsWithEnds_14 : decode b_MG_crossStartsWithEnds 14 = .ok (.aload_n 0, 1) := by decide +kernel
theorem d_MG_crossStartsWithEnds_15 : decode b_MG_crossStartsWithEnds 15 = .ok (.getfield 27, 3) := by decide +kernel
theorem d_MG_crossStartsWithEnds_18 : decode b_MG_crossStartsWithEnds 18 = .ok (.iconst 0, 1) := by decide +kernel
theorem d_MG_crossStartsWithEnds_19 : decode b_MG_crossStartsWithEnds 19 = .ok (.invokevirtual 65, 3) := by decide +kernel
theorem d_MG_crossStartsWithEnds_22 : decode b_MG_crossStartsWithEnds 22 = .ok (.istore_n 1, 1) := by decide +kernel
theorem d_MG_crossStartsWithEnds_23 : decode b_MG_crossStartsWithEnds 23 = .ok (.iload_n 1, 1) := by decide +kernel
theorem d_MG_crossStartsWithEnds_24 : decode b_MG_crossStartsWithEnds 24 = .ok (.aload_n 0, 1) := by decide +kernel
theorem d_MG_crossStartsWithEnds_25 : decode b_MG_crossStartsWithEnds 25 = .ok (.getfield 27, 3) := by decide +kernel
theorem d_MG_crossStartsWithEnds_28 : decode b_MG_crossStartsWithEnds 28 = .ok (.getfield 68, 3) := by decide +kernel
theorem d_MG_crossStartsWithEnds_31 : decode b_MG_crossStartsWithEnds 31 = .ok (.if_icmp .ge 61, 3) := by decide +kernel
theorem d_MG_crossStartsWithEnds_34 : decode b_MG_crossStartsWithEnds 34 = .ok (.aload_n 0, 1) := by decide +kernel
theorem d_MG_crossStartsWithEnds_35 : decode b_MG_crossStartsWithEnds 35 = .ok (.getfield 31, 3) := by decide +kernel
theorem d_MG_crossStartsWithEnds_38 : decode b_MG_crossStartsWithEnds 38 = .ok (.iconst 0, 1) := by decide +kernel
theorem d_MG_crossStartsWithEnds_39 : decode b_MG_crossStartsWithEnds 39 = .ok (.invokevirtual 65, 3) := by decide +kernel
theorem d_MG_crossStartsWithEnds_42 : decode b_MG_crossStartsWithEnds 42 = .ok (.istore_n 2, 1) := by decide +kernel
theorem d_MG_crossStartsWithEnds_43 : decode b_MG_crossStartsWithEnds 43 = .ok (.iload_n 2, 1) := by decide +kernel
theorem d_MG_crossStartsWithEnds_44 : decode b_MG_crossStartsWithEnds 44 = .ok (.aload_n 0, 1) := by decide +kernel
theorem d_MG_crossStartsWithEnds_45 : decode b_MG_crossStartsWithEnds 45 = .ok (.getfield 31, 3) := by decide +kernel
theorem d_MG_crossStartsWithEnds_48 : decode b_MG_crossStartsWithEnds 48 = .ok (.getfield 68, 3) := by decide +kernel
theorem d_MG_crossStartsWithEnds_51 : decode b_MG_crossStartsWithEnds 51 = .ok (.if_icmp .ge 27, 3) := by decide +kernel
theorem d_MG_crossStartsWithEnds_54 : decode b_MG_crossStartsWithEnds 54 = .ok (.aload_n 0, 1) := by decide +kernel
theorem d_MG_crossStartsWithEnds_55 : decode b_MG_crossStartsWithEnds 55 = .ok (.getfield 34, 3) := by decide +kernel
theorem d_MG_crossStartsWithEnds_58 : decode b_MG_crossStartsWithEnds 58 = .ok (.iload_n 1, 1) := by decide +kernel
theorem d_MG_crossStartsWithEnds_59 : decode b_MG_crossStartsWithEnds 59 = .ok (.iload_n 2, 1) := by decide +kernel
theorem d_MG_crossStartsWithEnds_60 : decode b_MG_crossStartsWithEnds 60 = .ok (.iand, 1) := by decide +kernel
theorem d_MG_crossStartsWithEnds_61 : decode b_MG_crossStartsWithEnds 61 = .ok (.invokevirtual 43, 3) := by decide +kernel
theorem d_MG_crossStartsWithEnds_64 : decode b_MG_crossStartsWithEnds 64 = .ok (.aload_n 0, 1) := by decide +kernel
theorem d_MG_crossStartsWithEnds_65 : decode b_MG_crossStartsWithEnds 65 = .ok (.getfield 31, 3) := by decide +kernel
theorem d_MG_crossStartsWithEnds_68 : decode b_MG_crossStartsWithEnds 68 = .ok (.iload_n 2, 1) := by decide +kernel
theorem d_MG_crossStartsWithEnds_69 : decode b_MG_crossStartsWithEnds 69 = .ok (.iconst 1, 1) := by decide +kernel
theorem d_MG_crossStartsWithEnds_70 : decode b_MG_crossStartsWithEnds 70 = .ok (.iadd, 1) := by decide +kernel
theorem d_MG_crossStartsWithEnds_71 : decode b_MG_crossStartsWithEnds 71 = .ok (.invokevirtual 65, 3) := by decide +kernel
theorem d_MG_crossStartsWithEnds_74 : decode b_MG_crossStartsWithEnds 74 = .ok (.istore_n 2, 1) := by decide +kernel
theorem d_MG_crossStartsWithEnds_75 : decode b_MG_crossStartsWithEnds 75 = .ok (.goto (-32), 3) := by decide +kernel
theorem d_MG_crossStartsWithEnds_78 : decode b_MG_crossStartsWithEnds 78 = .ok (.aload_n 0, 1) := by decide +kernel
theorem d_MG_crossStartsWithEnds_79 : decode b_MG_crossStartsWithEnds 79 = .ok (.getfield 27, 3) := by decide +kernel
theorem d_MG_crossStartsWithEnds_82 : decode b_MG_crossStartsWithEnds 82 = .ok (.iload_n 1, 1) := by decide +kernel
theorem d_MG_crossStartsWithEnds_83 : decode b_MG_crossStartsWithEnds 83 = .ok (.iconst 1, 1) := by decide +kernel
theorem d_MG_crossStartsWithEnds_84 : decode b_MG_crossStartsWithEnds 84 = .ok (.iadd, 1) := by decide +kernel
theorem d_MG_crossStartsWithEnds_85 : decode b_MG_crossStartsWithEnds 85 = .ok (.invokevirtual 65, 3) := by decide +kernel
theorem d_MG_crossStartsWithEnds_88 : decode b_MG_crossStartsWithEnds 88 = .ok (.istore_n 1, 1) := by decide +kernel
theorem d_MG_crossStartsWithEnds_89 : decode b_MG_crossStartsWithEnds 89 = .ok (.goto (-66), 3) := by decide +kernel
theorem d_MG_crossStartsWithEnds_92 : decode b_MG_crossStartsWithEnds 92 = .ok (.return_, 1) := by decide +kernel
theorem d_MG_addMembers_0 : decode b_MG_addMembers 0 = .ok (.aload_n 0, 1) := by decide +kernel
theorem d_MG_addMembers_1 : decode b_MG_addMembers 1 = .ok (.getfield 20, 3) := by decide +kernel
theorem d_MG_addMembers_4 : decode b_MG_addMembers 4 = .ok (.aload_n 0, 1) := by decide +kernel
theorem d_MG_addMembers_5 : decode b_MG_addMembers 5 = .ok (.getfield 12, 3) := by decide +kernel
theorem d_MG_addMembers_8 : decode b_MG_addMembers 8 = .ok (.getfield 49, 3) := by decide +kernel
theorem d_MG_addMembers_11 : decode b_MG_addMembers 11 = .ok (.aaload, 1) := by decide +kernel
theorem d_MG_addMembers_12 : decode b_MG_addMembers 12 = .ok (.astore_n 3, 1) := by decide +kernel
theorem d_MG_addMembers_13 : decode b_MG_addMembers 13 = .ok (.aload_n 3, 1) := by decide +kernel
theorem d_MG_addMembers_14 : decode b_MG_addMembers 14 = .ok (.iconst 0, 1) := by decide +kernel
theorem d_MG_addMembers_15 : decode b_MG_addMembers 15 = .ok (.invokevirtual 65, 3) := by decide +kernel
theorem d_MG_addMembers_18 : decode b_MG_addMembers 18 = .ok (.istore 4, 2) := by decide +kernel
theorem d_MG_addMembers_20 : decode b_MG_addMembers 20 = .ok (.iload 4, 2) := by decide +kernel
theorem d_MG_addMembers_22 : decode b_MG_addMembers 22 = .ok (.aload_n 3, 1) := by decide +kernel
theorem d_MG_addMembers_23 : decode b_MG_addMembers 23 = .ok (.getfield 68, 3) := by decide +kernel
theorem d_MG_addMembers_26 : decode b_MG_addMembers 26 = .ok (.if_icmp .ge 31, 3) := by decide +kernel
theorem d_MG_addMembers_29 : decode b_MG_addMembers 29 = .ok (.iload 4, 2) := by decide +kernel
theorem d_MG_addMembers_31 : decode b_MG_addMembers 31 = .ok (.iload_n 1, 1) := by decide +kernel
theorem d_MG_addMembers_32 : decode b_MG_addMembers 32 = .ok (.invokestatic 105, 3) := by decide +kernel
theorem d_MG_addMembers_35 : decode b_MG_addMembers 35 = .ok (.ifCond .eq 9, 3) := by decide +kernel
theorem d_MG_addMembers_38 : decode b_MG_addMembers 38 = .ok (.aload_n 2, 1) := by decide +kernel
theorem d_MG_addMembers_39 : decode b_MG_addMembers 39 = .ok (.iload 4, 2) := by decide +kernel
theorem d_MG_addMembers_41 : decode b_MG_addMembers 41 = .ok (.invokevirtual 43, 3) := by decide +kernel
theorem d_MG_addMembers_44 : decode b_MG_addMembers 44 = .ok (.aload_n 3, 1) := by decide +kernel
theorem d_MG_addMembers_45 : decode b_MG_addMembers 45 = .ok (.iload 4, 2) := by decide +kernel
theorem d_MG_addMembers_47 : decode b_MG_addMembers 47 = .ok (.iconst 1, 1) := by decide +kernel
theorem d_MG_addMembers_48 : decode b_MG_addMembers 48 = .ok (.iadd, 1) := by decide +kernel
theorem d_MG_addMembers_49 : decode b_MG_addMembers 49 = .ok (.invokevirtual 65, 3) := by decide +kernel
theorem d_MG_addMembers_52 : decode b_MG_addMembers 52 = .ok (.istore 4, 2) := by decide +kernel
theorem d_MG_addMembers_54 : decode b_MG_addMembers 54 = .ok (.goto (-34), 3) := by decide +kernel
theorem d_MG_addMembers_57 : decode b_MG_addMembers 57 = .ok (.return_, 1) := by decide +kernel
theorem d_MG_liesIn_0 : decode b_MG_liesIn 0 = .ok (.aload_n 0, 1) := by decide +kernel
theorem d_MG_liesIn_1 : decode b_MG_liesIn 1 = .ok (.iconst 1, 1) := by decide +kernel
theorem d_MG_liesIn_2 : decode b_MG_liesIn 2 = .ok (.iload_n 1, 1) := by decide +kernel
theorem d_MG_liesIn_3 : decode b_MG_liesIn 3 = .ok (.ishl, 1) := by decide +kernel
theorem d_MG_liesIn_4 : decode b_MG_liesIn 4 = .ok (.iconst 1, 1) := by decide +kernel
theorem d_MG_liesIn_5 : decode b_MG_liesIn 5 = .ok (.iload_n 2, 1) := by decide +kernel
theorem d_MG_liesIn_6 : decode b_MG_liesIn 6 = .ok (.ishl, 1) := by decide +kernel
theorem d_MG_liesIn_7 : decode b_MG_liesIn 7 = .ok (.invokevirtual 109, 3) := by decide +kernel
theorem d_MG_liesIn_10 : decode b_MG_liesIn 10 = .ok (.ifCond .ne 7, 3) := by decide +kernel
theorem d_MG_liesIn_13 : decode b_MG_liesIn 13 = .ok (.iconst 1, 1) := by decide +kernel
theorem d_MG_liesIn_14 : decode b_MG_liesIn 14 = .ok (.goto 4, 3) := by decide +kernel
theorem d_MG_liesIn_17 : decode b_MG_liesIn 17 = .ok (.iconst 0, 1) := by decide +kernel
theorem d_MG_liesIn_18 : decode b_MG_liesIn 18 = .ok (.ireturn, 1) := by decide +kernel
theorem d_MG_someLiesIn_0 : decode b_MG_someLiesIn 0 = .ok (.aload_n 0, 1) := by decide +kernel
theorem d_MG_someLiesIn_1 : decode b_MG_someLiesIn 1 = .ok (.getfield 20, 3) := by decide +kernel
theorem d_MG_someLiesIn_4 : decode b_MG_someLiesIn 4 = .ok (.aload_n 0, 1) := by decide +kernel
theorem d_MG_someLiesIn_5 : decode b_MG_someLiesIn 5 = .ok (.getfield 12, 3) := by decide +kernel
theorem d_MG_someLiesIn_8 : decode b_MG_someLiesIn 8 = .ok (.getfield 49, 3) := by decide +kernel
theorem d_MG_someLiesIn_11 : decode b_MG_someLiesIn 11 = .ok (.aaload, 1) := by decide +kernel
theorem d_MG_someLiesIn_12 : decode b_MG_someLiesIn 12 = .ok (.astore_n 3, 1) := by decide +kernel
theorem d_MG_someLiesIn_13 : decode b_MG_someLiesIn 13 = .ok (.aload_n 3, 1) := by decide +kernel
theorem d_MG_someLiesIn_14 : decode b_MG_someLiesIn 14 = .ok (.iconst 0, 1) := by decide +kernel
theorem d_MG_someLiesIn_15 : decode b_MG_someLiesIn 15 = .ok (.invokevirtual 65, 3) := by decide +kernel
theorem d_MG_someLiesIn_18 : decode b_MG_someLiesIn 18 = .ok (.istore 4, 2) := by decide +kernel
theorem d_MG_someLiesIn_20 : decode b_MG_someLiesIn 20 = .ok (.iload 4, 2) := by decide +kernel
theorem d_MG_someLiesIn_22 : decode b_MG_someLiesIn 22 = .ok (.aload_n 3, 1) := by decide +kernel
theorem d_MG_someLiesIn_23 : decode b_MG_someLiesIn 23 = .ok (.getfield 68, 3) := by decide +kernel
theorem d_MG_someLiesIn_26 : decode b_MG_someLiesIn 26 = .ok (.if_icmp .ge 33, 3) := by decide +kernel
theorem d_MG_someLiesIn_29 : decode b_MG_someLiesIn 29 = .ok (.iload 4, 2) := by decide +kernel
theorem d_MG_someLiesIn_31 : decode b_MG_someLiesIn 31 = .ok (.iload_n 1, 1) := by decide +kernel
theorem d_MG_someLiesIn_32 : decode b_MG_someLiesIn 32 = .ok (.iand, 1) := by decide +kernel
theorem d_MG_someLiesIn_33 : decode b_MG_someLiesIn 33 = .ok (.iload_n 1, 1) := by decide +kernel
theorem d_MG_someLiesIn_34 : decode b_MG_someLiesIn 34 = .ok (.if_icmp .ne 12, 3) := by decide +kernel
theorem d_MG_someLiesIn_37 : decode b_MG_someLiesIn 37 = .ok (.iload 4, 2) := by decide +kernel
theorem d_MG_someLiesIn_39 : decode b_MG_someLiesIn 39 = .ok (.iload_n 2, 1) := by decide +kernel
theorem d_MG_someLiesIn_40 : decode b_MG_someLiesIn 40 = .ok (.iand, 1) := by decide +kernel
theorem d_MG_someLiesIn_41 : decode b_MG_someLiesIn 41 = .ok (.ifCond .ne 5, 3) := by decide +kernel
theorem d_MG_someLiesIn_44 : decode b_MG_someLiesIn 44 = .ok (.iconst 1, 1) := by decide +kernel
theorem d_MG_someLiesIn_45 : decode b_MG_someLiesIn 45 = .ok (.ireturn, 1) := by decide +kernel
theorem d_MG_someLiesIn_46 : decode b_MG_someLiesIn 46 = .ok (.aload_n 3, 1) := by decide +kernel
theorem d_MG_someLiesIn_47 : decode b_MG_someLiesIn 47 = .ok (.iload 4, 2) := by decide +kernel
theorem d_MG_someLiesIn_49 : decode b_MG_someLiesIn 49 = .ok (.iconst 1, 1) := by decide +kernel
theorem d_MG_someLiesIn_50 : decode b_MG_someLiesIn 50 = .ok (.iadd, 1) := by decide +kernel
theorem d_MG_someLiesIn_51 : decode b_MG_someLiesIn 51 = .ok (.invokevirtual 65, 3) := by decide +kernel
theorem d_MG_someLiesIn_54 : decode b_MG_someLiesIn 54 = .ok (.istore 4, 2) := by decide +kernel
theorem d_MG_someLiesIn_56 : decode b_MG_someLiesIn 56 = .ok (.goto (-36), 3) := by decide +kernel
theorem d_MG_someLiesIn_59 : decode b_MG_someLiesIn 59 = .ok (.iconst 0, 1) := by decide +kernel
theorem d_MG_someLiesIn_60 : decode b_MG_someLiesIn 60 = .ok (.ireturn, 1) := by decide +kernel
