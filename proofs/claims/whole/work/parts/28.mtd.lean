theorem mt_in_of {S T : Nat → Prop} {i j : Nat} (h : ∀ z, S z ↔ T z) : (∀ q, S q → q.testBit i = true → q.testBit j = true) ↔ (∀ q, T q → q.testBit i = true → q.testBit j = true) := ⟨fun f q hq => f q ((h q).mpr hq), fun f q hq => f q ((h q).mp hq)⟩
theorem mt_or_has {q i j : Nat} (h : q &&& (2 ^ i ||| 2 ^ j) = 2 ^ i ||| 2 ^ j) : q.testBit i = true ∧ q.testBit j = true := by
  have e1 := congrArg (fun z => z.testBit i) h
  have e2 := congrArg (fun z => z.testBit j) h
  simp only [Nat.testBit_and, Nat.testBit_or, Nat.testBit_two_pow, decide_true, Bool.true_or, Bool.or_true, Bool.and_true] at e1 e2
  exact ⟨e1, e2⟩
theorem mt_has_or {q i j : Nat} (h1 : q.testBit i = true) (h2 : q.testBit j = true) : q &&& (2 ^ i ||| 2 ^ j) = 2 ^ i ||| 2 ^ j := by
  apply Nat.eq_of_testBit_eq
  intro t
  rw [Nat.testBit_and, Nat.testBit_or, Nat.testBit_two_pow, Nat.testBit_two_pow]
  by_cases e1 : i = t
  · subst e1; simp [h1]
  · by_cases e2 : j = t
    · subst e2; simp [h2]
    · simp [e1, e2]
theorem mt_both_of {S T : Nat → Prop} {i j : Nat} (h : ∀ z, S z ↔ T z) : (∃ q, S q ∧ q &&& (2 ^ i ||| 2 ^ j) = 2 ^ i ||| 2 ^ j ∧ q &&& 0 = 0) ↔ (∃ z, T z ∧ z.testBit i = true ∧ z.testBit j = true) := by
  constructor
  · rintro ⟨q, h1, h2, -⟩
    exact ⟨q, (h q).mp h1, (mt_or_has h2).1, (mt_or_has h2).2⟩
  · rintro ⟨q, h1, h2, h3⟩
    exact ⟨q, (h q).mpr h1, mt_has_or h2 h3, Nat.and_zero q⟩
theorem d_MT_init_0 : decode b_MT_init 0 = .ok (.aload_n 0, 1) := by decide +kernel
theorem d_MT_init_1 : decode b_MT_init 1 = .ok (.invokespecial 3, 3) := by decide +kernel
theorem d_MT_init_4 : decode b_MT_init 4 = .ok (.aload_n 0, 1) := by decide +kernel
theorem d_MT_init_5 : decode b_MT_init 5 = .ok (.new 9, 3) := by decide +kernel
theorem d_MT_init_8 : decode b_MT_init 8 = .ok (.dup, 1) := by decide +kernel
theorem d_MT_init_9 : decode b_MT_init 9 = .ok (.invokespecial 11, 3) := by decide +kernel
theorem d_MT_init_12 : decode b_MT_init 12 = .ok (.putfield 12, 3) := by decide +kernel
theorem d_MT_init_15 : decode b_MT_init 15 = .ok (.aload_n 0, 1) := by decide +kernel
theorem d_MT_init_16 : decode b_MT_init 16 = .ok (.new 16, 3) := by decide +kernel
theorem d_MT_init_19 : decode b_MT_init 19 = .ok (.dup, 1) := by decide +kernel
theorem d_MT_init_20 : decode b_MT_init 20 = .ok (.invokespecial 18, 3) := by decide +kernel
theorem d_MT_init_23 : decode b_MT_init 23 = .ok (.putfield 19, 3) := by decide +kernel
theorem d_MT_init_26 : decode b_MT_init 26 = .ok (.return_, 1) := by decide +kernel
theorem d_MT_constants_0 : decode b_MT_constants 0 = .ok (.iload_n 1, 1) := by decide +kernel
theorem d_MT_constants_1 : decode b_MT_constants 1 = .ok (.ifCond .lt 16, 3) := by decide +kernel
theorem d_MT_constants_4 : decode b_MT_constants 4 = .ok (.iload_n 1, 1) := by decide +kernel
theorem d_MT_constants_5 : decode b_MT_constants 5 = .ok (.bipush 63, 2) := by decide +kernel
theorem d_MT_constants_7 : decode b_MT_constants 7 = .ok (.if_icmp .gt 10, 3) := by decide +kernel
theorem d_MT_constants_10 : decode b_MT_constants 10 = .ok (.aload_n 0, 1) := by decide +kernel
theorem d_MT_constants_11 : decode b_MT_constants 11 = .ok (.invokevirtual 23, 3) := by decide +kernel
theorem d_MT_constants_14 : decode b_MT_constants 14 = .ok (.ifCond .eq 5, 3) := by decide +kernel
theorem d_MT_constants_17 : decode b_MT_constants 17 = .ok (.iconst (-1), 1) := by decide +kernel
theorem d_MT_constants_18 : decode b_MT_constants 18 = .ok (.ireturn, 1) := by decide +kernel
theorem d_MT_constants_19 : decode b_MT_constants 19 = .ok (.aload_n 0, 1) := by decide +kernel
theorem d_MT_constants_20 : decode b_MT_constants 20 = .ok (.getfield 12, 3) := by decide +kernel
theorem d_MT_constants_23 : decode b_MT_constants 23 = .ok (.iconst 0, 1) := by decide +kernel
theorem d_MT_constants_24 : decode b_MT_constants 24 = .ok (.iload_n 1, 1) := by decide +kernel
theorem d_MT_constants_25 : decode b_MT_constants 25 = .ok (.iload_n 1, 1) := by decide +kernel
theorem d_MT_constants_26 : decode b_MT_constants 26 = .ok (.invokevirtual 27, 3) := by decide +kernel
theorem d_MT_constants_29 : decode b_MT_constants 29 = .ok (.ireturn, 1) := by decide +kernel
theorem d_MT_product_0 : decode b_MT_product 0 = .ok (.aload_n 0, 1) := by decide +kernel
theorem d_MT_product_1 : decode b_MT_product 1 = .ok (.iconst 1, 1) := by decide +kernel
theorem d_MT_product_2 : decode b_MT_product 2 = .ok (.iload_n 1, 1) := by decide +kernel
theorem d_MT_product_3 : decode b_MT_product 3 = .ok (.iload_n 2, 1) := by decide +kernel
theorem d_MT_product_4 : decode b_MT_product 4 = .ok (.invokevirtual 31, 3) := by decide +kernel
theorem d_MT_product_7 : decode b_MT_product 7 = .ok (.ireturn, 1) := by decide +kernel
theorem d_MT_arrow_0 : decode b_MT_arrow 0 = .ok (.aload_n 0, 1) := by decide +kernel
theorem d_MT_arrow_1 : decode b_MT_arrow 1 = .ok (.iconst 2, 1) := by decide +kernel
theorem d_MT_arrow_2 : decode b_MT_arrow 2 = .ok (.iload_n 1, 1) := by decide +kernel
theorem d_MT_arrow_3 : decode b_MT_arrow 3 = .ok (.iload_n 2, 1) := by decide +kernel
theorem d_MT_arrow_4 : decode b_MT_arrow 4 = .ok (.invokevirtual 31, 3) := by decide +kernel
theorem d_MT_arrow_7 : decode b_MT_arrow 7 = .ok (.ireturn, 1) := by decide +kernel
theorem d_MT_union_0 : decode b_MT_union 0 = .ok (.aload_n 0, 1) := by decide +kernel
theorem d_MT_union_1 : decode b_MT_union 1 = .ok (.iconst 3, 1) := by decide +kernel
theorem d_MT_union_2 : decode b_MT_union 2 = .ok (.iload_n 1, 1) := by decide +kernel
theorem d_MT_union_3 : decode b_MT_union 3 = .ok (.iload_n 2, 1) := by decide +kernel
theorem d_MT_union_4 : decode b_MT_union 4 = .ok (.invokevirtual 31, 3) := by decide +kernel
theorem d_MT_union_7 : decode b_MT_union 7 = .ok (.ireturn, 1) := by decide +kernel
theorem d_MT_meet_0 : decode b_MT_meet 0 = .ok (.aload_n 0, 1) := by decide +kernel
theorem d_MT_meet_1 : decode b_MT_meet 1 = .ok (.iconst 4, 1) := by decide +kernel
theorem d_MT_meet_2 : decode b_MT_meet 2 = .ok (.iload_n 1, 1) := by decide +kernel
theorem d_MT_meet_3 : decode b_MT_meet 3 = .ok (.iload_n 2, 1) := by decide +kernel
theorem d_MT_meet_4 : decode b_MT_meet 4 = .ok (.invokevirtual 31, 3) := by decide +kernel
theorem d_MT_meet_7 : decode b_MT_meet 7 = .ok (.ireturn, 1) := by decide +kernel
theorem d_MT_not_0 : decode b_MT_not 0 = .ok (.aload_n 0, 1) := by decide +kernel
theorem d_MT_not_1 : decode b_MT_not 1 = .ok (.iconst 5, 1) := by decide +kernel
theorem d_MT_not_2 : decode b_MT_not 2 = .ok (.iload_n 1, 1) := by decide +kernel
theorem d_MT_not_3 : decode b_MT_not 3 = .ok (.iload_n 1, 1) := by decide +kernel
theorem d_MT_not_4 : decode b_MT_not 4 = .ok (.invokevirtual 31, 3) := by decide +kernel
theorem d_MT_not_7 : decode b_MT_not 7 = .ok (.ireturn, 1) := by decide +kernel
theorem d_MT_any_0 : decode b_MT_any 0 = .ok (.aload_n 0, 1) := by decide +kernel
theorem d_MT_any_1 : decode b_MT_any 1 = .ok (.invokevirtual 23, 3) := by decide +kernel
theorem d_MT_any_4 : decode b_MT_any 4 = .ok (.ifCond .eq 7, 3) := by decide +kernel
theorem d_MT_any_7 : decode b_MT_any 7 = .ok (.iconst (-1), 1) := by decide +kernel
theorem d_MT_any_8 : decode b_MT_any 8 = .ok (.goto 14, 3) := by decide +kernel
theorem d_MT_any_11 : decode b_MT_any 11 = .ok (.aload_n 0, 1) := by decide +kernel
theorem d_MT_any_12 : decode b_MT_any 12 = .ok (.getfield 12, 3) := by decide +kernel
theorem d_MT_any_15 : decode b_MT_any 15 = .ok (.bipush 6, 2) := by decide +kernel
theorem d_MT_any_17 : decode b_MT_any 17 = .ok (.iconst 0, 1) := by decide +kernel
theorem d_MT_any_18 : decode b_MT_any 18 = .ok (.iconst 0, 1) := by decide +kernel
theorem d_MT_any_19 : decode b_MT_any 19 = .ok (.invokevirtual 27, 3) := by decide +kernel
theorem d_MT_any_22 : decode b_MT_any 22 = .ok (.ireturn, 1) := by decide +kernel
theorem d_MT_types_0 : decode b_MT_types 0 = .ok (.aload_n 0, 1) := by decide +kernel
theorem d_MT_types_1 : decode b_MT_types 1 = .ok (.getfield 12, 3) := by decide +kernel
theorem d_MT_types_4 : decode b_MT_types 4 = .ok (.getfield 34, 3) := by decide +kernel
theorem d_MT_types_7 : decode b_MT_types 7 = .ok (.getfield 38, 3) := by decide +kernel
theorem d_MT_types_10 : decode b_MT_types 10 = .ok (.ireturn, 1) := by decide +kernel
theorem d_MT_empty_0 : decode b_MT_empty 0 = .ok (.aload_n 0, 1) := by decide +kernel
theorem d_MT_empty_1 : decode b_MT_empty 1 = .ok (.iload_n 1, 1) := by decide +kernel
theorem d_MT_empty_2 : decode b_MT_empty 2 = .ok (.invokevirtual 44, 3) := by decide +kernel
theorem d_MT_empty_5 : decode b_MT_empty 5 = .ok (.ifCond .eq 21, 3) := by decide +kernel
theorem d_MT_empty_8 : decode b_MT_empty 8 = .ok (.aload_n 0, 1) := by decide +kernel
theorem d_MT_empty_9 : decode b_MT_empty 9 = .ok (.getfield 12, 3) := by decide +kernel
theorem d_MT_empty_12 : decode b_MT_empty 12 = .ok (.iconst 1, 1) := by decide +kernel
theorem d_MT_empty_13 : decode b_MT_empty 13 = .ok (.iload_n 1, 1) := by decide +kernel
theorem d_MT_empty_14 : decode b_MT_empty 14 = .ok (.ishl, 1) := by decide +kernel
theorem d_MT_empty_15 : decode b_MT_empty 15 = .ok (.iconst 0, 1) := by decide +kernel
theorem d_MT_empty_16 : decode b_MT_empty 16 = .ok (.invokevirtual 48, 3) := by decide +kernel
theorem d_MT_empty_19 : decode b_MT_empty 19 = .ok (.ifCond .ne 7, 3) := by decide +kernel
theorem d_MT_empty_22 : decode b_MT_empty 22 = .ok (.iconst 1, 1) := by decide +kernel
theorem d_MT_empty_23 : decode b_MT_empty 23 = .ok (.goto 4, 3) := by decide +kernel
theorem d_MT_empty_26 : decode b_MT_empty 26 = .ok (.iconst 0, 1) := by decide +kernel
theorem d_MT_empty_27 : decode b_MT_empty 27 = .ok (.ireturn, 1) := by decide +kernel
theorem d_MT_within_0 : decode b_MT_within 0 = .ok (.aload_n 0, 1) := by decide +kernel
theorem d_MT_within_1 : decode b_MT_within 1 = .ok (.iload_n 1, 1) := by decide +kernel
theorem d_MT_within_2 : decode b_MT_within 2 = .ok (.invokevirtual 44, 3) := by decide +kernel
theorem d_MT_within_5 : decode b_MT_within 5 = .ok (.ifCond .eq 27, 3) := by decide +kernel
theorem d_MT_within_8 : decode b_MT_within 8 = .ok (.aload_n 0, 1) := by decide +kernel
theorem d_MT_within_9 : decode b_MT_within 9 = .ok (.iload_n 2, 1) := by decide +kernel
theorem d_MT_within_10 : decode b_MT_within 10 = .ok (.invokevirtual 44, 3) := by decide +kernel
theorem d_MT_within_13 : decode b_MT_within 13 = .ok (.ifCond .eq 19, 3) := by decide +kernel
theorem d_MT_within_16 : decode b_MT_within 16 = .ok (.aload_n 0, 1) := by decide +kernel
theorem d_MT_within_17 : decode b_MT_within 17 = .ok (.getfield 12, 3) := by decide +kernel
theorem d_MT_within_20 : decode b_MT_within 20 = .ok (.iload_n 1, 1) := by decide +kernel
theorem d_MT_within_21 : decode b_MT_within 21 = .ok (.iload_n 2, 1) := by decide +kernel
theorem d_MT_within_22 : decode b_MT_within 22 = .ok (.invokevirtual 52, 3) := by decide +kernel
theorem d_MT_within_25 : decode b_MT_within 25 = .ok (.ifCond .eq 7, 3) := by decide +kernel
theorem d_MT_within_28 : decode b_MT_within 28 = .ok (.iconst 1, 1) := by decide +kernel
theorem d_MT_within_29 : decode b_MT_within 29 = .ok (.goto 4, 3) := by decide +kernel
theorem d_MT_within_32 : decode b_MT_within 32 = .ok (.iconst 0, 1) := by decide +kernel
theorem d_MT_within_33 : decode b_MT_within 33 = .ok (.ireturn, 1) := by decide +kernel
theorem d_MT_compare_0 : decode b_MT_compare 0 = .ok (.aload_n 0, 1) := by decide +kernel
theorem d_MT_compare_1 : decode b_MT_compare 1 = .ok (.iload_n 1, 1) := by decide +kernel
theorem d_MT_compare_2 : decode b_MT_compare 2 = .ok (.invokevirtual 44, 3) := by decide +kernel
theorem d_MT_compare_5 : decode b_MT_compare 5 = .ok (.ifCond .eq 11, 3) := by decide +kernel
theorem d_MT_compare_8 : decode b_MT_compare 8 = .ok (.aload_n 0, 1) := by decide +kernel
theorem d_MT_compare_9 : decode b_MT_compare 9 = .ok (.iload_n 2, 1) := by decide +kernel
theorem d_MT_compare_10 : decode b_MT_compare 10 = .ok (.invokevirtual 44, 3) := by decide +kernel
theorem d_MT_compare_13 : decode b_MT_compare 13 = .ok (.ifCond .ne 5, 3) := by decide +kernel
theorem d_MT_compare_16 : decode b_MT_compare 16 = .ok (.iconst (-1), 1) := by decide +kernel
theorem d_MT_compare_17 : decode b_MT_compare 17 = .ok (.ireturn, 1) := by decide +kernel
theorem d_MT_compare_18 : decode b_MT_compare 18 = .ok (.aload_n 0, 1) := by decide +kernel
theorem d_MT_compare_19 : decode b_MT_compare 19 = .ok (.getfield 12, 3) := by decide +kernel
theorem d_MT_compare_22 : decode b_MT_compare 22 = .ok (.iload_n 1, 1) := by decide +kernel
theorem d_MT_compare_23 : decode b_MT_compare 23 = .ok (.iload_n 2, 1) := by decide +kernel
theorem d_MT_compare_24 : decode b_MT_compare 24 = .ok (.invokevirtual 52, 3) := by decide +kernel
theorem d_MT_compare_27 : decode b_MT_compare 27 = .ok (.istore_n 3, 1) := by decide +kernel
theorem d_MT_compare_28 : decode b_MT_compare 28 = .ok (.aload_n 0, 1) := by decide +kernel
theorem d_MT_compare_29 : decode b_MT_compare 29 = .ok (.getfield 12, 3) := by decide +kernel
theorem d_MT_compare_32 : decode b_MT_compare 32 = .ok (.iload_n 2, 1) := by decide +kernel
theorem d_MT_compare_33 : decode b_MT_compare 33 = .ok (.iload_n 1, 1) := by decide +kernel
theorem d_MT_compare_34 : decode b_MT_compare 34 = .ok (.invokevirtual 52, 3) := by decide +kernel
theorem d_MT_compare_37 : decode b_MT_compare 37 = .ok (.istore 4, 2) := by decide +kernel
theorem d_MT_compare_39 : decode b_MT_compare 39 = .ok (.iload_n 3, 1) := by decide +kernel
theorem d_MT_compare_40 : decode b_MT_compare 40 = .ok (.ifCond .eq 14, 3) := by decide +kernel
theorem d_MT_compare_43 : decode b_MT_compare 43 = .ok (.iload 4, 2) := by decide +kernel
theorem d_MT_compare_45 : decode b_MT_compare 45 = .ok (.ifCond .eq 7, 3) := by decide +kernel
theorem d_MT_compare_48 : decode b_MT_compare 48 = .ok (.iconst 3, 1) := by decide +kernel
theorem d_MT_compare_49 : decode b_MT_compare 49 = .ok (.goto 4, 3) := by decide +kernel
theorem d_MT_compare_52 : decode b_MT_compare 52 = .ok (.iconst 1, 1) := by decide +kernel
theorem d_MT_compare_53 : decode b_MT_compare 53 = .ok (.ireturn, 1) := by decide +kernel
theorem d_MT_compare_54 : decode b_MT_compare 54 = .ok (.iload 4, 2) := by decide +kernel
theorem d_MT_compare_56 : decode b_MT_compare 56 = .ok (.ifCond .eq 5, 3) := by decide +kernel
theorem d_MT_compare_59 : decode b_MT_compare 59 = .ok (.iconst 2, 1) := by decide +kernel
theorem d_MT_compare_60 : decode b_MT_compare 60 = .ok (.ireturn, 1) := by decide +kernel
theorem d_MT_compare_61 : decode b_MT_compare 61 = .ok (.aload_n 0, 1) := by decide +kernel
theorem d_MT_compare_62 : decode b_MT_compare 62 = .ok (.getfield 12, 3) := by decide +kernel
theorem d_MT_compare_65 : decode b_MT_compare 65 = .ok (.iconst 1, 1) := by decide +kernel
theorem d_MT_compare_66 : decode b_MT_compare 66 = .ok (.iload_n 1, 1) := by decide +kernel
theorem d_MT_compare_67 : decode b_MT_compare 67 = .ok (.ishl, 1) := by decide +kernel
theorem d_MT_compare_68 : decode b_MT_compare 68 = .ok (.iconst 1, 1) := by decide +kernel
theorem d_MT_compare_69 : decode b_MT_compare 69 = .ok (.iload_n 2, 1) := by decide +kernel
theorem d_MT_compare_70 : decode b_MT_compare 70 = .ok (.ishl, 1) := by decide +kernel
theorem d_MT_compare_71 : decode b_MT_compare 71 = .ok (.ior, 1) := by decide +kernel
theorem d_MT_compare_72 : decode b_MT_compare 72 = .ok (.iconst 0, 1) := by decide +kernel
theorem d_MT_compare_73 : decode b_MT_compare 73 = .ok (.invokevirtual 48, 3) := by decide +kernel
theorem d_MT_compare_76 : decode b_MT_compare 76 = .ok (.ifCond .eq 7, 3) := by decide +kernel
theorem d_MT_compare_79 : decode b_MT_compare 79 = .ok (.iconst 0, 1) := by decide +kernel
theorem d_MT_compare_80 : decode b_MT_compare 80 = .ok (.goto 4, 3) := by decide +kernel
theorem d_MT_compare_83 : decode b_MT_compare 83 = .ok (.iconst 4, 1) := by decide +kernel
theorem d_MT_compare_84 : decode b_MT_compare 84 = .ok (.ireturn, 1) := by decide +kernel
theorem d_MT_answers_0 : decode b_MT_answers 0 = .ok (.aload_n 0, 1) := by decide +kernel
theorem d_MT_answers_1 : decode b_MT_answers 1 = .ok (.iload_n 1, 1) := by decide +kernel
theorem d_MT_answers_2 : decode b_MT_answers 2 = .ok (.invokevirtual 44, 3) := by decide +kernel
theorem d_MT_answers_5 : decode b_MT_answers 5 = .ok (.ifCond .eq 19, 3) := by decide +kernel
theorem d_MT_answers_8 : decode b_MT_answers 8 = .ok (.aload_n 0, 1) := by decide +kernel
theorem d_MT_answers_9 : decode b_MT_answers 9 = .ok (.iload_n 2, 1) := by decide +kernel
theorem d_MT_answers_10 : decode b_MT_answers 10 = .ok (.invokevirtual 44, 3) := by decide +kernel
theorem d_MT_answers_13 : decode b_MT_answers 13 = .ok (.ifCond .eq 11, 3) := by decide +kernel
theorem d_MT_answers_16 : decode b_MT_answers 16 = .ok (.aload_n 0, 1) := by decide +kernel
theorem d_MT_answers_17 : decode b_MT_answers 17 = .ok (.iload_n 3, 1) := by decide +kernel
theorem d_MT_answers_18 : decode b_MT_answers 18 = .ok (.invokevirtual 44, 3) := by decide +kernel
theorem d_MT_answers_21 : decode b_MT_answers 21 = .ok (.ifCond .ne 5, 3) := by decide +kernel
theorem d_MT_answers_24 : decode b_MT_answers 24 = .ok (.iconst 0, 1) := by decide +kernel
theorem d_MT_answers_25 : decode b_MT_answers 25 = .ok (.ireturn, 1) := by decide +kernel
theorem d_MT_answers_26 : decode b_MT_answers 26 = .ok (.aload_n 0, 1) := by decide +kernel
theorem d_MT_answers_27 : decode b_MT_answers 27 = .ok (.getfield 12, 3) := by decide +kernel
theorem d_MT_answers_30 : decode b_MT_answers 30 = .ok (.getfield 34, 3) := by decide +kernel
theorem d_MT_answers_33 : decode b_MT_answers 33 = .ok (.iconst 2, 1) := by decide +kernel
theorem d_MT_answers_34 : decode b_MT_answers 34 = .ok (.iload_n 2, 1) := by decide +kernel
theorem d_MT_answers_35 : decode b_MT_answers 35 = .ok (.iload_n 3, 1) := by decide +kernel
theorem d_MT_answers_36 : decode b_MT_answers 36 = .ok (.invokevirtual 55, 3) := by decide +kernel
theorem d_MT_answers_39 : decode b_MT_answers 39 = .ok (.iconst 5, 1) := by decide +kernel
theorem d_MT_answers_40 : decode b_MT_answers 40 = .ok (.if_icmp .le 5, 3) := by decide +kernel
theorem d_MT_answers_43 : decode b_MT_answers 43 = .ok (.iconst 0, 1) := by decide +kernel
theorem d_MT_answers_44 : decode b_MT_answers 44 = .ok (.ireturn, 1) := by decide +kernel
theorem d_MT_answers_45 : decode b_MT_answers 45 = .ok (.aload_n 0, 1) := by decide +kernel
theorem d_MT_answers_46 : decode b_MT_answers 46 = .ok (.getfield 12, 3) := by decide +kernel
theorem d_MT_answers_49 : decode b_MT_answers 49 = .ok (.iconst 2, 1) := by decide +kernel
theorem d_MT_answers_50 : decode b_MT_answers 50 = .ok (.iload_n 2, 1) := by decide +kernel
theorem d_MT_answers_51 : decode b_MT_answers 51 = .ok (.iload_n 3, 1) := by decide +kernel
theorem d_MT_answers_52 : decode b_MT_answers 52 = .ok (.invokevirtual 27, 3) := by decide +kernel
theorem d_MT_answers_55 : decode b_MT_answers 55 = .ok (.istore 4, 2) := by decide +kernel
theorem d_MT_answers_57 : decode b_MT_answers 57 = .ok (.aload_n 0, 1) := by decide +kernel
theorem d_MT_answers_58 : decode b_MT_answers 58 = .ok (.getfield 12, 3) := by decide +kernel
theorem d_MT_answers_61 : decode b_MT_answers 61 = .ok (.iload_n 1, 1) := by decide +kernel
theorem d_MT_answers_62 : decode b_MT_answers 62 = .ok (.iload 4, 2) := by decide +kernel
theorem d_MT_answers_64 : decode b_MT_answers 64 = .ok (.invokevirtual 52, 3) := by decide +kernel
theorem d_MT_answers_67 : decode b_MT_answers 67 = .ok (.istore 5, 2) := by decide +kernel
theorem d_MT_answers_69 : decode b_MT_answers 69 = .ok (.aload_n 0, 1) := by decide +kernel
theorem d_MT_answers_70 : decode b_MT_answers 70 = .ok (.getfield 12, 3) := by decide +kernel
theorem d_MT_answers_73 : decode b_MT_answers 73 = .ok (.getfield 34, 3) := by decide +kernel
theorem d_MT_answers_76 : decode b_MT_answers 76 = .ok (.iload 4, 2) := by decide +kernel
theorem d_MT_answers_78 : decode b_MT_answers 78 = .ok (.invokevirtual 58, 3) := by decide +kernel
theorem d_MT_answers_81 : decode b_MT_answers 81 = .ok (.iload 5, 2) := by decide +kernel
theorem d_MT_answers_83 : decode b_MT_answers 83 = .ok (.ireturn, 1) := by decide +kernel
theorem d_MT_constant_0 : decode b_MT_constant 0 = .ok (.iload_n 1, 1) := by decide +kernel
theorem d_MT_constant_1 : decode b_MT_constant 1 = .ok (.ifCond .lt 9, 3) := by decide +kernel
theorem d_MT_constant_4 : decode b_MT_constant 4 = .ok (.iload_n 1, 1) := by decide +kernel
theorem d_MT_constant_5 : decode b_MT_constant 5 = .ok (.bipush 6, 2) := by decide +kernel
theorem d_MT_constant_7 : decode b_MT_constant 7 = .ok (.if_icmp .lt 5, 3) := by decide +kernel
theorem d_MT_constant_10 : decode b_MT_constant 10 = .ok (.iconst (-1), 1) := by decide +kernel
theorem d_MT_constant_11 : decode b_MT_constant 11 = .ok (.ireturn, 1) := by decide +kernel
theorem d_MT_constant_12 : decode b_MT_constant 12 = .ok (.aload_n 0, 1) := by decide +kernel
theorem d_MT_constant_13 : decode b_MT_constant 13 = .ok (.iconst 0, 1) := by decide +kernel
theorem d_MT_constant_14 : decode b_MT_constant 14 = .ok (.iload_n 1, 1) := by decide +kernel
theorem d_MT_constant_15 : decode b_MT_constant 15 = .ok (.iload_n 1, 1) := by decide +kernel
theorem d_MT_constant_16 : decode b_MT_constant 16 = .ok (.iconst 1, 1) := by decide +kernel
theorem d_MT_constant_17 : decode b_MT_constant 17 = .ok (.invokevirtual 62, 3) := by decide +kernel
theorem d_MT_constant_20 : decode b_MT_constant 20 = .ok (.ireturn, 1) := by decide +kernel
theorem d_MT_pair_0 : decode b_MT_pair 0 = .ok (.aload_n 0, 1) := by decide +kernel
theorem d_MT_pair_1 : decode b_MT_pair 1 = .ok (.getfield 19, 3) := by decide +kernel
theorem d_MT_pair_4 : decode b_MT_pair 4 = .ok (.iload_n 1, 1) := by decide +kernel
theorem d_MT_pair_5 : decode b_MT_pair 5 = .ok (.invokevirtual 66, 3) := by decide +kernel
theorem d_MT_pair_8 : decode b_MT_pair 8 = .ok (.ifCond .eq 14, 3) := by decide +kernel
theorem d_MT_pair_11 : decode b_MT_pair 11 = .ok (.aload_n 0, 1) := by decide +kernel
theorem d_MT_pair_12 : decode b_MT_pair 12 = .ok (.getfield 19, 3) := by decide +kernel
theorem d_MT_pair_15 : decode b_MT_pair 15 = .ok (.iload_n 2, 1) := by decide +kernel
theorem d_MT_pair_16 : decode b_MT_pair 16 = .ok (.invokevirtual 66, 3) := by decide +kernel
theorem d_MT_pair_19 : decode b_MT_pair 19 = .ok (.ifCond .ne 5, 3) := by decide +kernel
theorem d_MT_pair_22 : decode b_MT_pair 22 = .ok (.iconst (-1), 1) := by decide +kernel
theorem d_MT_pair_23 : decode b_MT_pair 23 = .ok (.ireturn, 1) := by decide +kernel
theorem d_MT_pair_24 : decode b_MT_pair 24 = .ok (.aload_n 0, 1) := by decide +kernel
theorem d_MT_pair_25 : decode b_MT_pair 25 = .ok (.iconst 1, 1) := by decide +kernel
theorem d_MT_pair_26 : decode b_MT_pair 26 = .ok (.iload_n 1, 1) := by decide +kernel
theorem d_MT_pair_27 : decode b_MT_pair 27 = .ok (.iload_n 2, 1) := by decide +kernel
theorem d_MT_pair_28 : decode b_MT_pair 28 = .ok (.aload_n 0, 1) := by decide +kernel
theorem d_MT_pair_29 : decode b_MT_pair 29 = .ok (.getfield 19, 3) := by decide +kernel
theorem d_MT_pair_32 : decode b_MT_pair 32 = .ok (.getfield 69, 3) := by decide +kernel
theorem d_MT_pair_35 : decode b_MT_pair 35 = .ok (.iload_n 1, 1) := by decide +kernel
theorem d_MT_pair_36 : decode b_MT_pair 36 = .ok (.iaload, 1) := by decide +kernel
theorem d_MT_pair_37 : decode b_MT_pair 37 = .ok (.aload_n 0, 1) := by decide +kernel
theorem d_MT_pair_38 : decode b_MT_pair 38 = .ok (.getfield 19, 3) := by decide +kernel
theorem d_MT_pair_41 : decode b_MT_pair 41 = .ok (.getfield 69, 3) := by decide +kernel
theorem d_MT_pair_44 : decode b_MT_pair 44 = .ok (.iload_n 2, 1) := by decide +kernel
theorem d_MT_pair_45 : decode b_MT_pair 45 = .ok (.iaload, 1) := by decide +kernel
theorem d_MT_pair_46 : decode b_MT_pair 46 = .ok (.iadd, 1) := by decide +kernel
theorem d_MT_pair_47 : decode b_MT_pair 47 = .ok (.invokevirtual 62, 3) := by decide +kernel
theorem d_MT_pair_50 : decode b_MT_pair 50 = .ok (.ireturn, 1) := by decide +kernel
theorem d_MT_function_0 : decode b_MT_function 0 = .ok (.aload_n 0, 1) := by decide +kernel
theorem d_MT_function_1 : decode b_MT_function 1 = .ok (.iload_n 1, 1) := by decide +kernel
theorem d_MT_function_2 : decode b_MT_function 2 = .ok (.invokevirtual 44, 3) := by decide +kernel
theorem d_MT_function_5 : decode b_MT_function 5 = .ok (.ifCond .eq 18, 3) := by decide +kernel
theorem d_MT_function_8 : decode b_MT_function 8 = .ok (.aload_n 0, 1) := by decide +kernel
theorem d_MT_function_9 : decode b_MT_function 9 = .ok (.getfield 12, 3) := by decide +kernel
theorem d_MT_function_12 : decode b_MT_function 12 = .ok (.getfield 34, 3) := by decide +kernel
theorem d_MT_function_15 : decode b_MT_function 15 = .ok (.getfield 73, 3) := by decide +kernel
theorem d_MT_function_18 : decode b_MT_function 18 = .ok (.iload_n 1, 1) := by decide +kernel
theorem d_MT_function_19 : decode b_MT_function 19 = .ok (.baload, 1) := by decide +kernel
theorem d_MT_function_20 : decode b_MT_function 20 = .ok (.ifCond .ne 5, 3) := by decide +kernel
theorem d_MT_function_23 : decode b_MT_function 23 = .ok (.iconst (-1), 1) := by decide +kernel
theorem d_MT_function_24 : decode b_MT_function 24 = .ok (.ireturn, 1) := by decide +kernel
theorem d_MT_function_25 : decode b_MT_function 25 = .ok (.aload_n 0, 1) := by decide +kernel
theorem d_MT_function_26 : decode b_MT_function 26 = .ok (.iconst 2, 1) := by decide +kernel
theorem d_MT_function_27 : decode b_MT_function 27 = .ok (.iload_n 1, 1) := by decide +kernel
theorem d_MT_function_28 : decode b_MT_function 28 = .ok (.iload_n 1, 1) := by decide +kernel
theorem d_MT_function_29 : decode b_MT_function 29 = .ok (.iconst 1, 1) := by decide +kernel
theorem d_MT_function_30 : decode b_MT_function 30 = .ok (.invokevirtual 62, 3) := by decide +kernel
theorem d_MT_function_33 : decode b_MT_function 33 = .ok (.ireturn, 1) := by decide +kernel
theorem d_MT_belongs_0 : decode b_MT_belongs 0 = .ok (.aload_n 0, 1) := by decide +kernel
theorem d_MT_belongs_1 : decode b_MT_belongs 1 = .ok (.getfield 19, 3) := by decide +kernel
theorem d_MT_belongs_4 : decode b_MT_belongs 4 = .ok (.iload_n 1, 1) := by decide +kernel
theorem d_MT_belongs_5 : decode b_MT_belongs 5 = .ok (.invokevirtual 66, 3) := by decide +kernel
theorem d_MT_belongs_8 : decode b_MT_belongs 8 = .ok (.ifCond .eq 34, 3) := by decide +kernel
theorem d_MT_belongs_11 : decode b_MT_belongs 11 = .ok (.aload_n 0, 1) := by decide +kernel
theorem d_MT_belongs_12 : decode b_MT_belongs 12 = .ok (.iload_n 2, 1) := by decide +kernel
theorem d_MT_belongs_13 : decode b_MT_belongs 13 = .ok (.invokevirtual 44, 3) := by decide +kernel
theorem d_MT_belongs_16 : decode b_MT_belongs 16 = .ok (.ifCond .eq 26, 3) := by decide +kernel
theorem d_MT_belongs_19 : decode b_MT_belongs 19 = .ok (.aload_n 0, 1) := by decide +kernel
theorem d_MT_belongs_20 : decode b_MT_belongs 20 = .ok (.getfield 19, 3) := by decide +kernel
theorem d_MT_belongs_23 : decode b_MT_belongs 23 = .ok (.iload_n 1, 1) := by decide +kernel
theorem d_MT_belongs_24 : decode b_MT_belongs 24 = .ok (.aload_n 0, 1) := by decide +kernel
theorem d_MT_belongs_25 : decode b_MT_belongs 25 = .ok (.getfield 12, 3) := by decide +kernel
theorem d_MT_belongs_28 : decode b_MT_belongs 28 = .ok (.invokevirtual 77, 3) := by decide +kernel
theorem d_MT_belongs_31 : decode b_MT_belongs 31 = .ok (.iload_n 2, 1) := by decide +kernel
theorem d_MT_belongs_32 : decode b_MT_belongs 32 = .ok (.invokestatic 81, 3) := by decide +kernel
theorem d_MT_belongs_35 : decode b_MT_belongs 35 = .ok (.ifCond .eq 7, 3) := by decide +kernel
theorem d_MT_belongs_38 : decode b_MT_belongs 38 = .ok (.iconst 1, 1) := by decide +kernel
theorem d_MT_belongs_39 : decode b_MT_belongs 39 = .ok (.goto 4, 3) := by decide +kernel
theorem d_MT_belongs_42 : decode b_MT_belongs 42 = .ok (.iconst 0, 1) := by decide +kernel
theorem d_MT_belongs_43 : decode b_MT_belongs 43 = .ok (.ireturn, 1) := by decide +kernel
theorem d_MT_match_0 : decode b_MT_match 0 = .ok (.aload_n 0, 1) := by decide +kernel
theorem d_MT_match_1 : decode b_MT_match 1 = .ok (.getfield 19, 3) := by decide +kernel
theorem d_MT_match_4 : decode b_MT_match 4 = .ok (.iload_n 1, 1) := by decide +kernel
theorem d_MT_match_5 : decode b_MT_match 5 = .ok (.invokevirtual 66, 3) := by decide +kernel
theorem d_MT_match_8 : decode b_MT_match 8 = .ok (.ifCond .eq 28, 3) := by decide +kernel
theorem d_MT_match_11 : decode b_MT_match 11 = .ok (.aload_n 0, 1) := by decide +kernel
theorem d_MT_match_12 : decode b_MT_match 12 = .ok (.iload_n 2, 1) := by decide +kernel
theorem d_MT_match_13 : decode b_MT_match 13 = .ok (.invokevirtual 44, 3) := by decide +kernel
theorem d_MT_match_16 : decode b_MT_match 16 = .ok (.ifCond .eq 20, 3) := by decide +kernel
theorem d_MT_match_19 : decode b_MT_match 19 = .ok (.aload_n 0, 1) := by decide +kernel
theorem d_MT_match_20 : decode b_MT_match 20 = .ok (.iload_n 3, 1) := by decide +kernel
theorem d_MT_match_21 : decode b_MT_match 21 = .ok (.invokevirtual 44, 3) := by decide +kernel
theorem d_MT_match_24 : decode b_MT_match 24 = .ok (.ifCond .eq 12, 3) := by decide +kernel
theorem d_MT_match_27 : decode b_MT_match 27 = .ok (.aload_n 0, 1) := by decide +kernel
theorem d_MT_match_28 : decode b_MT_match 28 = .ok (.iload 4, 2) := by decide +kernel
theorem d_MT_match_30 : decode b_MT_match 30 = .ok (.invokevirtual 44, 3) := by decide +kernel
theorem d_MT_match_33 : decode b_MT_match 33 = .ok (.ifCond .ne 5, 3) := by decide +kernel
theorem d_MT_match_36 : decode b_MT_match 36 = .ok (.iconst (-1), 1) := by decide +kernel
theorem d_MT_match_37 : decode b_MT_match 37 = .ok (.ireturn, 1) := by decide +kernel
theorem d_MT_match_38 : decode b_MT_match 38 = .ok (.aload_n 0, 1) := by decide +kernel
theorem d_MT_match_39 : decode b_MT_match 39 = .ok (.getfield 19, 3) := by decide +kernel
theorem d_MT_match_42 : decode b_MT_match 42 = .ok (.iload_n 1, 1) := by decide +kernel
theorem d_MT_match_43 : decode b_MT_match 43 = .ok (.aload_n 0, 1) := by decide +kernel
theorem d_MT_match_44 : decode b_MT_match 44 = .ok (.getfield 12, 3) := by decide +kernel
theorem d_MT_match_47 : decode b_MT_match 47 = .ok (.invokevirtual 77, 3) := by decide +kernel
theorem d_MT_match_50 : decode b_MT_match 50 = .ok (.istore 5, 2) := by decide +kernel
theorem d_MT_match_52 : decode b_MT_match 52 = .ok (.iload 5, 2) := by decide +kernel
theorem d_MT_match_54 : decode b_MT_match 54 = .ok (.iload_n 2, 1) := by decide +kernel
theorem d_MT_match_55 : decode b_MT_match 55 = .ok (.invokestatic 81, 3) := by decide +kernel
theorem d_MT_match_58 : decode b_MT_match 58 = .ok (.ifCond .eq 5, 3) := by decide +kernel
theorem d_MT_match_61 : decode b_MT_match 61 = .ok (.iconst 1, 1) := by decide +kernel
theorem d_MT_match_62 : decode b_MT_match 62 = .ok (.ireturn, 1) := by decide +kernel
theorem d_MT_match_63 : decode b_MT_match 63 = .ok (.iload 5, 2) := by decide +kernel
theorem d_MT_match_65 : decode b_MT_match 65 = .ok (.iload_n 3, 1) := by decide +kernel
theorem d_MT_match_66 : decode b_MT_match 66 = .ok (.invokestatic 81, 3) := by decide +kernel
theorem d_MT_match_69 : decode b_MT_match 69 = .ok (.ifCond .eq 5, 3) := by decide +kernel
theorem d_MT_match_72 : decode b_MT_match 72 = .ok (.iconst 2, 1) := by decide +kernel
theorem d_MT_match_73 : decode b_MT_match 73 = .ok (.ireturn, 1) := by decide +kernel
theorem d_MT_match_74 : decode b_MT_match 74 = .ok (.iload 5, 2) := by decide +kernel
theorem d_MT_match_76 : decode b_MT_match 76 = .ok (.iload 4, 2) := by decide +kernel
theorem d_MT_match_78 : decode b_MT_match 78 = .ok (.invokestatic 81, 3) := by decide +kernel
theorem d_MT_match_81 : decode b_MT_match 81 = .ok (.ifCond .eq 7, 3) := by decide +kernel
theorem d_MT_match_84 : decode b_MT_match 84 = .ok (.iconst 3, 1) := by decide +kernel
theorem d_MT_match_85 : decode b_MT_match 85 = .ok (.goto 4, 3) := by decide +kernel
theorem d_MT_match_88 : decode b_MT_match 88 = .ok (.iconst 0, 1) := by decide +kernel
theorem d_MT_match_89 : decode b_MT_match 89 = .ok (.ireturn, 1) := by decide +kernel
theorem d_MT_sorts_0 : decode b_MT_sorts 0 = .ok (.aload_n 0, 1) := by decide +kernel
theorem d_MT_sorts_1 : decode b_MT_sorts 1 = .ok (.getfield 19, 3) := by decide +kernel
theorem d_MT_sorts_4 : decode b_MT_sorts 4 = .ok (.iload_n 1, 1) := by decide +kernel
theorem d_MT_sorts_5 : decode b_MT_sorts 5 = .ok (.invokevirtual 66, 3) := by decide +kernel
theorem d_MT_sorts_8 : decode b_MT_sorts 8 = .ok (.ifCond .ne 5, 3) := by decide +kernel
theorem d_MT_sorts_11 : decode b_MT_sorts 11 = .ok (.iconst (-1), 1) := by decide +kernel
theorem d_MT_sorts_12 : decode b_MT_sorts 12 = .ok (.ireturn, 1) := by decide +kernel
theorem d_MT_sorts_13 : decode b_MT_sorts 13 = .ok (.aload_n 0, 1) := by decide +kernel
theorem d_MT_sorts_14 : decode b_MT_sorts 14 = .ok (.getfield 19, 3) := by decide +kernel
theorem d_MT_sorts_17 : decode b_MT_sorts 17 = .ok (.iload_n 1, 1) := by decide +kernel
theorem d_MT_sorts_18 : decode b_MT_sorts 18 = .ok (.aload_n 0, 1) := by decide +kernel
theorem d_MT_sorts_19 : decode b_MT_sorts 19 = .ok (.getfield 12, 3) := by decide +kernel
theorem d_MT_sorts_22 : decode b_MT_sorts 22 = .ok (.invokevirtual 77, 3) := by decide +kernel
theorem d_MT_sorts_25 : decode b_MT_sorts 25 = .ok (.invokestatic 84, 3) := by decide +kernel
theorem d_MT_sorts_28 : decode b_MT_sorts 28 = .ok (.ireturn, 1) := by decide +kernel
theorem d_MT_cut_0 : decode b_MT_cut 0 = .ok (.aload_n 0, 1) := by decide +kernel
theorem d_MT_cut_1 : decode b_MT_cut 1 = .ok (.getfield 19, 3) := by decide +kernel
theorem d_MT_cut_4 : decode b_MT_cut 4 = .ok (.iconst 0, 1) := by decide +kernel
theorem d_MT_cut_5 : decode b_MT_cut 5 = .ok (.putfield 90, 3) := by decide +kernel
theorem d_MT_cut_8 : decode b_MT_cut 8 = .ok (.aload_n 0, 1) := by decide +kernel
theorem d_MT_cut_9 : decode b_MT_cut 9 = .ok (.getfield 12, 3) := by decide +kernel
theorem d_MT_cut_12 : decode b_MT_cut 12 = .ok (.getfield 34, 3) := by decide +kernel
theorem d_MT_cut_15 : decode b_MT_cut 15 = .ok (.iload_n 1, 1) := by decide +kernel
theorem d_MT_cut_16 : decode b_MT_cut 16 = .ok (.iconst 0, 1) := by decide +kernel
theorem d_MT_cut_17 : decode b_MT_cut 17 = .ok (.invokestatic 91, 3) := by decide +kernel
theorem d_MT_cut_20 : decode b_MT_cut 20 = .ok (.invokevirtual 58, 3) := by decide +kernel
theorem d_MT_cut_23 : decode b_MT_cut 23 = .ok (.aload_n 0, 1) := by decide +kernel
theorem d_MT_cut_24 : decode b_MT_cut 24 = .ok (.getfield 12, 3) := by decide +kernel
theorem d_MT_cut_27 : decode b_MT_cut 27 = .ok (.getfield 34, 3) := by decide +kernel
theorem d_MT_cut_30 : decode b_MT_cut 30 = .ok (.getfield 38, 3) := by decide +kernel
theorem d_MT_cut_33 : decode b_MT_cut 33 = .ok (.ireturn, 1) := by decide +kernel
theorem d_MT_hasType_0 : decode b_MT_hasType 0 = .ok (.iload_n 1, 1) := by decide +kernel
theorem d_MT_hasType_1 : decode b_MT_hasType 1 = .ok (.ifCond .lt 21, 3) := by decide +kernel
theorem d_MT_hasType_4 : decode b_MT_hasType 4 = .ok (.iload_n 1, 1) := by decide +kernel
theorem d_MT_hasType_5 : decode b_MT_hasType 5 = .ok (.aload_n 0, 1) := by decide +kernel
theorem d_MT_hasType_6 : decode b_MT_hasType 6 = .ok (.getfield 12, 3) := by decide +kernel
theorem d_MT_hasType_9 : decode b_MT_hasType 9 = .ok (.getfield 34, 3) := by decide +kernel
theorem d_MT_hasType_12 : decode b_MT_hasType 12 = .ok (.getfield 38, 3) := by decide +kernel
theorem d_MT_hasType_15 : decode b_MT_hasType 15 = .ok (.if_icmp .ge 7, 3) := by decide +kernel
theorem d_MT_hasType_18 : decode b_MT_hasType 18 = .ok (.iconst 1, 1) := by decide +kernel
theorem d_MT_hasType_19 : decode b_MT_hasType 19 = .ok (.goto 4, 3) := by decide +kernel
theorem d_MT_hasType_22 : decode b_MT_hasType 22 = .ok (.iconst 0, 1) := by decide +kernel
theorem d_MT_hasType_23 : decode b_MT_hasType 23 = .ok (.ireturn, 1) := by decide +kernel
theorem d_MT_isFull_0 : decode b_MT_isFull 0 = .ok (.aload_n 0, 1) := by decide +kernel
theorem d_MT_isFull_1 : decode b_MT_isFull 1 = .ok (.getfield 12, 3) := by decide +kernel
theorem d_MT_isFull_4 : decode b_MT_isFull 4 = .ok (.getfield 34, 3) := by decide +kernel
theorem d_MT_isFull_7 : decode b_MT_isFull 7 = .ok (.getfield 38, 3) := by decide +kernel
theorem d_MT_isFull_10 : decode b_MT_isFull 10 = .ok (.bipush 12, 2) := by decide +kernel
theorem d_MT_isFull_12 : decode b_MT_isFull 12 = .ok (.if_icmp .lt 7, 3) := by decide +kernel
theorem d_MT_isFull_15 : decode b_MT_isFull 15 = .ok (.iconst 1, 1) := by decide +kernel
theorem d_MT_isFull_16 : decode b_MT_isFull 16 = .ok (.goto 4, 3) := by decide +kernel
theorem d_MT_isFull_19 : decode b_MT_isFull 19 = .ok (.iconst 0, 1) := by decide +kernel
theorem d_MT_isFull_20 : decode b_MT_isFull 20 = .ok (.ireturn, 1) := by decide +kernel
theorem d_MT_makeFromParts_0 : decode b_MT_makeFromParts 0 = .ok (.aload_n 0, 1) := by decide +kernel
theorem d_MT_makeFromParts_1 : decode b_MT_makeFromParts 1 = .ok (.iload_n 2, 1) := by decide +kernel
theorem d_MT_makeFromParts_2 : decode b_MT_makeFromParts 2 = .ok (.invokevirtual 44, 3) := by decide +kernel
theorem d_MT_makeFromParts_5 : decode b_MT_makeFromParts 5 = .ok (.ifCond .eq 18, 3) := by decide +kernel
theorem d_MT_makeFromParts_8 : decode b_MT_makeFromParts 8 = .ok (.aload_n 0, 1) := by decide +kernel
theorem d_MT_makeFromParts_9 : decode b_MT_makeFromParts 9 = .ok (.iload_n 3, 1) := by decide +kernel
theorem d_MT_makeFromParts_10 : decode b_MT_makeFromParts 10 = .ok (.invokevirtual 44, 3) := by decide +kernel
theorem d_MT_makeFromParts_13 : decode b_MT_makeFromParts 13 = .ok (.ifCond .eq 10, 3) := by decide +kernel
theorem d_MT_makeFromParts_16 : decode b_MT_makeFromParts 16 = .ok (.aload_n 0, 1) := by decide +kernel
theorem d_MT_makeFromParts_17 : decode b_MT_makeFromParts 17 = .ok (.invokevirtual 23, 3) := by decide +kernel
theorem d_MT_makeFromParts_20 : decode b_MT_makeFromParts 20 = .ok (.ifCond .eq 5, 3) := by decide +kernel
theorem d_MT_makeFromParts_23 : decode b_MT_makeFromParts 23 = .ok (.iconst (-1), 1) := by decide +kernel
theorem d_MT_makeFromParts_24 : decode b_MT_makeFromParts 24 = .ok (.ireturn, 1) := by decide +kernel
theorem d_MT_makeFromParts_25 : decode b_MT_makeFromParts 25 = .ok (.aload_n 0, 1) := by decide +kernel
theorem d_MT_makeFromParts_26 : decode b_MT_makeFromParts 26 = .ok (.getfield 12, 3) := by decide +kernel
theorem d_MT_makeFromParts_29 : decode b_MT_makeFromParts 29 = .ok (.getfield 34, 3) := by decide +kernel
theorem d_MT_makeFromParts_32 : decode b_MT_makeFromParts 32 = .ok (.iload_n 1, 1) := by decide +kernel
theorem d_MT_makeFromParts_33 : decode b_MT_makeFromParts 33 = .ok (.iload_n 2, 1) := by decide +kernel
theorem d_MT_makeFromParts_34 : decode b_MT_makeFromParts 34 = .ok (.iload_n 3, 1) := by decide +kernel
theorem d_MT_makeFromParts_35 : decode b_MT_makeFromParts 35 = .ok (.invokevirtual 55, 3) := by decide +kernel
theorem d_MT_makeFromParts_38 : decode b_MT_makeFromParts 38 = .ok (.iconst 5, 1) := by decide +kernel
theorem d_MT_makeFromParts_39 : decode b_MT_makeFromParts 39 = .ok (.if_icmp .le 5, 3) := by decide +kernel
theorem d_MT_makeFromParts_42 : decode b_MT_makeFromParts 42 = .ok (.iconst (-1), 1) := by decide +kernel
theorem d_MT_makeFromParts_43 : decode b_MT_makeFromParts 43 = .ok (.ireturn, 1) := by decide +kernel
theorem d_MT_makeFromParts_44 : decode b_MT_makeFromParts 44 = .ok (.aload_n 0, 1) := by decide +kernel
theorem d_MT_makeFromParts_45 : decode b_MT_makeFromParts 45 = .ok (.getfield 12, 3) := by decide +kernel
theorem d_MT_makeFromParts_48 : decode b_MT_makeFromParts 48 = .ok (.iload_n 1, 1) := by decide +kernel
theorem d_MT_makeFromParts_49 : decode b_MT_makeFromParts 49 = .ok (.iload_n 2, 1) := by decide +kernel
theorem d_MT_makeFromParts_50 : decode b_MT_makeFromParts 50 = .ok (.iload_n 3, 1) := by decide +kernel
theorem d_MT_makeFromParts_51 : decode b_MT_makeFromParts 51 = .ok (.invokevirtual 27, 3) := by decide +kernel
theorem d_MT_makeFromParts_54 : decode b_MT_makeFromParts 54 = .ok (.ireturn, 1) := by decide +kernel
theorem d_MT_makeValue_0 : decode b_MT_makeValue 0 = .ok (.aload_n 0, 1) := by decide +kernel
theorem d_MT_makeValue_1 : decode b_MT_makeValue 1 = .ok (.getfield 19, 3) := by decide +kernel
theorem d_MT_makeValue_4 : decode b_MT_makeValue 4 = .ok (.getfield 90, 3) := by decide +kernel
theorem d_MT_makeValue_7 : decode b_MT_makeValue 7 = .ok (.bipush 20, 2) := by decide +kernel
theorem d_MT_makeValue_9 : decode b_MT_makeValue 9 = .ok (.if_icmp .ge 9, 3) := by decide +kernel
theorem d_MT_makeValue_12 : decode b_MT_makeValue 12 = .ok (.iload 4, 2) := by decide +kernel
theorem d_MT_makeValue_14 : decode b_MT_makeValue 14 = .ok (.iconst 4, 1) := by decide +kernel
theorem d_MT_makeValue_15 : decode b_MT_makeValue 15 = .ok (.if_icmp .le 5, 3) := by decide +kernel
theorem d_MT_makeValue_18 : decode b_MT_makeValue 18 = .ok (.iconst (-1), 1) := by decide +kernel
theorem d_MT_makeValue_19 : decode b_MT_makeValue 19 = .ok (.ireturn, 1) := by decide +kernel
theorem d_MT_makeValue_20 : decode b_MT_makeValue 20 = .ok (.aload_n 0, 1) := by decide +kernel
theorem d_MT_makeValue_21 : decode b_MT_makeValue 21 = .ok (.getfield 19, 3) := by decide +kernel
theorem d_MT_makeValue_24 : decode b_MT_makeValue 24 = .ok (.iload_n 1, 1) := by decide +kernel
theorem d_MT_makeValue_25 : decode b_MT_makeValue 25 = .ok (.iload_n 2, 1) := by decide +kernel
theorem d_MT_makeValue_26 : decode b_MT_makeValue 26 = .ok (.iload_n 3, 1) := by decide +kernel
theorem d_MT_makeValue_27 : decode b_MT_makeValue 27 = .ok (.iload 4, 2) := by decide +kernel
theorem d_MT_makeValue_29 : decode b_MT_makeValue 29 = .ok (.invokevirtual 97, 3) := by decide +kernel
theorem d_MT_makeValue_32 : decode b_MT_makeValue 32 = .ok (.ireturn, 1) := by decide +kernel
