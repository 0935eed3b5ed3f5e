theorem d_MM_meets_0 : decode b_MM_meets 0 = .ok (.iconst 0, 1) := by decide +kernel
theorem d_MM_meets_1 : decode b_MM_meets 1 = .ok (.istore 4, 2) := by decide +kernel
theorem d_MM_meets_3 : decode b_MM_meets 3 = .ok (.iconst 0, 1) := by decide +kernel
theorem d_MM_meets_4 : decode b_MM_meets 4 = .ok (.istore 5, 2) := by decide +kernel
theorem d_MM_meets_6 : decode b_MM_meets 6 = .ok (.iload 5, 2) := by decide +kernel
theorem d_MM_meets_8 : decode b_MM_meets 8 = .ok (.sipush 8192, 3) := by decide +kernel
theorem d_MM_meets_11 : decode b_MM_meets 11 = .ok (.if_icmp .ge 76, 3) := by decide +kernel
theorem d_MM_meets_14 : decode b_MM_meets 14 = .ok (.aload_n 0, 1) := by decide +kernel
theorem d_MM_meets_15 : decode b_MM_meets 15 = .ok (.iconst 0, 1) := by decide +kernel
theorem d_MM_meets_16 : decode b_MM_meets 16 = .ok (.iload 5, 2) := by decide +kernel
theorem d_MM_meets_18 : decode b_MM_meets 18 = .ok (.invokevirtual 45, 3) := by decide +kernel
theorem d_MM_meets_21 : decode b_MM_meets 21 = .ok (.ifCond .eq 40, 3) := by decide +kernel
theorem d_MM_meets_24 : decode b_MM_meets 24 = .ok (.iload 5, 2) := by decide +kernel
theorem d_MM_meets_26 : decode b_MM_meets 26 = .ok (.iload_n 1, 1) := by decide +kernel
theorem d_MM_meets_27 : decode b_MM_meets 27 = .ok (.ishr, 1) := by decide +kernel
theorem d_MM_meets_28 : decode b_MM_meets 28 = .ok (.iconst 1, 1) := by decide +kernel
theorem d_MM_meets_29 : decode b_MM_meets 29 = .ok (.iand, 1) := by decide +kernel
theorem d_MM_meets_30 : decode b_MM_meets 30 = .ok (.iconst 1, 1) := by decide +kernel
theorem d_MM_meets_31 : decode b_MM_meets 31 = .ok (.if_icmp .ne 30, 3) := by decide +kernel
theorem d_MM_meets_34 : decode b_MM_meets 34 = .ok (.iload_n 2, 1) := by decide +kernel
theorem d_MM_meets_35 : decode b_MM_meets 35 = .ok (.ifCond .lt 22, 3) := by decide +kernel
theorem d_MM_meets_38 : decode b_MM_meets 38 = .ok (.iload 5, 2) := by decide +kernel
theorem d_MM_meets_40 : decode b_MM_meets 40 = .ok (.iload_n 2, 1) := by decide +kernel
theorem d_MM_meets_41 : decode b_MM_meets 41 = .ok (.ishr, 1) := by decide +kernel
theorem d_MM_meets_42 : decode b_MM_meets 42 = .ok (.iconst 1, 1) := by decide +kernel
theorem d_MM_meets_43 : decode b_MM_meets 43 = .ok (.iand, 1) := by decide +kernel
theorem d_MM_meets_44 : decode b_MM_meets 44 = .ok (.iconst 1, 1) := by decide +kernel
theorem d_MM_meets_45 : decode b_MM_meets 45 = .ok (.if_icmp .ne 7, 3) := by decide +kernel
theorem d_MM_meets_48 : decode b_MM_meets 48 = .ok (.iconst 1, 1) := by decide +kernel
theorem d_MM_meets_49 : decode b_MM_meets 49 = .ok (.goto 4, 3) := by decide +kernel
theorem d_MM_meets_52 : decode b_MM_meets 52 = .ok (.iconst 0, 1) := by decide +kernel
theorem d_MM_meets_53 : decode b_MM_meets 53 = .ok (.iload_n 3, 1) := by decide +kernel
theorem d_MM_meets_54 : decode b_MM_meets 54 = .ok (.if_icmp .ne 7, 3) := by decide +kernel
theorem d_MM_meets_57 : decode b_MM_meets 57 = .ok (.iconst 1, 1) := by decide +kernel
theorem d_MM_meets_58 : decode b_MM_meets 58 = .ok (.goto 4, 3) := by decide +kernel
theorem d_MM_meets_61 : decode b_MM_meets 61 = .ok (.iconst 0, 1) := by decide +kernel
theorem d_MM_meets_62 : decode b_MM_meets 62 = .ok (.istore 6, 2) := by decide +kernel
theorem d_MM_meets_64 : decode b_MM_meets 64 = .ok (.iload 4, 2) := by decide +kernel
theorem d_MM_meets_66 : decode b_MM_meets 66 = .ok (.ifCond .ne 8, 3) := by decide +kernel
theorem d_MM_meets_69 : decode b_MM_meets 69 = .ok (.iload 6, 2) := by decide +kernel
theorem d_MM_meets_71 : decode b_MM_meets 71 = .ok (.ifCond .eq 7, 3) := by decide +kernel
theorem d_MM_meets_74 : decode b_MM_meets 74 = .ok (.iconst 1, 1) := by decide +kernel
theorem d_MM_meets_75 : decode b_MM_meets 75 = .ok (.goto 4, 3) := by decide +kernel
theorem d_MM_meets_78 : decode b_MM_meets 78 = .ok (.iconst 0, 1) := by decide +kernel
theorem d_MM_meets_79 : decode b_MM_meets 79 = .ok (.istore 4, 2) := by decide +kernel
theorem d_MM_meets_81 : decode b_MM_meets 81 = .ok (.iinc 5 1, 3) := by decide +kernel
theorem d_MM_meets_84 : decode b_MM_meets 84 = .ok (.goto (-78), 3) := by decide +kernel
theorem d_MM_meets_87 : decode b_MM_meets 87 = .ok (.iload 4, 2) := by decide +kernel
theorem d_MM_meets_89 : decode b_MM_meets 89 = .ok (.ireturn, 1) := by decide +kernel
theorem d_MM_empty_0 : decode b_MM_empty 0 = .ok (.aload_n 0, 1) := by decide +kernel
theorem d_MM_empty_1 : decode b_MM_empty 1 = .ok (.iload_n 1, 1) := by decide +kernel
theorem d_MM_empty_2 : decode b_MM_empty 2 = .ok (.invokevirtual 56, 3) := by decide +kernel
theorem d_MM_empty_5 : decode b_MM_empty 5 = .ok (.ifCond .ne 5, 3) := by decide +kernel
theorem d_MM_empty_8 : decode b_MM_empty 8 = .ok (.iconst 0, 1) := by decide +kernel
theorem d_MM_empty_9 : decode b_MM_empty 9 = .ok (.ireturn, 1) := by decide +kernel
theorem d_MM_empty_10 : decode b_MM_empty 10 = .ok (.aload_n 0, 1) := by decide +kernel
theorem d_MM_empty_11 : decode b_MM_empty 11 = .ok (.aload_n 0, 1) := by decide +kernel
theorem d_MM_empty_12 : decode b_MM_empty 12 = .ok (.getfield 49, 3) := by decide +kernel
theorem d_MM_empty_15 : decode b_MM_empty 15 = .ok (.invokevirtual 112, 3) := by decide +kernel
theorem d_MM_empty_18 : decode b_MM_empty 18 = .ok (.aload_n 0, 1) := by decide +kernel
theorem d_MM_empty_19 : decode b_MM_empty 19 = .ok (.iload_n 1, 1) := by decide +kernel
theorem d_MM_empty_20 : decode b_MM_empty 20 = .ok (.iconst (-1), 1) := by decide +kernel
theorem d_MM_empty_21 : decode b_MM_empty 21 = .ok (.iconst 1, 1) := by decide +kernel
theorem d_MM_empty_22 : decode b_MM_empty 22 = .ok (.invokevirtual 115, 3) := by decide +kernel
theorem d_MM_empty_25 : decode b_MM_empty 25 = .ok (.ifCond .ne 7, 3) := by decide +kernel
theorem d_MM_empty_28 : decode b_MM_empty 28 = .ok (.iconst 1, 1) := by decide +kernel
theorem d_MM_empty_29 : decode b_MM_empty 29 = .ok (.goto 4, 3) := by decide +kernel
theorem d_MM_empty_32 : decode b_MM_empty 32 = .ok (.iconst 0, 1) := by decide +kernel
theorem d_MM_empty_33 : decode b_MM_empty 33 = .ok (.ireturn, 1) := by decide +kernel
theorem d_MM_lies_0 : decode b_MM_lies 0 = .ok (.aload_n 0, 1) := by decide +kernel
theorem d_MM_lies_1 : decode b_MM_lies 1 = .ok (.iload_n 1, 1) := by decide +kernel
theorem d_MM_lies_2 : decode b_MM_lies 2 = .ok (.iload_n 2, 1) := by decide +kernel
theorem d_MM_lies_3 : decode b_MM_lies 3 = .ok (.iconst 0, 1) := by decide +kernel
theorem d_MM_lies_4 : decode b_MM_lies 4 = .ok (.invokevirtual 115, 3) := by decide +kernel
theorem d_MM_lies_7 : decode b_MM_lies 7 = .ok (.ifCond .ne 7, 3) := by decide +kernel
theorem d_MM_lies_10 : decode b_MM_lies 10 = .ok (.iconst 1, 1) := by decide +kernel
theorem d_MM_lies_11 : decode b_MM_lies 11 = .ok (.goto 4, 3) := by decide +kernel
theorem d_MM_lies_14 : decode b_MM_lies 14 = .ok (.iconst 0, 1) := by decide +kernel
theorem d_MM_lies_15 : decode b_MM_lies 15 = .ok (.ireturn, 1) := by decide +kernel
theorem d_MM_within_0 : decode b_MM_within 0 = .ok (.aload_n 0, 1) := by decide +kernel
theorem d_MM_within_1 : decode b_MM_within 1 = .ok (.iload_n 1, 1) := by decide +kernel
theorem d_MM_within_2 : decode b_MM_within 2 = .ok (.invokevirtual 56, 3) := by decide +kernel
theorem d_MM_within_5 : decode b_MM_within 5 = .ok (.ifCond .eq 11, 3) := by decide +kernel
theorem d_MM_within_8 : decode b_MM_within 8 = .ok (.aload_n 0, 1) := by decide +kernel
theorem d_MM_within_9 : decode b_MM_within 9 = .ok (.iload_n 2, 1) := by decide +kernel
theorem d_MM_within_10 : decode b_MM_within 10 = .ok (.invokevirtual 56, 3) := by decide +kernel
theorem d_MM_within_13 : decode b_MM_within 13 = .ok (.ifCond .ne 5, 3) := by decide +kernel
theorem d_MM_within_16 : decode b_MM_within 16 = .ok (.iconst 0, 1) := by decide +kernel
theorem d_MM_within_17 : decode b_MM_within 17 = .ok (.ireturn, 1) := by decide +kernel
theorem d_MM_within_18 : decode b_MM_within 18 = .ok (.aload_n 0, 1) := by decide +kernel
theorem d_MM_within_19 : decode b_MM_within 19 = .ok (.aload_n 0, 1) := by decide +kernel
theorem d_MM_within_20 : decode b_MM_within 20 = .ok (.getfield 49, 3) := by decide +kernel
theorem d_MM_within_23 : decode b_MM_within 23 = .ok (.invokevirtual 112, 3) := by decide +kernel
theorem d_MM_within_26 : decode b_MM_within 26 = .ok (.aload_n 0, 1) := by decide +kernel
theorem d_MM_within_27 : decode b_MM_within 27 = .ok (.iload_n 1, 1) := by decide +kernel
theorem d_MM_within_28 : decode b_MM_within 28 = .ok (.iload_n 2, 1) := by decide +kernel
theorem d_MM_within_29 : decode b_MM_within 29 = .ok (.invokevirtual 119, 3) := by decide +kernel
theorem d_MM_within_32 : decode b_MM_within 32 = .ok (.ireturn, 1) := by decide +kernel
theorem d_MM_compare_0 : decode b_MM_compare 0 = .ok (.aload_n 0, 1) := by decide +kernel
theorem d_MM_compare_1 : decode b_MM_compare 1 = .ok (.iload_n 1, 1) := by decide +kernel
theorem d_MM_compare_2 : decode b_MM_compare 2 = .ok (.invokevirtual 56, 3) := by decide +kernel
theorem d_MM_compare_5 : decode b_MM_compare 5 = .ok (.ifCond .eq 11, 3) := by decide +kernel
theorem d_MM_compare_8 : decode b_MM_compare 8 = .ok (.aload_n 0, 1) := by decide +kernel
theorem d_MM_compare_9 : decode b_MM_compare 9 = .ok (.iload_n 2, 1) := by decide +kernel
theorem d_MM_compare_10 : decode b_MM_compare 10 = .ok (.invokevirtual 56, 3) := by decide +kernel
theorem d_MM_compare_13 : decode b_MM_compare 13 = .ok (.ifCond .ne 5, 3) := by decide +kernel
theorem d_MM_compare_16 : decode b_MM_compare 16 = .ok (.iconst (-1), 1) := by decide +kernel
theorem d_MM_compare_17 : decode b_MM_compare 17 = .ok (.ireturn, 1) := by decide +kernel
theorem d_MM_compare_18 : decode b_MM_compare 18 = .ok (.aload_n 0, 1) := by decide +kernel
theorem d_MM_compare_19 : decode b_MM_compare 19 = .ok (.aload_n 0, 1) := by decide +kernel
theorem d_MM_compare_20 : decode b_MM_compare 20 = .ok (.getfield 49, 3) := by decide +kernel
theorem d_MM_compare_23 : decode b_MM_compare 23 = .ok (.invokevirtual 112, 3) := by decide +kernel
theorem d_MM_compare_26 : decode b_MM_compare 26 = .ok (.aload_n 0, 1) := by decide +kernel
theorem d_MM_compare_27 : decode b_MM_compare 27 = .ok (.iload_n 1, 1) := by decide +kernel
theorem d_MM_compare_28 : decode b_MM_compare 28 = .ok (.iload_n 2, 1) := by decide +kernel
theorem d_MM_compare_29 : decode b_MM_compare 29 = .ok (.invokevirtual 119, 3) := by decide +kernel
theorem d_MM_compare_32 : decode b_MM_compare 32 = .ok (.istore_n 3, 1) := by decide +kernel
theorem d_MM_compare_33 : decode b_MM_compare 33 = .ok (.aload_n 0, 1) := by decide +kernel
theorem d_MM_compare_34 : decode b_MM_compare 34 = .ok (.iload_n 2, 1) := by decide +kernel
theorem d_MM_compare_35 : decode b_MM_compare 35 = .ok (.iload_n 1, 1) := by decide +kernel
theorem d_MM_compare_36 : decode b_MM_compare 36 = .ok (.invokevirtual 119, 3) := by decide +kernel
theorem d_MM_compare_39 : decode b_MM_compare 39 = .ok (.istore 4, 2) := by decide +kernel
theorem d_MM_compare_41 : decode b_MM_compare 41 = .ok (.iload_n 3, 1) := by decide +kernel
theorem d_MM_compare_42 : decode b_MM_compare 42 = .ok (.ifCond .eq 12, 3) := by decide +kernel
theorem d_MM_compare_45 : decode b_MM_compare 45 = .ok (.iload 4, 2) := by decide +kernel
theorem d_MM_compare_47 : decode b_MM_compare 47 = .ok (.ifCond .eq 7, 3) := by decide +kernel
theorem d_MM_compare_50 : decode b_MM_compare 50 = .ok (.iconst 3, 1) := by decide +kernel
theorem d_MM_compare_51 : decode b_MM_compare 51 = .ok (.goto 35, 3) := by decide +kernel
theorem d_MM_compare_54 : decode b_MM_compare 54 = .ok (.iload_n 3, 1) := by decide +kernel
theorem d_MM_compare_55 : decode b_MM_compare 55 = .ok (.ifCond .eq 7, 3) := by decide +kernel
theorem d_MM_compare_58 : decode b_MM_compare 58 = .ok (.iconst 1, 1) := by decide +kernel
theorem d_MM_compare_59 : decode b_MM_compare 59 = .ok (.goto 27, 3) := by decide +kernel
theorem d_MM_compare_62 : decode b_MM_compare 62 = .ok (.iload 4, 2) := by decide +kernel
theorem d_MM_compare_64 : decode b_MM_compare 64 = .ok (.ifCond .eq 7, 3) := by decide +kernel
theorem d_MM_compare_67 : decode b_MM_compare 67 = .ok (.iconst 2, 1) := by decide +kernel
theorem d_MM_compare_68 : decode b_MM_compare 68 = .ok (.goto 18, 3) := by decide +kernel
theorem d_MM_compare_71 : decode b_MM_compare 71 = .ok (.aload_n 0, 1) := by decide +kernel
theorem d_MM_compare_72 : decode b_MM_compare 72 = .ok (.iload_n 1, 1) := by decide +kernel
theorem d_MM_compare_73 : decode b_MM_compare 73 = .ok (.iload_n 2, 1) := by decide +kernel
theorem d_MM_compare_74 : decode b_MM_compare 74 = .ok (.iconst 1, 1) := by decide +kernel
theorem d_MM_compare_75 : decode b_MM_compare 75 = .ok (.invokevirtual 115, 3) := by decide +kernel
theorem d_MM_compare_78 : decode b_MM_compare 78 = .ok (.ifCond .eq 7, 3) := by decide +kernel
theorem d_MM_compare_81 : decode b_MM_compare 81 = .ok (.iconst 0, 1) := by decide +kernel
theorem d_MM_compare_82 : decode b_MM_compare 82 = .ok (.goto 4, 3) := by decide +kernel
theorem d_MM_compare_85 : decode b_MM_compare 85 = .ok (.iconst 4, 1) := by decide +kernel
theorem d_MM_compare_86 : decode b_MM_compare 86 = .ok (.ireturn, 1) := by decide +kernel
theorem d_MM_answers_0 : decode b_MM_answers 0 = .ok (.aload_n 0, 1) := by decide +kernel
theorem d_MM_answers_1 : decode b_MM_answers 1 = .ok (.iload_n 1, 1) := by decide +kernel
theorem d_MM_answers_2 : decode b_MM_answers 2 = .ok (.invokevirtual 56, 3) := by decide +kernel
theorem d_MM_answers_5 : decode b_MM_answers 5 = .ok (.ifCond .eq 31, 3) := by decide +kernel
theorem d_MM_answers_8 : decode b_MM_answers 8 = .ok (.aload_n 0, 1) := by decide +kernel
theorem d_MM_answers_9 : decode b_MM_answers 9 = .ok (.iload_n 2, 1) := by decide +kernel
theorem d_MM_answers_10 : decode b_MM_answers 10 = .ok (.invokevirtual 56, 3) := by decide +kernel
theorem d_MM_answers_13 : decode b_MM_answers 13 = .ok (.ifCond .eq 23, 3) := by decide +kernel
theorem d_MM_answers_16 : decode b_MM_answers 16 = .ok (.aload_n 0, 1) := by decide +kernel
theorem d_MM_answers_17 : decode b_MM_answers 17 = .ok (.iload_n 3, 1) := by decide +kernel
theorem d_MM_answers_18 : decode b_MM_answers 18 = .ok (.invokevirtual 56, 3) := by decide +kernel
theorem d_MM_answers_21 : decode b_MM_answers 21 = .ok (.ifCond .eq 15, 3) := by decide +kernel
theorem d_MM_answers_24 : decode b_MM_answers 24 = .ok (.aload_n 0, 1) := by decide +kernel
theorem d_MM_answers_25 : decode b_MM_answers 25 = .ok (.iload_n 2, 1) := by decide +kernel
theorem d_MM_answers_26 : decode b_MM_answers 26 = .ok (.iload_n 3, 1) := by decide +kernel
theorem d_MM_answers_27 : decode b_MM_answers 27 = .ok (.invokevirtual 60, 3) := by decide +kernel
theorem d_MM_answers_30 : decode b_MM_answers 30 = .ok (.iconst 1, 1) := by decide +kernel
theorem d_MM_answers_31 : decode b_MM_answers 31 = .ok (.iadd, 1) := by decide +kernel
theorem d_MM_answers_32 : decode b_MM_answers 32 = .ok (.iconst 5, 1) := by decide +kernel
theorem d_MM_answers_33 : decode b_MM_answers 33 = .ok (.if_icmp .le 5, 3) := by decide +kernel
theorem d_MM_answers_36 : decode b_MM_answers 36 = .ok (.iconst 0, 1) := by decide +kernel
theorem d_MM_answers_37 : decode b_MM_answers 37 = .ok (.ireturn, 1) := by decide +kernel
theorem d_MM_answers_38 : decode b_MM_answers 38 = .ok (.aload_n 0, 1) := by decide +kernel
theorem d_MM_answers_39 : decode b_MM_answers 39 = .ok (.getfield 7, 3) := by decide +kernel
theorem d_MM_answers_42 : decode b_MM_answers 42 = .ok (.aload_n 0, 1) := by decide +kernel
theorem d_MM_answers_43 : decode b_MM_answers 43 = .ok (.getfield 49, 3) := by decide +kernel
theorem d_MM_answers_46 : decode b_MM_answers 46 = .ok (.iconst 2, 1) := by decide +kernel
theorem d_MM_answers_47 : decode b_MM_answers 47 = .ok (.iastore, 1) := by decide +kernel
theorem d_MM_answers_48 : decode b_MM_answers 48 = .ok (.aload_n 0, 1) := by decide +kernel
theorem d_MM_answers_49 : decode b_MM_answers 49 = .ok (.getfield 13, 3) := by decide +kernel
theorem d_MM_answers_52 : decode b_MM_answers 52 = .ok (.aload_n 0, 1) := by decide +kernel
theorem d_MM_answers_53 : decode b_MM_answers 53 = .ok (.getfield 49, 3) := by decide +kernel
theorem d_MM_answers_56 : decode b_MM_answers 56 = .ok (.iload_n 2, 1) := by decide +kernel
theorem d_MM_answers_57 : decode b_MM_answers 57 = .ok (.iastore, 1) := by decide +kernel
theorem d_MM_answers_58 : decode b_MM_answers 58 = .ok (.aload_n 0, 1) := by decide +kernel
theorem d_MM_answers_59 : decode b_MM_answers 59 = .ok (.getfield 16, 3) := by decide +kernel
theorem d_MM_answers_62 : decode b_MM_answers 62 = .ok (.aload_n 0, 1) := by decide +kernel
theorem d_MM_answers_63 : decode b_MM_answers 63 = .ok (.getfield 49, 3) := by decide +kernel
theorem d_MM_answers_66 : decode b_MM_answers 66 = .ok (.iload_n 3, 1) := by decide +kernel
theorem d_MM_answers_67 : decode b_MM_answers 67 = .ok (.iastore, 1) := by decide +kernel
theorem d_MM_answers_68 : decode b_MM_answers 68 = .ok (.aload_n 0, 1) := by decide +kernel
theorem d_MM_answers_69 : decode b_MM_answers 69 = .ok (.aload_n 0, 1) := by decide +kernel
theorem d_MM_answers_70 : decode b_MM_answers 70 = .ok (.getfield 49, 3) := by decide +kernel
theorem d_MM_answers_73 : decode b_MM_answers 73 = .ok (.iconst 1, 1) := by decide +kernel
theorem d_MM_answers_74 : decode b_MM_answers 74 = .ok (.iadd, 1) := by decide +kernel
theorem d_MM_answers_75 : decode b_MM_answers 75 = .ok (.invokevirtual 112, 3) := by decide +kernel
theorem d_MM_answers_78 : decode b_MM_answers 78 = .ok (.aload_n 0, 1) := by decide +kernel
theorem d_MM_answers_79 : decode b_MM_answers 79 = .ok (.iload_n 1, 1) := by decide +kernel
theorem d_MM_answers_80 : decode b_MM_answers 80 = .ok (.aload_n 0, 1) := by decide +kernel
theorem d_MM_answers_81 : decode b_MM_answers 81 = .ok (.getfield 49, 3) := by decide +kernel
theorem d_MM_answers_84 : decode b_MM_answers 84 = .ok (.invokevirtual 119, 3) := by decide +kernel
theorem d_MM_answers_87 : decode b_MM_answers 87 = .ok (.istore 4, 2) := by decide +kernel
theorem d_MM_answers_89 : decode b_MM_answers 89 = .ok (.aload_n 0, 1) := by decide +kernel
theorem d_MM_answers_90 : decode b_MM_answers 90 = .ok (.iconst 0, 1) := by decide +kernel
theorem d_MM_answers_91 : decode b_MM_answers 91 = .ok (.putfield 53, 3) := by decide +kernel
theorem d_MM_answers_94 : decode b_MM_answers 94 = .ok (.iload 4, 2) := by decide +kernel
theorem d_MM_answers_96 : decode b_MM_answers 96 = .ok (.ireturn, 1) := by decide +kernel
theorem d_MM_isValue_0 : decode b_MM_isValue 0 = .ok (.iload_n 1, 1) := by decide +kernel
theorem d_MM_isValue_1 : decode b_MM_isValue 1 = .ok (.ifCond .lt 15, 3) := by decide +kernel
theorem d_MM_isValue_4 : decode b_MM_isValue 4 = .ok (.iload_n 1, 1) := by decide +kernel
theorem d_MM_isValue_5 : decode b_MM_isValue 5 = .ok (.aload_n 0, 1) := by decide +kernel
theorem d_MM_isValue_6 : decode b_MM_isValue 6 = .ok (.getfield 122, 3) := by decide +kernel
theorem d_MM_isValue_9 : decode b_MM_isValue 9 = .ok (.if_icmp .ge 7, 3) := by decide +kernel
theorem d_MM_isValue_12 : decode b_MM_isValue 12 = .ok (.iconst 1, 1) := by decide +kernel
theorem d_MM_isValue_13 : decode b_MM_isValue 13 = .ok (.goto 4, 3) := by decide +kernel
theorem d_MM_isValue_16 : decode b_MM_isValue 16 = .ok (.iconst 0, 1) := by decide +kernel
theorem d_MM_isValue_17 : decode b_MM_isValue 17 = .ok (.ireturn, 1) := by decide +kernel
theorem d_MM_addValue_0 : decode b_MM_addValue 0 = .ok (.aload_n 0, 1) := by decide +kernel
theorem d_MM_addValue_1 : decode b_MM_addValue 1 = .ok (.getfield 122, 3) := by decide +kernel
theorem d_MM_addValue_4 : decode b_MM_addValue 4 = .ok (.bipush 20, 2) := by decide +kernel
theorem d_MM_addValue_6 : decode b_MM_addValue 6 = .ok (.if_icmp .lt 5, 3) := by decide +kernel
theorem d_MM_addValue_9 : decode b_MM_addValue 9 = .ok (.iconst (-1), 1) := by decide +kernel
theorem d_MM_addValue_10 : decode b_MM_addValue 10 = .ok (.ireturn, 1) := by decide +kernel
theorem d_MM_addValue_11 : decode b_MM_addValue 11 = .ok (.aload_n 0, 1) := by decide +kernel
theorem d_MM_addValue_12 : decode b_MM_addValue 12 = .ok (.getfield 26, 3) := by decide +kernel
theorem d_MM_addValue_15 : decode b_MM_addValue 15 = .ok (.aload_n 0, 1) := by decide +kernel
theorem d_MM_addValue_16 : decode b_MM_addValue 16 = .ok (.getfield 122, 3) := by decide +kernel
theorem d_MM_addValue_19 : decode b_MM_addValue 19 = .ok (.iload_n 1, 1) := by decide +kernel
theorem d_MM_addValue_20 : decode b_MM_addValue 20 = .ok (.iastore, 1) := by decide +kernel
theorem d_MM_addValue_21 : decode b_MM_addValue 21 = .ok (.aload_n 0, 1) := by decide +kernel
theorem d_MM_addValue_22 : decode b_MM_addValue 22 = .ok (.getfield 29, 3) := by decide +kernel
theorem d_MM_addValue_25 : decode b_MM_addValue 25 = .ok (.aload_n 0, 1) := by decide +kernel
theorem d_MM_addValue_26 : decode b_MM_addValue 26 = .ok (.getfield 122, 3) := by decide +kernel
theorem d_MM_addValue_29 : decode b_MM_addValue 29 = .ok (.iload_n 2, 1) := by decide +kernel
theorem d_MM_addValue_30 : decode b_MM_addValue 30 = .ok (.iastore, 1) := by decide +kernel
theorem d_MM_addValue_31 : decode b_MM_addValue 31 = .ok (.aload_n 0, 1) := by decide +kernel
theorem d_MM_addValue_32 : decode b_MM_addValue 32 = .ok (.getfield 32, 3) := by decide +kernel
theorem d_MM_addValue_35 : decode b_MM_addValue 35 = .ok (.aload_n 0, 1) := by decide +kernel
theorem d_MM_addValue_36 : decode b_MM_addValue 36 = .ok (.getfield 122, 3) := by decide +kernel
theorem d_MM_addValue_39 : decode b_MM_addValue 39 = .ok (.iload_n 3, 1) := by decide +kernel
theorem d_MM_addValue_40 : decode b_MM_addValue 40 = .ok (.iastore, 1) := by decide +kernel
theorem d_MM_addValue_41 : decode b_MM_addValue 41 = .ok (.aload_n 0, 1) := by decide +kernel
theorem d_MM_addValue_42 : decode b_MM_addValue 42 = .ok (.getfield 35, 3) := by decide +kernel
theorem d_MM_addValue_45 : decode b_MM_addValue 45 = .ok (.aload_n 0, 1) := by decide +kernel
theorem d_MM_addValue_46 : decode b_MM_addValue 46 = .ok (.getfield 122, 3) := by decide +kernel
theorem d_MM_addValue_49 : decode b_MM_addValue 49 = .ok (.iload 4, 2) := by decide +kernel
theorem d_MM_addValue_51 : decode b_MM_addValue 51 = .ok (.iastore, 1) := by decide +kernel
theorem d_MM_addValue_52 : decode b_MM_addValue 52 = .ok (.aload_n 0, 1) := by decide +kernel
theorem d_MM_addValue_53 : decode b_MM_addValue 53 = .ok (.aload_n 0, 1) := by decide +kernel
theorem d_MM_addValue_54 : decode b_MM_addValue 54 = .ok (.getfield 122, 3) := by decide +kernel
theorem d_MM_addValue_57 : decode b_MM_addValue 57 = .ok (.iconst 1, 1) := by decide +kernel
theorem d_MM_addValue_58 : decode b_MM_addValue 58 = .ok (.iadd, 1) := by decide +kernel
theorem d_MM_addValue_59 : decode b_MM_addValue 59 = .ok (.putfield 122, 3) := by decide +kernel
theorem d_MM_addValue_62 : decode b_MM_addValue 62 = .ok (.aload_n 0, 1) := by decide +kernel
theorem d_MM_addValue_63 : decode b_MM_addValue 63 = .ok (.getfield 122, 3) := by decide +kernel
theorem d_MM_addValue_66 : decode b_MM_addValue 66 = .ok (.iconst 1, 1) := by decide +kernel
theorem d_MM_addValue_67 : decode b_MM_addValue 67 = .ok (.isub, 1) := by decide +kernel
theorem d_MM_addValue_68 : decode b_MM_addValue 68 = .ok (.ireturn, 1) := by decide +kernel
theorem d_MM_constant_0 : decode b_MM_constant 0 = .ok (.iload_n 1, 1) := by decide +kernel
theorem d_MM_constant_1 : decode b_MM_constant 1 = .ok (.ifCond .lt 8, 3) := by decide +kernel
theorem d_MM_constant_4 : decode b_MM_constant 4 = .ok (.iload_n 1, 1) := by decide +kernel
theorem d_MM_constant_5 : decode b_MM_constant 5 = .ok (.iconst 5, 1) := by decide +kernel
theorem d_MM_constant_6 : decode b_MM_constant 6 = .ok (.if_icmp .le 7, 3) := by decide +kernel
theorem d_MM_constant_9 : decode b_MM_constant 9 = .ok (.iconst (-1), 1) := by decide +kernel
theorem d_MM_constant_10 : decode b_MM_constant 10 = .ok (.goto 11, 3) := by decide +kernel
theorem d_MM_constant_13 : decode b_MM_constant 13 = .ok (.aload_n 0, 1) := by decide +kernel
theorem d_MM_constant_14 : decode b_MM_constant 14 = .ok (.iconst 0, 1) := by decide +kernel
theorem d_MM_constant_15 : decode b_MM_constant 15 = .ok (.iload_n 1, 1) := by decide +kernel
theorem d_MM_constant_16 : decode b_MM_constant 16 = .ok (.iconst 0, 1) := by decide +kernel
theorem d_MM_constant_17 : decode b_MM_constant 17 = .ok (.iconst 1, 1) := by decide +kernel
theorem d_MM_constant_18 : decode b_MM_constant 18 = .ok (.invokevirtual 125, 3) := by decide +kernel
theorem d_MM_constant_21 : decode b_MM_constant 21 = .ok (.ireturn, 1) := by decide +kernel
theorem d_MM_pair_0 : decode b_MM_pair 0 = .ok (.aload_n 0, 1) := by decide +kernel
theorem d_MM_pair_1 : decode b_MM_pair 1 = .ok (.iload_n 1, 1) := by decide +kernel
theorem d_MM_pair_2 : decode b_MM_pair 2 = .ok (.invokevirtual 128, 3) := by decide +kernel
theorem d_MM_pair_5 : decode b_MM_pair 5 = .ok (.ifCond .eq 28, 3) := by decide +kernel
theorem d_MM_pair_8 : decode b_MM_pair 8 = .ok (.aload_n 0, 1) := by decide +kernel
theorem d_MM_pair_9 : decode b_MM_pair 9 = .ok (.iload_n 2, 1) := by decide +kernel
theorem d_MM_pair_10 : decode b_MM_pair 10 = .ok (.invokevirtual 128, 3) := by decide +kernel
theorem d_MM_pair_13 : decode b_MM_pair 13 = .ok (.ifCond .eq 20, 3) := by decide +kernel
theorem d_MM_pair_16 : decode b_MM_pair 16 = .ok (.aload_n 0, 1) := by decide +kernel
theorem d_MM_pair_17 : decode b_MM_pair 17 = .ok (.getfield 35, 3) := by decide +kernel
theorem d_MM_pair_20 : decode b_MM_pair 20 = .ok (.iload_n 1, 1) := by decide +kernel
theorem d_MM_pair_21 : decode b_MM_pair 21 = .ok (.iaload, 1) := by decide +kernel
theorem d_MM_pair_22 : decode b_MM_pair 22 = .ok (.aload_n 0, 1) := by decide +kernel
theorem d_MM_pair_23 : decode b_MM_pair 23 = .ok (.getfield 35, 3) := by decide +kernel
theorem d_MM_pair_26 : decode b_MM_pair 26 = .ok (.iload_n 2, 1) := by decide +kernel
theorem d_MM_pair_27 : decode b_MM_pair 27 = .ok (.iaload, 1) := by decide +kernel
theorem d_MM_pair_28 : decode b_MM_pair 28 = .ok (.iadd, 1) := by decide +kernel
theorem d_MM_pair_29 : decode b_MM_pair 29 = .ok (.iconst 4, 1) := by decide +kernel
theorem d_MM_pair_30 : decode b_MM_pair 30 = .ok (.if_icmp .le 5, 3) := by decide +kernel
theorem d_MM_pair_33 : decode b_MM_pair 33 = .ok (.iconst (-1), 1) := by decide +kernel
theorem d_MM_pair_34 : decode b_MM_pair 34 = .ok (.ireturn, 1) := by decide +kernel
theorem d_MM_pair_35 : decode b_MM_pair 35 = .ok (.aload_n 0, 1) := by decide +kernel
theorem d_MM_pair_36 : decode b_MM_pair 36 = .ok (.iconst 1, 1) := by decide +kernel
theorem d_MM_pair_37 : decode b_MM_pair 37 = .ok (.iload_n 1, 1) := by decide +kernel
theorem d_MM_pair_38 : decode b_MM_pair 38 = .ok (.iload_n 2, 1) := by decide +kernel
theorem d_MM_pair_39 : decode b_MM_pair 39 = .ok (.aload_n 0, 1) := by decide +kernel
theorem d_MM_pair_40 : decode b_MM_pair 40 = .ok (.getfield 35, 3) := by decide +kernel
theorem d_MM_pair_43 : decode b_MM_pair 43 = .ok (.iload_n 1, 1) := by decide +kernel
theorem d_MM_pair_44 : decode b_MM_pair 44 = .ok (.iaload, 1) := by decide +kernel
theorem d_MM_pair_45 : decode b_MM_pair 45 = .ok (.aload_n 0, 1) := by decide +kernel
theorem d_MM_pair_46 : decode b_MM_pair 46 = .ok (.getfield 35, 3) := by decide +kernel
theorem d_MM_pair_49 : decode b_MM_pair 49 = .ok (.iload_n 2, 1) := by decide +kernel
theorem d_MM_pair_50 : decode b_MM_pair 50 = .ok (.iaload, 1) := by decide +kernel
theorem d_MM_pair_51 : decode b_MM_pair 51 = .ok (.iadd, 1) := by decide +kernel
theorem d_MM_pair_52 : decode b_MM_pair 52 = .ok (.invokevirtual 125, 3) := by decide +kernel
theorem d_MM_pair_55 : decode b_MM_pair 55 = .ok (.ireturn, 1) := by decide +kernel
theorem d_MM_function_0 : decode b_MM_function 0 = .ok (.aload_n 0, 1) := by decide +kernel
theorem d_MM_function_1 : decode b_MM_function 1 = .ok (.iload_n 1, 1) := by decide +kernel
theorem d_MM_function_2 : decode b_MM_function 2 = .ok (.invokevirtual 56, 3) := by decide +kernel
theorem d_MM_function_5 : decode b_MM_function 5 = .ok (.ifCond .eq 23, 3) := by decide +kernel
theorem d_MM_function_8 : decode b_MM_function 8 = .ok (.aload_n 0, 1) := by decide +kernel
theorem d_MM_function_9 : decode b_MM_function 9 = .ok (.getfield 22, 3) := by decide +kernel
theorem d_MM_function_12 : decode b_MM_function 12 = .ok (.iload_n 1, 1) := by decide +kernel
theorem d_MM_function_13 : decode b_MM_function 13 = .ok (.baload, 1) := by decide +kernel
theorem d_MM_function_14 : decode b_MM_function 14 = .ok (.ifCond .eq 14, 3) := by decide +kernel
theorem d_MM_function_17 : decode b_MM_function 17 = .ok (.aload_n 0, 1) := by decide +kernel
theorem d_MM_function_18 : decode b_MM_function 18 = .ok (.iconst 2, 1) := by decide +kernel
theorem d_MM_function_19 : decode b_MM_function 19 = .ok (.iload_n 1, 1) := by decide +kernel
theorem d_MM_function_20 : decode b_MM_function 20 = .ok (.iconst 0, 1) := by decide +kernel
theorem d_MM_function_21 : decode b_MM_function 21 = .ok (.iconst 1, 1) := by decide +kernel
theorem d_MM_function_22 : decode b_MM_function 22 = .ok (.invokevirtual 125, 3) := by decide +kernel
theorem d_MM_function_25 : decode b_MM_function 25 = .ok (.goto 4, 3) := by decide +kernel
theorem d_MM_function_28 : decode b_MM_function 28 = .ok (.iconst (-1), 1) := by decide +kernel
theorem d_MM_function_29 : decode b_MM_function 29 = .ok (.ireturn, 1) := by decide +kernel
theorem d_MM_sortRows_0 : decode b_MM_sortRows 0 = .ok (.sipush 896, 3) := by decide +kernel
theorem d_MM_sortRows_3 : decode b_MM_sortRows 3 = .ok (.sipush 128, 3) := by decide +kernel
theorem d_MM_sortRows_6 : decode b_MM_sortRows 6 = .ok (.iload_n 1, 1) := by decide +kernel
theorem d_MM_sortRows_7 : decode b_MM_sortRows 7 = .ok (.imul, 1) := by decide +kernel
theorem d_MM_sortRows_8 : decode b_MM_sortRows 8 = .ok (.iadd, 1) := by decide +kernel
theorem d_MM_sortRows_9 : decode b_MM_sortRows 9 = .ok (.istore_n 2, 1) := by decide +kernel
theorem d_MM_sortRows_10 : decode b_MM_sortRows 10 = .ok (.aload_n 0, 1) := by decide +kernel
theorem d_MM_sortRows_11 : decode b_MM_sortRows 11 = .ok (.iload_n 2, 1) := by decide +kernel
theorem d_MM_sortRows_12 : decode b_MM_sortRows 12 = .ok (.invokevirtual 77, 3) := by decide +kernel
theorem d_MM_sortRows_15 : decode b_MM_sortRows 15 = .ok (.aload_n 0, 1) := by decide +kernel
theorem d_MM_sortRows_16 : decode b_MM_sortRows 16 = .ok (.getfield 26, 3) := by decide +kernel
theorem d_MM_sortRows_19 : decode b_MM_sortRows 19 = .ok (.iload_n 1, 1) := by decide +kernel
theorem d_MM_sortRows_20 : decode b_MM_sortRows 20 = .ok (.iaload, 1) := by decide +kernel
theorem d_MM_sortRows_21 : decode b_MM_sortRows 21 = .ok (.ifCond .ne 24, 3) := by decide +kernel
theorem d_MM_sortRows_24 : decode b_MM_sortRows 24 = .ok (.aload_n 0, 1) := by decide +kernel
theorem d_MM_sortRows_25 : decode b_MM_sortRows 25 = .ok (.iload_n 2, 1) := by decide +kernel
theorem d_MM_sortRows_26 : decode b_MM_sortRows 26 = .ok (.aload_n 0, 1) := by decide +kernel
theorem d_MM_sortRows_27 : decode b_MM_sortRows 27 = .ok (.aload_n 0, 1) := by decide +kernel
theorem d_MM_sortRows_28 : decode b_MM_sortRows 28 = .ok (.getfield 49, 3) := by decide +kernel
theorem d_MM_sortRows_31 : decode b_MM_sortRows 31 = .ok (.iconst 0, 1) := by decide +kernel
theorem d_MM_sortRows_32 : decode b_MM_sortRows 32 = .ok (.aload_n 0, 1) := by decide +kernel
theorem d_MM_sortRows_33 : decode b_MM_sortRows 33 = .ok (.getfield 29, 3) := by decide +kernel
theorem d_MM_sortRows_36 : decode b_MM_sortRows 36 = .ok (.iload_n 1, 1) := by decide +kernel
theorem d_MM_sortRows_37 : decode b_MM_sortRows 37 = .ok (.iaload, 1) := by decide +kernel
theorem d_MM_sortRows_38 : decode b_MM_sortRows 38 = .ok (.invokevirtual 81, 3) := by decide +kernel
theorem d_MM_sortRows_41 : decode b_MM_sortRows 41 = .ok (.invokevirtual 89, 3) := by decide +kernel
theorem d_MM_sortRows_44 : decode b_MM_sortRows 44 = .ok (.pop, 1) := by decide +kernel
theorem d_MM_sortRows_45 : decode b_MM_sortRows 45 = .ok (.iconst 0, 1) := by decide +kernel
theorem d_MM_sortRows_46 : decode b_MM_sortRows 46 = .ok (.istore_n 3, 1) := by decide +kernel
theorem d_MM_sortRows_47 : decode b_MM_sortRows 47 = .ok (.iload_n 3, 1) := by decide +kernel
theorem d_MM_sortRows_48 : decode b_MM_sortRows 48 = .ok (.sipush 4096, 3) := by decide +kernel
theorem d_MM_sortRows_51 : decode b_MM_sortRows 51 = .ok (.if_icmp .ge 111, 3) := by decide +kernel
theorem d_MM_sortRows_54 : decode b_MM_sortRows 54 = .ok (.aload_n 0, 1) := by decide +kernel
theorem d_MM_sortRows_55 : decode b_MM_sortRows 55 = .ok (.getfield 26, 3) := by decide +kernel
theorem d_MM_sortRows_58 : decode b_MM_sortRows 58 = .ok (.iload_n 1, 1) := by decide +kernel
theorem d_MM_sortRows_59 : decode b_MM_sortRows 59 = .ok (.iaload, 1) := by decide +kernel
theorem d_MM_sortRows_60 : decode b_MM_sortRows 60 = .ok (.iconst 2, 1) := by decide +kernel
theorem d_MM_sortRows_61 : decode b_MM_sortRows 61 = .ok (.if_icmp .ne 33, 3) := by decide +kernel
theorem d_MM_sortRows_64 : decode b_MM_sortRows 64 = .ok (.aload_n 0, 1) := by decide +kernel
theorem d_MM_sortRows_65 : decode b_MM_sortRows 65 = .ok (.iconst 0, 1) := by decide +kernel
theorem d_MM_sortRows_66 : decode b_MM_sortRows 66 = .ok (.iload_n 3, 1) := by decide +kernel
theorem d_MM_sortRows_67 : decode b_MM_sortRows 67 = .ok (.invokevirtual 45, 3) := by decide +kernel
theorem d_MM_sortRows_70 : decode b_MM_sortRows 70 = .ok (.ifCond .eq 24, 3) := by decide +kernel
theorem d_MM_sortRows_73 : decode b_MM_sortRows 73 = .ok (.iload_n 3, 1) := by decide +kernel
theorem d_MM_sortRows_74 : decode b_MM_sortRows 74 = .ok (.aload_n 0, 1) := by decide +kernel
theorem d_MM_sortRows_75 : decode b_MM_sortRows 75 = .ok (.getfield 29, 3) := by decide +kernel
theorem d_MM_sortRows_78 : decode b_MM_sortRows 78 = .ok (.iload_n 1, 1) := by decide +kernel
theorem d_MM_sortRows_79 : decode b_MM_sortRows 79 = .ok (.iaload, 1) := by decide +kernel
theorem d_MM_sortRows_80 : decode b_MM_sortRows 80 = .ok (.ishr, 1) := by decide +kernel
theorem d_MM_sortRows_81 : decode b_MM_sortRows 81 = .ok (.iconst 1, 1) := by decide +kernel
theorem d_MM_sortRows_82 : decode b_MM_sortRows 82 = .ok (.iand, 1) := by decide +kernel
theorem d_MM_sortRows_83 : decode b_MM_sortRows 83 = .ok (.iconst 1, 1) := by decide +kernel
theorem d_MM_sortRows_84 : decode b_MM_sortRows 84 = .ok (.if_icmp .ne 10, 3) := by decide +kernel
theorem d_MM_sortRows_87 : decode b_MM_sortRows 87 = .ok (.aload_n 0, 1) := by decide +kernel
theorem d_MM_sortRows_88 : decode b_MM_sortRows 88 = .ok (.iload_n 2, 1) := by decide +kernel
theorem d_MM_sortRows_89 : decode b_MM_sortRows 89 = .ok (.iload_n 3, 1) := by decide +kernel
theorem d_MM_sortRows_90 : decode b_MM_sortRows 90 = .ok (.invokevirtual 89, 3) := by decide +kernel
theorem d_MM_sortRows_93 : decode b_MM_sortRows 93 = .ok (.pop, 1) := by decide +kernel
theorem d_MM_sortRows_94 : decode b_MM_sortRows 94 = .ok (.aload_n 0, 1) := by decide +kernel
theorem d_MM_sortRows_95 : decode b_MM_sortRows 95 = .ok (.getfield 26, 3) := by decide +kernel
theorem d_MM_sortRows_98 : decode b_MM_sortRows 98 = .ok (.iload_n 1, 1) := by decide +kernel
theorem d_MM_sortRows_99 : decode b_MM_sortRows 99 = .ok (.iaload, 1) := by decide +kernel
theorem d_MM_sortRows_100 : decode b_MM_sortRows 100 = .ok (.iconst 1, 1) := by decide +kernel
theorem d_MM_sortRows_101 : decode b_MM_sortRows 101 = .ok (.if_icmp .ne 55, 3) := by decide +kernel
theorem d_MM_sortRows_104 : decode b_MM_sortRows 104 = .ok (.aload_n 0, 1) := by decide +kernel
theorem d_MM_sortRows_105 : decode b_MM_sortRows 105 = .ok (.sipush 896, 3) := by decide +kernel
theorem d_MM_sortRows_108 : decode b_MM_sortRows 108 = .ok (.sipush 128, 3) := by decide +kernel
theorem d_MM_sortRows_111 : decode b_MM_sortRows 111 = .ok (.aload_n 0, 1) := by decide +kernel
theorem d_MM_sortRows_112 : decode b_MM_sortRows 112 = .ok (.getfield 29, 3) := by decide +kernel
theorem d_MM_sortRows_115 : decode b_MM_sortRows 115 = .ok (.iload_n 1, 1) := by decide +kernel
theorem d_MM_sortRows_116 : decode b_MM_sortRows 116 = .ok (.iaload, 1) := by decide +kernel
theorem d_MM_sortRows_117 : decode b_MM_sortRows 117 = .ok (.imul, 1) := by decide +kernel
theorem d_MM_sortRows_118 : decode b_MM_sortRows 118 = .ok (.iadd, 1) := by decide +kernel
theorem d_MM_sortRows_119 : decode b_MM_sortRows 119 = .ok (.iload_n 3, 1) := by decide +kernel
theorem d_MM_sortRows_120 : decode b_MM_sortRows 120 = .ok (.invokevirtual 45, 3) := by decide +kernel
theorem d_MM_sortRows_123 : decode b_MM_sortRows 123 = .ok (.ifCond .eq 33, 3) := by decide +kernel
theorem d_MM_sortRows_126 : decode b_MM_sortRows 126 = .ok (.aload_n 0, 1) := by decide +kernel
theorem d_MM_sortRows_127 : decode b_MM_sortRows 127 = .ok (.iload_n 2, 1) := by decide +kernel
theorem d_MM_sortRows_128 : decode b_MM_sortRows 128 = .ok (.aload_n 0, 1) := by decide +kernel
theorem d_MM_sortRows_129 : decode b_MM_sortRows 129 = .ok (.aload_n 0, 1) := by decide +kernel
theorem d_MM_sortRows_130 : decode b_MM_sortRows 130 = .ok (.getfield 49, 3) := by decide +kernel
theorem d_MM_sortRows_133 : decode b_MM_sortRows 133 = .ok (.iconst 1, 1) := by decide +kernel
theorem d_MM_sortRows_134 : decode b_MM_sortRows 134 = .ok (.iconst 1, 1) := by decide +kernel
theorem d_MM_sortRows_135 : decode b_MM_sortRows 135 = .ok (.iload_n 3, 1) := by decide +kernel
theorem d_MM_sortRows_136 : decode b_MM_sortRows 136 = .ok (.invokevirtual 92, 3) := by decide +kernel
theorem d_MM_sortRows_139 : decode b_MM_sortRows 139 = .ok (.sipush 896, 3) := by decide +kernel
theorem d_MM_sortRows_142 : decode b_MM_sortRows 142 = .ok (.sipush 128, 3) := by decide +kernel
theorem d_MM_sortRows_145 : decode b_MM_sortRows 145 = .ok (.aload_n 0, 1) := by decide +kernel
theorem d_MM_sortRows_146 : decode b_MM_sortRows 146 = .ok (.getfield 32, 3) := by decide +kernel
theorem d_MM_sortRows_149 : decode b_MM_sortRows 149 = .ok (.iload_n 1, 1) := by decide +kernel
theorem d_MM_sortRows_150 : decode b_MM_sortRows 150 = .ok (.iaload, 1) := by decide +kernel
theorem d_MM_sortRows_151 : decode b_MM_sortRows 151 = .ok (.imul, 1) := by decide +kernel
theorem d_MM_sortRows_152 : decode b_MM_sortRows 152 = .ok (.iadd, 1) := by decide +kernel
theorem d_MM_sortRows_153 : decode b_MM_sortRows 153 = .ok (.invokevirtual 131, 3) := by decide +kernel
theorem d_MM_sortRows_156 : decode b_MM_sortRows 156 = .ok (.iinc 3 1, 3) := by decide +kernel
theorem d_MM_sortRows_159 : decode b_MM_sortRows 159 = .ok (.goto (-112), 3) := by decide +kernel
theorem d_MM_sortRows_162 : decode b_MM_sortRows 162 = .ok (.return_, 1) := by decide +kernel
theorem d_MM_pairRows_0 : decode b_MM_pairRows 0 = .ok (.iconst 0, 1) := by decide +kernel
theorem d_MM_pairRows_1 : decode b_MM_pairRows 1 = .ok (.istore 4, 2) := by decide +kernel
theorem d_MM_pairRows_3 : decode b_MM_pairRows 3 = .ok (.iload 4, 2) := by decide +kernel
theorem d_MM_pairRows_5 : decode b_MM_pairRows 5 = .ok (.sipush 4096, 3) := by decide +kernel
theorem d_MM_pairRows_8 : decode b_MM_pairRows 8 = .ok (.if_icmp .ge 48, 3) := by decide +kernel
theorem d_MM_pairRows_11 : decode b_MM_pairRows 11 = .ok (.aload_n 0, 1) := by decide +kernel
theorem d_MM_pairRows_12 : decode b_MM_pairRows 12 = .ok (.iload_n 3, 1) := by decide +kernel
theorem d_MM_pairRows_13 : decode b_MM_pairRows 13 = .ok (.iload 4, 2) := by decide +kernel
theorem d_MM_pairRows_15 : decode b_MM_pairRows 15 = .ok (.invokevirtual 45, 3) := by decide +kernel
theorem d_MM_pairRows_18 : decode b_MM_pairRows 18 = .ok (.ifCond .eq 32, 3) := by decide +kernel
theorem d_MM_pairRows_21 : decode b_MM_pairRows 21 = .ok (.aload_n 0, 1) := by decide +kernel
theorem d_MM_pairRows_22 : decode b_MM_pairRows 22 = .ok (.iload_n 1, 1) := by decide +kernel
theorem d_MM_pairRows_23 : decode b_MM_pairRows 23 = .ok (.aload_n 0, 1) := by decide +kernel
theorem d_MM_pairRows_24 : decode b_MM_pairRows 24 = .ok (.aload_n 0, 1) := by decide +kernel
theorem d_MM_pairRows_25 : decode b_MM_pairRows 25 = .ok (.getfield 49, 3) := by decide +kernel
theorem d_MM_pairRows_28 : decode b_MM_pairRows 28 = .ok (.iconst 1, 1) := by decide +kernel
theorem d_MM_pairRows_29 : decode b_MM_pairRows 29 = .ok (.iload_n 2, 1) := by decide +kernel
theorem d_MM_pairRows_30 : decode b_MM_pairRows 30 = .ok (.aload_n 0, 1) := by decide +kernel
theorem d_MM_pairRows_31 : decode b_MM_pairRows 31 = .ok (.aload_n 0, 1) := by decide +kernel
theorem d_MM_pairRows_32 : decode b_MM_pairRows 32 = .ok (.getfield 49, 3) := by decide +kernel
theorem d_MM_pairRows_35 : decode b_MM_pairRows 35 = .ok (.iconst 1, 1) := by decide +kernel
theorem d_MM_pairRows_36 : decode b_MM_pairRows 36 = .ok (.iconst 0, 1) := by decide +kernel
theorem d_MM_pairRows_37 : decode b_MM_pairRows 37 = .ok (.iload 4, 2) := by decide +kernel
theorem d_MM_pairRows_39 : decode b_MM_pairRows 39 = .ok (.invokevirtual 92, 3) := by decide +kernel
theorem d_MM_pairRows_42 : decode b_MM_pairRows 42 = .ok (.iand, 1) := by decide +kernel
theorem d_MM_pairRows_43 : decode b_MM_pairRows 43 = .ok (.invokevirtual 81, 3) := by decide +kernel
theorem d_MM_pairRows_46 : decode b_MM_pairRows 46 = .ok (.invokevirtual 89, 3) := by decide +kernel
theorem d_MM_pairRows_49 : decode b_MM_pairRows 49 = .ok (.pop, 1) := by decide +kernel
theorem d_MM_pairRows_50 : decode b_MM_pairRows 50 = .ok (.iinc 4 1, 3) := by decide +kernel
theorem d_MM_pairRows_53 : decode b_MM_pairRows 53 = .ok (.goto (-50), 3) := by decide +kernel
theorem d_MM_pairRows_56 : decode b_MM_pairRows 56 = .ok (.return_, 1) := by decide +kernel
theorem d_MM_prepare_0 : decode b_MM_prepare 0 = .ok (.aload_n 0, 1) := by decide +kernel
theorem d_MM_prepare_1 : decode b_MM_prepare 1 = .ok (.aload_n 0, 1) := by decide +kernel
theorem d_MM_prepare_2 : decode b_MM_prepare 2 = .ok (.getfield 49, 3) := by decide +kernel
theorem d_MM_prepare_5 : decode b_MM_prepare 5 = .ok (.invokevirtual 112, 3) := by decide +kernel
theorem d_MM_prepare_8 : decode b_MM_prepare 8 = .ok (.iconst 0, 1) := by decide +kernel
theorem d_MM_prepare_9 : decode b_MM_prepare 9 = .ok (.istore_n 2, 1) := by decide +kernel
theorem d_MM_prepare_10 : decode b_MM_prepare 10 = .ok (.iload_n 2, 1) := by decide +kernel
theorem d_MM_prepare_11 : decode b_MM_prepare 11 = .ok (.iload_n 1, 1) := by decide +kernel
theorem d_MM_prepare_12 : decode b_MM_prepare 12 = .ok (.if_icmp .gt 14, 3) := by decide +kernel
theorem d_MM_prepare_15 : decode b_MM_prepare 15 = .ok (.aload_n 0, 1) := by decide +kernel
theorem d_MM_prepare_16 : decode b_MM_prepare 16 = .ok (.iload_n 2, 1) := by decide +kernel
theorem d_MM_prepare_17 : decode b_MM_prepare 17 = .ok (.invokevirtual 135, 3) := by decide +kernel
theorem d_MM_prepare_20 : decode b_MM_prepare 20 = .ok (.iinc 2 1, 3) := by decide +kernel
theorem d_MM_prepare_23 : decode b_MM_prepare 23 = .ok (.goto (-13), 3) := by decide +kernel
theorem d_MM_prepare_26 : decode b_MM_prepare 26 = .ok (.return_, 1) := by decide +kernel
theorem d_MM_isIn_0 : decode b_MM_isIn 0 = .ok (.iconst 1, 1) := by decide +kernel
theorem d_MM_isIn_1 : decode b_MM_isIn 1 = .ok (.istore_n 3, 1) := by decide +kernel
theorem d_MM_isIn_2 : decode b_MM_isIn 2 = .ok (.iconst 0, 1) := by decide +kernel
theorem d_MM_isIn_3 : decode b_MM_isIn 3 = .ok (.istore 4, 2) := by decide +kernel
theorem d_MM_isIn_5 : decode b_MM_isIn 5 = .ok (.iload 4, 2) := by decide +kernel
theorem d_MM_isIn_7 : decode b_MM_isIn 7 = .ok (.sipush 4096, 3) := by decide +kernel
theorem d_MM_isIn_10 : decode b_MM_isIn 10 = .ok (.if_icmp .ge 47, 3) := by decide +kernel
theorem d_MM_isIn_13 : decode b_MM_isIn 13 = .ok (.iload_n 3, 1) := by decide +kernel
theorem d_MM_isIn_14 : decode b_MM_isIn 14 = .ok (.ifCond .eq 35, 3) := by decide +kernel
theorem d_MM_isIn_17 : decode b_MM_isIn 17 = .ok (.aload_n 0, 1) := by decide +kernel
theorem d_MM_isIn_18 : decode b_MM_isIn 18 = .ok (.sipush 896, 3) := by decide +kernel
theorem d_MM_isIn_21 : decode b_MM_isIn 21 = .ok (.sipush 128, 3) := by decide +kernel
theorem d_MM_isIn_24 : decode b_MM_isIn 24 = .ok (.iload_n 1, 1) := by decide +kernel
theorem d_MM_isIn_25 : decode b_MM_isIn 25 = .ok (.imul, 1) := by decide +kernel
theorem d_MM_isIn_26 : decode b_MM_isIn 26 = .ok (.iadd, 1) := by decide +kernel
theorem d_MM_isIn_27 : decode b_MM_isIn 27 = .ok (.iload 4, 2) := by decide +kernel
theorem d_MM_isIn_29 : decode b_MM_isIn 29 = .ok (.invokevirtual 45, 3) := by decide +kernel
theorem d_MM_isIn_32 : decode b_MM_isIn 32 = .ok (.ifCond .eq 13, 3) := by decide +kernel
theorem d_MM_isIn_35 : decode b_MM_isIn 35 = .ok (.iload 4, 2) := by decide +kernel
theorem d_MM_isIn_37 : decode b_MM_isIn 37 = .ok (.iload_n 2, 1) := by decide +kernel
theorem d_MM_isIn_38 : decode b_MM_isIn 38 = .ok (.ishr, 1) := by decide +kernel
theorem d_MM_isIn_39 : decode b_MM_isIn 39 = .ok (.iconst 1, 1) := by decide +kernel
theorem d_MM_isIn_40 : decode b_MM_isIn 40 = .ok (.iand, 1) := by decide +kernel
theorem d_MM_isIn_41 : decode b_MM_isIn 41 = .ok (.iconst 1, 1) := by decide +kernel
theorem d_MM_isIn_42 : decode b_MM_isIn 42 = .ok (.if_icmp .ne 7, 3) := by decide +kernel
theorem d_MM_isIn_45 : decode b_MM_isIn 45 = .ok (.iconst 1, 1) := by decide +kernel
theorem d_MM_isIn_46 : decode b_MM_isIn 46 = .ok (.goto 4, 3) := by decide +kernel
theorem d_MM_isIn_49 : decode b_MM_isIn 49 = .ok (.iconst 0, 1) := by decide +kernel
theorem d_MM_isIn_50 : decode b_MM_isIn 50 = .ok (.istore_n 3, 1) := by decide +kernel
theorem d_MM_isIn_51 : decode b_MM_isIn 51 = .ok (.iinc 4 1, 3) := by decide +kernel
theorem d_MM_isIn_54 : decode b_MM_isIn 54 = .ok (.goto (-49), 3) := by decide +kernel
theorem d_MM_isIn_57 : decode b_MM_isIn 57 = .ok (.iload_n 3, 1) := by decide +kernel
theorem d_MM_isIn_58 : decode b_MM_isIn 58 = .ok (.ireturn, 1) := by decide +kernel
theorem d_MM_belongs_0 : decode b_MM_belongs 0 = .ok (.aload_n 0, 1) := by decide +kernel
theorem d_MM_belongs_1 : decode b_MM_belongs 1 = .ok (.iload_n 1, 1) := by decide +kernel
theorem d_MM_belongs_2 : decode b_MM_belongs 2 = .ok (.invokevirtual 128, 3) := by decide +kernel
theorem d_MM_belongs_5 : decode b_MM_belongs 5 = .ok (.ifCond .eq 11, 3) := by decide +kernel
theorem d_MM_belongs_8 : decode b_MM_belongs 8 = .ok (.aload_n 0, 1) := by decide +kernel
theorem d_MM_belongs_9 : decode b_MM_belongs 9 = .ok (.iload_n 2, 1) := by decide +kernel
theorem d_MM_belongs_10 : decode b_MM_belongs 10 = .ok (.invokevirtual 56, 3) := by decide +kernel
theorem d_MM_belongs_13 : decode b_MM_belongs 13 = .ok (.ifCond .ne 5, 3) := by decide +kernel
theorem d_MM_belongs_16 : decode b_MM_belongs 16 = .ok (.iconst 0, 1) := by decide +kernel
theorem d_MM_belongs_17 : decode b_MM_belongs 17 = .ok (.ireturn, 1) := by decide +kernel
theorem d_MM_belongs_18 : decode b_MM_belongs 18 = .ok (.aload_n 0, 1) := by decide +kernel
theorem d_MM_belongs_19 : decode b_MM_belongs 19 = .ok (.iload_n 1, 1) := by decide +kernel
theorem d_MM_belongs_20 : decode b_MM_belongs 20 = .ok (.invokevirtual 138, 3) := by decide +kernel
theorem d_MM_belongs_23 : decode b_MM_belongs 23 = .ok (.aload_n 0, 1) := by decide +kernel
theorem d_MM_belongs_24 : decode b_MM_belongs 24 = .ok (.iload_n 1, 1) := by decide +kernel
theorem d_MM_belongs_25 : decode b_MM_belongs 25 = .ok (.iload_n 2, 1) := by decide +kernel
theorem d_MM_belongs_26 : decode b_MM_belongs 26 = .ok (.invokevirtual 141, 3) := by decide +kernel
theorem d_MM_belongs_29 : decode b_MM_belongs 29 = .ok (.ireturn, 1) := by decide +kernel
theorem d_MM_match_0 : decode b_MM_match 0 = .ok (.aload_n 0, 1) := by decide +kernel
theorem d_MM_match_1 : decode b_MM_match 1 = .ok (.iload_n 1, 1) := by decide +kernel
theorem d_MM_match_2 : decode b_MM_match 2 = .ok (.invokevirtual 128, 3) := by decide +kernel
theorem d_MM_match_5 : decode b_MM_match 5 = .ok (.ifCond .eq 28, 3) := by decide +kernel
theorem d_MM_match_8 : decode b_MM_match 8 = .ok (.aload_n 0, 1) := by decide +kernel
theorem d_MM_match_9 : decode b_MM_match 9 = .ok (.iload_n 2, 1) := by decide +kernel
theorem d_MM_match_10 : decode b_MM_match 10 = .ok (.invokevirtual 56, 3) := by decide +kernel
theorem d_MM_match_13 : decode b_MM_match 13 = .ok (.ifCond .eq 20, 3) := by decide +kernel
theorem d_MM_match_16 : decode b_MM_match 16 = .ok (.aload_n 0, 1) := by decide +kernel
theorem d_MM_match_17 : decode b_MM_match 17 = .ok (.iload_n 3, 1) := by decide +kernel
theorem d_MM_match_18 : decode b_MM_match 18 = .ok (.invokevirtual 56, 3) := by decide +kernel
theorem d_MM_match_21 : decode b_MM_match 21 = .ok (.ifCond .eq 12, 3) := by decide +kernel
theorem d_MM_match_24 : decode b_MM_match 24 = .ok (.aload_n 0, 1) := by decide +kernel
theorem d_MM_match_25 : decode b_MM_match 25 = .ok (.iload 4, 2) := by decide +kernel
theorem d_MM_match_27 : decode b_MM_match 27 = .ok (.invokevirtual 56, 3) := by decide +kernel
theorem d_MM_match_30 : decode b_MM_match 30 = .ok (.ifCond .ne 5, 3) := by decide +kernel
theorem d_MM_match_33 : decode b_MM_match 33 = .ok (.iconst (-1), 1) := by decide +kernel
theorem d_MM_match_34 : decode b_MM_match 34 = .ok (.ireturn, 1) := by decide +kernel
theorem d_MM_match_35 : decode b_MM_match 35 = .ok (.aload_n 0, 1) := by decide +kernel
theorem d_MM_match_36 : decode b_MM_match 36 = .ok (.iload_n 1, 1) := by decide +kernel
theorem d_MM_match_37 : decode b_MM_match 37 = .ok (.invokevirtual 138, 3) := by decide +kernel
theorem d_MM_match_40 : decode b_MM_match 40 = .ok (.aload_n 0, 1) := by decide +kernel
theorem d_MM_match_41 : decode b_MM_match 41 = .ok (.iload_n 1, 1) := by decide +kernel
theorem d_MM_match_42 : decode b_MM_match 42 = .ok (.iload_n 2, 1) := by decide +kernel
theorem d_MM_match_43 : decode b_MM_match 43 = .ok (.invokevirtual 141, 3) := by decide +kernel
theorem d_MM_match_46 : decode b_MM_match 46 = .ok (.ifCond .eq 7, 3) := by decide +kernel
theorem d_MM_match_49 : decode b_MM_match 49 = .ok (.iconst 1, 1) := by decide +kernel
theorem d_MM_match_50 : decode b_MM_match 50 = .ok (.goto 31, 3) := by decide +kernel
theorem d_MM_match_53 : decode b_MM_match 53 = .ok (.aload_n 0, 1) := by decide +kernel
theorem d_MM_match_54 : decode b_MM_match 54 = .ok (.iload_n 1, 1) := by decide +kernel
theorem d_MM_match_55 : decode b_MM_match 55 = .ok (.iload_n 3, 1) := by decide +kernel
theorem d_MM_match_56 : decode b_MM_match 56 = .ok (.invokevirtual 141, 3) := by decide +kernel
theorem d_MM_match_59 : decode b_MM_match 59 = .ok (.ifCond .eq 7, 3) := by decide +kernel
theorem d_MM_match_62 : decode b_MM_match 62 = .ok (.iconst 2, 1) := by decide +kernel
theorem d_MM_match_63 : decode b_MM_match 63 = .ok (.goto 18, 3) := by decide +kernel
theorem d_MM_match_66 : decode b_MM_match 66 = .ok (.aload_n 0, 1) := by decide +kernel
theorem d_MM_match_67 : decode b_MM_match 67 = .ok (.iload_n 1, 1) := by decide +kernel
theorem d_MM_match_68 : decode b_MM_match 68 = .ok (.iload 4, 2) := by decide +kernel
theorem d_MM_match_70 : decode b_MM_match 70 = .ok (.invokevirtual 141, 3) := by decide +kernel
theorem d_MM_match_73 : decode b_MM_match 73 = .ok (.ifCond .eq 7, 3) := by decide +kernel
theorem d_MM_match_76 : decode b_MM_match 76 = .ok (.iconst 3, 1) := by decide +kernel
theorem d_MM_match_77 : decode b_MM_match 77 = .ok (.goto 4, 3) := by decide +kernel
theorem d_MM_match_80 : decode b_MM_match 80 = .ok (.iconst 0, 1) := by decide +kernel
theorem d_MM_match_81 : decode b_MM_match 81 = .ok (.ireturn, 1) := by decide +kernel
theorem d_MM_sorts_0 : decode b_MM_sorts 0 = .ok (.aload_n 0, 1) := by decide +kernel
theorem d_MM_sorts_1 : decode b_MM_sorts 1 = .ok (.iload_n 1, 1) := by decide +kernel
theorem d_MM_sorts_2 : decode b_MM_sorts 2 = .ok (.invokevirtual 128, 3) := by decide +kernel
theorem d_MM_sorts_5 : decode b_MM_sorts 5 = .ok (.ifCond .ne 5, 3) := by decide +kernel
theorem d_MM_sorts_8 : decode b_MM_sorts 8 = .ok (.iconst (-1), 1) := by decide +kernel
theorem d_MM_sorts_9 : decode b_MM_sorts 9 = .ok (.ireturn, 1) := by decide +kernel
theorem d_MM_sorts_10 : decode b_MM_sorts 10 = .ok (.aload_n 0, 1) := by decide +kernel
theorem d_MM_sorts_11 : decode b_MM_sorts 11 = .ok (.iload_n 1, 1) := by decide +kernel
theorem d_MM_sorts_12 : decode b_MM_sorts 12 = .ok (.invokevirtual 138, 3) := by decide +kernel
theorem d_MM_sorts_15 : decode b_MM_sorts 15 = .ok (.iconst 0, 1) := by decide +kernel
theorem d_MM_sorts_16 : decode b_MM_sorts 16 = .ok (.istore_n 2, 1) := by decide +kernel
theorem d_MM_sorts_17 : decode b_MM_sorts 17 = .ok (.iconst 0, 1) := by decide +kernel
theorem d_MM_sorts_18 : decode b_MM_sorts 18 = .ok (.istore_n 3, 1) := by decide +kernel
theorem d_MM_sorts_19 : decode b_MM_sorts 19 = .ok (.iload_n 3, 1) := by decide +kernel
theorem d_MM_sorts_20 : decode b_MM_sorts 20 = .ok (.aload_n 0, 1) := by decide +kernel
theorem d_MM_sorts_21 : decode b_MM_sorts 21 = .ok (.getfield 49, 3) := by decide +kernel
theorem d_MM_sorts_24 : decode b_MM_sorts 24 = .ok (.if_icmp .ge 26, 3) := by decide +kernel
theorem d_MM_sorts_27 : decode b_MM_sorts 27 = .ok (.aload_n 0, 1) := by decide +kernel
theorem d_MM_sorts_28 : decode b_MM_sorts 28 = .ok (.iload_n 1, 1) := by decide +kernel
theorem d_MM_sorts_29 : decode b_MM_sorts 29 = .ok (.iload_n 3, 1) := by decide +kernel
theorem d_MM_sorts_30 : decode b_MM_sorts 30 = .ok (.invokevirtual 141, 3) := by decide +kernel
theorem d_MM_sorts_33 : decode b_MM_sorts 33 = .ok (.ifCond .eq 9, 3) := by decide +kernel
theorem d_MM_sorts_36 : decode b_MM_sorts 36 = .ok (.iload_n 2, 1) := by decide +kernel
theorem d_MM_sorts_37 : decode b_MM_sorts 37 = .ok (.iconst 1, 1) := by decide +kernel
theorem d_MM_sorts_38 : decode b_MM_sorts 38 = .ok (.iadd, 1) := by decide +kernel
theorem d_MM_sorts_39 : decode b_MM_sorts 39 = .ok (.goto 4, 3) := by decide +kernel
theorem d_MM_sorts_42 : decode b_MM_sorts 42 = .ok (.iload_n 2, 1) := by decide +kernel
theorem d_MM_sorts_43 : decode b_MM_sorts 43 = .ok (.istore_n 2, 1) := by decide +kernel
theorem d_MM_sorts_44 : decode b_MM_sorts 44 = .ok (.iinc 3 1, 3) := by decide +kernel
theorem d_MM_sorts_47 : decode b_MM_sorts 47 = .ok (.goto (-28), 3) := by decide +kernel
theorem d_MM_sorts_50 : decode b_MM_sorts 50 = .ok (.iload_n 2, 1) := by decide +kernel
theorem d_MM_sorts_51 : decode b_MM_sorts 51 = .ok (.ireturn, 1) := by decide +kernel
theorem d_MM_cut_0 : decode b_MM_cut 0 = .ok (.aload_n 0, 1) := by decide +kernel
theorem d_MM_cut_1 : decode b_MM_cut 1 = .ok (.iconst 0, 1) := by decide +kernel
theorem d_MM_cut_2 : decode b_MM_cut 2 = .ok (.putfield 122, 3) := by decide +kernel
theorem d_MM_cut_5 : decode b_MM_cut 5 = .ok (.aload_n 0, 1) := by decide +kernel
theorem d_MM_cut_6 : decode b_MM_cut 6 = .ok (.iload_n 1, 1) := by decide +kernel
theorem d_MM_cut_7 : decode b_MM_cut 7 = .ok (.ifCond .ge 7, 3) := by decide +kernel
theorem d_MM_cut_10 : decode b_MM_cut 10 = .ok (.iconst 0, 1) := by decide +kernel
theorem d_MM_cut_11 : decode b_MM_cut 11 = .ok (.goto 19, 3) := by decide +kernel
theorem d_MM_cut_14 : decode b_MM_cut 14 = .ok (.iload_n 1, 1) := by decide +kernel
theorem d_MM_cut_15 : decode b_MM_cut 15 = .ok (.aload_n 0, 1) := by decide +kernel
theorem d_MM_cut_16 : decode b_MM_cut 16 = .ok (.getfield 49, 3) := by decide +kernel
theorem d_MM_cut_19 : decode b_MM_cut 19 = .ok (.if_icmp .ge 7, 3) := by decide +kernel
theorem d_MM_cut_22 : decode b_MM_cut 22 = .ok (.iload_n 1, 1) := by decide +kernel
theorem d_MM_cut_23 : decode b_MM_cut 23 = .ok (.goto 7, 3) := by decide +kernel
theorem d_MM_cut_26 : decode b_MM_cut 26 = .ok (.aload_n 0, 1) := by decide +kernel
theorem d_MM_cut_27 : decode b_MM_cut 27 = .ok (.getfield 49, 3) := by decide +kernel
theorem d_MM_cut_30 : decode b_MM_cut 30 = .ok (.putfield 49, 3) := by decide +kernel
theorem d_MM_cut_33 : decode b_MM_cut 33 = .ok (.aload_n 0, 1) := by decide +kernel
theorem d_MM_cut_34 : decode b_MM_cut 34 = .ok (.iconst 0, 1) := by decide +kernel
theorem d_MM_cut_35 : decode b_MM_cut 35 = .ok (.putfield 53, 3) := by decide +kernel
theorem d_MM_cut_38 : decode b_MM_cut 38 = .ok (.aload_n 0, 1) := by decide +kernel
theorem d_MM_cut_39 : decode b_MM_cut 39 = .ok (.getfield 49, 3) := by decide +kernel
theorem d_MM_cut_42 : decode b_MM_cut 42 = .ok (.ireturn, 1) := by decide +kernel
