theorem d_MM_init_0 : decode b_MM_init 0 = .ok (.aload_n 0, 1) := by decide +kernel
theorem d_MM_init_1 : decode b_MM_init 1 = .ok (.invokespecial 1, 3) := by decide +kernel
theorem d_MM_init_4 : decode b_MM_init 4 = .ok (.aload_n 0, 1) := by decide +kernel
theorem d_MM_init_5 : decode b_MM_init 5 = .ok (.bipush 13, 2) := by decide +kernel
theorem d_MM_init_7 : decode b_MM_init 7 = .ok (.newarray .int, 2) := by decide +kernel
theorem d_MM_init_9 : decode b_MM_init 9 = .ok (.putfield 7, 3) := by decide +kernel
theorem d_MM_init_12 : decode b_MM_init 12 = .ok (.aload_n 0, 1) := by decide +kernel
theorem d_MM_init_13 : decode b_MM_init 13 = .ok (.bipush 13, 2) := by decide +kernel
theorem d_MM_init_15 : decode b_MM_init 15 = .ok (.newarray .int, 2) := by decide +kernel
theorem d_MM_init_17 : decode b_MM_init 17 = .ok (.putfield 13, 3) := by decide +kernel
theorem d_MM_init_20 : decode b_MM_init 20 = .ok (.aload_n 0, 1) := by decide +kernel
theorem d_MM_init_21 : decode b_MM_init 21 = .ok (.bipush 13, 2) := by decide +kernel
theorem d_MM_init_23 : decode b_MM_init 23 = .ok (.newarray .int, 2) := by decide +kernel
theorem d_MM_init_25 : decode b_MM_init 25 = .ok (.putfield 16, 3) := by decide +kernel
theorem d_MM_init_28 : decode b_MM_init 28 = .ok (.aload_n 0, 1) := by decide +kernel
theorem d_MM_init_29 : decode b_MM_init 29 = .ok (.bipush 13, 2) := by decide +kernel
theorem d_MM_init_31 : decode b_MM_init 31 = .ok (.newarray .int, 2) := by decide +kernel
theorem d_MM_init_33 : decode b_MM_init 33 = .ok (.putfield 19, 3) := by decide +kernel
theorem d_MM_init_36 : decode b_MM_init 36 = .ok (.aload_n 0, 1) := by decide +kernel
theorem d_MM_init_37 : decode b_MM_init 37 = .ok (.bipush 13, 2) := by decide +kernel
theorem d_MM_init_39 : decode b_MM_init 39 = .ok (.newarray .boolean, 2) := by decide +kernel
theorem d_MM_init_41 : decode b_MM_init 41 = .ok (.putfield 22, 3) := by decide +kernel
theorem d_MM_init_44 : decode b_MM_init 44 = .ok (.aload_n 0, 1) := by decide +kernel
theorem d_MM_init_45 : decode b_MM_init 45 = .ok (.bipush 20, 2) := by decide +kernel
theorem d_MM_init_47 : decode b_MM_init 47 = .ok (.newarray .int, 2) := by decide +kernel
theorem d_MM_init_49 : decode b_MM_init 49 = .ok (.putfield 26, 3) := by decide +kernel
theorem d_MM_init_52 : decode b_MM_init 52 = .ok (.aload_n 0, 1) := by decide +kernel
theorem d_MM_init_53 : decode b_MM_init 53 = .ok (.bipush 20, 2) := by decide +kernel
theorem d_MM_init_55 : decode b_MM_init 55 = .ok (.newarray .int, 2) := by decide +kernel
theorem d_MM_init_57 : decode b_MM_init 57 = .ok (.putfield 29, 3) := by decide +kernel
theorem d_MM_init_60 : decode b_MM_init 60 = .ok (.aload_n 0, 1) := by decide +kernel
theorem d_MM_init_61 : decode b_MM_init 61 = .ok (.bipush 20, 2) := by decide +kernel
theorem d_MM_init_63 : decode b_MM_init 63 = .ok (.newarray .int, 2) := by decide +kernel
theorem d_MM_init_65 : decode b_MM_init 65 = .ok (.putfield 32, 3) := by decide +kernel
theorem d_MM_init_68 : decode b_MM_init 68 = .ok (.aload_n 0, 1) := by decide +kernel
theorem d_MM_init_69 : decode b_MM_init 69 = .ok (.bipush 20, 2) := by decide +kernel
theorem d_MM_init_71 : decode b_MM_init 71 = .ok (.newarray .int, 2) := by decide +kernel
theorem d_MM_init_73 : decode b_MM_init 73 = .ok (.putfield 35, 3) := by decide +kernel
theorem d_MM_init_76 : decode b_MM_init 76 = .ok (.aload_n 0, 1) := by decide +kernel
theorem d_MM_init_77 : decode b_MM_init 77 = .ok (.sipush 3456, 3) := by decide +kernel
theorem d_MM_init_80 : decode b_MM_init 80 = .ok (.newarray .long, 2) := by decide +kernel
theorem d_MM_init_82 : decode b_MM_init 82 = .ok (.putfield 38, 3) := by decide +kernel
theorem d_MM_init_85 : decode b_MM_init 85 = .ok (.aload_n 0, 1) := by decide +kernel
theorem d_MM_init_86 : decode b_MM_init 86 = .ok (.bipush 13, 2) := by decide +kernel
theorem d_MM_init_88 : decode b_MM_init 88 = .ok (.newarray .int, 2) := by decide +kernel
theorem d_MM_init_90 : decode b_MM_init 90 = .ok (.putfield 42, 3) := by decide +kernel
theorem d_MM_init_93 : decode b_MM_init 93 = .ok (.return_, 1) := by decide +kernel
theorem d_MM_has_0 : decode b_MM_has 0 = .ok (.aload_n 0, 1) := by decide +kernel
theorem d_MM_has_1 : decode b_MM_has 1 = .ok (.getfield 38, 3) := by decide +kernel
theorem d_MM_has_4 : decode b_MM_has 4 = .ok (.iload_n 1, 1) := by decide +kernel
theorem d_MM_has_5 : decode b_MM_has 5 = .ok (.iload_n 2, 1) := by decide +kernel
theorem d_MM_has_6 : decode b_MM_has 6 = .ok (.bipush 64, 2) := by decide +kernel
theorem d_MM_has_8 : decode b_MM_has 8 = .ok (.idiv, 1) := by decide +kernel
theorem d_MM_has_9 : decode b_MM_has 9 = .ok (.iadd, 1) := by decide +kernel
theorem d_MM_has_10 : decode b_MM_has 10 = .ok (.laload, 1) := by decide +kernel
theorem d_MM_has_11 : decode b_MM_has 11 = .ok (.iload_n 2, 1) := by decide +kernel
theorem d_MM_has_12 : decode b_MM_has 12 = .ok (.bipush 64, 2) := by decide +kernel
theorem d_MM_has_14 : decode b_MM_has 14 = .ok (.irem, 1) := by decide +kernel
theorem d_MM_has_15 : decode b_MM_has 15 = .ok (.lshr, 1) := by decide +kernel
theorem d_MM_has_16 : decode b_MM_has 16 = .ok (.lconst 1, 1) := by decide +kernel
theorem d_MM_has_17 : decode b_MM_has 17 = .ok (.land, 1) := by decide +kernel
theorem d_MM_has_18 : decode b_MM_has 18 = .ok (.lconst 1, 1) := by decide +kernel
theorem d_MM_has_19 : decode b_MM_has 19 = .ok (.lcmp, 1) := by decide +kernel
theorem d_MM_has_20 : decode b_MM_has 20 = .ok (.ifCond .ne 7, 3) := by decide +kernel
theorem d_MM_has_23 : decode b_MM_has 23 = .ok (.iconst 1, 1) := by decide +kernel
theorem d_MM_has_24 : decode b_MM_has 24 = .ok (.goto 4, 3) := by decide +kernel
theorem d_MM_has_27 : decode b_MM_has 27 = .ok (.iconst 0, 1) := by decide +kernel
theorem d_MM_has_28 : decode b_MM_has 28 = .ok (.ireturn, 1) := by decide +kernel
theorem d_MM_put_0 : decode b_MM_put 0 = .ok (.aload_n 0, 1) := by decide +kernel
theorem d_MM_put_1 : decode b_MM_put 1 = .ok (.iload_n 1, 1) := by decide +kernel
theorem d_MM_put_2 : decode b_MM_put 2 = .ok (.iload_n 2, 1) := by decide +kernel
theorem d_MM_put_3 : decode b_MM_put 3 = .ok (.invokevirtual 45, 3) := by decide +kernel
theorem d_MM_put_6 : decode b_MM_put 6 = .ok (.ifCond .ne 7, 3) := by decide +kernel
theorem d_MM_put_9 : decode b_MM_put 9 = .ok (.iconst 1, 1) := by decide +kernel
theorem d_MM_put_10 : decode b_MM_put 10 = .ok (.goto 4, 3) := by decide +kernel
theorem d_MM_put_13 : decode b_MM_put 13 = .ok (.iconst 0, 1) := by decide +kernel
theorem d_MM_put_14 : decode b_MM_put 14 = .ok (.istore_n 3, 1) := by decide +kernel
theorem d_MM_put_15 : decode b_MM_put 15 = .ok (.aload_n 0, 1) := by decide +kernel
theorem d_MM_put_16 : decode b_MM_put 16 = .ok (.getfield 38, 3) := by decide +kernel
theorem d_MM_put_19 : decode b_MM_put 19 = .ok (.iload_n 1, 1) := by decide +kernel
theorem d_MM_put_20 : decode b_MM_put 20 = .ok (.iload_n 2, 1) := by decide +kernel
theorem d_MM_put_21 : decode b_MM_put 21 = .ok (.bipush 64, 2) := by decide +kernel
theorem d_MM_put_23 : decode b_MM_put 23 = .ok (.idiv, 1) := by decide +kernel
theorem d_MM_put_24 : decode b_MM_put 24 = .ok (.iadd, 1) := by decide +kernel
theorem d_MM_put_25 : decode b_MM_put 25 = .ok (.aload_n 0, 1) := by decide +kernel
theorem d_MM_put_26 : decode b_MM_put 26 = .ok (.getfield 38, 3) := by decide +kernel
theorem d_MM_put_29 : decode b_MM_put 29 = .ok (.iload_n 1, 1) := by decide +kernel
theorem d_MM_put_30 : decode b_MM_put 30 = .ok (.iload_n 2, 1) := by decide +kernel
theorem d_MM_put_31 : decode b_MM_put 31 = .ok (.bipush 64, 2) := by decide +kernel
theorem d_MM_put_33 : decode b_MM_put 33 = .ok (.idiv, 1) := by decide +kernel
theorem d_MM_put_34 : decode b_MM_put 34 = .ok (.iadd, 1) := by decide +kernel
theorem d_MM_put_35 : decode b_MM_put 35 = .ok (.laload, 1) := by decide +kernel
theorem d_MM_put_36 : decode b_MM_put 36 = .ok (.lconst 1, 1) := by decide +kernel
theorem d_MM_put_37 : decode b_MM_put 37 = .ok (.iload_n 2, 1) := by decide +kernel
theorem d_MM_put_38 : decode b_MM_put 38 = .ok (.bipush 64, 2) := by decide +kernel
theorem d_MM_put_40 : decode b_MM_put 40 = .ok (.irem, 1) := by decide +kernel
theorem d_MM_put_41 : decode b_MM_put 41 = .ok (.lshl, 1) := by decide +kernel
theorem d_MM_put_42 : decode b_MM_put 42 = .ok (.lor, 1) := by decide +kernel
theorem d_MM_put_43 : decode b_MM_put 43 = .ok (.lastore, 1) := by decide +kernel
theorem d_MM_put_44 : decode b_MM_put 44 = .ok (.iload_n 3, 1) := by decide +kernel
theorem d_MM_put_45 : decode b_MM_put 45 = .ok (.ireturn, 1) := by decide +kernel
theorem d_MM_clear_0 : decode b_MM_clear 0 = .ok (.iconst 0, 1) := by decide +kernel
theorem d_MM_clear_1 : decode b_MM_clear 1 = .ok (.istore_n 2, 1) := by decide +kernel
theorem d_MM_clear_2 : decode b_MM_clear 2 = .ok (.iload_n 2, 1) := by decide +kernel
theorem d_MM_clear_3 : decode b_MM_clear 3 = .ok (.sipush 128, 3) := by decide +kernel
theorem d_MM_clear_6 : decode b_MM_clear 6 = .ok (.if_icmp .ge 18, 3) := by decide +kernel
theorem d_MM_clear_9 : decode b_MM_clear 9 = .ok (.aload_n 0, 1) := by decide +kernel
theorem d_MM_clear_10 : decode b_MM_clear 10 = .ok (.getfield 38, 3) := by decide +kernel
theorem d_MM_clear_13 : decode b_MM_clear 13 = .ok (.iload_n 1, 1) := by decide +kernel
theorem d_MM_clear_14 : decode b_MM_clear 14 = .ok (.iload_n 2, 1) := by decide +kernel
theorem d_MM_clear_15 : decode b_MM_clear 15 = .ok (.iadd, 1) := by decide +kernel
theorem d_MM_clear_16 : decode b_MM_clear 16 = .ok (.lconst 0, 1) := by decide +kernel
theorem d_MM_clear_17 : decode b_MM_clear 17 = .ok (.lastore, 1) := by decide +kernel
theorem d_MM_clear_18 : decode b_MM_clear 18 = .ok (.iinc 2 1, 3) := by decide +kernel
theorem d_MM_clear_21 : decode b_MM_clear 21 = .ok (.goto (-19), 3) := by decide +kernel
theorem d_MM_clear_24 : decode b_MM_clear 24 = .ok (.return_, 1) := by decide +kernel
theorem d_MM_isType_0 : decode b_MM_isType 0 = .ok (.iload_n 1, 1) := by decide +kernel
theorem d_MM_isType_1 : decode b_MM_isType 1 = .ok (.ifCond .lt 15, 3) := by decide +kernel
theorem d_MM_isType_4 : decode b_MM_isType 4 = .ok (.iload_n 1, 1) := by decide +kernel
theorem d_MM_isType_5 : decode b_MM_isType 5 = .ok (.aload_n 0, 1) := by decide +kernel
theorem d_MM_isType_6 : decode b_MM_isType 6 = .ok (.getfield 49, 3) := by decide +kernel
theorem d_MM_isType_9 : decode b_MM_isType 9 = .ok (.if_icmp .ge 7, 3) := by decide +kernel
theorem d_MM_isType_12 : decode b_MM_isType 12 = .ok (.iconst 1, 1) := by decide +kernel
theorem d_MM_isType_13 : decode b_MM_isType 13 = .ok (.goto 4, 3) := by decide +kernel
theorem d_MM_isType_16 : decode b_MM_isType 16 = .ok (.iconst 0, 1) := by decide +kernel
theorem d_MM_isType_17 : decode b_MM_isType 17 = .ok (.ireturn, 1) := by decide +kernel
theorem d_MM_make_0 : decode b_MM_make 0 = .ok (.aload_n 0, 1) := by decide +kernel
theorem d_MM_make_1 : decode b_MM_make 1 = .ok (.getfield 7, 3) := by decide +kernel
theorem d_MM_make_4 : decode b_MM_make 4 = .ok (.aload_n 0, 1) := by decide +kernel
theorem d_MM_make_5 : decode b_MM_make 5 = .ok (.getfield 49, 3) := by decide +kernel
theorem d_MM_make_8 : decode b_MM_make 8 = .ok (.iload_n 1, 1) := by decide +kernel
theorem d_MM_make_9 : decode b_MM_make 9 = .ok (.iastore, 1) := by decide +kernel
theorem d_MM_make_10 : decode b_MM_make 10 = .ok (.aload_n 0, 1) := by decide +kernel
theorem d_MM_make_11 : decode b_MM_make 11 = .ok (.getfield 13, 3) := by decide +kernel
theorem d_MM_make_14 : decode b_MM_make 14 = .ok (.aload_n 0, 1) := by decide +kernel
theorem d_MM_make_15 : decode b_MM_make 15 = .ok (.getfield 49, 3) := by decide +kernel
theorem d_MM_make_18 : decode b_MM_make 18 = .ok (.iload_n 2, 1) := by decide +kernel
theorem d_MM_make_19 : decode b_MM_make 19 = .ok (.iastore, 1) := by decide +kernel
theorem d_MM_make_20 : decode b_MM_make 20 = .ok (.aload_n 0, 1) := by decide +kernel
theorem d_MM_make_21 : decode b_MM_make 21 = .ok (.getfield 16, 3) := by decide +kernel
theorem d_MM_make_24 : decode b_MM_make 24 = .ok (.aload_n 0, 1) := by decide +kernel
theorem d_MM_make_25 : decode b_MM_make 25 = .ok (.getfield 49, 3) := by decide +kernel
theorem d_MM_make_28 : decode b_MM_make 28 = .ok (.iload_n 3, 1) := by decide +kernel
theorem d_MM_make_29 : decode b_MM_make 29 = .ok (.iastore, 1) := by decide +kernel
theorem d_MM_make_30 : decode b_MM_make 30 = .ok (.aload_n 0, 1) := by decide +kernel
theorem d_MM_make_31 : decode b_MM_make 31 = .ok (.getfield 19, 3) := by decide +kernel
theorem d_MM_make_34 : decode b_MM_make 34 = .ok (.aload_n 0, 1) := by decide +kernel
theorem d_MM_make_35 : decode b_MM_make 35 = .ok (.getfield 49, 3) := by decide +kernel
theorem d_MM_make_38 : decode b_MM_make 38 = .ok (.iload 4, 2) := by decide +kernel
theorem d_MM_make_40 : decode b_MM_make 40 = .ok (.iastore, 1) := by decide +kernel
theorem d_MM_make_41 : decode b_MM_make 41 = .ok (.aload_n 0, 1) := by decide +kernel
theorem d_MM_make_42 : decode b_MM_make 42 = .ok (.getfield 22, 3) := by decide +kernel
theorem d_MM_make_45 : decode b_MM_make 45 = .ok (.aload_n 0, 1) := by decide +kernel
theorem d_MM_make_46 : decode b_MM_make 46 = .ok (.getfield 49, 3) := by decide +kernel
theorem d_MM_make_49 : decode b_MM_make 49 = .ok (.iload_n 1, 1) := by decide +kernel
theorem d_MM_make_50 : decode b_MM_make 50 = .ok (.iconst 2, 1) := by decide +kernel
theorem d_MM_make_51 : decode b_MM_make 51 = .ok (.if_icmp .eq 26, 3) := by decide +kernel
theorem d_MM_make_54 : decode b_MM_make 54 = .ok (.iload_n 1, 1) := by decide +kernel
theorem d_MM_make_55 : decode b_MM_make 55 = .ok (.iconst 4, 1) := by decide +kernel
theorem d_MM_make_56 : decode b_MM_make 56 = .ok (.if_icmp .ne 25, 3) := by decide +kernel
theorem d_MM_make_59 : decode b_MM_make 59 = .ok (.aload_n 0, 1) := by decide +kernel
theorem d_MM_make_60 : decode b_MM_make 60 = .ok (.getfield 22, 3) := by decide +kernel
theorem d_MM_make_63 : decode b_MM_make 63 = .ok (.iload_n 2, 1) := by decide +kernel
theorem d_MM_make_64 : decode b_MM_make 64 = .ok (.baload, 1) := by decide +kernel
theorem d_MM_make_65 : decode b_MM_make 65 = .ok (.ifCond .eq 16, 3) := by decide +kernel
theorem d_MM_make_68 : decode b_MM_make 68 = .ok (.aload_n 0, 1) := by decide +kernel
theorem d_MM_make_69 : decode b_MM_make 69 = .ok (.getfield 22, 3) := by decide +kernel
theorem d_MM_make_72 : decode b_MM_make 72 = .ok (.iload_n 3, 1) := by decide +kernel
theorem d_MM_make_73 : decode b_MM_make 73 = .ok (.baload, 1) := by decide +kernel
theorem d_MM_make_74 : decode b_MM_make 74 = .ok (.ifCond .eq 7, 3) := by decide +kernel
theorem d_MM_make_77 : decode b_MM_make 77 = .ok (.iconst 1, 1) := by decide +kernel
theorem d_MM_make_78 : decode b_MM_make 78 = .ok (.goto 4, 3) := by decide +kernel
theorem d_MM_make_81 : decode b_MM_make 81 = .ok (.iconst 0, 1) := by decide +kernel
theorem d_MM_make_82 : decode b_MM_make 82 = .ok (.bastore, 1) := by decide +kernel
theorem d_MM_make_83 : decode b_MM_make 83 = .ok (.aload_n 0, 1) := by decide +kernel
theorem d_MM_make_84 : decode b_MM_make 84 = .ok (.aload_n 0, 1) := by decide +kernel
theorem d_MM_make_85 : decode b_MM_make 85 = .ok (.getfield 49, 3) := by decide +kernel
theorem d_MM_make_88 : decode b_MM_make 88 = .ok (.iconst 1, 1) := by decide +kernel
theorem d_MM_make_89 : decode b_MM_make 89 = .ok (.iadd, 1) := by decide +kernel
theorem d_MM_make_90 : decode b_MM_make 90 = .ok (.putfield 49, 3) := by decide +kernel
theorem d_MM_make_93 : decode b_MM_make 93 = .ok (.aload_n 0, 1) := by decide +kernel
theorem d_MM_make_94 : decode b_MM_make 94 = .ok (.iconst 0, 1) := by decide +kernel
theorem d_MM_make_95 : decode b_MM_make 95 = .ok (.putfield 53, 3) := by decide +kernel
theorem d_MM_make_98 : decode b_MM_make 98 = .ok (.aload_n 0, 1) := by decide +kernel
theorem d_MM_make_99 : decode b_MM_make 99 = .ok (.getfield 49, 3) := by decide +kernel
theorem d_MM_make_102 : decode b_MM_make 102 = .ok (.iconst 1, 1) := by decide +kernel
theorem d_MM_make_103 : decode b_MM_make 103 = .ok (.isub, 1) := by decide +kernel
theorem d_MM_make_104 : decode b_MM_make 104 = .ok (.ireturn, 1) := by decide +kernel
theorem d_MM_deeper_0 : decode b_MM_deeper 0 = .ok (.aload_n 0, 1) := by decide +kernel
theorem d_MM_deeper_1 : decode b_MM_deeper 1 = .ok (.getfield 19, 3) := by decide +kernel
theorem d_MM_deeper_4 : decode b_MM_deeper 4 = .ok (.iload_n 1, 1) := by decide +kernel
theorem d_MM_deeper_5 : decode b_MM_deeper 5 = .ok (.iaload, 1) := by decide +kernel
theorem d_MM_deeper_6 : decode b_MM_deeper 6 = .ok (.aload_n 0, 1) := by decide +kernel
theorem d_MM_deeper_7 : decode b_MM_deeper 7 = .ok (.getfield 19, 3) := by decide +kernel
theorem d_MM_deeper_10 : decode b_MM_deeper 10 = .ok (.iload_n 2, 1) := by decide +kernel
theorem d_MM_deeper_11 : decode b_MM_deeper 11 = .ok (.iaload, 1) := by decide +kernel
theorem d_MM_deeper_12 : decode b_MM_deeper 12 = .ok (.if_icmp .le 12, 3) := by decide +kernel
theorem d_MM_deeper_15 : decode b_MM_deeper 15 = .ok (.aload_n 0, 1) := by decide +kernel
theorem d_MM_deeper_16 : decode b_MM_deeper 16 = .ok (.getfield 19, 3) := by decide +kernel
theorem d_MM_deeper_19 : decode b_MM_deeper 19 = .ok (.iload_n 1, 1) := by decide +kernel
theorem d_MM_deeper_20 : decode b_MM_deeper 20 = .ok (.iaload, 1) := by decide +kernel
theorem d_MM_deeper_21 : decode b_MM_deeper 21 = .ok (.goto 9, 3) := by decide +kernel
theorem d_MM_deeper_24 : decode b_MM_deeper 24 = .ok (.aload_n 0, 1) := by decide +kernel
theorem d_MM_deeper_25 : decode b_MM_deeper 25 = .ok (.getfield 19, 3) := by decide +kernel
theorem d_MM_deeper_28 : decode b_MM_deeper 28 = .ok (.iload_n 2, 1) := by decide +kernel
theorem d_MM_deeper_29 : decode b_MM_deeper 29 = .ok (.iaload, 1) := by decide +kernel
theorem d_MM_deeper_30 : decode b_MM_deeper 30 = .ok (.ireturn, 1) := by decide +kernel
theorem d_MM_combine_0 : decode b_MM_combine 0 = .ok (.aload_n 0, 1) := by decide +kernel
theorem d_MM_combine_1 : decode b_MM_combine 1 = .ok (.iload_n 2, 1) := by decide +kernel
theorem d_MM_combine_2 : decode b_MM_combine 2 = .ok (.invokevirtual 56, 3) := by decide +kernel
theorem d_MM_combine_5 : decode b_MM_combine 5 = .ok (.ifCond .eq 33, 3) := by decide +kernel
theorem d_MM_combine_8 : decode b_MM_combine 8 = .ok (.aload_n 0, 1) := by decide +kernel
theorem d_MM_combine_9 : decode b_MM_combine 9 = .ok (.iload_n 3, 1) := by decide +kernel
theorem d_MM_combine_10 : decode b_MM_combine 10 = .ok (.invokevirtual 56, 3) := by decide +kernel
theorem d_MM_combine_13 : decode b_MM_combine 13 = .ok (.ifCond .eq 25, 3) := by decide +kernel
theorem d_MM_combine_16 : decode b_MM_combine 16 = .ok (.aload_n 0, 1) := by decide +kernel
theorem d_MM_combine_17 : decode b_MM_combine 17 = .ok (.getfield 49, 3) := by decide +kernel
theorem d_MM_combine_20 : decode b_MM_combine 20 = .ok (.bipush 12, 2) := by decide +kernel
theorem d_MM_combine_22 : decode b_MM_combine 22 = .ok (.if_icmp .ge 16, 3) := by decide +kernel
theorem d_MM_combine_25 : decode b_MM_combine 25 = .ok (.aload_n 0, 1) := by decide +kernel
theorem d_MM_combine_26 : decode b_MM_combine 26 = .ok (.iload_n 2, 1) := by decide +kernel
theorem d_MM_combine_27 : decode b_MM_combine 27 = .ok (.iload_n 3, 1) := by decide +kernel
theorem d_MM_combine_28 : decode b_MM_combine 28 = .ok (.invokevirtual 60, 3) := by decide +kernel
theorem d_MM_combine_31 : decode b_MM_combine 31 = .ok (.iload 4, 2) := by decide +kernel
theorem d_MM_combine_33 : decode b_MM_combine 33 = .ok (.iadd, 1) := by decide +kernel
theorem d_MM_combine_34 : decode b_MM_combine 34 = .ok (.iconst 5, 1) := by decide +kernel
theorem d_MM_combine_35 : decode b_MM_combine 35 = .ok (.if_icmp .le 5, 3) := by decide +kernel
theorem d_MM_combine_38 : decode b_MM_combine 38 = .ok (.iconst (-1), 1) := by decide +kernel
theorem d_MM_combine_39 : decode b_MM_combine 39 = .ok (.ireturn, 1) := by decide +kernel
theorem d_MM_combine_40 : decode b_MM_combine 40 = .ok (.aload_n 0, 1) := by decide +kernel
theorem d_MM_combine_41 : decode b_MM_combine 41 = .ok (.iload_n 1, 1) := by decide +kernel
theorem d_MM_combine_42 : decode b_MM_combine 42 = .ok (.iload_n 2, 1) := by decide +kernel
theorem d_MM_combine_43 : decode b_MM_combine 43 = .ok (.iload_n 3, 1) := by decide +kernel
theorem d_MM_combine_44 : decode b_MM_combine 44 = .ok (.aload_n 0, 1) := by decide +kernel
theorem d_MM_combine_45 : decode b_MM_combine 45 = .ok (.iload_n 2, 1) := by decide +kernel
theorem d_MM_combine_46 : decode b_MM_combine 46 = .ok (.iload_n 3, 1) := by decide +kernel
theorem d_MM_combine_47 : decode b_MM_combine 47 = .ok (.invokevirtual 60, 3) := by decide +kernel
theorem d_MM_combine_50 : decode b_MM_combine 50 = .ok (.iload 4, 2) := by decide +kernel
theorem d_MM_combine_52 : decode b_MM_combine 52 = .ok (.iadd, 1) := by decide +kernel
theorem d_MM_combine_53 : decode b_MM_combine 53 = .ok (.invokevirtual 64, 3) := by decide +kernel
theorem d_MM_combine_56 : decode b_MM_combine 56 = .ok (.ireturn, 1) := by decide +kernel
theorem d_MM_constants_0 : decode b_MM_constants 0 = .ok (.iload_n 1, 1) := by decide +kernel
theorem d_MM_constants_1 : decode b_MM_constants 1 = .ok (.ifCond .lt 18, 3) := by decide +kernel
theorem d_MM_constants_4 : decode b_MM_constants 4 = .ok (.iload_n 1, 1) := by decide +kernel
theorem d_MM_constants_5 : decode b_MM_constants 5 = .ok (.bipush 63, 2) := by decide +kernel
theorem d_MM_constants_7 : decode b_MM_constants 7 = .ok (.if_icmp .gt 12, 3) := by decide +kernel
theorem d_MM_constants_10 : decode b_MM_constants 10 = .ok (.aload_n 0, 1) := by decide +kernel
theorem d_MM_constants_11 : decode b_MM_constants 11 = .ok (.getfield 49, 3) := by decide +kernel
theorem d_MM_constants_14 : decode b_MM_constants 14 = .ok (.bipush 12, 2) := by decide +kernel
theorem d_MM_constants_16 : decode b_MM_constants 16 = .ok (.if_icmp .lt 7, 3) := by decide +kernel
theorem d_MM_constants_19 : decode b_MM_constants 19 = .ok (.iconst (-1), 1) := by decide +kernel
theorem d_MM_constants_20 : decode b_MM_constants 20 = .ok (.goto 11, 3) := by decide +kernel
theorem d_MM_constants_23 : decode b_MM_constants 23 = .ok (.aload_n 0, 1) := by decide +kernel
theorem d_MM_constants_24 : decode b_MM_constants 24 = .ok (.iconst 0, 1) := by decide +kernel
theorem d_MM_constants_25 : decode b_MM_constants 25 = .ok (.iload_n 1, 1) := by decide +kernel
theorem d_MM_constants_26 : decode b_MM_constants 26 = .ok (.iconst 0, 1) := by decide +kernel
theorem d_MM_constants_27 : decode b_MM_constants 27 = .ok (.iconst 0, 1) := by decide +kernel
theorem d_MM_constants_28 : decode b_MM_constants 28 = .ok (.invokevirtual 64, 3) := by decide +kernel
theorem d_MM_constants_31 : decode b_MM_constants 31 = .ok (.ireturn, 1) := by decide +kernel
theorem d_MM_product_0 : decode b_MM_product 0 = .ok (.aload_n 0, 1) := by decide +kernel
theorem d_MM_product_1 : decode b_MM_product 1 = .ok (.iconst 1, 1) := by decide +kernel
theorem d_MM_product_2 : decode b_MM_product 2 = .ok (.iload_n 1, 1) := by decide +kernel
theorem d_MM_product_3 : decode b_MM_product 3 = .ok (.iload_n 2, 1) := by decide +kernel
theorem d_MM_product_4 : decode b_MM_product 4 = .ok (.iconst 1, 1) := by decide +kernel
theorem d_MM_product_5 : decode b_MM_product 5 = .ok (.invokevirtual 68, 3) := by decide +kernel
theorem d_MM_product_8 : decode b_MM_product 8 = .ok (.ireturn, 1) := by decide +kernel
theorem d_MM_arrow_0 : decode b_MM_arrow 0 = .ok (.aload_n 0, 1) := by decide +kernel
theorem d_MM_arrow_1 : decode b_MM_arrow 1 = .ok (.iconst 2, 1) := by decide +kernel
theorem d_MM_arrow_2 : decode b_MM_arrow 2 = .ok (.iload_n 1, 1) := by decide +kernel
theorem d_MM_arrow_3 : decode b_MM_arrow 3 = .ok (.iload_n 2, 1) := by decide +kernel
theorem d_MM_arrow_4 : decode b_MM_arrow 4 = .ok (.iconst 1, 1) := by decide +kernel
theorem d_MM_arrow_5 : decode b_MM_arrow 5 = .ok (.invokevirtual 68, 3) := by decide +kernel
theorem d_MM_arrow_8 : decode b_MM_arrow 8 = .ok (.ireturn, 1) := by decide +kernel
theorem d_MM_union_0 : decode b_MM_union 0 = .ok (.aload_n 0, 1) := by decide +kernel
theorem d_MM_union_1 : decode b_MM_union 1 = .ok (.iconst 3, 1) := by decide +kernel
theorem d_MM_union_2 : decode b_MM_union 2 = .ok (.iload_n 1, 1) := by decide +kernel
theorem d_MM_union_3 : decode b_MM_union 3 = .ok (.iload_n 2, 1) := by decide +kernel
theorem d_MM_union_4 : decode b_MM_union 4 = .ok (.iconst 0, 1) := by decide +kernel
theorem d_MM_union_5 : decode b_MM_union 5 = .ok (.invokevirtual 68, 3) := by decide +kernel
theorem d_MM_union_8 : decode b_MM_union 8 = .ok (.ireturn, 1) := by decide +kernel
theorem d_MM_meet_0 : decode b_MM_meet 0 = .ok (.aload_n 0, 1) := by decide +kernel
theorem d_MM_meet_1 : decode b_MM_meet 1 = .ok (.iconst 4, 1) := by decide +kernel
theorem d_MM_meet_2 : decode b_MM_meet 2 = .ok (.iload_n 1, 1) := by decide +kernel
theorem d_MM_meet_3 : decode b_MM_meet 3 = .ok (.iload_n 2, 1) := by decide +kernel
theorem d_MM_meet_4 : decode b_MM_meet 4 = .ok (.iconst 0, 1) := by decide +kernel
theorem d_MM_meet_5 : decode b_MM_meet 5 = .ok (.invokevirtual 68, 3) := by decide +kernel
theorem d_MM_meet_8 : decode b_MM_meet 8 = .ok (.ireturn, 1) := by decide +kernel
theorem d_MM_not_0 : decode b_MM_not 0 = .ok (.aload_n 0, 1) := by decide +kernel
theorem d_MM_not_1 : decode b_MM_not 1 = .ok (.iconst 5, 1) := by decide +kernel
theorem d_MM_not_2 : decode b_MM_not 2 = .ok (.iload_n 1, 1) := by decide +kernel
theorem d_MM_not_3 : decode b_MM_not 3 = .ok (.iload_n 1, 1) := by decide +kernel
theorem d_MM_not_4 : decode b_MM_not 4 = .ok (.iconst 0, 1) := by decide +kernel
theorem d_MM_not_5 : decode b_MM_not 5 = .ok (.invokevirtual 68, 3) := by decide +kernel
theorem d_MM_not_8 : decode b_MM_not 8 = .ok (.ireturn, 1) := by decide +kernel
theorem d_MM_any_0 : decode b_MM_any 0 = .ok (.aload_n 0, 1) := by decide +kernel
theorem d_MM_any_1 : decode b_MM_any 1 = .ok (.getfield 49, 3) := by decide +kernel
theorem d_MM_any_4 : decode b_MM_any 4 = .ok (.bipush 12, 2) := by decide +kernel
theorem d_MM_any_6 : decode b_MM_any 6 = .ok (.if_icmp .lt 7, 3) := by decide +kernel
theorem d_MM_any_9 : decode b_MM_any 9 = .ok (.iconst (-1), 1) := by decide +kernel
theorem d_MM_any_10 : decode b_MM_any 10 = .ok (.goto 12, 3) := by decide +kernel
theorem d_MM_any_13 : decode b_MM_any 13 = .ok (.aload_n 0, 1) := by decide +kernel
theorem d_MM_any_14 : decode b_MM_any 14 = .ok (.bipush 6, 2) := by decide +kernel
theorem d_MM_any_16 : decode b_MM_any 16 = .ok (.iconst 0, 1) := by decide +kernel
theorem d_MM_any_17 : decode b_MM_any 17 = .ok (.iconst 0, 1) := by decide +kernel
theorem d_MM_any_18 : decode b_MM_any 18 = .ok (.iconst 0, 1) := by decide +kernel
theorem d_MM_any_19 : decode b_MM_any 19 = .ok (.invokevirtual 64, 3) := by decide +kernel
theorem d_MM_any_22 : decode b_MM_any 22 = .ok (.ireturn, 1) := by decide +kernel
theorem d_MM_types_0 : decode b_MM_types 0 = .ok (.aload_n 0, 1) := by decide +kernel
theorem d_MM_types_1 : decode b_MM_types 1 = .ok (.getfield 49, 3) := by decide +kernel
theorem d_MM_types_4 : decode b_MM_types 4 = .ok (.ireturn, 1) := by decide +kernel
theorem d_MM_rowOf_0 : decode b_MM_rowOf 0 = .ok (.iconst 0, 1) := by decide +kernel
theorem d_MM_rowOf_1 : decode b_MM_rowOf 1 = .ok (.istore 4, 2) := by decide +kernel
theorem d_MM_rowOf_3 : decode b_MM_rowOf 3 = .ok (.iconst 0, 1) := by decide +kernel
theorem d_MM_rowOf_4 : decode b_MM_rowOf 4 = .ok (.istore 5, 2) := by decide +kernel
theorem d_MM_rowOf_6 : decode b_MM_rowOf 6 = .ok (.iload 5, 2) := by decide +kernel
theorem d_MM_rowOf_8 : decode b_MM_rowOf 8 = .ok (.iload_n 1, 1) := by decide +kernel
theorem d_MM_rowOf_9 : decode b_MM_rowOf 9 = .ok (.if_icmp .ge 228, 3) := by decide +kernel
theorem d_MM_rowOf_12 : decode b_MM_rowOf 12 = .ok (.aload_n 0, 1) := by decide +kernel
theorem d_MM_rowOf_13 : decode b_MM_rowOf 13 = .ok (.getfield 7, 3) := by decide +kernel
theorem d_MM_rowOf_16 : decode b_MM_rowOf 16 = .ok (.iload 5, 2) := by decide +kernel
theorem d_MM_rowOf_18 : decode b_MM_rowOf 18 = .ok (.iaload, 1) := by decide +kernel
theorem d_MM_rowOf_19 : decode b_MM_rowOf 19 = .ok (.istore 6, 2) := by decide +kernel
theorem d_MM_rowOf_21 : decode b_MM_rowOf 21 = .ok (.iload 4, 2) := by decide +kernel
theorem d_MM_rowOf_23 : decode b_MM_rowOf 23 = .ok (.aload_n 0, 1) := by decide +kernel
theorem d_MM_rowOf_24 : decode b_MM_rowOf 24 = .ok (.getfield 13, 3) := by decide +kernel
theorem d_MM_rowOf_27 : decode b_MM_rowOf 27 = .ok (.iload 5, 2) := by decide +kernel
theorem d_MM_rowOf_29 : decode b_MM_rowOf 29 = .ok (.iaload, 1) := by decide +kernel
theorem d_MM_rowOf_30 : decode b_MM_rowOf 30 = .ok (.ishr, 1) := by decide +kernel
theorem d_MM_rowOf_31 : decode b_MM_rowOf 31 = .ok (.iconst 1, 1) := by decide +kernel
theorem d_MM_rowOf_32 : decode b_MM_rowOf 32 = .ok (.iand, 1) := by decide +kernel
theorem d_MM_rowOf_33 : decode b_MM_rowOf 33 = .ok (.iconst 1, 1) := by decide +kernel
theorem d_MM_rowOf_34 : decode b_MM_rowOf 34 = .ok (.if_icmp .ne 7, 3) := by decide +kernel
theorem d_MM_rowOf_37 : decode b_MM_rowOf 37 = .ok (.iconst 1, 1) := by decide +kernel
theorem d_MM_rowOf_38 : decode b_MM_rowOf 38 = .ok (.goto 4, 3) := by decide +kernel
theorem d_MM_rowOf_41 : decode b_MM_rowOf 41 = .ok (.iconst 0, 1) := by decide +kernel
theorem d_MM_rowOf_42 : decode b_MM_rowOf 42 = .ok (.istore 7, 2) := by decide +kernel
theorem d_MM_rowOf_44 : decode b_MM_rowOf 44 = .ok (.iload 4, 2) := by decide +kernel
theorem d_MM_rowOf_46 : decode b_MM_rowOf 46 = .ok (.aload_n 0, 1) := by decide +kernel
theorem d_MM_rowOf_47 : decode b_MM_rowOf 47 = .ok (.getfield 16, 3) := by decide +kernel
theorem d_MM_rowOf_50 : decode b_MM_rowOf 50 = .ok (.iload 5, 2) := by decide +kernel
theorem d_MM_rowOf_52 : decode b_MM_rowOf 52 = .ok (.iaload, 1) := by decide +kernel
theorem d_MM_rowOf_53 : decode b_MM_rowOf 53 = .ok (.ishr, 1) := by decide +kernel
theorem d_MM_rowOf_54 : decode b_MM_rowOf 54 = .ok (.iconst 1, 1) := by decide +kernel
theorem d_MM_rowOf_55 : decode b_MM_rowOf 55 = .ok (.iand, 1) := by decide +kernel
theorem d_MM_rowOf_56 : decode b_MM_rowOf 56 = .ok (.iconst 1, 1) := by decide +kernel
theorem d_MM_rowOf_57 : decode b_MM_rowOf 57 = .ok (.if_icmp .ne 7, 3) := by decide +kernel
theorem d_MM_rowOf_60 : decode b_MM_rowOf 60 = .ok (.iconst 1, 1) := by decide +kernel
theorem d_MM_rowOf_61 : decode b_MM_rowOf 61 = .ok (.goto 4, 3) := by decide +kernel
theorem d_MM_rowOf_64 : decode b_MM_rowOf 64 = .ok (.iconst 0, 1) := by decide +kernel
theorem d_MM_rowOf_65 : decode b_MM_rowOf 65 = .ok (.istore 8, 2) := by decide +kernel
theorem d_MM_rowOf_67 : decode b_MM_rowOf 67 = .ok (.iload 6, 2) := by decide +kernel
theorem d_MM_rowOf_69 : decode b_MM_rowOf 69 = .ok (.bipush 6, 2) := by decide +kernel
theorem d_MM_rowOf_71 : decode b_MM_rowOf 71 = .ok (.if_icmp .eq 46, 3) := by decide +kernel
theorem d_MM_rowOf_74 : decode b_MM_rowOf 74 = .ok (.iload 6, 2) := by decide +kernel
theorem d_MM_rowOf_76 : decode b_MM_rowOf 76 = .ok (.iconst 3, 1) := by decide +kernel
theorem d_MM_rowOf_77 : decode b_MM_rowOf 77 = .ok (.if_icmp .ne 13, 3) := by decide +kernel
theorem d_MM_rowOf_80 : decode b_MM_rowOf 80 = .ok (.iload 7, 2) := by decide +kernel
theorem d_MM_rowOf_82 : decode b_MM_rowOf 82 = .ok (.ifCond .ne 35, 3) := by decide +kernel
theorem d_MM_rowOf_85 : decode b_MM_rowOf 85 = .ok (.iload 8, 2) := by decide +kernel
theorem d_MM_rowOf_87 : decode b_MM_rowOf 87 = .ok (.ifCond .ne 30, 3) := by decide +kernel
theorem d_MM_rowOf_90 : decode b_MM_rowOf 90 = .ok (.iload 6, 2) := by decide +kernel
theorem d_MM_rowOf_92 : decode b_MM_rowOf 92 = .ok (.iconst 4, 1) := by decide +kernel
theorem d_MM_rowOf_93 : decode b_MM_rowOf 93 = .ok (.if_icmp .ne 13, 3) := by decide +kernel
theorem d_MM_rowOf_96 : decode b_MM_rowOf 96 = .ok (.iload 7, 2) := by decide +kernel
theorem d_MM_rowOf_98 : decode b_MM_rowOf 98 = .ok (.ifCond .eq 8, 3) := by decide +kernel
theorem d_MM_rowOf_101 : decode b_MM_rowOf 101 = .ok (.iload 8, 2) := by decide +kernel
theorem d_MM_rowOf_103 : decode b_MM_rowOf 103 = .ok (.ifCond .ne 14, 3) := by decide +kernel
theorem d_MM_rowOf_106 : decode b_MM_rowOf 106 = .ok (.iload 6, 2) := by decide +kernel
theorem d_MM_rowOf_108 : decode b_MM_rowOf 108 = .ok (.iconst 5, 1) := by decide +kernel
theorem d_MM_rowOf_109 : decode b_MM_rowOf 109 = .ok (.if_icmp .ne 12, 3) := by decide +kernel
theorem d_MM_rowOf_112 : decode b_MM_rowOf 112 = .ok (.iload 7, 2) := by decide +kernel
theorem d_MM_rowOf_114 : decode b_MM_rowOf 114 = .ok (.ifCond .ne 7, 3) := by decide +kernel
theorem d_MM_rowOf_117 : decode b_MM_rowOf 117 = .ok (.iconst 1, 1) := by decide +kernel
theorem d_MM_rowOf_118 : decode b_MM_rowOf 118 = .ok (.goto 4, 3) := by decide +kernel
theorem d_MM_rowOf_121 : decode b_MM_rowOf 121 = .ok (.iconst 0, 1) := by decide +kernel
theorem d_MM_rowOf_122 : decode b_MM_rowOf 122 = .ok (.istore 9, 2) := by decide +kernel
theorem d_MM_rowOf_124 : decode b_MM_rowOf 124 = .ok (.iload 9, 2) := by decide +kernel
theorem d_MM_rowOf_126 : decode b_MM_rowOf 126 = .ok (.ifCond .ne 79, 3) := by decide +kernel
theorem d_MM_rowOf_129 : decode b_MM_rowOf 129 = .ok (.iload 6, 2) := by decide +kernel
theorem d_MM_rowOf_131 : decode b_MM_rowOf 131 = .ok (.ifCond .ne 22, 3) := by decide +kernel
theorem d_MM_rowOf_134 : decode b_MM_rowOf 134 = .ok (.iload_n 2, 1) := by decide +kernel
theorem d_MM_rowOf_135 : decode b_MM_rowOf 135 = .ok (.ifCond .ne 18, 3) := by decide +kernel
theorem d_MM_rowOf_138 : decode b_MM_rowOf 138 = .ok (.aload_n 0, 1) := by decide +kernel
theorem d_MM_rowOf_139 : decode b_MM_rowOf 139 = .ok (.getfield 13, 3) := by decide +kernel
theorem d_MM_rowOf_142 : decode b_MM_rowOf 142 = .ok (.iload 5, 2) := by decide +kernel
theorem d_MM_rowOf_144 : decode b_MM_rowOf 144 = .ok (.iaload, 1) := by decide +kernel
theorem d_MM_rowOf_145 : decode b_MM_rowOf 145 = .ok (.iload_n 3, 1) := by decide +kernel
theorem d_MM_rowOf_146 : decode b_MM_rowOf 146 = .ok (.ishr, 1) := by decide +kernel
theorem d_MM_rowOf_147 : decode b_MM_rowOf 147 = .ok (.iconst 1, 1) := by decide +kernel
theorem d_MM_rowOf_148 : decode b_MM_rowOf 148 = .ok (.iand, 1) := by decide +kernel
theorem d_MM_rowOf_149 : decode b_MM_rowOf 149 = .ok (.iconst 1, 1) := by decide +kernel
theorem d_MM_rowOf_150 : decode b_MM_rowOf 150 = .ok (.if_icmp .eq 55, 3) := by decide +kernel
theorem d_MM_rowOf_153 : decode b_MM_rowOf 153 = .ok (.iload 6, 2) := by decide +kernel
theorem d_MM_rowOf_155 : decode b_MM_rowOf 155 = .ok (.iconst 1, 1) := by decide +kernel
theorem d_MM_rowOf_156 : decode b_MM_rowOf 156 = .ok (.if_icmp .ne 23, 3) := by decide +kernel
theorem d_MM_rowOf_159 : decode b_MM_rowOf 159 = .ok (.iload_n 2, 1) := by decide +kernel
theorem d_MM_rowOf_160 : decode b_MM_rowOf 160 = .ok (.iconst 1, 1) := by decide +kernel
theorem d_MM_rowOf_161 : decode b_MM_rowOf 161 = .ok (.if_icmp .ne 18, 3) := by decide +kernel
theorem d_MM_rowOf_164 : decode b_MM_rowOf 164 = .ok (.iload_n 3, 1) := by decide +kernel
theorem d_MM_rowOf_165 : decode b_MM_rowOf 165 = .ok (.aload_n 0, 1) := by decide +kernel
theorem d_MM_rowOf_166 : decode b_MM_rowOf 166 = .ok (.getfield 42, 3) := by decide +kernel
theorem d_MM_rowOf_169 : decode b_MM_rowOf 169 = .ok (.iload 5, 2) := by decide +kernel
theorem d_MM_rowOf_171 : decode b_MM_rowOf 171 = .ok (.iaload, 1) := by decide +kernel
theorem d_MM_rowOf_172 : decode b_MM_rowOf 172 = .ok (.ishr, 1) := by decide +kernel
theorem d_MM_rowOf_173 : decode b_MM_rowOf 173 = .ok (.iconst 1, 1) := by decide +kernel
theorem d_MM_rowOf_174 : decode b_MM_rowOf 174 = .ok (.iand, 1) := by decide +kernel
theorem d_MM_rowOf_175 : decode b_MM_rowOf 175 = .ok (.iconst 1, 1) := by decide +kernel
theorem d_MM_rowOf_176 : decode b_MM_rowOf 176 = .ok (.if_icmp .eq 29, 3) := by decide +kernel
theorem d_MM_rowOf_179 : decode b_MM_rowOf 179 = .ok (.iload 6, 2) := by decide +kernel
theorem d_MM_rowOf_181 : decode b_MM_rowOf 181 = .ok (.iconst 2, 1) := by decide +kernel
theorem d_MM_rowOf_182 : decode b_MM_rowOf 182 = .ok (.if_icmp .ne 27, 3) := by decide +kernel
theorem d_MM_rowOf_185 : decode b_MM_rowOf 185 = .ok (.iload_n 2, 1) := by decide +kernel
theorem d_MM_rowOf_186 : decode b_MM_rowOf 186 = .ok (.iconst 2, 1) := by decide +kernel
theorem d_MM_rowOf_187 : decode b_MM_rowOf 187 = .ok (.if_icmp .ne 22, 3) := by decide +kernel
theorem d_MM_rowOf_190 : decode b_MM_rowOf 190 = .ok (.iload_n 3, 1) := by decide +kernel
theorem d_MM_rowOf_191 : decode b_MM_rowOf 191 = .ok (.aload_n 0, 1) := by decide +kernel
theorem d_MM_rowOf_192 : decode b_MM_rowOf 192 = .ok (.getfield 42, 3) := by decide +kernel
theorem d_MM_rowOf_195 : decode b_MM_rowOf 195 = .ok (.iload 5, 2) := by decide +kernel
theorem d_MM_rowOf_197 : decode b_MM_rowOf 197 = .ok (.iaload, 1) := by decide +kernel
theorem d_MM_rowOf_198 : decode b_MM_rowOf 198 = .ok (.ishr, 1) := by decide +kernel
theorem d_MM_rowOf_199 : decode b_MM_rowOf 199 = .ok (.iconst 1, 1) := by decide +kernel
theorem d_MM_rowOf_200 : decode b_MM_rowOf 200 = .ok (.iand, 1) := by decide +kernel
theorem d_MM_rowOf_201 : decode b_MM_rowOf 201 = .ok (.iconst 1, 1) := by decide +kernel
theorem d_MM_rowOf_202 : decode b_MM_rowOf 202 = .ok (.if_icmp .ne 7, 3) := by decide +kernel
theorem d_MM_rowOf_205 : decode b_MM_rowOf 205 = .ok (.iconst 1, 1) := by decide +kernel
theorem d_MM_rowOf_206 : decode b_MM_rowOf 206 = .ok (.goto 4, 3) := by decide +kernel
theorem d_MM_rowOf_209 : decode b_MM_rowOf 209 = .ok (.iconst 0, 1) := by decide +kernel
theorem d_MM_rowOf_210 : decode b_MM_rowOf 210 = .ok (.istore 9, 2) := by decide +kernel
theorem d_MM_rowOf_212 : decode b_MM_rowOf 212 = .ok (.iload 9, 2) := by decide +kernel
theorem d_MM_rowOf_214 : decode b_MM_rowOf 214 = .ok (.ifCond .eq 13, 3) := by decide +kernel
theorem d_MM_rowOf_217 : decode b_MM_rowOf 217 = .ok (.iload 4, 2) := by decide +kernel
theorem d_MM_rowOf_219 : decode b_MM_rowOf 219 = .ok (.iconst 1, 1) := by decide +kernel
theorem d_MM_rowOf_220 : decode b_MM_rowOf 220 = .ok (.iload 5, 2) := by decide +kernel
theorem d_MM_rowOf_222 : decode b_MM_rowOf 222 = .ok (.ishl, 1) := by decide +kernel
theorem d_MM_rowOf_223 : decode b_MM_rowOf 223 = .ok (.ior, 1) := by decide +kernel
theorem d_MM_rowOf_224 : decode b_MM_rowOf 224 = .ok (.goto 5, 3) := by decide +kernel
theorem d_MM_rowOf_227 : decode b_MM_rowOf 227 = .ok (.iload 4, 2) := by decide +kernel
theorem d_MM_rowOf_229 : decode b_MM_rowOf 229 = .ok (.istore 4, 2) := by decide +kernel
theorem d_MM_rowOf_231 : decode b_MM_rowOf 231 = .ok (.iinc 5 1, 3) := by decide +kernel
theorem d_MM_rowOf_234 : decode b_MM_rowOf 234 = .ok (.goto (-228), 3) := by decide +kernel
theorem d_MM_rowOf_237 : decode b_MM_rowOf 237 = .ok (.iload 4, 2) := by decide +kernel
theorem d_MM_rowOf_239 : decode b_MM_rowOf 239 = .ok (.ireturn, 1) := by decide +kernel
theorem d_MM_parts_0 : decode b_MM_parts 0 = .ok (.iconst 0, 1) := by decide +kernel
theorem d_MM_parts_1 : decode b_MM_parts 1 = .ok (.istore 5, 2) := by decide +kernel
theorem d_MM_parts_3 : decode b_MM_parts 3 = .ok (.iconst 0, 1) := by decide +kernel
theorem d_MM_parts_4 : decode b_MM_parts 4 = .ok (.istore 6, 2) := by decide +kernel
theorem d_MM_parts_6 : decode b_MM_parts 6 = .ok (.iload 6, 2) := by decide +kernel
theorem d_MM_parts_8 : decode b_MM_parts 8 = .ok (.iload_n 1, 1) := by decide +kernel
theorem d_MM_parts_9 : decode b_MM_parts 9 = .ok (.if_icmp .ge 73, 3) := by decide +kernel
theorem d_MM_parts_12 : decode b_MM_parts 12 = .ok (.iload_n 3, 1) := by decide +kernel
theorem d_MM_parts_13 : decode b_MM_parts 13 = .ok (.ifCond .eq 13, 3) := by decide +kernel
theorem d_MM_parts_16 : decode b_MM_parts 16 = .ok (.aload_n 0, 1) := by decide +kernel
theorem d_MM_parts_17 : decode b_MM_parts 17 = .ok (.getfield 13, 3) := by decide +kernel
theorem d_MM_parts_20 : decode b_MM_parts 20 = .ok (.iload 6, 2) := by decide +kernel
theorem d_MM_parts_22 : decode b_MM_parts 22 = .ok (.iaload, 1) := by decide +kernel
theorem d_MM_parts_23 : decode b_MM_parts 23 = .ok (.goto 10, 3) := by decide +kernel
theorem d_MM_parts_26 : decode b_MM_parts 26 = .ok (.aload_n 0, 1) := by decide +kernel
theorem d_MM_parts_27 : decode b_MM_parts 27 = .ok (.getfield 16, 3) := by decide +kernel
theorem d_MM_parts_30 : decode b_MM_parts 30 = .ok (.iload 6, 2) := by decide +kernel
theorem d_MM_parts_32 : decode b_MM_parts 32 = .ok (.iaload, 1) := by decide +kernel
theorem d_MM_parts_33 : decode b_MM_parts 33 = .ok (.istore 7, 2) := by decide +kernel
theorem d_MM_parts_35 : decode b_MM_parts 35 = .ok (.aload_n 0, 1) := by decide +kernel
theorem d_MM_parts_36 : decode b_MM_parts 36 = .ok (.getfield 7, 3) := by decide +kernel
theorem d_MM_parts_39 : decode b_MM_parts 39 = .ok (.iload 6, 2) := by decide +kernel
theorem d_MM_parts_41 : decode b_MM_parts 41 = .ok (.iaload, 1) := by decide +kernel
theorem d_MM_parts_42 : decode b_MM_parts 42 = .ok (.iload_n 2, 1) := by decide +kernel
theorem d_MM_parts_43 : decode b_MM_parts 43 = .ok (.if_icmp .ne 29, 3) := by decide +kernel
theorem d_MM_parts_46 : decode b_MM_parts 46 = .ok (.iload 4, 2) := by decide +kernel
theorem d_MM_parts_48 : decode b_MM_parts 48 = .ok (.iload 7, 2) := by decide +kernel
theorem d_MM_parts_50 : decode b_MM_parts 50 = .ok (.ishr, 1) := by decide +kernel
theorem d_MM_parts_51 : decode b_MM_parts 51 = .ok (.iconst 1, 1) := by decide +kernel
theorem d_MM_parts_52 : decode b_MM_parts 52 = .ok (.iand, 1) := by decide +kernel
theorem d_MM_parts_53 : decode b_MM_parts 53 = .ok (.iconst 1, 1) := by decide +kernel
theorem d_MM_parts_54 : decode b_MM_parts 54 = .ok (.if_icmp .ne 18, 3) := by decide +kernel
theorem d_MM_parts_57 : decode b_MM_parts 57 = .ok (.iload 5, 2) := by decide +kernel
theorem d_MM_parts_59 : decode b_MM_parts 59 = .ok (.iconst 1, 1) := by decide +kernel
theorem d_MM_parts_60 : decode b_MM_parts 60 = .ok (.aload_n 0, 1) := by decide +kernel
theorem d_MM_parts_61 : decode b_MM_parts 61 = .ok (.getfield 42, 3) := by decide +kernel
theorem d_MM_parts_64 : decode b_MM_parts 64 = .ok (.iload 6, 2) := by decide +kernel
theorem d_MM_parts_66 : decode b_MM_parts 66 = .ok (.iaload, 1) := by decide +kernel
theorem d_MM_parts_67 : decode b_MM_parts 67 = .ok (.ishl, 1) := by decide +kernel
theorem d_MM_parts_68 : decode b_MM_parts 68 = .ok (.ior, 1) := by decide +kernel
theorem d_MM_parts_69 : decode b_MM_parts 69 = .ok (.goto 5, 3) := by decide +kernel
theorem d_MM_parts_72 : decode b_MM_parts 72 = .ok (.iload 5, 2) := by decide +kernel
theorem d_MM_parts_74 : decode b_MM_parts 74 = .ok (.istore 5, 2) := by decide +kernel
theorem d_MM_parts_76 : decode b_MM_parts 76 = .ok (.iinc 6 1, 3) := by decide +kernel
theorem d_MM_parts_79 : decode b_MM_parts 79 = .ok (.goto (-73), 3) := by decide +kernel
theorem d_MM_parts_82 : decode b_MM_parts 82 = .ok (.iload 5, 2) := by decide +kernel
theorem d_MM_parts_84 : decode b_MM_parts 84 = .ok (.ireturn, 1) := by decide +kernel
theorem d_MM_number_0 : decode b_MM_number 0 = .ok (.aload_n 0, 1) := by decide +kernel
theorem d_MM_number_1 : decode b_MM_number 1 = .ok (.iconst 0, 1) := by decide +kernel
theorem d_MM_number_2 : decode b_MM_number 2 = .ok (.putfield 71, 3) := by decide +kernel
theorem d_MM_number_5 : decode b_MM_number 5 = .ok (.aload_n 0, 1) := by decide +kernel
theorem d_MM_number_6 : decode b_MM_number 6 = .ok (.iconst 0, 1) := by decide +kernel
theorem d_MM_number_7 : decode b_MM_number 7 = .ok (.putfield 74, 3) := by decide +kernel
theorem d_MM_number_10 : decode b_MM_number 10 = .ok (.iconst 0, 1) := by decide +kernel
theorem d_MM_number_11 : decode b_MM_number 11 = .ok (.istore_n 2, 1) := by decide +kernel
theorem d_MM_number_12 : decode b_MM_number 12 = .ok (.iload_n 2, 1) := by decide +kernel
theorem d_MM_number_13 : decode b_MM_number 13 = .ok (.iload_n 1, 1) := by decide +kernel
theorem d_MM_number_14 : decode b_MM_number 14 = .ok (.if_icmp .ge 90, 3) := by decide +kernel
theorem d_MM_number_17 : decode b_MM_number 17 = .ok (.aload_n 0, 1) := by decide +kernel
theorem d_MM_number_18 : decode b_MM_number 18 = .ok (.getfield 42, 3) := by decide +kernel
theorem d_MM_number_21 : decode b_MM_number 21 = .ok (.iload_n 2, 1) := by decide +kernel
theorem d_MM_number_22 : decode b_MM_number 22 = .ok (.aload_n 0, 1) := by decide +kernel
theorem d_MM_number_23 : decode b_MM_number 23 = .ok (.getfield 7, 3) := by decide +kernel
theorem d_MM_number_26 : decode b_MM_number 26 = .ok (.iload_n 2, 1) := by decide +kernel
theorem d_MM_number_27 : decode b_MM_number 27 = .ok (.iaload, 1) := by decide +kernel
theorem d_MM_number_28 : decode b_MM_number 28 = .ok (.iconst 1, 1) := by decide +kernel
theorem d_MM_number_29 : decode b_MM_number 29 = .ok (.if_icmp .ne 10, 3) := by decide +kernel
theorem d_MM_number_32 : decode b_MM_number 32 = .ok (.aload_n 0, 1) := by decide +kernel
theorem d_MM_number_33 : decode b_MM_number 33 = .ok (.getfield 71, 3) := by decide +kernel
theorem d_MM_number_36 : decode b_MM_number 36 = .ok (.goto 7, 3) := by decide +kernel
theorem d_MM_number_39 : decode b_MM_number 39 = .ok (.aload_n 0, 1) := by decide +kernel
theorem d_MM_number_40 : decode b_MM_number 40 = .ok (.getfield 74, 3) := by decide +kernel
theorem d_MM_number_43 : decode b_MM_number 43 = .ok (.iastore, 1) := by decide +kernel
theorem d_MM_number_44 : decode b_MM_number 44 = .ok (.aload_n 0, 1) := by decide +kernel
theorem d_MM_number_45 : decode b_MM_number 45 = .ok (.aload_n 0, 1) := by decide +kernel
theorem d_MM_number_46 : decode b_MM_number 46 = .ok (.getfield 7, 3) := by decide +kernel
theorem d_MM_number_49 : decode b_MM_number 49 = .ok (.iload_n 2, 1) := by decide +kernel
theorem d_MM_number_50 : decode b_MM_number 50 = .ok (.iaload, 1) := by decide +kernel
theorem d_MM_number_51 : decode b_MM_number 51 = .ok (.iconst 1, 1) := by decide +kernel
theorem d_MM_number_52 : decode b_MM_number 52 = .ok (.if_icmp .ne 12, 3) := by decide +kernel
theorem d_MM_number_55 : decode b_MM_number 55 = .ok (.aload_n 0, 1) := by decide +kernel
theorem d_MM_number_56 : decode b_MM_number 56 = .ok (.getfield 71, 3) := by decide +kernel
theorem d_MM_number_59 : decode b_MM_number 59 = .ok (.iconst 1, 1) := by decide +kernel
theorem d_MM_number_60 : decode b_MM_number 60 = .ok (.iadd, 1) := by decide +kernel
theorem d_MM_number_61 : decode b_MM_number 61 = .ok (.goto 7, 3) := by decide +kernel
theorem d_MM_number_64 : decode b_MM_number 64 = .ok (.aload_n 0, 1) := by decide +kernel
theorem d_MM_number_65 : decode b_MM_number 65 = .ok (.getfield 71, 3) := by decide +kernel
theorem d_MM_number_68 : decode b_MM_number 68 = .ok (.putfield 71, 3) := by decide +kernel
theorem d_MM_number_71 : decode b_MM_number 71 = .ok (.aload_n 0, 1) := by decide +kernel
theorem d_MM_number_72 : decode b_MM_number 72 = .ok (.aload_n 0, 1) := by decide +kernel
theorem d_MM_number_73 : decode b_MM_number 73 = .ok (.getfield 7, 3) := by decide +kernel
theorem d_MM_number_76 : decode b_MM_number 76 = .ok (.iload_n 2, 1) := by decide +kernel
theorem d_MM_number_77 : decode b_MM_number 77 = .ok (.iaload, 1) := by decide +kernel
theorem d_MM_number_78 : decode b_MM_number 78 = .ok (.iconst 2, 1) := by decide +kernel
theorem d_MM_number_79 : decode b_MM_number 79 = .ok (.if_icmp .ne 12, 3) := by decide +kernel
theorem d_MM_number_82 : decode b_MM_number 82 = .ok (.aload_n 0, 1) := by decide +kernel
theorem d_MM_number_83 : decode b_MM_number 83 = .ok (.getfield 74, 3) := by decide +kernel
theorem d_MM_number_86 : decode b_MM_number 86 = .ok (.iconst 1, 1) := by decide +kernel
theorem d_MM_number_87 : decode b_MM_number 87 = .ok (.iadd, 1) := by decide +kernel
theorem d_MM_number_88 : decode b_MM_number 88 = .ok (.goto 7, 3) := by decide +kernel
theorem d_MM_number_91 : decode b_MM_number 91 = .ok (.aload_n 0, 1) := by decide +kernel
theorem d_MM_number_92 : decode b_MM_number 92 = .ok (.getfield 74, 3) := by decide +kernel
theorem d_MM_number_95 : decode b_MM_number 95 = .ok (.putfield 74, 3) := by decide +kernel
theorem d_MM_number_98 : decode b_MM_number 98 = .ok (.iinc 2 1, 3) := by decide +kernel
theorem d_MM_number_101 : decode b_MM_number 101 = .ok (.goto (-89), 3) := by decide +kernel
theorem d_MM_number_104 : decode b_MM_number 104 = .ok (.return_, 1) := by decide +kernel
theorem d_MM_collect_0 : decode b_MM_collect 0 = .ok (.aload_n 0, 1) := by decide +kernel
theorem d_MM_collect_1 : decode b_MM_collect 1 = .ok (.iconst 0, 1) := by decide +kernel
theorem d_MM_collect_2 : decode b_MM_collect 2 = .ok (.invokevirtual 77, 3) := by decide +kernel
theorem d_MM_collect_5 : decode b_MM_collect 5 = .ok (.aload_n 0, 1) := by decide +kernel
theorem d_MM_collect_6 : decode b_MM_collect 6 = .ok (.sipush 384, 3) := by decide +kernel
theorem d_MM_collect_9 : decode b_MM_collect 9 = .ok (.invokevirtual 77, 3) := by decide +kernel
theorem d_MM_collect_12 : decode b_MM_collect 12 = .ok (.aload_n 0, 1) := by decide +kernel
theorem d_MM_collect_13 : decode b_MM_collect 13 = .ok (.sipush 512, 3) := by decide +kernel
theorem d_MM_collect_16 : decode b_MM_collect 16 = .ok (.invokevirtual 77, 3) := by decide +kernel
theorem d_MM_collect_19 : decode b_MM_collect 19 = .ok (.aload_n 0, 1) := by decide +kernel
theorem d_MM_collect_20 : decode b_MM_collect 20 = .ok (.sipush 640, 3) := by decide +kernel
theorem d_MM_collect_23 : decode b_MM_collect 23 = .ok (.invokevirtual 77, 3) := by decide +kernel
theorem d_MM_collect_26 : decode b_MM_collect 26 = .ok (.aload_n 0, 1) := by decide +kernel
theorem d_MM_collect_27 : decode b_MM_collect 27 = .ok (.sipush 768, 3) := by decide +kernel
theorem d_MM_collect_30 : decode b_MM_collect 30 = .ok (.invokevirtual 77, 3) := by decide +kernel
theorem d_MM_collect_33 : decode b_MM_collect 33 = .ok (.iconst 0, 1) := by decide +kernel
theorem d_MM_collect_34 : decode b_MM_collect 34 = .ok (.istore_n 2, 1) := by decide +kernel
theorem d_MM_collect_35 : decode b_MM_collect 35 = .ok (.iload_n 2, 1) := by decide +kernel
theorem d_MM_collect_36 : decode b_MM_collect 36 = .ok (.bipush 6, 2) := by decide +kernel
theorem d_MM_collect_38 : decode b_MM_collect 38 = .ok (.if_icmp .ge 21, 3) := by decide +kernel
theorem d_MM_collect_41 : decode b_MM_collect 41 = .ok (.aload_n 0, 1) := by decide +kernel
theorem d_MM_collect_42 : decode b_MM_collect 42 = .ok (.iload_n 1, 1) := by decide +kernel
theorem d_MM_collect_43 : decode b_MM_collect 43 = .ok (.aload_n 0, 1) := by decide +kernel
theorem d_MM_collect_44 : decode b_MM_collect 44 = .ok (.iload_n 1, 1) := by decide +kernel
theorem d_MM_collect_45 : decode b_MM_collect 45 = .ok (.iconst 0, 1) := by decide +kernel
theorem d_MM_collect_46 : decode b_MM_collect 46 = .ok (.iload_n 2, 1) := by decide +kernel
theorem d_MM_collect_47 : decode b_MM_collect 47 = .ok (.invokevirtual 81, 3) := by decide +kernel
theorem d_MM_collect_50 : decode b_MM_collect 50 = .ok (.invokevirtual 85, 3) := by decide +kernel
theorem d_MM_collect_53 : decode b_MM_collect 53 = .ok (.iinc 2 1, 3) := by decide +kernel
theorem d_MM_collect_56 : decode b_MM_collect 56 = .ok (.goto (-21), 3) := by decide +kernel
theorem d_MM_collect_59 : decode b_MM_collect 59 = .ok (.iconst 0, 1) := by decide +kernel
theorem d_MM_collect_60 : decode b_MM_collect 60 = .ok (.istore_n 2, 1) := by decide +kernel
theorem d_MM_collect_61 : decode b_MM_collect 61 = .ok (.iload_n 2, 1) := by decide +kernel
theorem d_MM_collect_62 : decode b_MM_collect 62 = .ok (.iconst 1, 1) := by decide +kernel
theorem d_MM_collect_63 : decode b_MM_collect 63 = .ok (.aload_n 0, 1) := by decide +kernel
theorem d_MM_collect_64 : decode b_MM_collect 64 = .ok (.getfield 71, 3) := by decide +kernel
theorem d_MM_collect_67 : decode b_MM_collect 67 = .ok (.ishl, 1) := by decide +kernel
theorem d_MM_collect_68 : decode b_MM_collect 68 = .ok (.if_icmp .ge 32, 3) := by decide +kernel
theorem d_MM_collect_71 : decode b_MM_collect 71 = .ok (.aload_n 0, 1) := by decide +kernel
theorem d_MM_collect_72 : decode b_MM_collect 72 = .ok (.sipush 128, 3) := by decide +kernel
theorem d_MM_collect_75 : decode b_MM_collect 75 = .ok (.iload_n 2, 1) := by decide +kernel
theorem d_MM_collect_76 : decode b_MM_collect 76 = .ok (.invokevirtual 45, 3) := by decide +kernel
theorem d_MM_collect_79 : decode b_MM_collect 79 = .ok (.ifCond .eq 15, 3) := by decide +kernel
theorem d_MM_collect_82 : decode b_MM_collect 82 = .ok (.aload_n 0, 1) := by decide +kernel
theorem d_MM_collect_83 : decode b_MM_collect 83 = .ok (.iload_n 1, 1) := by decide +kernel
theorem d_MM_collect_84 : decode b_MM_collect 84 = .ok (.aload_n 0, 1) := by decide +kernel
theorem d_MM_collect_85 : decode b_MM_collect 85 = .ok (.iload_n 1, 1) := by decide +kernel
theorem d_MM_collect_86 : decode b_MM_collect 86 = .ok (.iconst 1, 1) := by decide +kernel
theorem d_MM_collect_87 : decode b_MM_collect 87 = .ok (.iload_n 2, 1) := by decide +kernel
theorem d_MM_collect_88 : decode b_MM_collect 88 = .ok (.invokevirtual 81, 3) := by decide +kernel
theorem d_MM_collect_91 : decode b_MM_collect 91 = .ok (.invokevirtual 85, 3) := by decide +kernel
theorem d_MM_collect_94 : decode b_MM_collect 94 = .ok (.iinc 2 1, 3) := by decide +kernel
theorem d_MM_collect_97 : decode b_MM_collect 97 = .ok (.goto (-36), 3) := by decide +kernel
theorem d_MM_collect_100 : decode b_MM_collect 100 = .ok (.iconst 0, 1) := by decide +kernel
theorem d_MM_collect_101 : decode b_MM_collect 101 = .ok (.istore_n 2, 1) := by decide +kernel
theorem d_MM_collect_102 : decode b_MM_collect 102 = .ok (.iload_n 2, 1) := by decide +kernel
theorem d_MM_collect_103 : decode b_MM_collect 103 = .ok (.iconst 1, 1) := by decide +kernel
theorem d_MM_collect_104 : decode b_MM_collect 104 = .ok (.aload_n 0, 1) := by decide +kernel
theorem d_MM_collect_105 : decode b_MM_collect 105 = .ok (.getfield 74, 3) := by decide +kernel
theorem d_MM_collect_108 : decode b_MM_collect 108 = .ok (.ishl, 1) := by decide +kernel
theorem d_MM_collect_109 : decode b_MM_collect 109 = .ok (.if_icmp .ge 41, 3) := by decide +kernel
theorem d_MM_collect_112 : decode b_MM_collect 112 = .ok (.aload_n 0, 1) := by decide +kernel
theorem d_MM_collect_113 : decode b_MM_collect 113 = .ok (.sipush 256, 3) := by decide +kernel
theorem d_MM_collect_116 : decode b_MM_collect 116 = .ok (.iload_n 2, 1) := by decide +kernel
theorem d_MM_collect_117 : decode b_MM_collect 117 = .ok (.invokevirtual 45, 3) := by decide +kernel
theorem d_MM_collect_120 : decode b_MM_collect 120 = .ok (.ifCond .eq 24, 3) := by decide +kernel
theorem d_MM_collect_123 : decode b_MM_collect 123 = .ok (.aload_n 0, 1) := by decide +kernel
theorem d_MM_collect_124 : decode b_MM_collect 124 = .ok (.iload_n 1, 1) := by decide +kernel
theorem d_MM_collect_125 : decode b_MM_collect 125 = .ok (.aload_n 0, 1) := by decide +kernel
theorem d_MM_collect_126 : decode b_MM_collect 126 = .ok (.iload_n 1, 1) := by decide +kernel
theorem d_MM_collect_127 : decode b_MM_collect 127 = .ok (.iconst 2, 1) := by decide +kernel
theorem d_MM_collect_128 : decode b_MM_collect 128 = .ok (.iconst 1, 1) := by decide +kernel
theorem d_MM_collect_129 : decode b_MM_collect 129 = .ok (.aload_n 0, 1) := by decide +kernel
theorem d_MM_collect_130 : decode b_MM_collect 130 = .ok (.getfield 74, 3) := by decide +kernel
theorem d_MM_collect_133 : decode b_MM_collect 133 = .ok (.ishl, 1) := by decide +kernel
theorem d_MM_collect_134 : decode b_MM_collect 134 = .ok (.iconst 1, 1) := by decide +kernel
theorem d_MM_collect_135 : decode b_MM_collect 135 = .ok (.isub, 1) := by decide +kernel
theorem d_MM_collect_136 : decode b_MM_collect 136 = .ok (.iload_n 2, 1) := by decide +kernel
theorem d_MM_collect_137 : decode b_MM_collect 137 = .ok (.isub, 1) := by decide +kernel
theorem d_MM_collect_138 : decode b_MM_collect 138 = .ok (.invokevirtual 81, 3) := by decide +kernel
theorem d_MM_collect_141 : decode b_MM_collect 141 = .ok (.invokevirtual 85, 3) := by decide +kernel
theorem d_MM_collect_144 : decode b_MM_collect 144 = .ok (.iinc 2 1, 3) := by decide +kernel
theorem d_MM_collect_147 : decode b_MM_collect 147 = .ok (.goto (-45), 3) := by decide +kernel
theorem d_MM_collect_150 : decode b_MM_collect 150 = .ok (.aload_n 0, 1) := by decide +kernel
theorem d_MM_collect_151 : decode b_MM_collect 151 = .ok (.sipush 768, 3) := by decide +kernel
theorem d_MM_collect_154 : decode b_MM_collect 154 = .ok (.iconst 0, 1) := by decide +kernel
theorem d_MM_collect_155 : decode b_MM_collect 155 = .ok (.invokevirtual 89, 3) := by decide +kernel
theorem d_MM_collect_158 : decode b_MM_collect 158 = .ok (.pop, 1) := by decide +kernel
theorem d_MM_collect_159 : decode b_MM_collect 159 = .ok (.return_, 1) := by decide +kernel
theorem d_MM_enter_0 : decode b_MM_enter 0 = .ok (.aload_n 0, 1) := by decide +kernel
theorem d_MM_enter_1 : decode b_MM_enter 1 = .ok (.iconst 0, 1) := by decide +kernel
theorem d_MM_enter_2 : decode b_MM_enter 2 = .ok (.iload_n 2, 1) := by decide +kernel
theorem d_MM_enter_3 : decode b_MM_enter 3 = .ok (.invokevirtual 89, 3) := by decide +kernel
theorem d_MM_enter_6 : decode b_MM_enter 6 = .ok (.ifCond .ne 4, 3) := by decide +kernel
theorem d_MM_enter_9 : decode b_MM_enter 9 = .ok (.return_, 1) := by decide +kernel
theorem d_MM_enter_10 : decode b_MM_enter 10 = .ok (.aload_n 0, 1) := by decide +kernel
theorem d_MM_enter_11 : decode b_MM_enter 11 = .ok (.sipush 384, 3) := by decide +kernel
theorem d_MM_enter_14 : decode b_MM_enter 14 = .ok (.aload_n 0, 1) := by decide +kernel
theorem d_MM_enter_15 : decode b_MM_enter 15 = .ok (.iload_n 1, 1) := by decide +kernel
theorem d_MM_enter_16 : decode b_MM_enter 16 = .ok (.iconst 1, 1) := by decide +kernel
theorem d_MM_enter_17 : decode b_MM_enter 17 = .ok (.iconst 1, 1) := by decide +kernel
theorem d_MM_enter_18 : decode b_MM_enter 18 = .ok (.iload_n 2, 1) := by decide +kernel
theorem d_MM_enter_19 : decode b_MM_enter 19 = .ok (.invokevirtual 92, 3) := by decide +kernel
theorem d_MM_enter_22 : decode b_MM_enter 22 = .ok (.invokevirtual 89, 3) := by decide +kernel
theorem d_MM_enter_25 : decode b_MM_enter 25 = .ok (.pop, 1) := by decide +kernel
theorem d_MM_enter_26 : decode b_MM_enter 26 = .ok (.aload_n 0, 1) := by decide +kernel
theorem d_MM_enter_27 : decode b_MM_enter 27 = .ok (.sipush 512, 3) := by decide +kernel
theorem d_MM_enter_30 : decode b_MM_enter 30 = .ok (.aload_n 0, 1) := by decide +kernel
theorem d_MM_enter_31 : decode b_MM_enter 31 = .ok (.iload_n 1, 1) := by decide +kernel
theorem d_MM_enter_32 : decode b_MM_enter 32 = .ok (.iconst 1, 1) := by decide +kernel
theorem d_MM_enter_33 : decode b_MM_enter 33 = .ok (.iconst 0, 1) := by decide +kernel
theorem d_MM_enter_34 : decode b_MM_enter 34 = .ok (.iload_n 2, 1) := by decide +kernel
theorem d_MM_enter_35 : decode b_MM_enter 35 = .ok (.invokevirtual 92, 3) := by decide +kernel
theorem d_MM_enter_38 : decode b_MM_enter 38 = .ok (.invokevirtual 89, 3) := by decide +kernel
theorem d_MM_enter_41 : decode b_MM_enter 41 = .ok (.pop, 1) := by decide +kernel
theorem d_MM_enter_42 : decode b_MM_enter 42 = .ok (.aload_n 0, 1) := by decide +kernel
theorem d_MM_enter_43 : decode b_MM_enter 43 = .ok (.sipush 640, 3) := by decide +kernel
theorem d_MM_enter_46 : decode b_MM_enter 46 = .ok (.aload_n 0, 1) := by decide +kernel
theorem d_MM_enter_47 : decode b_MM_enter 47 = .ok (.iload_n 1, 1) := by decide +kernel
theorem d_MM_enter_48 : decode b_MM_enter 48 = .ok (.iconst 2, 1) := by decide +kernel
theorem d_MM_enter_49 : decode b_MM_enter 49 = .ok (.iconst 1, 1) := by decide +kernel
theorem d_MM_enter_50 : decode b_MM_enter 50 = .ok (.iload_n 2, 1) := by decide +kernel
theorem d_MM_enter_51 : decode b_MM_enter 51 = .ok (.invokevirtual 92, 3) := by decide +kernel
theorem d_MM_enter_54 : decode b_MM_enter 54 = .ok (.invokevirtual 89, 3) := by decide +kernel
theorem d_MM_enter_57 : decode b_MM_enter 57 = .ok (.pop, 1) := by decide +kernel
theorem d_MM_enter_58 : decode b_MM_enter 58 = .ok (.aload_n 0, 1) := by decide +kernel
theorem d_MM_enter_59 : decode b_MM_enter 59 = .ok (.sipush 768, 3) := by decide +kernel
theorem d_MM_enter_62 : decode b_MM_enter 62 = .ok (.aload_n 0, 1) := by decide +kernel
theorem d_MM_enter_63 : decode b_MM_enter 63 = .ok (.iload_n 1, 1) := by decide +kernel
theorem d_MM_enter_64 : decode b_MM_enter 64 = .ok (.iconst 2, 1) := by decide +kernel
theorem d_MM_enter_65 : decode b_MM_enter 65 = .ok (.iconst 0, 1) := by decide +kernel
theorem d_MM_enter_66 : decode b_MM_enter 66 = .ok (.iload_n 2, 1) := by decide +kernel
theorem d_MM_enter_67 : decode b_MM_enter 67 = .ok (.invokevirtual 92, 3) := by decide +kernel
theorem d_MM_enter_70 : decode b_MM_enter 70 = .ok (.invokevirtual 89, 3) := by decide +kernel
theorem d_MM_enter_73 : decode b_MM_enter 73 = .ok (.pop, 1) := by decide +kernel
theorem d_MM_enter_74 : decode b_MM_enter 74 = .ok (.return_, 1) := by decide +kernel
theorem d_MM_makePairs_0 : decode b_MM_makePairs 0 = .ok (.iconst 0, 1) := by decide +kernel
theorem d_MM_makePairs_1 : decode b_MM_makePairs 1 = .ok (.istore_n 1, 1) := by decide +kernel
theorem d_MM_makePairs_2 : decode b_MM_makePairs 2 = .ok (.iconst 0, 1) := by decide +kernel
theorem d_MM_makePairs_3 : decode b_MM_makePairs 3 = .ok (.istore_n 2, 1) := by decide +kernel
theorem d_MM_makePairs_4 : decode b_MM_makePairs 4 = .ok (.iload_n 2, 1) := by decide +kernel
theorem d_MM_makePairs_5 : decode b_MM_makePairs 5 = .ok (.iconst 1, 1) := by decide +kernel
theorem d_MM_makePairs_6 : decode b_MM_makePairs 6 = .ok (.aload_n 0, 1) := by decide +kernel
theorem d_MM_makePairs_7 : decode b_MM_makePairs 7 = .ok (.getfield 71, 3) := by decide +kernel
theorem d_MM_makePairs_10 : decode b_MM_makePairs 10 = .ok (.ishl, 1) := by decide +kernel
theorem d_MM_makePairs_11 : decode b_MM_makePairs 11 = .ok (.if_icmp .ge 72, 3) := by decide +kernel
theorem d_MM_makePairs_14 : decode b_MM_makePairs 14 = .ok (.iconst 0, 1) := by decide +kernel
theorem d_MM_makePairs_15 : decode b_MM_makePairs 15 = .ok (.istore_n 3, 1) := by decide +kernel
theorem d_MM_makePairs_16 : decode b_MM_makePairs 16 = .ok (.iload_n 3, 1) := by decide +kernel
theorem d_MM_makePairs_17 : decode b_MM_makePairs 17 = .ok (.iconst 1, 1) := by decide +kernel
theorem d_MM_makePairs_18 : decode b_MM_makePairs 18 = .ok (.aload_n 0, 1) := by decide +kernel
theorem d_MM_makePairs_19 : decode b_MM_makePairs 19 = .ok (.getfield 71, 3) := by decide +kernel
theorem d_MM_makePairs_22 : decode b_MM_makePairs 22 = .ok (.ishl, 1) := by decide +kernel
theorem d_MM_makePairs_23 : decode b_MM_makePairs 23 = .ok (.if_icmp .ge 54, 3) := by decide +kernel
theorem d_MM_makePairs_26 : decode b_MM_makePairs 26 = .ok (.aload_n 0, 1) := by decide +kernel
theorem d_MM_makePairs_27 : decode b_MM_makePairs 27 = .ok (.sipush 384, 3) := by decide +kernel
theorem d_MM_makePairs_30 : decode b_MM_makePairs 30 = .ok (.iload_n 2, 1) := by decide +kernel
theorem d_MM_makePairs_31 : decode b_MM_makePairs 31 = .ok (.invokevirtual 45, 3) := by decide +kernel
theorem d_MM_makePairs_34 : decode b_MM_makePairs 34 = .ok (.ifCond .eq 43, 3) := by decide +kernel
theorem d_MM_makePairs_37 : decode b_MM_makePairs 37 = .ok (.aload_n 0, 1) := by decide +kernel
theorem d_MM_makePairs_38 : decode b_MM_makePairs 38 = .ok (.sipush 512, 3) := by decide +kernel
theorem d_MM_makePairs_41 : decode b_MM_makePairs 41 = .ok (.iload_n 3, 1) := by decide +kernel
theorem d_MM_makePairs_42 : decode b_MM_makePairs 42 = .ok (.invokevirtual 45, 3) := by decide +kernel
theorem d_MM_makePairs_45 : decode b_MM_makePairs 45 = .ok (.ifCond .eq 26, 3) := by decide +kernel
theorem d_MM_makePairs_48 : decode b_MM_makePairs 48 = .ok (.aload_n 0, 1) := by decide +kernel
theorem d_MM_makePairs_49 : decode b_MM_makePairs 49 = .ok (.sipush 128, 3) := by decide +kernel
theorem d_MM_makePairs_52 : decode b_MM_makePairs 52 = .ok (.iload_n 2, 1) := by decide +kernel
theorem d_MM_makePairs_53 : decode b_MM_makePairs 53 = .ok (.iload_n 3, 1) := by decide +kernel
theorem d_MM_makePairs_54 : decode b_MM_makePairs 54 = .ok (.iand, 1) := by decide +kernel
theorem d_MM_makePairs_55 : decode b_MM_makePairs 55 = .ok (.invokevirtual 89, 3) := by decide +kernel
theorem d_MM_makePairs_58 : decode b_MM_makePairs 58 = .ok (.ifCond .ne 7, 3) := by decide +kernel
theorem d_MM_makePairs_61 : decode b_MM_makePairs 61 = .ok (.iload_n 1, 1) := by decide +kernel
theorem d_MM_makePairs_62 : decode b_MM_makePairs 62 = .ok (.ifCond .eq 7, 3) := by decide +kernel
theorem d_MM_makePairs_65 : decode b_MM_makePairs 65 = .ok (.iconst 1, 1) := by decide +kernel
theorem d_MM_makePairs_66 : decode b_MM_makePairs 66 = .ok (.goto 4, 3) := by decide +kernel
theorem d_MM_makePairs_69 : decode b_MM_makePairs 69 = .ok (.iconst 0, 1) := by decide +kernel
theorem d_MM_makePairs_70 : decode b_MM_makePairs 70 = .ok (.istore_n 1, 1) := by decide +kernel
theorem d_MM_makePairs_71 : decode b_MM_makePairs 71 = .ok (.iinc 3 1, 3) := by decide +kernel
theorem d_MM_makePairs_74 : decode b_MM_makePairs 74 = .ok (.goto (-58), 3) := by decide +kernel
theorem d_MM_makePairs_77 : decode b_MM_makePairs 77 = .ok (.iinc 2 1, 3) := by decide +kernel
theorem d_MM_makePairs_80 : decode b_MM_makePairs 80 = .ok (.goto (-76), 3) := by decide +kernel
theorem d_MM_makePairs_83 : decode b_MM_makePairs 83 = .ok (.iload_n 1, 1) := by decide +kernel
theorem d_MM_makePairs_84 : decode b_MM_makePairs 84 = .ok (.ireturn, 1) := by decide +kernel
theorem d_MM_makeFunctions_0 : decode b_MM_makeFunctions 0 = .ok (.iconst 0, 1) := by decide +kernel
theorem d_MM_makeFunctions_1 : decode b_MM_makeFunctions 1 = .ok (.istore_n 1, 1) := by decide +kernel
theorem d_MM_makeFunctions_2 : decode b_MM_makeFunctions 2 = .ok (.iconst 0, 1) := by decide +kernel
theorem d_MM_makeFunctions_3 : decode b_MM_makeFunctions 3 = .ok (.istore_n 2, 1) := by decide +kernel
theorem d_MM_makeFunctions_4 : decode b_MM_makeFunctions 4 = .ok (.iload_n 2, 1) := by decide +kernel
theorem d_MM_makeFunctions_5 : decode b_MM_makeFunctions 5 = .ok (.iconst 1, 1) := by decide +kernel
theorem d_MM_makeFunctions_6 : decode b_MM_makeFunctions 6 = .ok (.aload_n 0, 1) := by decide +kernel
theorem d_MM_makeFunctions_7 : decode b_MM_makeFunctions 7 = .ok (.getfield 74, 3) := by decide +kernel
theorem d_MM_makeFunctions_10 : decode b_MM_makeFunctions 10 = .ok (.ishl, 1) := by decide +kernel
theorem d_MM_makeFunctions_11 : decode b_MM_makeFunctions 11 = .ok (.if_icmp .ge 71, 3) := by decide +kernel
theorem d_MM_makeFunctions_14 : decode b_MM_makeFunctions 14 = .ok (.iconst 0, 1) := by decide +kernel
theorem d_MM_makeFunctions_15 : decode b_MM_makeFunctions 15 = .ok (.istore_n 3, 1) := by decide +kernel
theorem d_MM_makeFunctions_16 : decode b_MM_makeFunctions 16 = .ok (.iload_n 3, 1) := by decide +kernel
theorem d_MM_makeFunctions_17 : decode b_MM_makeFunctions 17 = .ok (.iconst 1, 1) := by decide +kernel
theorem d_MM_makeFunctions_18 : decode b_MM_makeFunctions 18 = .ok (.aload_n 0, 1) := by decide +kernel
theorem d_MM_makeFunctions_19 : decode b_MM_makeFunctions 19 = .ok (.getfield 74, 3) := by decide +kernel
theorem d_MM_makeFunctions_22 : decode b_MM_makeFunctions 22 = .ok (.ishl, 1) := by decide +kernel
theorem d_MM_makeFunctions_23 : decode b_MM_makeFunctions 23 = .ok (.if_icmp .ge 53, 3) := by decide +kernel
theorem d_MM_makeFunctions_26 : decode b_MM_makeFunctions 26 = .ok (.aload_n 0, 1) := by decide +kernel
theorem d_MM_makeFunctions_27 : decode b_MM_makeFunctions 27 = .ok (.sipush 640, 3) := by decide +kernel
theorem d_MM_makeFunctions_30 : decode b_MM_makeFunctions 30 = .ok (.iload_n 2, 1) := by decide +kernel
theorem d_MM_makeFunctions_31 : decode b_MM_makeFunctions 31 = .ok (.invokevirtual 45, 3) := by decide +kernel
theorem d_MM_makeFunctions_34 : decode b_MM_makeFunctions 34 = .ok (.ifCond .eq 42, 3) := by decide +kernel
theorem d_MM_makeFunctions_37 : decode b_MM_makeFunctions 37 = .ok (.aload_n 0, 1) := by decide +kernel
theorem d_MM_makeFunctions_38 : decode b_MM_makeFunctions 38 = .ok (.sipush 768, 3) := by decide +kernel
theorem d_MM_makeFunctions_41 : decode b_MM_makeFunctions 41 = .ok (.iload_n 3, 1) := by decide +kernel
theorem d_MM_makeFunctions_42 : decode b_MM_makeFunctions 42 = .ok (.invokevirtual 45, 3) := by decide +kernel
theorem d_MM_makeFunctions_45 : decode b_MM_makeFunctions 45 = .ok (.ifCond .eq 25, 3) := by decide +kernel
theorem d_MM_makeFunctions_48 : decode b_MM_makeFunctions 48 = .ok (.aload_n 0, 1) := by decide +kernel
theorem d_MM_makeFunctions_49 : decode b_MM_makeFunctions 49 = .ok (.iload_n 2, 1) := by decide +kernel
theorem d_MM_makeFunctions_50 : decode b_MM_makeFunctions 50 = .ok (.iload_n 3, 1) := by decide +kernel
theorem d_MM_makeFunctions_51 : decode b_MM_makeFunctions 51 = .ok (.iconst (-1), 1) := by decide +kernel
theorem d_MM_makeFunctions_52 : decode b_MM_makeFunctions 52 = .ok (.ixor, 1) := by decide +kernel
theorem d_MM_makeFunctions_53 : decode b_MM_makeFunctions 53 = .ok (.iand, 1) := by decide +kernel
theorem d_MM_makeFunctions_54 : decode b_MM_makeFunctions 54 = .ok (.invokevirtual 96, 3) := by decide +kernel
theorem d_MM_makeFunctions_57 : decode b_MM_makeFunctions 57 = .ok (.ifCond .ne 7, 3) := by decide +kernel
theorem d_MM_makeFunctions_60 : decode b_MM_makeFunctions 60 = .ok (.iload_n 1, 1) := by decide +kernel
theorem d_MM_makeFunctions_61 : decode b_MM_makeFunctions 61 = .ok (.ifCond .eq 7, 3) := by decide +kernel
theorem d_MM_makeFunctions_64 : decode b_MM_makeFunctions 64 = .ok (.iconst 1, 1) := by decide +kernel
theorem d_MM_makeFunctions_65 : decode b_MM_makeFunctions 65 = .ok (.goto 4, 3) := by decide +kernel
theorem d_MM_makeFunctions_68 : decode b_MM_makeFunctions 68 = .ok (.iconst 0, 1) := by decide +kernel
theorem d_MM_makeFunctions_69 : decode b_MM_makeFunctions 69 = .ok (.istore_n 1, 1) := by decide +kernel
theorem d_MM_makeFunctions_70 : decode b_MM_makeFunctions 70 = .ok (.iinc 3 1, 3) := by decide +kernel
theorem d_MM_makeFunctions_73 : decode b_MM_makeFunctions 73 = .ok (.goto (-57), 3) := by decide +kernel
theorem d_MM_makeFunctions_76 : decode b_MM_makeFunctions 76 = .ok (.iinc 2 1, 3) := by decide +kernel
theorem d_MM_makeFunctions_79 : decode b_MM_makeFunctions 79 = .ok (.goto (-75), 3) := by decide +kernel
theorem d_MM_makeFunctions_82 : decode b_MM_makeFunctions 82 = .ok (.iload_n 1, 1) := by decide +kernel
theorem d_MM_makeFunctions_83 : decode b_MM_makeFunctions 83 = .ok (.ireturn, 1) := by decide +kernel
theorem d_MM_addStep_0 : decode b_MM_addStep 0 = .ok (.aload_n 0, 1) := by decide +kernel
theorem d_MM_addStep_1 : decode b_MM_addStep 1 = .ok (.sipush 256, 3) := by decide +kernel
theorem d_MM_addStep_4 : decode b_MM_addStep 4 = .ok (.iload_n 1, 1) := by decide +kernel
theorem d_MM_addStep_5 : decode b_MM_addStep 5 = .ok (.invokevirtual 45, 3) := by decide +kernel
theorem d_MM_addStep_8 : decode b_MM_addStep 8 = .ok (.ifCond .eq 5, 3) := by decide +kernel
theorem d_MM_addStep_11 : decode b_MM_addStep 11 = .ok (.iconst 0, 1) := by decide +kernel
theorem d_MM_addStep_12 : decode b_MM_addStep 12 = .ok (.ireturn, 1) := by decide +kernel
theorem d_MM_addStep_13 : decode b_MM_addStep 13 = .ok (.iconst 1, 1) := by decide +kernel
theorem d_MM_addStep_14 : decode b_MM_addStep 14 = .ok (.aload_n 0, 1) := by decide +kernel
theorem d_MM_addStep_15 : decode b_MM_addStep 15 = .ok (.getfield 74, 3) := by decide +kernel
theorem d_MM_addStep_18 : decode b_MM_addStep 18 = .ok (.ishl, 1) := by decide +kernel
theorem d_MM_addStep_19 : decode b_MM_addStep 19 = .ok (.iconst 1, 1) := by decide +kernel
theorem d_MM_addStep_20 : decode b_MM_addStep 20 = .ok (.isub, 1) := by decide +kernel
theorem d_MM_addStep_21 : decode b_MM_addStep 21 = .ok (.istore_n 2, 1) := by decide +kernel
theorem d_MM_addStep_22 : decode b_MM_addStep 22 = .ok (.iload_n 2, 1) := by decide +kernel
theorem d_MM_addStep_23 : decode b_MM_addStep 23 = .ok (.ifCond .lt 31, 3) := by decide +kernel
theorem d_MM_addStep_26 : decode b_MM_addStep 26 = .ok (.aload_n 0, 1) := by decide +kernel
theorem d_MM_addStep_27 : decode b_MM_addStep 27 = .ok (.sipush 256, 3) := by decide +kernel
theorem d_MM_addStep_30 : decode b_MM_addStep 30 = .ok (.iload_n 2, 1) := by decide +kernel
theorem d_MM_addStep_31 : decode b_MM_addStep 31 = .ok (.invokevirtual 45, 3) := by decide +kernel
theorem d_MM_addStep_34 : decode b_MM_addStep 34 = .ok (.ifCond .eq 14, 3) := by decide +kernel
theorem d_MM_addStep_37 : decode b_MM_addStep 37 = .ok (.aload_n 0, 1) := by decide +kernel
theorem d_MM_addStep_38 : decode b_MM_addStep 38 = .ok (.sipush 256, 3) := by decide +kernel
theorem d_MM_addStep_41 : decode b_MM_addStep 41 = .ok (.iload_n 2, 1) := by decide +kernel
theorem d_MM_addStep_42 : decode b_MM_addStep 42 = .ok (.iload_n 1, 1) := by decide +kernel
theorem d_MM_addStep_43 : decode b_MM_addStep 43 = .ok (.ior, 1) := by decide +kernel
theorem d_MM_addStep_44 : decode b_MM_addStep 44 = .ok (.invokevirtual 89, 3) := by decide +kernel
theorem d_MM_addStep_47 : decode b_MM_addStep 47 = .ok (.pop, 1) := by decide +kernel
theorem d_MM_addStep_48 : decode b_MM_addStep 48 = .ok (.iinc 2 (-1), 3) := by decide +kernel
theorem d_MM_addStep_51 : decode b_MM_addStep 51 = .ok (.goto (-29), 3) := by decide +kernel
theorem d_MM_addStep_54 : decode b_MM_addStep 54 = .ok (.iconst 1, 1) := by decide +kernel
theorem d_MM_addStep_55 : decode b_MM_addStep 55 = .ok (.ireturn, 1) := by decide +kernel
theorem d_MM_work_0 : decode b_MM_work 0 = .ok (.aload_n 0, 1) := by decide +kernel
theorem d_MM_work_1 : decode b_MM_work 1 = .ok (.getfield 53, 3) := by decide +kernel
theorem d_MM_work_4 : decode b_MM_work 4 = .ok (.iload_n 1, 1) := by decide +kernel
theorem d_MM_work_5 : decode b_MM_work 5 = .ok (.if_icmp .ne 8, 3) := by decide +kernel
theorem d_MM_work_8 : decode b_MM_work 8 = .ok (.iload_n 1, 1) := by decide +kernel
theorem d_MM_work_9 : decode b_MM_work 9 = .ok (.ifCond .le 4, 3) := by decide +kernel
theorem d_MM_work_12 : decode b_MM_work 12 = .ok (.return_, 1) := by decide +kernel
theorem d_MM_work_13 : decode b_MM_work 13 = .ok (.aload_n 0, 1) := by decide +kernel
theorem d_MM_work_14 : decode b_MM_work 14 = .ok (.iload_n 1, 1) := by decide +kernel
theorem d_MM_work_15 : decode b_MM_work 15 = .ok (.invokevirtual 99, 3) := by decide +kernel
theorem d_MM_work_18 : decode b_MM_work 18 = .ok (.aload_n 0, 1) := by decide +kernel
theorem d_MM_work_19 : decode b_MM_work 19 = .ok (.sipush 128, 3) := by decide +kernel
theorem d_MM_work_22 : decode b_MM_work 22 = .ok (.invokevirtual 77, 3) := by decide +kernel
theorem d_MM_work_25 : decode b_MM_work 25 = .ok (.aload_n 0, 1) := by decide +kernel
theorem d_MM_work_26 : decode b_MM_work 26 = .ok (.sipush 256, 3) := by decide +kernel
theorem d_MM_work_29 : decode b_MM_work 29 = .ok (.invokevirtual 77, 3) := by decide +kernel
theorem d_MM_work_32 : decode b_MM_work 32 = .ok (.aload_n 0, 1) := by decide +kernel
theorem d_MM_work_33 : decode b_MM_work 33 = .ok (.sipush 256, 3) := by decide +kernel
theorem d_MM_work_36 : decode b_MM_work 36 = .ok (.iconst 0, 1) := by decide +kernel
theorem d_MM_work_37 : decode b_MM_work 37 = .ok (.invokevirtual 89, 3) := by decide +kernel
theorem d_MM_work_40 : decode b_MM_work 40 = .ok (.pop, 1) := by decide +kernel
theorem d_MM_work_41 : decode b_MM_work 41 = .ok (.iconst 1, 1) := by decide +kernel
theorem d_MM_work_42 : decode b_MM_work 42 = .ok (.istore_n 2, 1) := by decide +kernel
theorem d_MM_work_43 : decode b_MM_work 43 = .ok (.iload_n 2, 1) := by decide +kernel
theorem d_MM_work_44 : decode b_MM_work 44 = .ok (.ifCond .eq 33, 3) := by decide +kernel
theorem d_MM_work_47 : decode b_MM_work 47 = .ok (.aload_n 0, 1) := by decide +kernel
theorem d_MM_work_48 : decode b_MM_work 48 = .ok (.iload_n 1, 1) := by decide +kernel
theorem d_MM_work_49 : decode b_MM_work 49 = .ok (.invokevirtual 102, 3) := by decide +kernel
theorem d_MM_work_52 : decode b_MM_work 52 = .ok (.aload_n 0, 1) := by decide +kernel
theorem d_MM_work_53 : decode b_MM_work 53 = .ok (.invokevirtual 105, 3) := by decide +kernel
theorem d_MM_work_56 : decode b_MM_work 56 = .ok (.istore_n 2, 1) := by decide +kernel
theorem d_MM_work_57 : decode b_MM_work 57 = .ok (.aload_n 0, 1) := by decide +kernel
theorem d_MM_work_58 : decode b_MM_work 58 = .ok (.invokevirtual 109, 3) := by decide +kernel
theorem d_MM_work_61 : decode b_MM_work 61 = .ok (.ifCond .ne 7, 3) := by decide +kernel
theorem d_MM_work_64 : decode b_MM_work 64 = .ok (.iload_n 2, 1) := by decide +kernel
theorem d_MM_work_65 : decode b_MM_work 65 = .ok (.ifCond .eq 7, 3) := by decide +kernel
theorem d_MM_work_68 : decode b_MM_work 68 = .ok (.iconst 1, 1) := by decide +kernel
theorem d_MM_work_69 : decode b_MM_work 69 = .ok (.goto 4, 3) := by decide +kernel
theorem d_MM_work_72 : decode b_MM_work 72 = .ok (.iconst 0, 1) := by decide +kernel
theorem d_MM_work_73 : decode b_MM_work 73 = .ok (.istore_n 2, 1) := by decide +kernel
theorem d_MM_work_74 : decode b_MM_work 74 = .ok (.goto (-31), 3) := by decide +kernel
theorem d_MM_work_77 : decode b_MM_work 77 = .ok (.aload_n 0, 1) := by decide +kernel
theorem d_MM_work_78 : decode b_MM_work 78 = .ok (.iload_n 1, 1) := by decide +kernel
theorem d_MM_work_79 : decode b_MM_work 79 = .ok (.putfield 53, 3) := by decide +kernel
theorem d_MM_work_82 : decode b_MM_work 82 = .ok (.return_, 1) := by decide +kernel
