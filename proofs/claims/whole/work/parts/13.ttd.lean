theorem d_TT_init_0 : decode b_TT_init 0 = .ok (.aload_n 0, 1) := by decide +kernel
theorem d_TT_init_1 : decode b_TT_init 1 = .ok (.invokespecial 3, 3) := by decide +kernel
theorem d_TT_init_4 : decode b_TT_init 4 = .ok (.aload_n 0, 1) := by decide +kernel
theorem d_TT_init_5 : decode b_TT_init 5 = .ok (.bipush 13, 2) := by decide +kernel
theorem d_TT_init_7 : decode b_TT_init 7 = .ok (.newarray .int, 2) := by decide +kernel
theorem d_TT_init_9 : decode b_TT_init 9 = .ok (.putfield 9, 3) := by decide +kernel
theorem d_TT_init_12 : decode b_TT_init 12 = .ok (.aload_n 0, 1) := by decide +kernel
theorem d_TT_init_13 : decode b_TT_init 13 = .ok (.bipush 13, 2) := by decide +kernel
theorem d_TT_init_15 : decode b_TT_init 15 = .ok (.newarray .int, 2) := by decide +kernel
theorem d_TT_init_17 : decode b_TT_init 17 = .ok (.putfield 15, 3) := by decide +kernel
theorem d_TT_init_20 : decode b_TT_init 20 = .ok (.aload_n 0, 1) := by decide +kernel
theorem d_TT_init_21 : decode b_TT_init 21 = .ok (.bipush 13, 2) := by decide +kernel
theorem d_TT_init_23 : decode b_TT_init 23 = .ok (.newarray .int, 2) := by decide +kernel
theorem d_TT_init_25 : decode b_TT_init 25 = .ok (.putfield 18, 3) := by decide +kernel
theorem d_TT_init_28 : decode b_TT_init 28 = .ok (.aload_n 0, 1) := by decide +kernel
theorem d_TT_init_29 : decode b_TT_init 29 = .ok (.bipush 13, 2) := by decide +kernel
theorem d_TT_init_31 : decode b_TT_init 31 = .ok (.newarray .int, 2) := by decide +kernel
theorem d_TT_init_33 : decode b_TT_init 33 = .ok (.putfield 21, 3) := by decide +kernel
theorem d_TT_init_36 : decode b_TT_init 36 = .ok (.aload_n 0, 1) := by decide +kernel
theorem d_TT_init_37 : decode b_TT_init 37 = .ok (.bipush 13, 2) := by decide +kernel
theorem d_TT_init_39 : decode b_TT_init 39 = .ok (.newarray .boolean, 2) := by decide +kernel
theorem d_TT_init_41 : decode b_TT_init 41 = .ok (.putfield 24, 3) := by decide +kernel
theorem d_TT_init_44 : decode b_TT_init 44 = .ok (.return_, 1) := by decide +kernel
theorem d_TT_depthOf_0 : decode b_TT_depthOf 0 = .ok (.iload_n 1, 1) := by decide +kernel
theorem d_TT_depthOf_1 : decode b_TT_depthOf 1 = .ok (.tableswitch 63 0 6 #[43, 45, 45, 63, 63, 63, 43], 43) := by decide +kernel
theorem d_TT_depthOf_44 : decode b_TT_depthOf 44 = .ok (.iconst 0, 1) := by decide +kernel
theorem d_TT_depthOf_45 : decode b_TT_depthOf 45 = .ok (.ireturn, 1) := by decide +kernel
theorem d_TT_depthOf_46 : decode b_TT_depthOf 46 = .ok (.iconst 1, 1) := by decide +kernel
theorem d_TT_depthOf_47 : decode b_TT_depthOf 47 = .ok (.aload_n 0, 1) := by decide +kernel
theorem d_TT_depthOf_48 : decode b_TT_depthOf 48 = .ok (.getfield 21, 3) := by decide +kernel
theorem d_TT_depthOf_51 : decode b_TT_depthOf 51 = .ok (.iload_n 2, 1) := by decide +kernel
theorem d_TT_depthOf_52 : decode b_TT_depthOf 52 = .ok (.iaload, 1) := by decide +kernel
theorem d_TT_depthOf_53 : decode b_TT_depthOf 53 = .ok (.aload_n 0, 1) := by decide +kernel
theorem d_TT_depthOf_54 : decode b_TT_depthOf 54 = .ok (.getfield 21, 3) := by decide +kernel
theorem d_TT_depthOf_57 : decode b_TT_depthOf 57 = .ok (.iload_n 3, 1) := by decide +kernel
theorem d_TT_depthOf_58 : decode b_TT_depthOf 58 = .ok (.iaload, 1) := by decide +kernel
theorem d_TT_depthOf_59 : decode b_TT_depthOf 59 = .ok (.invokestatic 28, 3) := by decide +kernel
theorem d_TT_depthOf_62 : decode b_TT_depthOf 62 = .ok (.iadd, 1) := by decide +kernel
theorem d_TT_depthOf_63 : decode b_TT_depthOf 63 = .ok (.ireturn, 1) := by decide +kernel
theorem d_TT_depthOf_64 : decode b_TT_depthOf 64 = .ok (.aload_n 0, 1) := by decide +kernel
theorem d_TT_depthOf_65 : decode b_TT_depthOf 65 = .ok (.getfield 21, 3) := by decide +kernel
theorem d_TT_depthOf_68 : decode b_TT_depthOf 68 = .ok (.iload_n 2, 1) := by decide +kernel
theorem d_TT_depthOf_69 : decode b_TT_depthOf 69 = .ok (.iaload, 1) := by decide +kernel
theorem d_TT_depthOf_70 : decode b_TT_depthOf 70 = .ok (.aload_n 0, 1) := by decide +kernel
theorem d_TT_depthOf_71 : decode b_TT_depthOf 71 = .ok (.getfield 21, 3) := by decide +kernel
theorem d_TT_depthOf_74 : decode b_TT_depthOf 74 = .ok (.iload_n 3, 1) := by decide +kernel
theorem d_TT_depthOf_75 : decode b_TT_depthOf 75 = .ok (.iaload, 1) := by decide +kernel
theorem d_TT_depthOf_76 : decode b_TT_depthOf 76 = .ok (.invokestatic 28, 3) := by decide +kernel
theorem d_TT_depthOf_79 : decode b_TT_depthOf 79 = .ok (.ireturn, 1) := by decide +kernel
theorem d_TT_makesInterface_0 : decode b_TT_makesInterface 0 = .ok (.iload_n 1, 1) := by decide +kernel
theorem d_TT_makesInterface_1 : decode b_TT_makesInterface 1 = .ok (.iconst 4, 1) := by decide +kernel
theorem d_TT_makesInterface_2 : decode b_TT_makesInterface 2 = .ok (.if_icmp .ne 27, 3) := by decide +kernel
theorem d_TT_makesInterface_5 : decode b_TT_makesInterface 5 = .ok (.aload_n 0, 1) := by decide +kernel
theorem d_TT_makesInterface_6 : decode b_TT_makesInterface 6 = .ok (.getfield 24, 3) := by decide +kernel
theorem d_TT_makesInterface_9 : decode b_TT_makesInterface 9 = .ok (.iload_n 2, 1) := by decide +kernel
theorem d_TT_makesInterface_10 : decode b_TT_makesInterface 10 = .ok (.baload, 1) := by decide +kernel
theorem d_TT_makesInterface_11 : decode b_TT_makesInterface 11 = .ok (.ifCond .eq 16, 3) := by decide +kernel
theorem d_TT_makesInterface_14 : decode b_TT_makesInterface 14 = .ok (.aload_n 0, 1) := by decide +kernel
theorem d_TT_makesInterface_15 : decode b_TT_makesInterface 15 = .ok (.getfield 24, 3) := by decide +kernel
theorem d_TT_makesInterface_18 : decode b_TT_makesInterface 18 = .ok (.iload_n 3, 1) := by decide +kernel
theorem d_TT_makesInterface_19 : decode b_TT_makesInterface 19 = .ok (.baload, 1) := by decide +kernel
theorem d_TT_makesInterface_20 : decode b_TT_makesInterface 20 = .ok (.ifCond .eq 7, 3) := by decide +kernel
theorem d_TT_makesInterface_23 : decode b_TT_makesInterface 23 = .ok (.iconst 1, 1) := by decide +kernel
theorem d_TT_makesInterface_24 : decode b_TT_makesInterface 24 = .ok (.goto 4, 3) := by decide +kernel
theorem d_TT_makesInterface_27 : decode b_TT_makesInterface 27 = .ok (.iconst 0, 1) := by decide +kernel
theorem d_TT_makesInterface_28 : decode b_TT_makesInterface 28 = .ok (.ireturn, 1) := by decide +kernel
theorem d_TT_makesInterface_29 : decode b_TT_makesInterface 29 = .ok (.iload_n 1, 1) := by decide +kernel
theorem d_TT_makesInterface_30 : decode b_TT_makesInterface 30 = .ok (.iconst 2, 1) := by decide +kernel
theorem d_TT_makesInterface_31 : decode b_TT_makesInterface 31 = .ok (.if_icmp .ne 7, 3) := by decide +kernel
theorem d_TT_makesInterface_34 : decode b_TT_makesInterface 34 = .ok (.iconst 1, 1) := by decide +kernel
theorem d_TT_makesInterface_35 : decode b_TT_makesInterface 35 = .ok (.goto 4, 3) := by decide +kernel
theorem d_TT_makesInterface_38 : decode b_TT_makesInterface 38 = .ok (.iconst 0, 1) := by decide +kernel
theorem d_TT_makesInterface_39 : decode b_TT_makesInterface 39 = .ok (.ireturn, 1) := by decide +kernel
theorem d_TT_add_0 : decode b_TT_add 0 = .ok (.aload_n 0, 1) := by decide +kernel
theorem d_TT_add_1 : decode b_TT_add 1 = .ok (.getfield 34, 3) := by decide +kernel
theorem d_TT_add_4 : decode b_TT_add 4 = .ok (.istore 4, 2) := by decide +kernel
theorem d_TT_add_6 : decode b_TT_add 6 = .ok (.aload_n 0, 1) := by decide +kernel
theorem d_TT_add_7 : decode b_TT_add 7 = .ok (.getfield 9, 3) := by decide +kernel
theorem d_TT_add_10 : decode b_TT_add 10 = .ok (.iload 4, 2) := by decide +kernel
theorem d_TT_add_12 : decode b_TT_add 12 = .ok (.iload_n 1, 1) := by decide +kernel
theorem d_TT_add_13 : decode b_TT_add 13 = .ok (.iastore, 1) := by decide +kernel
theorem d_TT_add_14 : decode b_TT_add 14 = .ok (.aload_n 0, 1) := by decide +kernel
theorem d_TT_add_15 : decode b_TT_add 15 = .ok (.getfield 15, 3) := by decide +kernel
theorem d_TT_add_18 : decode b_TT_add 18 = .ok (.iload 4, 2) := by decide +kernel
theorem d_TT_add_20 : decode b_TT_add 20 = .ok (.iload_n 2, 1) := by decide +kernel
theorem d_TT_add_21 : decode b_TT_add 21 = .ok (.iastore, 1) := by decide +kernel
theorem d_TT_add_22 : decode b_TT_add 22 = .ok (.aload_n 0, 1) := by decide +kernel
theorem d_TT_add_23 : decode b_TT_add 23 = .ok (.getfield 18, 3) := by decide +kernel
theorem d_TT_add_26 : decode b_TT_add 26 = .ok (.iload 4, 2) := by decide +kernel
theorem d_TT_add_28 : decode b_TT_add 28 = .ok (.iload_n 3, 1) := by decide +kernel
theorem d_TT_add_29 : decode b_TT_add 29 = .ok (.iastore, 1) := by decide +kernel
theorem d_TT_add_30 : decode b_TT_add 30 = .ok (.aload_n 0, 1) := by decide +kernel
theorem d_TT_add_31 : decode b_TT_add 31 = .ok (.getfield 21, 3) := by decide +kernel
theorem d_TT_add_34 : decode b_TT_add 34 = .ok (.iload 4, 2) := by decide +kernel
theorem d_TT_add_36 : decode b_TT_add 36 = .ok (.aload_n 0, 1) := by decide +kernel
theorem d_TT_add_37 : decode b_TT_add 37 = .ok (.iload_n 1, 1) := by decide +kernel
theorem d_TT_add_38 : decode b_TT_add 38 = .ok (.iload_n 2, 1) := by decide +kernel
theorem d_TT_add_39 : decode b_TT_add 39 = .ok (.iload_n 3, 1) := by decide +kernel
theorem d_TT_add_40 : decode b_TT_add 40 = .ok (.invokevirtual 38, 3) := by decide +kernel
theorem d_TT_add_43 : decode b_TT_add 43 = .ok (.iastore, 1) := by decide +kernel
theorem d_TT_add_44 : decode b_TT_add 44 = .ok (.aload_n 0, 1) := by decide +kernel
theorem d_TT_add_45 : decode b_TT_add 45 = .ok (.getfield 24, 3) := by decide +kernel
theorem d_TT_add_48 : decode b_TT_add 48 = .ok (.iload 4, 2) := by decide +kernel
theorem d_TT_add_50 : decode b_TT_add 50 = .ok (.aload_n 0, 1) := by decide +kernel
theorem d_TT_add_51 : decode b_TT_add 51 = .ok (.iload_n 1, 1) := by decide +kernel
theorem d_TT_add_52 : decode b_TT_add 52 = .ok (.iload_n 2, 1) := by decide +kernel
theorem d_TT_add_53 : decode b_TT_add 53 = .ok (.iload_n 3, 1) := by decide +kernel
theorem d_TT_add_54 : decode b_TT_add 54 = .ok (.invokevirtual 42, 3) := by decide +kernel
theorem d_TT_add_57 : decode b_TT_add 57 = .ok (.bastore, 1) := by decide +kernel
theorem d_TT_add_58 : decode b_TT_add 58 = .ok (.aload_n 0, 1) := by decide +kernel
theorem d_TT_add_59 : decode b_TT_add 59 = .ok (.dup, 1) := by decide +kernel
theorem d_TT_add_60 : decode b_TT_add 60 = .ok (.getfield 34, 3) := by decide +kernel
theorem d_TT_add_63 : decode b_TT_add 63 = .ok (.iconst 1, 1) := by decide +kernel
theorem d_TT_add_64 : decode b_TT_add 64 = .ok (.iadd, 1) := by decide +kernel
theorem d_TT_add_65 : decode b_TT_add 65 = .ok (.putfield 34, 3) := by decide +kernel
theorem d_TT_add_68 : decode b_TT_add 68 = .ok (.iload 4, 2) := by decide +kernel
theorem d_TT_add_70 : decode b_TT_add 70 = .ok (.ireturn, 1) := by decide +kernel
theorem d_TT_keep_0 : decode b_TT_keep 0 = .ok (.aload_n 0, 1) := by decide +kernel
theorem d_TT_keep_1 : decode b_TT_keep 1 = .ok (.aload_n 0, 1) := by decide +kernel
theorem d_TT_keep_2 : decode b_TT_keep 2 = .ok (.getfield 34, 3) := by decide +kernel
theorem d_TT_keep_5 : decode b_TT_keep 5 = .ok (.iload_n 1, 1) := by decide +kernel
theorem d_TT_keep_6 : decode b_TT_keep 6 = .ok (.invokestatic 46, 3) := by decide +kernel
theorem d_TT_keep_9 : decode b_TT_keep 9 = .ok (.putfield 34, 3) := by decide +kernel
theorem d_TT_keep_12 : decode b_TT_keep 12 = .ok (.return_, 1) := by decide +kernel
theorem d_TT_allOfKind_0 : decode b_TT_allOfKind 0 = .ok (.iconst 0, 1) := by decide +kernel
theorem d_TT_allOfKind_1 : decode b_TT_allOfKind 1 = .ok (.istore_n 2, 1) := by decide +kernel
theorem d_TT_allOfKind_2 : decode b_TT_allOfKind 2 = .ok (.iconst 0, 1) := by decide +kernel
theorem d_TT_allOfKind_3 : decode b_TT_allOfKind 3 = .ok (.istore_n 3, 1) := by decide +kernel
theorem d_TT_allOfKind_4 : decode b_TT_allOfKind 4 = .ok (.iload_n 3, 1) := by decide +kernel
theorem d_TT_allOfKind_5 : decode b_TT_allOfKind 5 = .ok (.aload_n 0, 1) := by decide +kernel
theorem d_TT_allOfKind_6 : decode b_TT_allOfKind 6 = .ok (.getfield 34, 3) := by decide +kernel
theorem d_TT_allOfKind_9 : decode b_TT_allOfKind 9 = .ok (.if_icmp .ge 25, 3) := by decide +kernel
theorem d_TT_allOfKind_12 : decode b_TT_allOfKind 12 = .ok (.aload_n 0, 1) := by decide +kernel
theorem d_TT_allOfKind_13 : decode b_TT_allOfKind 13 = .ok (.getfield 9, 3) := by decide +kernel
theorem d_TT_allOfKind_16 : decode b_TT_allOfKind 16 = .ok (.iload_n 3, 1) := by decide +kernel
theorem d_TT_allOfKind_17 : decode b_TT_allOfKind 17 = .ok (.iaload, 1) := by decide +kernel
theorem d_TT_allOfKind_18 : decode b_TT_allOfKind 18 = .ok (.iload_n 1, 1) := by decide +kernel
theorem d_TT_allOfKind_19 : decode b_TT_allOfKind 19 = .ok (.if_icmp .ne 9, 3) := by decide +kernel
theorem d_TT_allOfKind_22 : decode b_TT_allOfKind 22 = .ok (.iload_n 2, 1) := by decide +kernel
theorem d_TT_allOfKind_23 : decode b_TT_allOfKind 23 = .ok (.iconst 1, 1) := by decide +kernel
theorem d_TT_allOfKind_24 : decode b_TT_allOfKind 24 = .ok (.iload_n 3, 1) := by decide +kernel
theorem d_TT_allOfKind_25 : decode b_TT_allOfKind 25 = .ok (.ishl, 1) := by decide +kernel
theorem d_TT_allOfKind_26 : decode b_TT_allOfKind 26 = .ok (.ior, 1) := by decide +kernel
theorem d_TT_allOfKind_27 : decode b_TT_allOfKind 27 = .ok (.istore_n 2, 1) := by decide +kernel
theorem d_TT_allOfKind_28 : decode b_TT_allOfKind 28 = .ok (.iinc 3 1, 3) := by decide +kernel
theorem d_TT_allOfKind_31 : decode b_TT_allOfKind 31 = .ok (.goto (-27), 3) := by decide +kernel
theorem d_TT_allOfKind_34 : decode b_TT_allOfKind 34 = .ok (.iload_n 2, 1) := by decide +kernel
theorem d_TT_allOfKind_35 : decode b_TT_allOfKind 35 = .ok (.ireturn, 1) := by decide +kernel
theorem d_TT_partHolds_0 : decode b_TT_partHolds 0 = .ok (.iconst 0, 1) := by decide +kernel
theorem d_TT_partHolds_1 : decode b_TT_partHolds 1 = .ok (.istore 4, 2) := by decide +kernel
theorem d_TT_partHolds_3 : decode b_TT_partHolds 3 = .ok (.iconst 0, 1) := by decide +kernel
theorem d_TT_partHolds_4 : decode b_TT_partHolds 4 = .ok (.istore 5, 2) := by decide +kernel
theorem d_TT_partHolds_6 : decode b_TT_partHolds 6 = .ok (.iload 5, 2) := by decide +kernel
theorem d_TT_partHolds_8 : decode b_TT_partHolds 8 = .ok (.aload_n 0, 1) := by decide +kernel
theorem d_TT_partHolds_9 : decode b_TT_partHolds 9 = .ok (.getfield 34, 3) := by decide +kernel
theorem d_TT_partHolds_12 : decode b_TT_partHolds 12 = .ok (.if_icmp .ge 40, 3) := by decide +kernel
theorem d_TT_partHolds_15 : decode b_TT_partHolds 15 = .ok (.aload_n 0, 1) := by decide +kernel
theorem d_TT_partHolds_16 : decode b_TT_partHolds 16 = .ok (.getfield 9, 3) := by decide +kernel
theorem d_TT_partHolds_19 : decode b_TT_partHolds 19 = .ok (.iload 5, 2) := by decide +kernel
theorem d_TT_partHolds_21 : decode b_TT_partHolds 21 = .ok (.iaload, 1) := by decide +kernel
theorem d_TT_partHolds_22 : decode b_TT_partHolds 22 = .ok (.iload_n 1, 1) := by decide +kernel
theorem d_TT_partHolds_23 : decode b_TT_partHolds 23 = .ok (.if_icmp .ne 23, 3) := by decide +kernel
theorem d_TT_partHolds_26 : decode b_TT_partHolds 26 = .ok (.iload_n 3, 1) := by decide +kernel
theorem d_TT_partHolds_27 : decode b_TT_partHolds 27 = .ok (.aload_n 2, 1) := by decide +kernel
theorem d_TT_partHolds_28 : decode b_TT_partHolds 28 = .ok (.iload 5, 2) := by decide +kernel
theorem d_TT_partHolds_30 : decode b_TT_partHolds 30 = .ok (.iaload, 1) := by decide +kernel
theorem d_TT_partHolds_31 : decode b_TT_partHolds 31 = .ok (.invokestatic 49, 3) := by decide +kernel
theorem d_TT_partHolds_34 : decode b_TT_partHolds 34 = .ok (.ifCond .eq 12, 3) := by decide +kernel
theorem d_TT_partHolds_37 : decode b_TT_partHolds 37 = .ok (.iload 4, 2) := by decide +kernel
theorem d_TT_partHolds_39 : decode b_TT_partHolds 39 = .ok (.iconst 1, 1) := by decide +kernel
theorem d_TT_partHolds_40 : decode b_TT_partHolds 40 = .ok (.iload 5, 2) := by decide +kernel
theorem d_TT_partHolds_42 : decode b_TT_partHolds 42 = .ok (.ishl, 1) := by decide +kernel
theorem d_TT_partHolds_43 : decode b_TT_partHolds 43 = .ok (.ior, 1) := by decide +kernel
theorem d_TT_partHolds_44 : decode b_TT_partHolds 44 = .ok (.istore 4, 2) := by decide +kernel
theorem d_TT_partHolds_46 : decode b_TT_partHolds 46 = .ok (.iinc 5 1, 3) := by decide +kernel
theorem d_TT_partHolds_49 : decode b_TT_partHolds 49 = .ok (.goto (-43), 3) := by decide +kernel
theorem d_TT_partHolds_52 : decode b_TT_partHolds 52 = .ok (.iload 4, 2) := by decide +kernel
theorem d_TT_partHolds_54 : decode b_TT_partHolds 54 = .ok (.ireturn, 1) := by decide +kernel
theorem d_TT_profileOfConstant_0 : decode b_TT_profileOfConstant 0 = .ok (.iconst 0, 1) := by decide +kernel
theorem d_TT_profileOfConstant_1 : decode b_TT_profileOfConstant 1 = .ok (.istore_n 2, 1) := by decide +kernel
theorem d_TT_profileOfConstant_2 : decode b_TT_profileOfConstant 2 = .ok (.iconst 0, 1) := by decide +kernel
theorem d_TT_profileOfConstant_3 : decode b_TT_profileOfConstant 3 = .ok (.istore_n 3, 1) := by decide +kernel
theorem d_TT_profileOfConstant_4 : decode b_TT_profileOfConstant 4 = .ok (.iload_n 3, 1) := by decide +kernel
theorem d_TT_profileOfConstant_5 : decode b_TT_profileOfConstant 5 = .ok (.aload_n 0, 1) := by decide +kernel
theorem d_TT_profileOfConstant_6 : decode b_TT_profileOfConstant 6 = .ok (.getfield 34, 3) := by decide +kernel
theorem d_TT_profileOfConstant_9 : decode b_TT_profileOfConstant 9 = .ok (.if_icmp .ge 37, 3) := by decide +kernel
theorem d_TT_profileOfConstant_12 : decode b_TT_profileOfConstant 12 = .ok (.aload_n 0, 1) := by decide +kernel
theorem d_TT_profileOfConstant_13 : decode b_TT_profileOfConstant 13 = .ok (.getfield 9, 3) := by decide +kernel
theorem d_TT_profileOfConstant_16 : decode b_TT_profileOfConstant 16 = .ok (.iload_n 3, 1) := by decide +kernel
theorem d_TT_profileOfConstant_17 : decode b_TT_profileOfConstant 17 = .ok (.iaload, 1) := by decide +kernel
theorem d_TT_profileOfConstant_18 : decode b_TT_profileOfConstant 18 = .ok (.ifCond .ne 22, 3) := by decide +kernel
theorem d_TT_profileOfConstant_21 : decode b_TT_profileOfConstant 21 = .ok (.aload_n 0, 1) := by decide +kernel
theorem d_TT_profileOfConstant_22 : decode b_TT_profileOfConstant 22 = .ok (.getfield 15, 3) := by decide +kernel
theorem d_TT_profileOfConstant_25 : decode b_TT_profileOfConstant 25 = .ok (.iload_n 3, 1) := by decide +kernel
theorem d_TT_profileOfConstant_26 : decode b_TT_profileOfConstant 26 = .ok (.iaload, 1) := by decide +kernel
theorem d_TT_profileOfConstant_27 : decode b_TT_profileOfConstant 27 = .ok (.iload_n 1, 1) := by decide +kernel
theorem d_TT_profileOfConstant_28 : decode b_TT_profileOfConstant 28 = .ok (.invokestatic 49, 3) := by decide +kernel
theorem d_TT_profileOfConstant_31 : decode b_TT_profileOfConstant 31 = .ok (.ifCond .eq 9, 3) := by decide +kernel
theorem d_TT_profileOfConstant_34 : decode b_TT_profileOfConstant 34 = .ok (.iload_n 2, 1) := by decide +kernel
theorem d_TT_profileOfConstant_35 : decode b_TT_profileOfConstant 35 = .ok (.iconst 1, 1) := by decide +kernel
theorem d_TT_profileOfConstant_36 : decode b_TT_profileOfConstant 36 = .ok (.iload_n 3, 1) := by decide +kernel
theorem d_TT_profileOfConstant_37 : decode b_TT_profileOfConstant 37 = .ok (.ishl, 1) := by decide +kernel
theorem d_TT_profileOfConstant_38 : decode b_TT_profileOfConstant 38 = .ok (.ior, 1) := by decide +kernel
theorem d_TT_profileOfConstant_39 : decode b_TT_profileOfConstant 39 = .ok (.istore_n 2, 1) := by decide +kernel
theorem d_TT_profileOfConstant_40 : decode b_TT_profileOfConstant 40 = .ok (.iinc 3 1, 3) := by decide +kernel
theorem d_TT_profileOfConstant_43 : decode b_TT_profileOfConstant 43 = .ok (.goto (-39), 3) := by decide +kernel
theorem d_TT_profileOfConstant_46 : decode b_TT_profileOfConstant 46 = .ok (.aload_n 0, 1) := by decide +kernel
theorem d_TT_profileOfConstant_47 : decode b_TT_profileOfConstant 47 = .ok (.iload_n 2, 1) := by decide +kernel
theorem d_TT_profileOfConstant_48 : decode b_TT_profileOfConstant 48 = .ok (.invokevirtual 53, 3) := by decide +kernel
theorem d_TT_profileOfConstant_51 : decode b_TT_profileOfConstant 51 = .ok (.ireturn, 1) := by decide +kernel
theorem d_TT_profileFrom_0 : decode b_TT_profileFrom 0 = .ok (.iload_n 1, 1) := by decide +kernel
theorem d_TT_profileFrom_1 : decode b_TT_profileFrom 1 = .ok (.istore_n 2, 1) := by decide +kernel
theorem d_TT_profileFrom_2 : decode b_TT_profileFrom 2 = .ok (.iconst 0, 1) := by decide +kernel
theorem d_TT_profileFrom_3 : decode b_TT_profileFrom 3 = .ok (.istore_n 3, 1) := by decide +kernel
theorem d_TT_profileFrom_4 : decode b_TT_profileFrom 4 = .ok (.iload_n 3, 1) := by decide +kernel
theorem d_TT_profileFrom_5 : decode b_TT_profileFrom 5 = .ok (.aload_n 0, 1) := by decide +kernel
theorem d_TT_profileFrom_6 : decode b_TT_profileFrom 6 = .ok (.getfield 34, 3) := by decide +kernel
theorem d_TT_profileFrom_9 : decode b_TT_profileFrom 9 = .ok (.if_icmp .ge 24, 3) := by decide +kernel
theorem d_TT_profileFrom_12 : decode b_TT_profileFrom 12 = .ok (.aload_n 0, 1) := by decide +kernel
theorem d_TT_profileFrom_13 : decode b_TT_profileFrom 13 = .ok (.iload_n 3, 1) := by decide +kernel
theorem d_TT_profileFrom_14 : decode b_TT_profileFrom 14 = .ok (.iload_n 2, 1) := by decide +kernel
theorem d_TT_profileFrom_15 : decode b_TT_profileFrom 15 = .ok (.invokevirtual 57, 3) := by decide +kernel
theorem d_TT_profileFrom_18 : decode b_TT_profileFrom 18 = .ok (.ifCond .eq 9, 3) := by decide +kernel
theorem d_TT_profileFrom_21 : decode b_TT_profileFrom 21 = .ok (.iload_n 2, 1) := by decide +kernel
theorem d_TT_profileFrom_22 : decode b_TT_profileFrom 22 = .ok (.iconst 1, 1) := by decide +kernel
theorem d_TT_profileFrom_23 : decode b_TT_profileFrom 23 = .ok (.iload_n 3, 1) := by decide +kernel
theorem d_TT_profileFrom_24 : decode b_TT_profileFrom 24 = .ok (.ishl, 1) := by decide +kernel
theorem d_TT_profileFrom_25 : decode b_TT_profileFrom 25 = .ok (.ior, 1) := by decide +kernel
theorem d_TT_profileFrom_26 : decode b_TT_profileFrom 26 = .ok (.istore_n 2, 1) := by decide +kernel
theorem d_TT_profileFrom_27 : decode b_TT_profileFrom 27 = .ok (.iinc 3 1, 3) := by decide +kernel
theorem d_TT_profileFrom_30 : decode b_TT_profileFrom 30 = .ok (.goto (-26), 3) := by decide +kernel
theorem d_TT_profileFrom_33 : decode b_TT_profileFrom 33 = .ok (.iload_n 2, 1) := by decide +kernel
theorem d_TT_profileFrom_34 : decode b_TT_profileFrom 34 = .ok (.ireturn, 1) := by decide +kernel
theorem d_TT_followsFromParts_0 : decode b_TT_followsFromParts 0 = .ok (.aload_n 0, 1) := by decide +kernel
theorem d_TT_followsFromParts_1 : decode b_TT_followsFromParts 1 = .ok (.getfield 9, 3) := by decide +kernel
theorem d_TT_followsFromParts_4 : decode b_TT_followsFromParts 4 = .ok (.iload_n 1, 1) := by decide +kernel
theorem d_TT_followsFromParts_5 : decode b_TT_followsFromParts 5 = .ok (.iaload, 1) := by decide +kernel
theorem d_TT_followsFromParts_6 : decode b_TT_followsFromParts 6 = .ok (.tableswitch 115 3 6 #[30, 62, 94, 113], 30) := by decide +kernel
theorem d_TT_followsFromParts_36 : decode b_TT_followsFromParts 36 = .ok (.iload_n 2, 1) := by decide +kernel
theorem d_TT_followsFromParts_37 : decode b_TT_followsFromParts 37 = .ok (.aload_n 0, 1) := by decide +kernel
theorem d_TT_followsFromParts_38 : decode b_TT_followsFromParts 38 = .ok (.getfield 15, 3) := by decide +kernel
theorem d_TT_followsFromParts_41 : decode b_TT_followsFromParts 41 = .ok (.iload_n 1, 1) := by decide +kernel
theorem d_TT_followsFromParts_42 : decode b_TT_followsFromParts 42 = .ok (.iaload, 1) := by decide +kernel
theorem d_TT_followsFromParts_43 : decode b_TT_followsFromParts 43 = .ok (.invokestatic 49, 3) := by decide +kernel
theorem d_TT_followsFromParts_46 : decode b_TT_followsFromParts 46 = .ok (.ifCond .ne 16, 3) := by decide +kernel
theorem d_TT_followsFromParts_49 : decode b_TT_followsFromParts 49 = .ok (.iload_n 2, 1) := by decide +kernel
theorem d_TT_followsFromParts_50 : decode b_TT_followsFromParts 50 = .ok (.aload_n 0, 1) := by decide +kernel
theorem d_TT_followsFromParts_51 : decode b_TT_followsFromParts 51 = .ok (.getfield 18, 3) := by decide +kernel
theorem d_TT_followsFromParts_54 : decode b_TT_followsFromParts 54 = .ok (.iload_n 1, 1) := by decide +kernel
theorem d_TT_followsFromParts_55 : decode b_TT_followsFromParts 55 = .ok (.iaload, 1) := by decide +kernel
theorem d_TT_followsFromParts_56 : decode b_TT_followsFromParts 56 = .ok (.invokestatic 49, 3) := by decide +kernel
theorem d_TT_followsFromParts_59 : decode b_TT_followsFromParts 59 = .ok (.ifCond .eq 7, 3) := by decide +kernel
theorem d_TT_followsFromParts_62 : decode b_TT_followsFromParts 62 = .ok (.iconst 1, 1) := by decide +kernel
theorem d_TT_followsFromParts_63 : decode b_TT_followsFromParts 63 = .ok (.goto 4, 3) := by decide +kernel
theorem d_TT_followsFromParts_66 : decode b_TT_followsFromParts 66 = .ok (.iconst 0, 1) := by decide +kernel
theorem d_TT_followsFromParts_67 : decode b_TT_followsFromParts 67 = .ok (.ireturn, 1) := by decide +kernel
theorem d_TT_followsFromParts_68 : decode b_TT_followsFromParts 68 = .ok (.iload_n 2, 1) := by decide +kernel
theorem d_TT_followsFromParts_69 : decode b_TT_followsFromParts 69 = .ok (.aload_n 0, 1) := by decide +kernel
theorem d_TT_followsFromParts_70 : decode b_TT_followsFromParts 70 = .ok (.getfield 15, 3) := by decide +kernel
theorem d_TT_followsFromParts_73 : decode b_TT_followsFromParts 73 = .ok (.iload_n 1, 1) := by decide +kernel
theorem d_TT_followsFromParts_74 : decode b_TT_followsFromParts 74 = .ok (.iaload, 1) := by decide +kernel
theorem d_TT_followsFromParts_75 : decode b_TT_followsFromParts 75 = .ok (.invokestatic 49, 3) := by decide +kernel
theorem d_TT_followsFromParts_78 : decode b_TT_followsFromParts 78 = .ok (.ifCond .eq 20, 3) := by decide +kernel
theorem d_TT_followsFromParts_81 : decode b_TT_followsFromParts 81 = .ok (.iload_n 2, 1) := by decide +kernel
theorem d_TT_followsFromParts_82 : decode b_TT_followsFromParts 82 = .ok (.aload_n 0, 1) := by decide +kernel
theorem d_TT_followsFromParts_83 : decode b_TT_followsFromParts 83 = .ok (.getfield 18, 3) := by decide +kernel
theorem d_TT_followsFromParts_86 : decode b_TT_followsFromParts 86 = .ok (.iload_n 1, 1) := by decide +kernel
theorem d_TT_followsFromParts_87 : decode b_TT_followsFromParts 87 = .ok (.iaload, 1) := by decide +kernel
theorem d_TT_followsFromParts_88 : decode b_TT_followsFromParts 88 = .ok (.invokestatic 49, 3) := by decide +kernel
theorem d_TT_followsFromParts_91 : decode b_TT_followsFromParts 91 = .ok (.ifCond .eq 7, 3) := by decide +kernel
theorem d_TT_followsFromParts_94 : decode b_TT_followsFromParts 94 = .ok (.iconst 1, 1) := by decide +kernel
theorem d_TT_followsFromParts_95 : decode b_TT_followsFromParts 95 = .ok (.goto 4, 3) := by decide +kernel
theorem d_TT_followsFromParts_98 : decode b_TT_followsFromParts 98 = .ok (.iconst 0, 1) := by decide +kernel
theorem d_TT_followsFromParts_99 : decode b_TT_followsFromParts 99 = .ok (.ireturn, 1) := by decide +kernel
theorem d_TT_followsFromParts_100 : decode b_TT_followsFromParts 100 = .ok (.iload_n 2, 1) := by decide +kernel
theorem d_TT_followsFromParts_101 : decode b_TT_followsFromParts 101 = .ok (.aload_n 0, 1) := by decide +kernel
theorem d_TT_followsFromParts_102 : decode b_TT_followsFromParts 102 = .ok (.getfield 15, 3) := by decide +kernel
theorem d_TT_followsFromParts_105 : decode b_TT_followsFromParts 105 = .ok (.iload_n 1, 1) := by decide +kernel
theorem d_TT_followsFromParts_106 : decode b_TT_followsFromParts 106 = .ok (.iaload, 1) := by decide +kernel
theorem d_TT_followsFromParts_107 : decode b_TT_followsFromParts 107 = .ok (.invokestatic 49, 3) := by decide +kernel
theorem d_TT_followsFromParts_110 : decode b_TT_followsFromParts 110 = .ok (.ifCond .ne 7, 3) := by decide +kernel
theorem d_TT_followsFromParts_113 : decode b_TT_followsFromParts 113 = .ok (.iconst 1, 1) := by decide +kernel
theorem d_TT_followsFromParts_114 : decode b_TT_followsFromParts 114 = .ok (.goto 4, 3) := by decide +kernel
theorem d_TT_followsFromParts_117 : decode b_TT_followsFromParts 117 = .ok (.iconst 0, 1) := by decide +kernel
theorem d_TT_followsFromParts_118 : decode b_TT_followsFromParts 118 = .ok (.ireturn, 1) := by decide +kernel
theorem d_TT_followsFromParts_119 : decode b_TT_followsFromParts 119 = .ok (.iconst 1, 1) := by decide +kernel
theorem d_TT_followsFromParts_120 : decode b_TT_followsFromParts 120 = .ok (.ireturn, 1) := by decide +kernel
theorem d_TT_followsFromParts_121 : decode b_TT_followsFromParts 121 = .ok (.iconst 0, 1) := by decide +kernel
theorem d_TT_followsFromParts_122 : decode b_TT_followsFromParts 122 = .ok (.ireturn, 1) := by decide +kernel
theorem d_MT_holds_0 : decode b_MT_holds 0 = .ok (.iload_n 0, 1) := by decide +kernel
theorem d_MT_holds_1 : decode b_MT_holds 1 = .ok (.iload_n 1, 1) := by decide +kernel
theorem d_MT_holds_2 : decode b_MT_holds 2 = .ok (.ishr, 1) := by decide +kernel
theorem d_MT_holds_3 : decode b_MT_holds 3 = .ok (.iconst 1, 1) := by decide +kernel
theorem d_MT_holds_4 : decode b_MT_holds 4 = .ok (.iand, 1) := by decide +kernel
theorem d_MT_holds_5 : decode b_MT_holds 5 = .ok (.ifCond .eq 7, 3) := by decide +kernel
theorem d_MT_holds_8 : decode b_MT_holds 8 = .ok (.iconst 1, 1) := by decide +kernel
theorem d_MT_holds_9 : decode b_MT_holds 9 = .ok (.goto 4, 3) := by decide +kernel
theorem d_MT_holds_12 : decode b_MT_holds 12 = .ok (.iconst 0, 1) := by decide +kernel
theorem d_MT_holds_13 : decode b_MT_holds 13 = .ok (.ireturn, 1) := by decide +kernel
