theorem dX8_init_0 : decode cX8_init 0 = .ok (.aload_n 0, 1) := by decide +kernel
theorem dX8_init_1 : decode cX8_init 1 = .ok (.invokespecial 3, 3) := by decide +kernel
theorem dX8_init_4 : decode cX8_init 4 = .ok (.aload_n 0, 1) := by decide +kernel
theorem dX8_init_5 : decode cX8_init 5 = .ok (.sipush 600, 3) := by decide +kernel
theorem dX8_init_8 : decode cX8_init 8 = .ok (.newarray .byte, 2) := by decide +kernel
theorem dX8_init_10 : decode cX8_init 10 = .ok (.putfield 9, 3) := by decide +kernel
theorem dX8_init_13 : decode cX8_init 13 = .ok (.aload_n 0, 1) := by decide +kernel
theorem dX8_init_14 : decode cX8_init 14 = .ok (.iconst 0, 1) := by decide +kernel
theorem dX8_init_15 : decode cX8_init 15 = .ok (.putfield 15, 3) := by decide +kernel
theorem dX8_init_18 : decode cX8_init 18 = .ok (.return_, 1) := by decide +kernel
theorem dX3_setNode_0 : decode cX3_setNode 0 = .ok (.iload_n 2, 1) := by decide +kernel
theorem dX3_setNode_1 : decode cX3_setNode 1 = .ok (.bipush 8, 2) := by decide +kernel
theorem dX3_setNode_3 : decode cX3_setNode 3 = .ok (.if_icmp .ge 37, 3) := by decide +kernel
theorem dX3_setNode_6 : decode cX3_setNode 6 = .ok (.iload_n 1, 1) := by decide +kernel
theorem dX3_setNode_7 : decode cX3_setNode 7 = .ok (.bipush 8, 2) := by decide +kernel
theorem dX3_setNode_9 : decode cX3_setNode 9 = .ok (.imul, 1) := by decide +kernel
theorem dX3_setNode_10 : decode cX3_setNode 10 = .ok (.iload_n 2, 1) := by decide +kernel
theorem dX3_setNode_11 : decode cX3_setNode 11 = .ok (.iadd, 1) := by decide +kernel
theorem dX3_setNode_12 : decode cX3_setNode 12 = .ok (.istore 6, 2) := by decide +kernel
theorem dX3_setNode_14 : decode cX3_setNode 14 = .ok (.aload_n 0, 1) := by decide +kernel
theorem dX3_setNode_15 : decode cX3_setNode 15 = .ok (.getfield 24, 3) := by decide +kernel
theorem dX3_setNode_18 : decode cX3_setNode 18 = .ok (.iload 6, 2) := by decide +kernel
theorem dX3_setNode_20 : decode cX3_setNode 20 = .ok (.iload_n 3, 1) := by decide +kernel
theorem dX3_setNode_21 : decode cX3_setNode 21 = .ok (.iastore, 1) := by decide +kernel
theorem dX3_setNode_22 : decode cX3_setNode 22 = .ok (.aload_n 0, 1) := by decide +kernel
theorem dX3_setNode_23 : decode cX3_setNode 23 = .ok (.getfield 27, 3) := by decide +kernel
theorem dX3_setNode_26 : decode cX3_setNode 26 = .ok (.iload 6, 2) := by decide +kernel
theorem dX3_setNode_28 : decode cX3_setNode 28 = .ok (.iload 4, 2) := by decide +kernel
theorem dX3_setNode_30 : decode cX3_setNode 30 = .ok (.iastore, 1) := by decide +kernel
theorem dX3_setNode_31 : decode cX3_setNode 31 = .ok (.aload_n 0, 1) := by decide +kernel
theorem dX3_setNode_32 : decode cX3_setNode 32 = .ok (.getfield 30, 3) := by decide +kernel
theorem dX3_setNode_35 : decode cX3_setNode 35 = .ok (.iload 6, 2) := by decide +kernel
theorem dX3_setNode_37 : decode cX3_setNode 37 = .ok (.iload 5, 2) := by decide +kernel
theorem dX3_setNode_39 : decode cX3_setNode 39 = .ok (.iastore, 1) := by decide +kernel
theorem dX3_setNode_40 : decode cX3_setNode 40 = .ok (.return_, 1) := by decide +kernel
theorem dX3_setFirst_0 : decode cX3_setFirst 0 = .ok (.aload_n 0, 1) := by decide +kernel
theorem dX3_setFirst_1 : decode cX3_setFirst 1 = .ok (.bipush 100, 2) := by decide +kernel
theorem dX3_setFirst_3 : decode cX3_setFirst 3 = .ok (.putfield 39, 3) := by decide +kernel
theorem dX3_setFirst_6 : decode cX3_setFirst 6 = .ok (.aload_n 0, 1) := by decide +kernel
theorem dX3_setFirst_7 : decode cX3_setFirst 7 = .ok (.bipush 30, 2) := by decide +kernel
theorem dX3_setFirst_9 : decode cX3_setFirst 9 = .ok (.putfield 43, 3) := by decide +kernel
theorem dX3_setFirst_12 : decode cX3_setFirst 12 = .ok (.aload_n 0, 1) := by decide +kernel
theorem dX3_setFirst_13 : decode cX3_setFirst 13 = .ok (.iconst 3, 1) := by decide +kernel
theorem dX3_setFirst_14 : decode cX3_setFirst 14 = .ok (.putfield 46, 3) := by decide +kernel
theorem dX3_setFirst_17 : decode cX3_setFirst 17 = .ok (.aload_n 0, 1) := by decide +kernel
theorem dX3_setFirst_18 : decode cX3_setFirst 18 = .ok (.iconst 2, 1) := by decide +kernel
theorem dX3_setFirst_19 : decode cX3_setFirst 19 = .ok (.putfield 49, 3) := by decide +kernel
theorem dX3_setFirst_22 : decode cX3_setFirst 22 = .ok (.iconst 0, 1) := by decide +kernel
theorem dX3_setFirst_23 : decode cX3_setFirst 23 = .ok (.istore_n 1, 1) := by decide +kernel
theorem dX3_setFirst_24 : decode cX3_setFirst 24 = .ok (.iload_n 1, 1) := by decide +kernel
theorem dX3_setFirst_25 : decode cX3_setFirst 25 = .ok (.iconst 3, 1) := by decide +kernel
theorem dX3_setFirst_26 : decode cX3_setFirst 26 = .ok (.if_icmp .gt 36, 3) := by decide +kernel
theorem dX3_setFirst_29 : decode cX3_setFirst 29 = .ok (.aload_n 0, 1) := by decide +kernel
theorem dX3_setFirst_30 : decode cX3_setFirst 30 = .ok (.getfield 9, 3) := by decide +kernel
theorem dX3_setFirst_33 : decode cX3_setFirst 33 = .ok (.iload_n 1, 1) := by decide +kernel
theorem dX3_setFirst_34 : decode cX3_setFirst 34 = .ok (.sipush 1000, 3) := by decide +kernel
theorem dX3_setFirst_37 : decode cX3_setFirst 37 = .ok (.iload_n 1, 1) := by decide +kernel
theorem dX3_setFirst_38 : decode cX3_setFirst 38 = .ok (.imul, 1) := by decide +kernel
theorem dX3_setFirst_39 : decode cX3_setFirst 39 = .ok (.iastore, 1) := by decide +kernel
theorem dX3_setFirst_40 : decode cX3_setFirst 40 = .ok (.aload_n 0, 1) := by decide +kernel
theorem dX3_setFirst_41 : decode cX3_setFirst 41 = .ok (.getfield 15, 3) := by decide +kernel
theorem dX3_setFirst_44 : decode cX3_setFirst 44 = .ok (.iload_n 1, 1) := by decide +kernel
theorem dX3_setFirst_45 : decode cX3_setFirst 45 = .ok (.iload_n 1, 1) := by decide +kernel
theorem dX3_setFirst_46 : decode cX3_setFirst 46 = .ok (.iastore, 1) := by decide +kernel
theorem dX3_setFirst_47 : decode cX3_setFirst 47 = .ok (.aload_n 0, 1) := by decide +kernel
theorem dX3_setFirst_48 : decode cX3_setFirst 48 = .ok (.getfield 18, 3) := by decide +kernel
theorem dX3_setFirst_51 : decode cX3_setFirst 51 = .ok (.iload_n 1, 1) := by decide +kernel
theorem dX3_setFirst_52 : decode cX3_setFirst 52 = .ok (.iload_n 1, 1) := by decide +kernel
theorem dX3_setFirst_53 : decode cX3_setFirst 53 = .ok (.iconst 1, 1) := by decide +kernel
theorem dX3_setFirst_54 : decode cX3_setFirst 54 = .ok (.iadd, 1) := by decide +kernel
theorem dX3_setFirst_55 : decode cX3_setFirst 55 = .ok (.iastore, 1) := by decide +kernel
theorem dX3_setFirst_56 : decode cX3_setFirst 56 = .ok (.iinc 1 1, 3) := by decide +kernel
theorem dX3_setFirst_59 : decode cX3_setFirst 59 = .ok (.goto (-35), 3) := by decide +kernel
theorem dX3_setFirst_62 : decode cX3_setFirst 62 = .ok (.iconst 1, 1) := by decide +kernel
theorem dX3_setFirst_63 : decode cX3_setFirst 63 = .ok (.istore_n 1, 1) := by decide +kernel
theorem dX3_setFirst_64 : decode cX3_setFirst 64 = .ok (.iload_n 1, 1) := by decide +kernel
theorem dX3_setFirst_65 : decode cX3_setFirst 65 = .ok (.iconst 5, 1) := by decide +kernel
theorem dX3_setFirst_66 : decode cX3_setFirst 66 = .ok (.if_icmp .gt 45, 3) := by decide +kernel
theorem dX3_setFirst_69 : decode cX3_setFirst 69 = .ok (.aload_n 0, 1) := by decide +kernel
theorem dX3_setFirst_70 : decode cX3_setFirst 70 = .ok (.iload_n 1, 1) := by decide +kernel
theorem dX3_setFirst_71 : decode cX3_setFirst 71 = .ok (.iconst 0, 1) := by decide +kernel
theorem dX3_setFirst_72 : decode cX3_setFirst 72 = .ok (.bipush 11, 2) := by decide +kernel
theorem dX3_setFirst_74 : decode cX3_setFirst 74 = .ok (.iconst 0, 1) := by decide +kernel
theorem dX3_setFirst_75 : decode cX3_setFirst 75 = .ok (.iload_n 1, 1) := by decide +kernel
theorem dX3_setFirst_76 : decode cX3_setFirst 76 = .ok (.iconst 1, 1) := by decide +kernel
theorem dX3_setFirst_77 : decode cX3_setFirst 77 = .ok (.if_icmp .ne 8, 3) := by decide +kernel
theorem dX3_setFirst_80 : decode cX3_setFirst 80 = .ok (.bipush 10, 2) := by decide +kernel
theorem dX3_setFirst_82 : decode cX3_setFirst 82 = .ok (.goto 13, 3) := by decide +kernel
theorem dX3_setFirst_85 : decode cX3_setFirst 85 = .ok (.iload_n 1, 1) := by decide +kernel
theorem dX3_setFirst_86 : decode cX3_setFirst 86 = .ok (.iconst 2, 1) := by decide +kernel
theorem dX3_setFirst_87 : decode cX3_setFirst 87 = .ok (.if_icmp .ne 7, 3) := by decide +kernel
theorem dX3_setFirst_90 : decode cX3_setFirst 90 = .ok (.iconst 5, 1) := by decide +kernel
theorem dX3_setFirst_91 : decode cX3_setFirst 91 = .ok (.goto 4, 3) := by decide +kernel
theorem dX3_setFirst_94 : decode cX3_setFirst 94 = .ok (.iconst 0, 1) := by decide +kernel
theorem dX3_setFirst_95 : decode cX3_setFirst 95 = .ok (.invokevirtual 52, 3) := by decide +kernel
theorem dX3_setFirst_98 : decode cX3_setFirst 98 = .ok (.aload_n 0, 1) := by decide +kernel
theorem dX3_setFirst_99 : decode cX3_setFirst 99 = .ok (.getfield 21, 3) := by decide +kernel
theorem dX3_setFirst_102 : decode cX3_setFirst 102 = .ok (.iload_n 1, 1) := by decide +kernel
theorem dX3_setFirst_103 : decode cX3_setFirst 103 = .ok (.iconst 1, 1) := by decide +kernel
theorem dX3_setFirst_104 : decode cX3_setFirst 104 = .ok (.iastore, 1) := by decide +kernel
theorem dX3_setFirst_105 : decode cX3_setFirst 105 = .ok (.iinc 1 1, 3) := by decide +kernel
theorem dX3_setFirst_108 : decode cX3_setFirst 108 = .ok (.goto (-44), 3) := by decide +kernel
theorem dX3_setFirst_111 : decode cX3_setFirst 111 = .ok (.return_, 1) := by decide +kernel
theorem dX3_init_0 : decode cX3_init 0 = .ok (.aload_n 0, 1) := by decide +kernel
theorem dX3_init_1 : decode cX3_init 1 = .ok (.invokespecial 3, 3) := by decide +kernel
theorem dX3_init_4 : decode cX3_init 4 = .ok (.aload_n 0, 1) := by decide +kernel
theorem dX3_init_5 : decode cX3_init 5 = .ok (.iconst 4, 1) := by decide +kernel
theorem dX3_init_6 : decode cX3_init 6 = .ok (.newarray .int, 2) := by decide +kernel
theorem dX3_init_8 : decode cX3_init 8 = .ok (.putfield 9, 3) := by decide +kernel
theorem dX3_init_11 : decode cX3_init 11 = .ok (.aload_n 0, 1) := by decide +kernel
theorem dX3_init_12 : decode cX3_init 12 = .ok (.iconst 4, 1) := by decide +kernel
theorem dX3_init_13 : decode cX3_init 13 = .ok (.newarray .int, 2) := by decide +kernel
theorem dX3_init_15 : decode cX3_init 15 = .ok (.putfield 15, 3) := by decide +kernel
theorem dX3_init_18 : decode cX3_init 18 = .ok (.aload_n 0, 1) := by decide +kernel
theorem dX3_init_19 : decode cX3_init 19 = .ok (.iconst 4, 1) := by decide +kernel
theorem dX3_init_20 : decode cX3_init 20 = .ok (.newarray .int, 2) := by decide +kernel
theorem dX3_init_22 : decode cX3_init 22 = .ok (.putfield 18, 3) := by decide +kernel
theorem dX3_init_25 : decode cX3_init 25 = .ok (.aload_n 0, 1) := by decide +kernel
theorem dX3_init_26 : decode cX3_init 26 = .ok (.bipush 6, 2) := by decide +kernel
theorem dX3_init_28 : decode cX3_init 28 = .ok (.newarray .int, 2) := by decide +kernel
theorem dX3_init_30 : decode cX3_init 30 = .ok (.putfield 21, 3) := by decide +kernel
theorem dX3_init_33 : decode cX3_init 33 = .ok (.aload_n 0, 1) := by decide +kernel
theorem dX3_init_34 : decode cX3_init 34 = .ok (.bipush 48, 2) := by decide +kernel
theorem dX3_init_36 : decode cX3_init 36 = .ok (.newarray .int, 2) := by decide +kernel
theorem dX3_init_38 : decode cX3_init 38 = .ok (.putfield 24, 3) := by decide +kernel
theorem dX3_init_41 : decode cX3_init 41 = .ok (.aload_n 0, 1) := by decide +kernel
theorem dX3_init_42 : decode cX3_init 42 = .ok (.bipush 48, 2) := by decide +kernel
theorem dX3_init_44 : decode cX3_init 44 = .ok (.newarray .int, 2) := by decide +kernel
theorem dX3_init_46 : decode cX3_init 46 = .ok (.putfield 27, 3) := by decide +kernel
theorem dX3_init_49 : decode cX3_init 49 = .ok (.aload_n 0, 1) := by decide +kernel
theorem dX3_init_50 : decode cX3_init 50 = .ok (.bipush 48, 2) := by decide +kernel
theorem dX3_init_52 : decode cX3_init 52 = .ok (.newarray .int, 2) := by decide +kernel
theorem dX3_init_54 : decode cX3_init 54 = .ok (.putfield 30, 3) := by decide +kernel
theorem dX3_init_57 : decode cX3_init 57 = .ok (.aload_n 0, 1) := by decide +kernel
theorem dX3_init_58 : decode cX3_init 58 = .ok (.bipush 8, 2) := by decide +kernel
theorem dX3_init_60 : decode cX3_init 60 = .ok (.newarray .int, 2) := by decide +kernel
theorem dX3_init_62 : decode cX3_init 62 = .ok (.putfield 33, 3) := by decide +kernel
theorem dX3_init_65 : decode cX3_init 65 = .ok (.aload_n 0, 1) := by decide +kernel
theorem dX3_init_66 : decode cX3_init 66 = .ok (.invokevirtual 36, 3) := by decide +kernel
theorem dX3_init_69 : decode cX3_init 69 = .ok (.return_, 1) := by decide +kernel
theorem dX0_admit_0 : decode cX0_admit 0 = .ok (.aload_n 0, 1) := by decide +kernel
theorem dX0_admit_1 : decode cX0_admit 1 = .ok (.getfield 9, 3) := by decide +kernel
theorem dX0_admit_4 : decode cX0_admit 4 = .ok (.istore_n 3, 1) := by decide +kernel
theorem dX0_admit_5 : decode cX0_admit 5 = .ok (.iload_n 3, 1) := by decide +kernel
theorem dX0_admit_6 : decode cX0_admit 6 = .ok (.bipush 10, 2) := by decide +kernel
theorem dX0_admit_8 : decode cX0_admit 8 = .ok (.if_icmp .lt 5, 3) := by decide +kernel
theorem dX0_admit_11 : decode cX0_admit 11 = .ok (.iconst (-1), 1) := by decide +kernel
theorem dX0_admit_12 : decode cX0_admit 12 = .ok (.ireturn, 1) := by decide +kernel
theorem dX0_admit_13 : decode cX0_admit 13 = .ok (.aload_n 0, 1) := by decide +kernel
theorem dX0_admit_14 : decode cX0_admit 14 = .ok (.getfield 15, 3) := by decide +kernel
theorem dX0_admit_17 : decode cX0_admit 17 = .ok (.iload_n 3, 1) := by decide +kernel
theorem dX0_admit_18 : decode cX0_admit 18 = .ok (.iload_n 2, 1) := by decide +kernel
theorem dX0_admit_19 : decode cX0_admit 19 = .ok (.iastore, 1) := by decide +kernel
theorem dX0_admit_20 : decode cX0_admit 20 = .ok (.aload_n 0, 1) := by decide +kernel
theorem dX0_admit_21 : decode cX0_admit 21 = .ok (.getfield 19, 3) := by decide +kernel
theorem dX0_admit_24 : decode cX0_admit 24 = .ok (.iload_n 3, 1) := by decide +kernel
theorem dX0_admit_25 : decode cX0_admit 25 = .ok (.iconst (-1), 1) := by decide +kernel
theorem dX0_admit_26 : decode cX0_admit 26 = .ok (.iastore, 1) := by decide +kernel
theorem dX0_admit_27 : decode cX0_admit 27 = .ok (.aload_n 0, 1) := by decide +kernel
theorem dX0_admit_28 : decode cX0_admit 28 = .ok (.getfield 22, 3) := by decide +kernel
theorem dX0_admit_31 : decode cX0_admit 31 = .ok (.iload_n 3, 1) := by decide +kernel
theorem dX0_admit_32 : decode cX0_admit 32 = .ok (.iconst 0, 1) := by decide +kernel
theorem dX0_admit_33 : decode cX0_admit 33 = .ok (.iastore, 1) := by decide +kernel
theorem dX0_admit_34 : decode cX0_admit 34 = .ok (.aload_n 0, 1) := by decide +kernel
theorem dX0_admit_35 : decode cX0_admit 35 = .ok (.getfield 25, 3) := by decide +kernel
theorem dX0_admit_38 : decode cX0_admit 38 = .ok (.iload_n 3, 1) := by decide +kernel
theorem dX0_admit_39 : decode cX0_admit 39 = .ok (.iconst 0, 1) := by decide +kernel
theorem dX0_admit_40 : decode cX0_admit 40 = .ok (.iastore, 1) := by decide +kernel
theorem dX0_admit_41 : decode cX0_admit 41 = .ok (.aload_n 0, 1) := by decide +kernel
theorem dX0_admit_42 : decode cX0_admit 42 = .ok (.getfield 34, 3) := by decide +kernel
theorem dX0_admit_45 : decode cX0_admit 45 = .ok (.iload_n 3, 1) := by decide +kernel
theorem dX0_admit_46 : decode cX0_admit 46 = .ok (.iload_n 1, 1) := by decide +kernel
theorem dX0_admit_47 : decode cX0_admit 47 = .ok (.iastore, 1) := by decide +kernel
theorem dX0_admit_48 : decode cX0_admit 48 = .ok (.aload_n 0, 1) := by decide +kernel
theorem dX0_admit_49 : decode cX0_admit 49 = .ok (.dup, 1) := by decide +kernel
theorem dX0_admit_50 : decode cX0_admit 50 = .ok (.getfield 9, 3) := by decide +kernel
theorem dX0_admit_53 : decode cX0_admit 53 = .ok (.iconst 1, 1) := by decide +kernel
theorem dX0_admit_54 : decode cX0_admit 54 = .ok (.iadd, 1) := by decide +kernel
theorem dX0_admit_55 : decode cX0_admit 55 = .ok (.putfield 9, 3) := by decide +kernel
theorem dX0_admit_58 : decode cX0_admit 58 = .ok (.iload_n 3, 1) := by decide +kernel
theorem dX0_admit_59 : decode cX0_admit 59 = .ok (.ireturn, 1) := by decide +kernel
theorem dX0_clear_0 : decode cX0_clear 0 = .ok (.aload_n 0, 1) := by decide +kernel
theorem dX0_clear_1 : decode cX0_clear 1 = .ok (.iconst 0, 1) := by decide +kernel
theorem dX0_clear_2 : decode cX0_clear 2 = .ok (.putfield 9, 3) := by decide +kernel
theorem dX0_clear_5 : decode cX0_clear 5 = .ok (.aload_n 0, 1) := by decide +kernel
theorem dX0_clear_6 : decode cX0_clear 6 = .ok (.iconst (-1), 1) := by decide +kernel
theorem dX0_clear_7 : decode cX0_clear 7 = .ok (.iconst 0, 1) := by decide +kernel
theorem dX0_clear_8 : decode cX0_clear 8 = .ok (.invokevirtual 40, 3) := by decide +kernel
theorem dX0_clear_11 : decode cX0_clear 11 = .ok (.pop, 1) := by decide +kernel
theorem dX0_clear_12 : decode cX0_clear 12 = .ok (.return_, 1) := by decide +kernel
theorem dX0_init_0 : decode cX0_init 0 = .ok (.aload_n 0, 1) := by decide +kernel
theorem dX0_init_1 : decode cX0_init 1 = .ok (.invokespecial 3, 3) := by decide +kernel
theorem dX0_init_4 : decode cX0_init 4 = .ok (.aload_n 0, 1) := by decide +kernel
theorem dX0_init_5 : decode cX0_init 5 = .ok (.iconst 1, 1) := by decide +kernel
theorem dX0_init_6 : decode cX0_init 6 = .ok (.putfield 9, 3) := by decide +kernel
theorem dX0_init_9 : decode cX0_init 9 = .ok (.aload_n 0, 1) := by decide +kernel
theorem dX0_init_10 : decode cX0_init 10 = .ok (.bipush 10, 2) := by decide +kernel
theorem dX0_init_12 : decode cX0_init 12 = .ok (.newarray .int, 2) := by decide +kernel
theorem dX0_init_14 : decode cX0_init 14 = .ok (.putfield 15, 3) := by decide +kernel
theorem dX0_init_17 : decode cX0_init 17 = .ok (.aload_n 0, 1) := by decide +kernel
theorem dX0_init_18 : decode cX0_init 18 = .ok (.bipush 10, 2) := by decide +kernel
theorem dX0_init_20 : decode cX0_init 20 = .ok (.newarray .int, 2) := by decide +kernel
theorem dX0_init_22 : decode cX0_init 22 = .ok (.putfield 19, 3) := by decide +kernel
theorem dX0_init_25 : decode cX0_init 25 = .ok (.aload_n 0, 1) := by decide +kernel
theorem dX0_init_26 : decode cX0_init 26 = .ok (.bipush 10, 2) := by decide +kernel
theorem dX0_init_28 : decode cX0_init 28 = .ok (.newarray .int, 2) := by decide +kernel
theorem dX0_init_30 : decode cX0_init 30 = .ok (.putfield 22, 3) := by decide +kernel
theorem dX0_init_33 : decode cX0_init 33 = .ok (.aload_n 0, 1) := by decide +kernel
theorem dX0_init_34 : decode cX0_init 34 = .ok (.bipush 10, 2) := by decide +kernel
theorem dX0_init_36 : decode cX0_init 36 = .ok (.newarray .int, 2) := by decide +kernel
theorem dX0_init_38 : decode cX0_init 38 = .ok (.putfield 25, 3) := by decide +kernel
theorem dX0_init_41 : decode cX0_init 41 = .ok (.aload_n 0, 1) := by decide +kernel
theorem dX0_init_42 : decode cX0_init 42 = .ok (.bipush 120, 2) := by decide +kernel
theorem dX0_init_44 : decode cX0_init 44 = .ok (.newarray .int, 2) := by decide +kernel
theorem dX0_init_46 : decode cX0_init 46 = .ok (.putfield 28, 3) := by decide +kernel
theorem dX0_init_49 : decode cX0_init 49 = .ok (.aload_n 0, 1) := by decide +kernel
theorem dX0_init_50 : decode cX0_init 50 = .ok (.bipush 120, 2) := by decide +kernel
theorem dX0_init_52 : decode cX0_init 52 = .ok (.newarray .int, 2) := by decide +kernel
theorem dX0_init_54 : decode cX0_init 54 = .ok (.putfield 31, 3) := by decide +kernel
theorem dX0_init_57 : decode cX0_init 57 = .ok (.aload_n 0, 1) := by decide +kernel
theorem dX0_init_58 : decode cX0_init 58 = .ok (.bipush 10, 2) := by decide +kernel
theorem dX0_init_60 : decode cX0_init 60 = .ok (.newarray .int, 2) := by decide +kernel
theorem dX0_init_62 : decode cX0_init 62 = .ok (.putfield 34, 3) := by decide +kernel
theorem dX0_init_65 : decode cX0_init 65 = .ok (.aload_n 0, 1) := by decide +kernel
theorem dX0_init_66 : decode cX0_init 66 = .ok (.invokevirtual 37, 3) := by decide +kernel
theorem dX0_init_69 : decode cX0_init 69 = .ok (.return_, 1) := by decide +kernel
theorem dX5_init_0 : decode cX5_init 0 = .ok (.aload_n 0, 1) := by decide +kernel
theorem dX5_init_1 : decode cX5_init 1 = .ok (.invokespecial 3, 3) := by decide +kernel
theorem dX5_init_4 : decode cX5_init 4 = .ok (.aload_n 0, 1) := by decide +kernel
theorem dX5_init_5 : decode cX5_init 5 = .ok (.iconst 0, 1) := by decide +kernel
theorem dX5_init_6 : decode cX5_init 6 = .ok (.putfield 9, 3) := by decide +kernel
theorem dX5_init_9 : decode cX5_init 9 = .ok (.aload_n 0, 1) := by decide +kernel
theorem dX5_init_10 : decode cX5_init 10 = .ok (.bipush 40, 2) := by decide +kernel
theorem dX5_init_12 : decode cX5_init 12 = .ok (.newarray .int, 2) := by decide +kernel
theorem dX5_init_14 : decode cX5_init 14 = .ok (.putfield 15, 3) := by decide +kernel
theorem dX5_init_17 : decode cX5_init 17 = .ok (.aload_n 0, 1) := by decide +kernel
theorem dX5_init_18 : decode cX5_init 18 = .ok (.bipush 40, 2) := by decide +kernel
theorem dX5_init_20 : decode cX5_init 20 = .ok (.newarray .int, 2) := by decide +kernel
theorem dX5_init_22 : decode cX5_init 22 = .ok (.putfield 19, 3) := by decide +kernel
theorem dX5_init_25 : decode cX5_init 25 = .ok (.aload_n 0, 1) := by decide +kernel
theorem dX5_init_26 : decode cX5_init 26 = .ok (.bipush 40, 2) := by decide +kernel
theorem dX5_init_28 : decode cX5_init 28 = .ok (.newarray .int, 2) := by decide +kernel
theorem dX5_init_30 : decode cX5_init 30 = .ok (.putfield 22, 3) := by decide +kernel
theorem dX5_init_33 : decode cX5_init 33 = .ok (.aload_n 0, 1) := by decide +kernel
theorem dX5_init_34 : decode cX5_init 34 = .ok (.bipush 40, 2) := by decide +kernel
theorem dX5_init_36 : decode cX5_init 36 = .ok (.newarray .int, 2) := by decide +kernel
theorem dX5_init_38 : decode cX5_init 38 = .ok (.putfield 25, 3) := by decide +kernel
theorem dX5_init_41 : decode cX5_init 41 = .ok (.aload_n 0, 1) := by decide +kernel
theorem dX5_init_42 : decode cX5_init 42 = .ok (.bipush 40, 2) := by decide +kernel
theorem dX5_init_44 : decode cX5_init 44 = .ok (.newarray .int, 2) := by decide +kernel
theorem dX5_init_46 : decode cX5_init 46 = .ok (.putfield 28, 3) := by decide +kernel
theorem dX5_init_49 : decode cX5_init 49 = .ok (.aload_n 0, 1) := by decide +kernel
theorem dX5_init_50 : decode cX5_init 50 = .ok (.bipush 40, 2) := by decide +kernel
theorem dX5_init_52 : decode cX5_init 52 = .ok (.newarray .int, 2) := by decide +kernel
theorem dX5_init_54 : decode cX5_init 54 = .ok (.putfield 31, 3) := by decide +kernel
theorem dX5_init_57 : decode cX5_init 57 = .ok (.aload_n 0, 1) := by decide +kernel
theorem dX5_init_58 : decode cX5_init 58 = .ok (.sipush 1400, 3) := by decide +kernel
theorem dX5_init_61 : decode cX5_init 61 = .ok (.newarray .int, 2) := by decide +kernel
theorem dX5_init_63 : decode cX5_init 63 = .ok (.putfield 34, 3) := by decide +kernel
theorem dX5_init_66 : decode cX5_init 66 = .ok (.return_, 1) := by decide +kernel
theorem dX1_init_0 : decode cX1_init 0 = .ok (.aload_n 0, 1) := by decide +kernel
theorem dX1_init_1 : decode cX1_init 1 = .ok (.invokespecial 3, 3) := by decide +kernel
theorem dX1_init_4 : decode cX1_init 4 = .ok (.aload_n 0, 1) := by decide +kernel
theorem dX1_init_5 : decode cX1_init 5 = .ok (.bipush 10, 2) := by decide +kernel
theorem dX1_init_7 : decode cX1_init 7 = .ok (.newarray .int, 2) := by decide +kernel
theorem dX1_init_9 : decode cX1_init 9 = .ok (.putfield 9, 3) := by decide +kernel
theorem dX1_init_12 : decode cX1_init 12 = .ok (.aload_n 0, 1) := by decide +kernel
theorem dX1_init_13 : decode cX1_init 13 = .ok (.bipush 10, 2) := by decide +kernel
theorem dX1_init_15 : decode cX1_init 15 = .ok (.newarray .int, 2) := by decide +kernel
theorem dX1_init_17 : decode cX1_init 17 = .ok (.putfield 15, 3) := by decide +kernel
theorem dX1_init_20 : decode cX1_init 20 = .ok (.aload_n 0, 1) := by decide +kernel
theorem dX1_init_21 : decode cX1_init 21 = .ok (.sipush 640, 3) := by decide +kernel
theorem dX1_init_24 : decode cX1_init 24 = .ok (.newarray .int, 2) := by decide +kernel
theorem dX1_init_26 : decode cX1_init 26 = .ok (.putfield 18, 3) := by decide +kernel
theorem dX1_init_29 : decode cX1_init 29 = .ok (.return_, 1) := by decide +kernel
theorem dX7_init_0 : decode cX7_init 0 = .ok (.aload_n 0, 1) := by decide +kernel
theorem dX7_init_1 : decode cX7_init 1 = .ok (.invokespecial 3, 3) := by decide +kernel
theorem dX7_init_4 : decode cX7_init 4 = .ok (.aload_n 0, 1) := by decide +kernel
theorem dX7_init_5 : decode cX7_init 5 = .ok (.new 9, 3) := by decide +kernel
theorem dX7_init_8 : decode cX7_init 8 = .ok (.dup, 1) := by decide +kernel
theorem dX7_init_9 : decode cX7_init 9 = .ok (.invokespecial 11, 3) := by decide +kernel
theorem dX7_init_12 : decode cX7_init 12 = .ok (.putfield 12, 3) := by decide +kernel
theorem dX7_init_15 : decode cX7_init 15 = .ok (.aload_n 0, 1) := by decide +kernel
theorem dX7_init_16 : decode cX7_init 16 = .ok (.new 18, 3) := by decide +kernel
theorem dX7_init_19 : decode cX7_init 19 = .ok (.dup, 1) := by decide +kernel
theorem dX7_init_20 : decode cX7_init 20 = .ok (.invokespecial 20, 3) := by decide +kernel
theorem dX7_init_23 : decode cX7_init 23 = .ok (.putfield 21, 3) := by decide +kernel
theorem dX7_init_26 : decode cX7_init 26 = .ok (.aload_n 0, 1) := by decide +kernel
theorem dX7_init_27 : decode cX7_init 27 = .ok (.new 25, 3) := by decide +kernel
theorem dX7_init_30 : decode cX7_init 30 = .ok (.dup, 1) := by decide +kernel
theorem dX7_init_31 : decode cX7_init 31 = .ok (.invokespecial 27, 3) := by decide +kernel
theorem dX7_init_34 : decode cX7_init 34 = .ok (.putfield 28, 3) := by decide +kernel
theorem dX7_init_37 : decode cX7_init 37 = .ok (.aload_n 0, 1) := by decide +kernel
theorem dX7_init_38 : decode cX7_init 38 = .ok (.new 32, 3) := by decide +kernel
theorem dX7_init_41 : decode cX7_init 41 = .ok (.dup, 1) := by decide +kernel
theorem dX7_init_42 : decode cX7_init 42 = .ok (.invokespecial 34, 3) := by decide +kernel
theorem dX7_init_45 : decode cX7_init 45 = .ok (.putfield 35, 3) := by decide +kernel
theorem dX7_init_48 : decode cX7_init 48 = .ok (.aload_n 0, 1) := by decide +kernel
theorem dX7_init_49 : decode cX7_init 49 = .ok (.new 39, 3) := by decide +kernel
theorem dX7_init_52 : decode cX7_init 52 = .ok (.dup, 1) := by decide +kernel
theorem dX7_init_53 : decode cX7_init 53 = .ok (.invokespecial 41, 3) := by decide +kernel
theorem dX7_init_56 : decode cX7_init 56 = .ok (.putfield 42, 3) := by decide +kernel
theorem dX7_init_59 : decode cX7_init 59 = .ok (.aload_n 0, 1) := by decide +kernel
theorem dX7_init_60 : decode cX7_init 60 = .ok (.bipush 10, 2) := by decide +kernel
theorem dX7_init_62 : decode cX7_init 62 = .ok (.newarray .int, 2) := by decide +kernel
theorem dX7_init_64 : decode cX7_init 64 = .ok (.putfield 46, 3) := by decide +kernel
theorem dX7_init_67 : decode cX7_init 67 = .ok (.aload_n 0, 1) := by decide +kernel
theorem dX7_init_68 : decode cX7_init 68 = .ok (.iconst 0, 1) := by decide +kernel
theorem dX7_init_69 : decode cX7_init 69 = .ok (.putfield 50, 3) := by decide +kernel
theorem dX7_init_72 : decode cX7_init 72 = .ok (.aload_n 0, 1) := by decide +kernel
theorem dX7_init_73 : decode cX7_init 73 = .ok (.iconst (-1), 1) := by decide +kernel
theorem dX7_init_74 : decode cX7_init 74 = .ok (.putfield 54, 3) := by decide +kernel
theorem dX7_init_77 : decode cX7_init 77 = .ok (.aload_n 0, 1) := by decide +kernel
theorem dX7_init_78 : decode cX7_init 78 = .ok (.iconst 0, 1) := by decide +kernel
theorem dX7_init_79 : decode cX7_init 79 = .ok (.putfield 57, 3) := by decide +kernel
theorem dX7_init_82 : decode cX7_init 82 = .ok (.return_, 1) := by decide +kernel
theorem dX4_init_0 : decode cX4_init 0 = .ok (.aload_n 0, 1) := by decide +kernel
theorem dX4_init_1 : decode cX4_init 1 = .ok (.invokespecial 3, 3) := by decide +kernel
theorem dX4_init_4 : decode cX4_init 4 = .ok (.aload_n 0, 1) := by decide +kernel
theorem dX4_init_5 : decode cX4_init 5 = .ok (.new 9, 3) := by decide +kernel
theorem dX4_init_8 : decode cX4_init 8 = .ok (.dup, 1) := by decide +kernel
theorem dX4_init_9 : decode cX4_init 9 = .ok (.invokespecial 11, 3) := by decide +kernel
theorem dX4_init_12 : decode cX4_init 12 = .ok (.putfield 12, 3) := by decide +kernel
theorem dX4_init_15 : decode cX4_init 15 = .ok (.aload_n 0, 1) := by decide +kernel
theorem dX4_init_16 : decode cX4_init 16 = .ok (.new 18, 3) := by decide +kernel
theorem dX4_init_19 : decode cX4_init 19 = .ok (.dup, 1) := by decide +kernel
theorem dX4_init_20 : decode cX4_init 20 = .ok (.invokespecial 20, 3) := by decide +kernel
theorem dX4_init_23 : decode cX4_init 23 = .ok (.putfield 21, 3) := by decide +kernel
theorem dX4_init_26 : decode cX4_init 26 = .ok (.aload_n 0, 1) := by decide +kernel
theorem dX4_init_27 : decode cX4_init 27 = .ok (.sipush 601, 3) := by decide +kernel
theorem dX4_init_30 : decode cX4_init 30 = .ok (.newarray .int, 2) := by decide +kernel
theorem dX4_init_32 : decode cX4_init 32 = .ok (.putfield 25, 3) := by decide +kernel
theorem dX4_init_35 : decode cX4_init 35 = .ok (.aload_n 0, 1) := by decide +kernel
theorem dX4_init_36 : decode cX4_init 36 = .ok (.sipush 601, 3) := by decide +kernel
theorem dX4_init_39 : decode cX4_init 39 = .ok (.newarray .int, 2) := by decide +kernel
theorem dX4_init_41 : decode cX4_init 41 = .ok (.putfield 29, 3) := by decide +kernel
theorem dX4_init_44 : decode cX4_init 44 = .ok (.aload_n 0, 1) := by decide +kernel
theorem dX4_init_45 : decode cX4_init 45 = .ok (.sipush 601, 3) := by decide +kernel
theorem dX4_init_48 : decode cX4_init 48 = .ok (.newarray .int, 2) := by decide +kernel
theorem dX4_init_50 : decode cX4_init 50 = .ok (.putfield 32, 3) := by decide +kernel
theorem dX4_init_53 : decode cX4_init 53 = .ok (.aload_n 0, 1) := by decide +kernel
theorem dX4_init_54 : decode cX4_init 54 = .ok (.iconst 0, 1) := by decide +kernel
theorem dX4_init_55 : decode cX4_init 55 = .ok (.putfield 35, 3) := by decide +kernel
theorem dX4_init_58 : decode cX4_init 58 = .ok (.aload_n 0, 1) := by decide +kernel
theorem dX4_init_59 : decode cX4_init 59 = .ok (.iconst 0, 1) := by decide +kernel
theorem dX4_init_60 : decode cX4_init 60 = .ok (.putfield 39, 3) := by decide +kernel
theorem dX4_init_63 : decode cX4_init 63 = .ok (.aload_n 0, 1) := by decide +kernel
theorem dX4_init_64 : decode cX4_init 64 = .ok (.iconst 0, 1) := by decide +kernel
theorem dX4_init_65 : decode cX4_init 65 = .ok (.putfield 42, 3) := by decide +kernel
theorem dX4_init_68 : decode cX4_init 68 = .ok (.aload_n 0, 1) := by decide +kernel
theorem dX4_init_69 : decode cX4_init 69 = .ok (.iconst (-1), 1) := by decide +kernel
theorem dX4_init_70 : decode cX4_init 70 = .ok (.putfield 45, 3) := by decide +kernel
theorem dX4_init_73 : decode cX4_init 73 = .ok (.aload_n 0, 1) := by decide +kernel
theorem dX4_init_74 : decode cX4_init 74 = .ok (.iconst 0, 1) := by decide +kernel
theorem dX4_init_75 : decode cX4_init 75 = .ok (.putfield 48, 3) := by decide +kernel
theorem dX4_init_78 : decode cX4_init 78 = .ok (.aload_n 0, 1) := by decide +kernel
theorem dX4_init_79 : decode cX4_init 79 = .ok (.iconst (-1), 1) := by decide +kernel
theorem dX4_init_80 : decode cX4_init 80 = .ok (.putfield 51, 3) := by decide +kernel
theorem dX4_init_83 : decode cX4_init 83 = .ok (.return_, 1) := by decide +kernel
theorem dX6_init_0 : decode cX6_init 0 = .ok (.aload_n 0, 1) := by decide +kernel
theorem dX6_init_1 : decode cX6_init 1 = .ok (.invokespecial 3, 3) := by decide +kernel
theorem dX6_init_4 : decode cX6_init 4 = .ok (.aload_n 0, 1) := by decide +kernel
theorem dX6_init_5 : decode cX6_init 5 = .ok (.bipush 11, 2) := by decide +kernel
theorem dX6_init_7 : decode cX6_init 7 = .ok (.newarray .int, 2) := by decide +kernel
theorem dX6_init_9 : decode cX6_init 9 = .ok (.putfield 9, 3) := by decide +kernel
theorem dX6_init_12 : decode cX6_init 12 = .ok (.aload_n 0, 1) := by decide +kernel
theorem dX6_init_13 : decode cX6_init 13 = .ok (.bipush 11, 2) := by decide +kernel
theorem dX6_init_15 : decode cX6_init 15 = .ok (.newarray .int, 2) := by decide +kernel
theorem dX6_init_17 : decode cX6_init 17 = .ok (.putfield 15, 3) := by decide +kernel
theorem dX6_init_20 : decode cX6_init 20 = .ok (.aload_n 0, 1) := by decide +kernel
theorem dX6_init_21 : decode cX6_init 21 = .ok (.bipush 11, 2) := by decide +kernel
theorem dX6_init_23 : decode cX6_init 23 = .ok (.newarray .int, 2) := by decide +kernel
theorem dX6_init_25 : decode cX6_init 25 = .ok (.putfield 18, 3) := by decide +kernel
theorem dX6_init_28 : decode cX6_init 28 = .ok (.aload_n 0, 1) := by decide +kernel
theorem dX6_init_29 : decode cX6_init 29 = .ok (.bipush 11, 2) := by decide +kernel
theorem dX6_init_31 : decode cX6_init 31 = .ok (.newarray .int, 2) := by decide +kernel
theorem dX6_init_33 : decode cX6_init 33 = .ok (.putfield 21, 3) := by decide +kernel
theorem dX6_init_36 : decode cX6_init 36 = .ok (.aload_n 0, 1) := by decide +kernel
theorem dX6_init_37 : decode cX6_init 37 = .ok (.bipush 11, 2) := by decide +kernel
theorem dX6_init_39 : decode cX6_init 39 = .ok (.newarray .int, 2) := by decide +kernel
theorem dX6_init_41 : decode cX6_init 41 = .ok (.putfield 24, 3) := by decide +kernel
theorem dX6_init_44 : decode cX6_init 44 = .ok (.aload_n 0, 1) := by decide +kernel
theorem dX6_init_45 : decode cX6_init 45 = .ok (.bipush 11, 2) := by decide +kernel
theorem dX6_init_47 : decode cX6_init 47 = .ok (.newarray .int, 2) := by decide +kernel
theorem dX6_init_49 : decode cX6_init 49 = .ok (.putfield 27, 3) := by decide +kernel
theorem dX6_init_52 : decode cX6_init 52 = .ok (.aload_n 0, 1) := by decide +kernel
theorem dX6_init_53 : decode cX6_init 53 = .ok (.bipush 11, 2) := by decide +kernel
theorem dX6_init_55 : decode cX6_init 55 = .ok (.newarray .int, 2) := by decide +kernel
theorem dX6_init_57 : decode cX6_init 57 = .ok (.putfield 30, 3) := by decide +kernel
theorem dX6_init_60 : decode cX6_init 60 = .ok (.aload_n 0, 1) := by decide +kernel
theorem dX6_init_61 : decode cX6_init 61 = .ok (.bipush 11, 2) := by decide +kernel
theorem dX6_init_63 : decode cX6_init 63 = .ok (.newarray .int, 2) := by decide +kernel
theorem dX6_init_65 : decode cX6_init 65 = .ok (.putfield 33, 3) := by decide +kernel
theorem dX6_init_68 : decode cX6_init 68 = .ok (.aload_n 0, 1) := by decide +kernel
theorem dX6_init_69 : decode cX6_init 69 = .ok (.iconst 0, 1) := by decide +kernel
theorem dX6_init_70 : decode cX6_init 70 = .ok (.putfield 36, 3) := by decide +kernel
theorem dX6_init_73 : decode cX6_init 73 = .ok (.aload_n 0, 1) := by decide +kernel
theorem dX6_init_74 : decode cX6_init 74 = .ok (.iconst 0, 1) := by decide +kernel
theorem dX6_init_75 : decode cX6_init 75 = .ok (.putfield 40, 3) := by decide +kernel
theorem dX6_init_78 : decode cX6_init 78 = .ok (.aload_n 0, 1) := by decide +kernel
theorem dX6_init_79 : decode cX6_init 79 = .ok (.iconst 0, 1) := by decide +kernel
theorem dX6_init_80 : decode cX6_init 80 = .ok (.putfield 43, 3) := by decide +kernel
theorem dX6_init_83 : decode cX6_init 83 = .ok (.aload_n 0, 1) := by decide +kernel
theorem dX6_init_84 : decode cX6_init 84 = .ok (.iconst 0, 1) := by decide +kernel
theorem dX6_init_85 : decode cX6_init 85 = .ok (.putfield 46, 3) := by decide +kernel
theorem dX6_init_88 : decode cX6_init 88 = .ok (.aload_n 0, 1) := by decide +kernel
theorem dX6_init_89 : decode cX6_init 89 = .ok (.iconst 0, 1) := by decide +kernel
theorem dX6_init_90 : decode cX6_init 90 = .ok (.putfield 49, 3) := by decide +kernel
theorem dX6_init_93 : decode cX6_init 93 = .ok (.return_, 1) := by decide +kernel
theorem dX2_init_0 : decode cX2_init 0 = .ok (.aload_n 0, 1) := by decide +kernel
theorem dX2_init_1 : decode cX2_init 1 = .ok (.invokespecial 3, 3) := by decide +kernel
theorem dX2_init_4 : decode cX2_init 4 = .ok (.aload_n 0, 1) := by decide +kernel
theorem dX2_init_5 : decode cX2_init 5 = .ok (.iconst 0, 1) := by decide +kernel
theorem dX2_init_6 : decode cX2_init 6 = .ok (.putfield 9, 3) := by decide +kernel
theorem dX2_init_9 : decode cX2_init 9 = .ok (.aload_n 0, 1) := by decide +kernel
theorem dX2_init_10 : decode cX2_init 10 = .ok (.bipush 35, 2) := by decide +kernel
theorem dX2_init_12 : decode cX2_init 12 = .ok (.newarray .int, 2) := by decide +kernel
theorem dX2_init_14 : decode cX2_init 14 = .ok (.putfield 15, 3) := by decide +kernel
theorem dX2_init_17 : decode cX2_init 17 = .ok (.return_, 1) := by decide +kernel
theorem dX9_init_0 : decode cX9_init 0 = .ok (.aload_n 0, 1) := by decide +kernel
theorem dX9_init_1 : decode cX9_init 1 = .ok (.invokespecial 1, 3) := by decide +kernel
theorem dX9_init_4 : decode cX9_init 4 = .ok (.aload_n 0, 1) := by decide +kernel
theorem dX9_init_5 : decode cX9_init 5 = .ok (.new 7, 3) := by decide +kernel
theorem dX9_init_8 : decode cX9_init 8 = .ok (.dup, 1) := by decide +kernel
theorem dX9_init_9 : decode cX9_init 9 = .ok (.invokespecial 9, 3) := by decide +kernel
theorem dX9_init_12 : decode cX9_init 12 = .ok (.putfield 10, 3) := by decide +kernel
theorem dX9_init_15 : decode cX9_init 15 = .ok (.aload_n 0, 1) := by decide +kernel
theorem dX9_init_16 : decode cX9_init 16 = .ok (.iconst 3, 1) := by decide +kernel
theorem dX9_init_17 : decode cX9_init 17 = .ok (.anewarray 7, 3) := by decide +kernel
theorem dX9_init_20 : decode cX9_init 20 = .ok (.putfield 16, 3) := by decide +kernel
theorem dX9_init_23 : decode cX9_init 23 = .ok (.aload_n 0, 1) := by decide +kernel
theorem dX9_init_24 : decode cX9_init 24 = .ok (.new 20, 3) := by decide +kernel
theorem dX9_init_27 : decode cX9_init 27 = .ok (.dup, 1) := by decide +kernel
theorem dX9_init_28 : decode cX9_init 28 = .ok (.invokespecial 22, 3) := by decide +kernel
theorem dX9_init_31 : decode cX9_init 31 = .ok (.putfield 23, 3) := by decide +kernel
theorem dX9_init_34 : decode cX9_init 34 = .ok (.aload_n 0, 1) := by decide +kernel
theorem dX9_init_35 : decode cX9_init 35 = .ok (.new 27, 3) := by decide +kernel
theorem dX9_init_38 : decode cX9_init 38 = .ok (.dup, 1) := by decide +kernel
theorem dX9_init_39 : decode cX9_init 39 = .ok (.invokespecial 29, 3) := by decide +kernel
theorem dX9_init_42 : decode cX9_init 42 = .ok (.putfield 30, 3) := by decide +kernel
theorem dX9_init_45 : decode cX9_init 45 = .ok (.aload_n 0, 1) := by decide +kernel
theorem dX9_init_46 : decode cX9_init 46 = .ok (.new 34, 3) := by decide +kernel
theorem dX9_init_49 : decode cX9_init 49 = .ok (.dup, 1) := by decide +kernel
theorem dX9_init_50 : decode cX9_init 50 = .ok (.invokespecial 36, 3) := by decide +kernel
theorem dX9_init_53 : decode cX9_init 53 = .ok (.putfield 37, 3) := by decide +kernel
theorem dX9_init_56 : decode cX9_init 56 = .ok (.return_, 1) := by decide +kernel
theorem dX10_atFirst_0 : decode cX10_atFirst 0 = .ok (.iconst 3, 1) := by decide +kernel
theorem dX10_atFirst_1 : decode cX10_atFirst 1 = .ok (.istore_n 1, 1) := by decide +kernel
theorem dX10_atFirst_2 : decode cX10_atFirst 2 = .ok (.iload_n 1, 1) := by decide +kernel
theorem dX10_atFirst_3 : decode cX10_atFirst 3 = .ok (.sipush 147, 3) := by decide +kernel
theorem dX10_atFirst_6 : decode cX10_atFirst 6 = .ok (.if_icmp .ge 16, 3) := by decide +kernel
theorem dX10_atFirst_9 : decode cX10_atFirst 9 = .ok (.aload_n 0, 1) := by decide +kernel
theorem dX10_atFirst_10 : decode cX10_atFirst 10 = .ok (.getfield 17, 3) := by decide +kernel
theorem dX10_atFirst_13 : decode cX10_atFirst 13 = .ok (.iload_n 1, 1) := by decide +kernel
theorem dX10_atFirst_14 : decode cX10_atFirst 14 = .ok (.iconst 0, 1) := by decide +kernel
theorem dX10_atFirst_15 : decode cX10_atFirst 15 = .ok (.iastore, 1) := by decide +kernel
theorem dX10_atFirst_16 : decode cX10_atFirst 16 = .ok (.iinc 1 1, 3) := by decide +kernel
theorem dX10_atFirst_19 : decode cX10_atFirst 19 = .ok (.goto (-17), 3) := by decide +kernel
theorem dX10_atFirst_22 : decode cX10_atFirst 22 = .ok (.aload_n 0, 1) := by decide +kernel
theorem dX10_atFirst_23 : decode cX10_atFirst 23 = .ok (.getfield 17, 3) := by decide +kernel
theorem dX10_atFirst_26 : decode cX10_atFirst 26 = .ok (.iconst 3, 1) := by decide +kernel
theorem dX10_atFirst_27 : decode cX10_atFirst 27 = .ok (.bipush 100, 2) := by decide +kernel
theorem dX10_atFirst_29 : decode cX10_atFirst 29 = .ok (.iastore, 1) := by decide +kernel
theorem dX10_atFirst_30 : decode cX10_atFirst 30 = .ok (.aload_n 0, 1) := by decide +kernel
theorem dX10_atFirst_31 : decode cX10_atFirst 31 = .ok (.getfield 17, 3) := by decide +kernel
theorem dX10_atFirst_34 : decode cX10_atFirst 34 = .ok (.iconst 4, 1) := by decide +kernel
theorem dX10_atFirst_35 : decode cX10_atFirst 35 = .ok (.bipush 30, 2) := by decide +kernel
theorem dX10_atFirst_37 : decode cX10_atFirst 37 = .ok (.iastore, 1) := by decide +kernel
theorem dX10_atFirst_38 : decode cX10_atFirst 38 = .ok (.aload_n 0, 1) := by decide +kernel
theorem dX10_atFirst_39 : decode cX10_atFirst 39 = .ok (.getfield 17, 3) := by decide +kernel
theorem dX10_atFirst_42 : decode cX10_atFirst 42 = .ok (.iconst 5, 1) := by decide +kernel
theorem dX10_atFirst_43 : decode cX10_atFirst 43 = .ok (.iconst 3, 1) := by decide +kernel
theorem dX10_atFirst_44 : decode cX10_atFirst 44 = .ok (.iastore, 1) := by decide +kernel
theorem dX10_atFirst_45 : decode cX10_atFirst 45 = .ok (.aload_n 0, 1) := by decide +kernel
theorem dX10_atFirst_46 : decode cX10_atFirst 46 = .ok (.getfield 17, 3) := by decide +kernel
theorem dX10_atFirst_49 : decode cX10_atFirst 49 = .ok (.bipush 6, 2) := by decide +kernel
theorem dX10_atFirst_51 : decode cX10_atFirst 51 = .ok (.iconst 2, 1) := by decide +kernel
theorem dX10_atFirst_52 : decode cX10_atFirst 52 = .ok (.iastore, 1) := by decide +kernel
theorem dX10_atFirst_53 : decode cX10_atFirst 53 = .ok (.iconst 0, 1) := by decide +kernel
theorem dX10_atFirst_54 : decode cX10_atFirst 54 = .ok (.istore_n 1, 1) := by decide +kernel
theorem dX10_atFirst_55 : decode cX10_atFirst 55 = .ok (.iload_n 1, 1) := by decide +kernel
theorem dX10_atFirst_56 : decode cX10_atFirst 56 = .ok (.iconst 3, 1) := by decide +kernel
theorem dX10_atFirst_57 : decode cX10_atFirst 57 = .ok (.if_icmp .gt 45, 3) := by decide +kernel
theorem dX10_atFirst_60 : decode cX10_atFirst 60 = .ok (.aload_n 0, 1) := by decide +kernel
theorem dX10_atFirst_61 : decode cX10_atFirst 61 = .ok (.getfield 17, 3) := by decide +kernel
theorem dX10_atFirst_64 : decode cX10_atFirst 64 = .ok (.bipush 7, 2) := by decide +kernel
theorem dX10_atFirst_66 : decode cX10_atFirst 66 = .ok (.iload_n 1, 1) := by decide +kernel
theorem dX10_atFirst_67 : decode cX10_atFirst 67 = .ok (.iadd, 1) := by decide +kernel
theorem dX10_atFirst_68 : decode cX10_atFirst 68 = .ok (.sipush 1000, 3) := by decide +kernel
theorem dX10_atFirst_71 : decode cX10_atFirst 71 = .ok (.iload_n 1, 1) := by decide +kernel
theorem dX10_atFirst_72 : decode cX10_atFirst 72 = .ok (.imul, 1) := by decide +kernel
theorem dX10_atFirst_73 : decode cX10_atFirst 73 = .ok (.iastore, 1) := by decide +kernel
theorem dX10_atFirst_74 : decode cX10_atFirst 74 = .ok (.aload_n 0, 1) := by decide +kernel
theorem dX10_atFirst_75 : decode cX10_atFirst 75 = .ok (.getfield 17, 3) := by decide +kernel
theorem dX10_atFirst_78 : decode cX10_atFirst 78 = .ok (.bipush 11, 2) := by decide +kernel
theorem dX10_atFirst_80 : decode cX10_atFirst 80 = .ok (.iload_n 1, 1) := by decide +kernel
theorem dX10_atFirst_81 : decode cX10_atFirst 81 = .ok (.iadd, 1) := by decide +kernel
theorem dX10_atFirst_82 : decode cX10_atFirst 82 = .ok (.iload_n 1, 1) := by decide +kernel
theorem dX10_atFirst_83 : decode cX10_atFirst 83 = .ok (.iastore, 1) := by decide +kernel
theorem dX10_atFirst_84 : decode cX10_atFirst 84 = .ok (.aload_n 0, 1) := by decide +kernel
theorem dX10_atFirst_85 : decode cX10_atFirst 85 = .ok (.getfield 17, 3) := by decide +kernel
theorem dX10_atFirst_88 : decode cX10_atFirst 88 = .ok (.bipush 15, 2) := by decide +kernel
theorem dX10_atFirst_90 : decode cX10_atFirst 90 = .ok (.iload_n 1, 1) := by decide +kernel
theorem dX10_atFirst_91 : decode cX10_atFirst 91 = .ok (.iadd, 1) := by decide +kernel
theorem dX10_atFirst_92 : decode cX10_atFirst 92 = .ok (.iload_n 1, 1) := by decide +kernel
theorem dX10_atFirst_93 : decode cX10_atFirst 93 = .ok (.iconst 1, 1) := by decide +kernel
theorem dX10_atFirst_94 : decode cX10_atFirst 94 = .ok (.iadd, 1) := by decide +kernel
theorem dX10_atFirst_95 : decode cX10_atFirst 95 = .ok (.iastore, 1) := by decide +kernel
theorem dX10_atFirst_96 : decode cX10_atFirst 96 = .ok (.iinc 1 1, 3) := by decide +kernel
theorem dX10_atFirst_99 : decode cX10_atFirst 99 = .ok (.goto (-44), 3) := by decide +kernel
theorem dX10_atFirst_102 : decode cX10_atFirst 102 = .ok (.iconst 0, 1) := by decide +kernel
theorem dX10_atFirst_103 : decode cX10_atFirst 103 = .ok (.istore_n 1, 1) := by decide +kernel
theorem dX10_atFirst_104 : decode cX10_atFirst 104 = .ok (.iload_n 1, 1) := by decide +kernel
theorem dX10_atFirst_105 : decode cX10_atFirst 105 = .ok (.iconst 5, 1) := by decide +kernel
theorem dX10_atFirst_106 : decode cX10_atFirst 106 = .ok (.if_icmp .ge 56, 3) := by decide +kernel
theorem dX10_atFirst_109 : decode cX10_atFirst 109 = .ok (.aload_n 0, 1) := by decide +kernel
theorem dX10_atFirst_110 : decode cX10_atFirst 110 = .ok (.getfield 17, 3) := by decide +kernel
theorem dX10_atFirst_113 : decode cX10_atFirst 113 = .ok (.bipush 19, 2) := by decide +kernel
theorem dX10_atFirst_115 : decode cX10_atFirst 115 = .ok (.bipush 25, 2) := by decide +kernel
theorem dX10_atFirst_117 : decode cX10_atFirst 117 = .ok (.iload_n 1, 1) := by decide +kernel
theorem dX10_atFirst_118 : decode cX10_atFirst 118 = .ok (.imul, 1) := by decide +kernel
theorem dX10_atFirst_119 : decode cX10_atFirst 119 = .ok (.iadd, 1) := by decide +kernel
theorem dX10_atFirst_120 : decode cX10_atFirst 120 = .ok (.iconst 1, 1) := by decide +kernel
theorem dX10_atFirst_121 : decode cX10_atFirst 121 = .ok (.iastore, 1) := by decide +kernel
theorem dX10_atFirst_122 : decode cX10_atFirst 122 = .ok (.aload_n 0, 1) := by decide +kernel
theorem dX10_atFirst_123 : decode cX10_atFirst 123 = .ok (.getfield 17, 3) := by decide +kernel
theorem dX10_atFirst_126 : decode cX10_atFirst 126 = .ok (.bipush 19, 2) := by decide +kernel
theorem dX10_atFirst_128 : decode cX10_atFirst 128 = .ok (.bipush 25, 2) := by decide +kernel
theorem dX10_atFirst_130 : decode cX10_atFirst 130 = .ok (.iload_n 1, 1) := by decide +kernel
theorem dX10_atFirst_131 : decode cX10_atFirst 131 = .ok (.imul, 1) := by decide +kernel
theorem dX10_atFirst_132 : decode cX10_atFirst 132 = .ok (.iadd, 1) := by decide +kernel
theorem dX10_atFirst_133 : decode cX10_atFirst 133 = .ok (.bipush 17, 2) := by decide +kernel
theorem dX10_atFirst_135 : decode cX10_atFirst 135 = .ok (.iadd, 1) := by decide +kernel
theorem dX10_atFirst_136 : decode cX10_atFirst 136 = .ok (.iload_n 1, 1) := by decide +kernel
theorem dX10_atFirst_137 : decode cX10_atFirst 137 = .ok (.ifCond .ne 8, 3) := by decide +kernel
theorem dX10_atFirst_140 : decode cX10_atFirst 140 = .ok (.bipush 10, 2) := by decide +kernel
theorem dX10_atFirst_142 : decode cX10_atFirst 142 = .ok (.goto 13, 3) := by decide +kernel
theorem dX10_atFirst_145 : decode cX10_atFirst 145 = .ok (.iload_n 1, 1) := by decide +kernel
theorem dX10_atFirst_146 : decode cX10_atFirst 146 = .ok (.iconst 1, 1) := by decide +kernel
theorem dX10_atFirst_147 : decode cX10_atFirst 147 = .ok (.if_icmp .ne 7, 3) := by decide +kernel
theorem dX10_atFirst_150 : decode cX10_atFirst 150 = .ok (.iconst 5, 1) := by decide +kernel
theorem dX10_atFirst_151 : decode cX10_atFirst 151 = .ok (.goto 4, 3) := by decide +kernel
theorem dX10_atFirst_154 : decode cX10_atFirst 154 = .ok (.iconst 0, 1) := by decide +kernel
theorem dX10_atFirst_155 : decode cX10_atFirst 155 = .ok (.iastore, 1) := by decide +kernel
theorem dX10_atFirst_156 : decode cX10_atFirst 156 = .ok (.iinc 1 1, 3) := by decide +kernel
theorem dX10_atFirst_159 : decode cX10_atFirst 159 = .ok (.goto (-55), 3) := by decide +kernel
theorem dX10_atFirst_162 : decode cX10_atFirst 162 = .ok (.return_, 1) := by decide +kernel
theorem dX10_joins_0 : decode cX10_joins 0 = .ok (.sipush 147, 3) := by decide +kernel
theorem dX10_joins_3 : decode cX10_joins 3 = .ok (.bipush 94, 2) := by decide +kernel
theorem dX10_joins_5 : decode cX10_joins 5 = .ok (.aload_n 0, 1) := by decide +kernel
theorem dX10_joins_6 : decode cX10_joins 6 = .ok (.getfield 7, 3) := by decide +kernel
theorem dX10_joins_9 : decode cX10_joins 9 = .ok (.sipush 145, 3) := by decide +kernel
theorem dX10_joins_12 : decode cX10_joins 12 = .ok (.iaload, 1) := by decide +kernel
theorem dX10_joins_13 : decode cX10_joins 13 = .ok (.imul, 1) := by decide +kernel
theorem dX10_joins_14 : decode cX10_joins 14 = .ok (.iadd, 1) := by decide +kernel
theorem dX10_joins_15 : decode cX10_joins 15 = .ok (.istore_n 2, 1) := by decide +kernel
theorem dX10_joins_16 : decode cX10_joins 16 = .ok (.iconst 0, 1) := by decide +kernel
theorem dX10_joins_17 : decode cX10_joins 17 = .ok (.istore_n 3, 1) := by decide +kernel
theorem dX10_joins_18 : decode cX10_joins 18 = .ok (.iload_n 3, 1) := by decide +kernel
theorem dX10_joins_19 : decode cX10_joins 19 = .ok (.bipush 94, 2) := by decide +kernel
theorem dX10_joins_21 : decode cX10_joins 21 = .ok (.if_icmp .ge 18, 3) := by decide +kernel
theorem dX10_joins_24 : decode cX10_joins 24 = .ok (.aload_n 0, 1) := by decide +kernel
theorem dX10_joins_25 : decode cX10_joins 25 = .ok (.getfield 7, 3) := by decide +kernel
theorem dX10_joins_28 : decode cX10_joins 28 = .ok (.iload_n 2, 1) := by decide +kernel
theorem dX10_joins_29 : decode cX10_joins 29 = .ok (.iload_n 3, 1) := by decide +kernel
theorem dX10_joins_30 : decode cX10_joins 30 = .ok (.iadd, 1) := by decide +kernel
theorem dX10_joins_31 : decode cX10_joins 31 = .ok (.iconst 0, 1) := by decide +kernel
theorem dX10_joins_32 : decode cX10_joins 32 = .ok (.iastore, 1) := by decide +kernel
theorem dX10_joins_33 : decode cX10_joins 33 = .ok (.iinc 3 1, 3) := by decide +kernel
theorem dX10_joins_36 : decode cX10_joins 36 = .ok (.goto (-18), 3) := by decide +kernel
theorem dX10_joins_39 : decode cX10_joins 39 = .ok (.aload_n 0, 1) := by decide +kernel
theorem dX10_joins_40 : decode cX10_joins 40 = .ok (.getfield 7, 3) := by decide +kernel
theorem dX10_joins_43 : decode cX10_joins 43 = .ok (.iload_n 2, 1) := by decide +kernel
theorem dX10_joins_44 : decode cX10_joins 44 = .ok (.iconst 0, 1) := by decide +kernel
theorem dX10_joins_45 : decode cX10_joins 45 = .ok (.iadd, 1) := by decide +kernel
theorem dX10_joins_46 : decode cX10_joins 46 = .ok (.aload_n 0, 1) := by decide +kernel
theorem dX10_joins_47 : decode cX10_joins 47 = .ok (.getfield 7, 3) := by decide +kernel
theorem dX10_joins_50 : decode cX10_joins 50 = .ok (.sipush 144, 3) := by decide +kernel
theorem dX10_joins_53 : decode cX10_joins 53 = .ok (.iaload, 1) := by decide +kernel
theorem dX10_joins_54 : decode cX10_joins 54 = .ok (.iastore, 1) := by decide +kernel
theorem dX10_joins_55 : decode cX10_joins 55 = .ok (.aload_n 0, 1) := by decide +kernel
theorem dX10_joins_56 : decode cX10_joins 56 = .ok (.getfield 7, 3) := by decide +kernel
theorem dX10_joins_59 : decode cX10_joins 59 = .ok (.iload_n 2, 1) := by decide +kernel
theorem dX10_joins_60 : decode cX10_joins 60 = .ok (.iconst 1, 1) := by decide +kernel
theorem dX10_joins_61 : decode cX10_joins 61 = .ok (.iadd, 1) := by decide +kernel
theorem dX10_joins_62 : decode cX10_joins 62 = .ok (.iconst (-1), 1) := by decide +kernel
theorem dX10_joins_63 : decode cX10_joins 63 = .ok (.iastore, 1) := by decide +kernel
theorem dX10_joins_64 : decode cX10_joins 64 = .ok (.aload_n 0, 1) := by decide +kernel
theorem dX10_joins_65 : decode cX10_joins 65 = .ok (.getfield 7, 3) := by decide +kernel
theorem dX10_joins_68 : decode cX10_joins 68 = .ok (.iload_n 2, 1) := by decide +kernel
theorem dX10_joins_69 : decode cX10_joins 69 = .ok (.iconst 2, 1) := by decide +kernel
theorem dX10_joins_70 : decode cX10_joins 70 = .ok (.iadd, 1) := by decide +kernel
theorem dX10_joins_71 : decode cX10_joins 71 = .ok (.iload_n 1, 1) := by decide +kernel
theorem dX10_joins_72 : decode cX10_joins 72 = .ok (.iastore, 1) := by decide +kernel
theorem dX10_joins_73 : decode cX10_joins 73 = .ok (.aload_n 0, 1) := by decide +kernel
theorem dX10_joins_74 : decode cX10_joins 74 = .ok (.getfield 7, 3) := by decide +kernel
theorem dX10_joins_77 : decode cX10_joins 77 = .ok (.sipush 145, 3) := by decide +kernel
theorem dX10_joins_80 : decode cX10_joins 80 = .ok (.dup2, 1) := by decide +kernel
theorem dX10_joins_81 : decode cX10_joins 81 = .ok (.iaload, 1) := by decide +kernel
theorem dX10_joins_82 : decode cX10_joins 82 = .ok (.iconst 1, 1) := by decide +kernel
theorem dX10_joins_83 : decode cX10_joins 83 = .ok (.iadd, 1) := by decide +kernel
theorem dX10_joins_84 : decode cX10_joins 84 = .ok (.iastore, 1) := by decide +kernel
theorem dX10_joins_85 : decode cX10_joins 85 = .ok (.return_, 1) := by decide +kernel
theorem dX10_taken_0 : decode cX10_taken 0 = .ok (.iconst 3, 1) := by decide +kernel
theorem dX10_taken_1 : decode cX10_taken 1 = .ok (.istore_n 1, 1) := by decide +kernel
theorem dX10_taken_2 : decode cX10_taken 2 = .ok (.iload_n 1, 1) := by decide +kernel
theorem dX10_taken_3 : decode cX10_taken 3 = .ok (.sipush 147, 3) := by decide +kernel
theorem dX10_taken_6 : decode cX10_taken 6 = .ok (.if_icmp .ge 21, 3) := by decide +kernel
theorem dX10_taken_9 : decode cX10_taken 9 = .ok (.aload_n 0, 1) := by decide +kernel
theorem dX10_taken_10 : decode cX10_taken 10 = .ok (.getfield 7, 3) := by decide +kernel
theorem dX10_taken_13 : decode cX10_taken 13 = .ok (.iload_n 1, 1) := by decide +kernel
theorem dX10_taken_14 : decode cX10_taken 14 = .ok (.aload_n 0, 1) := by decide +kernel
theorem dX10_taken_15 : decode cX10_taken 15 = .ok (.getfield 17, 3) := by decide +kernel
theorem dX10_taken_18 : decode cX10_taken 18 = .ok (.iload_n 1, 1) := by decide +kernel
theorem dX10_taken_19 : decode cX10_taken 19 = .ok (.iaload, 1) := by decide +kernel
theorem dX10_taken_20 : decode cX10_taken 20 = .ok (.iastore, 1) := by decide +kernel
theorem dX10_taken_21 : decode cX10_taken 21 = .ok (.iinc 1 1, 3) := by decide +kernel
theorem dX10_taken_24 : decode cX10_taken 24 = .ok (.goto (-22), 3) := by decide +kernel
theorem dX10_taken_27 : decode cX10_taken 27 = .ok (.aload_n 0, 1) := by decide +kernel
theorem dX10_taken_28 : decode cX10_taken 28 = .ok (.getfield 7, 3) := by decide +kernel
theorem dX10_taken_31 : decode cX10_taken 31 = .ok (.sipush 145, 3) := by decide +kernel
theorem dX10_taken_34 : decode cX10_taken 34 = .ok (.iconst 0, 1) := by decide +kernel
theorem dX10_taken_35 : decode cX10_taken 35 = .ok (.iastore, 1) := by decide +kernel
theorem dX10_taken_36 : decode cX10_taken 36 = .ok (.aload_n 0, 1) := by decide +kernel
theorem dX10_taken_37 : decode cX10_taken 37 = .ok (.iconst (-1), 1) := by decide +kernel
theorem dX10_taken_38 : decode cX10_taken 38 = .ok (.invokevirtual 153, 3) := by decide +kernel
theorem dX10_taken_41 : decode cX10_taken 41 = .ok (.return_, 1) := by decide +kernel
theorem dX10_init_0 : decode cX10_init 0 = .ok (.aload_n 0, 1) := by decide +kernel
theorem dX10_init_1 : decode cX10_init 1 = .ok (.invokespecial 1, 3) := by decide +kernel
theorem dX10_init_4 : decode cX10_init 4 = .ok (.aload_n 0, 1) := by decide +kernel
theorem dX10_init_5 : decode cX10_init 5 = .ok (.sipush 10908, 3) := by decide +kernel
theorem dX10_init_8 : decode cX10_init 8 = .ok (.newarray .int, 2) := by decide +kernel
theorem dX10_init_10 : decode cX10_init 10 = .ok (.putfield 7, 3) := by decide +kernel
theorem dX10_init_13 : decode cX10_init 13 = .ok (.aload_n 0, 1) := by decide +kernel
theorem dX10_init_14 : decode cX10_init 14 = .ok (.sipush 2400, 3) := by decide +kernel
theorem dX10_init_17 : decode cX10_init 17 = .ok (.newarray .byte, 2) := by decide +kernel
theorem dX10_init_19 : decode cX10_init 19 = .ok (.putfield 13, 3) := by decide +kernel
theorem dX10_init_22 : decode cX10_init 22 = .ok (.aload_n 0, 1) := by decide +kernel
theorem dX10_init_23 : decode cX10_init 23 = .ok (.sipush 147, 3) := by decide +kernel
theorem dX10_init_26 : decode cX10_init 26 = .ok (.newarray .int, 2) := by decide +kernel
theorem dX10_init_28 : decode cX10_init 28 = .ok (.putfield 17, 3) := by decide +kernel
theorem dX10_init_31 : decode cX10_init 31 = .ok (.aload_n 0, 1) := by decide +kernel
theorem dX10_init_32 : decode cX10_init 32 = .ok (.iconst 3, 1) := by decide +kernel
theorem dX10_init_33 : decode cX10_init 33 = .ok (.newarray .int, 2) := by decide +kernel
theorem dX10_init_35 : decode cX10_init 35 = .ok (.putfield 20, 3) := by decide +kernel
theorem dX10_init_38 : decode cX10_init 38 = .ok (.aload_n 0, 1) := by decide +kernel
theorem dX10_init_39 : decode cX10_init 39 = .ok (.iconst (-1), 1) := by decide +kernel
theorem dX10_init_40 : decode cX10_init 40 = .ok (.putfield 23, 3) := by decide +kernel
theorem dX10_init_43 : decode cX10_init 43 = .ok (.aload_n 0, 1) := by decide +kernel
theorem dX10_init_44 : decode cX10_init 44 = .ok (.bipush 11, 2) := by decide +kernel
theorem dX10_init_46 : decode cX10_init 46 = .ok (.newarray .int, 2) := by decide +kernel
theorem dX10_init_48 : decode cX10_init 48 = .ok (.putfield 27, 3) := by decide +kernel
theorem dX10_init_51 : decode cX10_init 51 = .ok (.aload_n 0, 1) := by decide +kernel
theorem dX10_init_52 : decode cX10_init 52 = .ok (.bipush 11, 2) := by decide +kernel
theorem dX10_init_54 : decode cX10_init 54 = .ok (.newarray .boolean, 2) := by decide +kernel
theorem dX10_init_56 : decode cX10_init 56 = .ok (.putfield 30, 3) := by decide +kernel
theorem dX10_init_59 : decode cX10_init 59 = .ok (.aload_n 0, 1) := by decide +kernel
theorem dX10_init_60 : decode cX10_init 60 = .ok (.sipush 1100, 3) := by decide +kernel
theorem dX10_init_63 : decode cX10_init 63 = .ok (.newarray .int, 2) := by decide +kernel
theorem dX10_init_65 : decode cX10_init 65 = .ok (.putfield 34, 3) := by decide +kernel
theorem dX10_init_68 : decode cX10_init 68 = .ok (.aload_n 0, 1) := by decide +kernel
theorem dX10_init_69 : decode cX10_init 69 = .ok (.bipush 9, 2) := by decide +kernel
theorem dX10_init_71 : decode cX10_init 71 = .ok (.newarray .int, 2) := by decide +kernel
theorem dX10_init_73 : decode cX10_init 73 = .ok (.putfield 37, 3) := by decide +kernel
theorem dX10_init_76 : decode cX10_init 76 = .ok (.aload_n 0, 1) := by decide +kernel
theorem dX10_init_77 : decode cX10_init 77 = .ok (.bipush 35, 2) := by decide +kernel
theorem dX10_init_79 : decode cX10_init 79 = .ok (.newarray .int, 2) := by decide +kernel
theorem dX10_init_81 : decode cX10_init 81 = .ok (.putfield 40, 3) := by decide +kernel
theorem dX10_init_84 : decode cX10_init 84 = .ok (.aload_n 0, 1) := by decide +kernel
theorem dX10_init_85 : decode cX10_init 85 = .ok (.iconst 3, 1) := by decide +kernel
theorem dX10_init_86 : decode cX10_init 86 = .ok (.newarray .boolean, 2) := by decide +kernel
theorem dX10_init_88 : decode cX10_init 88 = .ok (.putfield 43, 3) := by decide +kernel
theorem dX10_init_91 : decode cX10_init 91 = .ok (.aload_n 0, 1) := by decide +kernel
theorem dX10_init_92 : decode cX10_init 92 = .ok (.getfield 7, 3) := by decide +kernel
theorem dX10_init_95 : decode cX10_init 95 = .ok (.iconst 2, 1) := by decide +kernel
theorem dX10_init_96 : decode cX10_init 96 = .ok (.iconst (-1), 1) := by decide +kernel
theorem dX10_init_97 : decode cX10_init 97 = .ok (.iastore, 1) := by decide +kernel
theorem dX10_init_98 : decode cX10_init 98 = .ok (.aload_n 0, 1) := by decide +kernel
theorem dX10_init_99 : decode cX10_init 99 = .ok (.invokevirtual 46, 3) := by decide +kernel
theorem dX10_init_102 : decode cX10_init 102 = .ok (.aload_n 0, 1) := by decide +kernel
theorem dX10_init_103 : decode cX10_init 103 = .ok (.invokevirtual 49, 3) := by decide +kernel
theorem dX10_init_106 : decode cX10_init 106 = .ok (.return_, 1) := by decide +kernel
theorem dX8_append_0 : decode cX8_append 0 = .ok (.bipush 24, 2) := by decide +kernel
theorem dX8_append_2 : decode cX8_append 2 = .ok (.istore_n 2, 1) := by decide +kernel
theorem dX8_append_3 : decode cX8_append 3 = .ok (.iload_n 2, 1) := by decide +kernel
theorem dX8_append_4 : decode cX8_append 4 = .ok (.ifCond .lt 42, 3) := by decide +kernel
theorem dX8_append_7 : decode cX8_append 7 = .ok (.aload_n 0, 1) := by decide +kernel
theorem dX8_append_8 : decode cX8_append 8 = .ok (.getfield 15, 3) := by decide +kernel
theorem dX8_append_11 : decode cX8_append 11 = .ok (.sipush 600, 3) := by decide +kernel
theorem dX8_append_14 : decode cX8_append 14 = .ok (.if_icmp .ge 32, 3) := by decide +kernel
theorem dX8_append_17 : decode cX8_append 17 = .ok (.aload_n 0, 1) := by decide +kernel
theorem dX8_append_18 : decode cX8_append 18 = .ok (.getfield 9, 3) := by decide +kernel
theorem dX8_append_21 : decode cX8_append 21 = .ok (.aload_n 0, 1) := by decide +kernel
theorem dX8_append_22 : decode cX8_append 22 = .ok (.getfield 15, 3) := by decide +kernel
theorem dX8_append_25 : decode cX8_append 25 = .ok (.iload_n 1, 1) := by decide +kernel
theorem dX8_append_26 : decode cX8_append 26 = .ok (.iload_n 2, 1) := by decide +kernel
theorem dX8_append_27 : decode cX8_append 27 = .ok (.ishr, 1) := by decide +kernel
theorem dX8_append_28 : decode cX8_append 28 = .ok (.i2b, 1) := by decide +kernel
theorem dX8_append_29 : decode cX8_append 29 = .ok (.bastore, 1) := by decide +kernel
theorem dX8_append_30 : decode cX8_append 30 = .ok (.aload_n 0, 1) := by decide +kernel
theorem dX8_append_31 : decode cX8_append 31 = .ok (.dup, 1) := by decide +kernel
theorem dX8_append_32 : decode cX8_append 32 = .ok (.getfield 15, 3) := by decide +kernel
theorem dX8_append_35 : decode cX8_append 35 = .ok (.iconst 1, 1) := by decide +kernel
theorem dX8_append_36 : decode cX8_append 36 = .ok (.iadd, 1) := by decide +kernel
theorem dX8_append_37 : decode cX8_append 37 = .ok (.putfield 15, 3) := by decide +kernel
theorem dX8_append_40 : decode cX8_append 40 = .ok (.iinc 2 (-8), 3) := by decide +kernel
theorem dX8_append_43 : decode cX8_append 43 = .ok (.goto (-40), 3) := by decide +kernel
theorem dX8_append_46 : decode cX8_append 46 = .ok (.return_, 1) := by decide +kernel
theorem dX9_feed_0 : decode cX9_feed 0 = .ok (.aload_n 0, 1) := by decide +kernel
theorem dX9_feed_1 : decode cX9_feed 1 = .ok (.getfield 10, 3) := by decide +kernel
theorem dX9_feed_4 : decode cX9_feed 4 = .ok (.getfield 41, 3) := by decide +kernel
theorem dX9_feed_7 : decode cX9_feed 7 = .ok (.astore 6, 2) := by decide +kernel
theorem dX9_feed_9 : decode cX9_feed 9 = .ok (.aload 6, 2) := by decide +kernel
theorem dX9_feed_11 : decode cX9_feed 11 = .ok (.getfield 45, 3) := by decide +kernel
theorem dX9_feed_14 : decode cX9_feed 14 = .ok (.bipush 20, 2) := by decide +kernel
theorem dX9_feed_16 : decode cX9_feed 16 = .ok (.iadd, 1) := by decide +kernel
theorem dX9_feed_17 : decode cX9_feed 17 = .ok (.sipush 600, 3) := by decide +kernel
theorem dX9_feed_20 : decode cX9_feed 20 = .ok (.if_icmp .le 5, 3) := by decide +kernel
theorem dX9_feed_23 : decode cX9_feed 23 = .ok (.iconst (-1), 1) := by decide +kernel
theorem dX9_feed_24 : decode cX9_feed 24 = .ok (.ireturn, 1) := by decide +kernel
theorem dX9_feed_25 : decode cX9_feed 25 = .ok (.aload 6, 2) := by decide +kernel
theorem dX9_feed_27 : decode cX9_feed 27 = .ok (.iload_n 1, 1) := by decide +kernel
theorem dX9_feed_28 : decode cX9_feed 28 = .ok (.invokevirtual 51, 3) := by decide +kernel
theorem dX9_feed_31 : decode cX9_feed 31 = .ok (.aload 6, 2) := by decide +kernel
theorem dX9_feed_33 : decode cX9_feed 33 = .ok (.iload_n 2, 1) := by decide +kernel
theorem dX9_feed_34 : decode cX9_feed 34 = .ok (.invokevirtual 51, 3) := by decide +kernel
theorem dX9_feed_37 : decode cX9_feed 37 = .ok (.aload 6, 2) := by decide +kernel
theorem dX9_feed_39 : decode cX9_feed 39 = .ok (.iload_n 3, 1) := by decide +kernel
theorem dX9_feed_40 : decode cX9_feed 40 = .ok (.invokevirtual 51, 3) := by decide +kernel
theorem dX9_feed_43 : decode cX9_feed 43 = .ok (.aload 6, 2) := by decide +kernel
theorem dX9_feed_45 : decode cX9_feed 45 = .ok (.iload 4, 2) := by decide +kernel
theorem dX9_feed_47 : decode cX9_feed 47 = .ok (.invokevirtual 51, 3) := by decide +kernel
theorem dX9_feed_50 : decode cX9_feed 50 = .ok (.aload 6, 2) := by decide +kernel
theorem dX9_feed_52 : decode cX9_feed 52 = .ok (.iload 5, 2) := by decide +kernel
theorem dX9_feed_54 : decode cX9_feed 54 = .ok (.invokevirtual 51, 3) := by decide +kernel
theorem dX9_feed_57 : decode cX9_feed 57 = .ok (.aload 6, 2) := by decide +kernel
theorem dX9_feed_59 : decode cX9_feed 59 = .ok (.getfield 45, 3) := by decide +kernel
theorem dX9_feed_62 : decode cX9_feed 62 = .ok (.ireturn, 1) := by decide +kernel
theorem dX10_four_0 : decode cX10_four 0 = .ok (.bipush 24, 2) := by decide +kernel
theorem dX10_four_2 : decode cX10_four 2 = .ok (.istore_n 2, 1) := by decide +kernel
theorem dX10_four_3 : decode cX10_four 3 = .ok (.iload_n 2, 1) := by decide +kernel
theorem dX10_four_4 : decode cX10_four 4 = .ok (.ifCond .lt 34, 3) := by decide +kernel
theorem dX10_four_7 : decode cX10_four 7 = .ok (.aload_n 0, 1) := by decide +kernel
theorem dX10_four_8 : decode cX10_four 8 = .ok (.getfield 13, 3) := by decide +kernel
theorem dX10_four_11 : decode cX10_four 11 = .ok (.aload_n 0, 1) := by decide +kernel
theorem dX10_four_12 : decode cX10_four 12 = .ok (.getfield 7, 3) := by decide +kernel
theorem dX10_four_15 : decode cX10_four 15 = .ok (.iconst 0, 1) := by decide +kernel
theorem dX10_four_16 : decode cX10_four 16 = .ok (.iaload, 1) := by decide +kernel
theorem dX10_four_17 : decode cX10_four 17 = .ok (.iload_n 1, 1) := by decide +kernel
theorem dX10_four_18 : decode cX10_four 18 = .ok (.iload_n 2, 1) := by decide +kernel
theorem dX10_four_19 : decode cX10_four 19 = .ok (.ishr, 1) := by decide +kernel
theorem dX10_four_20 : decode cX10_four 20 = .ok (.i2b, 1) := by decide +kernel
theorem dX10_four_21 : decode cX10_four 21 = .ok (.bastore, 1) := by decide +kernel
theorem dX10_four_22 : decode cX10_four 22 = .ok (.aload_n 0, 1) := by decide +kernel
theorem dX10_four_23 : decode cX10_four 23 = .ok (.getfield 7, 3) := by decide +kernel
theorem dX10_four_26 : decode cX10_four 26 = .ok (.iconst 0, 1) := by decide +kernel
theorem dX10_four_27 : decode cX10_four 27 = .ok (.dup2, 1) := by decide +kernel
theorem dX10_four_28 : decode cX10_four 28 = .ok (.iaload, 1) := by decide +kernel
theorem dX10_four_29 : decode cX10_four 29 = .ok (.iconst 1, 1) := by decide +kernel
theorem dX10_four_30 : decode cX10_four 30 = .ok (.iadd, 1) := by decide +kernel
theorem dX10_four_31 : decode cX10_four 31 = .ok (.iastore, 1) := by decide +kernel
theorem dX10_four_32 : decode cX10_four 32 = .ok (.iinc 2 (-8), 3) := by decide +kernel
theorem dX10_four_35 : decode cX10_four 35 = .ok (.goto (-32), 3) := by decide +kernel
theorem dX10_four_38 : decode cX10_four 38 = .ok (.return_, 1) := by decide +kernel
theorem dX10_feed_0 : decode cX10_feed 0 = .ok (.aload_n 0, 1) := by decide +kernel
theorem dX10_feed_1 : decode cX10_feed 1 = .ok (.iconst 0, 1) := by decide +kernel
theorem dX10_feed_2 : decode cX10_feed 2 = .ok (.putfield 52, 3) := by decide +kernel
theorem dX10_feed_5 : decode cX10_feed 5 = .ok (.aload_n 0, 1) := by decide +kernel
theorem dX10_feed_6 : decode cX10_feed 6 = .ok (.getfield 7, 3) := by decide +kernel
theorem dX10_feed_9 : decode cX10_feed 9 = .ok (.iconst 0, 1) := by decide +kernel
theorem dX10_feed_10 : decode cX10_feed 10 = .ok (.iaload, 1) := by decide +kernel
theorem dX10_feed_11 : decode cX10_feed 11 = .ok (.bipush 20, 2) := by decide +kernel
theorem dX10_feed_13 : decode cX10_feed 13 = .ok (.iadd, 1) := by decide +kernel
theorem dX10_feed_14 : decode cX10_feed 14 = .ok (.sipush 600, 3) := by decide +kernel
theorem dX10_feed_17 : decode cX10_feed 17 = .ok (.if_icmp .le 5, 3) := by decide +kernel
theorem dX10_feed_20 : decode cX10_feed 20 = .ok (.iconst (-1), 1) := by decide +kernel
theorem dX10_feed_21 : decode cX10_feed 21 = .ok (.ireturn, 1) := by decide +kernel
theorem dX10_feed_22 : decode cX10_feed 22 = .ok (.aload_n 0, 1) := by decide +kernel
theorem dX10_feed_23 : decode cX10_feed 23 = .ok (.iload_n 1, 1) := by decide +kernel
theorem dX10_feed_24 : decode cX10_feed 24 = .ok (.invokevirtual 55, 3) := by decide +kernel
theorem dX10_feed_27 : decode cX10_feed 27 = .ok (.aload_n 0, 1) := by decide +kernel
theorem dX10_feed_28 : decode cX10_feed 28 = .ok (.iload_n 2, 1) := by decide +kernel
theorem dX10_feed_29 : decode cX10_feed 29 = .ok (.invokevirtual 55, 3) := by decide +kernel
theorem dX10_feed_32 : decode cX10_feed 32 = .ok (.aload_n 0, 1) := by decide +kernel
theorem dX10_feed_33 : decode cX10_feed 33 = .ok (.iload_n 3, 1) := by decide +kernel
theorem dX10_feed_34 : decode cX10_feed 34 = .ok (.invokevirtual 55, 3) := by decide +kernel
theorem dX10_feed_37 : decode cX10_feed 37 = .ok (.aload_n 0, 1) := by decide +kernel
theorem dX10_feed_38 : decode cX10_feed 38 = .ok (.iload 4, 2) := by decide +kernel
theorem dX10_feed_40 : decode cX10_feed 40 = .ok (.invokevirtual 55, 3) := by decide +kernel
theorem dX10_feed_43 : decode cX10_feed 43 = .ok (.aload_n 0, 1) := by decide +kernel
theorem dX10_feed_44 : decode cX10_feed 44 = .ok (.iload 5, 2) := by decide +kernel
theorem dX10_feed_46 : decode cX10_feed 46 = .ok (.invokevirtual 55, 3) := by decide +kernel
theorem dX10_feed_49 : decode cX10_feed 49 = .ok (.aload_n 0, 1) := by decide +kernel
theorem dX10_feed_50 : decode cX10_feed 50 = .ok (.getfield 7, 3) := by decide +kernel
theorem dX10_feed_53 : decode cX10_feed 53 = .ok (.iconst 0, 1) := by decide +kernel
theorem dX10_feed_54 : decode cX10_feed 54 = .ok (.iaload, 1) := by decide +kernel
theorem dX10_feed_55 : decode cX10_feed 55 = .ok (.ireturn, 1) := by decide +kernel
theorem dX9_end_0 : decode cX9_end 0 = .ok (.iload_n 1, 1) := by decide +kernel
theorem dX9_end_1 : decode cX9_end 1 = .ok (.ifCond .lt 17, 3) := by decide +kernel
theorem dX9_end_4 : decode cX9_end 4 = .ok (.iload_n 1, 1) := by decide +kernel
theorem dX9_end_5 : decode cX9_end 5 = .ok (.aload_n 0, 1) := by decide +kernel
theorem dX9_end_6 : decode cX9_end 6 = .ok (.getfield 10, 3) := by decide +kernel
theorem dX9_end_9 : decode cX9_end 9 = .ok (.getfield 41, 3) := by decide +kernel
theorem dX9_end_12 : decode cX9_end 12 = .ok (.getfield 45, 3) := by decide +kernel
theorem dX9_end_15 : decode cX9_end 15 = .ok (.if_icmp .le 5, 3) := by decide +kernel
theorem dX9_end_18 : decode cX9_end 18 = .ok (.iconst (-1), 1) := by decide +kernel
theorem dX9_end_19 : decode cX9_end 19 = .ok (.ireturn, 1) := by decide +kernel
theorem dX9_end_20 : decode cX9_end 20 = .ok (.aload_n 0, 1) := by decide +kernel
theorem dX9_end_21 : decode cX9_end 21 = .ok (.getfield 10, 3) := by decide +kernel
theorem dX9_end_24 : decode cX9_end 24 = .ok (.getfield 41, 3) := by decide +kernel
theorem dX9_end_27 : decode cX9_end 27 = .ok (.iload_n 1, 1) := by decide +kernel
theorem dX9_end_28 : decode cX9_end 28 = .ok (.putfield 45, 3) := by decide +kernel
theorem dX9_end_31 : decode cX9_end 31 = .ok (.iload_n 1, 1) := by decide +kernel
theorem dX9_end_32 : decode cX9_end 32 = .ok (.ireturn, 1) := by decide +kernel
theorem dX10_in_0 : decode cX10_in 0 = .ok (.iload_n 0, 1) := by decide +kernel
theorem dX10_in_1 : decode cX10_in 1 = .ok (.iload_n 1, 1) := by decide +kernel
theorem dX10_in_2 : decode cX10_in 2 = .ok (.if_icmp .lt 12, 3) := by decide +kernel
theorem dX10_in_5 : decode cX10_in 5 = .ok (.iload_n 0, 1) := by decide +kernel
theorem dX10_in_6 : decode cX10_in 6 = .ok (.iload_n 2, 1) := by decide +kernel
theorem dX10_in_7 : decode cX10_in 7 = .ok (.if_icmp .gt 7, 3) := by decide +kernel
theorem dX10_in_10 : decode cX10_in 10 = .ok (.iconst 1, 1) := by decide +kernel
theorem dX10_in_11 : decode cX10_in 11 = .ok (.goto 4, 3) := by decide +kernel
theorem dX10_in_14 : decode cX10_in 14 = .ok (.iconst 0, 1) := by decide +kernel
theorem dX10_in_15 : decode cX10_in 15 = .ok (.ireturn, 1) := by decide +kernel
theorem dX10_end_0 : decode cX10_end 0 = .ok (.aload_n 0, 1) := by decide +kernel
theorem dX10_end_1 : decode cX10_end 1 = .ok (.iconst 0, 1) := by decide +kernel
theorem dX10_end_2 : decode cX10_end 2 = .ok (.putfield 52, 3) := by decide +kernel
theorem dX10_end_5 : decode cX10_end 5 = .ok (.iload_n 1, 1) := by decide +kernel
theorem dX10_end_6 : decode cX10_end 6 = .ok (.iconst 0, 1) := by decide +kernel
theorem dX10_end_7 : decode cX10_end 7 = .ok (.aload_n 0, 1) := by decide +kernel
theorem dX10_end_8 : decode cX10_end 8 = .ok (.getfield 7, 3) := by decide +kernel
theorem dX10_end_11 : decode cX10_end 11 = .ok (.iconst 0, 1) := by decide +kernel
theorem dX10_end_12 : decode cX10_end 12 = .ok (.iaload, 1) := by decide +kernel
theorem dX10_end_13 : decode cX10_end 13 = .ok (.invokestatic 59, 3) := by decide +kernel
theorem dX10_end_16 : decode cX10_end 16 = .ok (.ifCond .ne 5, 3) := by decide +kernel
theorem dX10_end_19 : decode cX10_end 19 = .ok (.iconst (-1), 1) := by decide +kernel
theorem dX10_end_20 : decode cX10_end 20 = .ok (.ireturn, 1) := by decide +kernel
theorem dX10_end_21 : decode cX10_end 21 = .ok (.aload_n 0, 1) := by decide +kernel
theorem dX10_end_22 : decode cX10_end 22 = .ok (.getfield 7, 3) := by decide +kernel
theorem dX10_end_25 : decode cX10_end 25 = .ok (.iconst 0, 1) := by decide +kernel
theorem dX10_end_26 : decode cX10_end 26 = .ok (.iload_n 1, 1) := by decide +kernel
theorem dX10_end_27 : decode cX10_end 27 = .ok (.iastore, 1) := by decide +kernel
theorem dX10_end_28 : decode cX10_end 28 = .ok (.iload_n 1, 1) := by decide +kernel
theorem dX10_end_29 : decode cX10_end 29 = .ok (.ireturn, 1) := by decide +kernel
theorem dX8_copyFrom_0 : decode cX8_copyFrom 0 = .ok (.aload_n 0, 1) := by decide +kernel
theorem dX8_copyFrom_1 : decode cX8_copyFrom 1 = .ok (.aload_n 1, 1) := by decide +kernel
theorem dX8_copyFrom_2 : decode cX8_copyFrom 2 = .ok (.getfield 15, 3) := by decide +kernel
theorem dX8_copyFrom_5 : decode cX8_copyFrom 5 = .ok (.putfield 15, 3) := by decide +kernel
theorem dX8_copyFrom_8 : decode cX8_copyFrom 8 = .ok (.aload_n 1, 1) := by decide +kernel
theorem dX8_copyFrom_9 : decode cX8_copyFrom 9 = .ok (.getfield 9, 3) := by decide +kernel
theorem dX8_copyFrom_12 : decode cX8_copyFrom 12 = .ok (.iconst 0, 1) := by decide +kernel
theorem dX8_copyFrom_13 : decode cX8_copyFrom 13 = .ok (.aload_n 0, 1) := by decide +kernel
theorem dX8_copyFrom_14 : decode cX8_copyFrom 14 = .ok (.getfield 9, 3) := by decide +kernel
theorem dX8_copyFrom_17 : decode cX8_copyFrom 17 = .ok (.iconst 0, 1) := by decide +kernel
theorem dX8_copyFrom_18 : decode cX8_copyFrom 18 = .ok (.aload_n 1, 1) := by decide +kernel
theorem dX8_copyFrom_19 : decode cX8_copyFrom 19 = .ok (.getfield 15, 3) := by decide +kernel
theorem dX8_copyFrom_22 : decode cX8_copyFrom 22 = .ok (.invokestatic 19, 3) := by decide +kernel
theorem dX8_copyFrom_25 : decode cX8_copyFrom 25 = .ok (.return_, 1) := by decide +kernel
theorem dX4_skipBlanks_0 : decode cX4_skipBlanks 0 = .ok (.aload_n 0, 1) := by decide +kernel
theorem dX4_skipBlanks_1 : decode cX4_skipBlanks 1 = .ok (.getfield 39, 3) := by decide +kernel
theorem dX4_skipBlanks_4 : decode cX4_skipBlanks 4 = .ok (.aload_n 0, 1) := by decide +kernel
theorem dX4_skipBlanks_5 : decode cX4_skipBlanks 5 = .ok (.getfield 21, 3) := by decide +kernel
theorem dX4_skipBlanks_8 : decode cX4_skipBlanks 8 = .ok (.getfield 61, 3) := by decide +kernel
theorem dX4_skipBlanks_11 : decode cX4_skipBlanks 11 = .ok (.if_icmp .ge 50, 3) := by decide +kernel
theorem dX4_skipBlanks_14 : decode cX4_skipBlanks 14 = .ok (.aload_n 0, 1) := by decide +kernel
theorem dX4_skipBlanks_15 : decode cX4_skipBlanks 15 = .ok (.getfield 21, 3) := by decide +kernel
theorem dX4_skipBlanks_18 : decode cX4_skipBlanks 18 = .ok (.getfield 147, 3) := by decide +kernel
theorem dX4_skipBlanks_21 : decode cX4_skipBlanks 21 = .ok (.aload_n 0, 1) := by decide +kernel
theorem dX4_skipBlanks_22 : decode cX4_skipBlanks 22 = .ok (.getfield 39, 3) := by decide +kernel
theorem dX4_skipBlanks_25 : decode cX4_skipBlanks 25 = .ok (.baload, 1) := by decide +kernel
theorem dX4_skipBlanks_26 : decode cX4_skipBlanks 26 = .ok (.bipush 10, 2) := by decide +kernel
theorem dX4_skipBlanks_28 : decode cX4_skipBlanks 28 = .ok (.if_icmp .eq 20, 3) := by decide +kernel
theorem dX4_skipBlanks_31 : decode cX4_skipBlanks 31 = .ok (.aload_n 0, 1) := by decide +kernel
theorem dX4_skipBlanks_32 : decode cX4_skipBlanks 32 = .ok (.getfield 21, 3) := by decide +kernel
theorem dX4_skipBlanks_35 : decode cX4_skipBlanks 35 = .ok (.getfield 147, 3) := by decide +kernel
theorem dX4_skipBlanks_38 : decode cX4_skipBlanks 38 = .ok (.aload_n 0, 1) := by decide +kernel
theorem dX4_skipBlanks_39 : decode cX4_skipBlanks 39 = .ok (.getfield 39, 3) := by decide +kernel
theorem dX4_skipBlanks_42 : decode cX4_skipBlanks 42 = .ok (.baload, 1) := by decide +kernel
theorem dX4_skipBlanks_43 : decode cX4_skipBlanks 43 = .ok (.bipush 32, 2) := by decide +kernel
theorem dX4_skipBlanks_45 : decode cX4_skipBlanks 45 = .ok (.if_icmp .ne 16, 3) := by decide +kernel
theorem dX4_skipBlanks_48 : decode cX4_skipBlanks 48 = .ok (.aload_n 0, 1) := by decide +kernel
theorem dX4_skipBlanks_49 : decode cX4_skipBlanks 49 = .ok (.dup, 1) := by decide +kernel
theorem dX4_skipBlanks_50 : decode cX4_skipBlanks 50 = .ok (.getfield 39, 3) := by decide +kernel
theorem dX4_skipBlanks_53 : decode cX4_skipBlanks 53 = .ok (.iconst 1, 1) := by decide +kernel
theorem dX4_skipBlanks_54 : decode cX4_skipBlanks 54 = .ok (.iadd, 1) := by decide +kernel
theorem dX4_skipBlanks_55 : decode cX4_skipBlanks 55 = .ok (.putfield 39, 3) := by decide +kernel
theorem dX4_skipBlanks_58 : decode cX4_skipBlanks 58 = .ok (.goto (-58), 3) := by decide +kernel
theorem dX4_skipBlanks_61 : decode cX4_skipBlanks 61 = .ok (.return_, 1) := by decide +kernel
theorem dX4_isDigit_0 : decode cX4_isDigit 0 = .ok (.aload_n 0, 1) := by decide +kernel
theorem dX4_isDigit_1 : decode cX4_isDigit 1 = .ok (.getfield 21, 3) := by decide +kernel
theorem dX4_isDigit_4 : decode cX4_isDigit 4 = .ok (.getfield 147, 3) := by decide +kernel
theorem dX4_isDigit_7 : decode cX4_isDigit 7 = .ok (.aload_n 0, 1) := by decide +kernel
theorem dX4_isDigit_8 : decode cX4_isDigit 8 = .ok (.getfield 39, 3) := by decide +kernel
theorem dX4_isDigit_11 : decode cX4_isDigit 11 = .ok (.baload, 1) := by decide +kernel
theorem dX4_isDigit_12 : decode cX4_isDigit 12 = .ok (.bipush 48, 2) := by decide +kernel
theorem dX4_isDigit_14 : decode cX4_isDigit 14 = .ok (.if_icmp .lt 24, 3) := by decide +kernel
theorem dX4_isDigit_17 : decode cX4_isDigit 17 = .ok (.aload_n 0, 1) := by decide +kernel
theorem dX4_isDigit_18 : decode cX4_isDigit 18 = .ok (.getfield 21, 3) := by decide +kernel
theorem dX4_isDigit_21 : decode cX4_isDigit 21 = .ok (.getfield 147, 3) := by decide +kernel
theorem dX4_isDigit_24 : decode cX4_isDigit 24 = .ok (.aload_n 0, 1) := by decide +kernel
theorem dX4_isDigit_25 : decode cX4_isDigit 25 = .ok (.getfield 39, 3) := by decide +kernel
theorem dX4_isDigit_28 : decode cX4_isDigit 28 = .ok (.baload, 1) := by decide +kernel
theorem dX4_isDigit_29 : decode cX4_isDigit 29 = .ok (.bipush 57, 2) := by decide +kernel
theorem dX4_isDigit_31 : decode cX4_isDigit 31 = .ok (.if_icmp .gt 7, 3) := by decide +kernel
theorem dX4_isDigit_34 : decode cX4_isDigit 34 = .ok (.iconst 1, 1) := by decide +kernel
theorem dX4_isDigit_35 : decode cX4_isDigit 35 = .ok (.goto 4, 3) := by decide +kernel
theorem dX4_isDigit_38 : decode cX4_isDigit 38 = .ok (.iconst 0, 1) := by decide +kernel
theorem dX4_isDigit_39 : decode cX4_isDigit 39 = .ok (.ireturn, 1) := by decide +kernel
theorem dX4_digits_0 : decode cX4_digits 0 = .ok (.aload_n 0, 1) := by decide +kernel
theorem dX4_digits_1 : decode cX4_digits 1 = .ok (.getfield 39, 3) := by decide +kernel
theorem dX4_digits_4 : decode cX4_digits 4 = .ok (.istore_n 1, 1) := by decide +kernel
theorem dX4_digits_5 : decode cX4_digits 5 = .ok (.aload_n 0, 1) := by decide +kernel
theorem dX4_digits_6 : decode cX4_digits 6 = .ok (.getfield 39, 3) := by decide +kernel
theorem dX4_digits_9 : decode cX4_digits 9 = .ok (.aload_n 0, 1) := by decide +kernel
theorem dX4_digits_10 : decode cX4_digits 10 = .ok (.getfield 21, 3) := by decide +kernel
theorem dX4_digits_13 : decode cX4_digits 13 = .ok (.getfield 61, 3) := by decide +kernel
theorem dX4_digits_16 : decode cX4_digits 16 = .ok (.if_icmp .ge 74, 3) := by decide +kernel
theorem dX4_digits_19 : decode cX4_digits 19 = .ok (.aload_n 0, 1) := by decide +kernel
theorem dX4_digits_20 : decode cX4_digits 20 = .ok (.invokevirtual 64, 3) := by decide +kernel
theorem dX4_digits_23 : decode cX4_digits 23 = .ok (.ifCond .eq 67, 3) := by decide +kernel
theorem dX4_digits_26 : decode cX4_digits 26 = .ok (.aload_n 0, 1) := by decide +kernel
theorem dX4_digits_27 : decode cX4_digits 27 = .ok (.getfield 32, 3) := by decide +kernel
theorem dX4_digits_30 : decode cX4_digits 30 = .ok (.aload_n 0, 1) := by decide +kernel
theorem dX4_digits_31 : decode cX4_digits 31 = .ok (.getfield 35, 3) := by decide +kernel
theorem dX4_digits_34 : decode cX4_digits 34 = .ok (.aload_n 0, 1) := by decide +kernel
theorem dX4_digits_35 : decode cX4_digits 35 = .ok (.getfield 39, 3) := by decide +kernel
theorem dX4_digits_38 : decode cX4_digits 38 = .ok (.iload_n 1, 1) := by decide +kernel
theorem dX4_digits_39 : decode cX4_digits 39 = .ok (.isub, 1) := by decide +kernel
theorem dX4_digits_40 : decode cX4_digits 40 = .ok (.iconst 4, 1) := by decide +kernel
theorem dX4_digits_41 : decode cX4_digits 41 = .ok (.if_icmp .ge 34, 3) := by decide +kernel
theorem dX4_digits_44 : decode cX4_digits 44 = .ok (.aload_n 0, 1) := by decide +kernel
theorem dX4_digits_45 : decode cX4_digits 45 = .ok (.getfield 32, 3) := by decide +kernel
theorem dX4_digits_48 : decode cX4_digits 48 = .ok (.aload_n 0, 1) := by decide +kernel
theorem dX4_digits_49 : decode cX4_digits 49 = .ok (.getfield 35, 3) := by decide +kernel
theorem dX4_digits_52 : decode cX4_digits 52 = .ok (.iaload, 1) := by decide +kernel
theorem dX4_digits_53 : decode cX4_digits 53 = .ok (.bipush 10, 2) := by decide +kernel
theorem dX4_digits_55 : decode cX4_digits 55 = .ok (.imul, 1) := by decide +kernel
theorem dX4_digits_56 : decode cX4_digits 56 = .ok (.aload_n 0, 1) := by decide +kernel
theorem dX4_digits_57 : decode cX4_digits 57 = .ok (.getfield 21, 3) := by decide +kernel
theorem dX4_digits_60 : decode cX4_digits 60 = .ok (.getfield 147, 3) := by decide +kernel
theorem dX4_digits_63 : decode cX4_digits 63 = .ok (.aload_n 0, 1) := by decide +kernel
theorem dX4_digits_64 : decode cX4_digits 64 = .ok (.getfield 39, 3) := by decide +kernel
theorem dX4_digits_67 : decode cX4_digits 67 = .ok (.baload, 1) := by decide +kernel
theorem dX4_digits_68 : decode cX4_digits 68 = .ok (.iadd, 1) := by decide +kernel
theorem dX4_digits_69 : decode cX4_digits 69 = .ok (.bipush 48, 2) := by decide +kernel
theorem dX4_digits_71 : decode cX4_digits 71 = .ok (.isub, 1) := by decide +kernel
theorem dX4_digits_72 : decode cX4_digits 72 = .ok (.goto 4, 3) := by decide +kernel
theorem dX4_digits_75 : decode cX4_digits 75 = .ok (.iconst 0, 1) := by decide +kernel
theorem dX4_digits_76 : decode cX4_digits 76 = .ok (.iastore, 1) := by decide +kernel
theorem dX4_digits_77 : decode cX4_digits 77 = .ok (.aload_n 0, 1) := by decide +kernel
theorem dX4_digits_78 : decode cX4_digits 78 = .ok (.dup, 1) := by decide +kernel
theorem dX4_digits_79 : decode cX4_digits 79 = .ok (.getfield 39, 3) := by decide +kernel
theorem dX4_digits_82 : decode cX4_digits 82 = .ok (.iconst 1, 1) := by decide +kernel
theorem dX4_digits_83 : decode cX4_digits 83 = .ok (.iadd, 1) := by decide +kernel
theorem dX4_digits_84 : decode cX4_digits 84 = .ok (.putfield 39, 3) := by decide +kernel
theorem dX4_digits_87 : decode cX4_digits 87 = .ok (.goto (-82), 3) := by decide +kernel
theorem dX4_digits_90 : decode cX4_digits 90 = .ok (.aload_n 0, 1) := by decide +kernel
theorem dX4_digits_91 : decode cX4_digits 91 = .ok (.getfield 39, 3) := by decide +kernel
theorem dX4_digits_94 : decode cX4_digits 94 = .ok (.iload_n 1, 1) := by decide +kernel
theorem dX4_digits_95 : decode cX4_digits 95 = .ok (.isub, 1) := by decide +kernel
theorem dX4_digits_96 : decode cX4_digits 96 = .ok (.iconst 4, 1) := by decide +kernel
theorem dX4_digits_97 : decode cX4_digits 97 = .ok (.if_icmp .gt 7, 3) := by decide +kernel
theorem dX4_digits_100 : decode cX4_digits 100 = .ok (.iconst 3, 1) := by decide +kernel
theorem dX4_digits_101 : decode cX4_digits 101 = .ok (.goto 4, 3) := by decide +kernel
theorem dX4_digits_104 : decode cX4_digits 104 = .ok (.iconst 1, 1) := by decide +kernel
theorem dX4_digits_105 : decode cX4_digits 105 = .ok (.ireturn, 1) := by decide +kernel
theorem dX4_isLetter_0 : decode cX4_isLetter 0 = .ok (.aload_n 0, 1) := by decide +kernel
theorem dX4_isLetter_1 : decode cX4_isLetter 1 = .ok (.getfield 21, 3) := by decide +kernel
theorem dX4_isLetter_4 : decode cX4_isLetter 4 = .ok (.getfield 147, 3) := by decide +kernel
theorem dX4_isLetter_7 : decode cX4_isLetter 7 = .ok (.aload_n 0, 1) := by decide +kernel
theorem dX4_isLetter_8 : decode cX4_isLetter 8 = .ok (.getfield 39, 3) := by decide +kernel
theorem dX4_isLetter_11 : decode cX4_isLetter 11 = .ok (.baload, 1) := by decide +kernel
theorem dX4_isLetter_12 : decode cX4_isLetter 12 = .ok (.bipush 97, 2) := by decide +kernel
theorem dX4_isLetter_14 : decode cX4_isLetter 14 = .ok (.if_icmp .lt 24, 3) := by decide +kernel
theorem dX4_isLetter_17 : decode cX4_isLetter 17 = .ok (.aload_n 0, 1) := by decide +kernel
theorem dX4_isLetter_18 : decode cX4_isLetter 18 = .ok (.getfield 21, 3) := by decide +kernel
theorem dX4_isLetter_21 : decode cX4_isLetter 21 = .ok (.getfield 147, 3) := by decide +kernel
theorem dX4_isLetter_24 : decode cX4_isLetter 24 = .ok (.aload_n 0, 1) := by decide +kernel
theorem dX4_isLetter_25 : decode cX4_isLetter 25 = .ok (.getfield 39, 3) := by decide +kernel
theorem dX4_isLetter_28 : decode cX4_isLetter 28 = .ok (.baload, 1) := by decide +kernel
theorem dX4_isLetter_29 : decode cX4_isLetter 29 = .ok (.bipush 122, 2) := by decide +kernel
theorem dX4_isLetter_31 : decode cX4_isLetter 31 = .ok (.if_icmp .gt 7, 3) := by decide +kernel
theorem dX4_isLetter_34 : decode cX4_isLetter 34 = .ok (.iconst 1, 1) := by decide +kernel
theorem dX4_isLetter_35 : decode cX4_isLetter 35 = .ok (.goto 4, 3) := by decide +kernel
theorem dX4_isLetter_38 : decode cX4_isLetter 38 = .ok (.iconst 0, 1) := by decide +kernel
theorem dX4_isLetter_39 : decode cX4_isLetter 39 = .ok (.ireturn, 1) := by decide +kernel
theorem dX4_letters_0 : decode cX4_letters 0 = .ok (.aload_n 0, 1) := by decide +kernel
theorem dX4_letters_1 : decode cX4_letters 1 = .ok (.getfield 39, 3) := by decide +kernel
theorem dX4_letters_4 : decode cX4_letters 4 = .ok (.istore_n 1, 1) := by decide +kernel
theorem dX4_letters_5 : decode cX4_letters 5 = .ok (.aload_n 0, 1) := by decide +kernel
theorem dX4_letters_6 : decode cX4_letters 6 = .ok (.getfield 39, 3) := by decide +kernel
theorem dX4_letters_9 : decode cX4_letters 9 = .ok (.aload_n 0, 1) := by decide +kernel
theorem dX4_letters_10 : decode cX4_letters 10 = .ok (.getfield 21, 3) := by decide +kernel
theorem dX4_letters_13 : decode cX4_letters 13 = .ok (.getfield 61, 3) := by decide +kernel
theorem dX4_letters_16 : decode cX4_letters 16 = .ok (.if_icmp .ge 23, 3) := by decide +kernel
theorem dX4_letters_19 : decode cX4_letters 19 = .ok (.aload_n 0, 1) := by decide +kernel
theorem dX4_letters_20 : decode cX4_letters 20 = .ok (.invokevirtual 72, 3) := by decide +kernel
theorem dX4_letters_23 : decode cX4_letters 23 = .ok (.ifCond .eq 16, 3) := by decide +kernel
theorem dX4_letters_26 : decode cX4_letters 26 = .ok (.aload_n 0, 1) := by decide +kernel
theorem dX4_letters_27 : decode cX4_letters 27 = .ok (.dup, 1) := by decide +kernel
theorem dX4_letters_28 : decode cX4_letters 28 = .ok (.getfield 39, 3) := by decide +kernel
theorem dX4_letters_31 : decode cX4_letters 31 = .ok (.iconst 1, 1) := by decide +kernel
theorem dX4_letters_32 : decode cX4_letters 32 = .ok (.iadd, 1) := by decide +kernel
theorem dX4_letters_33 : decode cX4_letters 33 = .ok (.putfield 39, 3) := by decide +kernel
theorem dX4_letters_36 : decode cX4_letters 36 = .ok (.goto (-31), 3) := by decide +kernel
theorem dX4_letters_39 : decode cX4_letters 39 = .ok (.aload_n 0, 1) := by decide +kernel
theorem dX4_letters_40 : decode cX4_letters 40 = .ok (.iload_n 1, 1) := by decide +kernel
theorem dX4_letters_41 : decode cX4_letters 41 = .ok (.invokevirtual 151, 3) := by decide +kernel
theorem dX4_letters_44 : decode cX4_letters 44 = .ok (.ireturn, 1) := by decide +kernel
theorem dX4_sign_0 : decode cX4_sign 0 = .ok (.aload_n 0, 1) := by decide +kernel
theorem dX4_sign_1 : decode cX4_sign 1 = .ok (.getfield 21, 3) := by decide +kernel
theorem dX4_sign_4 : decode cX4_sign 4 = .ok (.getfield 147, 3) := by decide +kernel
theorem dX4_sign_7 : decode cX4_sign 7 = .ok (.aload_n 0, 1) := by decide +kernel
theorem dX4_sign_8 : decode cX4_sign 8 = .ok (.getfield 39, 3) := by decide +kernel
theorem dX4_sign_11 : decode cX4_sign 11 = .ok (.baload, 1) := by decide +kernel
theorem dX4_sign_12 : decode cX4_sign 12 = .ok (.bipush 59, 2) := by decide +kernel
theorem dX4_sign_14 : decode cX4_sign 14 = .ok (.if_icmp .ne 7, 3) := by decide +kernel
theorem dX4_sign_17 : decode cX4_sign 17 = .ok (.iconst 2, 1) := by decide +kernel
theorem dX4_sign_18 : decode cX4_sign 18 = .ok (.goto 4, 3) := by decide +kernel
theorem dX4_sign_21 : decode cX4_sign 21 = .ok (.iconst 1, 1) := by decide +kernel
theorem dX4_sign_22 : decode cX4_sign 22 = .ok (.istore_n 1, 1) := by decide +kernel
theorem dX4_sign_23 : decode cX4_sign 23 = .ok (.aload_n 0, 1) := by decide +kernel
theorem dX4_sign_24 : decode cX4_sign 24 = .ok (.dup, 1) := by decide +kernel
theorem dX4_sign_25 : decode cX4_sign 25 = .ok (.getfield 39, 3) := by decide +kernel
theorem dX4_sign_28 : decode cX4_sign 28 = .ok (.iconst 1, 1) := by decide +kernel
theorem dX4_sign_29 : decode cX4_sign 29 = .ok (.iadd, 1) := by decide +kernel
theorem dX4_sign_30 : decode cX4_sign 30 = .ok (.putfield 39, 3) := by decide +kernel
theorem dX4_sign_33 : decode cX4_sign 33 = .ok (.iload_n 1, 1) := by decide +kernel
theorem dX4_sign_34 : decode cX4_sign 34 = .ok (.ireturn, 1) := by decide +kernel
theorem dX4_scan_0 : decode cX4_scan 0 = .ok (.aload_n 0, 1) := by decide +kernel
theorem dX4_scan_1 : decode cX4_scan 1 = .ok (.getfield 21, 3) := by decide +kernel
theorem dX4_scan_4 : decode cX4_scan 4 = .ok (.aload_n 1, 1) := by decide +kernel
theorem dX4_scan_5 : decode cX4_scan 5 = .ok (.invokevirtual 54, 3) := by decide +kernel
theorem dX4_scan_8 : decode cX4_scan 8 = .ok (.aload_n 0, 1) := by decide +kernel
theorem dX4_scan_9 : decode cX4_scan 9 = .ok (.iconst 0, 1) := by decide +kernel
theorem dX4_scan_10 : decode cX4_scan 10 = .ok (.putfield 35, 3) := by decide +kernel
theorem dX4_scan_13 : decode cX4_scan 13 = .ok (.aload_n 0, 1) := by decide +kernel
theorem dX4_scan_14 : decode cX4_scan 14 = .ok (.iconst 0, 1) := by decide +kernel
theorem dX4_scan_15 : decode cX4_scan 15 = .ok (.putfield 39, 3) := by decide +kernel
theorem dX4_scan_18 : decode cX4_scan 18 = .ok (.aload_n 0, 1) := by decide +kernel
theorem dX4_scan_19 : decode cX4_scan 19 = .ok (.invokevirtual 58, 3) := by decide +kernel
theorem dX4_scan_22 : decode cX4_scan 22 = .ok (.aload_n 0, 1) := by decide +kernel
theorem dX4_scan_23 : decode cX4_scan 23 = .ok (.getfield 39, 3) := by decide +kernel
theorem dX4_scan_26 : decode cX4_scan 26 = .ok (.aload_n 0, 1) := by decide +kernel
theorem dX4_scan_27 : decode cX4_scan 27 = .ok (.getfield 21, 3) := by decide +kernel
theorem dX4_scan_30 : decode cX4_scan 30 = .ok (.getfield 61, 3) := by decide +kernel
theorem dX4_scan_33 : decode cX4_scan 33 = .ok (.if_icmp .ge 94, 3) := by decide +kernel
theorem dX4_scan_36 : decode cX4_scan 36 = .ok (.aload_n 0, 1) := by decide +kernel
theorem dX4_scan_37 : decode cX4_scan 37 = .ok (.getfield 35, 3) := by decide +kernel
theorem dX4_scan_40 : decode cX4_scan 40 = .ok (.sipush 600, 3) := by decide +kernel
theorem dX4_scan_43 : decode cX4_scan 43 = .ok (.if_icmp .ge 84, 3) := by decide +kernel
theorem dX4_scan_46 : decode cX4_scan 46 = .ok (.aload_n 0, 1) := by decide +kernel
theorem dX4_scan_47 : decode cX4_scan 47 = .ok (.getfield 29, 3) := by decide +kernel
theorem dX4_scan_50 : decode cX4_scan 50 = .ok (.aload_n 0, 1) := by decide +kernel
theorem dX4_scan_51 : decode cX4_scan 51 = .ok (.getfield 35, 3) := by decide +kernel
theorem dX4_scan_54 : decode cX4_scan 54 = .ok (.aload_n 0, 1) := by decide +kernel
theorem dX4_scan_55 : decode cX4_scan 55 = .ok (.getfield 39, 3) := by decide +kernel
theorem dX4_scan_58 : decode cX4_scan 58 = .ok (.iastore, 1) := by decide +kernel
theorem dX4_scan_59 : decode cX4_scan 59 = .ok (.aload_n 0, 1) := by decide +kernel
theorem dX4_scan_60 : decode cX4_scan 60 = .ok (.getfield 32, 3) := by decide +kernel
theorem dX4_scan_63 : decode cX4_scan 63 = .ok (.aload_n 0, 1) := by decide +kernel
theorem dX4_scan_64 : decode cX4_scan 64 = .ok (.getfield 35, 3) := by decide +kernel
theorem dX4_scan_67 : decode cX4_scan 67 = .ok (.iconst 0, 1) := by decide +kernel
theorem dX4_scan_68 : decode cX4_scan 68 = .ok (.iastore, 1) := by decide +kernel
theorem dX4_scan_69 : decode cX4_scan 69 = .ok (.aload_n 0, 1) := by decide +kernel
theorem dX4_scan_70 : decode cX4_scan 70 = .ok (.getfield 25, 3) := by decide +kernel
theorem dX4_scan_73 : decode cX4_scan 73 = .ok (.aload_n 0, 1) := by decide +kernel
theorem dX4_scan_74 : decode cX4_scan 74 = .ok (.getfield 35, 3) := by decide +kernel
theorem dX4_scan_77 : decode cX4_scan 77 = .ok (.aload_n 0, 1) := by decide +kernel
theorem dX4_scan_78 : decode cX4_scan 78 = .ok (.invokevirtual 64, 3) := by decide +kernel
theorem dX4_scan_81 : decode cX4_scan 81 = .ok (.ifCond .eq 10, 3) := by decide +kernel
theorem dX4_scan_84 : decode cX4_scan 84 = .ok (.aload_n 0, 1) := by decide +kernel
theorem dX4_scan_85 : decode cX4_scan 85 = .ok (.invokevirtual 68, 3) := by decide +kernel
theorem dX4_scan_88 : decode cX4_scan 88 = .ok (.goto 21, 3) := by decide +kernel
theorem dX4_scan_91 : decode cX4_scan 91 = .ok (.aload_n 0, 1) := by decide +kernel
theorem dX4_scan_92 : decode cX4_scan 92 = .ok (.invokevirtual 72, 3) := by decide +kernel
theorem dX4_scan_95 : decode cX4_scan 95 = .ok (.ifCond .eq 10, 3) := by decide +kernel
theorem dX4_scan_98 : decode cX4_scan 98 = .ok (.aload_n 0, 1) := by decide +kernel
theorem dX4_scan_99 : decode cX4_scan 99 = .ok (.invokevirtual 75, 3) := by decide +kernel
theorem dX4_scan_102 : decode cX4_scan 102 = .ok (.goto 7, 3) := by decide +kernel
theorem dX4_scan_105 : decode cX4_scan 105 = .ok (.aload_n 0, 1) := by decide +kernel
theorem dX4_scan_106 : decode cX4_scan 106 = .ok (.invokevirtual 78, 3) := by decide +kernel
theorem dX4_scan_109 : decode cX4_scan 109 = .ok (.iastore, 1) := by decide +kernel
theorem dX4_scan_110 : decode cX4_scan 110 = .ok (.aload_n 0, 1) := by decide +kernel
theorem dX4_scan_111 : decode cX4_scan 111 = .ok (.dup, 1) := by decide +kernel
theorem dX4_scan_112 : decode cX4_scan 112 = .ok (.getfield 35, 3) := by decide +kernel
theorem dX4_scan_115 : decode cX4_scan 115 = .ok (.iconst 1, 1) := by decide +kernel
theorem dX4_scan_116 : decode cX4_scan 116 = .ok (.iadd, 1) := by decide +kernel
theorem dX4_scan_117 : decode cX4_scan 117 = .ok (.putfield 35, 3) := by decide +kernel
theorem dX4_scan_120 : decode cX4_scan 120 = .ok (.aload_n 0, 1) := by decide +kernel
theorem dX4_scan_121 : decode cX4_scan 121 = .ok (.invokevirtual 58, 3) := by decide +kernel
theorem dX4_scan_124 : decode cX4_scan 124 = .ok (.goto (-102), 3) := by decide +kernel
theorem dX4_scan_127 : decode cX4_scan 127 = .ok (.aload_n 0, 1) := by decide +kernel
theorem dX4_scan_128 : decode cX4_scan 128 = .ok (.getfield 29, 3) := by decide +kernel
theorem dX4_scan_131 : decode cX4_scan 131 = .ok (.aload_n 0, 1) := by decide +kernel
theorem dX4_scan_132 : decode cX4_scan 132 = .ok (.getfield 35, 3) := by decide +kernel
theorem dX4_scan_135 : decode cX4_scan 135 = .ok (.aload_n 0, 1) := by decide +kernel
theorem dX4_scan_136 : decode cX4_scan 136 = .ok (.getfield 39, 3) := by decide +kernel
theorem dX4_scan_139 : decode cX4_scan 139 = .ok (.iastore, 1) := by decide +kernel
theorem dX4_scan_140 : decode cX4_scan 140 = .ok (.aload_n 0, 1) := by decide +kernel
theorem dX4_scan_141 : decode cX4_scan 141 = .ok (.getfield 25, 3) := by decide +kernel
theorem dX4_scan_144 : decode cX4_scan 144 = .ok (.aload_n 0, 1) := by decide +kernel
theorem dX4_scan_145 : decode cX4_scan 145 = .ok (.getfield 35, 3) := by decide +kernel
theorem dX4_scan_148 : decode cX4_scan 148 = .ok (.iconst 0, 1) := by decide +kernel
theorem dX4_scan_149 : decode cX4_scan 149 = .ok (.iastore, 1) := by decide +kernel
theorem dX4_scan_150 : decode cX4_scan 150 = .ok (.return_, 1) := by decide +kernel
theorem dX4_breakOff_0 : decode cX4_breakOff 0 = .ok (.aload_n 0, 1) := by decide +kernel
theorem dX4_breakOff_1 : decode cX4_breakOff 1 = .ok (.getfield 45, 3) := by decide +kernel
theorem dX4_breakOff_4 : decode cX4_breakOff 4 = .ok (.iconst (-1), 1) := by decide +kernel
theorem dX4_breakOff_5 : decode cX4_breakOff 5 = .ok (.if_icmp .ne 16, 3) := by decide +kernel
theorem dX4_breakOff_8 : decode cX4_breakOff 8 = .ok (.aload_n 0, 1) := by decide +kernel
theorem dX4_breakOff_9 : decode cX4_breakOff 9 = .ok (.aload_n 0, 1) := by decide +kernel
theorem dX4_breakOff_10 : decode cX4_breakOff 10 = .ok (.getfield 29, 3) := by decide +kernel
theorem dX4_breakOff_13 : decode cX4_breakOff 13 = .ok (.aload_n 0, 1) := by decide +kernel
theorem dX4_breakOff_14 : decode cX4_breakOff 14 = .ok (.getfield 42, 3) := by decide +kernel
theorem dX4_breakOff_17 : decode cX4_breakOff 17 = .ok (.iaload, 1) := by decide +kernel
theorem dX4_breakOff_18 : decode cX4_breakOff 18 = .ok (.putfield 45, 3) := by decide +kernel
theorem dX4_breakOff_21 : decode cX4_breakOff 21 = .ok (.return_, 1) := by decide +kernel
theorem dX4_goOn_0 : decode cX4_goOn 0 = .ok (.aload_n 0, 1) := by decide +kernel
theorem dX4_goOn_1 : decode cX4_goOn 1 = .ok (.getfield 42, 3) := by decide +kernel
theorem dX4_goOn_4 : decode cX4_goOn 4 = .ok (.aload_n 0, 1) := by decide +kernel
theorem dX4_goOn_5 : decode cX4_goOn 5 = .ok (.getfield 35, 3) := by decide +kernel
theorem dX4_goOn_8 : decode cX4_goOn 8 = .ok (.if_icmp .ge 13, 3) := by decide +kernel
theorem dX4_goOn_11 : decode cX4_goOn 11 = .ok (.aload_n 0, 1) := by decide +kernel
theorem dX4_goOn_12 : decode cX4_goOn 12 = .ok (.dup, 1) := by decide +kernel
theorem dX4_goOn_13 : decode cX4_goOn 13 = .ok (.getfield 42, 3) := by decide +kernel
theorem dX4_goOn_16 : decode cX4_goOn 16 = .ok (.iconst 1, 1) := by decide +kernel
theorem dX4_goOn_17 : decode cX4_goOn 17 = .ok (.iadd, 1) := by decide +kernel
theorem dX4_goOn_18 : decode cX4_goOn 18 = .ok (.putfield 42, 3) := by decide +kernel
theorem dX4_goOn_21 : decode cX4_goOn 21 = .ok (.return_, 1) := by decide +kernel
theorem dX4_slipHere_0 : decode cX4_slipHere 0 = .ok (.aload_n 0, 1) := by decide +kernel
theorem dX4_slipHere_1 : decode cX4_slipHere 1 = .ok (.getfield 48, 3) := by decide +kernel
theorem dX4_slipHere_4 : decode cX4_slipHere 4 = .ok (.ifCond .ne 21, 3) := by decide +kernel
theorem dX4_slipHere_7 : decode cX4_slipHere 7 = .ok (.aload_n 0, 1) := by decide +kernel
theorem dX4_slipHere_8 : decode cX4_slipHere 8 = .ok (.iload_n 1, 1) := by decide +kernel
theorem dX4_slipHere_9 : decode cX4_slipHere 9 = .ok (.putfield 48, 3) := by decide +kernel
theorem dX4_slipHere_12 : decode cX4_slipHere 12 = .ok (.aload_n 0, 1) := by decide +kernel
theorem dX4_slipHere_13 : decode cX4_slipHere 13 = .ok (.aload_n 0, 1) := by decide +kernel
theorem dX4_slipHere_14 : decode cX4_slipHere 14 = .ok (.getfield 29, 3) := by decide +kernel
theorem dX4_slipHere_17 : decode cX4_slipHere 17 = .ok (.aload_n 0, 1) := by decide +kernel
theorem dX4_slipHere_18 : decode cX4_slipHere 18 = .ok (.getfield 42, 3) := by decide +kernel
theorem dX4_slipHere_21 : decode cX4_slipHere 21 = .ok (.iaload, 1) := by decide +kernel
theorem dX4_slipHere_22 : decode cX4_slipHere 22 = .ok (.putfield 51, 3) := by decide +kernel
theorem dX4_slipHere_25 : decode cX4_slipHere 25 = .ok (.return_, 1) := by decide +kernel
theorem dX4_number_0 : decode cX4_number 0 = .ok (.aload_n 0, 1) := by decide +kernel
theorem dX4_number_1 : decode cX4_number 1 = .ok (.getfield 25, 3) := by decide +kernel
theorem dX4_number_4 : decode cX4_number 4 = .ok (.aload_n 0, 1) := by decide +kernel
theorem dX4_number_5 : decode cX4_number 5 = .ok (.getfield 42, 3) := by decide +kernel
theorem dX4_number_8 : decode cX4_number 8 = .ok (.iaload, 1) := by decide +kernel
theorem dX4_number_9 : decode cX4_number 9 = .ok (.iconst 3, 1) := by decide +kernel
theorem dX4_number_10 : decode cX4_number 10 = .ok (.if_icmp .eq 9, 3) := by decide +kernel
theorem dX4_number_13 : decode cX4_number 13 = .ok (.aload_n 0, 1) := by decide +kernel
theorem dX4_number_14 : decode cX4_number 14 = .ok (.invokevirtual 87, 3) := by decide +kernel
theorem dX4_number_17 : decode cX4_number 17 = .ok (.iload_n 1, 1) := by decide +kernel
theorem dX4_number_18 : decode cX4_number 18 = .ok (.ireturn, 1) := by decide +kernel
theorem dX4_number_19 : decode cX4_number 19 = .ok (.aload_n 0, 1) := by decide +kernel
theorem dX4_number_20 : decode cX4_number 20 = .ok (.getfield 32, 3) := by decide +kernel
theorem dX4_number_23 : decode cX4_number 23 = .ok (.aload_n 0, 1) := by decide +kernel
theorem dX4_number_24 : decode cX4_number 24 = .ok (.getfield 42, 3) := by decide +kernel
theorem dX4_number_27 : decode cX4_number 27 = .ok (.iaload, 1) := by decide +kernel
theorem dX4_number_28 : decode cX4_number 28 = .ok (.istore_n 3, 1) := by decide +kernel
theorem dX4_number_29 : decode cX4_number 29 = .ok (.iload_n 3, 1) := by decide +kernel
theorem dX4_number_30 : decode cX4_number 30 = .ok (.iload_n 1, 1) := by decide +kernel
theorem dX4_number_31 : decode cX4_number 31 = .ok (.if_icmp .lt 8, 3) := by decide +kernel
theorem dX4_number_34 : decode cX4_number 34 = .ok (.iload_n 3, 1) := by decide +kernel
theorem dX4_number_35 : decode cX4_number 35 = .ok (.iload_n 2, 1) := by decide +kernel
theorem dX4_number_36 : decode cX4_number 36 = .ok (.if_icmp .le 10, 3) := by decide +kernel
theorem dX4_number_39 : decode cX4_number 39 = .ok (.aload_n 0, 1) := by decide +kernel
theorem dX4_number_40 : decode cX4_number 40 = .ok (.iconst 2, 1) := by decide +kernel
theorem dX4_number_41 : decode cX4_number 41 = .ok (.invokevirtual 139, 3) := by decide +kernel
theorem dX4_number_44 : decode cX4_number 44 = .ok (.iload_n 1, 1) := by decide +kernel
theorem dX4_number_45 : decode cX4_number 45 = .ok (.istore_n 3, 1) := by decide +kernel
theorem dX4_number_46 : decode cX4_number 46 = .ok (.aload_n 0, 1) := by decide +kernel
theorem dX4_number_47 : decode cX4_number 47 = .ok (.invokevirtual 90, 3) := by decide +kernel
theorem dX4_number_50 : decode cX4_number 50 = .ok (.iload_n 3, 1) := by decide +kernel
theorem dX4_number_51 : decode cX4_number 51 = .ok (.ireturn, 1) := by decide +kernel
theorem dX4_readNode_0 : decode cX4_readNode 0 = .ok (.aload_n 0, 1) := by decide +kernel
theorem dX4_readNode_1 : decode cX4_readNode 1 = .ok (.getfield 25, 3) := by decide +kernel
theorem dX4_readNode_4 : decode cX4_readNode 4 = .ok (.aload_n 0, 1) := by decide +kernel
theorem dX4_readNode_5 : decode cX4_readNode 5 = .ok (.getfield 42, 3) := by decide +kernel
theorem dX4_readNode_8 : decode cX4_readNode 8 = .ok (.iaload, 1) := by decide +kernel
theorem dX4_readNode_9 : decode cX4_readNode 9 = .ok (.istore_n 3, 1) := by decide +kernel
theorem dX4_readNode_10 : decode cX4_readNode 10 = .ok (.iload_n 3, 1) := by decide +kernel
theorem dX4_readNode_11 : decode cX4_readNode 11 = .ok (.bipush 11, 2) := by decide +kernel
theorem dX4_readNode_13 : decode cX4_readNode 13 = .ok (.if_icmp .ge 8, 3) := by decide +kernel
theorem dX4_readNode_16 : decode cX4_readNode 16 = .ok (.aload_n 0, 1) := by decide +kernel
theorem dX4_readNode_17 : decode cX4_readNode 17 = .ok (.invokevirtual 87, 3) := by decide +kernel
theorem dX4_readNode_20 : decode cX4_readNode 20 = .ok (.return_, 1) := by decide +kernel
theorem dX4_readNode_21 : decode cX4_readNode 21 = .ok (.iload_n 2, 1) := by decide +kernel
theorem dX4_readNode_22 : decode cX4_readNode 22 = .ok (.bipush 8, 2) := by decide +kernel
theorem dX4_readNode_24 : decode cX4_readNode 24 = .ok (.if_icmp .lt 8, 3) := by decide +kernel
theorem dX4_readNode_27 : decode cX4_readNode 27 = .ok (.aload_n 0, 1) := by decide +kernel
theorem dX4_readNode_28 : decode cX4_readNode 28 = .ok (.iconst 3, 1) := by decide +kernel
theorem dX4_readNode_29 : decode cX4_readNode 29 = .ok (.invokevirtual 139, 3) := by decide +kernel
theorem dX4_readNode_32 : decode cX4_readNode 32 = .ok (.aload_n 0, 1) := by decide +kernel
theorem dX4_readNode_33 : decode cX4_readNode 33 = .ok (.invokevirtual 90, 3) := by decide +kernel
theorem dX4_readNode_36 : decode cX4_readNode 36 = .ok (.iload_n 3, 1) := by decide +kernel
theorem dX4_readNode_37 : decode cX4_readNode 37 = .ok (.bipush 14, 2) := by decide +kernel
theorem dX4_readNode_39 : decode cX4_readNode 39 = .ok (.if_icmp .ne 13, 3) := by decide +kernel
theorem dX4_readNode_42 : decode cX4_readNode 42 = .ok (.aload_n 0, 1) := by decide +kernel
theorem dX4_readNode_43 : decode cX4_readNode 43 = .ok (.iconst 0, 1) := by decide +kernel
theorem dX4_readNode_44 : decode cX4_readNode 44 = .ok (.bipush 99, 2) := by decide +kernel
theorem dX4_readNode_46 : decode cX4_readNode 46 = .ok (.invokevirtual 102, 3) := by decide +kernel
theorem dX4_readNode_49 : decode cX4_readNode 49 = .ok (.goto 4, 3) := by decide +kernel
theorem dX4_readNode_52 : decode cX4_readNode 52 = .ok (.iconst 0, 1) := by decide +kernel
theorem dX4_readNode_53 : decode cX4_readNode 53 = .ok (.istore 4, 2) := by decide +kernel
theorem dX4_readNode_55 : decode cX4_readNode 55 = .ok (.iload_n 3, 1) := by decide +kernel
theorem dX4_readNode_56 : decode cX4_readNode 56 = .ok (.bipush 15, 2) := by decide +kernel
theorem dX4_readNode_58 : decode cX4_readNode 58 = .ok (.if_icmp .ge 13, 3) := by decide +kernel
theorem dX4_readNode_61 : decode cX4_readNode 61 = .ok (.aload_n 0, 1) := by decide +kernel
theorem dX4_readNode_62 : decode cX4_readNode 62 = .ok (.iconst 0, 1) := by decide +kernel
theorem dX4_readNode_63 : decode cX4_readNode 63 = .ok (.bipush 20, 2) := by decide +kernel
theorem dX4_readNode_65 : decode cX4_readNode 65 = .ok (.invokevirtual 102, 3) := by decide +kernel
theorem dX4_readNode_68 : decode cX4_readNode 68 = .ok (.goto 4, 3) := by decide +kernel
theorem dX4_readNode_71 : decode cX4_readNode 71 = .ok (.iconst 0, 1) := by decide +kernel
theorem dX4_readNode_72 : decode cX4_readNode 72 = .ok (.istore 5, 2) := by decide +kernel
theorem dX4_readNode_74 : decode cX4_readNode 74 = .ok (.aload_n 0, 1) := by decide +kernel
theorem dX4_readNode_75 : decode cX4_readNode 75 = .ok (.getfield 12, 3) := by decide +kernel
theorem dX4_readNode_78 : decode cX4_readNode 78 = .ok (.iload_n 1, 1) := by decide +kernel
theorem dX4_readNode_79 : decode cX4_readNode 79 = .ok (.iload_n 2, 1) := by decide +kernel
theorem dX4_readNode_80 : decode cX4_readNode 80 = .ok (.iload_n 3, 1) := by decide +kernel
theorem dX4_readNode_81 : decode cX4_readNode 81 = .ok (.iload 4, 2) := by decide +kernel
theorem dX4_readNode_83 : decode cX4_readNode 83 = .ok (.iload 5, 2) := by decide +kernel
theorem dX4_readNode_85 : decode cX4_readNode 85 = .ok (.invokevirtual 143, 3) := by decide +kernel
theorem dX4_readNode_88 : decode cX4_readNode 88 = .ok (.return_, 1) := by decide +kernel
theorem dJ9_min_7cf53_0 : decode cJ9_min_7cf53 0 = .ok (.iload_n 0, 1) := by decide +kernel
theorem dJ9_min_7cf53_1 : decode cJ9_min_7cf53 1 = .ok (.iload_n 1, 1) := by decide +kernel
theorem dJ9_min_7cf53_2 : decode cJ9_min_7cf53 2 = .ok (.if_icmp .gt 7, 3) := by decide +kernel
theorem dJ9_min_7cf53_5 : decode cJ9_min_7cf53 5 = .ok (.iload_n 0, 1) := by decide +kernel
theorem dJ9_min_7cf53_6 : decode cJ9_min_7cf53 6 = .ok (.goto 4, 3) := by decide +kernel
theorem dJ9_min_7cf53_9 : decode cJ9_min_7cf53 9 = .ok (.iload_n 1, 1) := by decide +kernel
theorem dJ9_min_7cf53_10 : decode cJ9_min_7cf53 10 = .ok (.ireturn, 1) := by decide +kernel
theorem dX4_readLevel_0 : decode cX4_readLevel 0 = .ok (.aload_n 0, 1) := by decide +kernel
theorem dX4_readLevel_1 : decode cX4_readLevel 1 = .ok (.iconst 1, 1) := by decide +kernel
theorem dX4_readLevel_2 : decode cX4_readLevel 2 = .ok (.iconst 5, 1) := by decide +kernel
theorem dX4_readLevel_3 : decode cX4_readLevel 3 = .ok (.invokevirtual 102, 3) := by decide +kernel
theorem dX4_readLevel_6 : decode cX4_readLevel 6 = .ok (.istore_n 1, 1) := by decide +kernel
theorem dX4_readLevel_7 : decode cX4_readLevel 7 = .ok (.iconst 1, 1) := by decide +kernel
theorem dX4_readLevel_8 : decode cX4_readLevel 8 = .ok (.istore_n 2, 1) := by decide +kernel
theorem dX4_readLevel_9 : decode cX4_readLevel 9 = .ok (.iconst 0, 1) := by decide +kernel
theorem dX4_readLevel_10 : decode cX4_readLevel 10 = .ok (.istore_n 3, 1) := by decide +kernel
theorem dX4_readLevel_11 : decode cX4_readLevel 11 = .ok (.iconst 0, 1) := by decide +kernel
theorem dX4_readLevel_12 : decode cX4_readLevel 12 = .ok (.istore 4, 2) := by decide +kernel
theorem dX4_readLevel_14 : decode cX4_readLevel 14 = .ok (.iload 4, 2) := by decide +kernel
theorem dX4_readLevel_16 : decode cX4_readLevel 16 = .ok (.sipush 600, 3) := by decide +kernel
theorem dX4_readLevel_19 : decode cX4_readLevel 19 = .ok (.if_icmp .gt 52, 3) := by decide +kernel
theorem dX4_readLevel_22 : decode cX4_readLevel 22 = .ok (.iload_n 2, 1) := by decide +kernel
theorem dX4_readLevel_23 : decode cX4_readLevel 23 = .ok (.ifCond .le 48, 3) := by decide +kernel
theorem dX4_readLevel_26 : decode cX4_readLevel 26 = .ok (.aload_n 0, 1) := by decide +kernel
theorem dX4_readLevel_27 : decode cX4_readLevel 27 = .ok (.getfield 45, 3) := by decide +kernel
theorem dX4_readLevel_30 : decode cX4_readLevel 30 = .ok (.iconst (-1), 1) := by decide +kernel
theorem dX4_readLevel_31 : decode cX4_readLevel 31 = .ok (.if_icmp .ne 40, 3) := by decide +kernel
theorem dX4_readLevel_34 : decode cX4_readLevel 34 = .ok (.iload_n 2, 1) := by decide +kernel
theorem dX4_readLevel_35 : decode cX4_readLevel 35 = .ok (.aload_n 0, 1) := by decide +kernel
theorem dX4_readLevel_36 : decode cX4_readLevel 36 = .ok (.getfield 25, 3) := by decide +kernel
theorem dX4_readLevel_39 : decode cX4_readLevel 39 = .ok (.aload_n 0, 1) := by decide +kernel
theorem dX4_readLevel_40 : decode cX4_readLevel 40 = .ok (.getfield 42, 3) := by decide +kernel
theorem dX4_readLevel_43 : decode cX4_readLevel 43 = .ok (.iaload, 1) := by decide +kernel
theorem dX4_readLevel_44 : decode cX4_readLevel 44 = .ok (.bipush 15, 2) := by decide +kernel
theorem dX4_readLevel_46 : decode cX4_readLevel 46 = .ok (.if_icmp .lt 7, 3) := by decide +kernel
theorem dX4_readLevel_49 : decode cX4_readLevel 49 = .ok (.iconst 1, 1) := by decide +kernel
theorem dX4_readLevel_50 : decode cX4_readLevel 50 = .ok (.goto 4, 3) := by decide +kernel
theorem dX4_readLevel_53 : decode cX4_readLevel 53 = .ok (.iconst (-1), 1) := by decide +kernel
theorem dX4_readLevel_54 : decode cX4_readLevel 54 = .ok (.iadd, 1) := by decide +kernel
theorem dX4_readLevel_55 : decode cX4_readLevel 55 = .ok (.istore_n 2, 1) := by decide +kernel
theorem dX4_readLevel_56 : decode cX4_readLevel 56 = .ok (.aload_n 0, 1) := by decide +kernel
theorem dX4_readLevel_57 : decode cX4_readLevel 57 = .ok (.iload_n 1, 1) := by decide +kernel
theorem dX4_readLevel_58 : decode cX4_readLevel 58 = .ok (.iload_n 3, 1) := by decide +kernel
theorem dX4_readLevel_59 : decode cX4_readLevel 59 = .ok (.invokevirtual 127, 3) := by decide +kernel
theorem dX4_readLevel_62 : decode cX4_readLevel 62 = .ok (.iinc 3 1, 3) := by decide +kernel
theorem dX4_readLevel_65 : decode cX4_readLevel 65 = .ok (.iinc 4 1, 3) := by decide +kernel
theorem dX4_readLevel_68 : decode cX4_readLevel 68 = .ok (.goto (-54), 3) := by decide +kernel
theorem dX4_readLevel_71 : decode cX4_readLevel 71 = .ok (.aload_n 0, 1) := by decide +kernel
theorem dX4_readLevel_72 : decode cX4_readLevel 72 = .ok (.getfield 12, 3) := by decide +kernel
theorem dX4_readLevel_75 : decode cX4_readLevel 75 = .ok (.getfield 131, 3) := by decide +kernel
theorem dX4_readLevel_78 : decode cX4_readLevel 78 = .ok (.iload_n 1, 1) := by decide +kernel
theorem dX4_readLevel_79 : decode cX4_readLevel 79 = .ok (.iload_n 3, 1) := by decide +kernel
theorem dX4_readLevel_80 : decode cX4_readLevel 80 = .ok (.bipush 8, 2) := by decide +kernel
theorem dX4_readLevel_82 : decode cX4_readLevel 82 = .ok (.invokestatic 134, 3) := by decide +kernel
theorem dX4_readLevel_85 : decode cX4_readLevel 85 = .ok (.iastore, 1) := by decide +kernel
theorem dX4_readLevel_86 : decode cX4_readLevel 86 = .ok (.return_, 1) := by decide +kernel
theorem dX4_readRank_0 : decode cX4_readRank 0 = .ok (.aload_n 0, 1) := by decide +kernel
theorem dX4_readRank_1 : decode cX4_readRank 1 = .ok (.iconst 1, 1) := by decide +kernel
theorem dX4_readRank_2 : decode cX4_readRank 2 = .ok (.iconst 3, 1) := by decide +kernel
theorem dX4_readRank_3 : decode cX4_readRank 3 = .ok (.invokevirtual 102, 3) := by decide +kernel
theorem dX4_readRank_6 : decode cX4_readRank 6 = .ok (.istore_n 1, 1) := by decide +kernel
theorem dX4_readRank_7 : decode cX4_readRank 7 = .ok (.aload_n 0, 1) := by decide +kernel
theorem dX4_readRank_8 : decode cX4_readRank 8 = .ok (.getfield 12, 3) := by decide +kernel
theorem dX4_readRank_11 : decode cX4_readRank 11 = .ok (.getfield 118, 3) := by decide +kernel
theorem dX4_readRank_14 : decode cX4_readRank 14 = .ok (.iload_n 1, 1) := by decide +kernel
theorem dX4_readRank_15 : decode cX4_readRank 15 = .ok (.aload_n 0, 1) := by decide +kernel
theorem dX4_readRank_16 : decode cX4_readRank 16 = .ok (.iconst 0, 1) := by decide +kernel
theorem dX4_readRank_17 : decode cX4_readRank 17 = .ok (.sipush 9999, 3) := by decide +kernel
theorem dX4_readRank_20 : decode cX4_readRank 20 = .ok (.invokevirtual 102, 3) := by decide +kernel
theorem dX4_readRank_23 : decode cX4_readRank 23 = .ok (.iastore, 1) := by decide +kernel
theorem dX4_readRank_24 : decode cX4_readRank 24 = .ok (.aload_n 0, 1) := by decide +kernel
theorem dX4_readRank_25 : decode cX4_readRank 25 = .ok (.getfield 12, 3) := by decide +kernel
theorem dX4_readRank_28 : decode cX4_readRank 28 = .ok (.getfield 121, 3) := by decide +kernel
theorem dX4_readRank_31 : decode cX4_readRank 31 = .ok (.iload_n 1, 1) := by decide +kernel
theorem dX4_readRank_32 : decode cX4_readRank 32 = .ok (.aload_n 0, 1) := by decide +kernel
theorem dX4_readRank_33 : decode cX4_readRank 33 = .ok (.iconst 0, 1) := by decide +kernel
theorem dX4_readRank_34 : decode cX4_readRank 34 = .ok (.iconst 4, 1) := by decide +kernel
theorem dX4_readRank_35 : decode cX4_readRank 35 = .ok (.invokevirtual 102, 3) := by decide +kernel
theorem dX4_readRank_38 : decode cX4_readRank 38 = .ok (.iastore, 1) := by decide +kernel
theorem dX4_readRank_39 : decode cX4_readRank 39 = .ok (.return_, 1) := by decide +kernel
theorem dX4_readOpens_0 : decode cX4_readOpens 0 = .ok (.aload_n 0, 1) := by decide +kernel
theorem dX4_readOpens_1 : decode cX4_readOpens 1 = .ok (.iconst 0, 1) := by decide +kernel
theorem dX4_readOpens_2 : decode cX4_readOpens 2 = .ok (.iconst 3, 1) := by decide +kernel
theorem dX4_readOpens_3 : decode cX4_readOpens 3 = .ok (.invokevirtual 102, 3) := by decide +kernel
theorem dX4_readOpens_6 : decode cX4_readOpens 6 = .ok (.istore_n 1, 1) := by decide +kernel
theorem dX4_readOpens_7 : decode cX4_readOpens 7 = .ok (.aload_n 0, 1) := by decide +kernel
theorem dX4_readOpens_8 : decode cX4_readOpens 8 = .ok (.getfield 12, 3) := by decide +kernel
theorem dX4_readOpens_11 : decode cX4_readOpens 11 = .ok (.getfield 124, 3) := by decide +kernel
theorem dX4_readOpens_14 : decode cX4_readOpens 14 = .ok (.iload_n 1, 1) := by decide +kernel
theorem dX4_readOpens_15 : decode cX4_readOpens 15 = .ok (.aload_n 0, 1) := by decide +kernel
theorem dX4_readOpens_16 : decode cX4_readOpens 16 = .ok (.iconst 0, 1) := by decide +kernel
theorem dX4_readOpens_17 : decode cX4_readOpens 17 = .ok (.iconst 5, 1) := by decide +kernel
theorem dX4_readOpens_18 : decode cX4_readOpens 18 = .ok (.invokevirtual 102, 3) := by decide +kernel
theorem dX4_readOpens_21 : decode cX4_readOpens 21 = .ok (.iastore, 1) := by decide +kernel
theorem dX4_readOpens_22 : decode cX4_readOpens 22 = .ok (.return_, 1) := by decide +kernel
theorem dX4_readClause_0 : decode cX4_readClause 0 = .ok (.aload_n 0, 1) := by decide +kernel
theorem dX4_readClause_1 : decode cX4_readClause 1 = .ok (.getfield 25, 3) := by decide +kernel
theorem dX4_readClause_4 : decode cX4_readClause 4 = .ok (.aload_n 0, 1) := by decide +kernel
theorem dX4_readClause_5 : decode cX4_readClause 5 = .ok (.getfield 42, 3) := by decide +kernel
theorem dX4_readClause_8 : decode cX4_readClause 8 = .ok (.iaload, 1) := by decide +kernel
theorem dX4_readClause_9 : decode cX4_readClause 9 = .ok (.istore_n 1, 1) := by decide +kernel
theorem dX4_readClause_10 : decode cX4_readClause 10 = .ok (.iload_n 1, 1) := by decide +kernel
theorem dX4_readClause_11 : decode cX4_readClause 11 = .ok (.iconst 4, 1) := by decide +kernel
theorem dX4_readClause_12 : decode cX4_readClause 12 = .ok (.if_icmp .lt 9, 3) := by decide +kernel
theorem dX4_readClause_15 : decode cX4_readClause 15 = .ok (.iload_n 1, 1) := by decide +kernel
theorem dX4_readClause_16 : decode cX4_readClause 16 = .ok (.bipush 10, 2) := by decide +kernel
theorem dX4_readClause_18 : decode cX4_readClause 18 = .ok (.if_icmp .le 8, 3) := by decide +kernel
theorem dX4_readClause_21 : decode cX4_readClause 21 = .ok (.aload_n 0, 1) := by decide +kernel
theorem dX4_readClause_22 : decode cX4_readClause 22 = .ok (.invokevirtual 87, 3) := by decide +kernel
theorem dX4_readClause_25 : decode cX4_readClause 25 = .ok (.return_, 1) := by decide +kernel
theorem dX4_readClause_26 : decode cX4_readClause 26 = .ok (.aload_n 0, 1) := by decide +kernel
theorem dX4_readClause_27 : decode cX4_readClause 27 = .ok (.invokevirtual 90, 3) := by decide +kernel
theorem dX4_readClause_30 : decode cX4_readClause 30 = .ok (.iload_n 1, 1) := by decide +kernel
theorem dX4_readClause_31 : decode cX4_readClause 31 = .ok (.tableswitch 110 4 9 #[37, 44, 51, 58, 76, 93], 37) := by decide +kernel
theorem dX4_readClause_68 : decode cX4_readClause 68 = .ok (.aload_n 0, 1) := by decide +kernel
theorem dX4_readClause_69 : decode cX4_readClause 69 = .ok (.invokevirtual 93, 3) := by decide +kernel
theorem dX4_readClause_72 : decode cX4_readClause 72 = .ok (.goto 83, 3) := by decide +kernel
theorem dX4_readClause_75 : decode cX4_readClause 75 = .ok (.aload_n 0, 1) := by decide +kernel
theorem dX4_readClause_76 : decode cX4_readClause 76 = .ok (.invokevirtual 96, 3) := by decide +kernel
theorem dX4_readClause_79 : decode cX4_readClause 79 = .ok (.goto 76, 3) := by decide +kernel
theorem dX4_readClause_82 : decode cX4_readClause 82 = .ok (.aload_n 0, 1) := by decide +kernel
theorem dX4_readClause_83 : decode cX4_readClause 83 = .ok (.invokevirtual 99, 3) := by decide +kernel
theorem dX4_readClause_86 : decode cX4_readClause 86 = .ok (.goto 69, 3) := by decide +kernel
theorem dX4_readClause_89 : decode cX4_readClause 89 = .ok (.aload_n 0, 1) := by decide +kernel
theorem dX4_readClause_90 : decode cX4_readClause 90 = .ok (.getfield 12, 3) := by decide +kernel
theorem dX4_readClause_93 : decode cX4_readClause 93 = .ok (.aload_n 0, 1) := by decide +kernel
theorem dX4_readClause_94 : decode cX4_readClause 94 = .ok (.iconst 0, 1) := by decide +kernel
theorem dX4_readClause_95 : decode cX4_readClause 95 = .ok (.sipush 9999, 3) := by decide +kernel
theorem dX4_readClause_98 : decode cX4_readClause 98 = .ok (.invokevirtual 102, 3) := by decide +kernel
theorem dX4_readClause_101 : decode cX4_readClause 101 = .ok (.putfield 106, 3) := by decide +kernel
theorem dX4_readClause_104 : decode cX4_readClause 104 = .ok (.goto 51, 3) := by decide +kernel
theorem dX4_readClause_107 : decode cX4_readClause 107 = .ok (.aload_n 0, 1) := by decide +kernel
theorem dX4_readClause_108 : decode cX4_readClause 108 = .ok (.getfield 12, 3) := by decide +kernel
theorem dX4_readClause_111 : decode cX4_readClause 111 = .ok (.aload_n 0, 1) := by decide +kernel
theorem dX4_readClause_112 : decode cX4_readClause 112 = .ok (.iconst 0, 1) := by decide +kernel
theorem dX4_readClause_113 : decode cX4_readClause 113 = .ok (.bipush 99, 2) := by decide +kernel
theorem dX4_readClause_115 : decode cX4_readClause 115 = .ok (.invokevirtual 102, 3) := by decide +kernel
theorem dX4_readClause_118 : decode cX4_readClause 118 = .ok (.putfield 109, 3) := by decide +kernel
theorem dX4_readClause_121 : decode cX4_readClause 121 = .ok (.goto 34, 3) := by decide +kernel
theorem dX4_readClause_124 : decode cX4_readClause 124 = .ok (.aload_n 0, 1) := by decide +kernel
theorem dX4_readClause_125 : decode cX4_readClause 125 = .ok (.getfield 12, 3) := by decide +kernel
theorem dX4_readClause_128 : decode cX4_readClause 128 = .ok (.aload_n 0, 1) := by decide +kernel
theorem dX4_readClause_129 : decode cX4_readClause 129 = .ok (.iconst 0, 1) := by decide +kernel
theorem dX4_readClause_130 : decode cX4_readClause 130 = .ok (.bipush 12, 2) := by decide +kernel
theorem dX4_readClause_132 : decode cX4_readClause 132 = .ok (.invokevirtual 102, 3) := by decide +kernel
theorem dX4_readClause_135 : decode cX4_readClause 135 = .ok (.putfield 112, 3) := by decide +kernel
theorem dX4_readClause_138 : decode cX4_readClause 138 = .ok (.goto 17, 3) := by decide +kernel
theorem dX4_readClause_141 : decode cX4_readClause 141 = .ok (.aload_n 0, 1) := by decide +kernel
theorem dX4_readClause_142 : decode cX4_readClause 142 = .ok (.getfield 12, 3) := by decide +kernel
theorem dX4_readClause_145 : decode cX4_readClause 145 = .ok (.aload_n 0, 1) := by decide +kernel
theorem dX4_readClause_146 : decode cX4_readClause 146 = .ok (.iconst 1, 1) := by decide +kernel
theorem dX4_readClause_147 : decode cX4_readClause 147 = .ok (.bipush 6, 2) := by decide +kernel
theorem dX4_readClause_149 : decode cX4_readClause 149 = .ok (.invokevirtual 102, 3) := by decide +kernel
theorem dX4_readClause_152 : decode cX4_readClause 152 = .ok (.putfield 115, 3) := by decide +kernel
theorem dX4_readClause_155 : decode cX4_readClause 155 = .ok (.aload_n 0, 1) := by decide +kernel
theorem dX4_readClause_156 : decode cX4_readClause 156 = .ok (.getfield 25, 3) := by decide +kernel
theorem dX4_readClause_159 : decode cX4_readClause 159 = .ok (.aload_n 0, 1) := by decide +kernel
theorem dX4_readClause_160 : decode cX4_readClause 160 = .ok (.getfield 42, 3) := by decide +kernel
theorem dX4_readClause_163 : decode cX4_readClause 163 = .ok (.iaload, 1) := by decide +kernel
theorem dX4_readClause_164 : decode cX4_readClause 164 = .ok (.iconst 2, 1) := by decide +kernel
theorem dX4_readClause_165 : decode cX4_readClause 165 = .ok (.if_icmp .ne 10, 3) := by decide +kernel
theorem dX4_readClause_168 : decode cX4_readClause 168 = .ok (.aload_n 0, 1) := by decide +kernel
theorem dX4_readClause_169 : decode cX4_readClause 169 = .ok (.invokevirtual 90, 3) := by decide +kernel
theorem dX4_readClause_172 : decode cX4_readClause 172 = .ok (.goto 7, 3) := by decide +kernel
theorem dX4_readClause_175 : decode cX4_readClause 175 = .ok (.aload_n 0, 1) := by decide +kernel
theorem dX4_readClause_176 : decode cX4_readClause 176 = .ok (.invokevirtual 87, 3) := by decide +kernel
theorem dX4_readClause_179 : decode cX4_readClause 179 = .ok (.return_, 1) := by decide +kernel
