theorem dX4_read_0 : decode cX4_read 0 = .ok (.aload_n 0, 1) := by decide +kernel
theorem dX4_read_1 : decode cX4_read 1 = .ok (.iconst 0, 1) := by decide +kernel
theorem dX4_read_2 : decode cX4_read 2 = .ok (.putfield 42, 3) := by decide +kernel
theorem dX4_read_5 : decode cX4_read 5 = .ok (.aload_n 0, 1) := by decide +kernel
theorem dX4_read_6 : decode cX4_read 6 = .ok (.iconst (-1), 1) := by decide +kernel
theorem dX4_read_7 : decode cX4_read 7 = .ok (.putfield 45, 3) := by decide +kernel
theorem dX4_read_10 : decode cX4_read 10 = .ok (.aload_n 0, 1) := by decide +kernel
theorem dX4_read_11 : decode cX4_read 11 = .ok (.iconst 0, 1) := by decide +kernel
theorem dX4_read_12 : decode cX4_read 12 = .ok (.putfield 48, 3) := by decide +kernel
theorem dX4_read_15 : decode cX4_read 15 = .ok (.aload_n 0, 1) := by decide +kernel
theorem dX4_read_16 : decode cX4_read 16 = .ok (.iconst (-1), 1) := by decide +kernel
theorem dX4_read_17 : decode cX4_read 17 = .ok (.putfield 51, 3) := by decide +kernel
theorem dX4_read_20 : decode cX4_read 20 = .ok (.aload_n 0, 1) := by decide +kernel
theorem dX4_read_21 : decode cX4_read 21 = .ok (.getfield 12, 3) := by decide +kernel
theorem dX4_read_24 : decode cX4_read 24 = .ok (.invokevirtual 81, 3) := by decide +kernel
theorem dX4_read_27 : decode cX4_read 27 = .ok (.iconst 0, 1) := by decide +kernel
theorem dX4_read_28 : decode cX4_read 28 = .ok (.istore_n 1, 1) := by decide +kernel
theorem dX4_read_29 : decode cX4_read 29 = .ok (.iload_n 1, 1) := by decide +kernel
theorem dX4_read_30 : decode cX4_read 30 = .ok (.sipush 600, 3) := by decide +kernel
theorem dX4_read_33 : decode cX4_read 33 = .ok (.if_icmp .gt 33, 3) := by decide +kernel
theorem dX4_read_36 : decode cX4_read 36 = .ok (.aload_n 0, 1) := by decide +kernel
theorem dX4_read_37 : decode cX4_read 37 = .ok (.getfield 25, 3) := by decide +kernel
theorem dX4_read_40 : decode cX4_read 40 = .ok (.aload_n 0, 1) := by decide +kernel
theorem dX4_read_41 : decode cX4_read 41 = .ok (.getfield 42, 3) := by decide +kernel
theorem dX4_read_44 : decode cX4_read 44 = .ok (.iaload, 1) := by decide +kernel
theorem dX4_read_45 : decode cX4_read 45 = .ok (.ifCond .eq 21, 3) := by decide +kernel
theorem dX4_read_48 : decode cX4_read 48 = .ok (.aload_n 0, 1) := by decide +kernel
theorem dX4_read_49 : decode cX4_read 49 = .ok (.getfield 45, 3) := by decide +kernel
theorem dX4_read_52 : decode cX4_read 52 = .ok (.iconst (-1), 1) := by decide +kernel
theorem dX4_read_53 : decode cX4_read 53 = .ok (.if_icmp .ne 13, 3) := by decide +kernel
theorem dX4_read_56 : decode cX4_read 56 = .ok (.aload_n 0, 1) := by decide +kernel
theorem dX4_read_57 : decode cX4_read 57 = .ok (.invokevirtual 84, 3) := by decide +kernel
theorem dX4_read_60 : decode cX4_read 60 = .ok (.iinc 1 1, 3) := by decide +kernel
theorem dX4_read_63 : decode cX4_read 63 = .ok (.goto (-34), 3) := by decide +kernel
theorem dX4_read_66 : decode cX4_read 66 = .ok (.return_, 1) := by decide +kernel
theorem dX4_faultKind_0 : decode cX4_faultKind 0 = .ok (.aload_n 0, 1) := by decide +kernel
theorem dX4_faultKind_1 : decode cX4_faultKind 1 = .ok (.getfield 45, 3) := by decide +kernel
theorem dX4_faultKind_4 : decode cX4_faultKind 4 = .ok (.iconst (-1), 1) := by decide +kernel
theorem dX4_faultKind_5 : decode cX4_faultKind 5 = .ok (.if_icmp .eq 7, 3) := by decide +kernel
theorem dX4_faultKind_8 : decode cX4_faultKind 8 = .ok (.iconst 1, 1) := by decide +kernel
theorem dX4_faultKind_9 : decode cX4_faultKind 9 = .ok (.goto 7, 3) := by decide +kernel
theorem dX4_faultKind_12 : decode cX4_faultKind 12 = .ok (.aload_n 0, 1) := by decide +kernel
theorem dX4_faultKind_13 : decode cX4_faultKind 13 = .ok (.getfield 48, 3) := by decide +kernel
theorem dX4_faultKind_16 : decode cX4_faultKind 16 = .ok (.ireturn, 1) := by decide +kernel
theorem dX4_faultPlace_0 : decode cX4_faultPlace 0 = .ok (.aload_n 0, 1) := by decide +kernel
theorem dX4_faultPlace_1 : decode cX4_faultPlace 1 = .ok (.getfield 45, 3) := by decide +kernel
theorem dX4_faultPlace_4 : decode cX4_faultPlace 4 = .ok (.iconst (-1), 1) := by decide +kernel
theorem dX4_faultPlace_5 : decode cX4_faultPlace 5 = .ok (.if_icmp .eq 10, 3) := by decide +kernel
theorem dX4_faultPlace_8 : decode cX4_faultPlace 8 = .ok (.aload_n 0, 1) := by decide +kernel
theorem dX4_faultPlace_9 : decode cX4_faultPlace 9 = .ok (.getfield 45, 3) := by decide +kernel
theorem dX4_faultPlace_12 : decode cX4_faultPlace 12 = .ok (.goto 7, 3) := by decide +kernel
theorem dX4_faultPlace_15 : decode cX4_faultPlace 15 = .ok (.aload_n 0, 1) := by decide +kernel
theorem dX4_faultPlace_16 : decode cX4_faultPlace 16 = .ok (.getfield 51, 3) := by decide +kernel
theorem dX4_faultPlace_19 : decode cX4_faultPlace 19 = .ok (.ireturn, 1) := by decide +kernel
theorem dX3_copyFrom_0 : decode cX3_copyFrom 0 = .ok (.aload_n 0, 1) := by decide +kernel
theorem dX3_copyFrom_1 : decode cX3_copyFrom 1 = .ok (.aload_n 1, 1) := by decide +kernel
theorem dX3_copyFrom_2 : decode cX3_copyFrom 2 = .ok (.getfield 39, 3) := by decide +kernel
theorem dX3_copyFrom_5 : decode cX3_copyFrom 5 = .ok (.putfield 39, 3) := by decide +kernel
theorem dX3_copyFrom_8 : decode cX3_copyFrom 8 = .ok (.aload_n 0, 1) := by decide +kernel
theorem dX3_copyFrom_9 : decode cX3_copyFrom 9 = .ok (.aload_n 1, 1) := by decide +kernel
theorem dX3_copyFrom_10 : decode cX3_copyFrom 10 = .ok (.getfield 43, 3) := by decide +kernel
theorem dX3_copyFrom_13 : decode cX3_copyFrom 13 = .ok (.putfield 43, 3) := by decide +kernel
theorem dX3_copyFrom_16 : decode cX3_copyFrom 16 = .ok (.aload_n 0, 1) := by decide +kernel
theorem dX3_copyFrom_17 : decode cX3_copyFrom 17 = .ok (.aload_n 1, 1) := by decide +kernel
theorem dX3_copyFrom_18 : decode cX3_copyFrom 18 = .ok (.getfield 46, 3) := by decide +kernel
theorem dX3_copyFrom_21 : decode cX3_copyFrom 21 = .ok (.putfield 46, 3) := by decide +kernel
theorem dX3_copyFrom_24 : decode cX3_copyFrom 24 = .ok (.aload_n 0, 1) := by decide +kernel
theorem dX3_copyFrom_25 : decode cX3_copyFrom 25 = .ok (.aload_n 1, 1) := by decide +kernel
theorem dX3_copyFrom_26 : decode cX3_copyFrom 26 = .ok (.getfield 49, 3) := by decide +kernel
theorem dX3_copyFrom_29 : decode cX3_copyFrom 29 = .ok (.putfield 49, 3) := by decide +kernel
theorem dX3_copyFrom_32 : decode cX3_copyFrom 32 = .ok (.aload_n 1, 1) := by decide +kernel
theorem dX3_copyFrom_33 : decode cX3_copyFrom 33 = .ok (.getfield 9, 3) := by decide +kernel
theorem dX3_copyFrom_36 : decode cX3_copyFrom 36 = .ok (.iconst 0, 1) := by decide +kernel
theorem dX3_copyFrom_37 : decode cX3_copyFrom 37 = .ok (.aload_n 0, 1) := by decide +kernel
theorem dX3_copyFrom_38 : decode cX3_copyFrom 38 = .ok (.getfield 9, 3) := by decide +kernel
theorem dX3_copyFrom_41 : decode cX3_copyFrom 41 = .ok (.iconst 0, 1) := by decide +kernel
theorem dX3_copyFrom_42 : decode cX3_copyFrom 42 = .ok (.aload_n 0, 1) := by decide +kernel
theorem dX3_copyFrom_43 : decode cX3_copyFrom 43 = .ok (.getfield 9, 3) := by decide +kernel
theorem dX3_copyFrom_46 : decode cX3_copyFrom 46 = .ok (.arraylength, 1) := by decide +kernel
theorem dX3_copyFrom_47 : decode cX3_copyFrom 47 = .ok (.invokestatic 56, 3) := by decide +kernel
theorem dX3_copyFrom_50 : decode cX3_copyFrom 50 = .ok (.aload_n 1, 1) := by decide +kernel
theorem dX3_copyFrom_51 : decode cX3_copyFrom 51 = .ok (.getfield 15, 3) := by decide +kernel
theorem dX3_copyFrom_54 : decode cX3_copyFrom 54 = .ok (.iconst 0, 1) := by decide +kernel
theorem dX3_copyFrom_55 : decode cX3_copyFrom 55 = .ok (.aload_n 0, 1) := by decide +kernel
theorem dX3_copyFrom_56 : decode cX3_copyFrom 56 = .ok (.getfield 15, 3) := by decide +kernel
theorem dX3_copyFrom_59 : decode cX3_copyFrom 59 = .ok (.iconst 0, 1) := by decide +kernel
theorem dX3_copyFrom_60 : decode cX3_copyFrom 60 = .ok (.aload_n 0, 1) := by decide +kernel
theorem dX3_copyFrom_61 : decode cX3_copyFrom 61 = .ok (.getfield 15, 3) := by decide +kernel
theorem dX3_copyFrom_64 : decode cX3_copyFrom 64 = .ok (.arraylength, 1) := by decide +kernel
theorem dX3_copyFrom_65 : decode cX3_copyFrom 65 = .ok (.invokestatic 56, 3) := by decide +kernel
theorem dX3_copyFrom_68 : decode cX3_copyFrom 68 = .ok (.aload_n 1, 1) := by decide +kernel
theorem dX3_copyFrom_69 : decode cX3_copyFrom 69 = .ok (.getfield 18, 3) := by decide +kernel
theorem dX3_copyFrom_72 : decode cX3_copyFrom 72 = .ok (.iconst 0, 1) := by decide +kernel
theorem dX3_copyFrom_73 : decode cX3_copyFrom 73 = .ok (.aload_n 0, 1) := by decide +kernel
theorem dX3_copyFrom_74 : decode cX3_copyFrom 74 = .ok (.getfield 18, 3) := by decide +kernel
theorem dX3_copyFrom_77 : decode cX3_copyFrom 77 = .ok (.iconst 0, 1) := by decide +kernel
theorem dX3_copyFrom_78 : decode cX3_copyFrom 78 = .ok (.aload_n 0, 1) := by decide +kernel
theorem dX3_copyFrom_79 : decode cX3_copyFrom 79 = .ok (.getfield 18, 3) := by decide +kernel
theorem dX3_copyFrom_82 : decode cX3_copyFrom 82 = .ok (.arraylength, 1) := by decide +kernel
theorem dX3_copyFrom_83 : decode cX3_copyFrom 83 = .ok (.invokestatic 56, 3) := by decide +kernel
theorem dX3_copyFrom_86 : decode cX3_copyFrom 86 = .ok (.aload_n 1, 1) := by decide +kernel
theorem dX3_copyFrom_87 : decode cX3_copyFrom 87 = .ok (.getfield 21, 3) := by decide +kernel
theorem dX3_copyFrom_90 : decode cX3_copyFrom 90 = .ok (.iconst 0, 1) := by decide +kernel
theorem dX3_copyFrom_91 : decode cX3_copyFrom 91 = .ok (.aload_n 0, 1) := by decide +kernel
theorem dX3_copyFrom_92 : decode cX3_copyFrom 92 = .ok (.getfield 21, 3) := by decide +kernel
theorem dX3_copyFrom_95 : decode cX3_copyFrom 95 = .ok (.iconst 0, 1) := by decide +kernel
theorem dX3_copyFrom_96 : decode cX3_copyFrom 96 = .ok (.aload_n 0, 1) := by decide +kernel
theorem dX3_copyFrom_97 : decode cX3_copyFrom 97 = .ok (.getfield 21, 3) := by decide +kernel
theorem dX3_copyFrom_100 : decode cX3_copyFrom 100 = .ok (.arraylength, 1) := by decide +kernel
theorem dX3_copyFrom_101 : decode cX3_copyFrom 101 = .ok (.invokestatic 56, 3) := by decide +kernel
theorem dX3_copyFrom_104 : decode cX3_copyFrom 104 = .ok (.aload_n 1, 1) := by decide +kernel
theorem dX3_copyFrom_105 : decode cX3_copyFrom 105 = .ok (.getfield 24, 3) := by decide +kernel
theorem dX3_copyFrom_108 : decode cX3_copyFrom 108 = .ok (.iconst 0, 1) := by decide +kernel
theorem dX3_copyFrom_109 : decode cX3_copyFrom 109 = .ok (.aload_n 0, 1) := by decide +kernel
theorem dX3_copyFrom_110 : decode cX3_copyFrom 110 = .ok (.getfield 24, 3) := by decide +kernel
theorem dX3_copyFrom_113 : decode cX3_copyFrom 113 = .ok (.iconst 0, 1) := by decide +kernel
theorem dX3_copyFrom_114 : decode cX3_copyFrom 114 = .ok (.aload_n 0, 1) := by decide +kernel
theorem dX3_copyFrom_115 : decode cX3_copyFrom 115 = .ok (.getfield 24, 3) := by decide +kernel
theorem dX3_copyFrom_118 : decode cX3_copyFrom 118 = .ok (.arraylength, 1) := by decide +kernel
theorem dX3_copyFrom_119 : decode cX3_copyFrom 119 = .ok (.invokestatic 56, 3) := by decide +kernel
theorem dX3_copyFrom_122 : decode cX3_copyFrom 122 = .ok (.aload_n 1, 1) := by decide +kernel
theorem dX3_copyFrom_123 : decode cX3_copyFrom 123 = .ok (.getfield 27, 3) := by decide +kernel
theorem dX3_copyFrom_126 : decode cX3_copyFrom 126 = .ok (.iconst 0, 1) := by decide +kernel
theorem dX3_copyFrom_127 : decode cX3_copyFrom 127 = .ok (.aload_n 0, 1) := by decide +kernel
theorem dX3_copyFrom_128 : decode cX3_copyFrom 128 = .ok (.getfield 27, 3) := by decide +kernel
theorem dX3_copyFrom_131 : decode cX3_copyFrom 131 = .ok (.iconst 0, 1) := by decide +kernel
theorem dX3_copyFrom_132 : decode cX3_copyFrom 132 = .ok (.aload_n 0, 1) := by decide +kernel
theorem dX3_copyFrom_133 : decode cX3_copyFrom 133 = .ok (.getfield 27, 3) := by decide +kernel
theorem dX3_copyFrom_136 : decode cX3_copyFrom 136 = .ok (.arraylength, 1) := by decide +kernel
theorem dX3_copyFrom_137 : decode cX3_copyFrom 137 = .ok (.invokestatic 56, 3) := by decide +kernel
theorem dX3_copyFrom_140 : decode cX3_copyFrom 140 = .ok (.aload_n 1, 1) := by decide +kernel
theorem dX3_copyFrom_141 : decode cX3_copyFrom 141 = .ok (.getfield 30, 3) := by decide +kernel
theorem dX3_copyFrom_144 : decode cX3_copyFrom 144 = .ok (.iconst 0, 1) := by decide +kernel
theorem dX3_copyFrom_145 : decode cX3_copyFrom 145 = .ok (.aload_n 0, 1) := by decide +kernel
theorem dX3_copyFrom_146 : decode cX3_copyFrom 146 = .ok (.getfield 30, 3) := by decide +kernel
theorem dX3_copyFrom_149 : decode cX3_copyFrom 149 = .ok (.iconst 0, 1) := by decide +kernel
theorem dX3_copyFrom_150 : decode cX3_copyFrom 150 = .ok (.aload_n 0, 1) := by decide +kernel
theorem dX3_copyFrom_151 : decode cX3_copyFrom 151 = .ok (.getfield 30, 3) := by decide +kernel
theorem dX3_copyFrom_154 : decode cX3_copyFrom 154 = .ok (.arraylength, 1) := by decide +kernel
theorem dX3_copyFrom_155 : decode cX3_copyFrom 155 = .ok (.invokestatic 56, 3) := by decide +kernel
theorem dX3_copyFrom_158 : decode cX3_copyFrom 158 = .ok (.return_, 1) := by decide +kernel
theorem dJ7_fill_53178_0 : decode cJ7_fill_53178 0 = .ok (.iconst 0, 1) := by decide +kernel
theorem dJ7_fill_53178_1 : decode cJ7_fill_53178 1 = .ok (.istore_n 2, 1) := by decide +kernel
theorem dJ7_fill_53178_2 : decode cJ7_fill_53178 2 = .ok (.aload_n 0, 1) := by decide +kernel
theorem dJ7_fill_53178_3 : decode cJ7_fill_53178 3 = .ok (.arraylength, 1) := by decide +kernel
theorem dJ7_fill_53178_4 : decode cJ7_fill_53178 4 = .ok (.istore_n 3, 1) := by decide +kernel
theorem dJ7_fill_53178_5 : decode cJ7_fill_53178 5 = .ok (.iload_n 2, 1) := by decide +kernel
theorem dJ7_fill_53178_6 : decode cJ7_fill_53178 6 = .ok (.iload_n 3, 1) := by decide +kernel
theorem dJ7_fill_53178_7 : decode cJ7_fill_53178 7 = .ok (.if_icmp .ge 13, 3) := by decide +kernel
theorem dJ7_fill_53178_10 : decode cJ7_fill_53178 10 = .ok (.aload_n 0, 1) := by decide +kernel
theorem dJ7_fill_53178_11 : decode cJ7_fill_53178 11 = .ok (.iload_n 2, 1) := by decide +kernel
theorem dJ7_fill_53178_12 : decode cJ7_fill_53178 12 = .ok (.iload_n 1, 1) := by decide +kernel
theorem dJ7_fill_53178_13 : decode cJ7_fill_53178 13 = .ok (.iastore, 1) := by decide +kernel
theorem dJ7_fill_53178_14 : decode cJ7_fill_53178 14 = .ok (.iinc 2 1, 3) := by decide +kernel
theorem dJ7_fill_53178_17 : decode cJ7_fill_53178 17 = .ok (.goto (-12), 3) := by decide +kernel
theorem dJ7_fill_53178_20 : decode cJ7_fill_53178 20 = .ok (.return_, 1) := by decide +kernel
theorem dX1_clear_0 : decode cX1_clear 0 = .ok (.aload_n 0, 1) := by decide +kernel
theorem dX1_clear_1 : decode cX1_clear 1 = .ok (.getfield 9, 3) := by decide +kernel
theorem dX1_clear_4 : decode cX1_clear 4 = .ok (.iconst 0, 1) := by decide +kernel
theorem dX1_clear_5 : decode cX1_clear 5 = .ok (.invokestatic 21, 3) := by decide +kernel
theorem dX1_clear_8 : decode cX1_clear 8 = .ok (.aload_n 0, 1) := by decide +kernel
theorem dX1_clear_9 : decode cX1_clear 9 = .ok (.getfield 15, 3) := by decide +kernel
theorem dX1_clear_12 : decode cX1_clear 12 = .ok (.iconst 0, 1) := by decide +kernel
theorem dX1_clear_13 : decode cX1_clear 13 = .ok (.invokestatic 21, 3) := by decide +kernel
theorem dX1_clear_16 : decode cX1_clear 16 = .ok (.return_, 1) := by decide +kernel
theorem dX7_beginAnew_0 : decode cX7_beginAnew 0 = .ok (.aload_n 0, 1) := by decide +kernel
theorem dX7_beginAnew_1 : decode cX7_beginAnew 1 = .ok (.iconst 0, 1) := by decide +kernel
theorem dX7_beginAnew_2 : decode cX7_beginAnew 2 = .ok (.putfield 57, 3) := by decide +kernel
theorem dX7_beginAnew_5 : decode cX7_beginAnew 5 = .ok (.aload_n 0, 1) := by decide +kernel
theorem dX7_beginAnew_6 : decode cX7_beginAnew 6 = .ok (.getfield 28, 3) := by decide +kernel
theorem dX7_beginAnew_9 : decode cX7_beginAnew 9 = .ok (.invokevirtual 76, 3) := by decide +kernel
theorem dX7_beginAnew_12 : decode cX7_beginAnew 12 = .ok (.aload_n 0, 1) := by decide +kernel
theorem dX7_beginAnew_13 : decode cX7_beginAnew 13 = .ok (.getfield 35, 3) := by decide +kernel
theorem dX7_beginAnew_16 : decode cX7_beginAnew 16 = .ok (.iconst 0, 1) := by decide +kernel
theorem dX7_beginAnew_17 : decode cX7_beginAnew 17 = .ok (.putfield 79, 3) := by decide +kernel
theorem dX7_beginAnew_20 : decode cX7_beginAnew 20 = .ok (.aload_n 0, 1) := by decide +kernel
theorem dX7_beginAnew_21 : decode cX7_beginAnew 21 = .ok (.getfield 42, 3) := by decide +kernel
theorem dX7_beginAnew_24 : decode cX7_beginAnew 24 = .ok (.invokevirtual 82, 3) := by decide +kernel
theorem dX7_beginAnew_27 : decode cX7_beginAnew 27 = .ok (.return_, 1) := by decide +kernel
theorem dX9_plan_0 : decode cX9_plan 0 = .ok (.aload_n 0, 1) := by decide +kernel
theorem dX9_plan_1 : decode cX9_plan 1 = .ok (.getfield 23, 3) := by decide +kernel
theorem dX9_plan_4 : decode cX9_plan 4 = .ok (.aload_n 0, 1) := by decide +kernel
theorem dX9_plan_5 : decode cX9_plan 5 = .ok (.getfield 10, 3) := by decide +kernel
theorem dX9_plan_8 : decode cX9_plan 8 = .ok (.getfield 41, 3) := by decide +kernel
theorem dX9_plan_11 : decode cX9_plan 11 = .ok (.invokevirtual 55, 3) := by decide +kernel
theorem dX9_plan_14 : decode cX9_plan 14 = .ok (.aload_n 0, 1) := by decide +kernel
theorem dX9_plan_15 : decode cX9_plan 15 = .ok (.getfield 23, 3) := by decide +kernel
theorem dX9_plan_18 : decode cX9_plan 18 = .ok (.invokevirtual 59, 3) := by decide +kernel
theorem dX9_plan_21 : decode cX9_plan 21 = .ok (.aload_n 0, 1) := by decide +kernel
theorem dX9_plan_22 : decode cX9_plan 22 = .ok (.getfield 10, 3) := by decide +kernel
theorem dX9_plan_25 : decode cX9_plan 25 = .ok (.getfield 41, 3) := by decide +kernel
theorem dX9_plan_28 : decode cX9_plan 28 = .ok (.iconst 0, 1) := by decide +kernel
theorem dX9_plan_29 : decode cX9_plan 29 = .ok (.putfield 45, 3) := by decide +kernel
theorem dX9_plan_32 : decode cX9_plan 32 = .ok (.aload_n 0, 1) := by decide +kernel
theorem dX9_plan_33 : decode cX9_plan 33 = .ok (.getfield 10, 3) := by decide +kernel
theorem dX9_plan_36 : decode cX9_plan 36 = .ok (.aload_n 0, 1) := by decide +kernel
theorem dX9_plan_37 : decode cX9_plan 37 = .ok (.getfield 23, 3) := by decide +kernel
theorem dX9_plan_40 : decode cX9_plan 40 = .ok (.invokevirtual 62, 3) := by decide +kernel
theorem dX9_plan_43 : decode cX9_plan 43 = .ok (.putfield 66, 3) := by decide +kernel
theorem dX9_plan_46 : decode cX9_plan 46 = .ok (.aload_n 0, 1) := by decide +kernel
theorem dX9_plan_47 : decode cX9_plan 47 = .ok (.getfield 10, 3) := by decide +kernel
theorem dX9_plan_50 : decode cX9_plan 50 = .ok (.aload_n 0, 1) := by decide +kernel
theorem dX9_plan_51 : decode cX9_plan 51 = .ok (.getfield 23, 3) := by decide +kernel
theorem dX9_plan_54 : decode cX9_plan 54 = .ok (.invokevirtual 69, 3) := by decide +kernel
theorem dX9_plan_57 : decode cX9_plan 57 = .ok (.putfield 72, 3) := by decide +kernel
theorem dX9_plan_60 : decode cX9_plan 60 = .ok (.aload_n 0, 1) := by decide +kernel
theorem dX9_plan_61 : decode cX9_plan 61 = .ok (.getfield 10, 3) := by decide +kernel
theorem dX9_plan_64 : decode cX9_plan 64 = .ok (.getfield 66, 3) := by decide +kernel
theorem dX9_plan_67 : decode cX9_plan 67 = .ok (.ifCond .eq 5, 3) := by decide +kernel
theorem dX9_plan_70 : decode cX9_plan 70 = .ok (.iconst (-1), 1) := by decide +kernel
theorem dX9_plan_71 : decode cX9_plan 71 = .ok (.ireturn, 1) := by decide +kernel
theorem dX9_plan_72 : decode cX9_plan 72 = .ok (.aload_n 0, 1) := by decide +kernel
theorem dX9_plan_73 : decode cX9_plan 73 = .ok (.getfield 10, 3) := by decide +kernel
theorem dX9_plan_76 : decode cX9_plan 76 = .ok (.getfield 74, 3) := by decide +kernel
theorem dX9_plan_79 : decode cX9_plan 79 = .ok (.aload_n 0, 1) := by decide +kernel
theorem dX9_plan_80 : decode cX9_plan 80 = .ok (.getfield 23, 3) := by decide +kernel
theorem dX9_plan_83 : decode cX9_plan 83 = .ok (.getfield 78, 3) := by decide +kernel
theorem dX9_plan_86 : decode cX9_plan 86 = .ok (.invokevirtual 81, 3) := by decide +kernel
theorem dX9_plan_89 : decode cX9_plan 89 = .ok (.aload_n 0, 1) := by decide +kernel
theorem dX9_plan_90 : decode cX9_plan 90 = .ok (.getfield 10, 3) := by decide +kernel
theorem dX9_plan_93 : decode cX9_plan 93 = .ok (.invokevirtual 87, 3) := by decide +kernel
theorem dX9_plan_96 : decode cX9_plan 96 = .ok (.iconst 0, 1) := by decide +kernel
theorem dX9_plan_97 : decode cX9_plan 97 = .ok (.ireturn, 1) := by decide +kernel
theorem dX10_see_0 : decode cX10_see 0 = .ok (.aload_n 0, 1) := by decide +kernel
theorem dX10_see_1 : decode cX10_see 1 = .ok (.getfield 63, 3) := by decide +kernel
theorem dX10_see_4 : decode cX10_see 4 = .ok (.aload_n 0, 1) := by decide +kernel
theorem dX10_see_5 : decode cX10_see 5 = .ok (.getfield 66, 3) := by decide +kernel
theorem dX10_see_8 : decode cX10_see 8 = .ok (.if_icmp .ge 19, 3) := by decide +kernel
theorem dX10_see_11 : decode cX10_see 11 = .ok (.aload_n 0, 1) := by decide +kernel
theorem dX10_see_12 : decode cX10_see 12 = .ok (.getfield 13, 3) := by decide +kernel
theorem dX10_see_15 : decode cX10_see 15 = .ok (.aload_n 0, 1) := by decide +kernel
theorem dX10_see_16 : decode cX10_see 16 = .ok (.getfield 63, 3) := by decide +kernel
theorem dX10_see_19 : decode cX10_see 19 = .ok (.baload, 1) := by decide +kernel
theorem dX10_see_20 : decode cX10_see 20 = .ok (.sipush 255, 3) := by decide +kernel
theorem dX10_see_23 : decode cX10_see 23 = .ok (.iand, 1) := by decide +kernel
theorem dX10_see_24 : decode cX10_see 24 = .ok (.goto 4, 3) := by decide +kernel
theorem dX10_see_27 : decode cX10_see 27 = .ok (.iconst (-1), 1) := by decide +kernel
theorem dX10_see_28 : decode cX10_see 28 = .ok (.ireturn, 1) := by decide +kernel
theorem dX10_token_0 : decode cX10_token 0 = .ok (.aload_n 0, 1) := by decide +kernel
theorem dX10_token_1 : decode cX10_token 1 = .ok (.invokevirtual 69, 3) := by decide +kernel
theorem dX10_token_4 : decode cX10_token 4 = .ok (.bipush 10, 2) := by decide +kernel
theorem dX10_token_6 : decode cX10_token 6 = .ok (.if_icmp .eq 12, 3) := by decide +kernel
theorem dX10_token_9 : decode cX10_token 9 = .ok (.aload_n 0, 1) := by decide +kernel
theorem dX10_token_10 : decode cX10_token 10 = .ok (.invokevirtual 69, 3) := by decide +kernel
theorem dX10_token_13 : decode cX10_token 13 = .ok (.bipush 32, 2) := by decide +kernel
theorem dX10_token_15 : decode cX10_token 15 = .ok (.if_icmp .ne 16, 3) := by decide +kernel
theorem dX10_token_18 : decode cX10_token 18 = .ok (.aload_n 0, 1) := by decide +kernel
theorem dX10_token_19 : decode cX10_token 19 = .ok (.dup, 1) := by decide +kernel
theorem dX10_token_20 : decode cX10_token 20 = .ok (.getfield 63, 3) := by decide +kernel
theorem dX10_token_23 : decode cX10_token 23 = .ok (.iconst 1, 1) := by decide +kernel
theorem dX10_token_24 : decode cX10_token 24 = .ok (.iadd, 1) := by decide +kernel
theorem dX10_token_25 : decode cX10_token 25 = .ok (.putfield 63, 3) := by decide +kernel
theorem dX10_token_28 : decode cX10_token 28 = .ok (.goto (-28), 3) := by decide +kernel
theorem dX10_token_31 : decode cX10_token 31 = .ok (.aload_n 0, 1) := by decide +kernel
theorem dX10_token_32 : decode cX10_token 32 = .ok (.aload_n 0, 1) := by decide +kernel
theorem dX10_token_33 : decode cX10_token 33 = .ok (.getfield 63, 3) := by decide +kernel
theorem dX10_token_36 : decode cX10_token 36 = .ok (.putfield 73, 3) := by decide +kernel
theorem dX10_token_39 : decode cX10_token 39 = .ok (.aload_n 0, 1) := by decide +kernel
theorem dX10_token_40 : decode cX10_token 40 = .ok (.invokevirtual 69, 3) := by decide +kernel
theorem dX10_token_43 : decode cX10_token 43 = .ok (.istore_n 1, 1) := by decide +kernel
theorem dX10_token_44 : decode cX10_token 44 = .ok (.aload_n 0, 1) := by decide +kernel
theorem dX10_token_45 : decode cX10_token 45 = .ok (.lconst 0, 1) := by decide +kernel
theorem dX10_token_46 : decode cX10_token 46 = .ok (.putfield 76, 3) := by decide +kernel
theorem dX10_token_49 : decode cX10_token 49 = .ok (.iconst 0, 1) := by decide +kernel
theorem dX10_token_50 : decode cX10_token 50 = .ok (.istore_n 2, 1) := by decide +kernel
theorem dX10_token_51 : decode cX10_token 51 = .ok (.iload_n 1, 1) := by decide +kernel
theorem dX10_token_52 : decode cX10_token 52 = .ok (.ifCond .ge 11, 3) := by decide +kernel
theorem dX10_token_55 : decode cX10_token 55 = .ok (.aload_n 0, 1) := by decide +kernel
theorem dX10_token_56 : decode cX10_token 56 = .ok (.iconst 0, 1) := by decide +kernel
theorem dX10_token_57 : decode cX10_token 57 = .ok (.putfield 80, 3) := by decide +kernel
theorem dX10_token_60 : decode cX10_token 60 = .ok (.goto 206, 3) := by decide +kernel
theorem dX10_token_63 : decode cX10_token 63 = .ok (.iload_n 1, 1) := by decide +kernel
theorem dX10_token_64 : decode cX10_token 64 = .ok (.bipush 97, 2) := by decide +kernel
theorem dX10_token_66 : decode cX10_token 66 = .ok (.bipush 122, 2) := by decide +kernel
theorem dX10_token_68 : decode cX10_token 68 = .ok (.invokestatic 59, 3) := by decide +kernel
theorem dX10_token_71 : decode cX10_token 71 = .ok (.ifCond .eq 76, 3) := by decide +kernel
theorem dX10_token_74 : decode cX10_token 74 = .ok (.aload_n 0, 1) := by decide +kernel
theorem dX10_token_75 : decode cX10_token 75 = .ok (.invokevirtual 69, 3) := by decide +kernel
theorem dX10_token_78 : decode cX10_token 78 = .ok (.bipush 97, 2) := by decide +kernel
theorem dX10_token_80 : decode cX10_token 80 = .ok (.bipush 122, 2) := by decide +kernel
theorem dX10_token_82 : decode cX10_token 82 = .ok (.invokestatic 59, 3) := by decide +kernel
theorem dX10_token_85 : decode cX10_token 85 = .ok (.ifCond .eq 36, 3) := by decide +kernel
theorem dX10_token_88 : decode cX10_token 88 = .ok (.aload_n 0, 1) := by decide +kernel
theorem dX10_token_89 : decode cX10_token 89 = .ok (.aload_n 0, 1) := by decide +kernel
theorem dX10_token_90 : decode cX10_token 90 = .ok (.getfield 76, 3) := by decide +kernel
theorem dX10_token_93 : decode cX10_token 93 = .ok (.bipush 8, 2) := by decide +kernel
theorem dX10_token_95 : decode cX10_token 95 = .ok (.lshl, 1) := by decide +kernel
theorem dX10_token_96 : decode cX10_token 96 = .ok (.aload_n 0, 1) := by decide +kernel
theorem dX10_token_97 : decode cX10_token 97 = .ok (.invokevirtual 69, 3) := by decide +kernel
theorem dX10_token_100 : decode cX10_token 100 = .ok (.i2l, 1) := by decide +kernel
theorem dX10_token_101 : decode cX10_token 101 = .ok (.lor, 1) := by decide +kernel
theorem dX10_token_102 : decode cX10_token 102 = .ok (.putfield 76, 3) := by decide +kernel
theorem dX10_token_105 : decode cX10_token 105 = .ok (.aload_n 0, 1) := by decide +kernel
theorem dX10_token_106 : decode cX10_token 106 = .ok (.dup, 1) := by decide +kernel
theorem dX10_token_107 : decode cX10_token 107 = .ok (.getfield 63, 3) := by decide +kernel
theorem dX10_token_110 : decode cX10_token 110 = .ok (.iconst 1, 1) := by decide +kernel
theorem dX10_token_111 : decode cX10_token 111 = .ok (.iadd, 1) := by decide +kernel
theorem dX10_token_112 : decode cX10_token 112 = .ok (.putfield 63, 3) := by decide +kernel
theorem dX10_token_115 : decode cX10_token 115 = .ok (.iinc 2 1, 3) := by decide +kernel
theorem dX10_token_118 : decode cX10_token 118 = .ok (.goto (-44), 3) := by decide +kernel
theorem dX10_token_121 : decode cX10_token 121 = .ok (.aload_n 0, 1) := by decide +kernel
theorem dX10_token_122 : decode cX10_token 122 = .ok (.iload_n 2, 1) := by decide +kernel
theorem dX10_token_123 : decode cX10_token 123 = .ok (.bipush 8, 2) := by decide +kernel
theorem dX10_token_125 : decode cX10_token 125 = .ok (.if_icmp .le 7, 3) := by decide +kernel
theorem dX10_token_128 : decode cX10_token 128 = .ok (.lconst 0, 1) := by decide +kernel
theorem dX10_token_129 : decode cX10_token 129 = .ok (.goto 7, 3) := by decide +kernel
theorem dX10_token_132 : decode cX10_token 132 = .ok (.aload_n 0, 1) := by decide +kernel
theorem dX10_token_133 : decode cX10_token 133 = .ok (.getfield 76, 3) := by decide +kernel
theorem dX10_token_136 : decode cX10_token 136 = .ok (.putfield 76, 3) := by decide +kernel
theorem dX10_token_139 : decode cX10_token 139 = .ok (.aload_n 0, 1) := by decide +kernel
theorem dX10_token_140 : decode cX10_token 140 = .ok (.iconst 2, 1) := by decide +kernel
theorem dX10_token_141 : decode cX10_token 141 = .ok (.putfield 80, 3) := by decide +kernel
theorem dX10_token_144 : decode cX10_token 144 = .ok (.goto 122, 3) := by decide +kernel
theorem dX10_token_147 : decode cX10_token 147 = .ok (.iload_n 1, 1) := by decide +kernel
theorem dX10_token_148 : decode cX10_token 148 = .ok (.bipush 48, 2) := by decide +kernel
theorem dX10_token_150 : decode cX10_token 150 = .ok (.bipush 57, 2) := by decide +kernel
theorem dX10_token_152 : decode cX10_token 152 = .ok (.invokestatic 59, 3) := by decide +kernel
theorem dX10_token_155 : decode cX10_token 155 = .ok (.ifCond .eq 86, 3) := by decide +kernel
theorem dX10_token_158 : decode cX10_token 158 = .ok (.aload_n 0, 1) := by decide +kernel
theorem dX10_token_159 : decode cX10_token 159 = .ok (.iconst 0, 1) := by decide +kernel
theorem dX10_token_160 : decode cX10_token 160 = .ok (.putfield 83, 3) := by decide +kernel
theorem dX10_token_163 : decode cX10_token 163 = .ok (.aload_n 0, 1) := by decide +kernel
theorem dX10_token_164 : decode cX10_token 164 = .ok (.invokevirtual 69, 3) := by decide +kernel
theorem dX10_token_167 : decode cX10_token 167 = .ok (.bipush 48, 2) := by decide +kernel
theorem dX10_token_169 : decode cX10_token 169 = .ok (.bipush 57, 2) := by decide +kernel
theorem dX10_token_171 : decode cX10_token 171 = .ok (.invokestatic 59, 3) := by decide +kernel
theorem dX10_token_174 : decode cX10_token 174 = .ok (.ifCond .eq 50, 3) := by decide +kernel
theorem dX10_token_177 : decode cX10_token 177 = .ok (.aload_n 0, 1) := by decide +kernel
theorem dX10_token_178 : decode cX10_token 178 = .ok (.iload_n 2, 1) := by decide +kernel
theorem dX10_token_179 : decode cX10_token 179 = .ok (.iconst 4, 1) := by decide +kernel
theorem dX10_token_180 : decode cX10_token 180 = .ok (.if_icmp .ge 21, 3) := by decide +kernel
theorem dX10_token_183 : decode cX10_token 183 = .ok (.bipush 10, 2) := by decide +kernel
theorem dX10_token_185 : decode cX10_token 185 = .ok (.aload_n 0, 1) := by decide +kernel
theorem dX10_token_186 : decode cX10_token 186 = .ok (.getfield 83, 3) := by decide +kernel
theorem dX10_token_189 : decode cX10_token 189 = .ok (.imul, 1) := by decide +kernel
theorem dX10_token_190 : decode cX10_token 190 = .ok (.aload_n 0, 1) := by decide +kernel
theorem dX10_token_191 : decode cX10_token 191 = .ok (.invokevirtual 69, 3) := by decide +kernel
theorem dX10_token_194 : decode cX10_token 194 = .ok (.iadd, 1) := by decide +kernel
theorem dX10_token_195 : decode cX10_token 195 = .ok (.bipush 48, 2) := by decide +kernel
theorem dX10_token_197 : decode cX10_token 197 = .ok (.isub, 1) := by decide +kernel
theorem dX10_token_198 : decode cX10_token 198 = .ok (.goto 7, 3) := by decide +kernel
theorem dX10_token_201 : decode cX10_token 201 = .ok (.aload_n 0, 1) := by decide +kernel
theorem dX10_token_202 : decode cX10_token 202 = .ok (.getfield 83, 3) := by decide +kernel
theorem dX10_token_205 : decode cX10_token 205 = .ok (.putfield 83, 3) := by decide +kernel
theorem dX10_token_208 : decode cX10_token 208 = .ok (.aload_n 0, 1) := by decide +kernel
theorem dX10_token_209 : decode cX10_token 209 = .ok (.dup, 1) := by decide +kernel
theorem dX10_token_210 : decode cX10_token 210 = .ok (.getfield 63, 3) := by decide +kernel
theorem dX10_token_213 : decode cX10_token 213 = .ok (.iconst 1, 1) := by decide +kernel
theorem dX10_token_214 : decode cX10_token 214 = .ok (.iadd, 1) := by decide +kernel
theorem dX10_token_215 : decode cX10_token 215 = .ok (.putfield 63, 3) := by decide +kernel
theorem dX10_token_218 : decode cX10_token 218 = .ok (.iinc 2 1, 3) := by decide +kernel
theorem dX10_token_221 : decode cX10_token 221 = .ok (.goto (-58), 3) := by decide +kernel
theorem dX10_token_224 : decode cX10_token 224 = .ok (.aload_n 0, 1) := by decide +kernel
theorem dX10_token_225 : decode cX10_token 225 = .ok (.iload_n 2, 1) := by decide +kernel
theorem dX10_token_226 : decode cX10_token 226 = .ok (.iconst 4, 1) := by decide +kernel
theorem dX10_token_227 : decode cX10_token 227 = .ok (.if_icmp .le 7, 3) := by decide +kernel
theorem dX10_token_230 : decode cX10_token 230 = .ok (.iconst 1, 1) := by decide +kernel
theorem dX10_token_231 : decode cX10_token 231 = .ok (.goto 4, 3) := by decide +kernel
theorem dX10_token_234 : decode cX10_token 234 = .ok (.iconst 3, 1) := by decide +kernel
theorem dX10_token_235 : decode cX10_token 235 = .ok (.putfield 80, 3) := by decide +kernel
theorem dX10_token_238 : decode cX10_token 238 = .ok (.goto 28, 3) := by decide +kernel
theorem dX10_token_241 : decode cX10_token 241 = .ok (.aload_n 0, 1) := by decide +kernel
theorem dX10_token_242 : decode cX10_token 242 = .ok (.dup, 1) := by decide +kernel
theorem dX10_token_243 : decode cX10_token 243 = .ok (.getfield 63, 3) := by decide +kernel
theorem dX10_token_246 : decode cX10_token 246 = .ok (.iconst 1, 1) := by decide +kernel
theorem dX10_token_247 : decode cX10_token 247 = .ok (.iadd, 1) := by decide +kernel
theorem dX10_token_248 : decode cX10_token 248 = .ok (.putfield 63, 3) := by decide +kernel
theorem dX10_token_251 : decode cX10_token 251 = .ok (.aload_n 0, 1) := by decide +kernel
theorem dX10_token_252 : decode cX10_token 252 = .ok (.iload_n 1, 1) := by decide +kernel
theorem dX10_token_253 : decode cX10_token 253 = .ok (.bipush 59, 2) := by decide +kernel
theorem dX10_token_255 : decode cX10_token 255 = .ok (.if_icmp .ne 7, 3) := by decide +kernel
theorem dX10_token_258 : decode cX10_token 258 = .ok (.iconst 4, 1) := by decide +kernel
theorem dX10_token_259 : decode cX10_token 259 = .ok (.goto 4, 3) := by decide +kernel
theorem dX10_token_262 : decode cX10_token 262 = .ok (.iconst 1, 1) := by decide +kernel
theorem dX10_token_263 : decode cX10_token 263 = .ok (.putfield 80, 3) := by decide +kernel
theorem dX10_token_266 : decode cX10_token 266 = .ok (.return_, 1) := by decide +kernel
theorem dX10_fails_0 : decode cX10_fails 0 = .ok (.aload_n 0, 1) := by decide +kernel
theorem dX10_fails_1 : decode cX10_fails 1 = .ok (.aload_n 0, 1) := by decide +kernel
theorem dX10_fails_2 : decode cX10_fails 2 = .ok (.getfield 73, 3) := by decide +kernel
theorem dX10_fails_5 : decode cX10_fails 5 = .ok (.putfield 86, 3) := by decide +kernel
theorem dX10_fails_8 : decode cX10_fails 8 = .ok (.iconst 0, 1) := by decide +kernel
theorem dX10_fails_9 : decode cX10_fails 9 = .ok (.ireturn, 1) := by decide +kernel
theorem dX10_addsFault_0 : decode cX10_addsFault 0 = .ok (.aload_n 0, 1) := by decide +kernel
theorem dX10_addsFault_1 : decode cX10_addsFault 1 = .ok (.getfield 89, 3) := by decide +kernel
theorem dX10_addsFault_4 : decode cX10_addsFault 4 = .ok (.ifCond .eq 27, 3) := by decide +kernel
theorem dX10_addsFault_7 : decode cX10_addsFault 7 = .ok (.iload_n 2, 1) := by decide +kernel
theorem dX10_addsFault_8 : decode cX10_addsFault 8 = .ok (.aload_n 0, 1) := by decide +kernel
theorem dX10_addsFault_9 : decode cX10_addsFault 9 = .ok (.getfield 92, 3) := by decide +kernel
theorem dX10_addsFault_12 : decode cX10_addsFault 12 = .ok (.if_icmp .lt 19, 3) := by decide +kernel
theorem dX10_addsFault_15 : decode cX10_addsFault 15 = .ok (.iload_n 2, 1) := by decide +kernel
theorem dX10_addsFault_16 : decode cX10_addsFault 16 = .ok (.aload_n 0, 1) := by decide +kernel
theorem dX10_addsFault_17 : decode cX10_addsFault 17 = .ok (.getfield 92, 3) := by decide +kernel
theorem dX10_addsFault_20 : decode cX10_addsFault 20 = .ok (.if_icmp .ne 21, 3) := by decide +kernel
theorem dX10_addsFault_23 : decode cX10_addsFault 23 = .ok (.iload_n 1, 1) := by decide +kernel
theorem dX10_addsFault_24 : decode cX10_addsFault 24 = .ok (.aload_n 0, 1) := by decide +kernel
theorem dX10_addsFault_25 : decode cX10_addsFault 25 = .ok (.getfield 89, 3) := by decide +kernel
theorem dX10_addsFault_28 : decode cX10_addsFault 28 = .ok (.if_icmp .ge 13, 3) := by decide +kernel
theorem dX10_addsFault_31 : decode cX10_addsFault 31 = .ok (.aload_n 0, 1) := by decide +kernel
theorem dX10_addsFault_32 : decode cX10_addsFault 32 = .ok (.iload_n 1, 1) := by decide +kernel
theorem dX10_addsFault_33 : decode cX10_addsFault 33 = .ok (.putfield 89, 3) := by decide +kernel
theorem dX10_addsFault_36 : decode cX10_addsFault 36 = .ok (.aload_n 0, 1) := by decide +kernel
theorem dX10_addsFault_37 : decode cX10_addsFault 37 = .ok (.iload_n 2, 1) := by decide +kernel
theorem dX10_addsFault_38 : decode cX10_addsFault 38 = .ok (.putfield 92, 3) := by decide +kernel
theorem dX10_addsFault_41 : decode cX10_addsFault 41 = .ok (.return_, 1) := by decide +kernel
theorem dX10_takes_0 : decode cX10_takes 0 = .ok (.aload_n 0, 1) := by decide +kernel
theorem dX10_takes_1 : decode cX10_takes 1 = .ok (.getfield 80, 3) := by decide +kernel
theorem dX10_takes_4 : decode cX10_takes 4 = .ok (.iconst 3, 1) := by decide +kernel
theorem dX10_takes_5 : decode cX10_takes 5 = .ok (.if_icmp .eq 8, 3) := by decide +kernel
theorem dX10_takes_8 : decode cX10_takes 8 = .ok (.aload_n 0, 1) := by decide +kernel
theorem dX10_takes_9 : decode cX10_takes 9 = .ok (.invokevirtual 95, 3) := by decide +kernel
theorem dX10_takes_12 : decode cX10_takes 12 = .ok (.ireturn, 1) := by decide +kernel
theorem dX10_takes_13 : decode cX10_takes 13 = .ok (.aload_n 0, 1) := by decide +kernel
theorem dX10_takes_14 : decode cX10_takes 14 = .ok (.getfield 20, 3) := by decide +kernel
theorem dX10_takes_17 : decode cX10_takes 17 = .ok (.iload_n 1, 1) := by decide +kernel
theorem dX10_takes_18 : decode cX10_takes 18 = .ok (.aload_n 0, 1) := by decide +kernel
theorem dX10_takes_19 : decode cX10_takes 19 = .ok (.getfield 83, 3) := by decide +kernel
theorem dX10_takes_22 : decode cX10_takes 22 = .ok (.iastore, 1) := by decide +kernel
theorem dX10_takes_23 : decode cX10_takes 23 = .ok (.aload_n 0, 1) := by decide +kernel
theorem dX10_takes_24 : decode cX10_takes 24 = .ok (.getfield 83, 3) := by decide +kernel
theorem dX10_takes_27 : decode cX10_takes 27 = .ok (.iload_n 2, 1) := by decide +kernel
theorem dX10_takes_28 : decode cX10_takes 28 = .ok (.iload_n 3, 1) := by decide +kernel
theorem dX10_takes_29 : decode cX10_takes 29 = .ok (.invokestatic 59, 3) := by decide +kernel
theorem dX10_takes_32 : decode cX10_takes 32 = .ok (.ifCond .ne 19, 3) := by decide +kernel
theorem dX10_takes_35 : decode cX10_takes 35 = .ok (.aload_n 0, 1) := by decide +kernel
theorem dX10_takes_36 : decode cX10_takes 36 = .ok (.iconst 2, 1) := by decide +kernel
theorem dX10_takes_37 : decode cX10_takes 37 = .ok (.aload_n 0, 1) := by decide +kernel
theorem dX10_takes_38 : decode cX10_takes 38 = .ok (.getfield 73, 3) := by decide +kernel
theorem dX10_takes_41 : decode cX10_takes 41 = .ok (.invokevirtual 99, 3) := by decide +kernel
theorem dX10_takes_44 : decode cX10_takes 44 = .ok (.aload_n 0, 1) := by decide +kernel
theorem dX10_takes_45 : decode cX10_takes 45 = .ok (.getfield 20, 3) := by decide +kernel
theorem dX10_takes_48 : decode cX10_takes 48 = .ok (.iload_n 1, 1) := by decide +kernel
theorem dX10_takes_49 : decode cX10_takes 49 = .ok (.iload_n 2, 1) := by decide +kernel
theorem dX10_takes_50 : decode cX10_takes 50 = .ok (.iastore, 1) := by decide +kernel
theorem dX10_takes_51 : decode cX10_takes 51 = .ok (.aload_n 0, 1) := by decide +kernel
theorem dX10_takes_52 : decode cX10_takes 52 = .ok (.invokevirtual 103, 3) := by decide +kernel
theorem dX10_takes_55 : decode cX10_takes 55 = .ok (.iconst 1, 1) := by decide +kernel
theorem dX10_takes_56 : decode cX10_takes 56 = .ok (.ireturn, 1) := by decide +kernel
theorem dX10_nodeBy_0 : decode cX10_nodeBy 0 = .ok (.lload_n 1, 1) := by decide +kernel
theorem dX10_nodeBy_1 : decode cX10_nodeBy 1 = .ok (.ldc2_w 106, 3) := by decide +kernel
theorem dX10_nodeBy_4 : decode cX10_nodeBy 4 = .ok (.lcmp, 1) := by decide +kernel
theorem dX10_nodeBy_5 : decode cX10_nodeBy 5 = .ok (.ifCond .ne 7, 3) := by decide +kernel
theorem dX10_nodeBy_8 : decode cX10_nodeBy 8 = .ok (.iconst 0, 1) := by decide +kernel
theorem dX10_nodeBy_9 : decode cX10_nodeBy 9 = .ok (.goto 77, 3) := by decide +kernel
theorem dX10_nodeBy_12 : decode cX10_nodeBy 12 = .ok (.lload_n 1, 1) := by decide +kernel
theorem dX10_nodeBy_13 : decode cX10_nodeBy 13 = .ok (.ldc2_w 108, 3) := by decide +kernel
theorem dX10_nodeBy_16 : decode cX10_nodeBy 16 = .ok (.lcmp, 1) := by decide +kernel
theorem dX10_nodeBy_17 : decode cX10_nodeBy 17 = .ok (.ifCond .ne 7, 3) := by decide +kernel
theorem dX10_nodeBy_20 : decode cX10_nodeBy 20 = .ok (.iconst 1, 1) := by decide +kernel
theorem dX10_nodeBy_21 : decode cX10_nodeBy 21 = .ok (.goto 65, 3) := by decide +kernel
theorem dX10_nodeBy_24 : decode cX10_nodeBy 24 = .ok (.lload_n 1, 1) := by decide +kernel
theorem dX10_nodeBy_25 : decode cX10_nodeBy 25 = .ok (.ldc2_w 110, 3) := by decide +kernel
theorem dX10_nodeBy_28 : decode cX10_nodeBy 28 = .ok (.lcmp, 1) := by decide +kernel
theorem dX10_nodeBy_29 : decode cX10_nodeBy 29 = .ok (.ifCond .ne 7, 3) := by decide +kernel
theorem dX10_nodeBy_32 : decode cX10_nodeBy 32 = .ok (.iconst 2, 1) := by decide +kernel
theorem dX10_nodeBy_33 : decode cX10_nodeBy 33 = .ok (.goto 53, 3) := by decide +kernel
theorem dX10_nodeBy_36 : decode cX10_nodeBy 36 = .ok (.lload_n 1, 1) := by decide +kernel
theorem dX10_nodeBy_37 : decode cX10_nodeBy 37 = .ok (.ldc2_w 112, 3) := by decide +kernel
theorem dX10_nodeBy_40 : decode cX10_nodeBy 40 = .ok (.lcmp, 1) := by decide +kernel
theorem dX10_nodeBy_41 : decode cX10_nodeBy 41 = .ok (.ifCond .ne 7, 3) := by decide +kernel
theorem dX10_nodeBy_44 : decode cX10_nodeBy 44 = .ok (.iconst 3, 1) := by decide +kernel
theorem dX10_nodeBy_45 : decode cX10_nodeBy 45 = .ok (.goto 41, 3) := by decide +kernel
theorem dX10_nodeBy_48 : decode cX10_nodeBy 48 = .ok (.lload_n 1, 1) := by decide +kernel
theorem dX10_nodeBy_49 : decode cX10_nodeBy 49 = .ok (.ldc2_w 114, 3) := by decide +kernel
theorem dX10_nodeBy_52 : decode cX10_nodeBy 52 = .ok (.lcmp, 1) := by decide +kernel
theorem dX10_nodeBy_53 : decode cX10_nodeBy 53 = .ok (.ifCond .ne 7, 3) := by decide +kernel
theorem dX10_nodeBy_56 : decode cX10_nodeBy 56 = .ok (.iconst 4, 1) := by decide +kernel
theorem dX10_nodeBy_57 : decode cX10_nodeBy 57 = .ok (.goto 29, 3) := by decide +kernel
theorem dX10_nodeBy_60 : decode cX10_nodeBy 60 = .ok (.lload_n 1, 1) := by decide +kernel
theorem dX10_nodeBy_61 : decode cX10_nodeBy 61 = .ok (.ldc2_w 116, 3) := by decide +kernel
theorem dX10_nodeBy_64 : decode cX10_nodeBy 64 = .ok (.lcmp, 1) := by decide +kernel
theorem dX10_nodeBy_65 : decode cX10_nodeBy 65 = .ok (.ifCond .ne 7, 3) := by decide +kernel
theorem dX10_nodeBy_68 : decode cX10_nodeBy 68 = .ok (.iconst 5, 1) := by decide +kernel
theorem dX10_nodeBy_69 : decode cX10_nodeBy 69 = .ok (.goto 17, 3) := by decide +kernel
theorem dX10_nodeBy_72 : decode cX10_nodeBy 72 = .ok (.lload_n 1, 1) := by decide +kernel
theorem dX10_nodeBy_73 : decode cX10_nodeBy 73 = .ok (.ldc2_w 118, 3) := by decide +kernel
theorem dX10_nodeBy_76 : decode cX10_nodeBy 76 = .ok (.lcmp, 1) := by decide +kernel
theorem dX10_nodeBy_77 : decode cX10_nodeBy 77 = .ok (.ifCond .ne 8, 3) := by decide +kernel
theorem dX10_nodeBy_80 : decode cX10_nodeBy 80 = .ok (.bipush 6, 2) := by decide +kernel
theorem dX10_nodeBy_82 : decode cX10_nodeBy 82 = .ok (.goto 4, 3) := by decide +kernel
theorem dX10_nodeBy_85 : decode cX10_nodeBy 85 = .ok (.iconst (-1), 1) := by decide +kernel
theorem dX10_nodeBy_86 : decode cX10_nodeBy 86 = .ok (.ireturn, 1) := by decide +kernel
theorem dX10_lesser_0 : decode cX10_lesser 0 = .ok (.iload_n 0, 1) := by decide +kernel
theorem dX10_lesser_1 : decode cX10_lesser 1 = .ok (.iload_n 1, 1) := by decide +kernel
theorem dX10_lesser_2 : decode cX10_lesser 2 = .ok (.if_icmp .ge 7, 3) := by decide +kernel
theorem dX10_lesser_5 : decode cX10_lesser 5 = .ok (.iload_n 0, 1) := by decide +kernel
theorem dX10_lesser_6 : decode cX10_lesser 6 = .ok (.goto 4, 3) := by decide +kernel
theorem dX10_lesser_9 : decode cX10_lesser 9 = .ok (.iload_n 1, 1) := by decide +kernel
theorem dX10_lesser_10 : decode cX10_lesser 10 = .ok (.ireturn, 1) := by decide +kernel
theorem dX10_formOf_0 : decode cX10_formOf 0 = .ok (.bipush 19, 2) := by decide +kernel
theorem dX10_formOf_2 : decode cX10_formOf 2 = .ok (.bipush 25, 2) := by decide +kernel
theorem dX10_formOf_4 : decode cX10_formOf 4 = .ok (.iload_n 1, 1) := by decide +kernel
theorem dX10_formOf_5 : decode cX10_formOf 5 = .ok (.imul, 1) := by decide +kernel
theorem dX10_formOf_6 : decode cX10_formOf 6 = .ok (.iadd, 1) := by decide +kernel
theorem dX10_formOf_7 : decode cX10_formOf 7 = .ok (.istore_n 2, 1) := by decide +kernel
theorem dX10_formOf_8 : decode cX10_formOf 8 = .ok (.iconst 1, 1) := by decide +kernel
theorem dX10_formOf_9 : decode cX10_formOf 9 = .ok (.istore_n 3, 1) := by decide +kernel
theorem dX10_formOf_10 : decode cX10_formOf 10 = .ok (.iconst 0, 1) := by decide +kernel
theorem dX10_formOf_11 : decode cX10_formOf 11 = .ok (.istore 4, 2) := by decide +kernel
theorem dX10_formOf_13 : decode cX10_formOf 13 = .ok (.iload_n 3, 1) := by decide +kernel
theorem dX10_formOf_14 : decode cX10_formOf 14 = .ok (.ifCond .le 182, 3) := by decide +kernel
theorem dX10_formOf_17 : decode cX10_formOf 17 = .ok (.aload_n 0, 1) := by decide +kernel
theorem dX10_formOf_18 : decode cX10_formOf 18 = .ok (.getfield 80, 3) := by decide +kernel
theorem dX10_formOf_21 : decode cX10_formOf 21 = .ok (.iconst 2, 1) := by decide +kernel
theorem dX10_formOf_22 : decode cX10_formOf 22 = .ok (.if_icmp .ne 14, 3) := by decide +kernel
theorem dX10_formOf_25 : decode cX10_formOf 25 = .ok (.aload_n 0, 1) := by decide +kernel
theorem dX10_formOf_26 : decode cX10_formOf 26 = .ok (.aload_n 0, 1) := by decide +kernel
theorem dX10_formOf_27 : decode cX10_formOf 27 = .ok (.getfield 76, 3) := by decide +kernel
theorem dX10_formOf_30 : decode cX10_formOf 30 = .ok (.invokevirtual 120, 3) := by decide +kernel
theorem dX10_formOf_33 : decode cX10_formOf 33 = .ok (.goto 4, 3) := by decide +kernel
theorem dX10_formOf_36 : decode cX10_formOf 36 = .ok (.iconst (-1), 1) := by decide +kernel
theorem dX10_formOf_37 : decode cX10_formOf 37 = .ok (.istore 5, 2) := by decide +kernel
theorem dX10_formOf_39 : decode cX10_formOf 39 = .ok (.iload 5, 2) := by decide +kernel
theorem dX10_formOf_41 : decode cX10_formOf 41 = .ok (.iconst (-1), 1) := by decide +kernel
theorem dX10_formOf_42 : decode cX10_formOf 42 = .ok (.if_icmp .ne 8, 3) := by decide +kernel
theorem dX10_formOf_45 : decode cX10_formOf 45 = .ok (.aload_n 0, 1) := by decide +kernel
theorem dX10_formOf_46 : decode cX10_formOf 46 = .ok (.invokevirtual 95, 3) := by decide +kernel
theorem dX10_formOf_49 : decode cX10_formOf 49 = .ok (.ireturn, 1) := by decide +kernel
theorem dX10_formOf_50 : decode cX10_formOf 50 = .ok (.iload 4, 2) := by decide +kernel
theorem dX10_formOf_52 : decode cX10_formOf 52 = .ok (.bipush 8, 2) := by decide +kernel
theorem dX10_formOf_54 : decode cX10_formOf 54 = .ok (.if_icmp .ne 12, 3) := by decide +kernel
theorem dX10_formOf_57 : decode cX10_formOf 57 = .ok (.aload_n 0, 1) := by decide +kernel
theorem dX10_formOf_58 : decode cX10_formOf 58 = .ok (.iconst 3, 1) := by decide +kernel
theorem dX10_formOf_59 : decode cX10_formOf 59 = .ok (.aload_n 0, 1) := by decide +kernel
theorem dX10_formOf_60 : decode cX10_formOf 60 = .ok (.getfield 73, 3) := by decide +kernel
theorem dX10_formOf_63 : decode cX10_formOf 63 = .ok (.invokevirtual 99, 3) := by decide +kernel
theorem dX10_formOf_66 : decode cX10_formOf 66 = .ok (.aload_n 0, 1) := by decide +kernel
theorem dX10_formOf_67 : decode cX10_formOf 67 = .ok (.invokevirtual 103, 3) := by decide +kernel
theorem dX10_formOf_70 : decode cX10_formOf 70 = .ok (.aload_n 0, 1) := by decide +kernel
theorem dX10_formOf_71 : decode cX10_formOf 71 = .ok (.getfield 20, 3) := by decide +kernel
theorem dX10_formOf_74 : decode cX10_formOf 74 = .ok (.iconst 1, 1) := by decide +kernel
theorem dX10_formOf_75 : decode cX10_formOf 75 = .ok (.iconst 0, 1) := by decide +kernel
theorem dX10_formOf_76 : decode cX10_formOf 76 = .ok (.iastore, 1) := by decide +kernel
theorem dX10_formOf_77 : decode cX10_formOf 77 = .ok (.aload_n 0, 1) := by decide +kernel
theorem dX10_formOf_78 : decode cX10_formOf 78 = .ok (.getfield 20, 3) := by decide +kernel
theorem dX10_formOf_81 : decode cX10_formOf 81 = .ok (.iconst 2, 1) := by decide +kernel
theorem dX10_formOf_82 : decode cX10_formOf 82 = .ok (.iconst 0, 1) := by decide +kernel
theorem dX10_formOf_83 : decode cX10_formOf 83 = .ok (.iastore, 1) := by decide +kernel
theorem dX10_formOf_84 : decode cX10_formOf 84 = .ok (.iload 5, 2) := by decide +kernel
theorem dX10_formOf_86 : decode cX10_formOf 86 = .ok (.iconst 3, 1) := by decide +kernel
theorem dX10_formOf_87 : decode cX10_formOf 87 = .ok (.if_icmp .ne 14, 3) := by decide +kernel
theorem dX10_formOf_90 : decode cX10_formOf 90 = .ok (.aload_n 0, 1) := by decide +kernel
theorem dX10_formOf_91 : decode cX10_formOf 91 = .ok (.iconst 1, 1) := by decide +kernel
theorem dX10_formOf_92 : decode cX10_formOf 92 = .ok (.iconst 0, 1) := by decide +kernel
theorem dX10_formOf_93 : decode cX10_formOf 93 = .ok (.bipush 99, 2) := by decide +kernel
theorem dX10_formOf_95 : decode cX10_formOf 95 = .ok (.invokevirtual 124, 3) := by decide +kernel
theorem dX10_formOf_98 : decode cX10_formOf 98 = .ok (.ifCond .eq 20, 3) := by decide +kernel
theorem dX10_formOf_101 : decode cX10_formOf 101 = .ok (.iload 5, 2) := by decide +kernel
theorem dX10_formOf_103 : decode cX10_formOf 103 = .ok (.iconst 3, 1) := by decide +kernel
theorem dX10_formOf_104 : decode cX10_formOf 104 = .ok (.if_icmp .gt 16, 3) := by decide +kernel
theorem dX10_formOf_107 : decode cX10_formOf 107 = .ok (.aload_n 0, 1) := by decide +kernel
theorem dX10_formOf_108 : decode cX10_formOf 108 = .ok (.iconst 2, 1) := by decide +kernel
theorem dX10_formOf_109 : decode cX10_formOf 109 = .ok (.iconst 0, 1) := by decide +kernel
theorem dX10_formOf_110 : decode cX10_formOf 110 = .ok (.bipush 20, 2) := by decide +kernel
theorem dX10_formOf_112 : decode cX10_formOf 112 = .ok (.invokevirtual 124, 3) := by decide +kernel
theorem dX10_formOf_115 : decode cX10_formOf 115 = .ok (.ifCond .ne 5, 3) := by decide +kernel
theorem dX10_formOf_118 : decode cX10_formOf 118 = .ok (.iconst 0, 1) := by decide +kernel
theorem dX10_formOf_119 : decode cX10_formOf 119 = .ok (.ireturn, 1) := by decide +kernel
theorem dX10_formOf_120 : decode cX10_formOf 120 = .ok (.iload 4, 2) := by decide +kernel
theorem dX10_formOf_122 : decode cX10_formOf 122 = .ok (.bipush 8, 2) := by decide +kernel
theorem dX10_formOf_124 : decode cX10_formOf 124 = .ok (.if_icmp .ge 52, 3) := by decide +kernel
theorem dX10_formOf_127 : decode cX10_formOf 127 = .ok (.aload_n 0, 1) := by decide +kernel
theorem dX10_formOf_128 : decode cX10_formOf 128 = .ok (.getfield 17, 3) := by decide +kernel
theorem dX10_formOf_131 : decode cX10_formOf 131 = .ok (.iload_n 2, 1) := by decide +kernel
theorem dX10_formOf_132 : decode cX10_formOf 132 = .ok (.iconst 1, 1) := by decide +kernel
theorem dX10_formOf_133 : decode cX10_formOf 133 = .ok (.iadd, 1) := by decide +kernel
theorem dX10_formOf_134 : decode cX10_formOf 134 = .ok (.iload 4, 2) := by decide +kernel
theorem dX10_formOf_136 : decode cX10_formOf 136 = .ok (.iadd, 1) := by decide +kernel
theorem dX10_formOf_137 : decode cX10_formOf 137 = .ok (.iload 5, 2) := by decide +kernel
theorem dX10_formOf_139 : decode cX10_formOf 139 = .ok (.iastore, 1) := by decide +kernel
theorem dX10_formOf_140 : decode cX10_formOf 140 = .ok (.aload_n 0, 1) := by decide +kernel
theorem dX10_formOf_141 : decode cX10_formOf 141 = .ok (.getfield 17, 3) := by decide +kernel
theorem dX10_formOf_144 : decode cX10_formOf 144 = .ok (.iload_n 2, 1) := by decide +kernel
theorem dX10_formOf_145 : decode cX10_formOf 145 = .ok (.bipush 9, 2) := by decide +kernel
theorem dX10_formOf_147 : decode cX10_formOf 147 = .ok (.iadd, 1) := by decide +kernel
theorem dX10_formOf_148 : decode cX10_formOf 148 = .ok (.iload 4, 2) := by decide +kernel
theorem dX10_formOf_150 : decode cX10_formOf 150 = .ok (.iadd, 1) := by decide +kernel
theorem dX10_formOf_151 : decode cX10_formOf 151 = .ok (.aload_n 0, 1) := by decide +kernel
theorem dX10_formOf_152 : decode cX10_formOf 152 = .ok (.getfield 20, 3) := by decide +kernel
theorem dX10_formOf_155 : decode cX10_formOf 155 = .ok (.iconst 1, 1) := by decide +kernel
theorem dX10_formOf_156 : decode cX10_formOf 156 = .ok (.iaload, 1) := by decide +kernel
theorem dX10_formOf_157 : decode cX10_formOf 157 = .ok (.iastore, 1) := by decide +kernel
theorem dX10_formOf_158 : decode cX10_formOf 158 = .ok (.aload_n 0, 1) := by decide +kernel
theorem dX10_formOf_159 : decode cX10_formOf 159 = .ok (.getfield 17, 3) := by decide +kernel
theorem dX10_formOf_162 : decode cX10_formOf 162 = .ok (.iload_n 2, 1) := by decide +kernel
theorem dX10_formOf_163 : decode cX10_formOf 163 = .ok (.bipush 17, 2) := by decide +kernel
theorem dX10_formOf_165 : decode cX10_formOf 165 = .ok (.iadd, 1) := by decide +kernel
theorem dX10_formOf_166 : decode cX10_formOf 166 = .ok (.iload 4, 2) := by decide +kernel
theorem dX10_formOf_168 : decode cX10_formOf 168 = .ok (.iadd, 1) := by decide +kernel
theorem dX10_formOf_169 : decode cX10_formOf 169 = .ok (.aload_n 0, 1) := by decide +kernel
theorem dX10_formOf_170 : decode cX10_formOf 170 = .ok (.getfield 20, 3) := by decide +kernel
theorem dX10_formOf_173 : decode cX10_formOf 173 = .ok (.iconst 2, 1) := by decide +kernel
theorem dX10_formOf_174 : decode cX10_formOf 174 = .ok (.iaload, 1) := by decide +kernel
theorem dX10_formOf_175 : decode cX10_formOf 175 = .ok (.iastore, 1) := by decide +kernel
theorem dX10_formOf_176 : decode cX10_formOf 176 = .ok (.iinc 4 1, 3) := by decide +kernel
theorem dX10_formOf_179 : decode cX10_formOf 179 = .ok (.iload_n 3, 1) := by decide +kernel
theorem dX10_formOf_180 : decode cX10_formOf 180 = .ok (.iload 5, 2) := by decide +kernel
theorem dX10_formOf_182 : decode cX10_formOf 182 = .ok (.iconst 3, 1) := by decide +kernel
theorem dX10_formOf_183 : decode cX10_formOf 183 = .ok (.if_icmp .gt 7, 3) := by decide +kernel
theorem dX10_formOf_186 : decode cX10_formOf 186 = .ok (.iconst (-1), 1) := by decide +kernel
theorem dX10_formOf_187 : decode cX10_formOf 187 = .ok (.goto 4, 3) := by decide +kernel
theorem dX10_formOf_190 : decode cX10_formOf 190 = .ok (.iconst 1, 1) := by decide +kernel
theorem dX10_formOf_191 : decode cX10_formOf 191 = .ok (.iadd, 1) := by decide +kernel
theorem dX10_formOf_192 : decode cX10_formOf 192 = .ok (.istore_n 3, 1) := by decide +kernel
theorem dX10_formOf_193 : decode cX10_formOf 193 = .ok (.goto (-180), 3) := by decide +kernel
theorem dX10_formOf_196 : decode cX10_formOf 196 = .ok (.aload_n 0, 1) := by decide +kernel
theorem dX10_formOf_197 : decode cX10_formOf 197 = .ok (.getfield 17, 3) := by decide +kernel
theorem dX10_formOf_200 : decode cX10_formOf 200 = .ok (.iload_n 2, 1) := by decide +kernel
theorem dX10_formOf_201 : decode cX10_formOf 201 = .ok (.bipush 8, 2) := by decide +kernel
theorem dX10_formOf_203 : decode cX10_formOf 203 = .ok (.iload 4, 2) := by decide +kernel
theorem dX10_formOf_205 : decode cX10_formOf 205 = .ok (.invokestatic 127, 3) := by decide +kernel
theorem dX10_formOf_208 : decode cX10_formOf 208 = .ok (.iastore, 1) := by decide +kernel
theorem dX10_formOf_209 : decode cX10_formOf 209 = .ok (.iconst 1, 1) := by decide +kernel
theorem dX10_formOf_210 : decode cX10_formOf 210 = .ok (.ireturn, 1) := by decide +kernel
theorem dX10_line_0 : decode cX10_line 0 = .ok (.lload_n 1, 1) := by decide +kernel
theorem dX10_line_1 : decode cX10_line 1 = .ok (.ldc2_w 131, 3) := by decide +kernel
theorem dX10_line_4 : decode cX10_line 4 = .ok (.lcmp, 1) := by decide +kernel
theorem dX10_line_5 : decode cX10_line 5 = .ok (.ifCond .ne 38, 3) := by decide +kernel
theorem dX10_line_8 : decode cX10_line 8 = .ok (.aload_n 0, 1) := by decide +kernel
theorem dX10_line_9 : decode cX10_line 9 = .ok (.invokevirtual 103, 3) := by decide +kernel
theorem dX10_line_12 : decode cX10_line 12 = .ok (.aload_n 0, 1) := by decide +kernel
theorem dX10_line_13 : decode cX10_line 13 = .ok (.iconst 0, 1) := by decide +kernel
theorem dX10_line_14 : decode cX10_line 14 = .ok (.iconst 1, 1) := by decide +kernel
theorem dX10_line_15 : decode cX10_line 15 = .ok (.iconst 5, 1) := by decide +kernel
theorem dX10_line_16 : decode cX10_line 16 = .ok (.invokevirtual 124, 3) := by decide +kernel
theorem dX10_line_19 : decode cX10_line 19 = .ok (.ifCond .eq 22, 3) := by decide +kernel
theorem dX10_line_22 : decode cX10_line 22 = .ok (.aload_n 0, 1) := by decide +kernel
theorem dX10_line_23 : decode cX10_line 23 = .ok (.aload_n 0, 1) := by decide +kernel
theorem dX10_line_24 : decode cX10_line 24 = .ok (.getfield 20, 3) := by decide +kernel
theorem dX10_line_27 : decode cX10_line 27 = .ok (.iconst 0, 1) := by decide +kernel
theorem dX10_line_28 : decode cX10_line 28 = .ok (.iaload, 1) := by decide +kernel
theorem dX10_line_29 : decode cX10_line 29 = .ok (.iconst 1, 1) := by decide +kernel
theorem dX10_line_30 : decode cX10_line 30 = .ok (.isub, 1) := by decide +kernel
theorem dX10_line_31 : decode cX10_line 31 = .ok (.invokevirtual 133, 3) := by decide +kernel
theorem dX10_line_34 : decode cX10_line 34 = .ok (.ifCond .eq 7, 3) := by decide +kernel
theorem dX10_line_37 : decode cX10_line 37 = .ok (.iconst 1, 1) := by decide +kernel
theorem dX10_line_38 : decode cX10_line 38 = .ok (.goto 4, 3) := by decide +kernel
theorem dX10_line_41 : decode cX10_line 41 = .ok (.iconst 0, 1) := by decide +kernel
theorem dX10_line_42 : decode cX10_line 42 = .ok (.ireturn, 1) := by decide +kernel
theorem dX10_line_43 : decode cX10_line 43 = .ok (.lload_n 1, 1) := by decide +kernel
theorem dX10_line_44 : decode cX10_line 44 = .ok (.ldc2_w 137, 3) := by decide +kernel
theorem dX10_line_47 : decode cX10_line 47 = .ok (.lcmp, 1) := by decide +kernel
theorem dX10_line_48 : decode cX10_line 48 = .ok (.ifCond .eq 11, 3) := by decide +kernel
theorem dX10_line_51 : decode cX10_line 51 = .ok (.lload_n 1, 1) := by decide +kernel
theorem dX10_line_52 : decode cX10_line 52 = .ok (.ldc2_w 139, 3) := by decide +kernel
theorem dX10_line_55 : decode cX10_line 55 = .ok (.lcmp, 1) := by decide +kernel
theorem dX10_line_56 : decode cX10_line 56 = .ok (.ifCond .ne 153, 3) := by decide +kernel
theorem dX10_line_59 : decode cX10_line 59 = .ok (.aload_n 0, 1) := by decide +kernel
theorem dX10_line_60 : decode cX10_line 60 = .ok (.invokevirtual 103, 3) := by decide +kernel
theorem dX10_line_63 : decode cX10_line 63 = .ok (.aload_n 0, 1) := by decide +kernel
theorem dX10_line_64 : decode cX10_line 64 = .ok (.iconst 0, 1) := by decide +kernel
theorem dX10_line_65 : decode cX10_line 65 = .ok (.lload_n 1, 1) := by decide +kernel
theorem dX10_line_66 : decode cX10_line 66 = .ok (.ldc2_w 137, 3) := by decide +kernel
theorem dX10_line_69 : decode cX10_line 69 = .ok (.lcmp, 1) := by decide +kernel
theorem dX10_line_70 : decode cX10_line 70 = .ok (.ifCond .ne 7, 3) := by decide +kernel
theorem dX10_line_73 : decode cX10_line 73 = .ok (.iconst 1, 1) := by decide +kernel
theorem dX10_line_74 : decode cX10_line 74 = .ok (.goto 4, 3) := by decide +kernel
theorem dX10_line_77 : decode cX10_line 77 = .ok (.iconst 0, 1) := by decide +kernel
theorem dX10_line_78 : decode cX10_line 78 = .ok (.iconst 3, 1) := by decide +kernel
theorem dX10_line_79 : decode cX10_line 79 = .ok (.invokevirtual 124, 3) := by decide +kernel
theorem dX10_line_82 : decode cX10_line 82 = .ok (.ifCond .eq 45, 3) := by decide +kernel
theorem dX10_line_85 : decode cX10_line 85 = .ok (.aload_n 0, 1) := by decide +kernel
theorem dX10_line_86 : decode cX10_line 86 = .ok (.iconst 1, 1) := by decide +kernel
theorem dX10_line_87 : decode cX10_line 87 = .ok (.iconst 0, 1) := by decide +kernel
theorem dX10_line_88 : decode cX10_line 88 = .ok (.lload_n 1, 1) := by decide +kernel
theorem dX10_line_89 : decode cX10_line 89 = .ok (.ldc2_w 137, 3) := by decide +kernel
theorem dX10_line_92 : decode cX10_line 92 = .ok (.lcmp, 1) := by decide +kernel
theorem dX10_line_93 : decode cX10_line 93 = .ok (.ifCond .ne 9, 3) := by decide +kernel
theorem dX10_line_96 : decode cX10_line 96 = .ok (.sipush 9999, 3) := by decide +kernel
theorem dX10_line_99 : decode cX10_line 99 = .ok (.goto 4, 3) := by decide +kernel
theorem dX10_line_102 : decode cX10_line 102 = .ok (.iconst 5, 1) := by decide +kernel
theorem dX10_line_103 : decode cX10_line 103 = .ok (.invokevirtual 124, 3) := by decide +kernel
theorem dX10_line_106 : decode cX10_line 106 = .ok (.ifCond .eq 21, 3) := by decide +kernel
theorem dX10_line_109 : decode cX10_line 109 = .ok (.lload_n 1, 1) := by decide +kernel
theorem dX10_line_110 : decode cX10_line 110 = .ok (.ldc2_w 137, 3) := by decide +kernel
theorem dX10_line_113 : decode cX10_line 113 = .ok (.lcmp, 1) := by decide +kernel
theorem dX10_line_114 : decode cX10_line 114 = .ok (.ifCond .ne 15, 3) := by decide +kernel
theorem dX10_line_117 : decode cX10_line 117 = .ok (.aload_n 0, 1) := by decide +kernel
theorem dX10_line_118 : decode cX10_line 118 = .ok (.iconst 2, 1) := by decide +kernel
theorem dX10_line_119 : decode cX10_line 119 = .ok (.iconst 0, 1) := by decide +kernel
theorem dX10_line_120 : decode cX10_line 120 = .ok (.iconst 4, 1) := by decide +kernel
theorem dX10_line_121 : decode cX10_line 121 = .ok (.invokevirtual 124, 3) := by decide +kernel
theorem dX10_line_124 : decode cX10_line 124 = .ok (.ifCond .ne 5, 3) := by decide +kernel
theorem dX10_line_127 : decode cX10_line 127 = .ok (.iconst 0, 1) := by decide +kernel
theorem dX10_line_128 : decode cX10_line 128 = .ok (.ireturn, 1) := by decide +kernel
theorem dX10_line_129 : decode cX10_line 129 = .ok (.aload_n 0, 1) := by decide +kernel
theorem dX10_line_130 : decode cX10_line 130 = .ok (.getfield 17, 3) := by decide +kernel
theorem dX10_line_133 : decode cX10_line 133 = .ok (.lload_n 1, 1) := by decide +kernel
theorem dX10_line_134 : decode cX10_line 134 = .ok (.ldc2_w 137, 3) := by decide +kernel
theorem dX10_line_137 : decode cX10_line 137 = .ok (.lcmp, 1) := by decide +kernel
theorem dX10_line_138 : decode cX10_line 138 = .ok (.ifCond .ne 8, 3) := by decide +kernel
theorem dX10_line_141 : decode cX10_line 141 = .ok (.bipush 7, 2) := by decide +kernel
theorem dX10_line_143 : decode cX10_line 143 = .ok (.goto 5, 3) := by decide +kernel
theorem dX10_line_146 : decode cX10_line 146 = .ok (.bipush 15, 2) := by decide +kernel
theorem dX10_line_148 : decode cX10_line 148 = .ok (.aload_n 0, 1) := by decide +kernel
theorem dX10_line_149 : decode cX10_line 149 = .ok (.getfield 20, 3) := by decide +kernel
theorem dX10_line_152 : decode cX10_line 152 = .ok (.iconst 0, 1) := by decide +kernel
theorem dX10_line_153 : decode cX10_line 153 = .ok (.iaload, 1) := by decide +kernel
theorem dX10_line_154 : decode cX10_line 154 = .ok (.iadd, 1) := by decide +kernel
theorem dX10_line_155 : decode cX10_line 155 = .ok (.aload_n 0, 1) := by decide +kernel
theorem dX10_line_156 : decode cX10_line 156 = .ok (.getfield 20, 3) := by decide +kernel
theorem dX10_line_159 : decode cX10_line 159 = .ok (.iconst 1, 1) := by decide +kernel
theorem dX10_line_160 : decode cX10_line 160 = .ok (.iaload, 1) := by decide +kernel
theorem dX10_line_161 : decode cX10_line 161 = .ok (.iastore, 1) := by decide +kernel
theorem dX10_line_162 : decode cX10_line 162 = .ok (.aload_n 0, 1) := by decide +kernel
theorem dX10_line_163 : decode cX10_line 163 = .ok (.getfield 17, 3) := by decide +kernel
theorem dX10_line_166 : decode cX10_line 166 = .ok (.bipush 11, 2) := by decide +kernel
theorem dX10_line_168 : decode cX10_line 168 = .ok (.aload_n 0, 1) := by decide +kernel
theorem dX10_line_169 : decode cX10_line 169 = .ok (.getfield 20, 3) := by decide +kernel
theorem dX10_line_172 : decode cX10_line 172 = .ok (.iconst 0, 1) := by decide +kernel
theorem dX10_line_173 : decode cX10_line 173 = .ok (.iaload, 1) := by decide +kernel
theorem dX10_line_174 : decode cX10_line 174 = .ok (.iadd, 1) := by decide +kernel
theorem dX10_line_175 : decode cX10_line 175 = .ok (.lload_n 1, 1) := by decide +kernel
theorem dX10_line_176 : decode cX10_line 176 = .ok (.ldc2_w 137, 3) := by decide +kernel
theorem dX10_line_179 : decode cX10_line 179 = .ok (.lcmp, 1) := by decide +kernel
theorem dX10_line_180 : decode cX10_line 180 = .ok (.ifCond .ne 12, 3) := by decide +kernel
theorem dX10_line_183 : decode cX10_line 183 = .ok (.aload_n 0, 1) := by decide +kernel
theorem dX10_line_184 : decode cX10_line 184 = .ok (.getfield 20, 3) := by decide +kernel
theorem dX10_line_187 : decode cX10_line 187 = .ok (.iconst 2, 1) := by decide +kernel
theorem dX10_line_188 : decode cX10_line 188 = .ok (.iaload, 1) := by decide +kernel
theorem dX10_line_189 : decode cX10_line 189 = .ok (.goto 17, 3) := by decide +kernel
theorem dX10_line_192 : decode cX10_line 192 = .ok (.aload_n 0, 1) := by decide +kernel
theorem dX10_line_193 : decode cX10_line 193 = .ok (.getfield 17, 3) := by decide +kernel
theorem dX10_line_196 : decode cX10_line 196 = .ok (.bipush 11, 2) := by decide +kernel
theorem dX10_line_198 : decode cX10_line 198 = .ok (.aload_n 0, 1) := by decide +kernel
theorem dX10_line_199 : decode cX10_line 199 = .ok (.getfield 20, 3) := by decide +kernel
theorem dX10_line_202 : decode cX10_line 202 = .ok (.iconst 0, 1) := by decide +kernel
theorem dX10_line_203 : decode cX10_line 203 = .ok (.iaload, 1) := by decide +kernel
theorem dX10_line_204 : decode cX10_line 204 = .ok (.iadd, 1) := by decide +kernel
theorem dX10_line_205 : decode cX10_line 205 = .ok (.iaload, 1) := by decide +kernel
theorem dX10_line_206 : decode cX10_line 206 = .ok (.iastore, 1) := by decide +kernel
theorem dX10_line_207 : decode cX10_line 207 = .ok (.iconst 1, 1) := by decide +kernel
theorem dX10_line_208 : decode cX10_line 208 = .ok (.ireturn, 1) := by decide +kernel
theorem dX10_line_209 : decode cX10_line 209 = .ok (.lload_n 1, 1) := by decide +kernel
theorem dX10_line_210 : decode cX10_line 210 = .ok (.ldc2_w 141, 3) := by decide +kernel
theorem dX10_line_213 : decode cX10_line 213 = .ok (.lcmp, 1) := by decide +kernel
theorem dX10_line_214 : decode cX10_line 214 = .ok (.ifCond .ne 7, 3) := by decide +kernel
theorem dX10_line_217 : decode cX10_line 217 = .ok (.iconst 3, 1) := by decide +kernel
theorem dX10_line_218 : decode cX10_line 218 = .ok (.goto 41, 3) := by decide +kernel
theorem dX10_line_221 : decode cX10_line 221 = .ok (.lload_n 1, 1) := by decide +kernel
theorem dX10_line_222 : decode cX10_line 222 = .ok (.ldc2_w 143, 3) := by decide +kernel
theorem dX10_line_225 : decode cX10_line 225 = .ok (.lcmp, 1) := by decide +kernel
theorem dX10_line_226 : decode cX10_line 226 = .ok (.ifCond .ne 7, 3) := by decide +kernel
theorem dX10_line_229 : decode cX10_line 229 = .ok (.iconst 4, 1) := by decide +kernel
theorem dX10_line_230 : decode cX10_line 230 = .ok (.goto 29, 3) := by decide +kernel
theorem dX10_line_233 : decode cX10_line 233 = .ok (.lload_n 1, 1) := by decide +kernel
theorem dX10_line_234 : decode cX10_line 234 = .ok (.ldc2_w 145, 3) := by decide +kernel
theorem dX10_line_237 : decode cX10_line 237 = .ok (.lcmp, 1) := by decide +kernel
theorem dX10_line_238 : decode cX10_line 238 = .ok (.ifCond .ne 7, 3) := by decide +kernel
theorem dX10_line_241 : decode cX10_line 241 = .ok (.iconst 5, 1) := by decide +kernel
theorem dX10_line_242 : decode cX10_line 242 = .ok (.goto 17, 3) := by decide +kernel
theorem dX10_line_245 : decode cX10_line 245 = .ok (.lload_n 1, 1) := by decide +kernel
theorem dX10_line_246 : decode cX10_line 246 = .ok (.ldc2_w 147, 3) := by decide +kernel
theorem dX10_line_249 : decode cX10_line 249 = .ok (.lcmp, 1) := by decide +kernel
theorem dX10_line_250 : decode cX10_line 250 = .ok (.ifCond .ne 8, 3) := by decide +kernel
theorem dX10_line_253 : decode cX10_line 253 = .ok (.bipush 6, 2) := by decide +kernel
theorem dX10_line_255 : decode cX10_line 255 = .ok (.goto 4, 3) := by decide +kernel
theorem dX10_line_258 : decode cX10_line 258 = .ok (.iconst (-1), 1) := by decide +kernel
theorem dX10_line_259 : decode cX10_line 259 = .ok (.istore_n 3, 1) := by decide +kernel
theorem dX10_line_260 : decode cX10_line 260 = .ok (.iload_n 3, 1) := by decide +kernel
theorem dX10_line_261 : decode cX10_line 261 = .ok (.iconst (-1), 1) := by decide +kernel
theorem dX10_line_262 : decode cX10_line 262 = .ok (.if_icmp .ne 8, 3) := by decide +kernel
theorem dX10_line_265 : decode cX10_line 265 = .ok (.aload_n 0, 1) := by decide +kernel
theorem dX10_line_266 : decode cX10_line 266 = .ok (.invokevirtual 95, 3) := by decide +kernel
theorem dX10_line_269 : decode cX10_line 269 = .ok (.ireturn, 1) := by decide +kernel
theorem dX10_line_270 : decode cX10_line 270 = .ok (.aload_n 0, 1) := by decide +kernel
theorem dX10_line_271 : decode cX10_line 271 = .ok (.invokevirtual 103, 3) := by decide +kernel
theorem dX10_line_274 : decode cX10_line 274 = .ok (.aload_n 0, 1) := by decide +kernel
theorem dX10_line_275 : decode cX10_line 275 = .ok (.iconst 0, 1) := by decide +kernel
theorem dX10_line_276 : decode cX10_line 276 = .ok (.iload_n 3, 1) := by decide +kernel
theorem dX10_line_277 : decode cX10_line 277 = .ok (.bipush 6, 2) := by decide +kernel
theorem dX10_line_279 : decode cX10_line 279 = .ok (.if_icmp .ne 7, 3) := by decide +kernel
theorem dX10_line_282 : decode cX10_line 282 = .ok (.iconst 1, 1) := by decide +kernel
theorem dX10_line_283 : decode cX10_line 283 = .ok (.goto 4, 3) := by decide +kernel
theorem dX10_line_286 : decode cX10_line 286 = .ok (.iconst 0, 1) := by decide +kernel
theorem dX10_line_287 : decode cX10_line 287 = .ok (.iload_n 3, 1) := by decide +kernel
theorem dX10_line_288 : decode cX10_line 288 = .ok (.iconst 3, 1) := by decide +kernel
theorem dX10_line_289 : decode cX10_line 289 = .ok (.if_icmp .ne 9, 3) := by decide +kernel
theorem dX10_line_292 : decode cX10_line 292 = .ok (.sipush 9999, 3) := by decide +kernel
theorem dX10_line_295 : decode cX10_line 295 = .ok (.goto 25, 3) := by decide +kernel
theorem dX10_line_298 : decode cX10_line 298 = .ok (.iload_n 3, 1) := by decide +kernel
theorem dX10_line_299 : decode cX10_line 299 = .ok (.iconst 4, 1) := by decide +kernel
theorem dX10_line_300 : decode cX10_line 300 = .ok (.if_icmp .ne 8, 3) := by decide +kernel
theorem dX10_line_303 : decode cX10_line 303 = .ok (.bipush 99, 2) := by decide +kernel
theorem dX10_line_305 : decode cX10_line 305 = .ok (.goto 15, 3) := by decide +kernel
theorem dX10_line_308 : decode cX10_line 308 = .ok (.iload_n 3, 1) := by decide +kernel
theorem dX10_line_309 : decode cX10_line 309 = .ok (.iconst 5, 1) := by decide +kernel
theorem dX10_line_310 : decode cX10_line 310 = .ok (.if_icmp .ne 8, 3) := by decide +kernel
theorem dX10_line_313 : decode cX10_line 313 = .ok (.bipush 12, 2) := by decide +kernel
theorem dX10_line_315 : decode cX10_line 315 = .ok (.goto 5, 3) := by decide +kernel
theorem dX10_line_318 : decode cX10_line 318 = .ok (.bipush 6, 2) := by decide +kernel
theorem dX10_line_320 : decode cX10_line 320 = .ok (.invokevirtual 124, 3) := by decide +kernel
theorem dX10_line_323 : decode cX10_line 323 = .ok (.ifCond .ne 5, 3) := by decide +kernel
theorem dX10_line_326 : decode cX10_line 326 = .ok (.iconst 0, 1) := by decide +kernel
theorem dX10_line_327 : decode cX10_line 327 = .ok (.ireturn, 1) := by decide +kernel
theorem dX10_line_328 : decode cX10_line 328 = .ok (.aload_n 0, 1) := by decide +kernel
theorem dX10_line_329 : decode cX10_line 329 = .ok (.getfield 17, 3) := by decide +kernel
theorem dX10_line_332 : decode cX10_line 332 = .ok (.iload_n 3, 1) := by decide +kernel
theorem dX10_line_333 : decode cX10_line 333 = .ok (.aload_n 0, 1) := by decide +kernel
theorem dX10_line_334 : decode cX10_line 334 = .ok (.getfield 20, 3) := by decide +kernel
theorem dX10_line_337 : decode cX10_line 337 = .ok (.iconst 0, 1) := by decide +kernel
theorem dX10_line_338 : decode cX10_line 338 = .ok (.iaload, 1) := by decide +kernel
theorem dX10_line_339 : decode cX10_line 339 = .ok (.iastore, 1) := by decide +kernel
theorem dX10_line_340 : decode cX10_line 340 = .ok (.iconst 1, 1) := by decide +kernel
theorem dX10_line_341 : decode cX10_line 341 = .ok (.ireturn, 1) := by decide +kernel
theorem dX10_readText_0 : decode cX10_readText 0 = .ok (.aload_n 0, 1) := by decide +kernel
theorem dX10_readText_1 : decode cX10_readText 1 = .ok (.invokevirtual 46, 3) := by decide +kernel
theorem dX10_readText_4 : decode cX10_readText 4 = .ok (.aload_n 0, 1) := by decide +kernel
theorem dX10_readText_5 : decode cX10_readText 5 = .ok (.aload_n 0, 1) := by decide +kernel
theorem dX10_readText_6 : decode cX10_readText 6 = .ok (.getfield 7, 3) := by decide +kernel
theorem dX10_readText_9 : decode cX10_readText 9 = .ok (.iconst 0, 1) := by decide +kernel
theorem dX10_readText_10 : decode cX10_readText 10 = .ok (.iaload, 1) := by decide +kernel
theorem dX10_readText_11 : decode cX10_readText 11 = .ok (.putfield 66, 3) := by decide +kernel
theorem dX10_readText_14 : decode cX10_readText 14 = .ok (.aload_n 0, 1) := by decide +kernel
theorem dX10_readText_15 : decode cX10_readText 15 = .ok (.getfield 7, 3) := by decide +kernel
theorem dX10_readText_18 : decode cX10_readText 18 = .ok (.iconst 0, 1) := by decide +kernel
theorem dX10_readText_19 : decode cX10_readText 19 = .ok (.iconst 0, 1) := by decide +kernel
theorem dX10_readText_20 : decode cX10_readText 20 = .ok (.iastore, 1) := by decide +kernel
theorem dX10_readText_21 : decode cX10_readText 21 = .ok (.aload_n 0, 1) := by decide +kernel
theorem dX10_readText_22 : decode cX10_readText 22 = .ok (.iconst 0, 1) := by decide +kernel
theorem dX10_readText_23 : decode cX10_readText 23 = .ok (.putfield 63, 3) := by decide +kernel
theorem dX10_readText_26 : decode cX10_readText 26 = .ok (.aload_n 0, 1) := by decide +kernel
theorem dX10_readText_27 : decode cX10_readText 27 = .ok (.iconst 0, 1) := by decide +kernel
theorem dX10_readText_28 : decode cX10_readText 28 = .ok (.putfield 89, 3) := by decide +kernel
theorem dX10_readText_31 : decode cX10_readText 31 = .ok (.aload_n 0, 1) := by decide +kernel
theorem dX10_readText_32 : decode cX10_readText 32 = .ok (.invokevirtual 103, 3) := by decide +kernel
theorem dX10_readText_35 : decode cX10_readText 35 = .ok (.iconst 1, 1) := by decide +kernel
theorem dX10_readText_36 : decode cX10_readText 36 = .ok (.istore_n 1, 1) := by decide +kernel
theorem dX10_readText_37 : decode cX10_readText 37 = .ok (.iload_n 1, 1) := by decide +kernel
theorem dX10_readText_38 : decode cX10_readText 38 = .ok (.ifCond .eq 59, 3) := by decide +kernel
theorem dX10_readText_41 : decode cX10_readText 41 = .ok (.aload_n 0, 1) := by decide +kernel
theorem dX10_readText_42 : decode cX10_readText 42 = .ok (.getfield 80, 3) := by decide +kernel
theorem dX10_readText_45 : decode cX10_readText 45 = .ok (.ifCond .eq 52, 3) := by decide +kernel
theorem dX10_readText_48 : decode cX10_readText 48 = .ok (.aload_n 0, 1) := by decide +kernel
theorem dX10_readText_49 : decode cX10_readText 49 = .ok (.aload_n 0, 1) := by decide +kernel
theorem dX10_readText_50 : decode cX10_readText 50 = .ok (.getfield 80, 3) := by decide +kernel
theorem dX10_readText_53 : decode cX10_readText 53 = .ok (.iconst 2, 1) := by decide +kernel
theorem dX10_readText_54 : decode cX10_readText 54 = .ok (.if_icmp .ne 10, 3) := by decide +kernel
theorem dX10_readText_57 : decode cX10_readText 57 = .ok (.aload_n 0, 1) := by decide +kernel
theorem dX10_readText_58 : decode cX10_readText 58 = .ok (.getfield 76, 3) := by decide +kernel
theorem dX10_readText_61 : decode cX10_readText 61 = .ok (.goto 4, 3) := by decide +kernel
theorem dX10_readText_64 : decode cX10_readText 64 = .ok (.lconst 0, 1) := by decide +kernel
theorem dX10_readText_65 : decode cX10_readText 65 = .ok (.invokevirtual 149, 3) := by decide +kernel
theorem dX10_readText_68 : decode cX10_readText 68 = .ok (.istore_n 1, 1) := by decide +kernel
theorem dX10_readText_69 : decode cX10_readText 69 = .ok (.iload_n 1, 1) := by decide +kernel
theorem dX10_readText_70 : decode cX10_readText 70 = .ok (.ifCond .eq 16, 3) := by decide +kernel
theorem dX10_readText_73 : decode cX10_readText 73 = .ok (.aload_n 0, 1) := by decide +kernel
theorem dX10_readText_74 : decode cX10_readText 74 = .ok (.getfield 80, 3) := by decide +kernel
theorem dX10_readText_77 : decode cX10_readText 77 = .ok (.iconst 4, 1) := by decide +kernel
theorem dX10_readText_78 : decode cX10_readText 78 = .ok (.if_icmp .eq 8, 3) := by decide +kernel
theorem dX10_readText_81 : decode cX10_readText 81 = .ok (.aload_n 0, 1) := by decide +kernel
theorem dX10_readText_82 : decode cX10_readText 82 = .ok (.invokevirtual 95, 3) := by decide +kernel
theorem dX10_readText_85 : decode cX10_readText 85 = .ok (.istore_n 1, 1) := by decide +kernel
theorem dX10_readText_86 : decode cX10_readText 86 = .ok (.iload_n 1, 1) := by decide +kernel
theorem dX10_readText_87 : decode cX10_readText 87 = .ok (.ifCond .eq (-50), 3) := by decide +kernel
theorem dX10_readText_90 : decode cX10_readText 90 = .ok (.aload_n 0, 1) := by decide +kernel
theorem dX10_readText_91 : decode cX10_readText 91 = .ok (.invokevirtual 103, 3) := by decide +kernel
theorem dX10_readText_94 : decode cX10_readText 94 = .ok (.goto (-57), 3) := by decide +kernel
theorem dX10_readText_97 : decode cX10_readText 97 = .ok (.aload_n 0, 1) := by decide +kernel
theorem dX10_readText_98 : decode cX10_readText 98 = .ok (.getfield 7, 3) := by decide +kernel
theorem dX10_readText_101 : decode cX10_readText 101 = .ok (.iconst 1, 1) := by decide +kernel
theorem dX10_readText_102 : decode cX10_readText 102 = .ok (.iload_n 1, 1) := by decide +kernel
theorem dX10_readText_103 : decode cX10_readText 103 = .ok (.ifCond .eq 10, 3) := by decide +kernel
theorem dX10_readText_106 : decode cX10_readText 106 = .ok (.aload_n 0, 1) := by decide +kernel
theorem dX10_readText_107 : decode cX10_readText 107 = .ok (.getfield 89, 3) := by decide +kernel
theorem dX10_readText_110 : decode cX10_readText 110 = .ok (.goto 4, 3) := by decide +kernel
theorem dX10_readText_113 : decode cX10_readText 113 = .ok (.iconst 1, 1) := by decide +kernel
theorem dX10_readText_114 : decode cX10_readText 114 = .ok (.iastore, 1) := by decide +kernel
theorem dX10_readText_115 : decode cX10_readText 115 = .ok (.aload_n 0, 1) := by decide +kernel
theorem dX10_readText_116 : decode cX10_readText 116 = .ok (.getfield 7, 3) := by decide +kernel
theorem dX10_readText_119 : decode cX10_readText 119 = .ok (.iconst 2, 1) := by decide +kernel
theorem dX10_readText_120 : decode cX10_readText 120 = .ok (.iload_n 1, 1) := by decide +kernel
theorem dX10_readText_121 : decode cX10_readText 121 = .ok (.ifCond .ne 10, 3) := by decide +kernel
theorem dX10_readText_124 : decode cX10_readText 124 = .ok (.aload_n 0, 1) := by decide +kernel
theorem dX10_readText_125 : decode cX10_readText 125 = .ok (.getfield 86, 3) := by decide +kernel
theorem dX10_readText_128 : decode cX10_readText 128 = .ok (.goto 18, 3) := by decide +kernel
theorem dX10_readText_131 : decode cX10_readText 131 = .ok (.aload_n 0, 1) := by decide +kernel
theorem dX10_readText_132 : decode cX10_readText 132 = .ok (.getfield 89, 3) := by decide +kernel
theorem dX10_readText_135 : decode cX10_readText 135 = .ok (.ifCond .le 10, 3) := by decide +kernel
theorem dX10_readText_138 : decode cX10_readText 138 = .ok (.aload_n 0, 1) := by decide +kernel
theorem dX10_readText_139 : decode cX10_readText 139 = .ok (.getfield 92, 3) := by decide +kernel
theorem dX10_readText_142 : decode cX10_readText 142 = .ok (.goto 4, 3) := by decide +kernel
theorem dX10_readText_145 : decode cX10_readText 145 = .ok (.iconst (-1), 1) := by decide +kernel
theorem dX10_readText_146 : decode cX10_readText 146 = .ok (.iastore, 1) := by decide +kernel
theorem dX10_readText_147 : decode cX10_readText 147 = .ok (.aload_n 0, 1) := by decide +kernel
theorem dX10_readText_148 : decode cX10_readText 148 = .ok (.getfield 7, 3) := by decide +kernel
theorem dX10_readText_151 : decode cX10_readText 151 = .ok (.iconst 1, 1) := by decide +kernel
theorem dX10_readText_152 : decode cX10_readText 152 = .ok (.iaload, 1) := by decide +kernel
theorem dX10_readText_153 : decode cX10_readText 153 = .ok (.ifCond .ne 7, 3) := by decide +kernel
theorem dX10_readText_156 : decode cX10_readText 156 = .ok (.iconst 1, 1) := by decide +kernel
theorem dX10_readText_157 : decode cX10_readText 157 = .ok (.goto 4, 3) := by decide +kernel
theorem dX10_readText_160 : decode cX10_readText 160 = .ok (.iconst 0, 1) := by decide +kernel
theorem dX10_readText_161 : decode cX10_readText 161 = .ok (.ireturn, 1) := by decide +kernel
theorem dX10_plan_0 : decode cX10_plan 0 = .ok (.aload_n 0, 1) := by decide +kernel
theorem dX10_plan_1 : decode cX10_plan 1 = .ok (.iconst 0, 1) := by decide +kernel
theorem dX10_plan_2 : decode cX10_plan 2 = .ok (.putfield 52, 3) := by decide +kernel
theorem dX10_plan_5 : decode cX10_plan 5 = .ok (.aload_n 0, 1) := by decide +kernel
theorem dX10_plan_6 : decode cX10_plan 6 = .ok (.invokevirtual 156, 3) := by decide +kernel
theorem dX10_plan_9 : decode cX10_plan 9 = .ok (.ifCond .ne 5, 3) := by decide +kernel
theorem dX10_plan_12 : decode cX10_plan 12 = .ok (.iconst (-1), 1) := by decide +kernel
theorem dX10_plan_13 : decode cX10_plan 13 = .ok (.ireturn, 1) := by decide +kernel
theorem dX10_plan_14 : decode cX10_plan 14 = .ok (.aload_n 0, 1) := by decide +kernel
theorem dX10_plan_15 : decode cX10_plan 15 = .ok (.invokevirtual 49, 3) := by decide +kernel
theorem dX10_plan_18 : decode cX10_plan 18 = .ok (.iconst 0, 1) := by decide +kernel
theorem dX10_plan_19 : decode cX10_plan 19 = .ok (.ireturn, 1) := by decide +kernel
theorem dX9_fault_0 : decode cX9_fault 0 = .ok (.iload_n 1, 1) := by decide +kernel
theorem dX9_fault_1 : decode cX9_fault 1 = .ok (.lookupswitch 43 #[(0, 27), (1, 35)], 27) := by decide +kernel
theorem dX9_fault_28 : decode cX9_fault 28 = .ok (.aload_n 0, 1) := by decide +kernel
theorem dX9_fault_29 : decode cX9_fault 29 = .ok (.getfield 10, 3) := by decide +kernel
theorem dX9_fault_32 : decode cX9_fault 32 = .ok (.getfield 66, 3) := by decide +kernel
theorem dX9_fault_35 : decode cX9_fault 35 = .ok (.ireturn, 1) := by decide +kernel
theorem dX9_fault_36 : decode cX9_fault 36 = .ok (.aload_n 0, 1) := by decide +kernel
theorem dX9_fault_37 : decode cX9_fault 37 = .ok (.getfield 10, 3) := by decide +kernel
theorem dX9_fault_40 : decode cX9_fault 40 = .ok (.getfield 72, 3) := by decide +kernel
theorem dX9_fault_43 : decode cX9_fault 43 = .ok (.ireturn, 1) := by decide +kernel
theorem dX9_fault_44 : decode cX9_fault 44 = .ok (.iconst (-1), 1) := by decide +kernel
theorem dX9_fault_45 : decode cX9_fault 45 = .ok (.ireturn, 1) := by decide +kernel
theorem dX10_fault_0 : decode cX10_fault 0 = .ok (.aload_n 0, 1) := by decide +kernel
theorem dX10_fault_1 : decode cX10_fault 1 = .ok (.iconst 0, 1) := by decide +kernel
theorem dX10_fault_2 : decode cX10_fault 2 = .ok (.putfield 52, 3) := by decide +kernel
theorem dX10_fault_5 : decode cX10_fault 5 = .ok (.iload_n 1, 1) := by decide +kernel
theorem dX10_fault_6 : decode cX10_fault 6 = .ok (.ifCond .ne 12, 3) := by decide +kernel
theorem dX10_fault_9 : decode cX10_fault 9 = .ok (.aload_n 0, 1) := by decide +kernel
theorem dX10_fault_10 : decode cX10_fault 10 = .ok (.getfield 7, 3) := by decide +kernel
theorem dX10_fault_13 : decode cX10_fault 13 = .ok (.iconst 1, 1) := by decide +kernel
theorem dX10_fault_14 : decode cX10_fault 14 = .ok (.iaload, 1) := by decide +kernel
theorem dX10_fault_15 : decode cX10_fault 15 = .ok (.goto 18, 3) := by decide +kernel
theorem dX10_fault_18 : decode cX10_fault 18 = .ok (.iload_n 1, 1) := by decide +kernel
theorem dX10_fault_19 : decode cX10_fault 19 = .ok (.iconst 1, 1) := by decide +kernel
theorem dX10_fault_20 : decode cX10_fault 20 = .ok (.if_icmp .ne 12, 3) := by decide +kernel
theorem dX10_fault_23 : decode cX10_fault 23 = .ok (.aload_n 0, 1) := by decide +kernel
theorem dX10_fault_24 : decode cX10_fault 24 = .ok (.getfield 7, 3) := by decide +kernel
theorem dX10_fault_27 : decode cX10_fault 27 = .ok (.iconst 2, 1) := by decide +kernel
theorem dX10_fault_28 : decode cX10_fault 28 = .ok (.iaload, 1) := by decide +kernel
theorem dX10_fault_29 : decode cX10_fault 29 = .ok (.goto 4, 3) := by decide +kernel
theorem dX10_fault_32 : decode cX10_fault 32 = .ok (.iconst (-1), 1) := by decide +kernel
theorem dX10_fault_33 : decode cX10_fault 33 = .ok (.ireturn, 1) := by decide +kernel
theorem dX9_months_0 : decode cX9_months 0 = .ok (.iload_n 1, 1) := by decide +kernel
theorem dX9_months_1 : decode cX9_months 1 = .ok (.iconst 1, 1) := by decide +kernel
theorem dX9_months_2 : decode cX9_months 2 = .ok (.if_icmp .lt 23, 3) := by decide +kernel
theorem dX9_months_5 : decode cX9_months 5 = .ok (.iload_n 1, 1) := by decide +kernel
theorem dX9_months_6 : decode cX9_months 6 = .ok (.bipush 12, 2) := by decide +kernel
theorem dX9_months_8 : decode cX9_months 8 = .ok (.if_icmp .gt 17, 3) := by decide +kernel
theorem dX9_months_11 : decode cX9_months 11 = .ok (.aload_n 0, 1) := by decide +kernel
theorem dX9_months_12 : decode cX9_months 12 = .ok (.getfield 10, 3) := by decide +kernel
theorem dX9_months_15 : decode cX9_months 15 = .ok (.getfield 90, 3) := by decide +kernel
theorem dX9_months_18 : decode cX9_months 18 = .ok (.iload_n 1, 1) := by decide +kernel
theorem dX9_months_19 : decode cX9_months 19 = .ok (.iadd, 1) := by decide +kernel
theorem dX9_months_20 : decode cX9_months 20 = .ok (.bipush 99, 2) := by decide +kernel
theorem dX9_months_22 : decode cX9_months 22 = .ok (.if_icmp .le 5, 3) := by decide +kernel
theorem dX9_months_25 : decode cX9_months 25 = .ok (.iconst (-1), 1) := by decide +kernel
theorem dX9_months_26 : decode cX9_months 26 = .ok (.ireturn, 1) := by decide +kernel
theorem dX9_months_27 : decode cX9_months 27 = .ok (.aload_n 0, 1) := by decide +kernel
theorem dX9_months_28 : decode cX9_months 28 = .ok (.getfield 10, 3) := by decide +kernel
theorem dX9_months_31 : decode cX9_months 31 = .ok (.dup, 1) := by decide +kernel
theorem dX9_months_32 : decode cX9_months 32 = .ok (.getfield 90, 3) := by decide +kernel
theorem dX9_months_35 : decode cX9_months 35 = .ok (.iload_n 1, 1) := by decide +kernel
theorem dX9_months_36 : decode cX9_months 36 = .ok (.iadd, 1) := by decide +kernel
theorem dX9_months_37 : decode cX9_months 37 = .ok (.putfield 90, 3) := by decide +kernel
theorem dX9_months_40 : decode cX9_months 40 = .ok (.aload_n 0, 1) := by decide +kernel
theorem dX9_months_41 : decode cX9_months 41 = .ok (.getfield 10, 3) := by decide +kernel
theorem dX9_months_44 : decode cX9_months 44 = .ok (.getfield 90, 3) := by decide +kernel
theorem dX9_months_47 : decode cX9_months 47 = .ok (.ireturn, 1) := by decide +kernel
theorem dX10_now_0 : decode cX10_now 0 = .ok (.aload_n 0, 1) := by decide +kernel
theorem dX10_now_1 : decode cX10_now 1 = .ok (.getfield 7, 3) := by decide +kernel
theorem dX10_now_4 : decode cX10_now 4 = .ok (.sipush 144, 3) := by decide +kernel
theorem dX10_now_7 : decode cX10_now 7 = .ok (.iaload, 1) := by decide +kernel
theorem dX10_now_8 : decode cX10_now 8 = .ok (.ireturn, 1) := by decide +kernel
theorem dX10_months_0 : decode cX10_months 0 = .ok (.aload_n 0, 1) := by decide +kernel
theorem dX10_months_1 : decode cX10_months 1 = .ok (.iconst 0, 1) := by decide +kernel
theorem dX10_months_2 : decode cX10_months 2 = .ok (.putfield 52, 3) := by decide +kernel
theorem dX10_months_5 : decode cX10_months 5 = .ok (.iload_n 1, 1) := by decide +kernel
theorem dX10_months_6 : decode cX10_months 6 = .ok (.iconst 1, 1) := by decide +kernel
theorem dX10_months_7 : decode cX10_months 7 = .ok (.bipush 12, 2) := by decide +kernel
theorem dX10_months_9 : decode cX10_months 9 = .ok (.invokestatic 59, 3) := by decide +kernel
theorem dX10_months_12 : decode cX10_months 12 = .ok (.ifCond .eq 14, 3) := by decide +kernel
theorem dX10_months_15 : decode cX10_months 15 = .ok (.aload_n 0, 1) := by decide +kernel
theorem dX10_months_16 : decode cX10_months 16 = .ok (.invokevirtual 218, 3) := by decide +kernel
theorem dX10_months_19 : decode cX10_months 19 = .ok (.iload_n 1, 1) := by decide +kernel
theorem dX10_months_20 : decode cX10_months 20 = .ok (.iadd, 1) := by decide +kernel
theorem dX10_months_21 : decode cX10_months 21 = .ok (.bipush 99, 2) := by decide +kernel
theorem dX10_months_23 : decode cX10_months 23 = .ok (.if_icmp .le 5, 3) := by decide +kernel
theorem dX10_months_26 : decode cX10_months 26 = .ok (.iconst (-1), 1) := by decide +kernel
theorem dX10_months_27 : decode cX10_months 27 = .ok (.ireturn, 1) := by decide +kernel
theorem dX10_months_28 : decode cX10_months 28 = .ok (.aload_n 0, 1) := by decide +kernel
theorem dX10_months_29 : decode cX10_months 29 = .ok (.getfield 7, 3) := by decide +kernel
theorem dX10_months_32 : decode cX10_months 32 = .ok (.sipush 144, 3) := by decide +kernel
theorem dX10_months_35 : decode cX10_months 35 = .ok (.dup2, 1) := by decide +kernel
theorem dX10_months_36 : decode cX10_months 36 = .ok (.iaload, 1) := by decide +kernel
theorem dX10_months_37 : decode cX10_months 37 = .ok (.iload_n 1, 1) := by decide +kernel
theorem dX10_months_38 : decode cX10_months 38 = .ok (.iadd, 1) := by decide +kernel
theorem dX10_months_39 : decode cX10_months 39 = .ok (.iastore, 1) := by decide +kernel
theorem dX10_months_40 : decode cX10_months 40 = .ok (.aload_n 0, 1) := by decide +kernel
theorem dX10_months_41 : decode cX10_months 41 = .ok (.invokevirtual 218, 3) := by decide +kernel
theorem dX10_months_44 : decode cX10_months 44 = .ok (.ireturn, 1) := by decide +kernel
theorem dX0_has_0 : decode cX0_has 0 = .ok (.iload_n 1, 1) := by decide +kernel
theorem dX0_has_1 : decode cX0_has 1 = .ok (.ifCond .lt 15, 3) := by decide +kernel
theorem dX0_has_4 : decode cX0_has 4 = .ok (.iload_n 1, 1) := by decide +kernel
theorem dX0_has_5 : decode cX0_has 5 = .ok (.aload_n 0, 1) := by decide +kernel
theorem dX0_has_6 : decode cX0_has 6 = .ok (.getfield 9, 3) := by decide +kernel
theorem dX0_has_9 : decode cX0_has 9 = .ok (.if_icmp .ge 7, 3) := by decide +kernel
theorem dX0_has_12 : decode cX0_has 12 = .ok (.iconst 1, 1) := by decide +kernel
theorem dX0_has_13 : decode cX0_has 13 = .ok (.goto 4, 3) := by decide +kernel
theorem dX0_has_16 : decode cX0_has 16 = .ok (.iconst 0, 1) := by decide +kernel
theorem dX0_has_17 : decode cX0_has 17 = .ok (.ireturn, 1) := by decide +kernel
theorem dX0_hasLeft_0 : decode cX0_hasLeft 0 = .ok (.aload_n 0, 1) := by decide +kernel
theorem dX0_hasLeft_1 : decode cX0_hasLeft 1 = .ok (.getfield 19, 3) := by decide +kernel
theorem dX0_hasLeft_4 : decode cX0_hasLeft 4 = .ok (.iload_n 1, 1) := by decide +kernel
theorem dX0_hasLeft_5 : decode cX0_hasLeft 5 = .ok (.iaload, 1) := by decide +kernel
theorem dX0_hasLeft_6 : decode cX0_hasLeft 6 = .ok (.iconst (-1), 1) := by decide +kernel
theorem dX0_hasLeft_7 : decode cX0_hasLeft 7 = .ok (.if_icmp .eq 7, 3) := by decide +kernel
theorem dX0_hasLeft_10 : decode cX0_hasLeft 10 = .ok (.iconst 1, 1) := by decide +kernel
theorem dX0_hasLeft_11 : decode cX0_hasLeft 11 = .ok (.goto 4, 3) := by decide +kernel
theorem dX0_hasLeft_14 : decode cX0_hasLeft 14 = .ok (.iconst 0, 1) := by decide +kernel
theorem dX0_hasLeft_15 : decode cX0_hasLeft 15 = .ok (.ireturn, 1) := by decide +kernel
theorem dX0_works_0 : decode cX0_works 0 = .ok (.aload_n 0, 1) := by decide +kernel
theorem dX0_works_1 : decode cX0_works 1 = .ok (.iload_n 1, 1) := by decide +kernel
theorem dX0_works_2 : decode cX0_works 2 = .ok (.invokevirtual 50, 3) := by decide +kernel
theorem dX0_works_5 : decode cX0_works 5 = .ok (.ifCond .eq 15, 3) := by decide +kernel
theorem dX0_works_8 : decode cX0_works 8 = .ok (.aload_n 0, 1) := by decide +kernel
theorem dX0_works_9 : decode cX0_works 9 = .ok (.iload_n 1, 1) := by decide +kernel
theorem dX0_works_10 : decode cX0_works 10 = .ok (.invokevirtual 54, 3) := by decide +kernel
theorem dX0_works_13 : decode cX0_works 13 = .ok (.ifCond .ne 7, 3) := by decide +kernel
theorem dX0_works_16 : decode cX0_works 16 = .ok (.iconst 1, 1) := by decide +kernel
theorem dX0_works_17 : decode cX0_works 17 = .ok (.goto 4, 3) := by decide +kernel
theorem dX0_works_20 : decode cX0_works 20 = .ok (.iconst 0, 1) := by decide +kernel
theorem dX0_works_21 : decode cX0_works 21 = .ok (.ireturn, 1) := by decide +kernel
theorem dX9_join_0 : decode cX9_join 0 = .ok (.aload_n 0, 1) := by decide +kernel
theorem dX9_join_1 : decode cX9_join 1 = .ok (.getfield 10, 3) := by decide +kernel
theorem dX9_join_4 : decode cX9_join 4 = .ok (.getfield 93, 3) := by decide +kernel
theorem dX9_join_7 : decode cX9_join 7 = .ok (.astore_n 2, 1) := by decide +kernel
theorem dX9_join_8 : decode cX9_join 8 = .ok (.aload_n 2, 1) := by decide +kernel
theorem dX9_join_9 : decode cX9_join 9 = .ok (.iload_n 1, 1) := by decide +kernel
theorem dX9_join_10 : decode cX9_join 10 = .ok (.invokevirtual 97, 3) := by decide +kernel
theorem dX9_join_13 : decode cX9_join 13 = .ok (.ifCond .eq 12, 3) := by decide +kernel
theorem dX9_join_16 : decode cX9_join 16 = .ok (.aload_n 2, 1) := by decide +kernel
theorem dX9_join_17 : decode cX9_join 17 = .ok (.getfield 103, 3) := by decide +kernel
theorem dX9_join_20 : decode cX9_join 20 = .ok (.bipush 10, 2) := by decide +kernel
theorem dX9_join_22 : decode cX9_join 22 = .ok (.if_icmp .lt 5, 3) := by decide +kernel
theorem dX9_join_25 : decode cX9_join 25 = .ok (.iconst (-1), 1) := by decide +kernel
theorem dX9_join_26 : decode cX9_join 26 = .ok (.ireturn, 1) := by decide +kernel
theorem dX9_join_27 : decode cX9_join 27 = .ok (.aload_n 2, 1) := by decide +kernel
theorem dX9_join_28 : decode cX9_join 28 = .ok (.iload_n 1, 1) := by decide +kernel
theorem dX9_join_29 : decode cX9_join 29 = .ok (.aload_n 0, 1) := by decide +kernel
theorem dX9_join_30 : decode cX9_join 30 = .ok (.getfield 10, 3) := by decide +kernel
theorem dX9_join_33 : decode cX9_join 33 = .ok (.getfield 90, 3) := by decide +kernel
theorem dX9_join_36 : decode cX9_join 36 = .ok (.invokevirtual 106, 3) := by decide +kernel
theorem dX9_join_39 : decode cX9_join 39 = .ok (.ireturn, 1) := by decide +kernel
theorem dX10_isSeller_0 : decode cX10_isSeller 0 = .ok (.iload_n 1, 1) := by decide +kernel
theorem dX10_isSeller_1 : decode cX10_isSeller 1 = .ok (.iconst 0, 1) := by decide +kernel
theorem dX10_isSeller_2 : decode cX10_isSeller 2 = .ok (.aload_n 0, 1) := by decide +kernel
theorem dX10_isSeller_3 : decode cX10_isSeller 3 = .ok (.getfield 7, 3) := by decide +kernel
theorem dX10_isSeller_6 : decode cX10_isSeller 6 = .ok (.sipush 145, 3) := by decide +kernel
theorem dX10_isSeller_9 : decode cX10_isSeller 9 = .ok (.iaload, 1) := by decide +kernel
theorem dX10_isSeller_10 : decode cX10_isSeller 10 = .ok (.iconst 1, 1) := by decide +kernel
theorem dX10_isSeller_11 : decode cX10_isSeller 11 = .ok (.isub, 1) := by decide +kernel
theorem dX10_isSeller_12 : decode cX10_isSeller 12 = .ok (.invokestatic 59, 3) := by decide +kernel
theorem dX10_isSeller_15 : decode cX10_isSeller 15 = .ok (.ireturn, 1) := by decide +kernel
theorem dX10_ofSeller_0 : decode cX10_ofSeller 0 = .ok (.aload_n 0, 1) := by decide +kernel
theorem dX10_ofSeller_1 : decode cX10_ofSeller 1 = .ok (.getfield 7, 3) := by decide +kernel
theorem dX10_ofSeller_4 : decode cX10_ofSeller 4 = .ok (.sipush 147, 3) := by decide +kernel
theorem dX10_ofSeller_7 : decode cX10_ofSeller 7 = .ok (.bipush 94, 2) := by decide +kernel
theorem dX10_ofSeller_9 : decode cX10_ofSeller 9 = .ok (.iload_n 1, 1) := by decide +kernel
theorem dX10_ofSeller_10 : decode cX10_ofSeller 10 = .ok (.imul, 1) := by decide +kernel
theorem dX10_ofSeller_11 : decode cX10_ofSeller 11 = .ok (.iadd, 1) := by decide +kernel
theorem dX10_ofSeller_12 : decode cX10_ofSeller 12 = .ok (.iload_n 2, 1) := by decide +kernel
theorem dX10_ofSeller_13 : decode cX10_ofSeller 13 = .ok (.iadd, 1) := by decide +kernel
theorem dX10_ofSeller_14 : decode cX10_ofSeller 14 = .ok (.iaload, 1) := by decide +kernel
theorem dX10_ofSeller_15 : decode cX10_ofSeller 15 = .ok (.ireturn, 1) := by decide +kernel
theorem dX10_hasQuit_0 : decode cX10_hasQuit 0 = .ok (.aload_n 0, 1) := by decide +kernel
theorem dX10_hasQuit_1 : decode cX10_hasQuit 1 = .ok (.iload_n 1, 1) := by decide +kernel
theorem dX10_hasQuit_2 : decode cX10_hasQuit 2 = .ok (.iconst 1, 1) := by decide +kernel
theorem dX10_hasQuit_3 : decode cX10_hasQuit 3 = .ok (.invokevirtual 159, 3) := by decide +kernel
theorem dX10_hasQuit_6 : decode cX10_hasQuit 6 = .ok (.iconst (-1), 1) := by decide +kernel
theorem dX10_hasQuit_7 : decode cX10_hasQuit 7 = .ok (.if_icmp .eq 7, 3) := by decide +kernel
theorem dX10_hasQuit_10 : decode cX10_hasQuit 10 = .ok (.iconst 1, 1) := by decide +kernel
theorem dX10_hasQuit_11 : decode cX10_hasQuit 11 = .ok (.goto 4, 3) := by decide +kernel
theorem dX10_hasQuit_14 : decode cX10_hasQuit 14 = .ok (.iconst 0, 1) := by decide +kernel
theorem dX10_hasQuit_15 : decode cX10_hasQuit 15 = .ok (.ireturn, 1) := by decide +kernel
theorem dX10_join_0 : decode cX10_join 0 = .ok (.aload_n 0, 1) := by decide +kernel
theorem dX10_join_1 : decode cX10_join 1 = .ok (.iconst 0, 1) := by decide +kernel
theorem dX10_join_2 : decode cX10_join 2 = .ok (.putfield 52, 3) := by decide +kernel
theorem dX10_join_5 : decode cX10_join 5 = .ok (.aload_n 0, 1) := by decide +kernel
theorem dX10_join_6 : decode cX10_join 6 = .ok (.iload_n 1, 1) := by decide +kernel
theorem dX10_join_7 : decode cX10_join 7 = .ok (.invokevirtual 253, 3) := by decide +kernel
theorem dX10_join_10 : decode cX10_join 10 = .ok (.ifCond .eq 24, 3) := by decide +kernel
theorem dX10_join_13 : decode cX10_join 13 = .ok (.aload_n 0, 1) := by decide +kernel
theorem dX10_join_14 : decode cX10_join 14 = .ok (.iload_n 1, 1) := by decide +kernel
theorem dX10_join_15 : decode cX10_join 15 = .ok (.invokevirtual 190, 3) := by decide +kernel
theorem dX10_join_18 : decode cX10_join 18 = .ok (.ifCond .ne 16, 3) := by decide +kernel
theorem dX10_join_21 : decode cX10_join 21 = .ok (.aload_n 0, 1) := by decide +kernel
theorem dX10_join_22 : decode cX10_join 22 = .ok (.getfield 7, 3) := by decide +kernel
theorem dX10_join_25 : decode cX10_join 25 = .ok (.sipush 145, 3) := by decide +kernel
theorem dX10_join_28 : decode cX10_join 28 = .ok (.iaload, 1) := by decide +kernel
theorem dX10_join_29 : decode cX10_join 29 = .ok (.bipush 10, 2) := by decide +kernel
theorem dX10_join_31 : decode cX10_join 31 = .ok (.if_icmp .ne 5, 3) := by decide +kernel
theorem dX10_join_34 : decode cX10_join 34 = .ok (.iconst (-1), 1) := by decide +kernel
theorem dX10_join_35 : decode cX10_join 35 = .ok (.ireturn, 1) := by decide +kernel
theorem dX10_join_36 : decode cX10_join 36 = .ok (.aload_n 0, 1) := by decide +kernel
theorem dX10_join_37 : decode cX10_join 37 = .ok (.iload_n 1, 1) := by decide +kernel
theorem dX10_join_38 : decode cX10_join 38 = .ok (.invokevirtual 153, 3) := by decide +kernel
theorem dX10_join_41 : decode cX10_join 41 = .ok (.aload_n 0, 1) := by decide +kernel
theorem dX10_join_42 : decode cX10_join 42 = .ok (.getfield 7, 3) := by decide +kernel
theorem dX10_join_45 : decode cX10_join 45 = .ok (.sipush 145, 3) := by decide +kernel
theorem dX10_join_48 : decode cX10_join 48 = .ok (.iaload, 1) := by decide +kernel
theorem dX10_join_49 : decode cX10_join 49 = .ok (.iconst 1, 1) := by decide +kernel
theorem dX10_join_50 : decode cX10_join 50 = .ok (.isub, 1) := by decide +kernel
theorem dX10_join_51 : decode cX10_join 51 = .ok (.ireturn, 1) := by decide +kernel
theorem dX9_lastTreeMonth_0 : decode cX9_lastTreeMonth 0 = .ok (.aload_n 0, 1) := by decide +kernel
theorem dX9_lastTreeMonth_1 : decode cX9_lastTreeMonth 1 = .ok (.getfield 10, 3) := by decide +kernel
theorem dX9_lastTreeMonth_4 : decode cX9_lastTreeMonth 4 = .ok (.getfield 90, 3) := by decide +kernel
theorem dX9_lastTreeMonth_7 : decode cX9_lastTreeMonth 7 = .ok (.bipush 6, 2) := by decide +kernel
theorem dX9_lastTreeMonth_9 : decode cX9_lastTreeMonth 9 = .ok (.iadd, 1) := by decide +kernel
theorem dX9_lastTreeMonth_10 : decode cX9_lastTreeMonth 10 = .ok (.bipush 99, 2) := by decide +kernel
theorem dX9_lastTreeMonth_12 : decode cX9_lastTreeMonth 12 = .ok (.invokestatic 385, 3) := by decide +kernel
theorem dX9_lastTreeMonth_15 : decode cX9_lastTreeMonth 15 = .ok (.ireturn, 1) := by decide +kernel
theorem dX0_sponsorAt_0 : decode cX0_sponsorAt 0 = .ok (.aload_n 0, 1) := by decide +kernel
theorem dX0_sponsorAt_1 : decode cX0_sponsorAt 1 = .ok (.getfield 34, 3) := by decide +kernel
theorem dX0_sponsorAt_4 : decode cX0_sponsorAt 4 = .ok (.iload_n 1, 1) := by decide +kernel
theorem dX0_sponsorAt_5 : decode cX0_sponsorAt 5 = .ok (.iaload, 1) := by decide +kernel
theorem dX0_sponsorAt_6 : decode cX0_sponsorAt 6 = .ok (.istore_n 3, 1) := by decide +kernel
theorem dX0_sponsorAt_7 : decode cX0_sponsorAt 7 = .ok (.iconst 0, 1) := by decide +kernel
theorem dX0_sponsorAt_8 : decode cX0_sponsorAt 8 = .ok (.istore 4, 2) := by decide +kernel
theorem dX0_sponsorAt_10 : decode cX0_sponsorAt 10 = .ok (.iload 4, 2) := by decide +kernel
theorem dX0_sponsorAt_12 : decode cX0_sponsorAt 12 = .ok (.aload_n 0, 1) := by decide +kernel
theorem dX0_sponsorAt_13 : decode cX0_sponsorAt 13 = .ok (.getfield 25, 3) := by decide +kernel
theorem dX0_sponsorAt_16 : decode cX0_sponsorAt 16 = .ok (.iload_n 1, 1) := by decide +kernel
theorem dX0_sponsorAt_17 : decode cX0_sponsorAt 17 = .ok (.iaload, 1) := by decide +kernel
theorem dX0_sponsorAt_18 : decode cX0_sponsorAt 18 = .ok (.if_icmp .ge 38, 3) := by decide +kernel
theorem dX0_sponsorAt_21 : decode cX0_sponsorAt 21 = .ok (.aload_n 0, 1) := by decide +kernel
theorem dX0_sponsorAt_22 : decode cX0_sponsorAt 22 = .ok (.getfield 28, 3) := by decide +kernel
theorem dX0_sponsorAt_25 : decode cX0_sponsorAt 25 = .ok (.iload_n 1, 1) := by decide +kernel
theorem dX0_sponsorAt_26 : decode cX0_sponsorAt 26 = .ok (.bipush 12, 2) := by decide +kernel
theorem dX0_sponsorAt_28 : decode cX0_sponsorAt 28 = .ok (.imul, 1) := by decide +kernel
theorem dX0_sponsorAt_29 : decode cX0_sponsorAt 29 = .ok (.iload 4, 2) := by decide +kernel
theorem dX0_sponsorAt_31 : decode cX0_sponsorAt 31 = .ok (.iadd, 1) := by decide +kernel
theorem dX0_sponsorAt_32 : decode cX0_sponsorAt 32 = .ok (.iaload, 1) := by decide +kernel
theorem dX0_sponsorAt_33 : decode cX0_sponsorAt 33 = .ok (.iload_n 2, 1) := by decide +kernel
theorem dX0_sponsorAt_34 : decode cX0_sponsorAt 34 = .ok (.if_icmp .gt 22, 3) := by decide +kernel
theorem dX0_sponsorAt_37 : decode cX0_sponsorAt 37 = .ok (.aload_n 0, 1) := by decide +kernel
theorem dX0_sponsorAt_38 : decode cX0_sponsorAt 38 = .ok (.getfield 31, 3) := by decide +kernel
theorem dX0_sponsorAt_41 : decode cX0_sponsorAt 41 = .ok (.iload_n 1, 1) := by decide +kernel
theorem dX0_sponsorAt_42 : decode cX0_sponsorAt 42 = .ok (.bipush 12, 2) := by decide +kernel
theorem dX0_sponsorAt_44 : decode cX0_sponsorAt 44 = .ok (.imul, 1) := by decide +kernel
theorem dX0_sponsorAt_45 : decode cX0_sponsorAt 45 = .ok (.iload 4, 2) := by decide +kernel
theorem dX0_sponsorAt_47 : decode cX0_sponsorAt 47 = .ok (.iadd, 1) := by decide +kernel
theorem dX0_sponsorAt_48 : decode cX0_sponsorAt 48 = .ok (.iaload, 1) := by decide +kernel
theorem dX0_sponsorAt_49 : decode cX0_sponsorAt 49 = .ok (.istore_n 3, 1) := by decide +kernel
theorem dX0_sponsorAt_50 : decode cX0_sponsorAt 50 = .ok (.iinc 4 1, 3) := by decide +kernel
theorem dX0_sponsorAt_53 : decode cX0_sponsorAt 53 = .ok (.goto (-43), 3) := by decide +kernel
theorem dX0_sponsorAt_56 : decode cX0_sponsorAt 56 = .ok (.iload_n 3, 1) := by decide +kernel
theorem dX0_sponsorAt_57 : decode cX0_sponsorAt 57 = .ok (.ireturn, 1) := by decide +kernel
theorem dX0_hasMoveOf_0 : decode cX0_hasMoveOf 0 = .ok (.iconst 0, 1) := by decide +kernel
theorem dX0_hasMoveOf_1 : decode cX0_hasMoveOf 1 = .ok (.istore_n 3, 1) := by decide +kernel
theorem dX0_hasMoveOf_2 : decode cX0_hasMoveOf 2 = .ok (.iload_n 3, 1) := by decide +kernel
theorem dX0_hasMoveOf_3 : decode cX0_hasMoveOf 3 = .ok (.aload_n 0, 1) := by decide +kernel
theorem dX0_hasMoveOf_4 : decode cX0_hasMoveOf 4 = .ok (.getfield 25, 3) := by decide +kernel
theorem dX0_hasMoveOf_7 : decode cX0_hasMoveOf 7 = .ok (.iload_n 1, 1) := by decide +kernel
theorem dX0_hasMoveOf_8 : decode cX0_hasMoveOf 8 = .ok (.iaload, 1) := by decide +kernel
theorem dX0_hasMoveOf_9 : decode cX0_hasMoveOf 9 = .ok (.if_icmp .ge 26, 3) := by decide +kernel
theorem dX0_hasMoveOf_12 : decode cX0_hasMoveOf 12 = .ok (.aload_n 0, 1) := by decide +kernel
theorem dX0_hasMoveOf_13 : decode cX0_hasMoveOf 13 = .ok (.getfield 28, 3) := by decide +kernel
theorem dX0_hasMoveOf_16 : decode cX0_hasMoveOf 16 = .ok (.iload_n 1, 1) := by decide +kernel
theorem dX0_hasMoveOf_17 : decode cX0_hasMoveOf 17 = .ok (.bipush 12, 2) := by decide +kernel
theorem dX0_hasMoveOf_19 : decode cX0_hasMoveOf 19 = .ok (.imul, 1) := by decide +kernel
theorem dX0_hasMoveOf_20 : decode cX0_hasMoveOf 20 = .ok (.iload_n 3, 1) := by decide +kernel
theorem dX0_hasMoveOf_21 : decode cX0_hasMoveOf 21 = .ok (.iadd, 1) := by decide +kernel
theorem dX0_hasMoveOf_22 : decode cX0_hasMoveOf 22 = .ok (.iaload, 1) := by decide +kernel
theorem dX0_hasMoveOf_23 : decode cX0_hasMoveOf 23 = .ok (.iload_n 2, 1) := by decide +kernel
theorem dX0_hasMoveOf_24 : decode cX0_hasMoveOf 24 = .ok (.if_icmp .ne 5, 3) := by decide +kernel
theorem dX0_hasMoveOf_27 : decode cX0_hasMoveOf 27 = .ok (.iconst 1, 1) := by decide +kernel
theorem dX0_hasMoveOf_28 : decode cX0_hasMoveOf 28 = .ok (.ireturn, 1) := by decide +kernel
theorem dX0_hasMoveOf_29 : decode cX0_hasMoveOf 29 = .ok (.iinc 3 1, 3) := by decide +kernel
theorem dX0_hasMoveOf_32 : decode cX0_hasMoveOf 32 = .ok (.goto (-30), 3) := by decide +kernel
theorem dX0_hasMoveOf_35 : decode cX0_hasMoveOf 35 = .ok (.iconst 0, 1) := by decide +kernel
theorem dX0_hasMoveOf_36 : decode cX0_hasMoveOf 36 = .ok (.ireturn, 1) := by decide +kernel
theorem dX0_isUpFrom_0 : decode cX0_isUpFrom 0 = .ok (.iload_n 1, 1) := by decide +kernel
theorem dX0_isUpFrom_1 : decode cX0_isUpFrom 1 = .ok (.istore 4, 2) := by decide +kernel
theorem dX0_isUpFrom_3 : decode cX0_isUpFrom 3 = .ok (.iconst 0, 1) := by decide +kernel
theorem dX0_isUpFrom_4 : decode cX0_isUpFrom 4 = .ok (.istore 5, 2) := by decide +kernel
theorem dX0_isUpFrom_6 : decode cX0_isUpFrom 6 = .ok (.iload 5, 2) := by decide +kernel
theorem dX0_isUpFrom_8 : decode cX0_isUpFrom 8 = .ok (.bipush 10, 2) := by decide +kernel
theorem dX0_isUpFrom_10 : decode cX0_isUpFrom 10 = .ok (.if_icmp .ge 32, 3) := by decide +kernel
theorem dX0_isUpFrom_13 : decode cX0_isUpFrom 13 = .ok (.iload 4, 2) := by decide +kernel
theorem dX0_isUpFrom_15 : decode cX0_isUpFrom 15 = .ok (.iconst (-1), 1) := by decide +kernel
theorem dX0_isUpFrom_16 : decode cX0_isUpFrom 16 = .ok (.if_icmp .eq 26, 3) := by decide +kernel
theorem dX0_isUpFrom_19 : decode cX0_isUpFrom 19 = .ok (.iload 4, 2) := by decide +kernel
theorem dX0_isUpFrom_21 : decode cX0_isUpFrom 21 = .ok (.iload_n 2, 1) := by decide +kernel
theorem dX0_isUpFrom_22 : decode cX0_isUpFrom 22 = .ok (.if_icmp .ne 5, 3) := by decide +kernel
theorem dX0_isUpFrom_25 : decode cX0_isUpFrom 25 = .ok (.iconst 1, 1) := by decide +kernel
theorem dX0_isUpFrom_26 : decode cX0_isUpFrom 26 = .ok (.ireturn, 1) := by decide +kernel
theorem dX0_isUpFrom_27 : decode cX0_isUpFrom 27 = .ok (.aload_n 0, 1) := by decide +kernel
theorem dX0_isUpFrom_28 : decode cX0_isUpFrom 28 = .ok (.iload 4, 2) := by decide +kernel
theorem dX0_isUpFrom_30 : decode cX0_isUpFrom 30 = .ok (.iload_n 3, 1) := by decide +kernel
theorem dX0_isUpFrom_31 : decode cX0_isUpFrom 31 = .ok (.invokevirtual 57, 3) := by decide +kernel
theorem dX0_isUpFrom_34 : decode cX0_isUpFrom 34 = .ok (.istore 4, 2) := by decide +kernel
theorem dX0_isUpFrom_36 : decode cX0_isUpFrom 36 = .ok (.iinc 5 1, 3) := by decide +kernel
theorem dX0_isUpFrom_39 : decode cX0_isUpFrom 39 = .ok (.goto (-33), 3) := by decide +kernel
theorem dX0_isUpFrom_42 : decode cX0_isUpFrom 42 = .ok (.iconst 0, 1) := by decide +kernel
theorem dX0_isUpFrom_43 : decode cX0_isUpFrom 43 = .ok (.ireturn, 1) := by decide +kernel
theorem dX9_makesRing_0 : decode cX9_makesRing 0 = .ok (.aload_n 0, 1) := by decide +kernel
theorem dX9_makesRing_1 : decode cX9_makesRing 1 = .ok (.getfield 10, 3) := by decide +kernel
theorem dX9_makesRing_4 : decode cX9_makesRing 4 = .ok (.getfield 93, 3) := by decide +kernel
theorem dX9_makesRing_7 : decode cX9_makesRing 7 = .ok (.astore 4, 2) := by decide +kernel
theorem dX9_makesRing_9 : decode cX9_makesRing 9 = .ok (.iload_n 3, 1) := by decide +kernel
theorem dX9_makesRing_10 : decode cX9_makesRing 10 = .ok (.istore 5, 2) := by decide +kernel
theorem dX9_makesRing_12 : decode cX9_makesRing 12 = .ok (.iload 5, 2) := by decide +kernel
theorem dX9_makesRing_14 : decode cX9_makesRing 14 = .ok (.aload_n 0, 1) := by decide +kernel
theorem dX9_makesRing_15 : decode cX9_makesRing 15 = .ok (.invokevirtual 240, 3) := by decide +kernel
theorem dX9_makesRing_18 : decode cX9_makesRing 18 = .ok (.if_icmp .gt 42, 3) := by decide +kernel
theorem dX9_makesRing_21 : decode cX9_makesRing 21 = .ok (.iload 5, 2) := by decide +kernel
theorem dX9_makesRing_23 : decode cX9_makesRing 23 = .ok (.iload_n 3, 1) := by decide +kernel
theorem dX9_makesRing_24 : decode cX9_makesRing 24 = .ok (.if_icmp .le 16, 3) := by decide +kernel
theorem dX9_makesRing_27 : decode cX9_makesRing 27 = .ok (.aload 4, 2) := by decide +kernel
theorem dX9_makesRing_29 : decode cX9_makesRing 29 = .ok (.iload_n 1, 1) := by decide +kernel
theorem dX9_makesRing_30 : decode cX9_makesRing 30 = .ok (.iload 5, 2) := by decide +kernel
theorem dX9_makesRing_32 : decode cX9_makesRing 32 = .ok (.invokevirtual 395, 3) := by decide +kernel
theorem dX9_makesRing_35 : decode cX9_makesRing 35 = .ok (.ifCond .eq 5, 3) := by decide +kernel
theorem dX9_makesRing_38 : decode cX9_makesRing 38 = .ok (.iconst 0, 1) := by decide +kernel
theorem dX9_makesRing_39 : decode cX9_makesRing 39 = .ok (.ireturn, 1) := by decide +kernel
theorem dX9_makesRing_40 : decode cX9_makesRing 40 = .ok (.aload 4, 2) := by decide +kernel
theorem dX9_makesRing_42 : decode cX9_makesRing 42 = .ok (.iload_n 2, 1) := by decide +kernel
theorem dX9_makesRing_43 : decode cX9_makesRing 43 = .ok (.iload_n 1, 1) := by decide +kernel
theorem dX9_makesRing_44 : decode cX9_makesRing 44 = .ok (.iload 5, 2) := by decide +kernel
theorem dX9_makesRing_46 : decode cX9_makesRing 46 = .ok (.invokevirtual 398, 3) := by decide +kernel
theorem dX9_makesRing_49 : decode cX9_makesRing 49 = .ok (.ifCond .eq 5, 3) := by decide +kernel
theorem dX9_makesRing_52 : decode cX9_makesRing 52 = .ok (.iconst 1, 1) := by decide +kernel
theorem dX9_makesRing_53 : decode cX9_makesRing 53 = .ok (.ireturn, 1) := by decide +kernel
theorem dX9_makesRing_54 : decode cX9_makesRing 54 = .ok (.iinc 5 1, 3) := by decide +kernel
theorem dX9_makesRing_57 : decode cX9_makesRing 57 = .ok (.goto (-45), 3) := by decide +kernel
theorem dX9_makesRing_60 : decode cX9_makesRing 60 = .ok (.iconst 0, 1) := by decide +kernel
theorem dX9_makesRing_61 : decode cX9_makesRing 61 = .ok (.ireturn, 1) := by decide +kernel
theorem dX9_reasonAgainst_0 : decode cX9_reasonAgainst 0 = .ok (.aload_n 0, 1) := by decide +kernel
theorem dX9_reasonAgainst_1 : decode cX9_reasonAgainst 1 = .ok (.getfield 10, 3) := by decide +kernel
theorem dX9_reasonAgainst_4 : decode cX9_reasonAgainst 4 = .ok (.getfield 93, 3) := by decide +kernel
theorem dX9_reasonAgainst_7 : decode cX9_reasonAgainst 7 = .ok (.astore 4, 2) := by decide +kernel
theorem dX9_reasonAgainst_9 : decode cX9_reasonAgainst 9 = .ok (.aload 4, 2) := by decide +kernel
theorem dX9_reasonAgainst_11 : decode cX9_reasonAgainst 11 = .ok (.iload_n 1, 1) := by decide +kernel
theorem dX9_reasonAgainst_12 : decode cX9_reasonAgainst 12 = .ok (.invokevirtual 189, 3) := by decide +kernel
theorem dX9_reasonAgainst_15 : decode cX9_reasonAgainst 15 = .ok (.ifCond .eq 16, 3) := by decide +kernel
theorem dX9_reasonAgainst_18 : decode cX9_reasonAgainst 18 = .ok (.aload 4, 2) := by decide +kernel
theorem dX9_reasonAgainst_20 : decode cX9_reasonAgainst 20 = .ok (.iload_n 2, 1) := by decide +kernel
theorem dX9_reasonAgainst_21 : decode cX9_reasonAgainst 21 = .ok (.invokevirtual 189, 3) := by decide +kernel
theorem dX9_reasonAgainst_24 : decode cX9_reasonAgainst 24 = .ok (.ifCond .eq 7, 3) := by decide +kernel
theorem dX9_reasonAgainst_27 : decode cX9_reasonAgainst 27 = .ok (.iload_n 1, 1) := by decide +kernel
theorem dX9_reasonAgainst_28 : decode cX9_reasonAgainst 28 = .ok (.ifCond .ne 5, 3) := by decide +kernel
theorem dX9_reasonAgainst_31 : decode cX9_reasonAgainst 31 = .ok (.iconst 1, 1) := by decide +kernel
theorem dX9_reasonAgainst_32 : decode cX9_reasonAgainst 32 = .ok (.ireturn, 1) := by decide +kernel
theorem dX9_reasonAgainst_33 : decode cX9_reasonAgainst 33 = .ok (.iload_n 3, 1) := by decide +kernel
theorem dX9_reasonAgainst_34 : decode cX9_reasonAgainst 34 = .ok (.aload_n 0, 1) := by decide +kernel
theorem dX9_reasonAgainst_35 : decode cX9_reasonAgainst 35 = .ok (.getfield 10, 3) := by decide +kernel
theorem dX9_reasonAgainst_38 : decode cX9_reasonAgainst 38 = .ok (.getfield 90, 3) := by decide +kernel
theorem dX9_reasonAgainst_41 : decode cX9_reasonAgainst 41 = .ok (.if_icmp .lt 11, 3) := by decide +kernel
theorem dX9_reasonAgainst_44 : decode cX9_reasonAgainst 44 = .ok (.iload_n 3, 1) := by decide +kernel
theorem dX9_reasonAgainst_45 : decode cX9_reasonAgainst 45 = .ok (.aload_n 0, 1) := by decide +kernel
theorem dX9_reasonAgainst_46 : decode cX9_reasonAgainst 46 = .ok (.invokevirtual 240, 3) := by decide +kernel
theorem dX9_reasonAgainst_49 : decode cX9_reasonAgainst 49 = .ok (.if_icmp .le 5, 3) := by decide +kernel
theorem dX9_reasonAgainst_52 : decode cX9_reasonAgainst 52 = .ok (.iconst 2, 1) := by decide +kernel
theorem dX9_reasonAgainst_53 : decode cX9_reasonAgainst 53 = .ok (.ireturn, 1) := by decide +kernel
theorem dX9_reasonAgainst_54 : decode cX9_reasonAgainst 54 = .ok (.aload 4, 2) := by decide +kernel
theorem dX9_reasonAgainst_56 : decode cX9_reasonAgainst 56 = .ok (.iload_n 1, 1) := by decide +kernel
theorem dX9_reasonAgainst_57 : decode cX9_reasonAgainst 57 = .ok (.invokevirtual 227, 3) := by decide +kernel
theorem dX9_reasonAgainst_60 : decode cX9_reasonAgainst 60 = .ok (.ifCond .ne 12, 3) := by decide +kernel
theorem dX9_reasonAgainst_63 : decode cX9_reasonAgainst 63 = .ok (.aload 4, 2) := by decide +kernel
theorem dX9_reasonAgainst_65 : decode cX9_reasonAgainst 65 = .ok (.iload_n 2, 1) := by decide +kernel
theorem dX9_reasonAgainst_66 : decode cX9_reasonAgainst 66 = .ok (.invokevirtual 227, 3) := by decide +kernel
theorem dX9_reasonAgainst_69 : decode cX9_reasonAgainst 69 = .ok (.ifCond .eq 5, 3) := by decide +kernel
theorem dX9_reasonAgainst_72 : decode cX9_reasonAgainst 72 = .ok (.iconst 3, 1) := by decide +kernel
theorem dX9_reasonAgainst_73 : decode cX9_reasonAgainst 73 = .ok (.ireturn, 1) := by decide +kernel
theorem dX9_reasonAgainst_74 : decode cX9_reasonAgainst 74 = .ok (.aload 4, 2) := by decide +kernel
theorem dX9_reasonAgainst_76 : decode cX9_reasonAgainst 76 = .ok (.iload_n 1, 1) := by decide +kernel
theorem dX9_reasonAgainst_77 : decode cX9_reasonAgainst 77 = .ok (.iload_n 3, 1) := by decide +kernel
theorem dX9_reasonAgainst_78 : decode cX9_reasonAgainst 78 = .ok (.invokevirtual 388, 3) := by decide +kernel
theorem dX9_reasonAgainst_81 : decode cX9_reasonAgainst 81 = .ok (.iload_n 2, 1) := by decide +kernel
theorem dX9_reasonAgainst_82 : decode cX9_reasonAgainst 82 = .ok (.if_icmp .ne 5, 3) := by decide +kernel
theorem dX9_reasonAgainst_85 : decode cX9_reasonAgainst 85 = .ok (.iconst 4, 1) := by decide +kernel
theorem dX9_reasonAgainst_86 : decode cX9_reasonAgainst 86 = .ok (.ireturn, 1) := by decide +kernel
theorem dX9_reasonAgainst_87 : decode cX9_reasonAgainst 87 = .ok (.aload_n 0, 1) := by decide +kernel
theorem dX9_reasonAgainst_88 : decode cX9_reasonAgainst 88 = .ok (.iload_n 1, 1) := by decide +kernel
theorem dX9_reasonAgainst_89 : decode cX9_reasonAgainst 89 = .ok (.iload_n 2, 1) := by decide +kernel
theorem dX9_reasonAgainst_90 : decode cX9_reasonAgainst 90 = .ok (.iload_n 3, 1) := by decide +kernel
theorem dX9_reasonAgainst_91 : decode cX9_reasonAgainst 91 = .ok (.invokevirtual 391, 3) := by decide +kernel
theorem dX9_reasonAgainst_94 : decode cX9_reasonAgainst 94 = .ok (.ifCond .eq 5, 3) := by decide +kernel
theorem dX9_reasonAgainst_97 : decode cX9_reasonAgainst 97 = .ok (.iconst 5, 1) := by decide +kernel
theorem dX9_reasonAgainst_98 : decode cX9_reasonAgainst 98 = .ok (.ireturn, 1) := by decide +kernel
theorem dX9_reasonAgainst_99 : decode cX9_reasonAgainst 99 = .ok (.aload 4, 2) := by decide +kernel
theorem dX9_reasonAgainst_101 : decode cX9_reasonAgainst 101 = .ok (.getfield 221, 3) := by decide +kernel
theorem dX9_reasonAgainst_104 : decode cX9_reasonAgainst 104 = .ok (.iload_n 1, 1) := by decide +kernel
theorem dX9_reasonAgainst_105 : decode cX9_reasonAgainst 105 = .ok (.iaload, 1) := by decide +kernel
theorem dX9_reasonAgainst_106 : decode cX9_reasonAgainst 106 = .ok (.bipush 12, 2) := by decide +kernel
theorem dX9_reasonAgainst_108 : decode cX9_reasonAgainst 108 = .ok (.if_icmp .lt 18, 3) := by decide +kernel
theorem dX9_reasonAgainst_111 : decode cX9_reasonAgainst 111 = .ok (.aload 4, 2) := by decide +kernel
theorem dX9_reasonAgainst_113 : decode cX9_reasonAgainst 113 = .ok (.iload_n 1, 1) := by decide +kernel
theorem dX9_reasonAgainst_114 : decode cX9_reasonAgainst 114 = .ok (.iload_n 3, 1) := by decide +kernel
theorem dX9_reasonAgainst_115 : decode cX9_reasonAgainst 115 = .ok (.invokevirtual 395, 3) := by decide +kernel
theorem dX9_reasonAgainst_118 : decode cX9_reasonAgainst 118 = .ok (.ifCond .ne 8, 3) := by decide +kernel
theorem dX9_reasonAgainst_121 : decode cX9_reasonAgainst 121 = .ok (.bipush 6, 2) := by decide +kernel
theorem dX9_reasonAgainst_123 : decode cX9_reasonAgainst 123 = .ok (.goto 4, 3) := by decide +kernel
theorem dX9_reasonAgainst_126 : decode cX9_reasonAgainst 126 = .ok (.iconst 0, 1) := by decide +kernel
theorem dX9_reasonAgainst_127 : decode cX9_reasonAgainst 127 = .ok (.ireturn, 1) := by decide +kernel
