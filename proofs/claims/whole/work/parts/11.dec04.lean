theorem dX9_back_0 : decode cX9_back 0 = .ok (.aload_n 0, 1) := by decide +kernel
theorem dX9_back_1 : decode cX9_back 1 = .ok (.getfield 10, 3) := by decide +kernel
theorem dX9_back_4 : decode cX9_back 4 = .ok (.getfield 136, 3) := by decide +kernel
theorem dX9_back_7 : decode cX9_back 7 = .ok (.astore_n 3, 1) := by decide +kernel
theorem dX9_back_8 : decode cX9_back 8 = .ok (.aload_n 3, 1) := by decide +kernel
theorem dX9_back_9 : decode cX9_back 9 = .ok (.iload_n 1, 1) := by decide +kernel
theorem dX9_back_10 : decode cX9_back 10 = .ok (.invokevirtual 176, 3) := by decide +kernel
theorem dX9_back_13 : decode cX9_back 13 = .ok (.ifCond .eq 21, 3) := by decide +kernel
theorem dX9_back_16 : decode cX9_back 16 = .ok (.iload_n 2, 1) := by decide +kernel
theorem dX9_back_17 : decode cX9_back 17 = .ok (.iconst 1, 1) := by decide +kernel
theorem dX9_back_18 : decode cX9_back 18 = .ok (.if_icmp .lt 16, 3) := by decide +kernel
theorem dX9_back_21 : decode cX9_back 21 = .ok (.iload_n 2, 1) := by decide +kernel
theorem dX9_back_22 : decode cX9_back 22 = .ok (.bipush 100, 2) := by decide +kernel
theorem dX9_back_24 : decode cX9_back 24 = .ok (.aload_n 3, 1) := by decide +kernel
theorem dX9_back_25 : decode cX9_back 25 = .ok (.getfield 179, 3) := by decide +kernel
theorem dX9_back_28 : decode cX9_back 28 = .ok (.iload_n 1, 1) := by decide +kernel
theorem dX9_back_29 : decode cX9_back 29 = .ok (.iaload, 1) := by decide +kernel
theorem dX9_back_30 : decode cX9_back 30 = .ok (.isub, 1) := by decide +kernel
theorem dX9_back_31 : decode cX9_back 31 = .ok (.if_icmp .le 5, 3) := by decide +kernel
theorem dX9_back_34 : decode cX9_back 34 = .ok (.iconst (-1), 1) := by decide +kernel
theorem dX9_back_35 : decode cX9_back 35 = .ok (.ireturn, 1) := by decide +kernel
theorem dX9_back_36 : decode cX9_back 36 = .ok (.aload_n 3, 1) := by decide +kernel
theorem dX9_back_37 : decode cX9_back 37 = .ok (.getfield 179, 3) := by decide +kernel
theorem dX9_back_40 : decode cX9_back 40 = .ok (.iload_n 1, 1) := by decide +kernel
theorem dX9_back_41 : decode cX9_back 41 = .ok (.iaload, 1) := by decide +kernel
theorem dX9_back_42 : decode cX9_back 42 = .ok (.istore 4, 2) := by decide +kernel
theorem dX9_back_44 : decode cX9_back 44 = .ok (.aload_n 3, 1) := by decide +kernel
theorem dX9_back_45 : decode cX9_back 45 = .ok (.getfield 179, 3) := by decide +kernel
theorem dX9_back_48 : decode cX9_back 48 = .ok (.iload_n 1, 1) := by decide +kernel
theorem dX9_back_49 : decode cX9_back 49 = .ok (.iload 4, 2) := by decide +kernel
theorem dX9_back_51 : decode cX9_back 51 = .ok (.iload_n 2, 1) := by decide +kernel
theorem dX9_back_52 : decode cX9_back 52 = .ok (.iadd, 1) := by decide +kernel
theorem dX9_back_53 : decode cX9_back 53 = .ok (.iastore, 1) := by decide +kernel
theorem dX9_back_54 : decode cX9_back 54 = .ok (.iconst 0, 1) := by decide +kernel
theorem dX9_back_55 : decode cX9_back 55 = .ok (.istore 5, 2) := by decide +kernel
theorem dX9_back_57 : decode cX9_back 57 = .ok (.iconst 1, 1) := by decide +kernel
theorem dX9_back_58 : decode cX9_back 58 = .ok (.istore 6, 2) := by decide +kernel
theorem dX9_back_60 : decode cX9_back 60 = .ok (.iload 6, 2) := by decide +kernel
theorem dX9_back_62 : decode cX9_back 62 = .ok (.aload_n 3, 1) := by decide +kernel
theorem dX9_back_63 : decode cX9_back 63 = .ok (.getfield 182, 3) := by decide +kernel
theorem dX9_back_66 : decode cX9_back 66 = .ok (.iload_n 1, 1) := by decide +kernel
theorem dX9_back_67 : decode cX9_back 67 = .ok (.iaload, 1) := by decide +kernel
theorem dX9_back_68 : decode cX9_back 68 = .ok (.if_icmp .gt 64, 3) := by decide +kernel
theorem dX9_back_71 : decode cX9_back 71 = .ok (.aload_n 3, 1) := by decide +kernel
theorem dX9_back_72 : decode cX9_back 72 = .ok (.iload_n 1, 1) := by decide +kernel
theorem dX9_back_73 : decode cX9_back 73 = .ok (.iload 6, 2) := by decide +kernel
theorem dX9_back_75 : decode cX9_back 75 = .ok (.iconst 2, 1) := by decide +kernel
theorem dX9_back_76 : decode cX9_back 76 = .ok (.invokevirtual 184, 3) := by decide +kernel
theorem dX9_back_79 : decode cX9_back 79 = .ok (.istore 7, 2) := by decide +kernel
theorem dX9_back_81 : decode cX9_back 81 = .ok (.iload 7, 2) := by decide +kernel
theorem dX9_back_83 : decode cX9_back 83 = .ok (.iload 4, 2) := by decide +kernel
theorem dX9_back_85 : decode cX9_back 85 = .ok (.invokestatic 186, 3) := by decide +kernel
theorem dX9_back_88 : decode cX9_back 88 = .ok (.iload 7, 2) := by decide +kernel
theorem dX9_back_90 : decode cX9_back 90 = .ok (.iload 4, 2) := by decide +kernel
theorem dX9_back_92 : decode cX9_back 92 = .ok (.iload_n 2, 1) := by decide +kernel
theorem dX9_back_93 : decode cX9_back 93 = .ok (.iadd, 1) := by decide +kernel
theorem dX9_back_94 : decode cX9_back 94 = .ok (.invokestatic 186, 3) := by decide +kernel
theorem dX9_back_97 : decode cX9_back 97 = .ok (.isub, 1) := by decide +kernel
theorem dX9_back_98 : decode cX9_back 98 = .ok (.istore 8, 2) := by decide +kernel
theorem dX9_back_100 : decode cX9_back 100 = .ok (.aload_n 0, 1) := by decide +kernel
theorem dX9_back_101 : decode cX9_back 101 = .ok (.getfield 10, 3) := by decide +kernel
theorem dX9_back_104 : decode cX9_back 104 = .ok (.aload_n 3, 1) := by decide +kernel
theorem dX9_back_105 : decode cX9_back 105 = .ok (.iload_n 1, 1) := by decide +kernel
theorem dX9_back_106 : decode cX9_back 106 = .ok (.iload 6, 2) := by decide +kernel
theorem dX9_back_108 : decode cX9_back 108 = .ok (.iconst 0, 1) := by decide +kernel
theorem dX9_back_109 : decode cX9_back 109 = .ok (.invokevirtual 184, 3) := by decide +kernel
theorem dX9_back_112 : decode cX9_back 112 = .ok (.iconst 1, 1) := by decide +kernel
theorem dX9_back_113 : decode cX9_back 113 = .ok (.iload 8, 2) := by decide +kernel
theorem dX9_back_115 : decode cX9_back 115 = .ok (.iload_n 1, 1) := by decide +kernel
theorem dX9_back_116 : decode cX9_back 116 = .ok (.invokevirtual 172, 3) := by decide +kernel
theorem dX9_back_119 : decode cX9_back 119 = .ok (.iload 5, 2) := by decide +kernel
theorem dX9_back_121 : decode cX9_back 121 = .ok (.iload 8, 2) := by decide +kernel
theorem dX9_back_123 : decode cX9_back 123 = .ok (.iadd, 1) := by decide +kernel
theorem dX9_back_124 : decode cX9_back 124 = .ok (.istore 5, 2) := by decide +kernel
theorem dX9_back_126 : decode cX9_back 126 = .ok (.iinc 6 1, 3) := by decide +kernel
theorem dX9_back_129 : decode cX9_back 129 = .ok (.goto (-69), 3) := by decide +kernel
theorem dX9_back_132 : decode cX9_back 132 = .ok (.iload 5, 2) := by decide +kernel
theorem dX9_back_134 : decode cX9_back 134 = .ok (.ireturn, 1) := by decide +kernel
theorem dX10_isSale_0 : decode cX10_isSale 0 = .ok (.iload_n 1, 1) := by decide +kernel
theorem dX10_isSale_1 : decode cX10_isSale 1 = .ok (.iconst 0, 1) := by decide +kernel
theorem dX10_isSale_2 : decode cX10_isSale 2 = .ok (.aload_n 0, 1) := by decide +kernel
theorem dX10_isSale_3 : decode cX10_isSale 3 = .ok (.getfield 7, 3) := by decide +kernel
theorem dX10_isSale_6 : decode cX10_isSale 6 = .ok (.sipush 146, 3) := by decide +kernel
theorem dX10_isSale_9 : decode cX10_isSale 9 = .ok (.iaload, 1) := by decide +kernel
theorem dX10_isSale_10 : decode cX10_isSale 10 = .ok (.iconst 1, 1) := by decide +kernel
theorem dX10_isSale_11 : decode cX10_isSale 11 = .ok (.isub, 1) := by decide +kernel
theorem dX10_isSale_12 : decode cX10_isSale 12 = .ok (.invokestatic 59, 3) := by decide +kernel
theorem dX10_isSale_15 : decode cX10_isSale 15 = .ok (.ireturn, 1) := by decide +kernel
theorem dX10_back_0 : decode cX10_back 0 = .ok (.aload_n 0, 1) := by decide +kernel
theorem dX10_back_1 : decode cX10_back 1 = .ok (.iconst 0, 1) := by decide +kernel
theorem dX10_back_2 : decode cX10_back 2 = .ok (.putfield 52, 3) := by decide +kernel
theorem dX10_back_5 : decode cX10_back 5 = .ok (.aload_n 0, 1) := by decide +kernel
theorem dX10_back_6 : decode cX10_back 6 = .ok (.iload_n 1, 1) := by decide +kernel
theorem dX10_back_7 : decode cX10_back 7 = .ok (.invokevirtual 288, 3) := by decide +kernel
theorem dX10_back_10 : decode cX10_back 10 = .ok (.ifCond .eq 26, 3) := by decide +kernel
theorem dX10_back_13 : decode cX10_back 13 = .ok (.iload_n 2, 1) := by decide +kernel
theorem dX10_back_14 : decode cX10_back 14 = .ok (.iconst 1, 1) := by decide +kernel
theorem dX10_back_15 : decode cX10_back 15 = .ok (.bipush 100, 2) := by decide +kernel
theorem dX10_back_17 : decode cX10_back 17 = .ok (.invokestatic 59, 3) := by decide +kernel
theorem dX10_back_20 : decode cX10_back 20 = .ok (.ifCond .eq 16, 3) := by decide +kernel
theorem dX10_back_23 : decode cX10_back 23 = .ok (.aload_n 0, 1) := by decide +kernel
theorem dX10_back_24 : decode cX10_back 24 = .ok (.iload_n 1, 1) := by decide +kernel
theorem dX10_back_25 : decode cX10_back 25 = .ok (.iconst 4, 1) := by decide +kernel
theorem dX10_back_26 : decode cX10_back 26 = .ok (.invokevirtual 162, 3) := by decide +kernel
theorem dX10_back_29 : decode cX10_back 29 = .ok (.iload_n 2, 1) := by decide +kernel
theorem dX10_back_30 : decode cX10_back 30 = .ok (.iadd, 1) := by decide +kernel
theorem dX10_back_31 : decode cX10_back 31 = .ok (.bipush 100, 2) := by decide +kernel
theorem dX10_back_33 : decode cX10_back 33 = .ok (.if_icmp .le 5, 3) := by decide +kernel
theorem dX10_back_36 : decode cX10_back 36 = .ok (.iconst (-1), 1) := by decide +kernel
theorem dX10_back_37 : decode cX10_back 37 = .ok (.ireturn, 1) := by decide +kernel
theorem dX10_back_38 : decode cX10_back 38 = .ok (.iconst 0, 1) := by decide +kernel
theorem dX10_back_39 : decode cX10_back 39 = .ok (.istore_n 3, 1) := by decide +kernel
theorem dX10_back_40 : decode cX10_back 40 = .ok (.aload_n 0, 1) := by decide +kernel
theorem dX10_back_41 : decode cX10_back 41 = .ok (.iload_n 1, 1) := by decide +kernel
theorem dX10_back_42 : decode cX10_back 42 = .ok (.iconst 4, 1) := by decide +kernel
theorem dX10_back_43 : decode cX10_back 43 = .ok (.invokevirtual 162, 3) := by decide +kernel
theorem dX10_back_46 : decode cX10_back 46 = .ok (.iload_n 2, 1) := by decide +kernel
theorem dX10_back_47 : decode cX10_back 47 = .ok (.iadd, 1) := by decide +kernel
theorem dX10_back_48 : decode cX10_back 48 = .ok (.istore 4, 2) := by decide +kernel
theorem dX10_back_50 : decode cX10_back 50 = .ok (.iconst 0, 1) := by decide +kernel
theorem dX10_back_51 : decode cX10_back 51 = .ok (.istore 5, 2) := by decide +kernel
theorem dX10_back_53 : decode cX10_back 53 = .ok (.iload 5, 2) := by decide +kernel
theorem dX10_back_55 : decode cX10_back 55 = .ok (.aload_n 0, 1) := by decide +kernel
theorem dX10_back_56 : decode cX10_back 56 = .ok (.iload_n 1, 1) := by decide +kernel
theorem dX10_back_57 : decode cX10_back 57 = .ok (.iconst 5, 1) := by decide +kernel
theorem dX10_back_58 : decode cX10_back 58 = .ok (.invokevirtual 162, 3) := by decide +kernel
theorem dX10_back_61 : decode cX10_back 61 = .ok (.if_icmp .ge 66, 3) := by decide +kernel
theorem dX10_back_64 : decode cX10_back 64 = .ok (.aload_n 0, 1) := by decide +kernel
theorem dX10_back_65 : decode cX10_back 65 = .ok (.iload_n 1, 1) := by decide +kernel
theorem dX10_back_66 : decode cX10_back 66 = .ok (.iload 5, 2) := by decide +kernel
theorem dX10_back_68 : decode cX10_back 68 = .ok (.iconst 2, 1) := by decide +kernel
theorem dX10_back_69 : decode cX10_back 69 = .ok (.invokevirtual 240, 3) := by decide +kernel
theorem dX10_back_72 : decode cX10_back 72 = .ok (.istore 6, 2) := by decide +kernel
theorem dX10_back_74 : decode cX10_back 74 = .ok (.aload_n 0, 1) := by decide +kernel
theorem dX10_back_75 : decode cX10_back 75 = .ok (.iload_n 1, 1) := by decide +kernel
theorem dX10_back_76 : decode cX10_back 76 = .ok (.iload 5, 2) := by decide +kernel
theorem dX10_back_78 : decode cX10_back 78 = .ok (.invokevirtual 247, 3) := by decide +kernel
theorem dX10_back_81 : decode cX10_back 81 = .ok (.iload 6, 2) := by decide +kernel
theorem dX10_back_83 : decode cX10_back 83 = .ok (.bipush 100, 2) := by decide +kernel
theorem dX10_back_85 : decode cX10_back 85 = .ok (.iload 4, 2) := by decide +kernel
theorem dX10_back_87 : decode cX10_back 87 = .ok (.isub, 1) := by decide +kernel
theorem dX10_back_88 : decode cX10_back 88 = .ok (.imul, 1) := by decide +kernel
theorem dX10_back_89 : decode cX10_back 89 = .ok (.bipush 100, 2) := by decide +kernel
theorem dX10_back_91 : decode cX10_back 91 = .ok (.idiv, 1) := by decide +kernel
theorem dX10_back_92 : decode cX10_back 92 = .ok (.isub, 1) := by decide +kernel
theorem dX10_back_93 : decode cX10_back 93 = .ok (.istore 7, 2) := by decide +kernel
theorem dX10_back_95 : decode cX10_back 95 = .ok (.iload_n 3, 1) := by decide +kernel
theorem dX10_back_96 : decode cX10_back 96 = .ok (.iload 7, 2) := by decide +kernel
theorem dX10_back_98 : decode cX10_back 98 = .ok (.iadd, 1) := by decide +kernel
theorem dX10_back_99 : decode cX10_back 99 = .ok (.istore_n 3, 1) := by decide +kernel
theorem dX10_back_100 : decode cX10_back 100 = .ok (.iload 7, 2) := by decide +kernel
theorem dX10_back_102 : decode cX10_back 102 = .ok (.ifCond .le 19, 3) := by decide +kernel
theorem dX10_back_105 : decode cX10_back 105 = .ok (.aload_n 0, 1) := by decide +kernel
theorem dX10_back_106 : decode cX10_back 106 = .ok (.aload_n 0, 1) := by decide +kernel
theorem dX10_back_107 : decode cX10_back 107 = .ok (.iload_n 1, 1) := by decide +kernel
theorem dX10_back_108 : decode cX10_back 108 = .ok (.iload 5, 2) := by decide +kernel
theorem dX10_back_110 : decode cX10_back 110 = .ok (.iconst 0, 1) := by decide +kernel
theorem dX10_back_111 : decode cX10_back 111 = .ok (.invokevirtual 240, 3) := by decide +kernel
theorem dX10_back_114 : decode cX10_back 114 = .ok (.iconst 1, 1) := by decide +kernel
theorem dX10_back_115 : decode cX10_back 115 = .ok (.iload 7, 2) := by decide +kernel
theorem dX10_back_117 : decode cX10_back 117 = .ok (.iload_n 1, 1) := by decide +kernel
theorem dX10_back_118 : decode cX10_back 118 = .ok (.invokevirtual 275, 3) := by decide +kernel
theorem dX10_back_121 : decode cX10_back 121 = .ok (.iinc 5 1, 3) := by decide +kernel
theorem dX10_back_124 : decode cX10_back 124 = .ok (.goto (-71), 3) := by decide +kernel
theorem dX10_back_127 : decode cX10_back 127 = .ok (.aload_n 0, 1) := by decide +kernel
theorem dX10_back_128 : decode cX10_back 128 = .ok (.getfield 7, 3) := by decide +kernel
theorem dX10_back_131 : decode cX10_back 131 = .ok (.sipush 1087, 3) := by decide +kernel
theorem dX10_back_134 : decode cX10_back 134 = .ok (.bipush 41, 2) := by decide +kernel
theorem dX10_back_136 : decode cX10_back 136 = .ok (.iload_n 1, 1) := by decide +kernel
theorem dX10_back_137 : decode cX10_back 137 = .ok (.imul, 1) := by decide +kernel
theorem dX10_back_138 : decode cX10_back 138 = .ok (.iadd, 1) := by decide +kernel
theorem dX10_back_139 : decode cX10_back 139 = .ok (.iconst 4, 1) := by decide +kernel
theorem dX10_back_140 : decode cX10_back 140 = .ok (.iadd, 1) := by decide +kernel
theorem dX10_back_141 : decode cX10_back 141 = .ok (.iload 4, 2) := by decide +kernel
theorem dX10_back_143 : decode cX10_back 143 = .ok (.iastore, 1) := by decide +kernel
theorem dX10_back_144 : decode cX10_back 144 = .ok (.iload_n 3, 1) := by decide +kernel
theorem dX10_back_145 : decode cX10_back 145 = .ok (.ireturn, 1) := by decide +kernel
theorem dX7_earned_0 : decode cX7_earned 0 = .ok (.iconst 0, 1) := by decide +kernel
theorem dX7_earned_1 : decode cX7_earned 1 = .ok (.istore_n 3, 1) := by decide +kernel
theorem dX7_earned_2 : decode cX7_earned 2 = .ok (.iconst 0, 1) := by decide +kernel
theorem dX7_earned_3 : decode cX7_earned 3 = .ok (.istore 4, 2) := by decide +kernel
theorem dX7_earned_5 : decode cX7_earned 5 = .ok (.iload 4, 2) := by decide +kernel
theorem dX7_earned_7 : decode cX7_earned 7 = .ok (.aload_n 0, 1) := by decide +kernel
theorem dX7_earned_8 : decode cX7_earned 8 = .ok (.getfield 35, 3) := by decide +kernel
theorem dX7_earned_11 : decode cX7_earned 11 = .ok (.getfield 79, 3) := by decide +kernel
theorem dX7_earned_14 : decode cX7_earned 14 = .ok (.if_icmp .ge 43, 3) := by decide +kernel
theorem dX7_earned_17 : decode cX7_earned 17 = .ok (.aload_n 0, 1) := by decide +kernel
theorem dX7_earned_18 : decode cX7_earned 18 = .ok (.getfield 35, 3) := by decide +kernel
theorem dX7_earned_21 : decode cX7_earned 21 = .ok (.iload 4, 2) := by decide +kernel
theorem dX7_earned_23 : decode cX7_earned 23 = .ok (.iload_n 1, 1) := by decide +kernel
theorem dX7_earned_24 : decode cX7_earned 24 = .ok (.invokevirtual 116, 3) := by decide +kernel
theorem dX7_earned_27 : decode cX7_earned 27 = .ok (.istore 5, 2) := by decide +kernel
theorem dX7_earned_29 : decode cX7_earned 29 = .ok (.iload_n 3, 1) := by decide +kernel
theorem dX7_earned_30 : decode cX7_earned 30 = .ok (.iload 5, 2) := by decide +kernel
theorem dX7_earned_32 : decode cX7_earned 32 = .ok (.iconst (-1), 1) := by decide +kernel
theorem dX7_earned_33 : decode cX7_earned 33 = .ok (.if_icmp .ne 7, 3) := by decide +kernel
theorem dX7_earned_36 : decode cX7_earned 36 = .ok (.iconst 0, 1) := by decide +kernel
theorem dX7_earned_37 : decode cX7_earned 37 = .ok (.goto 12, 3) := by decide +kernel
theorem dX7_earned_40 : decode cX7_earned 40 = .ok (.aload_n 0, 1) := by decide +kernel
theorem dX7_earned_41 : decode cX7_earned 41 = .ok (.iload 4, 2) := by decide +kernel
theorem dX7_earned_43 : decode cX7_earned 43 = .ok (.iload 5, 2) := by decide +kernel
theorem dX7_earned_45 : decode cX7_earned 45 = .ok (.iload_n 2, 1) := by decide +kernel
theorem dX7_earned_46 : decode cX7_earned 46 = .ok (.invokevirtual 119, 3) := by decide +kernel
theorem dX7_earned_49 : decode cX7_earned 49 = .ok (.iadd, 1) := by decide +kernel
theorem dX7_earned_50 : decode cX7_earned 50 = .ok (.istore_n 3, 1) := by decide +kernel
theorem dX7_earned_51 : decode cX7_earned 51 = .ok (.iinc 4 1, 3) := by decide +kernel
theorem dX7_earned_54 : decode cX7_earned 54 = .ok (.goto (-49), 3) := by decide +kernel
theorem dX7_earned_57 : decode cX7_earned 57 = .ok (.iload_n 3, 1) := by decide +kernel
theorem dX7_earned_58 : decode cX7_earned 58 = .ok (.ireturn, 1) := by decide +kernel
theorem dX7_balance_0 : decode cX7_balance 0 = .ok (.aload_n 0, 1) := by decide +kernel
theorem dX7_balance_1 : decode cX7_balance 1 = .ok (.iload_n 1, 1) := by decide +kernel
theorem dX7_balance_2 : decode cX7_balance 2 = .ok (.aload_n 0, 1) := by decide +kernel
theorem dX7_balance_3 : decode cX7_balance 3 = .ok (.getfield 57, 3) := by decide +kernel
theorem dX7_balance_6 : decode cX7_balance 6 = .ok (.invokevirtual 122, 3) := by decide +kernel
theorem dX7_balance_9 : decode cX7_balance 9 = .ok (.aload_n 0, 1) := by decide +kernel
theorem dX7_balance_10 : decode cX7_balance 10 = .ok (.getfield 28, 3) := by decide +kernel
theorem dX7_balance_13 : decode cX7_balance 13 = .ok (.getfield 125, 3) := by decide +kernel
theorem dX7_balance_16 : decode cX7_balance 16 = .ok (.iload_n 1, 1) := by decide +kernel
theorem dX7_balance_17 : decode cX7_balance 17 = .ok (.iaload, 1) := by decide +kernel
theorem dX7_balance_18 : decode cX7_balance 18 = .ok (.isub, 1) := by decide +kernel
theorem dX7_balance_19 : decode cX7_balance 19 = .ok (.ireturn, 1) := by decide +kernel
theorem dX9_draw_0 : decode cX9_draw 0 = .ok (.aload_n 0, 1) := by decide +kernel
theorem dX9_draw_1 : decode cX9_draw 1 = .ok (.getfield 10, 3) := by decide +kernel
theorem dX9_draw_4 : decode cX9_draw 4 = .ok (.getfield 93, 3) := by decide +kernel
theorem dX9_draw_7 : decode cX9_draw 7 = .ok (.iload_n 1, 1) := by decide +kernel
theorem dX9_draw_8 : decode cX9_draw 8 = .ok (.invokevirtual 189, 3) := by decide +kernel
theorem dX9_draw_11 : decode cX9_draw 11 = .ok (.ifCond .eq 20, 3) := by decide +kernel
theorem dX9_draw_14 : decode cX9_draw 14 = .ok (.iload_n 2, 1) := by decide +kernel
theorem dX9_draw_15 : decode cX9_draw 15 = .ok (.iconst 1, 1) := by decide +kernel
theorem dX9_draw_16 : decode cX9_draw 16 = .ok (.if_icmp .lt 15, 3) := by decide +kernel
theorem dX9_draw_19 : decode cX9_draw 19 = .ok (.iload_n 2, 1) := by decide +kernel
theorem dX9_draw_20 : decode cX9_draw 20 = .ok (.aload_n 0, 1) := by decide +kernel
theorem dX9_draw_21 : decode cX9_draw 21 = .ok (.getfield 10, 3) := by decide +kernel
theorem dX9_draw_24 : decode cX9_draw 24 = .ok (.iload_n 1, 1) := by decide +kernel
theorem dX9_draw_25 : decode cX9_draw 25 = .ok (.invokevirtual 190, 3) := by decide +kernel
theorem dX9_draw_28 : decode cX9_draw 28 = .ok (.if_icmp .le 5, 3) := by decide +kernel
theorem dX9_draw_31 : decode cX9_draw 31 = .ok (.iconst (-1), 1) := by decide +kernel
theorem dX9_draw_32 : decode cX9_draw 32 = .ok (.ireturn, 1) := by decide +kernel
theorem dX9_draw_33 : decode cX9_draw 33 = .ok (.aload_n 0, 1) := by decide +kernel
theorem dX9_draw_34 : decode cX9_draw 34 = .ok (.getfield 10, 3) := by decide +kernel
theorem dX9_draw_37 : decode cX9_draw 37 = .ok (.getfield 93, 3) := by decide +kernel
theorem dX9_draw_40 : decode cX9_draw 40 = .ok (.getfield 193, 3) := by decide +kernel
theorem dX9_draw_43 : decode cX9_draw 43 = .ok (.iload_n 1, 1) := by decide +kernel
theorem dX9_draw_44 : decode cX9_draw 44 = .ok (.dup2, 1) := by decide +kernel
theorem dX9_draw_45 : decode cX9_draw 45 = .ok (.iaload, 1) := by decide +kernel
theorem dX9_draw_46 : decode cX9_draw 46 = .ok (.iload_n 2, 1) := by decide +kernel
theorem dX9_draw_47 : decode cX9_draw 47 = .ok (.iadd, 1) := by decide +kernel
theorem dX9_draw_48 : decode cX9_draw 48 = .ok (.iastore, 1) := by decide +kernel
theorem dX9_draw_49 : decode cX9_draw 49 = .ok (.aload_n 0, 1) := by decide +kernel
theorem dX9_draw_50 : decode cX9_draw 50 = .ok (.getfield 10, 3) := by decide +kernel
theorem dX9_draw_53 : decode cX9_draw 53 = .ok (.iload_n 1, 1) := by decide +kernel
theorem dX9_draw_54 : decode cX9_draw 54 = .ok (.iconst 2, 1) := by decide +kernel
theorem dX9_draw_55 : decode cX9_draw 55 = .ok (.iload_n 2, 1) := by decide +kernel
theorem dX9_draw_56 : decode cX9_draw 56 = .ok (.iconst (-1), 1) := by decide +kernel
theorem dX9_draw_57 : decode cX9_draw 57 = .ok (.invokevirtual 172, 3) := by decide +kernel
theorem dX9_draw_60 : decode cX9_draw 60 = .ok (.aload_n 0, 1) := by decide +kernel
theorem dX9_draw_61 : decode cX9_draw 61 = .ok (.getfield 10, 3) := by decide +kernel
theorem dX9_draw_64 : decode cX9_draw 64 = .ok (.iload_n 1, 1) := by decide +kernel
theorem dX9_draw_65 : decode cX9_draw 65 = .ok (.invokevirtual 190, 3) := by decide +kernel
theorem dX9_draw_68 : decode cX9_draw 68 = .ok (.ireturn, 1) := by decide +kernel
theorem dX10_earnedAt_0 : decode cX10_earnedAt 0 = .ok (.iconst 0, 1) := by decide +kernel
theorem dX10_earnedAt_1 : decode cX10_earnedAt 1 = .ok (.istore 4, 2) := by decide +kernel
theorem dX10_earnedAt_3 : decode cX10_earnedAt 3 = .ok (.iconst 0, 1) := by decide +kernel
theorem dX10_earnedAt_4 : decode cX10_earnedAt 4 = .ok (.istore 5, 2) := by decide +kernel
theorem dX10_earnedAt_6 : decode cX10_earnedAt 6 = .ok (.iload 5, 2) := by decide +kernel
theorem dX10_earnedAt_8 : decode cX10_earnedAt 8 = .ok (.aload_n 0, 1) := by decide +kernel
theorem dX10_earnedAt_9 : decode cX10_earnedAt 9 = .ok (.getfield 7, 3) := by decide +kernel
theorem dX10_earnedAt_12 : decode cX10_earnedAt 12 = .ok (.sipush 146, 3) := by decide +kernel
theorem dX10_earnedAt_15 : decode cX10_earnedAt 15 = .ok (.iaload, 1) := by decide +kernel
theorem dX10_earnedAt_16 : decode cX10_earnedAt 16 = .ok (.if_icmp .ge 67, 3) := by decide +kernel
theorem dX10_earnedAt_19 : decode cX10_earnedAt 19 = .ok (.iconst 0, 1) := by decide +kernel
theorem dX10_earnedAt_20 : decode cX10_earnedAt 20 = .ok (.istore 6, 2) := by decide +kernel
theorem dX10_earnedAt_22 : decode cX10_earnedAt 22 = .ok (.iload 6, 2) := by decide +kernel
theorem dX10_earnedAt_24 : decode cX10_earnedAt 24 = .ok (.aload_n 0, 1) := by decide +kernel
theorem dX10_earnedAt_25 : decode cX10_earnedAt 25 = .ok (.iload 5, 2) := by decide +kernel
theorem dX10_earnedAt_27 : decode cX10_earnedAt 27 = .ok (.iconst 5, 1) := by decide +kernel
theorem dX10_earnedAt_28 : decode cX10_earnedAt 28 = .ok (.invokevirtual 162, 3) := by decide +kernel
theorem dX10_earnedAt_31 : decode cX10_earnedAt 31 = .ok (.if_icmp .ge 46, 3) := by decide +kernel
theorem dX10_earnedAt_34 : decode cX10_earnedAt 34 = .ok (.iload 4, 2) := by decide +kernel
theorem dX10_earnedAt_36 : decode cX10_earnedAt 36 = .ok (.iload 5, 2) := by decide +kernel
theorem dX10_earnedAt_38 : decode cX10_earnedAt 38 = .ok (.iload_n 3, 1) := by decide +kernel
theorem dX10_earnedAt_39 : decode cX10_earnedAt 39 = .ok (.if_icmp .eq 28, 3) := by decide +kernel
theorem dX10_earnedAt_42 : decode cX10_earnedAt 42 = .ok (.aload_n 0, 1) := by decide +kernel
theorem dX10_earnedAt_43 : decode cX10_earnedAt 43 = .ok (.iload 5, 2) := by decide +kernel
theorem dX10_earnedAt_45 : decode cX10_earnedAt 45 = .ok (.iload 6, 2) := by decide +kernel
theorem dX10_earnedAt_47 : decode cX10_earnedAt 47 = .ok (.iconst 0, 1) := by decide +kernel
theorem dX10_earnedAt_48 : decode cX10_earnedAt 48 = .ok (.invokevirtual 240, 3) := by decide +kernel
theorem dX10_earnedAt_51 : decode cX10_earnedAt 51 = .ok (.iload_n 1, 1) := by decide +kernel
theorem dX10_earnedAt_52 : decode cX10_earnedAt 52 = .ok (.if_icmp .ne 15, 3) := by decide +kernel
theorem dX10_earnedAt_55 : decode cX10_earnedAt 55 = .ok (.aload_n 0, 1) := by decide +kernel
theorem dX10_earnedAt_56 : decode cX10_earnedAt 56 = .ok (.iload 5, 2) := by decide +kernel
theorem dX10_earnedAt_58 : decode cX10_earnedAt 58 = .ok (.iload 6, 2) := by decide +kernel
theorem dX10_earnedAt_60 : decode cX10_earnedAt 60 = .ok (.iload_n 2, 1) := by decide +kernel
theorem dX10_earnedAt_61 : decode cX10_earnedAt 61 = .ok (.invokevirtual 244, 3) := by decide +kernel
theorem dX10_earnedAt_64 : decode cX10_earnedAt 64 = .ok (.goto 4, 3) := by decide +kernel
theorem dX10_earnedAt_67 : decode cX10_earnedAt 67 = .ok (.iconst 0, 1) := by decide +kernel
theorem dX10_earnedAt_68 : decode cX10_earnedAt 68 = .ok (.iadd, 1) := by decide +kernel
theorem dX10_earnedAt_69 : decode cX10_earnedAt 69 = .ok (.istore 4, 2) := by decide +kernel
theorem dX10_earnedAt_71 : decode cX10_earnedAt 71 = .ok (.iinc 6 1, 3) := by decide +kernel
theorem dX10_earnedAt_74 : decode cX10_earnedAt 74 = .ok (.goto (-52), 3) := by decide +kernel
theorem dX10_earnedAt_77 : decode cX10_earnedAt 77 = .ok (.iinc 5 1, 3) := by decide +kernel
theorem dX10_earnedAt_80 : decode cX10_earnedAt 80 = .ok (.goto (-74), 3) := by decide +kernel
theorem dX10_earnedAt_83 : decode cX10_earnedAt 83 = .ok (.iload 4, 2) := by decide +kernel
theorem dX10_earnedAt_85 : decode cX10_earnedAt 85 = .ok (.ireturn, 1) := by decide +kernel
theorem dX10_balanceOf_0 : decode cX10_balanceOf 0 = .ok (.aload_n 0, 1) := by decide +kernel
theorem dX10_balanceOf_1 : decode cX10_balanceOf 1 = .ok (.iload_n 1, 1) := by decide +kernel
theorem dX10_balanceOf_2 : decode cX10_balanceOf 2 = .ok (.aload_n 0, 1) := by decide +kernel
theorem dX10_balanceOf_3 : decode cX10_balanceOf 3 = .ok (.invokevirtual 218, 3) := by decide +kernel
theorem dX10_balanceOf_6 : decode cX10_balanceOf 6 = .ok (.iconst (-1), 1) := by decide +kernel
theorem dX10_balanceOf_7 : decode cX10_balanceOf 7 = .ok (.invokevirtual 250, 3) := by decide +kernel
theorem dX10_balanceOf_10 : decode cX10_balanceOf 10 = .ok (.aload_n 0, 1) := by decide +kernel
theorem dX10_balanceOf_11 : decode cX10_balanceOf 11 = .ok (.iload_n 1, 1) := by decide +kernel
theorem dX10_balanceOf_12 : decode cX10_balanceOf 12 = .ok (.iconst 3, 1) := by decide +kernel
theorem dX10_balanceOf_13 : decode cX10_balanceOf 13 = .ok (.invokevirtual 159, 3) := by decide +kernel
theorem dX10_balanceOf_16 : decode cX10_balanceOf 16 = .ok (.isub, 1) := by decide +kernel
theorem dX10_balanceOf_17 : decode cX10_balanceOf 17 = .ok (.ireturn, 1) := by decide +kernel
theorem dX10_draw_0 : decode cX10_draw 0 = .ok (.aload_n 0, 1) := by decide +kernel
theorem dX10_draw_1 : decode cX10_draw 1 = .ok (.iconst 0, 1) := by decide +kernel
theorem dX10_draw_2 : decode cX10_draw 2 = .ok (.putfield 52, 3) := by decide +kernel
theorem dX10_draw_5 : decode cX10_draw 5 = .ok (.aload_n 0, 1) := by decide +kernel
theorem dX10_draw_6 : decode cX10_draw 6 = .ok (.iload_n 1, 1) := by decide +kernel
theorem dX10_draw_7 : decode cX10_draw 7 = .ok (.invokevirtual 253, 3) := by decide +kernel
theorem dX10_draw_10 : decode cX10_draw 10 = .ok (.ifCond .eq 17, 3) := by decide +kernel
theorem dX10_draw_13 : decode cX10_draw 13 = .ok (.iload_n 2, 1) := by decide +kernel
theorem dX10_draw_14 : decode cX10_draw 14 = .ok (.iconst 1, 1) := by decide +kernel
theorem dX10_draw_15 : decode cX10_draw 15 = .ok (.if_icmp .lt 12, 3) := by decide +kernel
theorem dX10_draw_18 : decode cX10_draw 18 = .ok (.iload_n 2, 1) := by decide +kernel
theorem dX10_draw_19 : decode cX10_draw 19 = .ok (.aload_n 0, 1) := by decide +kernel
theorem dX10_draw_20 : decode cX10_draw 20 = .ok (.iload_n 1, 1) := by decide +kernel
theorem dX10_draw_21 : decode cX10_draw 21 = .ok (.invokevirtual 291, 3) := by decide +kernel
theorem dX10_draw_24 : decode cX10_draw 24 = .ok (.if_icmp .le 5, 3) := by decide +kernel
theorem dX10_draw_27 : decode cX10_draw 27 = .ok (.iconst (-1), 1) := by decide +kernel
theorem dX10_draw_28 : decode cX10_draw 28 = .ok (.ireturn, 1) := by decide +kernel
theorem dX10_draw_29 : decode cX10_draw 29 = .ok (.aload_n 0, 1) := by decide +kernel
theorem dX10_draw_30 : decode cX10_draw 30 = .ok (.iload_n 1, 1) := by decide +kernel
theorem dX10_draw_31 : decode cX10_draw 31 = .ok (.iconst 3, 1) := by decide +kernel
theorem dX10_draw_32 : decode cX10_draw 32 = .ok (.aload_n 0, 1) := by decide +kernel
theorem dX10_draw_33 : decode cX10_draw 33 = .ok (.iload_n 1, 1) := by decide +kernel
theorem dX10_draw_34 : decode cX10_draw 34 = .ok (.iconst 3, 1) := by decide +kernel
theorem dX10_draw_35 : decode cX10_draw 35 = .ok (.invokevirtual 159, 3) := by decide +kernel
theorem dX10_draw_38 : decode cX10_draw 38 = .ok (.iload_n 2, 1) := by decide +kernel
theorem dX10_draw_39 : decode cX10_draw 39 = .ok (.iadd, 1) := by decide +kernel
theorem dX10_draw_40 : decode cX10_draw 40 = .ok (.invokevirtual 268, 3) := by decide +kernel
theorem dX10_draw_43 : decode cX10_draw 43 = .ok (.aload_n 0, 1) := by decide +kernel
theorem dX10_draw_44 : decode cX10_draw 44 = .ok (.iload_n 1, 1) := by decide +kernel
theorem dX10_draw_45 : decode cX10_draw 45 = .ok (.iconst 2, 1) := by decide +kernel
theorem dX10_draw_46 : decode cX10_draw 46 = .ok (.iload_n 2, 1) := by decide +kernel
theorem dX10_draw_47 : decode cX10_draw 47 = .ok (.iconst (-1), 1) := by decide +kernel
theorem dX10_draw_48 : decode cX10_draw 48 = .ok (.invokevirtual 275, 3) := by decide +kernel
theorem dX10_draw_51 : decode cX10_draw 51 = .ok (.aload_n 0, 1) := by decide +kernel
theorem dX10_draw_52 : decode cX10_draw 52 = .ok (.iload_n 1, 1) := by decide +kernel
theorem dX10_draw_53 : decode cX10_draw 53 = .ok (.invokevirtual 291, 3) := by decide +kernel
theorem dX10_draw_56 : decode cX10_draw 56 = .ok (.ireturn, 1) := by decide +kernel
theorem dX9_rule_0 : decode cX9_rule 0 = .ok (.aload_n 0, 1) := by decide +kernel
theorem dX9_rule_1 : decode cX9_rule 1 = .ok (.getfield 10, 3) := by decide +kernel
theorem dX9_rule_4 : decode cX9_rule 4 = .ok (.getfield 74, 3) := by decide +kernel
theorem dX9_rule_7 : decode cX9_rule 7 = .ok (.astore_n 2, 1) := by decide +kernel
theorem dX9_rule_8 : decode cX9_rule 8 = .ok (.iload_n 1, 1) := by decide +kernel
theorem dX9_rule_9 : decode cX9_rule 9 = .ok (.tableswitch 51 0 3 #[31, 36, 41, 46], 31) := by decide +kernel
theorem dX9_rule_40 : decode cX9_rule 40 = .ok (.aload_n 2, 1) := by decide +kernel
theorem dX9_rule_41 : decode cX9_rule 41 = .ok (.getfield 196, 3) := by decide +kernel
theorem dX9_rule_44 : decode cX9_rule 44 = .ok (.ireturn, 1) := by decide +kernel
theorem dX9_rule_45 : decode cX9_rule 45 = .ok (.aload_n 2, 1) := by decide +kernel
theorem dX9_rule_46 : decode cX9_rule 46 = .ok (.getfield 199, 3) := by decide +kernel
theorem dX9_rule_49 : decode cX9_rule 49 = .ok (.ireturn, 1) := by decide +kernel
theorem dX9_rule_50 : decode cX9_rule 50 = .ok (.aload_n 2, 1) := by decide +kernel
theorem dX9_rule_51 : decode cX9_rule 51 = .ok (.getfield 202, 3) := by decide +kernel
theorem dX9_rule_54 : decode cX9_rule 54 = .ok (.ireturn, 1) := by decide +kernel
theorem dX9_rule_55 : decode cX9_rule 55 = .ok (.aload_n 2, 1) := by decide +kernel
theorem dX9_rule_56 : decode cX9_rule 56 = .ok (.getfield 205, 3) := by decide +kernel
theorem dX9_rule_59 : decode cX9_rule 59 = .ok (.ireturn, 1) := by decide +kernel
theorem dX9_rule_60 : decode cX9_rule 60 = .ok (.iload_n 1, 1) := by decide +kernel
theorem dX9_rule_61 : decode cX9_rule 61 = .ok (.bipush 10, 2) := by decide +kernel
theorem dX9_rule_63 : decode cX9_rule 63 = .ok (.if_icmp .lt 19, 3) := by decide +kernel
theorem dX9_rule_66 : decode cX9_rule 66 = .ok (.iload_n 1, 1) := by decide +kernel
theorem dX9_rule_67 : decode cX9_rule 67 = .ok (.bipush 13, 2) := by decide +kernel
theorem dX9_rule_69 : decode cX9_rule 69 = .ok (.if_icmp .gt 13, 3) := by decide +kernel
theorem dX9_rule_72 : decode cX9_rule 72 = .ok (.aload_n 2, 1) := by decide +kernel
theorem dX9_rule_73 : decode cX9_rule 73 = .ok (.getfield 208, 3) := by decide +kernel
theorem dX9_rule_76 : decode cX9_rule 76 = .ok (.iload_n 1, 1) := by decide +kernel
theorem dX9_rule_77 : decode cX9_rule 77 = .ok (.bipush 10, 2) := by decide +kernel
theorem dX9_rule_79 : decode cX9_rule 79 = .ok (.isub, 1) := by decide +kernel
theorem dX9_rule_80 : decode cX9_rule 80 = .ok (.iaload, 1) := by decide +kernel
theorem dX9_rule_81 : decode cX9_rule 81 = .ok (.ireturn, 1) := by decide +kernel
theorem dX9_rule_82 : decode cX9_rule 82 = .ok (.iload_n 1, 1) := by decide +kernel
theorem dX9_rule_83 : decode cX9_rule 83 = .ok (.bipush 20, 2) := by decide +kernel
theorem dX9_rule_85 : decode cX9_rule 85 = .ok (.if_icmp .lt 19, 3) := by decide +kernel
theorem dX9_rule_88 : decode cX9_rule 88 = .ok (.iload_n 1, 1) := by decide +kernel
theorem dX9_rule_89 : decode cX9_rule 89 = .ok (.bipush 23, 2) := by decide +kernel
theorem dX9_rule_91 : decode cX9_rule 91 = .ok (.if_icmp .gt 13, 3) := by decide +kernel
theorem dX9_rule_94 : decode cX9_rule 94 = .ok (.aload_n 2, 1) := by decide +kernel
theorem dX9_rule_95 : decode cX9_rule 95 = .ok (.getfield 211, 3) := by decide +kernel
theorem dX9_rule_98 : decode cX9_rule 98 = .ok (.iload_n 1, 1) := by decide +kernel
theorem dX9_rule_99 : decode cX9_rule 99 = .ok (.bipush 20, 2) := by decide +kernel
theorem dX9_rule_101 : decode cX9_rule 101 = .ok (.isub, 1) := by decide +kernel
theorem dX9_rule_102 : decode cX9_rule 102 = .ok (.iaload, 1) := by decide +kernel
theorem dX9_rule_103 : decode cX9_rule 103 = .ok (.ireturn, 1) := by decide +kernel
theorem dX9_rule_104 : decode cX9_rule 104 = .ok (.iload_n 1, 1) := by decide +kernel
theorem dX9_rule_105 : decode cX9_rule 105 = .ok (.bipush 30, 2) := by decide +kernel
theorem dX9_rule_107 : decode cX9_rule 107 = .ok (.if_icmp .lt 19, 3) := by decide +kernel
theorem dX9_rule_110 : decode cX9_rule 110 = .ok (.iload_n 1, 1) := by decide +kernel
theorem dX9_rule_111 : decode cX9_rule 111 = .ok (.bipush 33, 2) := by decide +kernel
theorem dX9_rule_113 : decode cX9_rule 113 = .ok (.if_icmp .gt 13, 3) := by decide +kernel
theorem dX9_rule_116 : decode cX9_rule 116 = .ok (.aload_n 2, 1) := by decide +kernel
theorem dX9_rule_117 : decode cX9_rule 117 = .ok (.getfield 214, 3) := by decide +kernel
theorem dX9_rule_120 : decode cX9_rule 120 = .ok (.iload_n 1, 1) := by decide +kernel
theorem dX9_rule_121 : decode cX9_rule 121 = .ok (.bipush 30, 2) := by decide +kernel
theorem dX9_rule_123 : decode cX9_rule 123 = .ok (.isub, 1) := by decide +kernel
theorem dX9_rule_124 : decode cX9_rule 124 = .ok (.iaload, 1) := by decide +kernel
theorem dX9_rule_125 : decode cX9_rule 125 = .ok (.ireturn, 1) := by decide +kernel
theorem dX9_rule_126 : decode cX9_rule 126 = .ok (.iload_n 1, 1) := by decide +kernel
theorem dX9_rule_127 : decode cX9_rule 127 = .ok (.bipush 40, 2) := by decide +kernel
theorem dX9_rule_129 : decode cX9_rule 129 = .ok (.if_icmp .le 21, 3) := by decide +kernel
theorem dX9_rule_132 : decode cX9_rule 132 = .ok (.iload_n 1, 1) := by decide +kernel
theorem dX9_rule_133 : decode cX9_rule 133 = .ok (.bipush 45, 2) := by decide +kernel
theorem dX9_rule_135 : decode cX9_rule 135 = .ok (.if_icmp .gt 15, 3) := by decide +kernel
theorem dX9_rule_138 : decode cX9_rule 138 = .ok (.aload_n 2, 1) := by decide +kernel
theorem dX9_rule_139 : decode cX9_rule 139 = .ok (.getfield 217, 3) := by decide +kernel
theorem dX9_rule_142 : decode cX9_rule 142 = .ok (.iload_n 1, 1) := by decide +kernel
theorem dX9_rule_143 : decode cX9_rule 143 = .ok (.bipush 40, 2) := by decide +kernel
theorem dX9_rule_145 : decode cX9_rule 145 = .ok (.isub, 1) := by decide +kernel
theorem dX9_rule_146 : decode cX9_rule 146 = .ok (.iaload, 1) := by decide +kernel
theorem dX9_rule_147 : decode cX9_rule 147 = .ok (.goto 5, 3) := by decide +kernel
theorem dX9_rule_150 : decode cX9_rule 150 = .ok (.bipush (-2), 2) := by decide +kernel
theorem dX9_rule_152 : decode cX9_rule 152 = .ok (.ireturn, 1) := by decide +kernel
theorem dX10_rule_0 : decode cX10_rule 0 = .ok (.aload_n 0, 1) := by decide +kernel
theorem dX10_rule_1 : decode cX10_rule 1 = .ok (.iconst 0, 1) := by decide +kernel
theorem dX10_rule_2 : decode cX10_rule 2 = .ok (.putfield 52, 3) := by decide +kernel
theorem dX10_rule_5 : decode cX10_rule 5 = .ok (.iload_n 1, 1) := by decide +kernel
theorem dX10_rule_6 : decode cX10_rule 6 = .ok (.iconst 0, 1) := by decide +kernel
theorem dX10_rule_7 : decode cX10_rule 7 = .ok (.iconst 3, 1) := by decide +kernel
theorem dX10_rule_8 : decode cX10_rule 8 = .ok (.invokestatic 59, 3) := by decide +kernel
theorem dX10_rule_11 : decode cX10_rule 11 = .ok (.ifCond .eq 12, 3) := by decide +kernel
theorem dX10_rule_14 : decode cX10_rule 14 = .ok (.aload_n 0, 1) := by decide +kernel
theorem dX10_rule_15 : decode cX10_rule 15 = .ok (.getfield 7, 3) := by decide +kernel
theorem dX10_rule_18 : decode cX10_rule 18 = .ok (.iconst 3, 1) := by decide +kernel
theorem dX10_rule_19 : decode cX10_rule 19 = .ok (.iload_n 1, 1) := by decide +kernel
theorem dX10_rule_20 : decode cX10_rule 20 = .ok (.iadd, 1) := by decide +kernel
theorem dX10_rule_21 : decode cX10_rule 21 = .ok (.iaload, 1) := by decide +kernel
theorem dX10_rule_22 : decode cX10_rule 22 = .ok (.ireturn, 1) := by decide +kernel
theorem dX10_rule_23 : decode cX10_rule 23 = .ok (.iload_n 1, 1) := by decide +kernel
theorem dX10_rule_24 : decode cX10_rule 24 = .ok (.bipush 10, 2) := by decide +kernel
theorem dX10_rule_26 : decode cX10_rule 26 = .ok (.irem, 1) := by decide +kernel
theorem dX10_rule_27 : decode cX10_rule 27 = .ok (.istore_n 2, 1) := by decide +kernel
theorem dX10_rule_28 : decode cX10_rule 28 = .ok (.iload_n 1, 1) := by decide +kernel
theorem dX10_rule_29 : decode cX10_rule 29 = .ok (.bipush 10, 2) := by decide +kernel
theorem dX10_rule_31 : decode cX10_rule 31 = .ok (.bipush 39, 2) := by decide +kernel
theorem dX10_rule_33 : decode cX10_rule 33 = .ok (.invokestatic 59, 3) := by decide +kernel
theorem dX10_rule_36 : decode cX10_rule 36 = .ok (.ifCond .eq 40, 3) := by decide +kernel
theorem dX10_rule_39 : decode cX10_rule 39 = .ok (.iload_n 2, 1) := by decide +kernel
theorem dX10_rule_40 : decode cX10_rule 40 = .ok (.iconst 3, 1) := by decide +kernel
theorem dX10_rule_41 : decode cX10_rule 41 = .ok (.if_icmp .gt 35, 3) := by decide +kernel
theorem dX10_rule_44 : decode cX10_rule 44 = .ok (.aload_n 0, 1) := by decide +kernel
theorem dX10_rule_45 : decode cX10_rule 45 = .ok (.getfield 7, 3) := by decide +kernel
theorem dX10_rule_48 : decode cX10_rule 48 = .ok (.iload_n 1, 1) := by decide +kernel
theorem dX10_rule_49 : decode cX10_rule 49 = .ok (.bipush 20, 2) := by decide +kernel
theorem dX10_rule_51 : decode cX10_rule 51 = .ok (.if_icmp .ge 8, 3) := by decide +kernel
theorem dX10_rule_54 : decode cX10_rule 54 = .ok (.bipush 7, 2) := by decide +kernel
theorem dX10_rule_56 : decode cX10_rule 56 = .ok (.goto 16, 3) := by decide +kernel
theorem dX10_rule_59 : decode cX10_rule 59 = .ok (.iload_n 1, 1) := by decide +kernel
theorem dX10_rule_60 : decode cX10_rule 60 = .ok (.bipush 30, 2) := by decide +kernel
theorem dX10_rule_62 : decode cX10_rule 62 = .ok (.if_icmp .ge 8, 3) := by decide +kernel
theorem dX10_rule_65 : decode cX10_rule 65 = .ok (.bipush 11, 2) := by decide +kernel
theorem dX10_rule_67 : decode cX10_rule 67 = .ok (.goto 5, 3) := by decide +kernel
theorem dX10_rule_70 : decode cX10_rule 70 = .ok (.bipush 15, 2) := by decide +kernel
theorem dX10_rule_72 : decode cX10_rule 72 = .ok (.iload_n 2, 1) := by decide +kernel
theorem dX10_rule_73 : decode cX10_rule 73 = .ok (.iadd, 1) := by decide +kernel
theorem dX10_rule_74 : decode cX10_rule 74 = .ok (.iaload, 1) := by decide +kernel
theorem dX10_rule_75 : decode cX10_rule 75 = .ok (.ireturn, 1) := by decide +kernel
theorem dX10_rule_76 : decode cX10_rule 76 = .ok (.iload_n 1, 1) := by decide +kernel
theorem dX10_rule_77 : decode cX10_rule 77 = .ok (.bipush 41, 2) := by decide +kernel
theorem dX10_rule_79 : decode cX10_rule 79 = .ok (.bipush 45, 2) := by decide +kernel
theorem dX10_rule_81 : decode cX10_rule 81 = .ok (.invokestatic 59, 3) := by decide +kernel
theorem dX10_rule_84 : decode cX10_rule 84 = .ok (.ifCond .eq 21, 3) := by decide +kernel
theorem dX10_rule_87 : decode cX10_rule 87 = .ok (.aload_n 0, 1) := by decide +kernel
theorem dX10_rule_88 : decode cX10_rule 88 = .ok (.getfield 7, 3) := by decide +kernel
theorem dX10_rule_91 : decode cX10_rule 91 = .ok (.bipush 19, 2) := by decide +kernel
theorem dX10_rule_93 : decode cX10_rule 93 = .ok (.bipush 25, 2) := by decide +kernel
theorem dX10_rule_95 : decode cX10_rule 95 = .ok (.iload_n 1, 1) := by decide +kernel
theorem dX10_rule_96 : decode cX10_rule 96 = .ok (.bipush 41, 2) := by decide +kernel
theorem dX10_rule_98 : decode cX10_rule 98 = .ok (.isub, 1) := by decide +kernel
theorem dX10_rule_99 : decode cX10_rule 99 = .ok (.imul, 1) := by decide +kernel
theorem dX10_rule_100 : decode cX10_rule 100 = .ok (.iadd, 1) := by decide +kernel
theorem dX10_rule_101 : decode cX10_rule 101 = .ok (.iaload, 1) := by decide +kernel
theorem dX10_rule_102 : decode cX10_rule 102 = .ok (.goto 5, 3) := by decide +kernel
theorem dX10_rule_105 : decode cX10_rule 105 = .ok (.bipush (-2), 2) := by decide +kernel
theorem dX10_rule_107 : decode cX10_rule 107 = .ok (.ireturn, 1) := by decide +kernel
theorem dX9_greatestRank_0 : decode cX9_greatestRank 0 = .ok (.iconst (-1), 1) := by decide +kernel
theorem dX9_greatestRank_1 : decode cX9_greatestRank 1 = .ok (.istore_n 3, 1) := by decide +kernel
theorem dX9_greatestRank_2 : decode cX9_greatestRank 2 = .ok (.iconst (-1), 1) := by decide +kernel
theorem dX9_greatestRank_3 : decode cX9_greatestRank 3 = .ok (.istore 4, 2) := by decide +kernel
theorem dX9_greatestRank_5 : decode cX9_greatestRank 5 = .ok (.aload_n 0, 1) := by decide +kernel
theorem dX9_greatestRank_6 : decode cX9_greatestRank 6 = .ok (.getfield 10, 3) := by decide +kernel
theorem dX9_greatestRank_9 : decode cX9_greatestRank 9 = .ok (.getfield 93, 3) := by decide +kernel
theorem dX9_greatestRank_12 : decode cX9_greatestRank 12 = .ok (.getfield 147, 3) := by decide +kernel
theorem dX9_greatestRank_15 : decode cX9_greatestRank 15 = .ok (.iload_n 1, 1) := by decide +kernel
theorem dX9_greatestRank_16 : decode cX9_greatestRank 16 = .ok (.iaload, 1) := by decide +kernel
theorem dX9_greatestRank_17 : decode cX9_greatestRank 17 = .ok (.istore 5, 2) := by decide +kernel
theorem dX9_greatestRank_19 : decode cX9_greatestRank 19 = .ok (.iload 5, 2) := by decide +kernel
theorem dX9_greatestRank_21 : decode cX9_greatestRank 21 = .ok (.aload_n 0, 1) := by decide +kernel
theorem dX9_greatestRank_22 : decode cX9_greatestRank 22 = .ok (.getfield 10, 3) := by decide +kernel
theorem dX9_greatestRank_25 : decode cX9_greatestRank 25 = .ok (.getfield 90, 3) := by decide +kernel
theorem dX9_greatestRank_28 : decode cX9_greatestRank 28 = .ok (.if_icmp .gt 54, 3) := by decide +kernel
theorem dX9_greatestRank_31 : decode cX9_greatestRank 31 = .ok (.iload_n 3, 1) := by decide +kernel
theorem dX9_greatestRank_32 : decode cX9_greatestRank 32 = .ok (.iconst 3, 1) := by decide +kernel
theorem dX9_greatestRank_33 : decode cX9_greatestRank 33 = .ok (.if_icmp .ge 49, 3) := by decide +kernel
theorem dX9_greatestRank_36 : decode cX9_greatestRank 36 = .ok (.aload_n 0, 1) := by decide +kernel
theorem dX9_greatestRank_37 : decode cX9_greatestRank 37 = .ok (.getfield 30, 3) := by decide +kernel
theorem dX9_greatestRank_40 : decode cX9_greatestRank 40 = .ok (.aload_n 0, 1) := by decide +kernel
theorem dX9_greatestRank_41 : decode cX9_greatestRank 41 = .ok (.getfield 10, 3) := by decide +kernel
theorem dX9_greatestRank_44 : decode cX9_greatestRank 44 = .ok (.iload 5, 2) := by decide +kernel
theorem dX9_greatestRank_46 : decode cX9_greatestRank 46 = .ok (.invokevirtual 154, 3) := by decide +kernel
theorem dX9_greatestRank_49 : decode cX9_greatestRank 49 = .ok (.aload_n 0, 1) := by decide +kernel
theorem dX9_greatestRank_50 : decode cX9_greatestRank 50 = .ok (.getfield 30, 3) := by decide +kernel
theorem dX9_greatestRank_53 : decode cX9_greatestRank 53 = .ok (.getfield 270, 3) := by decide +kernel
theorem dX9_greatestRank_56 : decode cX9_greatestRank 56 = .ok (.iload_n 1, 1) := by decide +kernel
theorem dX9_greatestRank_57 : decode cX9_greatestRank 57 = .ok (.iaload, 1) := by decide +kernel
theorem dX9_greatestRank_58 : decode cX9_greatestRank 58 = .ok (.iload_n 3, 1) := by decide +kernel
theorem dX9_greatestRank_59 : decode cX9_greatestRank 59 = .ok (.if_icmp .le 17, 3) := by decide +kernel
theorem dX9_greatestRank_62 : decode cX9_greatestRank 62 = .ok (.aload_n 0, 1) := by decide +kernel
theorem dX9_greatestRank_63 : decode cX9_greatestRank 63 = .ok (.getfield 30, 3) := by decide +kernel
theorem dX9_greatestRank_66 : decode cX9_greatestRank 66 = .ok (.getfield 270, 3) := by decide +kernel
theorem dX9_greatestRank_69 : decode cX9_greatestRank 69 = .ok (.iload_n 1, 1) := by decide +kernel
theorem dX9_greatestRank_70 : decode cX9_greatestRank 70 = .ok (.iaload, 1) := by decide +kernel
theorem dX9_greatestRank_71 : decode cX9_greatestRank 71 = .ok (.istore_n 3, 1) := by decide +kernel
theorem dX9_greatestRank_72 : decode cX9_greatestRank 72 = .ok (.iload 5, 2) := by decide +kernel
theorem dX9_greatestRank_74 : decode cX9_greatestRank 74 = .ok (.istore 4, 2) := by decide +kernel
theorem dX9_greatestRank_76 : decode cX9_greatestRank 76 = .ok (.iinc 5 1, 3) := by decide +kernel
theorem dX9_greatestRank_79 : decode cX9_greatestRank 79 = .ok (.goto (-60), 3) := by decide +kernel
theorem dX9_greatestRank_82 : decode cX9_greatestRank 82 = .ok (.iload_n 2, 1) := by decide +kernel
theorem dX9_greatestRank_83 : decode cX9_greatestRank 83 = .ok (.ifCond .eq 8, 3) := by decide +kernel
theorem dX9_greatestRank_86 : decode cX9_greatestRank 86 = .ok (.iload 4, 2) := by decide +kernel
theorem dX9_greatestRank_88 : decode cX9_greatestRank 88 = .ok (.goto 4, 3) := by decide +kernel
theorem dX9_greatestRank_91 : decode cX9_greatestRank 91 = .ok (.iload_n 3, 1) := by decide +kernel
theorem dX9_greatestRank_92 : decode cX9_greatestRank 92 = .ok (.ireturn, 1) := by decide +kernel
theorem dX5_countOf_0 : decode cX5_countOf 0 = .ok (.iconst 0, 1) := by decide +kernel
theorem dX5_countOf_1 : decode cX5_countOf 1 = .ok (.istore_n 2, 1) := by decide +kernel
theorem dX5_countOf_2 : decode cX5_countOf 2 = .ok (.iconst 0, 1) := by decide +kernel
theorem dX5_countOf_3 : decode cX5_countOf 3 = .ok (.istore_n 3, 1) := by decide +kernel
theorem dX5_countOf_4 : decode cX5_countOf 4 = .ok (.iload_n 3, 1) := by decide +kernel
theorem dX5_countOf_5 : decode cX5_countOf 5 = .ok (.aload_n 0, 1) := by decide +kernel
theorem dX5_countOf_6 : decode cX5_countOf 6 = .ok (.getfield 9, 3) := by decide +kernel
theorem dX5_countOf_9 : decode cX5_countOf 9 = .ok (.if_icmp .ge 27, 3) := by decide +kernel
theorem dX5_countOf_12 : decode cX5_countOf 12 = .ok (.iload_n 2, 1) := by decide +kernel
theorem dX5_countOf_13 : decode cX5_countOf 13 = .ok (.aload_n 0, 1) := by decide +kernel
theorem dX5_countOf_14 : decode cX5_countOf 14 = .ok (.getfield 15, 3) := by decide +kernel
theorem dX5_countOf_17 : decode cX5_countOf 17 = .ok (.iload_n 3, 1) := by decide +kernel
theorem dX5_countOf_18 : decode cX5_countOf 18 = .ok (.iaload, 1) := by decide +kernel
theorem dX5_countOf_19 : decode cX5_countOf 19 = .ok (.iload_n 1, 1) := by decide +kernel
theorem dX5_countOf_20 : decode cX5_countOf 20 = .ok (.if_icmp .ne 7, 3) := by decide +kernel
theorem dX5_countOf_23 : decode cX5_countOf 23 = .ok (.iconst 1, 1) := by decide +kernel
theorem dX5_countOf_24 : decode cX5_countOf 24 = .ok (.goto 4, 3) := by decide +kernel
theorem dX5_countOf_27 : decode cX5_countOf 27 = .ok (.iconst 0, 1) := by decide +kernel
theorem dX5_countOf_28 : decode cX5_countOf 28 = .ok (.iadd, 1) := by decide +kernel
theorem dX5_countOf_29 : decode cX5_countOf 29 = .ok (.istore_n 2, 1) := by decide +kernel
theorem dX5_countOf_30 : decode cX5_countOf 30 = .ok (.iinc 3 1, 3) := by decide +kernel
theorem dX5_countOf_33 : decode cX5_countOf 33 = .ok (.goto (-29), 3) := by decide +kernel
theorem dX5_countOf_36 : decode cX5_countOf 36 = .ok (.iload_n 2, 1) := by decide +kernel
theorem dX5_countOf_37 : decode cX5_countOf 37 = .ok (.ireturn, 1) := by decide +kernel
theorem dX7_vestedOfSale_0 : decode cX7_vestedOfSale 0 = .ok (.iconst 0, 1) := by decide +kernel
theorem dX7_vestedOfSale_1 : decode cX7_vestedOfSale 1 = .ok (.istore_n 2, 1) := by decide +kernel
theorem dX7_vestedOfSale_2 : decode cX7_vestedOfSale 2 = .ok (.iconst 1, 1) := by decide +kernel
theorem dX7_vestedOfSale_3 : decode cX7_vestedOfSale 3 = .ok (.istore_n 3, 1) := by decide +kernel
theorem dX7_vestedOfSale_4 : decode cX7_vestedOfSale 4 = .ok (.iload_n 3, 1) := by decide +kernel
theorem dX7_vestedOfSale_5 : decode cX7_vestedOfSale 5 = .ok (.aload_n 0, 1) := by decide +kernel
theorem dX7_vestedOfSale_6 : decode cX7_vestedOfSale 6 = .ok (.getfield 35, 3) := by decide +kernel
theorem dX7_vestedOfSale_9 : decode cX7_vestedOfSale 9 = .ok (.getfield 143, 3) := by decide +kernel
theorem dX7_vestedOfSale_12 : decode cX7_vestedOfSale 12 = .ok (.iload_n 1, 1) := by decide +kernel
theorem dX7_vestedOfSale_13 : decode cX7_vestedOfSale 13 = .ok (.iaload, 1) := by decide +kernel
theorem dX7_vestedOfSale_14 : decode cX7_vestedOfSale 14 = .ok (.if_icmp .gt 22, 3) := by decide +kernel
theorem dX7_vestedOfSale_17 : decode cX7_vestedOfSale 17 = .ok (.iload_n 2, 1) := by decide +kernel
theorem dX7_vestedOfSale_18 : decode cX7_vestedOfSale 18 = .ok (.aload_n 0, 1) := by decide +kernel
theorem dX7_vestedOfSale_19 : decode cX7_vestedOfSale 19 = .ok (.iload_n 1, 1) := by decide +kernel
theorem dX7_vestedOfSale_20 : decode cX7_vestedOfSale 20 = .ok (.iload_n 3, 1) := by decide +kernel
theorem dX7_vestedOfSale_21 : decode cX7_vestedOfSale 21 = .ok (.aload_n 0, 1) := by decide +kernel
theorem dX7_vestedOfSale_22 : decode cX7_vestedOfSale 22 = .ok (.getfield 57, 3) := by decide +kernel
theorem dX7_vestedOfSale_25 : decode cX7_vestedOfSale 25 = .ok (.invokevirtual 119, 3) := by decide +kernel
theorem dX7_vestedOfSale_28 : decode cX7_vestedOfSale 28 = .ok (.iadd, 1) := by decide +kernel
theorem dX7_vestedOfSale_29 : decode cX7_vestedOfSale 29 = .ok (.istore_n 2, 1) := by decide +kernel
theorem dX7_vestedOfSale_30 : decode cX7_vestedOfSale 30 = .ok (.iinc 3 1, 3) := by decide +kernel
theorem dX7_vestedOfSale_33 : decode cX7_vestedOfSale 33 = .ok (.goto (-29), 3) := by decide +kernel
theorem dX7_vestedOfSale_36 : decode cX7_vestedOfSale 36 = .ok (.iload_n 2, 1) := by decide +kernel
theorem dX7_vestedOfSale_37 : decode cX7_vestedOfSale 37 = .ok (.ireturn, 1) := by decide +kernel
theorem dX7_exposed_0 : decode cX7_exposed 0 = .ok (.iconst 0, 1) := by decide +kernel
theorem dX7_exposed_1 : decode cX7_exposed 1 = .ok (.istore_n 2, 1) := by decide +kernel
theorem dX7_exposed_2 : decode cX7_exposed 2 = .ok (.iconst 0, 1) := by decide +kernel
theorem dX7_exposed_3 : decode cX7_exposed 3 = .ok (.istore_n 3, 1) := by decide +kernel
theorem dX7_exposed_4 : decode cX7_exposed 4 = .ok (.iload_n 3, 1) := by decide +kernel
theorem dX7_exposed_5 : decode cX7_exposed 5 = .ok (.aload_n 0, 1) := by decide +kernel
theorem dX7_exposed_6 : decode cX7_exposed 6 = .ok (.getfield 35, 3) := by decide +kernel
theorem dX7_exposed_9 : decode cX7_exposed 9 = .ok (.getfield 79, 3) := by decide +kernel
theorem dX7_exposed_12 : decode cX7_exposed 12 = .ok (.if_icmp .ge 34, 3) := by decide +kernel
theorem dX7_exposed_15 : decode cX7_exposed 15 = .ok (.iload_n 2, 1) := by decide +kernel
theorem dX7_exposed_16 : decode cX7_exposed 16 = .ok (.aload_n 0, 1) := by decide +kernel
theorem dX7_exposed_17 : decode cX7_exposed 17 = .ok (.getfield 35, 3) := by decide +kernel
theorem dX7_exposed_20 : decode cX7_exposed 20 = .ok (.getfield 133, 3) := by decide +kernel
theorem dX7_exposed_23 : decode cX7_exposed 23 = .ok (.iload_n 3, 1) := by decide +kernel
theorem dX7_exposed_24 : decode cX7_exposed 24 = .ok (.iaload, 1) := by decide +kernel
theorem dX7_exposed_25 : decode cX7_exposed 25 = .ok (.iload_n 1, 1) := by decide +kernel
theorem dX7_exposed_26 : decode cX7_exposed 26 = .ok (.if_icmp .ne 11, 3) := by decide +kernel
theorem dX7_exposed_29 : decode cX7_exposed 29 = .ok (.aload_n 0, 1) := by decide +kernel
theorem dX7_exposed_30 : decode cX7_exposed 30 = .ok (.iload_n 3, 1) := by decide +kernel
theorem dX7_exposed_31 : decode cX7_exposed 31 = .ok (.invokevirtual 136, 3) := by decide +kernel
theorem dX7_exposed_34 : decode cX7_exposed 34 = .ok (.goto 4, 3) := by decide +kernel
theorem dX7_exposed_37 : decode cX7_exposed 37 = .ok (.iconst 0, 1) := by decide +kernel
theorem dX7_exposed_38 : decode cX7_exposed 38 = .ok (.iadd, 1) := by decide +kernel
theorem dX7_exposed_39 : decode cX7_exposed 39 = .ok (.istore_n 2, 1) := by decide +kernel
theorem dX7_exposed_40 : decode cX7_exposed 40 = .ok (.iinc 3 1, 3) := by decide +kernel
theorem dX7_exposed_43 : decode cX7_exposed 43 = .ok (.goto (-39), 3) := by decide +kernel
theorem dX7_exposed_46 : decode cX7_exposed 46 = .ok (.iload_n 2, 1) := by decide +kernel
theorem dX7_exposed_47 : decode cX7_exposed 47 = .ok (.ireturn, 1) := by decide +kernel
theorem dX9_seller_0 : decode cX9_seller 0 = .ok (.aload_n 0, 1) := by decide +kernel
theorem dX9_seller_1 : decode cX9_seller 1 = .ok (.getfield 10, 3) := by decide +kernel
theorem dX9_seller_4 : decode cX9_seller 4 = .ok (.getfield 93, 3) := by decide +kernel
theorem dX9_seller_7 : decode cX9_seller 7 = .ok (.astore_n 3, 1) := by decide +kernel
theorem dX9_seller_8 : decode cX9_seller 8 = .ok (.aload_n 3, 1) := by decide +kernel
theorem dX9_seller_9 : decode cX9_seller 9 = .ok (.iload_n 1, 1) := by decide +kernel
theorem dX9_seller_10 : decode cX9_seller 10 = .ok (.invokevirtual 189, 3) := by decide +kernel
theorem dX9_seller_13 : decode cX9_seller 13 = .ok (.ifCond .ne 6, 3) := by decide +kernel
theorem dX9_seller_16 : decode cX9_seller 16 = .ok (.ldc 220, 2) := by decide +kernel
theorem dX9_seller_18 : decode cX9_seller 18 = .ok (.ireturn, 1) := by decide +kernel
theorem dX9_seller_19 : decode cX9_seller 19 = .ok (.iload_n 2, 1) := by decide +kernel
theorem dX9_seller_20 : decode cX9_seller 20 = .ok (.tableswitch 194 0 11 #[64, 71, 78, 85, 101, 108, 117, 138, 159, 166, 173, 185], 64) := by decide +kernel
theorem dX9_seller_84 : decode cX9_seller 84 = .ok (.aload_n 3, 1) := by decide +kernel
theorem dX9_seller_85 : decode cX9_seller 85 = .ok (.getfield 147, 3) := by decide +kernel
theorem dX9_seller_88 : decode cX9_seller 88 = .ok (.iload_n 1, 1) := by decide +kernel
theorem dX9_seller_89 : decode cX9_seller 89 = .ok (.iaload, 1) := by decide +kernel
theorem dX9_seller_90 : decode cX9_seller 90 = .ok (.ireturn, 1) := by decide +kernel
theorem dX9_seller_91 : decode cX9_seller 91 = .ok (.aload_n 3, 1) := by decide +kernel
theorem dX9_seller_92 : decode cX9_seller 92 = .ok (.getfield 118, 3) := by decide +kernel
theorem dX9_seller_95 : decode cX9_seller 95 = .ok (.iload_n 1, 1) := by decide +kernel
theorem dX9_seller_96 : decode cX9_seller 96 = .ok (.iaload, 1) := by decide +kernel
theorem dX9_seller_97 : decode cX9_seller 97 = .ok (.ireturn, 1) := by decide +kernel
theorem dX9_seller_98 : decode cX9_seller 98 = .ok (.aload_n 3, 1) := by decide +kernel
theorem dX9_seller_99 : decode cX9_seller 99 = .ok (.getfield 221, 3) := by decide +kernel
theorem dX9_seller_102 : decode cX9_seller 102 = .ok (.iload_n 1, 1) := by decide +kernel
theorem dX9_seller_103 : decode cX9_seller 103 = .ok (.iaload, 1) := by decide +kernel
theorem dX9_seller_104 : decode cX9_seller 104 = .ok (.ireturn, 1) := by decide +kernel
theorem dX9_seller_105 : decode cX9_seller 105 = .ok (.aload_n 0, 1) := by decide +kernel
theorem dX9_seller_106 : decode cX9_seller 106 = .ok (.getfield 10, 3) := by decide +kernel
theorem dX9_seller_109 : decode cX9_seller 109 = .ok (.iload_n 1, 1) := by decide +kernel
theorem dX9_seller_110 : decode cX9_seller 110 = .ok (.aload_n 0, 1) := by decide +kernel
theorem dX9_seller_111 : decode cX9_seller 111 = .ok (.getfield 10, 3) := by decide +kernel
theorem dX9_seller_114 : decode cX9_seller 114 = .ok (.getfield 90, 3) := by decide +kernel
theorem dX9_seller_117 : decode cX9_seller 117 = .ok (.invokevirtual 224, 3) := by decide +kernel
theorem dX9_seller_120 : decode cX9_seller 120 = .ok (.ireturn, 1) := by decide +kernel
theorem dX9_seller_121 : decode cX9_seller 121 = .ok (.aload_n 3, 1) := by decide +kernel
theorem dX9_seller_122 : decode cX9_seller 122 = .ok (.getfield 193, 3) := by decide +kernel
theorem dX9_seller_125 : decode cX9_seller 125 = .ok (.iload_n 1, 1) := by decide +kernel
theorem dX9_seller_126 : decode cX9_seller 126 = .ok (.iaload, 1) := by decide +kernel
theorem dX9_seller_127 : decode cX9_seller 127 = .ok (.ireturn, 1) := by decide +kernel
theorem dX9_seller_128 : decode cX9_seller 128 = .ok (.aload_n 0, 1) := by decide +kernel
theorem dX9_seller_129 : decode cX9_seller 129 = .ok (.getfield 10, 3) := by decide +kernel
theorem dX9_seller_132 : decode cX9_seller 132 = .ok (.iload_n 1, 1) := by decide +kernel
theorem dX9_seller_133 : decode cX9_seller 133 = .ok (.invokevirtual 190, 3) := by decide +kernel
theorem dX9_seller_136 : decode cX9_seller 136 = .ok (.ireturn, 1) := by decide +kernel
theorem dX9_seller_137 : decode cX9_seller 137 = .ok (.aload_n 3, 1) := by decide +kernel
theorem dX9_seller_138 : decode cX9_seller 138 = .ok (.iload_n 1, 1) := by decide +kernel
theorem dX9_seller_139 : decode cX9_seller 139 = .ok (.invokevirtual 227, 3) := by decide +kernel
theorem dX9_seller_142 : decode cX9_seller 142 = .ok (.ifCond .eq 7, 3) := by decide +kernel
theorem dX9_seller_145 : decode cX9_seller 145 = .ok (.iconst 0, 1) := by decide +kernel
theorem dX9_seller_146 : decode cX9_seller 146 = .ok (.goto 11, 3) := by decide +kernel
theorem dX9_seller_149 : decode cX9_seller 149 = .ok (.aload_n 0, 1) := by decide +kernel
theorem dX9_seller_150 : decode cX9_seller 150 = .ok (.getfield 10, 3) := by decide +kernel
theorem dX9_seller_153 : decode cX9_seller 153 = .ok (.iload_n 1, 1) := by decide +kernel
theorem dX9_seller_154 : decode cX9_seller 154 = .ok (.invokevirtual 122, 3) := by decide +kernel
theorem dX9_seller_157 : decode cX9_seller 157 = .ok (.ireturn, 1) := by decide +kernel
theorem dX9_seller_158 : decode cX9_seller 158 = .ok (.aload_n 3, 1) := by decide +kernel
theorem dX9_seller_159 : decode cX9_seller 159 = .ok (.iload_n 1, 1) := by decide +kernel
theorem dX9_seller_160 : decode cX9_seller 160 = .ok (.invokevirtual 227, 3) := by decide +kernel
theorem dX9_seller_163 : decode cX9_seller 163 = .ok (.ifCond .eq 14, 3) := by decide +kernel
theorem dX9_seller_166 : decode cX9_seller 166 = .ok (.aload_n 0, 1) := by decide +kernel
theorem dX9_seller_167 : decode cX9_seller 167 = .ok (.getfield 10, 3) := by decide +kernel
theorem dX9_seller_170 : decode cX9_seller 170 = .ok (.iload_n 1, 1) := by decide +kernel
theorem dX9_seller_171 : decode cX9_seller 171 = .ok (.invokevirtual 122, 3) := by decide +kernel
theorem dX9_seller_174 : decode cX9_seller 174 = .ok (.goto 4, 3) := by decide +kernel
theorem dX9_seller_177 : decode cX9_seller 177 = .ok (.iconst 0, 1) := by decide +kernel
theorem dX9_seller_178 : decode cX9_seller 178 = .ok (.ireturn, 1) := by decide +kernel
theorem dX9_seller_179 : decode cX9_seller 179 = .ok (.aload_n 0, 1) := by decide +kernel
theorem dX9_seller_180 : decode cX9_seller 180 = .ok (.iload_n 1, 1) := by decide +kernel
theorem dX9_seller_181 : decode cX9_seller 181 = .ok (.iconst 0, 1) := by decide +kernel
theorem dX9_seller_182 : decode cX9_seller 182 = .ok (.invokevirtual 230, 3) := by decide +kernel
theorem dX9_seller_185 : decode cX9_seller 185 = .ok (.ireturn, 1) := by decide +kernel
theorem dX9_seller_186 : decode cX9_seller 186 = .ok (.aload_n 0, 1) := by decide +kernel
theorem dX9_seller_187 : decode cX9_seller 187 = .ok (.iload_n 1, 1) := by decide +kernel
theorem dX9_seller_188 : decode cX9_seller 188 = .ok (.iconst 1, 1) := by decide +kernel
theorem dX9_seller_189 : decode cX9_seller 189 = .ok (.invokevirtual 230, 3) := by decide +kernel
theorem dX9_seller_192 : decode cX9_seller 192 = .ok (.ireturn, 1) := by decide +kernel
theorem dX9_seller_193 : decode cX9_seller 193 = .ok (.aload_n 0, 1) := by decide +kernel
theorem dX9_seller_194 : decode cX9_seller 194 = .ok (.getfield 10, 3) := by decide +kernel
theorem dX9_seller_197 : decode cX9_seller 197 = .ok (.getfield 136, 3) := by decide +kernel
theorem dX9_seller_200 : decode cX9_seller 200 = .ok (.iload_n 1, 1) := by decide +kernel
theorem dX9_seller_201 : decode cX9_seller 201 = .ok (.invokevirtual 234, 3) := by decide +kernel
theorem dX9_seller_204 : decode cX9_seller 204 = .ok (.ireturn, 1) := by decide +kernel
theorem dX9_seller_205 : decode cX9_seller 205 = .ok (.aload_n 0, 1) := by decide +kernel
theorem dX9_seller_206 : decode cX9_seller 206 = .ok (.getfield 10, 3) := by decide +kernel
theorem dX9_seller_209 : decode cX9_seller 209 = .ok (.iload_n 1, 1) := by decide +kernel
theorem dX9_seller_210 : decode cX9_seller 210 = .ok (.invokevirtual 237, 3) := by decide +kernel
theorem dX9_seller_213 : decode cX9_seller 213 = .ok (.ireturn, 1) := by decide +kernel
theorem dX9_seller_214 : decode cX9_seller 214 = .ok (.ldc 220, 2) := by decide +kernel
theorem dX9_seller_216 : decode cX9_seller 216 = .ok (.ireturn, 1) := by decide +kernel
theorem dX10_bestRank_0 : decode cX10_bestRank 0 = .ok (.aload_n 0, 1) := by decide +kernel
theorem dX10_bestRank_1 : decode cX10_bestRank 1 = .ok (.invokevirtual 282, 3) := by decide +kernel
theorem dX10_bestRank_4 : decode cX10_bestRank 4 = .ok (.iconst (-1), 1) := by decide +kernel
theorem dX10_bestRank_5 : decode cX10_bestRank 5 = .ok (.istore_n 3, 1) := by decide +kernel
theorem dX10_bestRank_6 : decode cX10_bestRank 6 = .ok (.iconst (-1), 1) := by decide +kernel
theorem dX10_bestRank_7 : decode cX10_bestRank 7 = .ok (.istore 4, 2) := by decide +kernel
theorem dX10_bestRank_9 : decode cX10_bestRank 9 = .ok (.aload_n 0, 1) := by decide +kernel
theorem dX10_bestRank_10 : decode cX10_bestRank 10 = .ok (.iload_n 1, 1) := by decide +kernel
theorem dX10_bestRank_11 : decode cX10_bestRank 11 = .ok (.iconst 0, 1) := by decide +kernel
theorem dX10_bestRank_12 : decode cX10_bestRank 12 = .ok (.invokevirtual 159, 3) := by decide +kernel
theorem dX10_bestRank_15 : decode cX10_bestRank 15 = .ok (.istore 5, 2) := by decide +kernel
theorem dX10_bestRank_17 : decode cX10_bestRank 17 = .ok (.iload 5, 2) := by decide +kernel
theorem dX10_bestRank_19 : decode cX10_bestRank 19 = .ok (.aload_n 0, 1) := by decide +kernel
theorem dX10_bestRank_20 : decode cX10_bestRank 20 = .ok (.invokevirtual 218, 3) := by decide +kernel
theorem dX10_bestRank_23 : decode cX10_bestRank 23 = .ok (.if_icmp .gt 44, 3) := by decide +kernel
theorem dX10_bestRank_26 : decode cX10_bestRank 26 = .ok (.aload_n 0, 1) := by decide +kernel
theorem dX10_bestRank_27 : decode cX10_bestRank 27 = .ok (.iload 5, 2) := by decide +kernel
theorem dX10_bestRank_29 : decode cX10_bestRank 29 = .ok (.invokevirtual 256, 3) := by decide +kernel
theorem dX10_bestRank_32 : decode cX10_bestRank 32 = .ok (.aload_n 0, 1) := by decide +kernel
theorem dX10_bestRank_33 : decode cX10_bestRank 33 = .ok (.iload_n 1, 1) := by decide +kernel
theorem dX10_bestRank_34 : decode cX10_bestRank 34 = .ok (.invokevirtual 221, 3) := by decide +kernel
theorem dX10_bestRank_37 : decode cX10_bestRank 37 = .ok (.istore 6, 2) := by decide +kernel
theorem dX10_bestRank_39 : decode cX10_bestRank 39 = .ok (.iload 6, 2) := by decide +kernel
theorem dX10_bestRank_41 : decode cX10_bestRank 41 = .ok (.iload_n 3, 1) := by decide +kernel
theorem dX10_bestRank_42 : decode cX10_bestRank 42 = .ok (.if_icmp .le 8, 3) := by decide +kernel
theorem dX10_bestRank_45 : decode cX10_bestRank 45 = .ok (.iload 5, 2) := by decide +kernel
theorem dX10_bestRank_47 : decode cX10_bestRank 47 = .ok (.goto 5, 3) := by decide +kernel
theorem dX10_bestRank_50 : decode cX10_bestRank 50 = .ok (.iload 4, 2) := by decide +kernel
theorem dX10_bestRank_52 : decode cX10_bestRank 52 = .ok (.istore 4, 2) := by decide +kernel
theorem dX10_bestRank_54 : decode cX10_bestRank 54 = .ok (.iload_n 3, 1) := by decide +kernel
theorem dX10_bestRank_55 : decode cX10_bestRank 55 = .ok (.iload 6, 2) := by decide +kernel
theorem dX10_bestRank_57 : decode cX10_bestRank 57 = .ok (.invokestatic 193, 3) := by decide +kernel
theorem dX10_bestRank_60 : decode cX10_bestRank 60 = .ok (.istore_n 3, 1) := by decide +kernel
theorem dX10_bestRank_61 : decode cX10_bestRank 61 = .ok (.iinc 5 1, 3) := by decide +kernel
theorem dX10_bestRank_64 : decode cX10_bestRank 64 = .ok (.goto (-47), 3) := by decide +kernel
theorem dX10_bestRank_67 : decode cX10_bestRank 67 = .ok (.iload_n 2, 1) := by decide +kernel
theorem dX10_bestRank_68 : decode cX10_bestRank 68 = .ok (.ifCond .eq 8, 3) := by decide +kernel
theorem dX10_bestRank_71 : decode cX10_bestRank 71 = .ok (.iload 4, 2) := by decide +kernel
theorem dX10_bestRank_73 : decode cX10_bestRank 73 = .ok (.goto 4, 3) := by decide +kernel
theorem dX10_bestRank_76 : decode cX10_bestRank 76 = .ok (.iload_n 3, 1) := by decide +kernel
theorem dX10_bestRank_77 : decode cX10_bestRank 77 = .ok (.ireturn, 1) := by decide +kernel
theorem dX10_salesOf_0 : decode cX10_salesOf 0 = .ok (.iconst 0, 1) := by decide +kernel
theorem dX10_salesOf_1 : decode cX10_salesOf 1 = .ok (.istore_n 2, 1) := by decide +kernel
theorem dX10_salesOf_2 : decode cX10_salesOf 2 = .ok (.iconst 0, 1) := by decide +kernel
theorem dX10_salesOf_3 : decode cX10_salesOf 3 = .ok (.istore_n 3, 1) := by decide +kernel
theorem dX10_salesOf_4 : decode cX10_salesOf 4 = .ok (.iload_n 3, 1) := by decide +kernel
theorem dX10_salesOf_5 : decode cX10_salesOf 5 = .ok (.aload_n 0, 1) := by decide +kernel
theorem dX10_salesOf_6 : decode cX10_salesOf 6 = .ok (.getfield 7, 3) := by decide +kernel
theorem dX10_salesOf_9 : decode cX10_salesOf 9 = .ok (.sipush 146, 3) := by decide +kernel
theorem dX10_salesOf_12 : decode cX10_salesOf 12 = .ok (.iaload, 1) := by decide +kernel
theorem dX10_salesOf_13 : decode cX10_salesOf 13 = .ok (.if_icmp .ge 27, 3) := by decide +kernel
theorem dX10_salesOf_16 : decode cX10_salesOf 16 = .ok (.iload_n 2, 1) := by decide +kernel
theorem dX10_salesOf_17 : decode cX10_salesOf 17 = .ok (.aload_n 0, 1) := by decide +kernel
theorem dX10_salesOf_18 : decode cX10_salesOf 18 = .ok (.iload_n 3, 1) := by decide +kernel
theorem dX10_salesOf_19 : decode cX10_salesOf 19 = .ok (.iconst 0, 1) := by decide +kernel
theorem dX10_salesOf_20 : decode cX10_salesOf 20 = .ok (.invokevirtual 162, 3) := by decide +kernel
theorem dX10_salesOf_23 : decode cX10_salesOf 23 = .ok (.iload_n 1, 1) := by decide +kernel
theorem dX10_salesOf_24 : decode cX10_salesOf 24 = .ok (.if_icmp .ne 7, 3) := by decide +kernel
theorem dX10_salesOf_27 : decode cX10_salesOf 27 = .ok (.iconst 1, 1) := by decide +kernel
theorem dX10_salesOf_28 : decode cX10_salesOf 28 = .ok (.goto 4, 3) := by decide +kernel
theorem dX10_salesOf_31 : decode cX10_salesOf 31 = .ok (.iconst 0, 1) := by decide +kernel
theorem dX10_salesOf_32 : decode cX10_salesOf 32 = .ok (.iadd, 1) := by decide +kernel
theorem dX10_salesOf_33 : decode cX10_salesOf 33 = .ok (.istore_n 2, 1) := by decide +kernel
theorem dX10_salesOf_34 : decode cX10_salesOf 34 = .ok (.iinc 3 1, 3) := by decide +kernel
theorem dX10_salesOf_37 : decode cX10_salesOf 37 = .ok (.goto (-33), 3) := by decide +kernel
theorem dX10_salesOf_40 : decode cX10_salesOf 40 = .ok (.iload_n 2, 1) := by decide +kernel
theorem dX10_salesOf_41 : decode cX10_salesOf 41 = .ok (.ireturn, 1) := by decide +kernel
theorem dX10_exposedOf_0 : decode cX10_exposedOf 0 = .ok (.iconst 0, 1) := by decide +kernel
theorem dX10_exposedOf_1 : decode cX10_exposedOf 1 = .ok (.istore_n 2, 1) := by decide +kernel
theorem dX10_exposedOf_2 : decode cX10_exposedOf 2 = .ok (.iconst 0, 1) := by decide +kernel
theorem dX10_exposedOf_3 : decode cX10_exposedOf 3 = .ok (.istore_n 3, 1) := by decide +kernel
theorem dX10_exposedOf_4 : decode cX10_exposedOf 4 = .ok (.iload_n 3, 1) := by decide +kernel
theorem dX10_exposedOf_5 : decode cX10_exposedOf 5 = .ok (.aload_n 0, 1) := by decide +kernel
theorem dX10_exposedOf_6 : decode cX10_exposedOf 6 = .ok (.getfield 7, 3) := by decide +kernel
theorem dX10_exposedOf_9 : decode cX10_exposedOf 9 = .ok (.sipush 146, 3) := by decide +kernel
theorem dX10_exposedOf_12 : decode cX10_exposedOf 12 = .ok (.iaload, 1) := by decide +kernel
theorem dX10_exposedOf_13 : decode cX10_exposedOf 13 = .ok (.if_icmp .ge 57, 3) := by decide +kernel
theorem dX10_exposedOf_16 : decode cX10_exposedOf 16 = .ok (.iconst 0, 1) := by decide +kernel
theorem dX10_exposedOf_17 : decode cX10_exposedOf 17 = .ok (.istore 4, 2) := by decide +kernel
theorem dX10_exposedOf_19 : decode cX10_exposedOf 19 = .ok (.iload 4, 2) := by decide +kernel
theorem dX10_exposedOf_21 : decode cX10_exposedOf 21 = .ok (.aload_n 0, 1) := by decide +kernel
theorem dX10_exposedOf_22 : decode cX10_exposedOf 22 = .ok (.iload_n 3, 1) := by decide +kernel
theorem dX10_exposedOf_23 : decode cX10_exposedOf 23 = .ok (.iconst 5, 1) := by decide +kernel
theorem dX10_exposedOf_24 : decode cX10_exposedOf 24 = .ok (.invokevirtual 162, 3) := by decide +kernel
theorem dX10_exposedOf_27 : decode cX10_exposedOf 27 = .ok (.if_icmp .ge 37, 3) := by decide +kernel
theorem dX10_exposedOf_30 : decode cX10_exposedOf 30 = .ok (.iload_n 2, 1) := by decide +kernel
theorem dX10_exposedOf_31 : decode cX10_exposedOf 31 = .ok (.aload_n 0, 1) := by decide +kernel
theorem dX10_exposedOf_32 : decode cX10_exposedOf 32 = .ok (.iload_n 3, 1) := by decide +kernel
theorem dX10_exposedOf_33 : decode cX10_exposedOf 33 = .ok (.iconst 0, 1) := by decide +kernel
theorem dX10_exposedOf_34 : decode cX10_exposedOf 34 = .ok (.invokevirtual 162, 3) := by decide +kernel
theorem dX10_exposedOf_37 : decode cX10_exposedOf 37 = .ok (.iload_n 1, 1) := by decide +kernel
theorem dX10_exposedOf_38 : decode cX10_exposedOf 38 = .ok (.if_icmp .ne 17, 3) := by decide +kernel
theorem dX10_exposedOf_41 : decode cX10_exposedOf 41 = .ok (.aload_n 0, 1) := by decide +kernel
theorem dX10_exposedOf_42 : decode cX10_exposedOf 42 = .ok (.iload_n 3, 1) := by decide +kernel
theorem dX10_exposedOf_43 : decode cX10_exposedOf 43 = .ok (.iload 4, 2) := by decide +kernel
theorem dX10_exposedOf_45 : decode cX10_exposedOf 45 = .ok (.aload_n 0, 1) := by decide +kernel
theorem dX10_exposedOf_46 : decode cX10_exposedOf 46 = .ok (.invokevirtual 218, 3) := by decide +kernel
theorem dX10_exposedOf_49 : decode cX10_exposedOf 49 = .ok (.invokevirtual 244, 3) := by decide +kernel
theorem dX10_exposedOf_52 : decode cX10_exposedOf 52 = .ok (.goto 4, 3) := by decide +kernel
theorem dX10_exposedOf_55 : decode cX10_exposedOf 55 = .ok (.iconst 0, 1) := by decide +kernel
theorem dX10_exposedOf_56 : decode cX10_exposedOf 56 = .ok (.iadd, 1) := by decide +kernel
theorem dX10_exposedOf_57 : decode cX10_exposedOf 57 = .ok (.istore_n 2, 1) := by decide +kernel
theorem dX10_exposedOf_58 : decode cX10_exposedOf 58 = .ok (.iinc 4 1, 3) := by decide +kernel
theorem dX10_exposedOf_61 : decode cX10_exposedOf 61 = .ok (.goto (-42), 3) := by decide +kernel
theorem dX10_exposedOf_64 : decode cX10_exposedOf 64 = .ok (.iinc 3 1, 3) := by decide +kernel
theorem dX10_exposedOf_67 : decode cX10_exposedOf 67 = .ok (.goto (-63), 3) := by decide +kernel
theorem dX10_exposedOf_70 : decode cX10_exposedOf 70 = .ok (.iload_n 2, 1) := by decide +kernel
theorem dX10_exposedOf_71 : decode cX10_exposedOf 71 = .ok (.ireturn, 1) := by decide +kernel
theorem dX10_seller_0 : decode cX10_seller 0 = .ok (.aload_n 0, 1) := by decide +kernel
theorem dX10_seller_1 : decode cX10_seller 1 = .ok (.iconst 0, 1) := by decide +kernel
theorem dX10_seller_2 : decode cX10_seller 2 = .ok (.putfield 52, 3) := by decide +kernel
theorem dX10_seller_5 : decode cX10_seller 5 = .ok (.aload_n 0, 1) := by decide +kernel
theorem dX10_seller_6 : decode cX10_seller 6 = .ok (.iload_n 1, 1) := by decide +kernel
theorem dX10_seller_7 : decode cX10_seller 7 = .ok (.invokevirtual 253, 3) := by decide +kernel
theorem dX10_seller_10 : decode cX10_seller 10 = .ok (.ifCond .ne 7, 3) := by decide +kernel
theorem dX10_seller_13 : decode cX10_seller 13 = .ok (.ldc_w 294, 3) := by decide +kernel
theorem dX10_seller_16 : decode cX10_seller 16 = .ok (.ireturn, 1) := by decide +kernel
theorem dX10_seller_17 : decode cX10_seller 17 = .ok (.iload_n 2, 1) := by decide +kernel
theorem dX10_seller_18 : decode cX10_seller 18 = .ok (.tableswitch 172 0 11 #[62, 69, 76, 83, 94, 101, 107, 125, 143, 143, 160, 166], 62) := by decide +kernel
theorem dX10_seller_80 : decode cX10_seller 80 = .ok (.aload_n 0, 1) := by decide +kernel
theorem dX10_seller_81 : decode cX10_seller 81 = .ok (.iload_n 1, 1) := by decide +kernel
theorem dX10_seller_82 : decode cX10_seller 82 = .ok (.iconst 0, 1) := by decide +kernel
theorem dX10_seller_83 : decode cX10_seller 83 = .ok (.invokevirtual 159, 3) := by decide +kernel
theorem dX10_seller_86 : decode cX10_seller 86 = .ok (.ireturn, 1) := by decide +kernel
theorem dX10_seller_87 : decode cX10_seller 87 = .ok (.aload_n 0, 1) := by decide +kernel
theorem dX10_seller_88 : decode cX10_seller 88 = .ok (.iload_n 1, 1) := by decide +kernel
theorem dX10_seller_89 : decode cX10_seller 89 = .ok (.iconst 1, 1) := by decide +kernel
theorem dX10_seller_90 : decode cX10_seller 90 = .ok (.invokevirtual 159, 3) := by decide +kernel
theorem dX10_seller_93 : decode cX10_seller 93 = .ok (.ireturn, 1) := by decide +kernel
theorem dX10_seller_94 : decode cX10_seller 94 = .ok (.aload_n 0, 1) := by decide +kernel
theorem dX10_seller_95 : decode cX10_seller 95 = .ok (.iload_n 1, 1) := by decide +kernel
theorem dX10_seller_96 : decode cX10_seller 96 = .ok (.iconst 4, 1) := by decide +kernel
theorem dX10_seller_97 : decode cX10_seller 97 = .ok (.invokevirtual 159, 3) := by decide +kernel
theorem dX10_seller_100 : decode cX10_seller 100 = .ok (.ireturn, 1) := by decide +kernel
theorem dX10_seller_101 : decode cX10_seller 101 = .ok (.aload_n 0, 1) := by decide +kernel
theorem dX10_seller_102 : decode cX10_seller 102 = .ok (.iload_n 1, 1) := by decide +kernel
theorem dX10_seller_103 : decode cX10_seller 103 = .ok (.aload_n 0, 1) := by decide +kernel
theorem dX10_seller_104 : decode cX10_seller 104 = .ok (.invokevirtual 218, 3) := by decide +kernel
theorem dX10_seller_107 : decode cX10_seller 107 = .ok (.iconst (-1), 1) := by decide +kernel
theorem dX10_seller_108 : decode cX10_seller 108 = .ok (.invokevirtual 250, 3) := by decide +kernel
theorem dX10_seller_111 : decode cX10_seller 111 = .ok (.ireturn, 1) := by decide +kernel
theorem dX10_seller_112 : decode cX10_seller 112 = .ok (.aload_n 0, 1) := by decide +kernel
theorem dX10_seller_113 : decode cX10_seller 113 = .ok (.iload_n 1, 1) := by decide +kernel
theorem dX10_seller_114 : decode cX10_seller 114 = .ok (.iconst 3, 1) := by decide +kernel
theorem dX10_seller_115 : decode cX10_seller 115 = .ok (.invokevirtual 159, 3) := by decide +kernel
theorem dX10_seller_118 : decode cX10_seller 118 = .ok (.ireturn, 1) := by decide +kernel
theorem dX10_seller_119 : decode cX10_seller 119 = .ok (.aload_n 0, 1) := by decide +kernel
theorem dX10_seller_120 : decode cX10_seller 120 = .ok (.iload_n 1, 1) := by decide +kernel
theorem dX10_seller_121 : decode cX10_seller 121 = .ok (.invokevirtual 291, 3) := by decide +kernel
theorem dX10_seller_124 : decode cX10_seller 124 = .ok (.ireturn, 1) := by decide +kernel
theorem dX10_seller_125 : decode cX10_seller 125 = .ok (.aload_n 0, 1) := by decide +kernel
theorem dX10_seller_126 : decode cX10_seller 126 = .ok (.iload_n 1, 1) := by decide +kernel
theorem dX10_seller_127 : decode cX10_seller 127 = .ok (.invokevirtual 190, 3) := by decide +kernel
theorem dX10_seller_130 : decode cX10_seller 130 = .ok (.ifCond .eq 7, 3) := by decide +kernel
theorem dX10_seller_133 : decode cX10_seller 133 = .ok (.iconst 0, 1) := by decide +kernel
theorem dX10_seller_134 : decode cX10_seller 134 = .ok (.goto 8, 3) := by decide +kernel
theorem dX10_seller_137 : decode cX10_seller 137 = .ok (.aload_n 0, 1) := by decide +kernel
theorem dX10_seller_138 : decode cX10_seller 138 = .ok (.iload_n 1, 1) := by decide +kernel
theorem dX10_seller_139 : decode cX10_seller 139 = .ok (.invokevirtual 272, 3) := by decide +kernel
theorem dX10_seller_142 : decode cX10_seller 142 = .ok (.ireturn, 1) := by decide +kernel
theorem dX10_seller_143 : decode cX10_seller 143 = .ok (.aload_n 0, 1) := by decide +kernel
theorem dX10_seller_144 : decode cX10_seller 144 = .ok (.iload_n 1, 1) := by decide +kernel
theorem dX10_seller_145 : decode cX10_seller 145 = .ok (.invokevirtual 190, 3) := by decide +kernel
theorem dX10_seller_148 : decode cX10_seller 148 = .ok (.ifCond .eq 11, 3) := by decide +kernel
theorem dX10_seller_151 : decode cX10_seller 151 = .ok (.aload_n 0, 1) := by decide +kernel
theorem dX10_seller_152 : decode cX10_seller 152 = .ok (.iload_n 1, 1) := by decide +kernel
theorem dX10_seller_153 : decode cX10_seller 153 = .ok (.invokevirtual 272, 3) := by decide +kernel
theorem dX10_seller_156 : decode cX10_seller 156 = .ok (.goto 4, 3) := by decide +kernel
theorem dX10_seller_159 : decode cX10_seller 159 = .ok (.iconst 0, 1) := by decide +kernel
theorem dX10_seller_160 : decode cX10_seller 160 = .ok (.ireturn, 1) := by decide +kernel
theorem dX10_seller_161 : decode cX10_seller 161 = .ok (.aload_n 0, 1) := by decide +kernel
theorem dX10_seller_162 : decode cX10_seller 162 = .ok (.iload_n 1, 1) := by decide +kernel
theorem dX10_seller_163 : decode cX10_seller 163 = .ok (.iload_n 2, 1) := by decide +kernel
theorem dX10_seller_164 : decode cX10_seller 164 = .ok (.bipush 9, 2) := by decide +kernel
theorem dX10_seller_166 : decode cX10_seller 166 = .ok (.if_icmp .ne 7, 3) := by decide +kernel
theorem dX10_seller_169 : decode cX10_seller 169 = .ok (.iconst 1, 1) := by decide +kernel
theorem dX10_seller_170 : decode cX10_seller 170 = .ok (.goto 4, 3) := by decide +kernel
theorem dX10_seller_173 : decode cX10_seller 173 = .ok (.iconst 0, 1) := by decide +kernel
theorem dX10_seller_174 : decode cX10_seller 174 = .ok (.invokevirtual 295, 3) := by decide +kernel
theorem dX10_seller_177 : decode cX10_seller 177 = .ok (.ireturn, 1) := by decide +kernel
theorem dX10_seller_178 : decode cX10_seller 178 = .ok (.aload_n 0, 1) := by decide +kernel
theorem dX10_seller_179 : decode cX10_seller 179 = .ok (.iload_n 1, 1) := by decide +kernel
theorem dX10_seller_180 : decode cX10_seller 180 = .ok (.invokevirtual 299, 3) := by decide +kernel
theorem dX10_seller_183 : decode cX10_seller 183 = .ok (.ireturn, 1) := by decide +kernel
theorem dX10_seller_184 : decode cX10_seller 184 = .ok (.aload_n 0, 1) := by decide +kernel
theorem dX10_seller_185 : decode cX10_seller 185 = .ok (.iload_n 1, 1) := by decide +kernel
theorem dX10_seller_186 : decode cX10_seller 186 = .ok (.invokevirtual 302, 3) := by decide +kernel
theorem dX10_seller_189 : decode cX10_seller 189 = .ok (.ireturn, 1) := by decide +kernel
theorem dX10_seller_190 : decode cX10_seller 190 = .ok (.ldc_w 294, 3) := by decide +kernel
theorem dX10_seller_193 : decode cX10_seller 193 = .ok (.ireturn, 1) := by decide +kernel
theorem dX9_openSponsors_0 : decode cX9_openSponsors 0 = .ok (.iconst 0, 1) := by decide +kernel
theorem dX9_openSponsors_1 : decode cX9_openSponsors 1 = .ok (.istore_n 3, 1) := by decide +kernel
theorem dX9_openSponsors_2 : decode cX9_openSponsors 2 = .ok (.iconst 0, 1) := by decide +kernel
theorem dX9_openSponsors_3 : decode cX9_openSponsors 3 = .ok (.istore 4, 2) := by decide +kernel
theorem dX9_openSponsors_5 : decode cX9_openSponsors 5 = .ok (.iload 4, 2) := by decide +kernel
theorem dX9_openSponsors_7 : decode cX9_openSponsors 7 = .ok (.aload_n 0, 1) := by decide +kernel
theorem dX9_openSponsors_8 : decode cX9_openSponsors 8 = .ok (.getfield 10, 3) := by decide +kernel
theorem dX9_openSponsors_11 : decode cX9_openSponsors 11 = .ok (.getfield 93, 3) := by decide +kernel
theorem dX9_openSponsors_14 : decode cX9_openSponsors 14 = .ok (.getfield 103, 3) := by decide +kernel
theorem dX9_openSponsors_17 : decode cX9_openSponsors 17 = .ok (.if_icmp .ge 27, 3) := by decide +kernel
theorem dX9_openSponsors_20 : decode cX9_openSponsors 20 = .ok (.aload_n 0, 1) := by decide +kernel
theorem dX9_openSponsors_21 : decode cX9_openSponsors 21 = .ok (.iload_n 1, 1) := by decide +kernel
theorem dX9_openSponsors_22 : decode cX9_openSponsors 22 = .ok (.iload 4, 2) := by decide +kernel
theorem dX9_openSponsors_24 : decode cX9_openSponsors 24 = .ok (.iload_n 2, 1) := by decide +kernel
theorem dX9_openSponsors_25 : decode cX9_openSponsors 25 = .ok (.invokevirtual 110, 3) := by decide +kernel
theorem dX9_openSponsors_28 : decode cX9_openSponsors 28 = .ok (.ifCond .ne 10, 3) := by decide +kernel
theorem dX9_openSponsors_31 : decode cX9_openSponsors 31 = .ok (.iload_n 3, 1) := by decide +kernel
theorem dX9_openSponsors_32 : decode cX9_openSponsors 32 = .ok (.iconst 1, 1) := by decide +kernel
theorem dX9_openSponsors_33 : decode cX9_openSponsors 33 = .ok (.iload 4, 2) := by decide +kernel
theorem dX9_openSponsors_35 : decode cX9_openSponsors 35 = .ok (.ishl, 1) := by decide +kernel
theorem dX9_openSponsors_36 : decode cX9_openSponsors 36 = .ok (.ior, 1) := by decide +kernel
theorem dX9_openSponsors_37 : decode cX9_openSponsors 37 = .ok (.istore_n 3, 1) := by decide +kernel
theorem dX9_openSponsors_38 : decode cX9_openSponsors 38 = .ok (.iinc 4 1, 3) := by decide +kernel
theorem dX9_openSponsors_41 : decode cX9_openSponsors 41 = .ok (.goto (-36), 3) := by decide +kernel
theorem dX9_openSponsors_44 : decode cX9_openSponsors 44 = .ok (.iload_n 3, 1) := by decide +kernel
theorem dX9_openSponsors_45 : decode cX9_openSponsors 45 = .ok (.ireturn, 1) := by decide +kernel
theorem dX6_uplineLength_0 : decode cX6_uplineLength 0 = .ok (.iconst 0, 1) := by decide +kernel
theorem dX6_uplineLength_1 : decode cX6_uplineLength 1 = .ok (.istore_n 2, 1) := by decide +kernel
theorem dX6_uplineLength_2 : decode cX6_uplineLength 2 = .ok (.aload_n 0, 1) := by decide +kernel
theorem dX6_uplineLength_3 : decode cX6_uplineLength 3 = .ok (.getfield 9, 3) := by decide +kernel
theorem dX6_uplineLength_6 : decode cX6_uplineLength 6 = .ok (.iload_n 1, 1) := by decide +kernel
theorem dX6_uplineLength_7 : decode cX6_uplineLength 7 = .ok (.iaload, 1) := by decide +kernel
theorem dX6_uplineLength_8 : decode cX6_uplineLength 8 = .ok (.istore_n 3, 1) := by decide +kernel
theorem dX6_uplineLength_9 : decode cX6_uplineLength 9 = .ok (.iload_n 2, 1) := by decide +kernel
theorem dX6_uplineLength_10 : decode cX6_uplineLength 10 = .ok (.bipush 10, 2) := by decide +kernel
theorem dX6_uplineLength_12 : decode cX6_uplineLength 12 = .ok (.if_icmp .gt 21, 3) := by decide +kernel
theorem dX6_uplineLength_15 : decode cX6_uplineLength 15 = .ok (.iload_n 3, 1) := by decide +kernel
theorem dX6_uplineLength_16 : decode cX6_uplineLength 16 = .ok (.iconst (-1), 1) := by decide +kernel
theorem dX6_uplineLength_17 : decode cX6_uplineLength 17 = .ok (.if_icmp .eq 16, 3) := by decide +kernel
theorem dX6_uplineLength_20 : decode cX6_uplineLength 20 = .ok (.iinc 2 1, 3) := by decide +kernel
theorem dX6_uplineLength_23 : decode cX6_uplineLength 23 = .ok (.aload_n 0, 1) := by decide +kernel
theorem dX6_uplineLength_24 : decode cX6_uplineLength 24 = .ok (.getfield 9, 3) := by decide +kernel
theorem dX6_uplineLength_27 : decode cX6_uplineLength 27 = .ok (.iload_n 3, 1) := by decide +kernel
theorem dX6_uplineLength_28 : decode cX6_uplineLength 28 = .ok (.iaload, 1) := by decide +kernel
theorem dX6_uplineLength_29 : decode cX6_uplineLength 29 = .ok (.istore_n 3, 1) := by decide +kernel
theorem dX6_uplineLength_30 : decode cX6_uplineLength 30 = .ok (.goto (-21), 3) := by decide +kernel
theorem dX6_uplineLength_33 : decode cX6_uplineLength 33 = .ok (.iload_n 2, 1) := by decide +kernel
theorem dX6_uplineLength_34 : decode cX6_uplineLength 34 = .ok (.ireturn, 1) := by decide +kernel
theorem dX9_tree_0 : decode cX9_tree 0 = .ok (.aload_n 0, 1) := by decide +kernel
theorem dX9_tree_1 : decode cX9_tree 1 = .ok (.getfield 10, 3) := by decide +kernel
theorem dX9_tree_4 : decode cX9_tree 4 = .ok (.getfield 93, 3) := by decide +kernel
theorem dX9_tree_7 : decode cX9_tree 7 = .ok (.iload_n 1, 1) := by decide +kernel
theorem dX9_tree_8 : decode cX9_tree 8 = .ok (.invokevirtual 189, 3) := by decide +kernel
theorem dX9_tree_11 : decode cX9_tree 11 = .ok (.ifCond .eq 13, 3) := by decide +kernel
theorem dX9_tree_14 : decode cX9_tree 14 = .ok (.iload_n 3, 1) := by decide +kernel
theorem dX9_tree_15 : decode cX9_tree 15 = .ok (.ifCond .lt 9, 3) := by decide +kernel
theorem dX9_tree_18 : decode cX9_tree 18 = .ok (.iload_n 3, 1) := by decide +kernel
theorem dX9_tree_19 : decode cX9_tree 19 = .ok (.bipush 10, 2) := by decide +kernel
theorem dX9_tree_21 : decode cX9_tree 21 = .ok (.if_icmp .le 6, 3) := by decide +kernel
theorem dX9_tree_24 : decode cX9_tree 24 = .ok (.bipush (-2), 2) := by decide +kernel
theorem dX9_tree_26 : decode cX9_tree 26 = .ok (.ireturn, 1) := by decide +kernel
theorem dX9_tree_27 : decode cX9_tree 27 = .ok (.iload_n 3, 1) := by decide +kernel
theorem dX9_tree_28 : decode cX9_tree 28 = .ok (.iconst 3, 1) := by decide +kernel
theorem dX9_tree_29 : decode cX9_tree 29 = .ok (.if_icmp .le 9, 3) := by decide +kernel
theorem dX9_tree_32 : decode cX9_tree 32 = .ok (.iload_n 3, 1) := by decide +kernel
theorem dX9_tree_33 : decode cX9_tree 33 = .ok (.bipush 9, 2) := by decide +kernel
theorem dX9_tree_35 : decode cX9_tree 35 = .ok (.if_icmp .lt 7, 3) := by decide +kernel
theorem dX9_tree_38 : decode cX9_tree 38 = .ok (.iconst 1, 1) := by decide +kernel
theorem dX9_tree_39 : decode cX9_tree 39 = .ok (.goto 4, 3) := by decide +kernel
theorem dX9_tree_42 : decode cX9_tree 42 = .ok (.iconst 0, 1) := by decide +kernel
theorem dX9_tree_43 : decode cX9_tree 43 = .ok (.istore 4, 2) := by decide +kernel
theorem dX9_tree_45 : decode cX9_tree 45 = .ok (.iload_n 2, 1) := by decide +kernel
theorem dX9_tree_46 : decode cX9_tree 46 = .ok (.aload_n 0, 1) := by decide +kernel
theorem dX9_tree_47 : decode cX9_tree 47 = .ok (.getfield 10, 3) := by decide +kernel
theorem dX9_tree_50 : decode cX9_tree 50 = .ok (.getfield 93, 3) := by decide +kernel
theorem dX9_tree_53 : decode cX9_tree 53 = .ok (.getfield 147, 3) := by decide +kernel
theorem dX9_tree_56 : decode cX9_tree 56 = .ok (.iload_n 1, 1) := by decide +kernel
theorem dX9_tree_57 : decode cX9_tree 57 = .ok (.iaload, 1) := by decide +kernel
theorem dX9_tree_58 : decode cX9_tree 58 = .ok (.if_icmp .lt 26, 3) := by decide +kernel
theorem dX9_tree_61 : decode cX9_tree 61 = .ok (.iload_n 2, 1) := by decide +kernel
theorem dX9_tree_62 : decode cX9_tree 62 = .ok (.iload 4, 2) := by decide +kernel
theorem dX9_tree_64 : decode cX9_tree 64 = .ok (.ifCond .eq 10, 3) := by decide +kernel
theorem dX9_tree_67 : decode cX9_tree 67 = .ok (.aload_n 0, 1) := by decide +kernel
theorem dX9_tree_68 : decode cX9_tree 68 = .ok (.invokevirtual 240, 3) := by decide +kernel
theorem dX9_tree_71 : decode cX9_tree 71 = .ok (.goto 10, 3) := by decide +kernel
theorem dX9_tree_74 : decode cX9_tree 74 = .ok (.aload_n 0, 1) := by decide +kernel
theorem dX9_tree_75 : decode cX9_tree 75 = .ok (.getfield 10, 3) := by decide +kernel
theorem dX9_tree_78 : decode cX9_tree 78 = .ok (.getfield 90, 3) := by decide +kernel
theorem dX9_tree_81 : decode cX9_tree 81 = .ok (.if_icmp .le 6, 3) := by decide +kernel
theorem dX9_tree_84 : decode cX9_tree 84 = .ok (.bipush (-2), 2) := by decide +kernel
theorem dX9_tree_86 : decode cX9_tree 86 = .ok (.ireturn, 1) := by decide +kernel
theorem dX9_tree_87 : decode cX9_tree 87 = .ok (.iload_n 3, 1) := by decide +kernel
theorem dX9_tree_88 : decode cX9_tree 88 = .ok (.bipush 10, 2) := by decide +kernel
theorem dX9_tree_90 : decode cX9_tree 90 = .ok (.if_icmp .ne 10, 3) := by decide +kernel
theorem dX9_tree_93 : decode cX9_tree 93 = .ok (.aload_n 0, 1) := by decide +kernel
theorem dX9_tree_94 : decode cX9_tree 94 = .ok (.iload_n 1, 1) := by decide +kernel
theorem dX9_tree_95 : decode cX9_tree 95 = .ok (.iload_n 2, 1) := by decide +kernel
theorem dX9_tree_96 : decode cX9_tree 96 = .ok (.invokevirtual 243, 3) := by decide +kernel
theorem dX9_tree_99 : decode cX9_tree 99 = .ok (.ireturn, 1) := by decide +kernel
theorem dX9_tree_100 : decode cX9_tree 100 = .ok (.aload_n 0, 1) := by decide +kernel
theorem dX9_tree_101 : decode cX9_tree 101 = .ok (.getfield 30, 3) := by decide +kernel
theorem dX9_tree_104 : decode cX9_tree 104 = .ok (.aload_n 0, 1) := by decide +kernel
theorem dX9_tree_105 : decode cX9_tree 105 = .ok (.getfield 10, 3) := by decide +kernel
theorem dX9_tree_108 : decode cX9_tree 108 = .ok (.iload_n 2, 1) := by decide +kernel
theorem dX9_tree_109 : decode cX9_tree 109 = .ok (.invokevirtual 154, 3) := by decide +kernel
theorem dX9_tree_112 : decode cX9_tree 112 = .ok (.iload_n 3, 1) := by decide +kernel
theorem dX9_tree_113 : decode cX9_tree 113 = .ok (.tableswitch 142 0 8 #[51, 61, 70, 80, 90, 100, 110, 120, 132], 51) := by decide +kernel
theorem dX9_tree_164 : decode cX9_tree 164 = .ok (.aload_n 0, 1) := by decide +kernel
theorem dX9_tree_165 : decode cX9_tree 165 = .ok (.getfield 30, 3) := by decide +kernel
theorem dX9_tree_168 : decode cX9_tree 168 = .ok (.getfield 246, 3) := by decide +kernel
theorem dX9_tree_171 : decode cX9_tree 171 = .ok (.iload_n 1, 1) := by decide +kernel
theorem dX9_tree_172 : decode cX9_tree 172 = .ok (.iaload, 1) := by decide +kernel
theorem dX9_tree_173 : decode cX9_tree 173 = .ok (.ireturn, 1) := by decide +kernel
theorem dX9_tree_174 : decode cX9_tree 174 = .ok (.aload_n 0, 1) := by decide +kernel
theorem dX9_tree_175 : decode cX9_tree 175 = .ok (.getfield 30, 3) := by decide +kernel
theorem dX9_tree_178 : decode cX9_tree 178 = .ok (.iload_n 1, 1) := by decide +kernel
theorem dX9_tree_179 : decode cX9_tree 179 = .ok (.invokevirtual 249, 3) := by decide +kernel
theorem dX9_tree_182 : decode cX9_tree 182 = .ok (.ireturn, 1) := by decide +kernel
theorem dX9_tree_183 : decode cX9_tree 183 = .ok (.aload_n 0, 1) := by decide +kernel
theorem dX9_tree_184 : decode cX9_tree 184 = .ok (.getfield 30, 3) := by decide +kernel
theorem dX9_tree_187 : decode cX9_tree 187 = .ok (.getfield 252, 3) := by decide +kernel
theorem dX9_tree_190 : decode cX9_tree 190 = .ok (.iload_n 1, 1) := by decide +kernel
theorem dX9_tree_191 : decode cX9_tree 191 = .ok (.iaload, 1) := by decide +kernel
theorem dX9_tree_192 : decode cX9_tree 192 = .ok (.ireturn, 1) := by decide +kernel
theorem dX9_tree_193 : decode cX9_tree 193 = .ok (.aload_n 0, 1) := by decide +kernel
theorem dX9_tree_194 : decode cX9_tree 194 = .ok (.getfield 30, 3) := by decide +kernel
theorem dX9_tree_197 : decode cX9_tree 197 = .ok (.getfield 255, 3) := by decide +kernel
theorem dX9_tree_200 : decode cX9_tree 200 = .ok (.iload_n 1, 1) := by decide +kernel
theorem dX9_tree_201 : decode cX9_tree 201 = .ok (.iaload, 1) := by decide +kernel
theorem dX9_tree_202 : decode cX9_tree 202 = .ok (.ireturn, 1) := by decide +kernel
theorem dX9_tree_203 : decode cX9_tree 203 = .ok (.aload_n 0, 1) := by decide +kernel
theorem dX9_tree_204 : decode cX9_tree 204 = .ok (.getfield 30, 3) := by decide +kernel
theorem dX9_tree_207 : decode cX9_tree 207 = .ok (.getfield 258, 3) := by decide +kernel
theorem dX9_tree_210 : decode cX9_tree 210 = .ok (.iload_n 1, 1) := by decide +kernel
theorem dX9_tree_211 : decode cX9_tree 211 = .ok (.iaload, 1) := by decide +kernel
theorem dX9_tree_212 : decode cX9_tree 212 = .ok (.ireturn, 1) := by decide +kernel
theorem dX9_tree_213 : decode cX9_tree 213 = .ok (.aload_n 0, 1) := by decide +kernel
theorem dX9_tree_214 : decode cX9_tree 214 = .ok (.getfield 30, 3) := by decide +kernel
theorem dX9_tree_217 : decode cX9_tree 217 = .ok (.getfield 261, 3) := by decide +kernel
theorem dX9_tree_220 : decode cX9_tree 220 = .ok (.iload_n 1, 1) := by decide +kernel
theorem dX9_tree_221 : decode cX9_tree 221 = .ok (.iaload, 1) := by decide +kernel
theorem dX9_tree_222 : decode cX9_tree 222 = .ok (.ireturn, 1) := by decide +kernel
theorem dX9_tree_223 : decode cX9_tree 223 = .ok (.aload_n 0, 1) := by decide +kernel
theorem dX9_tree_224 : decode cX9_tree 224 = .ok (.getfield 30, 3) := by decide +kernel
theorem dX9_tree_227 : decode cX9_tree 227 = .ok (.getfield 264, 3) := by decide +kernel
theorem dX9_tree_230 : decode cX9_tree 230 = .ok (.iload_n 1, 1) := by decide +kernel
theorem dX9_tree_231 : decode cX9_tree 231 = .ok (.iaload, 1) := by decide +kernel
theorem dX9_tree_232 : decode cX9_tree 232 = .ok (.ireturn, 1) := by decide +kernel
theorem dX9_tree_233 : decode cX9_tree 233 = .ok (.aload_n 0, 1) := by decide +kernel
theorem dX9_tree_234 : decode cX9_tree 234 = .ok (.getfield 30, 3) := by decide +kernel
theorem dX9_tree_237 : decode cX9_tree 237 = .ok (.getfield 267, 3) := by decide +kernel
theorem dX9_tree_240 : decode cX9_tree 240 = .ok (.iload_n 1, 1) := by decide +kernel
theorem dX9_tree_241 : decode cX9_tree 241 = .ok (.ishr, 1) := by decide +kernel
theorem dX9_tree_242 : decode cX9_tree 242 = .ok (.iconst 1, 1) := by decide +kernel
theorem dX9_tree_243 : decode cX9_tree 243 = .ok (.iand, 1) := by decide +kernel
theorem dX9_tree_244 : decode cX9_tree 244 = .ok (.ireturn, 1) := by decide +kernel
theorem dX9_tree_245 : decode cX9_tree 245 = .ok (.aload_n 0, 1) := by decide +kernel
theorem dX9_tree_246 : decode cX9_tree 246 = .ok (.getfield 30, 3) := by decide +kernel
theorem dX9_tree_249 : decode cX9_tree 249 = .ok (.getfield 270, 3) := by decide +kernel
theorem dX9_tree_252 : decode cX9_tree 252 = .ok (.iload_n 1, 1) := by decide +kernel
theorem dX9_tree_253 : decode cX9_tree 253 = .ok (.iaload, 1) := by decide +kernel
theorem dX9_tree_254 : decode cX9_tree 254 = .ok (.ireturn, 1) := by decide +kernel
theorem dX9_tree_255 : decode cX9_tree 255 = .ok (.aload_n 0, 1) := by decide +kernel
theorem dX9_tree_256 : decode cX9_tree 256 = .ok (.getfield 30, 3) := by decide +kernel
theorem dX9_tree_259 : decode cX9_tree 259 = .ok (.getfield 273, 3) := by decide +kernel
theorem dX9_tree_262 : decode cX9_tree 262 = .ok (.iload_n 1, 1) := by decide +kernel
theorem dX9_tree_263 : decode cX9_tree 263 = .ok (.iaload, 1) := by decide +kernel
theorem dX9_tree_264 : decode cX9_tree 264 = .ok (.ireturn, 1) := by decide +kernel
theorem dX10_sumOf_0 : decode cX10_sumOf 0 = .ok (.iconst 0, 1) := by decide +kernel
theorem dX10_sumOf_1 : decode cX10_sumOf 1 = .ok (.istore_n 2, 1) := by decide +kernel
theorem dX10_sumOf_2 : decode cX10_sumOf 2 = .ok (.iconst 0, 1) := by decide +kernel
theorem dX10_sumOf_3 : decode cX10_sumOf 3 = .ok (.istore_n 3, 1) := by decide +kernel
theorem dX10_sumOf_4 : decode cX10_sumOf 4 = .ok (.iload_n 3, 1) := by decide +kernel
theorem dX10_sumOf_5 : decode cX10_sumOf 5 = .ok (.aload_n 0, 1) := by decide +kernel
theorem dX10_sumOf_6 : decode cX10_sumOf 6 = .ok (.getfield 174, 3) := by decide +kernel
theorem dX10_sumOf_9 : decode cX10_sumOf 9 = .ok (.if_icmp .ge 29, 3) := by decide +kernel
theorem dX10_sumOf_12 : decode cX10_sumOf 12 = .ok (.iload_n 2, 1) := by decide +kernel
theorem dX10_sumOf_13 : decode cX10_sumOf 13 = .ok (.iload_n 1, 1) := by decide +kernel
theorem dX10_sumOf_14 : decode cX10_sumOf 14 = .ok (.iload_n 3, 1) := by decide +kernel
theorem dX10_sumOf_15 : decode cX10_sumOf 15 = .ok (.invokestatic 183, 3) := by decide +kernel
theorem dX10_sumOf_18 : decode cX10_sumOf 18 = .ok (.ifCond .eq 11, 3) := by decide +kernel
theorem dX10_sumOf_21 : decode cX10_sumOf 21 = .ok (.aload_n 0, 1) := by decide +kernel
theorem dX10_sumOf_22 : decode cX10_sumOf 22 = .ok (.iload_n 3, 1) := by decide +kernel
theorem dX10_sumOf_23 : decode cX10_sumOf 23 = .ok (.invokevirtual 200, 3) := by decide +kernel
theorem dX10_sumOf_26 : decode cX10_sumOf 26 = .ok (.goto 4, 3) := by decide +kernel
theorem dX10_sumOf_29 : decode cX10_sumOf 29 = .ok (.iconst 0, 1) := by decide +kernel
theorem dX10_sumOf_30 : decode cX10_sumOf 30 = .ok (.iadd, 1) := by decide +kernel
theorem dX10_sumOf_31 : decode cX10_sumOf 31 = .ok (.istore_n 2, 1) := by decide +kernel
theorem dX10_sumOf_32 : decode cX10_sumOf 32 = .ok (.iinc 3 1, 3) := by decide +kernel
theorem dX10_sumOf_35 : decode cX10_sumOf 35 = .ok (.goto (-31), 3) := by decide +kernel
theorem dX10_sumOf_38 : decode cX10_sumOf 38 = .ok (.iload_n 2, 1) := by decide +kernel
theorem dX10_sumOf_39 : decode cX10_sumOf 39 = .ok (.ireturn, 1) := by decide +kernel
theorem dX10_generations_0 : decode cX10_generations 0 = .ok (.aload_n 0, 1) := by decide +kernel
theorem dX10_generations_1 : decode cX10_generations 1 = .ok (.iload_n 1, 1) := by decide +kernel
theorem dX10_generations_2 : decode cX10_generations 2 = .ok (.invokevirtual 196, 3) := by decide +kernel
theorem dX10_generations_5 : decode cX10_generations 5 = .ok (.istore_n 2, 1) := by decide +kernel
theorem dX10_generations_6 : decode cX10_generations 6 = .ok (.iconst 0, 1) := by decide +kernel
theorem dX10_generations_7 : decode cX10_generations 7 = .ok (.istore_n 3, 1) := by decide +kernel
theorem dX10_generations_8 : decode cX10_generations 8 = .ok (.iconst 0, 1) := by decide +kernel
theorem dX10_generations_9 : decode cX10_generations 9 = .ok (.istore 4, 2) := by decide +kernel
theorem dX10_generations_11 : decode cX10_generations 11 = .ok (.iload 4, 2) := by decide +kernel
theorem dX10_generations_13 : decode cX10_generations 13 = .ok (.aload_n 0, 1) := by decide +kernel
theorem dX10_generations_14 : decode cX10_generations 14 = .ok (.getfield 174, 3) := by decide +kernel
theorem dX10_generations_17 : decode cX10_generations 17 = .ok (.if_icmp .ge 34, 3) := by decide +kernel
theorem dX10_generations_20 : decode cX10_generations 20 = .ok (.iload_n 2, 1) := by decide +kernel
theorem dX10_generations_21 : decode cX10_generations 21 = .ok (.iload 4, 2) := by decide +kernel
theorem dX10_generations_23 : decode cX10_generations 23 = .ok (.invokestatic 183, 3) := by decide +kernel
theorem dX10_generations_26 : decode cX10_generations 26 = .ok (.ifCond .eq 17, 3) := by decide +kernel
theorem dX10_generations_29 : decode cX10_generations 29 = .ok (.iload_n 3, 1) := by decide +kernel
theorem dX10_generations_30 : decode cX10_generations 30 = .ok (.aload_n 0, 1) := by decide +kernel
theorem dX10_generations_31 : decode cX10_generations 31 = .ok (.iload 4, 2) := by decide +kernel
theorem dX10_generations_33 : decode cX10_generations 33 = .ok (.iload_n 1, 1) := by decide +kernel
theorem dX10_generations_34 : decode cX10_generations 34 = .ok (.invokevirtual 180, 3) := by decide +kernel
theorem dX10_generations_37 : decode cX10_generations 37 = .ok (.invokestatic 193, 3) := by decide +kernel
theorem dX10_generations_40 : decode cX10_generations 40 = .ok (.goto 4, 3) := by decide +kernel
theorem dX10_generations_43 : decode cX10_generations 43 = .ok (.iload_n 3, 1) := by decide +kernel
theorem dX10_generations_44 : decode cX10_generations 44 = .ok (.istore_n 3, 1) := by decide +kernel
theorem dX10_generations_45 : decode cX10_generations 45 = .ok (.iinc 4 1, 3) := by decide +kernel
theorem dX10_generations_48 : decode cX10_generations 48 = .ok (.goto (-37), 3) := by decide +kernel
theorem dX10_generations_51 : decode cX10_generations 51 = .ok (.iload_n 3, 1) := by decide +kernel
theorem dX10_generations_52 : decode cX10_generations 52 = .ok (.ireturn, 1) := by decide +kernel
theorem dX10_couldMove_0 : decode cX10_couldMove 0 = .ok (.iconst 0, 1) := by decide +kernel
theorem dX10_couldMove_1 : decode cX10_couldMove 1 = .ok (.istore_n 3, 1) := by decide +kernel
theorem dX10_couldMove_2 : decode cX10_couldMove 2 = .ok (.iconst 0, 1) := by decide +kernel
theorem dX10_couldMove_3 : decode cX10_couldMove 3 = .ok (.istore 4, 2) := by decide +kernel
theorem dX10_couldMove_5 : decode cX10_couldMove 5 = .ok (.iload 4, 2) := by decide +kernel
theorem dX10_couldMove_7 : decode cX10_couldMove 7 = .ok (.aload_n 0, 1) := by decide +kernel
theorem dX10_couldMove_8 : decode cX10_couldMove 8 = .ok (.getfield 7, 3) := by decide +kernel
theorem dX10_couldMove_11 : decode cX10_couldMove 11 = .ok (.sipush 145, 3) := by decide +kernel
theorem dX10_couldMove_14 : decode cX10_couldMove 14 = .ok (.iaload, 1) := by decide +kernel
theorem dX10_couldMove_15 : decode cX10_couldMove 15 = .ok (.if_icmp .ge 31, 3) := by decide +kernel
theorem dX10_couldMove_18 : decode cX10_couldMove 18 = .ok (.iload_n 3, 1) := by decide +kernel
theorem dX10_couldMove_19 : decode cX10_couldMove 19 = .ok (.aload_n 0, 1) := by decide +kernel
theorem dX10_couldMove_20 : decode cX10_couldMove 20 = .ok (.iload_n 1, 1) := by decide +kernel
theorem dX10_couldMove_21 : decode cX10_couldMove 21 = .ok (.iload 4, 2) := by decide +kernel
theorem dX10_couldMove_23 : decode cX10_couldMove 23 = .ok (.iload_n 2, 1) := by decide +kernel
theorem dX10_couldMove_24 : decode cX10_couldMove 24 = .ok (.invokevirtual 265, 3) := by decide +kernel
theorem dX10_couldMove_27 : decode cX10_couldMove 27 = .ok (.ifCond .ne 10, 3) := by decide +kernel
theorem dX10_couldMove_30 : decode cX10_couldMove 30 = .ok (.iconst 1, 1) := by decide +kernel
theorem dX10_couldMove_31 : decode cX10_couldMove 31 = .ok (.iload 4, 2) := by decide +kernel
theorem dX10_couldMove_33 : decode cX10_couldMove 33 = .ok (.ishl, 1) := by decide +kernel
theorem dX10_couldMove_34 : decode cX10_couldMove 34 = .ok (.goto 4, 3) := by decide +kernel
theorem dX10_couldMove_37 : decode cX10_couldMove 37 = .ok (.iconst 0, 1) := by decide +kernel
theorem dX10_couldMove_38 : decode cX10_couldMove 38 = .ok (.ior, 1) := by decide +kernel
theorem dX10_couldMove_39 : decode cX10_couldMove 39 = .ok (.istore_n 3, 1) := by decide +kernel
theorem dX10_couldMove_40 : decode cX10_couldMove 40 = .ok (.iinc 4 1, 3) := by decide +kernel
theorem dX10_couldMove_43 : decode cX10_couldMove 43 = .ok (.goto (-38), 3) := by decide +kernel
theorem dX10_couldMove_46 : decode cX10_couldMove 46 = .ok (.iload_n 3, 1) := by decide +kernel
theorem dX10_couldMove_47 : decode cX10_couldMove 47 = .ok (.ireturn, 1) := by decide +kernel
theorem dX10_ofTree_0 : decode cX10_ofTree 0 = .ok (.aload_n 0, 1) := by decide +kernel
theorem dX10_ofTree_1 : decode cX10_ofTree 1 = .ok (.invokevirtual 282, 3) := by decide +kernel
theorem dX10_ofTree_4 : decode cX10_ofTree 4 = .ok (.aload_n 0, 1) := by decide +kernel
theorem dX10_ofTree_5 : decode cX10_ofTree 5 = .ok (.iload_n 2, 1) := by decide +kernel
theorem dX10_ofTree_6 : decode cX10_ofTree 6 = .ok (.invokevirtual 256, 3) := by decide +kernel
theorem dX10_ofTree_9 : decode cX10_ofTree 9 = .ok (.iload_n 3, 1) := by decide +kernel
theorem dX10_ofTree_10 : decode cX10_ofTree 10 = .ok (.tableswitch 148 0 10 #[58, 65, 74, 80, 86, 98, 104, 114, 129, 135, 141], 58) := by decide +kernel
theorem dX10_ofTree_68 : decode cX10_ofTree 68 = .ok (.aload_n 0, 1) := by decide +kernel
theorem dX10_ofTree_69 : decode cX10_ofTree 69 = .ok (.getfield 27, 3) := by decide +kernel
theorem dX10_ofTree_72 : decode cX10_ofTree 72 = .ok (.iload_n 1, 1) := by decide +kernel
theorem dX10_ofTree_73 : decode cX10_ofTree 73 = .ok (.iaload, 1) := by decide +kernel
theorem dX10_ofTree_74 : decode cX10_ofTree 74 = .ok (.ireturn, 1) := by decide +kernel
theorem dX10_ofTree_75 : decode cX10_ofTree 75 = .ok (.aload_n 0, 1) := by decide +kernel
theorem dX10_ofTree_76 : decode cX10_ofTree 76 = .ok (.iload_n 1, 1) := by decide +kernel
theorem dX10_ofTree_77 : decode cX10_ofTree 77 = .ok (.iconst (-1), 1) := by decide +kernel
theorem dX10_ofTree_78 : decode cX10_ofTree 78 = .ok (.invokevirtual 180, 3) := by decide +kernel
theorem dX10_ofTree_81 : decode cX10_ofTree 81 = .ok (.iconst 1, 1) := by decide +kernel
theorem dX10_ofTree_82 : decode cX10_ofTree 82 = .ok (.isub, 1) := by decide +kernel
theorem dX10_ofTree_83 : decode cX10_ofTree 83 = .ok (.ireturn, 1) := by decide +kernel
theorem dX10_ofTree_84 : decode cX10_ofTree 84 = .ok (.aload_n 0, 1) := by decide +kernel
theorem dX10_ofTree_85 : decode cX10_ofTree 85 = .ok (.iload_n 1, 1) := by decide +kernel
theorem dX10_ofTree_86 : decode cX10_ofTree 86 = .ok (.invokevirtual 196, 3) := by decide +kernel
theorem dX10_ofTree_89 : decode cX10_ofTree 89 = .ok (.ireturn, 1) := by decide +kernel
theorem dX10_ofTree_90 : decode cX10_ofTree 90 = .ok (.aload_n 0, 1) := by decide +kernel
theorem dX10_ofTree_91 : decode cX10_ofTree 91 = .ok (.iload_n 1, 1) := by decide +kernel
theorem dX10_ofTree_92 : decode cX10_ofTree 92 = .ok (.invokevirtual 203, 3) := by decide +kernel
theorem dX10_ofTree_95 : decode cX10_ofTree 95 = .ok (.ireturn, 1) := by decide +kernel
theorem dX10_ofTree_96 : decode cX10_ofTree 96 = .ok (.aload_n 0, 1) := by decide +kernel
theorem dX10_ofTree_97 : decode cX10_ofTree 97 = .ok (.getfield 34, 3) := by decide +kernel
theorem dX10_ofTree_100 : decode cX10_ofTree 100 = .ok (.bipush 100, 2) := by decide +kernel
theorem dX10_ofTree_102 : decode cX10_ofTree 102 = .ok (.iload_n 1, 1) := by decide +kernel
theorem dX10_ofTree_103 : decode cX10_ofTree 103 = .ok (.imul, 1) := by decide +kernel
theorem dX10_ofTree_104 : decode cX10_ofTree 104 = .ok (.iload_n 2, 1) := by decide +kernel
theorem dX10_ofTree_105 : decode cX10_ofTree 105 = .ok (.iadd, 1) := by decide +kernel
theorem dX10_ofTree_106 : decode cX10_ofTree 106 = .ok (.iaload, 1) := by decide +kernel
theorem dX10_ofTree_107 : decode cX10_ofTree 107 = .ok (.ireturn, 1) := by decide +kernel
theorem dX10_ofTree_108 : decode cX10_ofTree 108 = .ok (.aload_n 0, 1) := by decide +kernel
theorem dX10_ofTree_109 : decode cX10_ofTree 109 = .ok (.iload_n 1, 1) := by decide +kernel
theorem dX10_ofTree_110 : decode cX10_ofTree 110 = .ok (.invokevirtual 200, 3) := by decide +kernel
theorem dX10_ofTree_113 : decode cX10_ofTree 113 = .ok (.ireturn, 1) := by decide +kernel
theorem dX10_ofTree_114 : decode cX10_ofTree 114 = .ok (.aload_n 0, 1) := by decide +kernel
theorem dX10_ofTree_115 : decode cX10_ofTree 115 = .ok (.aload_n 0, 1) := by decide +kernel
theorem dX10_ofTree_116 : decode cX10_ofTree 116 = .ok (.iload_n 1, 1) := by decide +kernel
theorem dX10_ofTree_117 : decode cX10_ofTree 117 = .ok (.invokevirtual 196, 3) := by decide +kernel
theorem dX10_ofTree_120 : decode cX10_ofTree 120 = .ok (.invokevirtual 305, 3) := by decide +kernel
theorem dX10_ofTree_123 : decode cX10_ofTree 123 = .ok (.ireturn, 1) := by decide +kernel
theorem dX10_ofTree_124 : decode cX10_ofTree 124 = .ok (.aload_n 0, 1) := by decide +kernel
theorem dX10_ofTree_125 : decode cX10_ofTree 125 = .ok (.iload_n 1, 1) := by decide +kernel
theorem dX10_ofTree_126 : decode cX10_ofTree 126 = .ok (.iload_n 2, 1) := by decide +kernel
theorem dX10_ofTree_127 : decode cX10_ofTree 127 = .ok (.invokevirtual 206, 3) := by decide +kernel
theorem dX10_ofTree_130 : decode cX10_ofTree 130 = .ok (.ifCond .eq 7, 3) := by decide +kernel
theorem dX10_ofTree_133 : decode cX10_ofTree 133 = .ok (.iconst 1, 1) := by decide +kernel
theorem dX10_ofTree_134 : decode cX10_ofTree 134 = .ok (.goto 4, 3) := by decide +kernel
theorem dX10_ofTree_137 : decode cX10_ofTree 137 = .ok (.iconst 0, 1) := by decide +kernel
theorem dX10_ofTree_138 : decode cX10_ofTree 138 = .ok (.ireturn, 1) := by decide +kernel
theorem dX10_ofTree_139 : decode cX10_ofTree 139 = .ok (.aload_n 0, 1) := by decide +kernel
theorem dX10_ofTree_140 : decode cX10_ofTree 140 = .ok (.iload_n 1, 1) := by decide +kernel
theorem dX10_ofTree_141 : decode cX10_ofTree 141 = .ok (.invokevirtual 221, 3) := by decide +kernel
theorem dX10_ofTree_144 : decode cX10_ofTree 144 = .ok (.ireturn, 1) := by decide +kernel
theorem dX10_ofTree_145 : decode cX10_ofTree 145 = .ok (.aload_n 0, 1) := by decide +kernel
theorem dX10_ofTree_146 : decode cX10_ofTree 146 = .ok (.iload_n 1, 1) := by decide +kernel
theorem dX10_ofTree_147 : decode cX10_ofTree 147 = .ok (.invokevirtual 308, 3) := by decide +kernel
theorem dX10_ofTree_150 : decode cX10_ofTree 150 = .ok (.ireturn, 1) := by decide +kernel
theorem dX10_ofTree_151 : decode cX10_ofTree 151 = .ok (.aload_n 0, 1) := by decide +kernel
theorem dX10_ofTree_152 : decode cX10_ofTree 152 = .ok (.iload_n 1, 1) := by decide +kernel
theorem dX10_ofTree_153 : decode cX10_ofTree 153 = .ok (.iload_n 2, 1) := by decide +kernel
theorem dX10_ofTree_154 : decode cX10_ofTree 154 = .ok (.invokevirtual 311, 3) := by decide +kernel
theorem dX10_ofTree_157 : decode cX10_ofTree 157 = .ok (.ireturn, 1) := by decide +kernel
theorem dX10_ofTree_158 : decode cX10_ofTree 158 = .ok (.bipush (-2), 2) := by decide +kernel
theorem dX10_ofTree_160 : decode cX10_ofTree 160 = .ok (.ireturn, 1) := by decide +kernel
theorem dX10_tree_0 : decode cX10_tree 0 = .ok (.aload_n 0, 1) := by decide +kernel
theorem dX10_tree_1 : decode cX10_tree 1 = .ok (.iconst 0, 1) := by decide +kernel
theorem dX10_tree_2 : decode cX10_tree 2 = .ok (.putfield 52, 3) := by decide +kernel
theorem dX10_tree_5 : decode cX10_tree 5 = .ok (.iload_n 3, 1) := by decide +kernel
theorem dX10_tree_6 : decode cX10_tree 6 = .ok (.iconst 0, 1) := by decide +kernel
theorem dX10_tree_7 : decode cX10_tree 7 = .ok (.iconst 3, 1) := by decide +kernel
theorem dX10_tree_8 : decode cX10_tree 8 = .ok (.invokestatic 59, 3) := by decide +kernel
theorem dX10_tree_11 : decode cX10_tree 11 = .ok (.ifCond .ne 15, 3) := by decide +kernel
theorem dX10_tree_14 : decode cX10_tree 14 = .ok (.iload_n 3, 1) := by decide +kernel
theorem dX10_tree_15 : decode cX10_tree 15 = .ok (.bipush 9, 2) := by decide +kernel
theorem dX10_tree_17 : decode cX10_tree 17 = .ok (.if_icmp .eq 9, 3) := by decide +kernel
theorem dX10_tree_20 : decode cX10_tree 20 = .ok (.iload_n 3, 1) := by decide +kernel
theorem dX10_tree_21 : decode cX10_tree 21 = .ok (.bipush 10, 2) := by decide +kernel
theorem dX10_tree_23 : decode cX10_tree 23 = .ok (.if_icmp .ne 7, 3) := by decide +kernel
theorem dX10_tree_26 : decode cX10_tree 26 = .ok (.iconst 1, 1) := by decide +kernel
theorem dX10_tree_27 : decode cX10_tree 27 = .ok (.goto 4, 3) := by decide +kernel
theorem dX10_tree_30 : decode cX10_tree 30 = .ok (.iconst 0, 1) := by decide +kernel
theorem dX10_tree_31 : decode cX10_tree 31 = .ok (.istore 4, 2) := by decide +kernel
theorem dX10_tree_33 : decode cX10_tree 33 = .ok (.iload 4, 2) := by decide +kernel
theorem dX10_tree_35 : decode cX10_tree 35 = .ok (.ifCond .eq 18, 3) := by decide +kernel
theorem dX10_tree_38 : decode cX10_tree 38 = .ok (.bipush 99, 2) := by decide +kernel
theorem dX10_tree_40 : decode cX10_tree 40 = .ok (.aload_n 0, 1) := by decide +kernel
theorem dX10_tree_41 : decode cX10_tree 41 = .ok (.invokevirtual 218, 3) := by decide +kernel
theorem dX10_tree_44 : decode cX10_tree 44 = .ok (.bipush 6, 2) := by decide +kernel
theorem dX10_tree_46 : decode cX10_tree 46 = .ok (.iadd, 1) := by decide +kernel
theorem dX10_tree_47 : decode cX10_tree 47 = .ok (.invokestatic 127, 3) := by decide +kernel
theorem dX10_tree_50 : decode cX10_tree 50 = .ok (.goto 7, 3) := by decide +kernel
theorem dX10_tree_53 : decode cX10_tree 53 = .ok (.aload_n 0, 1) := by decide +kernel
theorem dX10_tree_54 : decode cX10_tree 54 = .ok (.invokevirtual 218, 3) := by decide +kernel
theorem dX10_tree_57 : decode cX10_tree 57 = .ok (.istore 5, 2) := by decide +kernel
theorem dX10_tree_59 : decode cX10_tree 59 = .ok (.aload_n 0, 1) := by decide +kernel
theorem dX10_tree_60 : decode cX10_tree 60 = .ok (.iload_n 1, 1) := by decide +kernel
theorem dX10_tree_61 : decode cX10_tree 61 = .ok (.invokevirtual 253, 3) := by decide +kernel
theorem dX10_tree_64 : decode cX10_tree 64 = .ok (.ifCond .eq 18, 3) := by decide +kernel
theorem dX10_tree_67 : decode cX10_tree 67 = .ok (.iload_n 2, 1) := by decide +kernel
theorem dX10_tree_68 : decode cX10_tree 68 = .ok (.aload_n 0, 1) := by decide +kernel
theorem dX10_tree_69 : decode cX10_tree 69 = .ok (.iload_n 1, 1) := by decide +kernel
theorem dX10_tree_70 : decode cX10_tree 70 = .ok (.iconst 0, 1) := by decide +kernel
theorem dX10_tree_71 : decode cX10_tree 71 = .ok (.invokevirtual 159, 3) := by decide +kernel
theorem dX10_tree_74 : decode cX10_tree 74 = .ok (.iload 5, 2) := by decide +kernel
theorem dX10_tree_76 : decode cX10_tree 76 = .ok (.invokestatic 59, 3) := by decide +kernel
theorem dX10_tree_79 : decode cX10_tree 79 = .ok (.ifCond .ne 6, 3) := by decide +kernel
theorem dX10_tree_82 : decode cX10_tree 82 = .ok (.bipush (-2), 2) := by decide +kernel
theorem dX10_tree_84 : decode cX10_tree 84 = .ok (.ireturn, 1) := by decide +kernel
theorem dX10_tree_85 : decode cX10_tree 85 = .ok (.aload_n 0, 1) := by decide +kernel
theorem dX10_tree_86 : decode cX10_tree 86 = .ok (.iload_n 1, 1) := by decide +kernel
theorem dX10_tree_87 : decode cX10_tree 87 = .ok (.iload_n 2, 1) := by decide +kernel
theorem dX10_tree_88 : decode cX10_tree 88 = .ok (.iload_n 3, 1) := by decide +kernel
theorem dX10_tree_89 : decode cX10_tree 89 = .ok (.invokevirtual 314, 3) := by decide +kernel
theorem dX10_tree_92 : decode cX10_tree 92 = .ok (.ireturn, 1) := by decide +kernel
theorem dX9_moved_0 : decode cX9_moved 0 = .ok (.aload_n 0, 1) := by decide +kernel
theorem dX9_moved_1 : decode cX9_moved 1 = .ok (.getfield 10, 3) := by decide +kernel
theorem dX9_moved_4 : decode cX9_moved 4 = .ok (.getfield 93, 3) := by decide +kernel
theorem dX9_moved_7 : decode cX9_moved 7 = .ok (.astore 4, 2) := by decide +kernel
theorem dX9_moved_9 : decode cX9_moved 9 = .ok (.aload 4, 2) := by decide +kernel
theorem dX9_moved_11 : decode cX9_moved 11 = .ok (.iload_n 1, 1) := by decide +kernel
theorem dX9_moved_12 : decode cX9_moved 12 = .ok (.invokevirtual 189, 3) := by decide +kernel
theorem dX9_moved_15 : decode cX9_moved 15 = .ok (.ifCond .eq 18, 3) := by decide +kernel
theorem dX9_moved_18 : decode cX9_moved 18 = .ok (.iload_n 2, 1) := by decide +kernel
theorem dX9_moved_19 : decode cX9_moved 19 = .ok (.ifCond .lt 14, 3) := by decide +kernel
theorem dX9_moved_22 : decode cX9_moved 22 = .ok (.iload_n 2, 1) := by decide +kernel
theorem dX9_moved_23 : decode cX9_moved 23 = .ok (.aload 4, 2) := by decide +kernel
theorem dX9_moved_25 : decode cX9_moved 25 = .ok (.getfield 221, 3) := by decide +kernel
theorem dX9_moved_28 : decode cX9_moved 28 = .ok (.iload_n 1, 1) := by decide +kernel
theorem dX9_moved_29 : decode cX9_moved 29 = .ok (.iaload, 1) := by decide +kernel
theorem dX9_moved_30 : decode cX9_moved 30 = .ok (.if_icmp .lt 6, 3) := by decide +kernel
theorem dX9_moved_33 : decode cX9_moved 33 = .ok (.bipush (-2), 2) := by decide +kernel
theorem dX9_moved_35 : decode cX9_moved 35 = .ok (.ireturn, 1) := by decide +kernel
theorem dX9_moved_36 : decode cX9_moved 36 = .ok (.iload_n 3, 1) := by decide +kernel
theorem dX9_moved_37 : decode cX9_moved 37 = .ok (.lookupswitch 53 #[(0, 27), (1, 40)], 27) := by decide +kernel
theorem dX9_moved_64 : decode cX9_moved 64 = .ok (.aload 4, 2) := by decide +kernel
theorem dX9_moved_66 : decode cX9_moved 66 = .ok (.getfield 276, 3) := by decide +kernel
theorem dX9_moved_69 : decode cX9_moved 69 = .ok (.iload_n 1, 1) := by decide +kernel
theorem dX9_moved_70 : decode cX9_moved 70 = .ok (.bipush 12, 2) := by decide +kernel
theorem dX9_moved_72 : decode cX9_moved 72 = .ok (.imul, 1) := by decide +kernel
theorem dX9_moved_73 : decode cX9_moved 73 = .ok (.iload_n 2, 1) := by decide +kernel
theorem dX9_moved_74 : decode cX9_moved 74 = .ok (.iadd, 1) := by decide +kernel
theorem dX9_moved_75 : decode cX9_moved 75 = .ok (.iaload, 1) := by decide +kernel
theorem dX9_moved_76 : decode cX9_moved 76 = .ok (.ireturn, 1) := by decide +kernel
theorem dX9_moved_77 : decode cX9_moved 77 = .ok (.aload 4, 2) := by decide +kernel
theorem dX9_moved_79 : decode cX9_moved 79 = .ok (.getfield 279, 3) := by decide +kernel
theorem dX9_moved_82 : decode cX9_moved 82 = .ok (.iload_n 1, 1) := by decide +kernel
theorem dX9_moved_83 : decode cX9_moved 83 = .ok (.bipush 12, 2) := by decide +kernel
theorem dX9_moved_85 : decode cX9_moved 85 = .ok (.imul, 1) := by decide +kernel
theorem dX9_moved_86 : decode cX9_moved 86 = .ok (.iload_n 2, 1) := by decide +kernel
theorem dX9_moved_87 : decode cX9_moved 87 = .ok (.iadd, 1) := by decide +kernel
theorem dX9_moved_88 : decode cX9_moved 88 = .ok (.iaload, 1) := by decide +kernel
theorem dX9_moved_89 : decode cX9_moved 89 = .ok (.ireturn, 1) := by decide +kernel
theorem dX9_moved_90 : decode cX9_moved 90 = .ok (.bipush (-2), 2) := by decide +kernel
theorem dX9_moved_92 : decode cX9_moved 92 = .ok (.ireturn, 1) := by decide +kernel
theorem dX10_moved_0 : decode cX10_moved 0 = .ok (.aload_n 0, 1) := by decide +kernel
theorem dX10_moved_1 : decode cX10_moved 1 = .ok (.iconst 0, 1) := by decide +kernel
theorem dX10_moved_2 : decode cX10_moved 2 = .ok (.putfield 52, 3) := by decide +kernel
theorem dX10_moved_5 : decode cX10_moved 5 = .ok (.aload_n 0, 1) := by decide +kernel
theorem dX10_moved_6 : decode cX10_moved 6 = .ok (.iload_n 1, 1) := by decide +kernel
theorem dX10_moved_7 : decode cX10_moved 7 = .ok (.invokevirtual 253, 3) := by decide +kernel
theorem dX10_moved_10 : decode cX10_moved 10 = .ok (.ifCond .eq 28, 3) := by decide +kernel
theorem dX10_moved_13 : decode cX10_moved 13 = .ok (.iload_n 2, 1) := by decide +kernel
theorem dX10_moved_14 : decode cX10_moved 14 = .ok (.iconst 0, 1) := by decide +kernel
theorem dX10_moved_15 : decode cX10_moved 15 = .ok (.aload_n 0, 1) := by decide +kernel
theorem dX10_moved_16 : decode cX10_moved 16 = .ok (.iload_n 1, 1) := by decide +kernel
theorem dX10_moved_17 : decode cX10_moved 17 = .ok (.iconst 4, 1) := by decide +kernel
theorem dX10_moved_18 : decode cX10_moved 18 = .ok (.invokevirtual 159, 3) := by decide +kernel
theorem dX10_moved_21 : decode cX10_moved 21 = .ok (.iconst 1, 1) := by decide +kernel
theorem dX10_moved_22 : decode cX10_moved 22 = .ok (.isub, 1) := by decide +kernel
theorem dX10_moved_23 : decode cX10_moved 23 = .ok (.invokestatic 59, 3) := by decide +kernel
theorem dX10_moved_26 : decode cX10_moved 26 = .ok (.ifCond .eq 12, 3) := by decide +kernel
theorem dX10_moved_29 : decode cX10_moved 29 = .ok (.iload_n 3, 1) := by decide +kernel
theorem dX10_moved_30 : decode cX10_moved 30 = .ok (.iconst 0, 1) := by decide +kernel
theorem dX10_moved_31 : decode cX10_moved 31 = .ok (.iconst 1, 1) := by decide +kernel
theorem dX10_moved_32 : decode cX10_moved 32 = .ok (.invokestatic 59, 3) := by decide +kernel
theorem dX10_moved_35 : decode cX10_moved 35 = .ok (.ifCond .ne 6, 3) := by decide +kernel
theorem dX10_moved_38 : decode cX10_moved 38 = .ok (.bipush (-2), 2) := by decide +kernel
theorem dX10_moved_40 : decode cX10_moved 40 = .ok (.ireturn, 1) := by decide +kernel
theorem dX10_moved_41 : decode cX10_moved 41 = .ok (.iconst 0, 1) := by decide +kernel
theorem dX10_moved_42 : decode cX10_moved 42 = .ok (.istore 4, 2) := by decide +kernel
theorem dX10_moved_44 : decode cX10_moved 44 = .ok (.iload 4, 2) := by decide +kernel
theorem dX10_moved_46 : decode cX10_moved 46 = .ok (.aload_n 0, 1) := by decide +kernel
theorem dX10_moved_47 : decode cX10_moved 47 = .ok (.iload_n 1, 1) := by decide +kernel
theorem dX10_moved_48 : decode cX10_moved 48 = .ok (.iconst 4, 1) := by decide +kernel
theorem dX10_moved_49 : decode cX10_moved 49 = .ok (.invokevirtual 159, 3) := by decide +kernel
theorem dX10_moved_52 : decode cX10_moved 52 = .ok (.if_icmp .ge 88, 3) := by decide +kernel
theorem dX10_moved_55 : decode cX10_moved 55 = .ok (.iconst 0, 1) := by decide +kernel
theorem dX10_moved_56 : decode cX10_moved 56 = .ok (.istore 5, 2) := by decide +kernel
theorem dX10_moved_58 : decode cX10_moved 58 = .ok (.iconst 0, 1) := by decide +kernel
theorem dX10_moved_59 : decode cX10_moved 59 = .ok (.istore 6, 2) := by decide +kernel
theorem dX10_moved_61 : decode cX10_moved 61 = .ok (.iload 6, 2) := by decide +kernel
theorem dX10_moved_63 : decode cX10_moved 63 = .ok (.aload_n 0, 1) := by decide +kernel
theorem dX10_moved_64 : decode cX10_moved 64 = .ok (.iload_n 1, 1) := by decide +kernel
theorem dX10_moved_65 : decode cX10_moved 65 = .ok (.iconst 4, 1) := by decide +kernel
theorem dX10_moved_66 : decode cX10_moved 66 = .ok (.invokevirtual 159, 3) := by decide +kernel
theorem dX10_moved_69 : decode cX10_moved 69 = .ok (.if_icmp .ge 40, 3) := by decide +kernel
theorem dX10_moved_72 : decode cX10_moved 72 = .ok (.iload 5, 2) := by decide +kernel
theorem dX10_moved_74 : decode cX10_moved 74 = .ok (.aload_n 0, 1) := by decide +kernel
theorem dX10_moved_75 : decode cX10_moved 75 = .ok (.iload_n 1, 1) := by decide +kernel
theorem dX10_moved_76 : decode cX10_moved 76 = .ok (.iconst 5, 1) := by decide +kernel
theorem dX10_moved_77 : decode cX10_moved 77 = .ok (.iload 6, 2) := by decide +kernel
theorem dX10_moved_79 : decode cX10_moved 79 = .ok (.iadd, 1) := by decide +kernel
theorem dX10_moved_80 : decode cX10_moved 80 = .ok (.invokevirtual 159, 3) := by decide +kernel
theorem dX10_moved_83 : decode cX10_moved 83 = .ok (.aload_n 0, 1) := by decide +kernel
theorem dX10_moved_84 : decode cX10_moved 84 = .ok (.iload_n 1, 1) := by decide +kernel
theorem dX10_moved_85 : decode cX10_moved 85 = .ok (.iconst 5, 1) := by decide +kernel
theorem dX10_moved_86 : decode cX10_moved 86 = .ok (.iload 4, 2) := by decide +kernel
theorem dX10_moved_88 : decode cX10_moved 88 = .ok (.iadd, 1) := by decide +kernel
theorem dX10_moved_89 : decode cX10_moved 89 = .ok (.invokevirtual 159, 3) := by decide +kernel
theorem dX10_moved_92 : decode cX10_moved 92 = .ok (.if_icmp .ge 7, 3) := by decide +kernel
theorem dX10_moved_95 : decode cX10_moved 95 = .ok (.iconst 1, 1) := by decide +kernel
theorem dX10_moved_96 : decode cX10_moved 96 = .ok (.goto 4, 3) := by decide +kernel
theorem dX10_moved_99 : decode cX10_moved 99 = .ok (.iconst 0, 1) := by decide +kernel
theorem dX10_moved_100 : decode cX10_moved 100 = .ok (.iadd, 1) := by decide +kernel
theorem dX10_moved_101 : decode cX10_moved 101 = .ok (.istore 5, 2) := by decide +kernel
theorem dX10_moved_103 : decode cX10_moved 103 = .ok (.iinc 6 1, 3) := by decide +kernel
theorem dX10_moved_106 : decode cX10_moved 106 = .ok (.goto (-45), 3) := by decide +kernel
theorem dX10_moved_109 : decode cX10_moved 109 = .ok (.iload 5, 2) := by decide +kernel
theorem dX10_moved_111 : decode cX10_moved 111 = .ok (.iload_n 2, 1) := by decide +kernel
theorem dX10_moved_112 : decode cX10_moved 112 = .ok (.if_icmp .ne 22, 3) := by decide +kernel
theorem dX10_moved_115 : decode cX10_moved 115 = .ok (.aload_n 0, 1) := by decide +kernel
theorem dX10_moved_116 : decode cX10_moved 116 = .ok (.iload_n 1, 1) := by decide +kernel
theorem dX10_moved_117 : decode cX10_moved 117 = .ok (.iload_n 3, 1) := by decide +kernel
theorem dX10_moved_118 : decode cX10_moved 118 = .ok (.ifCond .ne 7, 3) := by decide +kernel
theorem dX10_moved_121 : decode cX10_moved 121 = .ok (.iconst 5, 1) := by decide +kernel
theorem dX10_moved_122 : decode cX10_moved 122 = .ok (.goto 5, 3) := by decide +kernel
theorem dX10_moved_125 : decode cX10_moved 125 = .ok (.bipush 17, 2) := by decide +kernel
theorem dX10_moved_127 : decode cX10_moved 127 = .ok (.iload 4, 2) := by decide +kernel
theorem dX10_moved_129 : decode cX10_moved 129 = .ok (.iadd, 1) := by decide +kernel
theorem dX10_moved_130 : decode cX10_moved 130 = .ok (.invokevirtual 159, 3) := by decide +kernel
theorem dX10_moved_133 : decode cX10_moved 133 = .ok (.ireturn, 1) := by decide +kernel
theorem dX10_moved_134 : decode cX10_moved 134 = .ok (.iinc 4 1, 3) := by decide +kernel
theorem dX10_moved_137 : decode cX10_moved 137 = .ok (.goto (-93), 3) := by decide +kernel
theorem dX10_moved_140 : decode cX10_moved 140 = .ok (.bipush (-2), 2) := by decide +kernel
theorem dX10_moved_142 : decode cX10_moved 142 = .ok (.ireturn, 1) := by decide +kernel
theorem dX9_why_0 : decode cX9_why 0 = .ok (.aload_n 0, 1) := by decide +kernel
theorem dX9_why_1 : decode cX9_why 1 = .ok (.iload_n 1, 1) := by decide +kernel
theorem dX9_why_2 : decode cX9_why 2 = .ok (.iload_n 2, 1) := by decide +kernel
theorem dX9_why_3 : decode cX9_why 3 = .ok (.iload_n 3, 1) := by decide +kernel
theorem dX9_why_4 : decode cX9_why 4 = .ok (.invokevirtual 110, 3) := by decide +kernel
theorem dX9_why_7 : decode cX9_why 7 = .ok (.ireturn, 1) := by decide +kernel
theorem dX10_why_0 : decode cX10_why 0 = .ok (.aload_n 0, 1) := by decide +kernel
theorem dX10_why_1 : decode cX10_why 1 = .ok (.iconst 0, 1) := by decide +kernel
theorem dX10_why_2 : decode cX10_why 2 = .ok (.putfield 52, 3) := by decide +kernel
theorem dX10_why_5 : decode cX10_why 5 = .ok (.aload_n 0, 1) := by decide +kernel
theorem dX10_why_6 : decode cX10_why 6 = .ok (.iload_n 1, 1) := by decide +kernel
theorem dX10_why_7 : decode cX10_why 7 = .ok (.iload_n 2, 1) := by decide +kernel
theorem dX10_why_8 : decode cX10_why 8 = .ok (.iload_n 3, 1) := by decide +kernel
theorem dX10_why_9 : decode cX10_why 9 = .ok (.invokevirtual 265, 3) := by decide +kernel
theorem dX10_why_12 : decode cX10_why 12 = .ok (.ireturn, 1) := by decide +kernel
