theorem dX0_putMove_0 : decode cX0_putMove 0 = .ok (.iload_n 1, 1) := by decide +kernel
theorem dX0_putMove_1 : decode cX0_putMove 1 = .ok (.bipush 12, 2) := by decide +kernel
theorem dX0_putMove_3 : decode cX0_putMove 3 = .ok (.imul, 1) := by decide +kernel
theorem dX0_putMove_4 : decode cX0_putMove 4 = .ok (.istore 4, 2) := by decide +kernel
theorem dX0_putMove_6 : decode cX0_putMove 6 = .ok (.iconst 0, 1) := by decide +kernel
theorem dX0_putMove_7 : decode cX0_putMove 7 = .ok (.istore 5, 2) := by decide +kernel
theorem dX0_putMove_9 : decode cX0_putMove 9 = .ok (.iload 5, 2) := by decide +kernel
theorem dX0_putMove_11 : decode cX0_putMove 11 = .ok (.aload_n 0, 1) := by decide +kernel
theorem dX0_putMove_12 : decode cX0_putMove 12 = .ok (.getfield 25, 3) := by decide +kernel
theorem dX0_putMove_15 : decode cX0_putMove 15 = .ok (.iload_n 1, 1) := by decide +kernel
theorem dX0_putMove_16 : decode cX0_putMove 16 = .ok (.iaload, 1) := by decide +kernel
theorem dX0_putMove_17 : decode cX0_putMove 17 = .ok (.if_icmp .ge 23, 3) := by decide +kernel
theorem dX0_putMove_20 : decode cX0_putMove 20 = .ok (.aload_n 0, 1) := by decide +kernel
theorem dX0_putMove_21 : decode cX0_putMove 21 = .ok (.getfield 28, 3) := by decide +kernel
theorem dX0_putMove_24 : decode cX0_putMove 24 = .ok (.iload 4, 2) := by decide +kernel
theorem dX0_putMove_26 : decode cX0_putMove 26 = .ok (.iload 5, 2) := by decide +kernel
theorem dX0_putMove_28 : decode cX0_putMove 28 = .ok (.iadd, 1) := by decide +kernel
theorem dX0_putMove_29 : decode cX0_putMove 29 = .ok (.iaload, 1) := by decide +kernel
theorem dX0_putMove_30 : decode cX0_putMove 30 = .ok (.iload_n 3, 1) := by decide +kernel
theorem dX0_putMove_31 : decode cX0_putMove 31 = .ok (.if_icmp .ge 9, 3) := by decide +kernel
theorem dX0_putMove_34 : decode cX0_putMove 34 = .ok (.iinc 5 1, 3) := by decide +kernel
theorem dX0_putMove_37 : decode cX0_putMove 37 = .ok (.goto (-28), 3) := by decide +kernel
theorem dX0_putMove_40 : decode cX0_putMove 40 = .ok (.iload 5, 2) := by decide +kernel
theorem dX0_putMove_42 : decode cX0_putMove 42 = .ok (.aload_n 0, 1) := by decide +kernel
theorem dX0_putMove_43 : decode cX0_putMove 43 = .ok (.getfield 25, 3) := by decide +kernel
theorem dX0_putMove_46 : decode cX0_putMove 46 = .ok (.iload_n 1, 1) := by decide +kernel
theorem dX0_putMove_47 : decode cX0_putMove 47 = .ok (.iaload, 1) := by decide +kernel
theorem dX0_putMove_48 : decode cX0_putMove 48 = .ok (.if_icmp .ge 21, 3) := by decide +kernel
theorem dX0_putMove_51 : decode cX0_putMove 51 = .ok (.aload_n 0, 1) := by decide +kernel
theorem dX0_putMove_52 : decode cX0_putMove 52 = .ok (.getfield 28, 3) := by decide +kernel
theorem dX0_putMove_55 : decode cX0_putMove 55 = .ok (.iload 4, 2) := by decide +kernel
theorem dX0_putMove_57 : decode cX0_putMove 57 = .ok (.iload 5, 2) := by decide +kernel
theorem dX0_putMove_59 : decode cX0_putMove 59 = .ok (.iadd, 1) := by decide +kernel
theorem dX0_putMove_60 : decode cX0_putMove 60 = .ok (.iaload, 1) := by decide +kernel
theorem dX0_putMove_61 : decode cX0_putMove 61 = .ok (.iload_n 3, 1) := by decide +kernel
theorem dX0_putMove_62 : decode cX0_putMove 62 = .ok (.if_icmp .ne 7, 3) := by decide +kernel
theorem dX0_putMove_65 : decode cX0_putMove 65 = .ok (.iconst 1, 1) := by decide +kernel
theorem dX0_putMove_66 : decode cX0_putMove 66 = .ok (.goto 4, 3) := by decide +kernel
theorem dX0_putMove_69 : decode cX0_putMove 69 = .ok (.iconst 0, 1) := by decide +kernel
theorem dX0_putMove_70 : decode cX0_putMove 70 = .ok (.istore 6, 2) := by decide +kernel
theorem dX0_putMove_72 : decode cX0_putMove 72 = .ok (.iload 6, 2) := by decide +kernel
theorem dX0_putMove_74 : decode cX0_putMove 74 = .ok (.ifCond .ne 90, 3) := by decide +kernel
theorem dX0_putMove_77 : decode cX0_putMove 77 = .ok (.aload_n 0, 1) := by decide +kernel
theorem dX0_putMove_78 : decode cX0_putMove 78 = .ok (.getfield 25, 3) := by decide +kernel
theorem dX0_putMove_81 : decode cX0_putMove 81 = .ok (.iload_n 1, 1) := by decide +kernel
theorem dX0_putMove_82 : decode cX0_putMove 82 = .ok (.iaload, 1) := by decide +kernel
theorem dX0_putMove_83 : decode cX0_putMove 83 = .ok (.bipush 12, 2) := by decide +kernel
theorem dX0_putMove_85 : decode cX0_putMove 85 = .ok (.if_icmp .lt 4, 3) := by decide +kernel
theorem dX0_putMove_88 : decode cX0_putMove 88 = .ok (.return_, 1) := by decide +kernel
theorem dX0_putMove_89 : decode cX0_putMove 89 = .ok (.aload_n 0, 1) := by decide +kernel
theorem dX0_putMove_90 : decode cX0_putMove 90 = .ok (.getfield 25, 3) := by decide +kernel
theorem dX0_putMove_93 : decode cX0_putMove 93 = .ok (.iload_n 1, 1) := by decide +kernel
theorem dX0_putMove_94 : decode cX0_putMove 94 = .ok (.iaload, 1) := by decide +kernel
theorem dX0_putMove_95 : decode cX0_putMove 95 = .ok (.istore 7, 2) := by decide +kernel
theorem dX0_putMove_97 : decode cX0_putMove 97 = .ok (.iload 7, 2) := by decide +kernel
theorem dX0_putMove_99 : decode cX0_putMove 99 = .ok (.iload 5, 2) := by decide +kernel
theorem dX0_putMove_101 : decode cX0_putMove 101 = .ok (.if_icmp .le 53, 3) := by decide +kernel
theorem dX0_putMove_104 : decode cX0_putMove 104 = .ok (.aload_n 0, 1) := by decide +kernel
theorem dX0_putMove_105 : decode cX0_putMove 105 = .ok (.getfield 28, 3) := by decide +kernel
theorem dX0_putMove_108 : decode cX0_putMove 108 = .ok (.iload 4, 2) := by decide +kernel
theorem dX0_putMove_110 : decode cX0_putMove 110 = .ok (.iload 7, 2) := by decide +kernel
theorem dX0_putMove_112 : decode cX0_putMove 112 = .ok (.iadd, 1) := by decide +kernel
theorem dX0_putMove_113 : decode cX0_putMove 113 = .ok (.aload_n 0, 1) := by decide +kernel
theorem dX0_putMove_114 : decode cX0_putMove 114 = .ok (.getfield 28, 3) := by decide +kernel
theorem dX0_putMove_117 : decode cX0_putMove 117 = .ok (.iload 4, 2) := by decide +kernel
theorem dX0_putMove_119 : decode cX0_putMove 119 = .ok (.iload 7, 2) := by decide +kernel
theorem dX0_putMove_121 : decode cX0_putMove 121 = .ok (.iadd, 1) := by decide +kernel
theorem dX0_putMove_122 : decode cX0_putMove 122 = .ok (.iconst 1, 1) := by decide +kernel
theorem dX0_putMove_123 : decode cX0_putMove 123 = .ok (.isub, 1) := by decide +kernel
theorem dX0_putMove_124 : decode cX0_putMove 124 = .ok (.iaload, 1) := by decide +kernel
theorem dX0_putMove_125 : decode cX0_putMove 125 = .ok (.iastore, 1) := by decide +kernel
theorem dX0_putMove_126 : decode cX0_putMove 126 = .ok (.aload_n 0, 1) := by decide +kernel
theorem dX0_putMove_127 : decode cX0_putMove 127 = .ok (.getfield 31, 3) := by decide +kernel
theorem dX0_putMove_130 : decode cX0_putMove 130 = .ok (.iload 4, 2) := by decide +kernel
theorem dX0_putMove_132 : decode cX0_putMove 132 = .ok (.iload 7, 2) := by decide +kernel
theorem dX0_putMove_134 : decode cX0_putMove 134 = .ok (.iadd, 1) := by decide +kernel
theorem dX0_putMove_135 : decode cX0_putMove 135 = .ok (.aload_n 0, 1) := by decide +kernel
theorem dX0_putMove_136 : decode cX0_putMove 136 = .ok (.getfield 31, 3) := by decide +kernel
theorem dX0_putMove_139 : decode cX0_putMove 139 = .ok (.iload 4, 2) := by decide +kernel
theorem dX0_putMove_141 : decode cX0_putMove 141 = .ok (.iload 7, 2) := by decide +kernel
theorem dX0_putMove_143 : decode cX0_putMove 143 = .ok (.iadd, 1) := by decide +kernel
theorem dX0_putMove_144 : decode cX0_putMove 144 = .ok (.iconst 1, 1) := by decide +kernel
theorem dX0_putMove_145 : decode cX0_putMove 145 = .ok (.isub, 1) := by decide +kernel
theorem dX0_putMove_146 : decode cX0_putMove 146 = .ok (.iaload, 1) := by decide +kernel
theorem dX0_putMove_147 : decode cX0_putMove 147 = .ok (.iastore, 1) := by decide +kernel
theorem dX0_putMove_148 : decode cX0_putMove 148 = .ok (.iinc 7 (-1), 3) := by decide +kernel
theorem dX0_putMove_151 : decode cX0_putMove 151 = .ok (.goto (-54), 3) := by decide +kernel
theorem dX0_putMove_154 : decode cX0_putMove 154 = .ok (.aload_n 0, 1) := by decide +kernel
theorem dX0_putMove_155 : decode cX0_putMove 155 = .ok (.getfield 25, 3) := by decide +kernel
theorem dX0_putMove_158 : decode cX0_putMove 158 = .ok (.iload_n 1, 1) := by decide +kernel
theorem dX0_putMove_159 : decode cX0_putMove 159 = .ok (.dup2, 1) := by decide +kernel
theorem dX0_putMove_160 : decode cX0_putMove 160 = .ok (.iaload, 1) := by decide +kernel
theorem dX0_putMove_161 : decode cX0_putMove 161 = .ok (.iconst 1, 1) := by decide +kernel
theorem dX0_putMove_162 : decode cX0_putMove 162 = .ok (.iadd, 1) := by decide +kernel
theorem dX0_putMove_163 : decode cX0_putMove 163 = .ok (.iastore, 1) := by decide +kernel
theorem dX0_putMove_164 : decode cX0_putMove 164 = .ok (.aload_n 0, 1) := by decide +kernel
theorem dX0_putMove_165 : decode cX0_putMove 165 = .ok (.getfield 28, 3) := by decide +kernel
theorem dX0_putMove_168 : decode cX0_putMove 168 = .ok (.iload 4, 2) := by decide +kernel
theorem dX0_putMove_170 : decode cX0_putMove 170 = .ok (.iload 5, 2) := by decide +kernel
theorem dX0_putMove_172 : decode cX0_putMove 172 = .ok (.iadd, 1) := by decide +kernel
theorem dX0_putMove_173 : decode cX0_putMove 173 = .ok (.iload_n 3, 1) := by decide +kernel
theorem dX0_putMove_174 : decode cX0_putMove 174 = .ok (.iastore, 1) := by decide +kernel
theorem dX0_putMove_175 : decode cX0_putMove 175 = .ok (.aload_n 0, 1) := by decide +kernel
theorem dX0_putMove_176 : decode cX0_putMove 176 = .ok (.getfield 31, 3) := by decide +kernel
theorem dX0_putMove_179 : decode cX0_putMove 179 = .ok (.iload 4, 2) := by decide +kernel
theorem dX0_putMove_181 : decode cX0_putMove 181 = .ok (.iload 5, 2) := by decide +kernel
theorem dX0_putMove_183 : decode cX0_putMove 183 = .ok (.iadd, 1) := by decide +kernel
theorem dX0_putMove_184 : decode cX0_putMove 184 = .ok (.iload_n 2, 1) := by decide +kernel
theorem dX0_putMove_185 : decode cX0_putMove 185 = .ok (.iastore, 1) := by decide +kernel
theorem dX0_putMove_186 : decode cX0_putMove 186 = .ok (.return_, 1) := by decide +kernel
theorem dX9_move_0 : decode cX9_move 0 = .ok (.aload_n 0, 1) := by decide +kernel
theorem dX9_move_1 : decode cX9_move 1 = .ok (.iload_n 1, 1) := by decide +kernel
theorem dX9_move_2 : decode cX9_move 2 = .ok (.iload_n 2, 1) := by decide +kernel
theorem dX9_move_3 : decode cX9_move 3 = .ok (.iload_n 3, 1) := by decide +kernel
theorem dX9_move_4 : decode cX9_move 4 = .ok (.invokevirtual 110, 3) := by decide +kernel
theorem dX9_move_7 : decode cX9_move 7 = .ok (.istore 4, 2) := by decide +kernel
theorem dX9_move_9 : decode cX9_move 9 = .ok (.iload 4, 2) := by decide +kernel
theorem dX9_move_11 : decode cX9_move 11 = .ok (.ifCond .ne 16, 3) := by decide +kernel
theorem dX9_move_14 : decode cX9_move 14 = .ok (.aload_n 0, 1) := by decide +kernel
theorem dX9_move_15 : decode cX9_move 15 = .ok (.getfield 10, 3) := by decide +kernel
theorem dX9_move_18 : decode cX9_move 18 = .ok (.getfield 93, 3) := by decide +kernel
theorem dX9_move_21 : decode cX9_move 21 = .ok (.iload_n 1, 1) := by decide +kernel
theorem dX9_move_22 : decode cX9_move 22 = .ok (.iload_n 2, 1) := by decide +kernel
theorem dX9_move_23 : decode cX9_move 23 = .ok (.iload_n 3, 1) := by decide +kernel
theorem dX9_move_24 : decode cX9_move 24 = .ok (.invokevirtual 114, 3) := by decide +kernel
theorem dX9_move_27 : decode cX9_move 27 = .ok (.iload 4, 2) := by decide +kernel
theorem dX9_move_29 : decode cX9_move 29 = .ok (.ireturn, 1) := by decide +kernel
theorem dX10_sponsorAt_0 : decode cX10_sponsorAt 0 = .ok (.aload_n 0, 1) := by decide +kernel
theorem dX10_sponsorAt_1 : decode cX10_sponsorAt 1 = .ok (.iload_n 1, 1) := by decide +kernel
theorem dX10_sponsorAt_2 : decode cX10_sponsorAt 2 = .ok (.iconst 2, 1) := by decide +kernel
theorem dX10_sponsorAt_3 : decode cX10_sponsorAt 3 = .ok (.invokevirtual 159, 3) := by decide +kernel
theorem dX10_sponsorAt_6 : decode cX10_sponsorAt 6 = .ok (.istore_n 3, 1) := by decide +kernel
theorem dX10_sponsorAt_7 : decode cX10_sponsorAt 7 = .ok (.iconst (-1), 1) := by decide +kernel
theorem dX10_sponsorAt_8 : decode cX10_sponsorAt 8 = .ok (.istore 4, 2) := by decide +kernel
theorem dX10_sponsorAt_10 : decode cX10_sponsorAt 10 = .ok (.iload_n 1, 1) := by decide +kernel
theorem dX10_sponsorAt_11 : decode cX10_sponsorAt 11 = .ok (.aload_n 0, 1) := by decide +kernel
theorem dX10_sponsorAt_12 : decode cX10_sponsorAt 12 = .ok (.getfield 23, 3) := by decide +kernel
theorem dX10_sponsorAt_15 : decode cX10_sponsorAt 15 = .ok (.if_icmp .ne 7, 3) := by decide +kernel
theorem dX10_sponsorAt_18 : decode cX10_sponsorAt 18 = .ok (.iconst 1, 1) := by decide +kernel
theorem dX10_sponsorAt_19 : decode cX10_sponsorAt 19 = .ok (.goto 4, 3) := by decide +kernel
theorem dX10_sponsorAt_22 : decode cX10_sponsorAt 22 = .ok (.iconst 0, 1) := by decide +kernel
theorem dX10_sponsorAt_23 : decode cX10_sponsorAt 23 = .ok (.istore 5, 2) := by decide +kernel
theorem dX10_sponsorAt_25 : decode cX10_sponsorAt 25 = .ok (.iconst 0, 1) := by decide +kernel
theorem dX10_sponsorAt_26 : decode cX10_sponsorAt 26 = .ok (.istore 6, 2) := by decide +kernel
theorem dX10_sponsorAt_28 : decode cX10_sponsorAt 28 = .ok (.iload 6, 2) := by decide +kernel
theorem dX10_sponsorAt_30 : decode cX10_sponsorAt 30 = .ok (.aload_n 0, 1) := by decide +kernel
theorem dX10_sponsorAt_31 : decode cX10_sponsorAt 31 = .ok (.iload_n 1, 1) := by decide +kernel
theorem dX10_sponsorAt_32 : decode cX10_sponsorAt 32 = .ok (.iconst 4, 1) := by decide +kernel
theorem dX10_sponsorAt_33 : decode cX10_sponsorAt 33 = .ok (.invokevirtual 159, 3) := by decide +kernel
theorem dX10_sponsorAt_36 : decode cX10_sponsorAt 36 = .ok (.if_icmp .ge 62, 3) := by decide +kernel
theorem dX10_sponsorAt_39 : decode cX10_sponsorAt 39 = .ok (.aload_n 0, 1) := by decide +kernel
theorem dX10_sponsorAt_40 : decode cX10_sponsorAt 40 = .ok (.iload_n 1, 1) := by decide +kernel
theorem dX10_sponsorAt_41 : decode cX10_sponsorAt 41 = .ok (.iconst 5, 1) := by decide +kernel
theorem dX10_sponsorAt_42 : decode cX10_sponsorAt 42 = .ok (.iload 6, 2) := by decide +kernel
theorem dX10_sponsorAt_44 : decode cX10_sponsorAt 44 = .ok (.iadd, 1) := by decide +kernel
theorem dX10_sponsorAt_45 : decode cX10_sponsorAt 45 = .ok (.invokevirtual 159, 3) := by decide +kernel
theorem dX10_sponsorAt_48 : decode cX10_sponsorAt 48 = .ok (.istore 7, 2) := by decide +kernel
theorem dX10_sponsorAt_50 : decode cX10_sponsorAt 50 = .ok (.iload 7, 2) := by decide +kernel
theorem dX10_sponsorAt_52 : decode cX10_sponsorAt 52 = .ok (.iload_n 2, 1) := by decide +kernel
theorem dX10_sponsorAt_53 : decode cX10_sponsorAt 53 = .ok (.if_icmp .gt 39, 3) := by decide +kernel
theorem dX10_sponsorAt_56 : decode cX10_sponsorAt 56 = .ok (.iload 7, 2) := by decide +kernel
theorem dX10_sponsorAt_58 : decode cX10_sponsorAt 58 = .ok (.iload 4, 2) := by decide +kernel
theorem dX10_sponsorAt_60 : decode cX10_sponsorAt 60 = .ok (.if_icmp .le 32, 3) := by decide +kernel
theorem dX10_sponsorAt_63 : decode cX10_sponsorAt 63 = .ok (.iload 5, 2) := by decide +kernel
theorem dX10_sponsorAt_65 : decode cX10_sponsorAt 65 = .ok (.ifCond .eq 12, 3) := by decide +kernel
theorem dX10_sponsorAt_68 : decode cX10_sponsorAt 68 = .ok (.iload 7, 2) := by decide +kernel
theorem dX10_sponsorAt_70 : decode cX10_sponsorAt 70 = .ok (.aload_n 0, 1) := by decide +kernel
theorem dX10_sponsorAt_71 : decode cX10_sponsorAt 71 = .ok (.getfield 165, 3) := by decide +kernel
theorem dX10_sponsorAt_74 : decode cX10_sponsorAt 74 = .ok (.if_icmp .eq 18, 3) := by decide +kernel
theorem dX10_sponsorAt_77 : decode cX10_sponsorAt 77 = .ok (.aload_n 0, 1) := by decide +kernel
theorem dX10_sponsorAt_78 : decode cX10_sponsorAt 78 = .ok (.iload_n 1, 1) := by decide +kernel
theorem dX10_sponsorAt_79 : decode cX10_sponsorAt 79 = .ok (.bipush 17, 2) := by decide +kernel
theorem dX10_sponsorAt_81 : decode cX10_sponsorAt 81 = .ok (.iload 6, 2) := by decide +kernel
theorem dX10_sponsorAt_83 : decode cX10_sponsorAt 83 = .ok (.iadd, 1) := by decide +kernel
theorem dX10_sponsorAt_84 : decode cX10_sponsorAt 84 = .ok (.invokevirtual 159, 3) := by decide +kernel
theorem dX10_sponsorAt_87 : decode cX10_sponsorAt 87 = .ok (.istore_n 3, 1) := by decide +kernel
theorem dX10_sponsorAt_88 : decode cX10_sponsorAt 88 = .ok (.iload 7, 2) := by decide +kernel
theorem dX10_sponsorAt_90 : decode cX10_sponsorAt 90 = .ok (.istore 4, 2) := by decide +kernel
theorem dX10_sponsorAt_92 : decode cX10_sponsorAt 92 = .ok (.iinc 6 1, 3) := by decide +kernel
theorem dX10_sponsorAt_95 : decode cX10_sponsorAt 95 = .ok (.goto (-67), 3) := by decide +kernel
theorem dX10_sponsorAt_98 : decode cX10_sponsorAt 98 = .ok (.iload 5, 2) := by decide +kernel
theorem dX10_sponsorAt_100 : decode cX10_sponsorAt 100 = .ok (.ifCond .eq 27, 3) := by decide +kernel
theorem dX10_sponsorAt_103 : decode cX10_sponsorAt 103 = .ok (.aload_n 0, 1) := by decide +kernel
theorem dX10_sponsorAt_104 : decode cX10_sponsorAt 104 = .ok (.getfield 165, 3) := by decide +kernel
theorem dX10_sponsorAt_107 : decode cX10_sponsorAt 107 = .ok (.iload_n 2, 1) := by decide +kernel
theorem dX10_sponsorAt_108 : decode cX10_sponsorAt 108 = .ok (.if_icmp .gt 19, 3) := by decide +kernel
theorem dX10_sponsorAt_111 : decode cX10_sponsorAt 111 = .ok (.aload_n 0, 1) := by decide +kernel
theorem dX10_sponsorAt_112 : decode cX10_sponsorAt 112 = .ok (.getfield 165, 3) := by decide +kernel
theorem dX10_sponsorAt_115 : decode cX10_sponsorAt 115 = .ok (.iload 4, 2) := by decide +kernel
theorem dX10_sponsorAt_117 : decode cX10_sponsorAt 117 = .ok (.if_icmp .le 10, 3) := by decide +kernel
theorem dX10_sponsorAt_120 : decode cX10_sponsorAt 120 = .ok (.aload_n 0, 1) := by decide +kernel
theorem dX10_sponsorAt_121 : decode cX10_sponsorAt 121 = .ok (.getfield 168, 3) := by decide +kernel
theorem dX10_sponsorAt_124 : decode cX10_sponsorAt 124 = .ok (.goto 4, 3) := by decide +kernel
theorem dX10_sponsorAt_127 : decode cX10_sponsorAt 127 = .ok (.iload_n 3, 1) := by decide +kernel
theorem dX10_sponsorAt_128 : decode cX10_sponsorAt 128 = .ok (.ireturn, 1) := by decide +kernel
theorem dX10_laysMonth_0 : decode cX10_laysMonth 0 = .ok (.aload_n 0, 1) := by decide +kernel
theorem dX10_laysMonth_1 : decode cX10_laysMonth 1 = .ok (.iload_n 1, 1) := by decide +kernel
theorem dX10_laysMonth_2 : decode cX10_laysMonth 2 = .ok (.putfield 171, 3) := by decide +kernel
theorem dX10_laysMonth_5 : decode cX10_laysMonth 5 = .ok (.aload_n 0, 1) := by decide +kernel
theorem dX10_laysMonth_6 : decode cX10_laysMonth 6 = .ok (.aload_n 0, 1) := by decide +kernel
theorem dX10_laysMonth_7 : decode cX10_laysMonth 7 = .ok (.getfield 7, 3) := by decide +kernel
theorem dX10_laysMonth_10 : decode cX10_laysMonth 10 = .ok (.sipush 145, 3) := by decide +kernel
theorem dX10_laysMonth_13 : decode cX10_laysMonth 13 = .ok (.iaload, 1) := by decide +kernel
theorem dX10_laysMonth_14 : decode cX10_laysMonth 14 = .ok (.putfield 174, 3) := by decide +kernel
theorem dX10_laysMonth_17 : decode cX10_laysMonth 17 = .ok (.iconst 0, 1) := by decide +kernel
theorem dX10_laysMonth_18 : decode cX10_laysMonth 18 = .ok (.istore_n 2, 1) := by decide +kernel
theorem dX10_laysMonth_19 : decode cX10_laysMonth 19 = .ok (.iload_n 2, 1) := by decide +kernel
theorem dX10_laysMonth_20 : decode cX10_laysMonth 20 = .ok (.aload_n 0, 1) := by decide +kernel
theorem dX10_laysMonth_21 : decode cX10_laysMonth 21 = .ok (.getfield 174, 3) := by decide +kernel
theorem dX10_laysMonth_24 : decode cX10_laysMonth 24 = .ok (.if_icmp .ge 42, 3) := by decide +kernel
theorem dX10_laysMonth_27 : decode cX10_laysMonth 27 = .ok (.aload_n 0, 1) := by decide +kernel
theorem dX10_laysMonth_28 : decode cX10_laysMonth 28 = .ok (.getfield 27, 3) := by decide +kernel
theorem dX10_laysMonth_31 : decode cX10_laysMonth 31 = .ok (.iload_n 2, 1) := by decide +kernel
theorem dX10_laysMonth_32 : decode cX10_laysMonth 32 = .ok (.aload_n 0, 1) := by decide +kernel
theorem dX10_laysMonth_33 : decode cX10_laysMonth 33 = .ok (.iload_n 2, 1) := by decide +kernel
theorem dX10_laysMonth_34 : decode cX10_laysMonth 34 = .ok (.iload_n 1, 1) := by decide +kernel
theorem dX10_laysMonth_35 : decode cX10_laysMonth 35 = .ok (.invokevirtual 177, 3) := by decide +kernel
theorem dX10_laysMonth_38 : decode cX10_laysMonth 38 = .ok (.iastore, 1) := by decide +kernel
theorem dX10_laysMonth_39 : decode cX10_laysMonth 39 = .ok (.aload_n 0, 1) := by decide +kernel
theorem dX10_laysMonth_40 : decode cX10_laysMonth 40 = .ok (.getfield 30, 3) := by decide +kernel
theorem dX10_laysMonth_43 : decode cX10_laysMonth 43 = .ok (.iload_n 2, 1) := by decide +kernel
theorem dX10_laysMonth_44 : decode cX10_laysMonth 44 = .ok (.aload_n 0, 1) := by decide +kernel
theorem dX10_laysMonth_45 : decode cX10_laysMonth 45 = .ok (.iload_n 2, 1) := by decide +kernel
theorem dX10_laysMonth_46 : decode cX10_laysMonth 46 = .ok (.iconst 0, 1) := by decide +kernel
theorem dX10_laysMonth_47 : decode cX10_laysMonth 47 = .ok (.invokevirtual 159, 3) := by decide +kernel
theorem dX10_laysMonth_50 : decode cX10_laysMonth 50 = .ok (.iload_n 1, 1) := by decide +kernel
theorem dX10_laysMonth_51 : decode cX10_laysMonth 51 = .ok (.if_icmp .gt 7, 3) := by decide +kernel
theorem dX10_laysMonth_54 : decode cX10_laysMonth 54 = .ok (.iconst 1, 1) := by decide +kernel
theorem dX10_laysMonth_55 : decode cX10_laysMonth 55 = .ok (.goto 4, 3) := by decide +kernel
theorem dX10_laysMonth_58 : decode cX10_laysMonth 58 = .ok (.iconst 0, 1) := by decide +kernel
theorem dX10_laysMonth_59 : decode cX10_laysMonth 59 = .ok (.bastore, 1) := by decide +kernel
theorem dX10_laysMonth_60 : decode cX10_laysMonth 60 = .ok (.iinc 2 1, 3) := by decide +kernel
theorem dX10_laysMonth_63 : decode cX10_laysMonth 63 = .ok (.goto (-44), 3) := by decide +kernel
theorem dX10_laysMonth_66 : decode cX10_laysMonth 66 = .ok (.return_, 1) := by decide +kernel
theorem dX10_stepsUp_0 : decode cX10_stepsUp 0 = .ok (.iload_n 1, 1) := by decide +kernel
theorem dX10_stepsUp_1 : decode cX10_stepsUp 1 = .ok (.istore_n 3, 1) := by decide +kernel
theorem dX10_stepsUp_2 : decode cX10_stepsUp 2 = .ok (.iconst 0, 1) := by decide +kernel
theorem dX10_stepsUp_3 : decode cX10_stepsUp 3 = .ok (.istore 4, 2) := by decide +kernel
theorem dX10_stepsUp_5 : decode cX10_stepsUp 5 = .ok (.iload_n 3, 1) := by decide +kernel
theorem dX10_stepsUp_6 : decode cX10_stepsUp 6 = .ok (.iload_n 2, 1) := by decide +kernel
theorem dX10_stepsUp_7 : decode cX10_stepsUp 7 = .ok (.if_icmp .eq 30, 3) := by decide +kernel
theorem dX10_stepsUp_10 : decode cX10_stepsUp 10 = .ok (.iload_n 3, 1) := by decide +kernel
theorem dX10_stepsUp_11 : decode cX10_stepsUp 11 = .ok (.iconst (-1), 1) := by decide +kernel
theorem dX10_stepsUp_12 : decode cX10_stepsUp 12 = .ok (.if_icmp .eq 25, 3) := by decide +kernel
theorem dX10_stepsUp_15 : decode cX10_stepsUp 15 = .ok (.iload 4, 2) := by decide +kernel
theorem dX10_stepsUp_17 : decode cX10_stepsUp 17 = .ok (.aload_n 0, 1) := by decide +kernel
theorem dX10_stepsUp_18 : decode cX10_stepsUp 18 = .ok (.getfield 174, 3) := by decide +kernel
theorem dX10_stepsUp_21 : decode cX10_stepsUp 21 = .ok (.if_icmp .gt 16, 3) := by decide +kernel
theorem dX10_stepsUp_24 : decode cX10_stepsUp 24 = .ok (.aload_n 0, 1) := by decide +kernel
theorem dX10_stepsUp_25 : decode cX10_stepsUp 25 = .ok (.getfield 27, 3) := by decide +kernel
theorem dX10_stepsUp_28 : decode cX10_stepsUp 28 = .ok (.iload_n 3, 1) := by decide +kernel
theorem dX10_stepsUp_29 : decode cX10_stepsUp 29 = .ok (.iaload, 1) := by decide +kernel
theorem dX10_stepsUp_30 : decode cX10_stepsUp 30 = .ok (.istore_n 3, 1) := by decide +kernel
theorem dX10_stepsUp_31 : decode cX10_stepsUp 31 = .ok (.iinc 4 1, 3) := by decide +kernel
theorem dX10_stepsUp_34 : decode cX10_stepsUp 34 = .ok (.goto (-29), 3) := by decide +kernel
theorem dX10_stepsUp_37 : decode cX10_stepsUp 37 = .ok (.iload_n 3, 1) := by decide +kernel
theorem dX10_stepsUp_38 : decode cX10_stepsUp 38 = .ok (.iload_n 2, 1) := by decide +kernel
theorem dX10_stepsUp_39 : decode cX10_stepsUp 39 = .ok (.if_icmp .ne 17, 3) := by decide +kernel
theorem dX10_stepsUp_42 : decode cX10_stepsUp 42 = .ok (.iload 4, 2) := by decide +kernel
theorem dX10_stepsUp_44 : decode cX10_stepsUp 44 = .ok (.aload_n 0, 1) := by decide +kernel
theorem dX10_stepsUp_45 : decode cX10_stepsUp 45 = .ok (.getfield 174, 3) := by decide +kernel
theorem dX10_stepsUp_48 : decode cX10_stepsUp 48 = .ok (.if_icmp .gt 8, 3) := by decide +kernel
theorem dX10_stepsUp_51 : decode cX10_stepsUp 51 = .ok (.iload 4, 2) := by decide +kernel
theorem dX10_stepsUp_53 : decode cX10_stepsUp 53 = .ok (.goto 4, 3) := by decide +kernel
theorem dX10_stepsUp_56 : decode cX10_stepsUp 56 = .ok (.iconst (-1), 1) := by decide +kernel
theorem dX10_stepsUp_57 : decode cX10_stepsUp 57 = .ok (.ireturn, 1) := by decide +kernel
theorem dX10_turnsRound_0 : decode cX10_turnsRound 0 = .ok (.iload_n 1, 1) := by decide +kernel
theorem dX10_turnsRound_1 : decode cX10_turnsRound 1 = .ok (.istore_n 2, 1) := by decide +kernel
theorem dX10_turnsRound_2 : decode cX10_turnsRound 2 = .ok (.iload_n 2, 1) := by decide +kernel
theorem dX10_turnsRound_3 : decode cX10_turnsRound 3 = .ok (.bipush 99, 2) := by decide +kernel
theorem dX10_turnsRound_5 : decode cX10_turnsRound 5 = .ok (.aload_n 0, 1) := by decide +kernel
theorem dX10_turnsRound_6 : decode cX10_turnsRound 6 = .ok (.invokevirtual 218, 3) := by decide +kernel
theorem dX10_turnsRound_9 : decode cX10_turnsRound 9 = .ok (.bipush 6, 2) := by decide +kernel
theorem dX10_turnsRound_11 : decode cX10_turnsRound 11 = .ok (.iadd, 1) := by decide +kernel
theorem dX10_turnsRound_12 : decode cX10_turnsRound 12 = .ok (.invokestatic 127, 3) := by decide +kernel
theorem dX10_turnsRound_15 : decode cX10_turnsRound 15 = .ok (.if_icmp .gt 41, 3) := by decide +kernel
theorem dX10_turnsRound_18 : decode cX10_turnsRound 18 = .ok (.aload_n 0, 1) := by decide +kernel
theorem dX10_turnsRound_19 : decode cX10_turnsRound 19 = .ok (.iload_n 2, 1) := by decide +kernel
theorem dX10_turnsRound_20 : decode cX10_turnsRound 20 = .ok (.invokevirtual 256, 3) := by decide +kernel
theorem dX10_turnsRound_23 : decode cX10_turnsRound 23 = .ok (.iconst 0, 1) := by decide +kernel
theorem dX10_turnsRound_24 : decode cX10_turnsRound 24 = .ok (.istore_n 3, 1) := by decide +kernel
theorem dX10_turnsRound_25 : decode cX10_turnsRound 25 = .ok (.iload_n 3, 1) := by decide +kernel
theorem dX10_turnsRound_26 : decode cX10_turnsRound 26 = .ok (.aload_n 0, 1) := by decide +kernel
theorem dX10_turnsRound_27 : decode cX10_turnsRound 27 = .ok (.getfield 174, 3) := by decide +kernel
theorem dX10_turnsRound_30 : decode cX10_turnsRound 30 = .ok (.if_icmp .ge 20, 3) := by decide +kernel
theorem dX10_turnsRound_33 : decode cX10_turnsRound 33 = .ok (.aload_n 0, 1) := by decide +kernel
theorem dX10_turnsRound_34 : decode cX10_turnsRound 34 = .ok (.iload_n 3, 1) := by decide +kernel
theorem dX10_turnsRound_35 : decode cX10_turnsRound 35 = .ok (.iconst (-1), 1) := by decide +kernel
theorem dX10_turnsRound_36 : decode cX10_turnsRound 36 = .ok (.invokevirtual 180, 3) := by decide +kernel
theorem dX10_turnsRound_39 : decode cX10_turnsRound 39 = .ok (.ifCond .ge 5, 3) := by decide +kernel
theorem dX10_turnsRound_42 : decode cX10_turnsRound 42 = .ok (.iconst 1, 1) := by decide +kernel
theorem dX10_turnsRound_43 : decode cX10_turnsRound 43 = .ok (.ireturn, 1) := by decide +kernel
theorem dX10_turnsRound_44 : decode cX10_turnsRound 44 = .ok (.iinc 3 1, 3) := by decide +kernel
theorem dX10_turnsRound_47 : decode cX10_turnsRound 47 = .ok (.goto (-22), 3) := by decide +kernel
theorem dX10_turnsRound_50 : decode cX10_turnsRound 50 = .ok (.iinc 2 1, 3) := by decide +kernel
theorem dX10_turnsRound_53 : decode cX10_turnsRound 53 = .ok (.goto (-51), 3) := by decide +kernel
theorem dX10_turnsRound_56 : decode cX10_turnsRound 56 = .ok (.iconst 0, 1) := by decide +kernel
theorem dX10_turnsRound_57 : decode cX10_turnsRound 57 = .ok (.ireturn, 1) := by decide +kernel
theorem dX10_moveAt_0 : decode cX10_moveAt 0 = .ok (.iconst 0, 1) := by decide +kernel
theorem dX10_moveAt_1 : decode cX10_moveAt 1 = .ok (.istore_n 3, 1) := by decide +kernel
theorem dX10_moveAt_2 : decode cX10_moveAt 2 = .ok (.iload_n 3, 1) := by decide +kernel
theorem dX10_moveAt_3 : decode cX10_moveAt 3 = .ok (.aload_n 0, 1) := by decide +kernel
theorem dX10_moveAt_4 : decode cX10_moveAt 4 = .ok (.iload_n 1, 1) := by decide +kernel
theorem dX10_moveAt_5 : decode cX10_moveAt 5 = .ok (.iconst 4, 1) := by decide +kernel
theorem dX10_moveAt_6 : decode cX10_moveAt 6 = .ok (.invokevirtual 159, 3) := by decide +kernel
theorem dX10_moveAt_9 : decode cX10_moveAt 9 = .ok (.if_icmp .ge 23, 3) := by decide +kernel
theorem dX10_moveAt_12 : decode cX10_moveAt 12 = .ok (.aload_n 0, 1) := by decide +kernel
theorem dX10_moveAt_13 : decode cX10_moveAt 13 = .ok (.iload_n 1, 1) := by decide +kernel
theorem dX10_moveAt_14 : decode cX10_moveAt 14 = .ok (.iconst 5, 1) := by decide +kernel
theorem dX10_moveAt_15 : decode cX10_moveAt 15 = .ok (.iload_n 3, 1) := by decide +kernel
theorem dX10_moveAt_16 : decode cX10_moveAt 16 = .ok (.iadd, 1) := by decide +kernel
theorem dX10_moveAt_17 : decode cX10_moveAt 17 = .ok (.invokevirtual 159, 3) := by decide +kernel
theorem dX10_moveAt_20 : decode cX10_moveAt 20 = .ok (.iload_n 2, 1) := by decide +kernel
theorem dX10_moveAt_21 : decode cX10_moveAt 21 = .ok (.if_icmp .ne 5, 3) := by decide +kernel
theorem dX10_moveAt_24 : decode cX10_moveAt 24 = .ok (.iload_n 3, 1) := by decide +kernel
theorem dX10_moveAt_25 : decode cX10_moveAt 25 = .ok (.ireturn, 1) := by decide +kernel
theorem dX10_moveAt_26 : decode cX10_moveAt 26 = .ok (.iinc 3 1, 3) := by decide +kernel
theorem dX10_moveAt_29 : decode cX10_moveAt 29 = .ok (.goto (-27), 3) := by decide +kernel
theorem dX10_moveAt_32 : decode cX10_moveAt 32 = .ok (.iconst (-1), 1) := by decide +kernel
theorem dX10_moveAt_33 : decode cX10_moveAt 33 = .ok (.ireturn, 1) := by decide +kernel
theorem dX10_reason_0 : decode cX10_reason 0 = .ok (.aload_n 0, 1) := by decide +kernel
theorem dX10_reason_1 : decode cX10_reason 1 = .ok (.iload_n 1, 1) := by decide +kernel
theorem dX10_reason_2 : decode cX10_reason 2 = .ok (.invokevirtual 253, 3) := by decide +kernel
theorem dX10_reason_5 : decode cX10_reason 5 = .ok (.ifCond .eq 15, 3) := by decide +kernel
theorem dX10_reason_8 : decode cX10_reason 8 = .ok (.aload_n 0, 1) := by decide +kernel
theorem dX10_reason_9 : decode cX10_reason 9 = .ok (.iload_n 2, 1) := by decide +kernel
theorem dX10_reason_10 : decode cX10_reason 10 = .ok (.invokevirtual 253, 3) := by decide +kernel
theorem dX10_reason_13 : decode cX10_reason 13 = .ok (.ifCond .eq 7, 3) := by decide +kernel
theorem dX10_reason_16 : decode cX10_reason 16 = .ok (.iload_n 1, 1) := by decide +kernel
theorem dX10_reason_17 : decode cX10_reason 17 = .ok (.ifCond .ne 5, 3) := by decide +kernel
theorem dX10_reason_20 : decode cX10_reason 20 = .ok (.iconst 1, 1) := by decide +kernel
theorem dX10_reason_21 : decode cX10_reason 21 = .ok (.ireturn, 1) := by decide +kernel
theorem dX10_reason_22 : decode cX10_reason 22 = .ok (.iload_n 3, 1) := by decide +kernel
theorem dX10_reason_23 : decode cX10_reason 23 = .ok (.aload_n 0, 1) := by decide +kernel
theorem dX10_reason_24 : decode cX10_reason 24 = .ok (.invokevirtual 218, 3) := by decide +kernel
theorem dX10_reason_27 : decode cX10_reason 27 = .ok (.if_icmp .lt 19, 3) := by decide +kernel
theorem dX10_reason_30 : decode cX10_reason 30 = .ok (.iload_n 3, 1) := by decide +kernel
theorem dX10_reason_31 : decode cX10_reason 31 = .ok (.bipush 99, 2) := by decide +kernel
theorem dX10_reason_33 : decode cX10_reason 33 = .ok (.aload_n 0, 1) := by decide +kernel
theorem dX10_reason_34 : decode cX10_reason 34 = .ok (.invokevirtual 218, 3) := by decide +kernel
theorem dX10_reason_37 : decode cX10_reason 37 = .ok (.bipush 6, 2) := by decide +kernel
theorem dX10_reason_39 : decode cX10_reason 39 = .ok (.iadd, 1) := by decide +kernel
theorem dX10_reason_40 : decode cX10_reason 40 = .ok (.invokestatic 127, 3) := by decide +kernel
theorem dX10_reason_43 : decode cX10_reason 43 = .ok (.if_icmp .le 5, 3) := by decide +kernel
theorem dX10_reason_46 : decode cX10_reason 46 = .ok (.iconst 2, 1) := by decide +kernel
theorem dX10_reason_47 : decode cX10_reason 47 = .ok (.ireturn, 1) := by decide +kernel
theorem dX10_reason_48 : decode cX10_reason 48 = .ok (.aload_n 0, 1) := by decide +kernel
theorem dX10_reason_49 : decode cX10_reason 49 = .ok (.iload_n 1, 1) := by decide +kernel
theorem dX10_reason_50 : decode cX10_reason 50 = .ok (.invokevirtual 190, 3) := by decide +kernel
theorem dX10_reason_53 : decode cX10_reason 53 = .ok (.ifCond .ne 11, 3) := by decide +kernel
theorem dX10_reason_56 : decode cX10_reason 56 = .ok (.aload_n 0, 1) := by decide +kernel
theorem dX10_reason_57 : decode cX10_reason 57 = .ok (.iload_n 2, 1) := by decide +kernel
theorem dX10_reason_58 : decode cX10_reason 58 = .ok (.invokevirtual 190, 3) := by decide +kernel
theorem dX10_reason_61 : decode cX10_reason 61 = .ok (.ifCond .eq 5, 3) := by decide +kernel
theorem dX10_reason_64 : decode cX10_reason 64 = .ok (.iconst 3, 1) := by decide +kernel
theorem dX10_reason_65 : decode cX10_reason 65 = .ok (.ireturn, 1) := by decide +kernel
theorem dX10_reason_66 : decode cX10_reason 66 = .ok (.aload_n 0, 1) := by decide +kernel
theorem dX10_reason_67 : decode cX10_reason 67 = .ok (.iload_n 1, 1) := by decide +kernel
theorem dX10_reason_68 : decode cX10_reason 68 = .ok (.iload_n 3, 1) := by decide +kernel
theorem dX10_reason_69 : decode cX10_reason 69 = .ok (.invokevirtual 177, 3) := by decide +kernel
theorem dX10_reason_72 : decode cX10_reason 72 = .ok (.iload_n 2, 1) := by decide +kernel
theorem dX10_reason_73 : decode cX10_reason 73 = .ok (.if_icmp .ne 5, 3) := by decide +kernel
theorem dX10_reason_76 : decode cX10_reason 76 = .ok (.iconst 4, 1) := by decide +kernel
theorem dX10_reason_77 : decode cX10_reason 77 = .ok (.ireturn, 1) := by decide +kernel
theorem dX10_reason_78 : decode cX10_reason 78 = .ok (.aload_n 0, 1) := by decide +kernel
theorem dX10_reason_79 : decode cX10_reason 79 = .ok (.iload_n 1, 1) := by decide +kernel
theorem dX10_reason_80 : decode cX10_reason 80 = .ok (.putfield 23, 3) := by decide +kernel
theorem dX10_reason_83 : decode cX10_reason 83 = .ok (.aload_n 0, 1) := by decide +kernel
theorem dX10_reason_84 : decode cX10_reason 84 = .ok (.iload_n 2, 1) := by decide +kernel
theorem dX10_reason_85 : decode cX10_reason 85 = .ok (.putfield 168, 3) := by decide +kernel
theorem dX10_reason_88 : decode cX10_reason 88 = .ok (.aload_n 0, 1) := by decide +kernel
theorem dX10_reason_89 : decode cX10_reason 89 = .ok (.iload_n 3, 1) := by decide +kernel
theorem dX10_reason_90 : decode cX10_reason 90 = .ok (.putfield 165, 3) := by decide +kernel
theorem dX10_reason_93 : decode cX10_reason 93 = .ok (.aload_n 0, 1) := by decide +kernel
theorem dX10_reason_94 : decode cX10_reason 94 = .ok (.iload_n 3, 1) := by decide +kernel
theorem dX10_reason_95 : decode cX10_reason 95 = .ok (.invokevirtual 259, 3) := by decide +kernel
theorem dX10_reason_98 : decode cX10_reason 98 = .ok (.istore 4, 2) := by decide +kernel
theorem dX10_reason_100 : decode cX10_reason 100 = .ok (.aload_n 0, 1) := by decide +kernel
theorem dX10_reason_101 : decode cX10_reason 101 = .ok (.iconst (-1), 1) := by decide +kernel
theorem dX10_reason_102 : decode cX10_reason 102 = .ok (.putfield 23, 3) := by decide +kernel
theorem dX10_reason_105 : decode cX10_reason 105 = .ok (.iload 4, 2) := by decide +kernel
theorem dX10_reason_107 : decode cX10_reason 107 = .ok (.ifCond .eq 7, 3) := by decide +kernel
theorem dX10_reason_110 : decode cX10_reason 110 = .ok (.iconst 5, 1) := by decide +kernel
theorem dX10_reason_111 : decode cX10_reason 111 = .ok (.goto 30, 3) := by decide +kernel
theorem dX10_reason_114 : decode cX10_reason 114 = .ok (.aload_n 0, 1) := by decide +kernel
theorem dX10_reason_115 : decode cX10_reason 115 = .ok (.iload_n 1, 1) := by decide +kernel
theorem dX10_reason_116 : decode cX10_reason 116 = .ok (.iconst 4, 1) := by decide +kernel
theorem dX10_reason_117 : decode cX10_reason 117 = .ok (.invokevirtual 159, 3) := by decide +kernel
theorem dX10_reason_120 : decode cX10_reason 120 = .ok (.bipush 12, 2) := by decide +kernel
theorem dX10_reason_122 : decode cX10_reason 122 = .ok (.if_icmp .ne 18, 3) := by decide +kernel
theorem dX10_reason_125 : decode cX10_reason 125 = .ok (.aload_n 0, 1) := by decide +kernel
theorem dX10_reason_126 : decode cX10_reason 126 = .ok (.iload_n 1, 1) := by decide +kernel
theorem dX10_reason_127 : decode cX10_reason 127 = .ok (.iload_n 3, 1) := by decide +kernel
theorem dX10_reason_128 : decode cX10_reason 128 = .ok (.invokevirtual 262, 3) := by decide +kernel
theorem dX10_reason_131 : decode cX10_reason 131 = .ok (.iconst (-1), 1) := by decide +kernel
theorem dX10_reason_132 : decode cX10_reason 132 = .ok (.if_icmp .ne 8, 3) := by decide +kernel
theorem dX10_reason_135 : decode cX10_reason 135 = .ok (.bipush 6, 2) := by decide +kernel
theorem dX10_reason_137 : decode cX10_reason 137 = .ok (.goto 4, 3) := by decide +kernel
theorem dX10_reason_140 : decode cX10_reason 140 = .ok (.iconst 0, 1) := by decide +kernel
theorem dX10_reason_141 : decode cX10_reason 141 = .ok (.ireturn, 1) := by decide +kernel
theorem dX10_setSeller_0 : decode cX10_setSeller 0 = .ok (.aload_n 0, 1) := by decide +kernel
theorem dX10_setSeller_1 : decode cX10_setSeller 1 = .ok (.getfield 7, 3) := by decide +kernel
theorem dX10_setSeller_4 : decode cX10_setSeller 4 = .ok (.sipush 147, 3) := by decide +kernel
theorem dX10_setSeller_7 : decode cX10_setSeller 7 = .ok (.bipush 94, 2) := by decide +kernel
theorem dX10_setSeller_9 : decode cX10_setSeller 9 = .ok (.iload_n 1, 1) := by decide +kernel
theorem dX10_setSeller_10 : decode cX10_setSeller 10 = .ok (.imul, 1) := by decide +kernel
theorem dX10_setSeller_11 : decode cX10_setSeller 11 = .ok (.iadd, 1) := by decide +kernel
theorem dX10_setSeller_12 : decode cX10_setSeller 12 = .ok (.iload_n 2, 1) := by decide +kernel
theorem dX10_setSeller_13 : decode cX10_setSeller 13 = .ok (.iadd, 1) := by decide +kernel
theorem dX10_setSeller_14 : decode cX10_setSeller 14 = .ok (.iload_n 3, 1) := by decide +kernel
theorem dX10_setSeller_15 : decode cX10_setSeller 15 = .ok (.iastore, 1) := by decide +kernel
theorem dX10_setSeller_16 : decode cX10_setSeller 16 = .ok (.return_, 1) := by decide +kernel
theorem dX10_move_0 : decode cX10_move 0 = .ok (.aload_n 0, 1) := by decide +kernel
theorem dX10_move_1 : decode cX10_move 1 = .ok (.iconst 0, 1) := by decide +kernel
theorem dX10_move_2 : decode cX10_move 2 = .ok (.putfield 52, 3) := by decide +kernel
theorem dX10_move_5 : decode cX10_move 5 = .ok (.aload_n 0, 1) := by decide +kernel
theorem dX10_move_6 : decode cX10_move 6 = .ok (.iload_n 1, 1) := by decide +kernel
theorem dX10_move_7 : decode cX10_move 7 = .ok (.iload_n 2, 1) := by decide +kernel
theorem dX10_move_8 : decode cX10_move 8 = .ok (.iload_n 3, 1) := by decide +kernel
theorem dX10_move_9 : decode cX10_move 9 = .ok (.invokevirtual 265, 3) := by decide +kernel
theorem dX10_move_12 : decode cX10_move 12 = .ok (.istore 4, 2) := by decide +kernel
theorem dX10_move_14 : decode cX10_move 14 = .ok (.iload 4, 2) := by decide +kernel
theorem dX10_move_16 : decode cX10_move 16 = .ok (.ifCond .eq 6, 3) := by decide +kernel
theorem dX10_move_19 : decode cX10_move 19 = .ok (.iload 4, 2) := by decide +kernel
theorem dX10_move_21 : decode cX10_move 21 = .ok (.ireturn, 1) := by decide +kernel
theorem dX10_move_22 : decode cX10_move 22 = .ok (.aload_n 0, 1) := by decide +kernel
theorem dX10_move_23 : decode cX10_move 23 = .ok (.iload_n 1, 1) := by decide +kernel
theorem dX10_move_24 : decode cX10_move 24 = .ok (.iload_n 3, 1) := by decide +kernel
theorem dX10_move_25 : decode cX10_move 25 = .ok (.invokevirtual 262, 3) := by decide +kernel
theorem dX10_move_28 : decode cX10_move 28 = .ok (.istore 5, 2) := by decide +kernel
theorem dX10_move_30 : decode cX10_move 30 = .ok (.iload 5, 2) := by decide +kernel
theorem dX10_move_32 : decode cX10_move 32 = .ok (.iconst (-1), 1) := by decide +kernel
theorem dX10_move_33 : decode cX10_move 33 = .ok (.if_icmp .ne 21, 3) := by decide +kernel
theorem dX10_move_36 : decode cX10_move 36 = .ok (.aload_n 0, 1) := by decide +kernel
theorem dX10_move_37 : decode cX10_move 37 = .ok (.iload_n 1, 1) := by decide +kernel
theorem dX10_move_38 : decode cX10_move 38 = .ok (.iconst 4, 1) := by decide +kernel
theorem dX10_move_39 : decode cX10_move 39 = .ok (.invokevirtual 159, 3) := by decide +kernel
theorem dX10_move_42 : decode cX10_move 42 = .ok (.istore 5, 2) := by decide +kernel
theorem dX10_move_44 : decode cX10_move 44 = .ok (.aload_n 0, 1) := by decide +kernel
theorem dX10_move_45 : decode cX10_move 45 = .ok (.iload_n 1, 1) := by decide +kernel
theorem dX10_move_46 : decode cX10_move 46 = .ok (.iconst 4, 1) := by decide +kernel
theorem dX10_move_47 : decode cX10_move 47 = .ok (.iload 5, 2) := by decide +kernel
theorem dX10_move_49 : decode cX10_move 49 = .ok (.iconst 1, 1) := by decide +kernel
theorem dX10_move_50 : decode cX10_move 50 = .ok (.iadd, 1) := by decide +kernel
theorem dX10_move_51 : decode cX10_move 51 = .ok (.invokevirtual 268, 3) := by decide +kernel
theorem dX10_move_54 : decode cX10_move 54 = .ok (.aload_n 0, 1) := by decide +kernel
theorem dX10_move_55 : decode cX10_move 55 = .ok (.iload_n 1, 1) := by decide +kernel
theorem dX10_move_56 : decode cX10_move 56 = .ok (.iconst 5, 1) := by decide +kernel
theorem dX10_move_57 : decode cX10_move 57 = .ok (.iload 5, 2) := by decide +kernel
theorem dX10_move_59 : decode cX10_move 59 = .ok (.iadd, 1) := by decide +kernel
theorem dX10_move_60 : decode cX10_move 60 = .ok (.iload_n 3, 1) := by decide +kernel
theorem dX10_move_61 : decode cX10_move 61 = .ok (.invokevirtual 268, 3) := by decide +kernel
theorem dX10_move_64 : decode cX10_move 64 = .ok (.aload_n 0, 1) := by decide +kernel
theorem dX10_move_65 : decode cX10_move 65 = .ok (.iload_n 1, 1) := by decide +kernel
theorem dX10_move_66 : decode cX10_move 66 = .ok (.bipush 17, 2) := by decide +kernel
theorem dX10_move_68 : decode cX10_move 68 = .ok (.iload 5, 2) := by decide +kernel
theorem dX10_move_70 : decode cX10_move 70 = .ok (.iadd, 1) := by decide +kernel
theorem dX10_move_71 : decode cX10_move 71 = .ok (.iload_n 2, 1) := by decide +kernel
theorem dX10_move_72 : decode cX10_move 72 = .ok (.invokevirtual 268, 3) := by decide +kernel
theorem dX10_move_75 : decode cX10_move 75 = .ok (.iconst 0, 1) := by decide +kernel
theorem dX10_move_76 : decode cX10_move 76 = .ok (.ireturn, 1) := by decide +kernel
theorem dX5_fact_0 : decode cX5_fact 0 = .ok (.aload_n 0, 1) := by decide +kernel
theorem dX5_fact_1 : decode cX5_fact 1 = .ok (.getfield 34, 3) := by decide +kernel
theorem dX5_fact_4 : decode cX5_fact 4 = .ok (.iload_n 1, 1) := by decide +kernel
theorem dX5_fact_5 : decode cX5_fact 5 = .ok (.iconst 5, 1) := by decide +kernel
theorem dX5_fact_6 : decode cX5_fact 6 = .ok (.imul, 1) := by decide +kernel
theorem dX5_fact_7 : decode cX5_fact 7 = .ok (.iload_n 2, 1) := by decide +kernel
theorem dX5_fact_8 : decode cX5_fact 8 = .ok (.iadd, 1) := by decide +kernel
theorem dX5_fact_9 : decode cX5_fact 9 = .ok (.iconst 1, 1) := by decide +kernel
theorem dX5_fact_10 : decode cX5_fact 10 = .ok (.isub, 1) := by decide +kernel
theorem dX5_fact_11 : decode cX5_fact 11 = .ok (.bipush 7, 2) := by decide +kernel
theorem dX5_fact_13 : decode cX5_fact 13 = .ok (.imul, 1) := by decide +kernel
theorem dX5_fact_14 : decode cX5_fact 14 = .ok (.iload_n 3, 1) := by decide +kernel
theorem dX5_fact_15 : decode cX5_fact 15 = .ok (.iadd, 1) := by decide +kernel
theorem dX5_fact_16 : decode cX5_fact 16 = .ok (.iaload, 1) := by decide +kernel
theorem dX5_fact_17 : decode cX5_fact 17 = .ok (.ireturn, 1) := by decide +kernel
theorem dX5_levelOf_0 : decode cX5_levelOf 0 = .ok (.iconst 1, 1) := by decide +kernel
theorem dX5_levelOf_1 : decode cX5_levelOf 1 = .ok (.istore_n 3, 1) := by decide +kernel
theorem dX5_levelOf_2 : decode cX5_levelOf 2 = .ok (.iload_n 3, 1) := by decide +kernel
theorem dX5_levelOf_3 : decode cX5_levelOf 3 = .ok (.aload_n 0, 1) := by decide +kernel
theorem dX5_levelOf_4 : decode cX5_levelOf 4 = .ok (.getfield 31, 3) := by decide +kernel
theorem dX5_levelOf_7 : decode cX5_levelOf 7 = .ok (.iload_n 1, 1) := by decide +kernel
theorem dX5_levelOf_8 : decode cX5_levelOf 8 = .ok (.iaload, 1) := by decide +kernel
theorem dX5_levelOf_9 : decode cX5_levelOf 9 = .ok (.if_icmp .gt 22, 3) := by decide +kernel
theorem dX5_levelOf_12 : decode cX5_levelOf 12 = .ok (.aload_n 0, 1) := by decide +kernel
theorem dX5_levelOf_13 : decode cX5_levelOf 13 = .ok (.iload_n 1, 1) := by decide +kernel
theorem dX5_levelOf_14 : decode cX5_levelOf 14 = .ok (.iload_n 3, 1) := by decide +kernel
theorem dX5_levelOf_15 : decode cX5_levelOf 15 = .ok (.iconst 0, 1) := by decide +kernel
theorem dX5_levelOf_16 : decode cX5_levelOf 16 = .ok (.invokevirtual 52, 3) := by decide +kernel
theorem dX5_levelOf_19 : decode cX5_levelOf 19 = .ok (.iload_n 2, 1) := by decide +kernel
theorem dX5_levelOf_20 : decode cX5_levelOf 20 = .ok (.if_icmp .ne 5, 3) := by decide +kernel
theorem dX5_levelOf_23 : decode cX5_levelOf 23 = .ok (.iload_n 3, 1) := by decide +kernel
theorem dX5_levelOf_24 : decode cX5_levelOf 24 = .ok (.ireturn, 1) := by decide +kernel
theorem dX5_levelOf_25 : decode cX5_levelOf 25 = .ok (.iinc 3 1, 3) := by decide +kernel
theorem dX5_levelOf_28 : decode cX5_levelOf 28 = .ok (.goto (-26), 3) := by decide +kernel
theorem dX5_levelOf_31 : decode cX5_levelOf 31 = .ok (.iconst (-1), 1) := by decide +kernel
theorem dX5_levelOf_32 : decode cX5_levelOf 32 = .ok (.ireturn, 1) := by decide +kernel
theorem dX9_net_0 : decode cX9_net 0 = .ok (.iload_n 0, 1) := by decide +kernel
theorem dX9_net_1 : decode cX9_net 1 = .ok (.bipush 100, 2) := by decide +kernel
theorem dX9_net_3 : decode cX9_net 3 = .ok (.iload_n 1, 1) := by decide +kernel
theorem dX9_net_4 : decode cX9_net 4 = .ok (.isub, 1) := by decide +kernel
theorem dX9_net_5 : decode cX9_net 5 = .ok (.imul, 1) := by decide +kernel
theorem dX9_net_6 : decode cX9_net 6 = .ok (.bipush 100, 2) := by decide +kernel
theorem dX9_net_8 : decode cX9_net 8 = .ok (.idiv, 1) := by decide +kernel
theorem dX9_net_9 : decode cX9_net 9 = .ok (.ireturn, 1) := by decide +kernel
theorem dX5_netPay_0 : decode cX5_netPay 0 = .ok (.aload_n 0, 1) := by decide +kernel
theorem dX5_netPay_1 : decode cX5_netPay 1 = .ok (.iload_n 1, 1) := by decide +kernel
theorem dX5_netPay_2 : decode cX5_netPay 2 = .ok (.iload_n 2, 1) := by decide +kernel
theorem dX5_netPay_3 : decode cX5_netPay 3 = .ok (.iconst 2, 1) := by decide +kernel
theorem dX5_netPay_4 : decode cX5_netPay 4 = .ok (.invokevirtual 52, 3) := by decide +kernel
theorem dX5_netPay_7 : decode cX5_netPay 7 = .ok (.aload_n 0, 1) := by decide +kernel
theorem dX5_netPay_8 : decode cX5_netPay 8 = .ok (.getfield 28, 3) := by decide +kernel
theorem dX5_netPay_11 : decode cX5_netPay 11 = .ok (.iload_n 1, 1) := by decide +kernel
theorem dX5_netPay_12 : decode cX5_netPay 12 = .ok (.iaload, 1) := by decide +kernel
theorem dX5_netPay_13 : decode cX5_netPay 13 = .ok (.invokestatic 48, 3) := by decide +kernel
theorem dX5_netPay_16 : decode cX5_netPay 16 = .ok (.ireturn, 1) := by decide +kernel
theorem dJ9_max_7cf53_0 : decode cJ9_max_7cf53 0 = .ok (.iload_n 0, 1) := by decide +kernel
theorem dJ9_max_7cf53_1 : decode cJ9_max_7cf53 1 = .ok (.iload_n 1, 1) := by decide +kernel
theorem dJ9_max_7cf53_2 : decode cJ9_max_7cf53 2 = .ok (.if_icmp .lt 7, 3) := by decide +kernel
theorem dJ9_max_7cf53_5 : decode cJ9_max_7cf53 5 = .ok (.iload_n 0, 1) := by decide +kernel
theorem dJ9_max_7cf53_6 : decode cJ9_max_7cf53 6 = .ok (.goto 4, 3) := by decide +kernel
theorem dJ9_max_7cf53_9 : decode cJ9_max_7cf53 9 = .ok (.iload_n 1, 1) := by decide +kernel
theorem dJ9_max_7cf53_10 : decode cJ9_max_7cf53 10 = .ok (.ireturn, 1) := by decide +kernel
theorem dX7_vested_0 : decode cX7_vested 0 = .ok (.aload_n 0, 1) := by decide +kernel
theorem dX7_vested_1 : decode cX7_vested 1 = .ok (.getfield 35, 3) := by decide +kernel
theorem dX7_vested_4 : decode cX7_vested 4 = .ok (.iload_n 1, 1) := by decide +kernel
theorem dX7_vested_5 : decode cX7_vested 5 = .ok (.iload_n 2, 1) := by decide +kernel
theorem dX7_vested_6 : decode cX7_vested 6 = .ok (.invokevirtual 87, 3) := by decide +kernel
theorem dX7_vested_9 : decode cX7_vested 9 = .ok (.istore 4, 2) := by decide +kernel
theorem dX7_vested_11 : decode cX7_vested 11 = .ok (.aload_n 0, 1) := by decide +kernel
theorem dX7_vested_12 : decode cX7_vested 12 = .ok (.getfield 21, 3) := by decide +kernel
theorem dX7_vested_15 : decode cX7_vested 15 = .ok (.getfield 91, 3) := by decide +kernel
theorem dX7_vested_18 : decode cX7_vested 18 = .ok (.ifCond .gt 6, 3) := by decide +kernel
theorem dX7_vested_21 : decode cX7_vested 21 = .ok (.iload 4, 2) := by decide +kernel
theorem dX7_vested_23 : decode cX7_vested 23 = .ok (.ireturn, 1) := by decide +kernel
theorem dX7_vested_24 : decode cX7_vested 24 = .ok (.aload_n 0, 1) := by decide +kernel
theorem dX7_vested_25 : decode cX7_vested 25 = .ok (.getfield 35, 3) := by decide +kernel
theorem dX7_vested_28 : decode cX7_vested 28 = .ok (.iload_n 1, 1) := by decide +kernel
theorem dX7_vested_29 : decode cX7_vested 29 = .ok (.iload_n 2, 1) := by decide +kernel
theorem dX7_vested_30 : decode cX7_vested 30 = .ok (.iconst 0, 1) := by decide +kernel
theorem dX7_vested_31 : decode cX7_vested 31 = .ok (.invokevirtual 94, 3) := by decide +kernel
theorem dX7_vested_34 : decode cX7_vested 34 = .ok (.istore 5, 2) := by decide +kernel
theorem dX7_vested_36 : decode cX7_vested 36 = .ok (.aload_n 0, 1) := by decide +kernel
theorem dX7_vested_37 : decode cX7_vested 37 = .ok (.getfield 28, 3) := by decide +kernel
theorem dX7_vested_40 : decode cX7_vested 40 = .ok (.iload 5, 2) := by decide +kernel
theorem dX7_vested_42 : decode cX7_vested 42 = .ok (.invokevirtual 98, 3) := by decide +kernel
theorem dX7_vested_45 : decode cX7_vested 45 = .ok (.ifCond .eq 16, 3) := by decide +kernel
theorem dX7_vested_48 : decode cX7_vested 48 = .ok (.aload_n 0, 1) := by decide +kernel
theorem dX7_vested_49 : decode cX7_vested 49 = .ok (.getfield 28, 3) := by decide +kernel
theorem dX7_vested_52 : decode cX7_vested 52 = .ok (.getfield 102, 3) := by decide +kernel
theorem dX7_vested_55 : decode cX7_vested 55 = .ok (.iload 5, 2) := by decide +kernel
theorem dX7_vested_57 : decode cX7_vested 57 = .ok (.iaload, 1) := by decide +kernel
theorem dX7_vested_58 : decode cX7_vested 58 = .ok (.goto 4, 3) := by decide +kernel
theorem dX7_vested_61 : decode cX7_vested 61 = .ok (.iload_n 3, 1) := by decide +kernel
theorem dX7_vested_62 : decode cX7_vested 62 = .ok (.istore 6, 2) := by decide +kernel
theorem dX7_vested_64 : decode cX7_vested 64 = .ok (.iconst 0, 1) := by decide +kernel
theorem dX7_vested_65 : decode cX7_vested 65 = .ok (.aload_n 0, 1) := by decide +kernel
theorem dX7_vested_66 : decode cX7_vested 66 = .ok (.getfield 21, 3) := by decide +kernel
theorem dX7_vested_69 : decode cX7_vested 69 = .ok (.getfield 91, 3) := by decide +kernel
theorem dX7_vested_72 : decode cX7_vested 72 = .ok (.iload 6, 2) := by decide +kernel
theorem dX7_vested_74 : decode cX7_vested 74 = .ok (.aload_n 0, 1) := by decide +kernel
theorem dX7_vested_75 : decode cX7_vested 75 = .ok (.getfield 35, 3) := by decide +kernel
theorem dX7_vested_78 : decode cX7_vested 78 = .ok (.getfield 105, 3) := by decide +kernel
theorem dX7_vested_81 : decode cX7_vested 81 = .ok (.iload_n 1, 1) := by decide +kernel
theorem dX7_vested_82 : decode cX7_vested 82 = .ok (.iaload, 1) := by decide +kernel
theorem dX7_vested_83 : decode cX7_vested 83 = .ok (.isub, 1) := by decide +kernel
theorem dX7_vested_84 : decode cX7_vested 84 = .ok (.invokestatic 108, 3) := by decide +kernel
theorem dX7_vested_87 : decode cX7_vested 87 = .ok (.invokestatic 113, 3) := by decide +kernel
theorem dX7_vested_90 : decode cX7_vested 90 = .ok (.istore 7, 2) := by decide +kernel
theorem dX7_vested_92 : decode cX7_vested 92 = .ok (.iload 4, 2) := by decide +kernel
theorem dX7_vested_94 : decode cX7_vested 94 = .ok (.iload 7, 2) := by decide +kernel
theorem dX7_vested_96 : decode cX7_vested 96 = .ok (.imul, 1) := by decide +kernel
theorem dX7_vested_97 : decode cX7_vested 97 = .ok (.aload_n 0, 1) := by decide +kernel
theorem dX7_vested_98 : decode cX7_vested 98 = .ok (.getfield 21, 3) := by decide +kernel
theorem dX7_vested_101 : decode cX7_vested 101 = .ok (.getfield 91, 3) := by decide +kernel
theorem dX7_vested_104 : decode cX7_vested 104 = .ok (.idiv, 1) := by decide +kernel
theorem dX7_vested_105 : decode cX7_vested 105 = .ok (.ireturn, 1) := by decide +kernel
theorem dX7_notVested_0 : decode cX7_notVested 0 = .ok (.iconst 0, 1) := by decide +kernel
theorem dX7_notVested_1 : decode cX7_notVested 1 = .ok (.istore_n 2, 1) := by decide +kernel
theorem dX7_notVested_2 : decode cX7_notVested 2 = .ok (.iconst 0, 1) := by decide +kernel
theorem dX7_notVested_3 : decode cX7_notVested 3 = .ok (.istore_n 3, 1) := by decide +kernel
theorem dX7_notVested_4 : decode cX7_notVested 4 = .ok (.iload_n 3, 1) := by decide +kernel
theorem dX7_notVested_5 : decode cX7_notVested 5 = .ok (.aload_n 0, 1) := by decide +kernel
theorem dX7_notVested_6 : decode cX7_notVested 6 = .ok (.getfield 35, 3) := by decide +kernel
theorem dX7_notVested_9 : decode cX7_notVested 9 = .ok (.getfield 79, 3) := by decide +kernel
theorem dX7_notVested_12 : decode cX7_notVested 12 = .ok (.if_icmp .ge 55, 3) := by decide +kernel
theorem dX7_notVested_15 : decode cX7_notVested 15 = .ok (.aload_n 0, 1) := by decide +kernel
theorem dX7_notVested_16 : decode cX7_notVested 16 = .ok (.getfield 35, 3) := by decide +kernel
theorem dX7_notVested_19 : decode cX7_notVested 19 = .ok (.iload_n 3, 1) := by decide +kernel
theorem dX7_notVested_20 : decode cX7_notVested 20 = .ok (.iload_n 1, 1) := by decide +kernel
theorem dX7_notVested_21 : decode cX7_notVested 21 = .ok (.invokevirtual 116, 3) := by decide +kernel
theorem dX7_notVested_24 : decode cX7_notVested 24 = .ok (.istore 4, 2) := by decide +kernel
theorem dX7_notVested_26 : decode cX7_notVested 26 = .ok (.iload_n 2, 1) := by decide +kernel
theorem dX7_notVested_27 : decode cX7_notVested 27 = .ok (.iload 4, 2) := by decide +kernel
theorem dX7_notVested_29 : decode cX7_notVested 29 = .ok (.iconst (-1), 1) := by decide +kernel
theorem dX7_notVested_30 : decode cX7_notVested 30 = .ok (.if_icmp .ne 7, 3) := by decide +kernel
theorem dX7_notVested_33 : decode cX7_notVested 33 = .ok (.iconst 0, 1) := by decide +kernel
theorem dX7_notVested_34 : decode cX7_notVested 34 = .ok (.goto 25, 3) := by decide +kernel
theorem dX7_notVested_37 : decode cX7_notVested 37 = .ok (.aload_n 0, 1) := by decide +kernel
theorem dX7_notVested_38 : decode cX7_notVested 38 = .ok (.getfield 35, 3) := by decide +kernel
theorem dX7_notVested_41 : decode cX7_notVested 41 = .ok (.iload_n 3, 1) := by decide +kernel
theorem dX7_notVested_42 : decode cX7_notVested 42 = .ok (.iload 4, 2) := by decide +kernel
theorem dX7_notVested_44 : decode cX7_notVested 44 = .ok (.invokevirtual 87, 3) := by decide +kernel
theorem dX7_notVested_47 : decode cX7_notVested 47 = .ok (.aload_n 0, 1) := by decide +kernel
theorem dX7_notVested_48 : decode cX7_notVested 48 = .ok (.iload_n 3, 1) := by decide +kernel
theorem dX7_notVested_49 : decode cX7_notVested 49 = .ok (.iload 4, 2) := by decide +kernel
theorem dX7_notVested_51 : decode cX7_notVested 51 = .ok (.aload_n 0, 1) := by decide +kernel
theorem dX7_notVested_52 : decode cX7_notVested 52 = .ok (.getfield 57, 3) := by decide +kernel
theorem dX7_notVested_55 : decode cX7_notVested 55 = .ok (.invokevirtual 119, 3) := by decide +kernel
theorem dX7_notVested_58 : decode cX7_notVested 58 = .ok (.isub, 1) := by decide +kernel
theorem dX7_notVested_59 : decode cX7_notVested 59 = .ok (.iadd, 1) := by decide +kernel
theorem dX7_notVested_60 : decode cX7_notVested 60 = .ok (.istore_n 2, 1) := by decide +kernel
theorem dX7_notVested_61 : decode cX7_notVested 61 = .ok (.iinc 3 1, 3) := by decide +kernel
theorem dX7_notVested_64 : decode cX7_notVested 64 = .ok (.goto (-60), 3) := by decide +kernel
theorem dX7_notVested_67 : decode cX7_notVested 67 = .ok (.iload_n 2, 1) := by decide +kernel
theorem dX7_notVested_68 : decode cX7_notVested 68 = .ok (.ireturn, 1) := by decide +kernel
theorem dX1_write_0 : decode cX1_write 0 = .ok (.iload_n 1, 1) := by decide +kernel
theorem dX1_write_1 : decode cX1_write 1 = .ok (.bipush 16, 2) := by decide +kernel
theorem dX1_write_3 : decode cX1_write 3 = .ok (.imul, 1) := by decide +kernel
theorem dX1_write_4 : decode cX1_write 4 = .ok (.aload_n 0, 1) := by decide +kernel
theorem dX1_write_5 : decode cX1_write 5 = .ok (.getfield 15, 3) := by decide +kernel
theorem dX1_write_8 : decode cX1_write 8 = .ok (.iload_n 1, 1) := by decide +kernel
theorem dX1_write_9 : decode cX1_write 9 = .ok (.iaload, 1) := by decide +kernel
theorem dX1_write_10 : decode cX1_write 10 = .ok (.iadd, 1) := by decide +kernel
theorem dX1_write_11 : decode cX1_write 11 = .ok (.iconst 4, 1) := by decide +kernel
theorem dX1_write_12 : decode cX1_write 12 = .ok (.imul, 1) := by decide +kernel
theorem dX1_write_13 : decode cX1_write 13 = .ok (.istore 6, 2) := by decide +kernel
theorem dX1_write_15 : decode cX1_write 15 = .ok (.aload_n 0, 1) := by decide +kernel
theorem dX1_write_16 : decode cX1_write 16 = .ok (.getfield 18, 3) := by decide +kernel
theorem dX1_write_19 : decode cX1_write 19 = .ok (.iload 6, 2) := by decide +kernel
theorem dX1_write_21 : decode cX1_write 21 = .ok (.iload_n 2, 1) := by decide +kernel
theorem dX1_write_22 : decode cX1_write 22 = .ok (.iastore, 1) := by decide +kernel
theorem dX1_write_23 : decode cX1_write 23 = .ok (.aload_n 0, 1) := by decide +kernel
theorem dX1_write_24 : decode cX1_write 24 = .ok (.getfield 18, 3) := by decide +kernel
theorem dX1_write_27 : decode cX1_write 27 = .ok (.iload 6, 2) := by decide +kernel
theorem dX1_write_29 : decode cX1_write 29 = .ok (.iconst 1, 1) := by decide +kernel
theorem dX1_write_30 : decode cX1_write 30 = .ok (.iadd, 1) := by decide +kernel
theorem dX1_write_31 : decode cX1_write 31 = .ok (.iload_n 3, 1) := by decide +kernel
theorem dX1_write_32 : decode cX1_write 32 = .ok (.iastore, 1) := by decide +kernel
theorem dX1_write_33 : decode cX1_write 33 = .ok (.aload_n 0, 1) := by decide +kernel
theorem dX1_write_34 : decode cX1_write 34 = .ok (.getfield 18, 3) := by decide +kernel
theorem dX1_write_37 : decode cX1_write 37 = .ok (.iload 6, 2) := by decide +kernel
theorem dX1_write_39 : decode cX1_write 39 = .ok (.iconst 2, 1) := by decide +kernel
theorem dX1_write_40 : decode cX1_write 40 = .ok (.iadd, 1) := by decide +kernel
theorem dX1_write_41 : decode cX1_write 41 = .ok (.iload 4, 2) := by decide +kernel
theorem dX1_write_43 : decode cX1_write 43 = .ok (.iastore, 1) := by decide +kernel
theorem dX1_write_44 : decode cX1_write 44 = .ok (.aload_n 0, 1) := by decide +kernel
theorem dX1_write_45 : decode cX1_write 45 = .ok (.getfield 18, 3) := by decide +kernel
theorem dX1_write_48 : decode cX1_write 48 = .ok (.iload 6, 2) := by decide +kernel
theorem dX1_write_50 : decode cX1_write 50 = .ok (.iconst 3, 1) := by decide +kernel
theorem dX1_write_51 : decode cX1_write 51 = .ok (.iadd, 1) := by decide +kernel
theorem dX1_write_52 : decode cX1_write 52 = .ok (.iload 5, 2) := by decide +kernel
theorem dX1_write_54 : decode cX1_write 54 = .ok (.iastore, 1) := by decide +kernel
theorem dX1_write_55 : decode cX1_write 55 = .ok (.aload_n 0, 1) := by decide +kernel
theorem dX1_write_56 : decode cX1_write 56 = .ok (.getfield 15, 3) := by decide +kernel
theorem dX1_write_59 : decode cX1_write 59 = .ok (.iload_n 1, 1) := by decide +kernel
theorem dX1_write_60 : decode cX1_write 60 = .ok (.aload_n 0, 1) := by decide +kernel
theorem dX1_write_61 : decode cX1_write 61 = .ok (.getfield 15, 3) := by decide +kernel
theorem dX1_write_64 : decode cX1_write 64 = .ok (.iload_n 1, 1) := by decide +kernel
theorem dX1_write_65 : decode cX1_write 65 = .ok (.iaload, 1) := by decide +kernel
theorem dX1_write_66 : decode cX1_write 66 = .ok (.iconst 1, 1) := by decide +kernel
theorem dX1_write_67 : decode cX1_write 67 = .ok (.iadd, 1) := by decide +kernel
theorem dX1_write_68 : decode cX1_write 68 = .ok (.bipush 16, 2) := by decide +kernel
theorem dX1_write_70 : decode cX1_write 70 = .ok (.irem, 1) := by decide +kernel
theorem dX1_write_71 : decode cX1_write 71 = .ok (.iastore, 1) := by decide +kernel
theorem dX1_write_72 : decode cX1_write 72 = .ok (.aload_n 0, 1) := by decide +kernel
theorem dX1_write_73 : decode cX1_write 73 = .ok (.getfield 9, 3) := by decide +kernel
theorem dX1_write_76 : decode cX1_write 76 = .ok (.iload_n 1, 1) := by decide +kernel
theorem dX1_write_77 : decode cX1_write 77 = .ok (.bipush 16, 2) := by decide +kernel
theorem dX1_write_79 : decode cX1_write 79 = .ok (.aload_n 0, 1) := by decide +kernel
theorem dX1_write_80 : decode cX1_write 80 = .ok (.getfield 9, 3) := by decide +kernel
theorem dX1_write_83 : decode cX1_write 83 = .ok (.iload_n 1, 1) := by decide +kernel
theorem dX1_write_84 : decode cX1_write 84 = .ok (.iaload, 1) := by decide +kernel
theorem dX1_write_85 : decode cX1_write 85 = .ok (.iconst 1, 1) := by decide +kernel
theorem dX1_write_86 : decode cX1_write 86 = .ok (.iadd, 1) := by decide +kernel
theorem dX1_write_87 : decode cX1_write 87 = .ok (.invokestatic 33, 3) := by decide +kernel
theorem dX1_write_90 : decode cX1_write 90 = .ok (.iastore, 1) := by decide +kernel
theorem dX1_write_91 : decode cX1_write 91 = .ok (.return_, 1) := by decide +kernel
theorem dX9_quit_0 : decode cX9_quit 0 = .ok (.iload_n 1, 1) := by decide +kernel
theorem dX9_quit_1 : decode cX9_quit 1 = .ok (.ifCond .eq 17, 3) := by decide +kernel
theorem dX9_quit_4 : decode cX9_quit 4 = .ok (.aload_n 0, 1) := by decide +kernel
theorem dX9_quit_5 : decode cX9_quit 5 = .ok (.getfield 10, 3) := by decide +kernel
theorem dX9_quit_8 : decode cX9_quit 8 = .ok (.getfield 93, 3) := by decide +kernel
theorem dX9_quit_11 : decode cX9_quit 11 = .ok (.iload_n 1, 1) := by decide +kernel
theorem dX9_quit_12 : decode cX9_quit 12 = .ok (.invokevirtual 97, 3) := by decide +kernel
theorem dX9_quit_15 : decode cX9_quit 15 = .ok (.ifCond .ne 5, 3) := by decide +kernel
theorem dX9_quit_18 : decode cX9_quit 18 = .ok (.iconst (-1), 1) := by decide +kernel
theorem dX9_quit_19 : decode cX9_quit 19 = .ok (.ireturn, 1) := by decide +kernel
theorem dX9_quit_20 : decode cX9_quit 20 = .ok (.aload_n 0, 1) := by decide +kernel
theorem dX9_quit_21 : decode cX9_quit 21 = .ok (.getfield 10, 3) := by decide +kernel
theorem dX9_quit_24 : decode cX9_quit 24 = .ok (.getfield 93, 3) := by decide +kernel
theorem dX9_quit_27 : decode cX9_quit 27 = .ok (.getfield 118, 3) := by decide +kernel
theorem dX9_quit_30 : decode cX9_quit 30 = .ok (.iload_n 1, 1) := by decide +kernel
theorem dX9_quit_31 : decode cX9_quit 31 = .ok (.aload_n 0, 1) := by decide +kernel
theorem dX9_quit_32 : decode cX9_quit 32 = .ok (.getfield 10, 3) := by decide +kernel
theorem dX9_quit_35 : decode cX9_quit 35 = .ok (.getfield 90, 3) := by decide +kernel
theorem dX9_quit_38 : decode cX9_quit 38 = .ok (.iastore, 1) := by decide +kernel
theorem dX9_quit_39 : decode cX9_quit 39 = .ok (.aload_n 0, 1) := by decide +kernel
theorem dX9_quit_40 : decode cX9_quit 40 = .ok (.getfield 10, 3) := by decide +kernel
theorem dX9_quit_43 : decode cX9_quit 43 = .ok (.iload_n 1, 1) := by decide +kernel
theorem dX9_quit_44 : decode cX9_quit 44 = .ok (.invokevirtual 122, 3) := by decide +kernel
theorem dX9_quit_47 : decode cX9_quit 47 = .ok (.istore_n 2, 1) := by decide +kernel
theorem dX9_quit_48 : decode cX9_quit 48 = .ok (.aload_n 0, 1) := by decide +kernel
theorem dX9_quit_49 : decode cX9_quit 49 = .ok (.getfield 10, 3) := by decide +kernel
theorem dX9_quit_52 : decode cX9_quit 52 = .ok (.getfield 126, 3) := by decide +kernel
theorem dX9_quit_55 : decode cX9_quit 55 = .ok (.iload_n 1, 1) := by decide +kernel
theorem dX9_quit_56 : decode cX9_quit 56 = .ok (.iconst 3, 1) := by decide +kernel
theorem dX9_quit_57 : decode cX9_quit 57 = .ok (.aload_n 0, 1) := by decide +kernel
theorem dX9_quit_58 : decode cX9_quit 58 = .ok (.getfield 10, 3) := by decide +kernel
theorem dX9_quit_61 : decode cX9_quit 61 = .ok (.getfield 90, 3) := by decide +kernel
theorem dX9_quit_64 : decode cX9_quit 64 = .ok (.iload_n 2, 1) := by decide +kernel
theorem dX9_quit_65 : decode cX9_quit 65 = .ok (.iconst (-1), 1) := by decide +kernel
theorem dX9_quit_66 : decode cX9_quit 66 = .ok (.invokevirtual 130, 3) := by decide +kernel
theorem dX9_quit_69 : decode cX9_quit 69 = .ok (.iload_n 2, 1) := by decide +kernel
theorem dX9_quit_70 : decode cX9_quit 70 = .ok (.ireturn, 1) := by decide +kernel
theorem dX10_ofSale_0 : decode cX10_ofSale 0 = .ok (.aload_n 0, 1) := by decide +kernel
theorem dX10_ofSale_1 : decode cX10_ofSale 1 = .ok (.getfield 7, 3) := by decide +kernel
theorem dX10_ofSale_4 : decode cX10_ofSale 4 = .ok (.sipush 1087, 3) := by decide +kernel
theorem dX10_ofSale_7 : decode cX10_ofSale 7 = .ok (.bipush 41, 2) := by decide +kernel
theorem dX10_ofSale_9 : decode cX10_ofSale 9 = .ok (.iload_n 1, 1) := by decide +kernel
theorem dX10_ofSale_10 : decode cX10_ofSale 10 = .ok (.imul, 1) := by decide +kernel
theorem dX10_ofSale_11 : decode cX10_ofSale 11 = .ok (.iadd, 1) := by decide +kernel
theorem dX10_ofSale_12 : decode cX10_ofSale 12 = .ok (.iload_n 2, 1) := by decide +kernel
theorem dX10_ofSale_13 : decode cX10_ofSale 13 = .ok (.iadd, 1) := by decide +kernel
theorem dX10_ofSale_14 : decode cX10_ofSale 14 = .ok (.iaload, 1) := by decide +kernel
theorem dX10_ofSale_15 : decode cX10_ofSale 15 = .ok (.ireturn, 1) := by decide +kernel
theorem dX10_ofLevel_0 : decode cX10_ofLevel 0 = .ok (.aload_n 0, 1) := by decide +kernel
theorem dX10_ofLevel_1 : decode cX10_ofLevel 1 = .ok (.iload_n 1, 1) := by decide +kernel
theorem dX10_ofLevel_2 : decode cX10_ofLevel 2 = .ok (.bipush 6, 2) := by decide +kernel
theorem dX10_ofLevel_4 : decode cX10_ofLevel 4 = .ok (.bipush 7, 2) := by decide +kernel
theorem dX10_ofLevel_6 : decode cX10_ofLevel 6 = .ok (.iload_n 2, 1) := by decide +kernel
theorem dX10_ofLevel_7 : decode cX10_ofLevel 7 = .ok (.imul, 1) := by decide +kernel
theorem dX10_ofLevel_8 : decode cX10_ofLevel 8 = .ok (.iadd, 1) := by decide +kernel
theorem dX10_ofLevel_9 : decode cX10_ofLevel 9 = .ok (.iload_n 3, 1) := by decide +kernel
theorem dX10_ofLevel_10 : decode cX10_ofLevel 10 = .ok (.iadd, 1) := by decide +kernel
theorem dX10_ofLevel_11 : decode cX10_ofLevel 11 = .ok (.invokevirtual 162, 3) := by decide +kernel
theorem dX10_ofLevel_14 : decode cX10_ofLevel 14 = .ok (.ireturn, 1) := by decide +kernel
theorem dX10_net_0 : decode cX10_net 0 = .ok (.iload_n 2, 1) := by decide +kernel
theorem dX10_net_1 : decode cX10_net 1 = .ok (.bipush 100, 2) := by decide +kernel
theorem dX10_net_3 : decode cX10_net 3 = .ok (.aload_n 0, 1) := by decide +kernel
theorem dX10_net_4 : decode cX10_net 4 = .ok (.iload_n 1, 1) := by decide +kernel
theorem dX10_net_5 : decode cX10_net 5 = .ok (.iconst 4, 1) := by decide +kernel
theorem dX10_net_6 : decode cX10_net 6 = .ok (.invokevirtual 162, 3) := by decide +kernel
theorem dX10_net_9 : decode cX10_net 9 = .ok (.isub, 1) := by decide +kernel
theorem dX10_net_10 : decode cX10_net 10 = .ok (.imul, 1) := by decide +kernel
theorem dX10_net_11 : decode cX10_net 11 = .ok (.bipush 100, 2) := by decide +kernel
theorem dX10_net_13 : decode cX10_net 13 = .ok (.idiv, 1) := by decide +kernel
theorem dX10_net_14 : decode cX10_net 14 = .ok (.ireturn, 1) := by decide +kernel
theorem dX10_netPay_0 : decode cX10_netPay 0 = .ok (.aload_n 0, 1) := by decide +kernel
theorem dX10_netPay_1 : decode cX10_netPay 1 = .ok (.iload_n 1, 1) := by decide +kernel
theorem dX10_netPay_2 : decode cX10_netPay 2 = .ok (.aload_n 0, 1) := by decide +kernel
theorem dX10_netPay_3 : decode cX10_netPay 3 = .ok (.iload_n 1, 1) := by decide +kernel
theorem dX10_netPay_4 : decode cX10_netPay 4 = .ok (.iload_n 2, 1) := by decide +kernel
theorem dX10_netPay_5 : decode cX10_netPay 5 = .ok (.iconst 2, 1) := by decide +kernel
theorem dX10_netPay_6 : decode cX10_netPay 6 = .ok (.invokevirtual 240, 3) := by decide +kernel
theorem dX10_netPay_9 : decode cX10_netPay 9 = .ok (.invokevirtual 187, 3) := by decide +kernel
theorem dX10_netPay_12 : decode cX10_netPay 12 = .ok (.ireturn, 1) := by decide +kernel
theorem dX10_greater_0 : decode cX10_greater 0 = .ok (.iload_n 0, 1) := by decide +kernel
theorem dX10_greater_1 : decode cX10_greater 1 = .ok (.iload_n 1, 1) := by decide +kernel
theorem dX10_greater_2 : decode cX10_greater 2 = .ok (.if_icmp .le 7, 3) := by decide +kernel
theorem dX10_greater_5 : decode cX10_greater 5 = .ok (.iload_n 0, 1) := by decide +kernel
theorem dX10_greater_6 : decode cX10_greater 6 = .ok (.goto 4, 3) := by decide +kernel
theorem dX10_greater_9 : decode cX10_greater 9 = .ok (.iload_n 1, 1) := by decide +kernel
theorem dX10_greater_10 : decode cX10_greater 10 = .ok (.ireturn, 1) := by decide +kernel
theorem dX10_vestedAt_0 : decode cX10_vestedAt 0 = .ok (.aload_n 0, 1) := by decide +kernel
theorem dX10_vestedAt_1 : decode cX10_vestedAt 1 = .ok (.iload_n 1, 1) := by decide +kernel
theorem dX10_vestedAt_2 : decode cX10_vestedAt 2 = .ok (.iload_n 2, 1) := by decide +kernel
theorem dX10_vestedAt_3 : decode cX10_vestedAt 3 = .ok (.iconst 0, 1) := by decide +kernel
theorem dX10_vestedAt_4 : decode cX10_vestedAt 4 = .ok (.invokevirtual 240, 3) := by decide +kernel
theorem dX10_vestedAt_7 : decode cX10_vestedAt 7 = .ok (.istore 4, 2) := by decide +kernel
theorem dX10_vestedAt_9 : decode cX10_vestedAt 9 = .ok (.aload_n 0, 1) := by decide +kernel
theorem dX10_vestedAt_10 : decode cX10_vestedAt 10 = .ok (.iload 4, 2) := by decide +kernel
theorem dX10_vestedAt_12 : decode cX10_vestedAt 12 = .ok (.invokevirtual 190, 3) := by decide +kernel
theorem dX10_vestedAt_15 : decode cX10_vestedAt 15 = .ok (.ifCond .eq 17, 3) := by decide +kernel
theorem dX10_vestedAt_18 : decode cX10_vestedAt 18 = .ok (.iload_n 3, 1) := by decide +kernel
theorem dX10_vestedAt_19 : decode cX10_vestedAt 19 = .ok (.aload_n 0, 1) := by decide +kernel
theorem dX10_vestedAt_20 : decode cX10_vestedAt 20 = .ok (.iload 4, 2) := by decide +kernel
theorem dX10_vestedAt_22 : decode cX10_vestedAt 22 = .ok (.iconst 1, 1) := by decide +kernel
theorem dX10_vestedAt_23 : decode cX10_vestedAt 23 = .ok (.invokevirtual 159, 3) := by decide +kernel
theorem dX10_vestedAt_26 : decode cX10_vestedAt 26 = .ok (.invokestatic 127, 3) := by decide +kernel
theorem dX10_vestedAt_29 : decode cX10_vestedAt 29 = .ok (.goto 4, 3) := by decide +kernel
theorem dX10_vestedAt_32 : decode cX10_vestedAt 32 = .ok (.iload_n 3, 1) := by decide +kernel
theorem dX10_vestedAt_33 : decode cX10_vestedAt 33 = .ok (.istore 5, 2) := by decide +kernel
theorem dX10_vestedAt_35 : decode cX10_vestedAt 35 = .ok (.aload_n 0, 1) := by decide +kernel
theorem dX10_vestedAt_36 : decode cX10_vestedAt 36 = .ok (.iload_n 1, 1) := by decide +kernel
theorem dX10_vestedAt_37 : decode cX10_vestedAt 37 = .ok (.aload_n 0, 1) := by decide +kernel
theorem dX10_vestedAt_38 : decode cX10_vestedAt 38 = .ok (.iload_n 1, 1) := by decide +kernel
theorem dX10_vestedAt_39 : decode cX10_vestedAt 39 = .ok (.iload_n 2, 1) := by decide +kernel
theorem dX10_vestedAt_40 : decode cX10_vestedAt 40 = .ok (.iconst 2, 1) := by decide +kernel
theorem dX10_vestedAt_41 : decode cX10_vestedAt 41 = .ok (.invokevirtual 240, 3) := by decide +kernel
theorem dX10_vestedAt_44 : decode cX10_vestedAt 44 = .ok (.invokevirtual 187, 3) := by decide +kernel
theorem dX10_vestedAt_47 : decode cX10_vestedAt 47 = .ok (.istore 6, 2) := by decide +kernel
theorem dX10_vestedAt_49 : decode cX10_vestedAt 49 = .ok (.aload_n 0, 1) := by decide +kernel
theorem dX10_vestedAt_50 : decode cX10_vestedAt 50 = .ok (.getfield 7, 3) := by decide +kernel
theorem dX10_vestedAt_53 : decode cX10_vestedAt 53 = .ok (.iconst 5, 1) := by decide +kernel
theorem dX10_vestedAt_54 : decode cX10_vestedAt 54 = .ok (.iaload, 1) := by decide +kernel
theorem dX10_vestedAt_55 : decode cX10_vestedAt 55 = .ok (.iconst 0, 1) := by decide +kernel
theorem dX10_vestedAt_56 : decode cX10_vestedAt 56 = .ok (.iload 5, 2) := by decide +kernel
theorem dX10_vestedAt_58 : decode cX10_vestedAt 58 = .ok (.aload_n 0, 1) := by decide +kernel
theorem dX10_vestedAt_59 : decode cX10_vestedAt 59 = .ok (.iload_n 1, 1) := by decide +kernel
theorem dX10_vestedAt_60 : decode cX10_vestedAt 60 = .ok (.iconst 3, 1) := by decide +kernel
theorem dX10_vestedAt_61 : decode cX10_vestedAt 61 = .ok (.invokevirtual 162, 3) := by decide +kernel
theorem dX10_vestedAt_64 : decode cX10_vestedAt 64 = .ok (.isub, 1) := by decide +kernel
theorem dX10_vestedAt_65 : decode cX10_vestedAt 65 = .ok (.invokestatic 193, 3) := by decide +kernel
theorem dX10_vestedAt_68 : decode cX10_vestedAt 68 = .ok (.invokestatic 127, 3) := by decide +kernel
theorem dX10_vestedAt_71 : decode cX10_vestedAt 71 = .ok (.istore 7, 2) := by decide +kernel
theorem dX10_vestedAt_73 : decode cX10_vestedAt 73 = .ok (.aload_n 0, 1) := by decide +kernel
theorem dX10_vestedAt_74 : decode cX10_vestedAt 74 = .ok (.getfield 7, 3) := by decide +kernel
theorem dX10_vestedAt_77 : decode cX10_vestedAt 77 = .ok (.iconst 5, 1) := by decide +kernel
theorem dX10_vestedAt_78 : decode cX10_vestedAt 78 = .ok (.iaload, 1) := by decide +kernel
theorem dX10_vestedAt_79 : decode cX10_vestedAt 79 = .ok (.ifCond .ne 8, 3) := by decide +kernel
theorem dX10_vestedAt_82 : decode cX10_vestedAt 82 = .ok (.iload 6, 2) := by decide +kernel
theorem dX10_vestedAt_84 : decode cX10_vestedAt 84 = .ok (.goto 15, 3) := by decide +kernel
theorem dX10_vestedAt_87 : decode cX10_vestedAt 87 = .ok (.iload 6, 2) := by decide +kernel
theorem dX10_vestedAt_89 : decode cX10_vestedAt 89 = .ok (.iload 7, 2) := by decide +kernel
theorem dX10_vestedAt_91 : decode cX10_vestedAt 91 = .ok (.imul, 1) := by decide +kernel
theorem dX10_vestedAt_92 : decode cX10_vestedAt 92 = .ok (.aload_n 0, 1) := by decide +kernel
theorem dX10_vestedAt_93 : decode cX10_vestedAt 93 = .ok (.getfield 7, 3) := by decide +kernel
theorem dX10_vestedAt_96 : decode cX10_vestedAt 96 = .ok (.iconst 5, 1) := by decide +kernel
theorem dX10_vestedAt_97 : decode cX10_vestedAt 97 = .ok (.iaload, 1) := by decide +kernel
theorem dX10_vestedAt_98 : decode cX10_vestedAt 98 = .ok (.idiv, 1) := by decide +kernel
theorem dX10_vestedAt_99 : decode cX10_vestedAt 99 = .ok (.ireturn, 1) := by decide +kernel
theorem dX10_notVested_0 : decode cX10_notVested 0 = .ok (.iconst 0, 1) := by decide +kernel
theorem dX10_notVested_1 : decode cX10_notVested 1 = .ok (.istore_n 2, 1) := by decide +kernel
theorem dX10_notVested_2 : decode cX10_notVested 2 = .ok (.iconst 0, 1) := by decide +kernel
theorem dX10_notVested_3 : decode cX10_notVested 3 = .ok (.istore_n 3, 1) := by decide +kernel
theorem dX10_notVested_4 : decode cX10_notVested 4 = .ok (.iload_n 3, 1) := by decide +kernel
theorem dX10_notVested_5 : decode cX10_notVested 5 = .ok (.aload_n 0, 1) := by decide +kernel
theorem dX10_notVested_6 : decode cX10_notVested 6 = .ok (.getfield 7, 3) := by decide +kernel
theorem dX10_notVested_9 : decode cX10_notVested 9 = .ok (.sipush 146, 3) := by decide +kernel
theorem dX10_notVested_12 : decode cX10_notVested 12 = .ok (.iaload, 1) := by decide +kernel
theorem dX10_notVested_13 : decode cX10_notVested 13 = .ok (.if_icmp .ge 67, 3) := by decide +kernel
theorem dX10_notVested_16 : decode cX10_notVested 16 = .ok (.iconst 0, 1) := by decide +kernel
theorem dX10_notVested_17 : decode cX10_notVested 17 = .ok (.istore 4, 2) := by decide +kernel
theorem dX10_notVested_19 : decode cX10_notVested 19 = .ok (.iload 4, 2) := by decide +kernel
theorem dX10_notVested_21 : decode cX10_notVested 21 = .ok (.aload_n 0, 1) := by decide +kernel
theorem dX10_notVested_22 : decode cX10_notVested 22 = .ok (.iload_n 3, 1) := by decide +kernel
theorem dX10_notVested_23 : decode cX10_notVested 23 = .ok (.iconst 5, 1) := by decide +kernel
theorem dX10_notVested_24 : decode cX10_notVested 24 = .ok (.invokevirtual 162, 3) := by decide +kernel
theorem dX10_notVested_27 : decode cX10_notVested 27 = .ok (.if_icmp .ge 47, 3) := by decide +kernel
theorem dX10_notVested_30 : decode cX10_notVested 30 = .ok (.iload_n 2, 1) := by decide +kernel
theorem dX10_notVested_31 : decode cX10_notVested 31 = .ok (.aload_n 0, 1) := by decide +kernel
theorem dX10_notVested_32 : decode cX10_notVested 32 = .ok (.iload_n 3, 1) := by decide +kernel
theorem dX10_notVested_33 : decode cX10_notVested 33 = .ok (.iload 4, 2) := by decide +kernel
theorem dX10_notVested_35 : decode cX10_notVested 35 = .ok (.iconst 0, 1) := by decide +kernel
theorem dX10_notVested_36 : decode cX10_notVested 36 = .ok (.invokevirtual 240, 3) := by decide +kernel
theorem dX10_notVested_39 : decode cX10_notVested 39 = .ok (.iload_n 1, 1) := by decide +kernel
theorem dX10_notVested_40 : decode cX10_notVested 40 = .ok (.if_icmp .ne 25, 3) := by decide +kernel
theorem dX10_notVested_43 : decode cX10_notVested 43 = .ok (.aload_n 0, 1) := by decide +kernel
theorem dX10_notVested_44 : decode cX10_notVested 44 = .ok (.iload_n 3, 1) := by decide +kernel
theorem dX10_notVested_45 : decode cX10_notVested 45 = .ok (.iload 4, 2) := by decide +kernel
theorem dX10_notVested_47 : decode cX10_notVested 47 = .ok (.invokevirtual 247, 3) := by decide +kernel
theorem dX10_notVested_50 : decode cX10_notVested 50 = .ok (.aload_n 0, 1) := by decide +kernel
theorem dX10_notVested_51 : decode cX10_notVested 51 = .ok (.iload_n 3, 1) := by decide +kernel
theorem dX10_notVested_52 : decode cX10_notVested 52 = .ok (.iload 4, 2) := by decide +kernel
theorem dX10_notVested_54 : decode cX10_notVested 54 = .ok (.aload_n 0, 1) := by decide +kernel
theorem dX10_notVested_55 : decode cX10_notVested 55 = .ok (.invokevirtual 218, 3) := by decide +kernel
theorem dX10_notVested_58 : decode cX10_notVested 58 = .ok (.invokevirtual 244, 3) := by decide +kernel
theorem dX10_notVested_61 : decode cX10_notVested 61 = .ok (.isub, 1) := by decide +kernel
theorem dX10_notVested_62 : decode cX10_notVested 62 = .ok (.goto 4, 3) := by decide +kernel
theorem dX10_notVested_65 : decode cX10_notVested 65 = .ok (.iconst 0, 1) := by decide +kernel
theorem dX10_notVested_66 : decode cX10_notVested 66 = .ok (.iadd, 1) := by decide +kernel
theorem dX10_notVested_67 : decode cX10_notVested 67 = .ok (.istore_n 2, 1) := by decide +kernel
theorem dX10_notVested_68 : decode cX10_notVested 68 = .ok (.iinc 4 1, 3) := by decide +kernel
theorem dX10_notVested_71 : decode cX10_notVested 71 = .ok (.goto (-52), 3) := by decide +kernel
theorem dX10_notVested_74 : decode cX10_notVested 74 = .ok (.iinc 3 1, 3) := by decide +kernel
theorem dX10_notVested_77 : decode cX10_notVested 77 = .ok (.goto (-73), 3) := by decide +kernel
theorem dX10_notVested_80 : decode cX10_notVested 80 = .ok (.iload_n 2, 1) := by decide +kernel
theorem dX10_notVested_81 : decode cX10_notVested 81 = .ok (.ireturn, 1) := by decide +kernel
theorem dX10_writes_0 : decode cX10_writes 0 = .ok (.sipush 147, 3) := by decide +kernel
theorem dX10_writes_3 : decode cX10_writes 3 = .ok (.bipush 94, 2) := by decide +kernel
theorem dX10_writes_5 : decode cX10_writes 5 = .ok (.iload_n 1, 1) := by decide +kernel
theorem dX10_writes_6 : decode cX10_writes 6 = .ok (.imul, 1) := by decide +kernel
theorem dX10_writes_7 : decode cX10_writes 7 = .ok (.iadd, 1) := by decide +kernel
theorem dX10_writes_8 : decode cX10_writes 8 = .ok (.bipush 30, 2) := by decide +kernel
theorem dX10_writes_10 : decode cX10_writes 10 = .ok (.iadd, 1) := by decide +kernel
theorem dX10_writes_11 : decode cX10_writes 11 = .ok (.istore 5, 2) := by decide +kernel
theorem dX10_writes_13 : decode cX10_writes 13 = .ok (.bipush 63, 2) := by decide +kernel
theorem dX10_writes_15 : decode cX10_writes 15 = .ok (.istore 6, 2) := by decide +kernel
theorem dX10_writes_17 : decode cX10_writes 17 = .ok (.iload 6, 2) := by decide +kernel
theorem dX10_writes_19 : decode cX10_writes 19 = .ok (.iconst 4, 1) := by decide +kernel
theorem dX10_writes_20 : decode cX10_writes 20 = .ok (.if_icmp .lt 31, 3) := by decide +kernel
theorem dX10_writes_23 : decode cX10_writes 23 = .ok (.aload_n 0, 1) := by decide +kernel
theorem dX10_writes_24 : decode cX10_writes 24 = .ok (.getfield 7, 3) := by decide +kernel
theorem dX10_writes_27 : decode cX10_writes 27 = .ok (.iload 5, 2) := by decide +kernel
theorem dX10_writes_29 : decode cX10_writes 29 = .ok (.iload 6, 2) := by decide +kernel
theorem dX10_writes_31 : decode cX10_writes 31 = .ok (.iadd, 1) := by decide +kernel
theorem dX10_writes_32 : decode cX10_writes 32 = .ok (.aload_n 0, 1) := by decide +kernel
theorem dX10_writes_33 : decode cX10_writes 33 = .ok (.getfield 7, 3) := by decide +kernel
theorem dX10_writes_36 : decode cX10_writes 36 = .ok (.iload 5, 2) := by decide +kernel
theorem dX10_writes_38 : decode cX10_writes 38 = .ok (.iload 6, 2) := by decide +kernel
theorem dX10_writes_40 : decode cX10_writes 40 = .ok (.iadd, 1) := by decide +kernel
theorem dX10_writes_41 : decode cX10_writes 41 = .ok (.iconst 4, 1) := by decide +kernel
theorem dX10_writes_42 : decode cX10_writes 42 = .ok (.isub, 1) := by decide +kernel
theorem dX10_writes_43 : decode cX10_writes 43 = .ok (.iaload, 1) := by decide +kernel
theorem dX10_writes_44 : decode cX10_writes 44 = .ok (.iastore, 1) := by decide +kernel
theorem dX10_writes_45 : decode cX10_writes 45 = .ok (.iinc 6 (-1), 3) := by decide +kernel
theorem dX10_writes_48 : decode cX10_writes 48 = .ok (.goto (-31), 3) := by decide +kernel
theorem dX10_writes_51 : decode cX10_writes 51 = .ok (.aload_n 0, 1) := by decide +kernel
theorem dX10_writes_52 : decode cX10_writes 52 = .ok (.getfield 7, 3) := by decide +kernel
theorem dX10_writes_55 : decode cX10_writes 55 = .ok (.iload 5, 2) := by decide +kernel
theorem dX10_writes_57 : decode cX10_writes 57 = .ok (.iload_n 2, 1) := by decide +kernel
theorem dX10_writes_58 : decode cX10_writes 58 = .ok (.iastore, 1) := by decide +kernel
theorem dX10_writes_59 : decode cX10_writes 59 = .ok (.aload_n 0, 1) := by decide +kernel
theorem dX10_writes_60 : decode cX10_writes 60 = .ok (.getfield 7, 3) := by decide +kernel
theorem dX10_writes_63 : decode cX10_writes 63 = .ok (.iload 5, 2) := by decide +kernel
theorem dX10_writes_65 : decode cX10_writes 65 = .ok (.iconst 1, 1) := by decide +kernel
theorem dX10_writes_66 : decode cX10_writes 66 = .ok (.iadd, 1) := by decide +kernel
theorem dX10_writes_67 : decode cX10_writes 67 = .ok (.aload_n 0, 1) := by decide +kernel
theorem dX10_writes_68 : decode cX10_writes 68 = .ok (.invokevirtual 218, 3) := by decide +kernel
theorem dX10_writes_71 : decode cX10_writes 71 = .ok (.iastore, 1) := by decide +kernel
theorem dX10_writes_72 : decode cX10_writes 72 = .ok (.aload_n 0, 1) := by decide +kernel
theorem dX10_writes_73 : decode cX10_writes 73 = .ok (.getfield 7, 3) := by decide +kernel
theorem dX10_writes_76 : decode cX10_writes 76 = .ok (.iload 5, 2) := by decide +kernel
theorem dX10_writes_78 : decode cX10_writes 78 = .ok (.iconst 2, 1) := by decide +kernel
theorem dX10_writes_79 : decode cX10_writes 79 = .ok (.iadd, 1) := by decide +kernel
theorem dX10_writes_80 : decode cX10_writes 80 = .ok (.iload_n 3, 1) := by decide +kernel
theorem dX10_writes_81 : decode cX10_writes 81 = .ok (.iastore, 1) := by decide +kernel
theorem dX10_writes_82 : decode cX10_writes 82 = .ok (.aload_n 0, 1) := by decide +kernel
theorem dX10_writes_83 : decode cX10_writes 83 = .ok (.getfield 7, 3) := by decide +kernel
theorem dX10_writes_86 : decode cX10_writes 86 = .ok (.iload 5, 2) := by decide +kernel
theorem dX10_writes_88 : decode cX10_writes 88 = .ok (.iconst 3, 1) := by decide +kernel
theorem dX10_writes_89 : decode cX10_writes 89 = .ok (.iadd, 1) := by decide +kernel
theorem dX10_writes_90 : decode cX10_writes 90 = .ok (.iload 4, 2) := by decide +kernel
theorem dX10_writes_92 : decode cX10_writes 92 = .ok (.iastore, 1) := by decide +kernel
theorem dX10_writes_93 : decode cX10_writes 93 = .ok (.aload_n 0, 1) := by decide +kernel
theorem dX10_writes_94 : decode cX10_writes 94 = .ok (.iload_n 1, 1) := by decide +kernel
theorem dX10_writes_95 : decode cX10_writes 95 = .ok (.bipush 29, 2) := by decide +kernel
theorem dX10_writes_97 : decode cX10_writes 97 = .ok (.bipush 16, 2) := by decide +kernel
theorem dX10_writes_99 : decode cX10_writes 99 = .ok (.aload_n 0, 1) := by decide +kernel
theorem dX10_writes_100 : decode cX10_writes 100 = .ok (.iload_n 1, 1) := by decide +kernel
theorem dX10_writes_101 : decode cX10_writes 101 = .ok (.bipush 29, 2) := by decide +kernel
theorem dX10_writes_103 : decode cX10_writes 103 = .ok (.invokevirtual 159, 3) := by decide +kernel
theorem dX10_writes_106 : decode cX10_writes 106 = .ok (.iconst 1, 1) := by decide +kernel
theorem dX10_writes_107 : decode cX10_writes 107 = .ok (.iadd, 1) := by decide +kernel
theorem dX10_writes_108 : decode cX10_writes 108 = .ok (.invokestatic 127, 3) := by decide +kernel
theorem dX10_writes_111 : decode cX10_writes 111 = .ok (.invokevirtual 268, 3) := by decide +kernel
theorem dX10_writes_114 : decode cX10_writes 114 = .ok (.return_, 1) := by decide +kernel
theorem dX10_quit_0 : decode cX10_quit 0 = .ok (.aload_n 0, 1) := by decide +kernel
theorem dX10_quit_1 : decode cX10_quit 1 = .ok (.iconst 0, 1) := by decide +kernel
theorem dX10_quit_2 : decode cX10_quit 2 = .ok (.putfield 52, 3) := by decide +kernel
theorem dX10_quit_5 : decode cX10_quit 5 = .ok (.aload_n 0, 1) := by decide +kernel
theorem dX10_quit_6 : decode cX10_quit 6 = .ok (.iload_n 1, 1) := by decide +kernel
theorem dX10_quit_7 : decode cX10_quit 7 = .ok (.invokevirtual 253, 3) := by decide +kernel
theorem dX10_quit_10 : decode cX10_quit 10 = .ok (.ifCond .eq 15, 3) := by decide +kernel
theorem dX10_quit_13 : decode cX10_quit 13 = .ok (.aload_n 0, 1) := by decide +kernel
theorem dX10_quit_14 : decode cX10_quit 14 = .ok (.iload_n 1, 1) := by decide +kernel
theorem dX10_quit_15 : decode cX10_quit 15 = .ok (.invokevirtual 190, 3) := by decide +kernel
theorem dX10_quit_18 : decode cX10_quit 18 = .ok (.ifCond .ne 7, 3) := by decide +kernel
theorem dX10_quit_21 : decode cX10_quit 21 = .ok (.iload_n 1, 1) := by decide +kernel
theorem dX10_quit_22 : decode cX10_quit 22 = .ok (.ifCond .ne 5, 3) := by decide +kernel
theorem dX10_quit_25 : decode cX10_quit 25 = .ok (.iconst (-1), 1) := by decide +kernel
theorem dX10_quit_26 : decode cX10_quit 26 = .ok (.ireturn, 1) := by decide +kernel
theorem dX10_quit_27 : decode cX10_quit 27 = .ok (.aload_n 0, 1) := by decide +kernel
theorem dX10_quit_28 : decode cX10_quit 28 = .ok (.iload_n 1, 1) := by decide +kernel
theorem dX10_quit_29 : decode cX10_quit 29 = .ok (.iconst 1, 1) := by decide +kernel
theorem dX10_quit_30 : decode cX10_quit 30 = .ok (.aload_n 0, 1) := by decide +kernel
theorem dX10_quit_31 : decode cX10_quit 31 = .ok (.invokevirtual 218, 3) := by decide +kernel
theorem dX10_quit_34 : decode cX10_quit 34 = .ok (.invokevirtual 268, 3) := by decide +kernel
theorem dX10_quit_37 : decode cX10_quit 37 = .ok (.aload_n 0, 1) := by decide +kernel
theorem dX10_quit_38 : decode cX10_quit 38 = .ok (.iload_n 1, 1) := by decide +kernel
theorem dX10_quit_39 : decode cX10_quit 39 = .ok (.invokevirtual 272, 3) := by decide +kernel
theorem dX10_quit_42 : decode cX10_quit 42 = .ok (.istore_n 2, 1) := by decide +kernel
theorem dX10_quit_43 : decode cX10_quit 43 = .ok (.aload_n 0, 1) := by decide +kernel
theorem dX10_quit_44 : decode cX10_quit 44 = .ok (.iload_n 1, 1) := by decide +kernel
theorem dX10_quit_45 : decode cX10_quit 45 = .ok (.iconst 3, 1) := by decide +kernel
theorem dX10_quit_46 : decode cX10_quit 46 = .ok (.iload_n 2, 1) := by decide +kernel
theorem dX10_quit_47 : decode cX10_quit 47 = .ok (.iconst (-1), 1) := by decide +kernel
theorem dX10_quit_48 : decode cX10_quit 48 = .ok (.invokevirtual 275, 3) := by decide +kernel
theorem dX10_quit_51 : decode cX10_quit 51 = .ok (.iload_n 2, 1) := by decide +kernel
theorem dX10_quit_52 : decode cX10_quit 52 = .ok (.ireturn, 1) := by decide +kernel
theorem dX9_canSell_0 : decode cX9_canSell 0 = .ok (.aload_n 0, 1) := by decide +kernel
theorem dX9_canSell_1 : decode cX9_canSell 1 = .ok (.getfield 10, 3) := by decide +kernel
theorem dX9_canSell_4 : decode cX9_canSell 4 = .ok (.getfield 93, 3) := by decide +kernel
theorem dX9_canSell_7 : decode cX9_canSell 7 = .ok (.iload_n 1, 1) := by decide +kernel
theorem dX9_canSell_8 : decode cX9_canSell 8 = .ok (.invokevirtual 97, 3) := by decide +kernel
theorem dX9_canSell_11 : decode cX9_canSell 11 = .ok (.ifCond .eq 19, 3) := by decide +kernel
theorem dX9_canSell_14 : decode cX9_canSell 14 = .ok (.iload_n 2, 1) := by decide +kernel
theorem dX9_canSell_15 : decode cX9_canSell 15 = .ok (.iconst 1, 1) := by decide +kernel
theorem dX9_canSell_16 : decode cX9_canSell 16 = .ok (.if_icmp .lt 14, 3) := by decide +kernel
theorem dX9_canSell_19 : decode cX9_canSell 19 = .ok (.iload_n 2, 1) := by decide +kernel
theorem dX9_canSell_20 : decode cX9_canSell 20 = .ok (.sipush 9999, 3) := by decide +kernel
theorem dX9_canSell_23 : decode cX9_canSell 23 = .ok (.if_icmp .gt 7, 3) := by decide +kernel
theorem dX9_canSell_26 : decode cX9_canSell 26 = .ok (.iconst 1, 1) := by decide +kernel
theorem dX9_canSell_27 : decode cX9_canSell 27 = .ok (.goto 4, 3) := by decide +kernel
theorem dX9_canSell_30 : decode cX9_canSell 30 = .ok (.iconst 0, 1) := by decide +kernel
theorem dX9_canSell_31 : decode cX9_canSell 31 = .ok (.ireturn, 1) := by decide +kernel
theorem dX5_add_0 : decode cX5_add 0 = .ok (.aload_n 0, 1) := by decide +kernel
theorem dX5_add_1 : decode cX5_add 1 = .ok (.getfield 9, 3) := by decide +kernel
theorem dX5_add_4 : decode cX5_add 4 = .ok (.istore 5, 2) := by decide +kernel
theorem dX5_add_6 : decode cX5_add 6 = .ok (.iload 5, 2) := by decide +kernel
theorem dX5_add_8 : decode cX5_add 8 = .ok (.bipush 40, 2) := by decide +kernel
theorem dX5_add_10 : decode cX5_add 10 = .ok (.if_icmp .lt 5, 3) := by decide +kernel
theorem dX5_add_13 : decode cX5_add 13 = .ok (.iconst (-1), 1) := by decide +kernel
theorem dX5_add_14 : decode cX5_add 14 = .ok (.ireturn, 1) := by decide +kernel
theorem dX5_add_15 : decode cX5_add 15 = .ok (.aload_n 0, 1) := by decide +kernel
theorem dX5_add_16 : decode cX5_add 16 = .ok (.getfield 15, 3) := by decide +kernel
theorem dX5_add_19 : decode cX5_add 19 = .ok (.iload 5, 2) := by decide +kernel
theorem dX5_add_21 : decode cX5_add 21 = .ok (.iload_n 1, 1) := by decide +kernel
theorem dX5_add_22 : decode cX5_add 22 = .ok (.iastore, 1) := by decide +kernel
theorem dX5_add_23 : decode cX5_add 23 = .ok (.aload_n 0, 1) := by decide +kernel
theorem dX5_add_24 : decode cX5_add 24 = .ok (.getfield 19, 3) := by decide +kernel
theorem dX5_add_27 : decode cX5_add 27 = .ok (.iload 5, 2) := by decide +kernel
theorem dX5_add_29 : decode cX5_add 29 = .ok (.iload_n 2, 1) := by decide +kernel
theorem dX5_add_30 : decode cX5_add 30 = .ok (.iastore, 1) := by decide +kernel
theorem dX5_add_31 : decode cX5_add 31 = .ok (.aload_n 0, 1) := by decide +kernel
theorem dX5_add_32 : decode cX5_add 32 = .ok (.getfield 22, 3) := by decide +kernel
theorem dX5_add_35 : decode cX5_add 35 = .ok (.iload 5, 2) := by decide +kernel
theorem dX5_add_37 : decode cX5_add 37 = .ok (.iload_n 3, 1) := by decide +kernel
theorem dX5_add_38 : decode cX5_add 38 = .ok (.iastore, 1) := by decide +kernel
theorem dX5_add_39 : decode cX5_add 39 = .ok (.aload_n 0, 1) := by decide +kernel
theorem dX5_add_40 : decode cX5_add 40 = .ok (.getfield 25, 3) := by decide +kernel
theorem dX5_add_43 : decode cX5_add 43 = .ok (.iload 5, 2) := by decide +kernel
theorem dX5_add_45 : decode cX5_add 45 = .ok (.iload 4, 2) := by decide +kernel
theorem dX5_add_47 : decode cX5_add 47 = .ok (.iastore, 1) := by decide +kernel
theorem dX5_add_48 : decode cX5_add 48 = .ok (.aload_n 0, 1) := by decide +kernel
theorem dX5_add_49 : decode cX5_add 49 = .ok (.getfield 28, 3) := by decide +kernel
theorem dX5_add_52 : decode cX5_add 52 = .ok (.iload 5, 2) := by decide +kernel
theorem dX5_add_54 : decode cX5_add 54 = .ok (.iconst 0, 1) := by decide +kernel
theorem dX5_add_55 : decode cX5_add 55 = .ok (.iastore, 1) := by decide +kernel
theorem dX5_add_56 : decode cX5_add 56 = .ok (.aload_n 0, 1) := by decide +kernel
theorem dX5_add_57 : decode cX5_add 57 = .ok (.getfield 31, 3) := by decide +kernel
theorem dX5_add_60 : decode cX5_add 60 = .ok (.iload 5, 2) := by decide +kernel
theorem dX5_add_62 : decode cX5_add 62 = .ok (.iconst 0, 1) := by decide +kernel
theorem dX5_add_63 : decode cX5_add 63 = .ok (.iastore, 1) := by decide +kernel
theorem dX5_add_64 : decode cX5_add 64 = .ok (.aload_n 0, 1) := by decide +kernel
theorem dX5_add_65 : decode cX5_add 65 = .ok (.dup, 1) := by decide +kernel
theorem dX5_add_66 : decode cX5_add 66 = .ok (.getfield 9, 3) := by decide +kernel
theorem dX5_add_69 : decode cX5_add 69 = .ok (.iconst 1, 1) := by decide +kernel
theorem dX5_add_70 : decode cX5_add 70 = .ok (.iadd, 1) := by decide +kernel
theorem dX5_add_71 : decode cX5_add 71 = .ok (.putfield 9, 3) := by decide +kernel
theorem dX5_add_74 : decode cX5_add 74 = .ok (.iload 5, 2) := by decide +kernel
theorem dX5_add_76 : decode cX5_add 76 = .ok (.ireturn, 1) := by decide +kernel
theorem dX6_clearRow_0 : decode cX6_clearRow 0 = .ok (.aload_n 0, 1) := by decide +kernel
theorem dX6_clearRow_1 : decode cX6_clearRow 1 = .ok (.getfield 15, 3) := by decide +kernel
theorem dX6_clearRow_4 : decode cX6_clearRow 4 = .ok (.iload_n 1, 1) := by decide +kernel
theorem dX6_clearRow_5 : decode cX6_clearRow 5 = .ok (.iconst 0, 1) := by decide +kernel
theorem dX6_clearRow_6 : decode cX6_clearRow 6 = .ok (.iastore, 1) := by decide +kernel
theorem dX6_clearRow_7 : decode cX6_clearRow 7 = .ok (.aload_n 0, 1) := by decide +kernel
theorem dX6_clearRow_8 : decode cX6_clearRow 8 = .ok (.getfield 18, 3) := by decide +kernel
theorem dX6_clearRow_11 : decode cX6_clearRow 11 = .ok (.iload_n 1, 1) := by decide +kernel
theorem dX6_clearRow_12 : decode cX6_clearRow 12 = .ok (.iconst 0, 1) := by decide +kernel
theorem dX6_clearRow_13 : decode cX6_clearRow 13 = .ok (.iastore, 1) := by decide +kernel
theorem dX6_clearRow_14 : decode cX6_clearRow 14 = .ok (.aload_n 0, 1) := by decide +kernel
theorem dX6_clearRow_15 : decode cX6_clearRow 15 = .ok (.getfield 21, 3) := by decide +kernel
theorem dX6_clearRow_18 : decode cX6_clearRow 18 = .ok (.iload_n 1, 1) := by decide +kernel
theorem dX6_clearRow_19 : decode cX6_clearRow 19 = .ok (.iconst 0, 1) := by decide +kernel
theorem dX6_clearRow_20 : decode cX6_clearRow 20 = .ok (.iastore, 1) := by decide +kernel
theorem dX6_clearRow_21 : decode cX6_clearRow 21 = .ok (.aload_n 0, 1) := by decide +kernel
theorem dX6_clearRow_22 : decode cX6_clearRow 22 = .ok (.getfield 24, 3) := by decide +kernel
theorem dX6_clearRow_25 : decode cX6_clearRow 25 = .ok (.iload_n 1, 1) := by decide +kernel
theorem dX6_clearRow_26 : decode cX6_clearRow 26 = .ok (.iconst 0, 1) := by decide +kernel
theorem dX6_clearRow_27 : decode cX6_clearRow 27 = .ok (.iastore, 1) := by decide +kernel
theorem dX6_clearRow_28 : decode cX6_clearRow 28 = .ok (.aload_n 0, 1) := by decide +kernel
theorem dX6_clearRow_29 : decode cX6_clearRow 29 = .ok (.getfield 27, 3) := by decide +kernel
theorem dX6_clearRow_32 : decode cX6_clearRow 32 = .ok (.iload_n 1, 1) := by decide +kernel
theorem dX6_clearRow_33 : decode cX6_clearRow 33 = .ok (.iconst 0, 1) := by decide +kernel
theorem dX6_clearRow_34 : decode cX6_clearRow 34 = .ok (.iastore, 1) := by decide +kernel
theorem dX6_clearRow_35 : decode cX6_clearRow 35 = .ok (.aload_n 0, 1) := by decide +kernel
theorem dX6_clearRow_36 : decode cX6_clearRow 36 = .ok (.getfield 30, 3) := by decide +kernel
theorem dX6_clearRow_39 : decode cX6_clearRow 39 = .ok (.iload_n 1, 1) := by decide +kernel
theorem dX6_clearRow_40 : decode cX6_clearRow 40 = .ok (.iconst 0, 1) := by decide +kernel
theorem dX6_clearRow_41 : decode cX6_clearRow 41 = .ok (.iastore, 1) := by decide +kernel
theorem dX6_clearRow_42 : decode cX6_clearRow 42 = .ok (.return_, 1) := by decide +kernel
theorem dX5_netAmount_0 : decode cX5_netAmount 0 = .ok (.aload_n 0, 1) := by decide +kernel
theorem dX5_netAmount_1 : decode cX5_netAmount 1 = .ok (.getfield 19, 3) := by decide +kernel
theorem dX5_netAmount_4 : decode cX5_netAmount 4 = .ok (.iload_n 1, 1) := by decide +kernel
theorem dX5_netAmount_5 : decode cX5_netAmount 5 = .ok (.iaload, 1) := by decide +kernel
theorem dX5_netAmount_6 : decode cX5_netAmount 6 = .ok (.aload_n 0, 1) := by decide +kernel
theorem dX5_netAmount_7 : decode cX5_netAmount 7 = .ok (.getfield 28, 3) := by decide +kernel
theorem dX5_netAmount_10 : decode cX5_netAmount 10 = .ok (.iload_n 1, 1) := by decide +kernel
theorem dX5_netAmount_11 : decode cX5_netAmount 11 = .ok (.iaload, 1) := by decide +kernel
theorem dX5_netAmount_12 : decode cX5_netAmount 12 = .ok (.invokestatic 48, 3) := by decide +kernel
theorem dX5_netAmount_15 : decode cX5_netAmount 15 = .ok (.ireturn, 1) := by decide +kernel
theorem dX6_laySales_0 : decode cX6_laySales 0 = .ok (.iconst 0, 1) := by decide +kernel
theorem dX6_laySales_1 : decode cX6_laySales 1 = .ok (.istore_n 3, 1) := by decide +kernel
theorem dX6_laySales_2 : decode cX6_laySales 2 = .ok (.iload_n 3, 1) := by decide +kernel
theorem dX6_laySales_3 : decode cX6_laySales 3 = .ok (.aload_n 1, 1) := by decide +kernel
theorem dX6_laySales_4 : decode cX6_laySales 4 = .ok (.getfield 116, 3) := by decide +kernel
theorem dX6_laySales_7 : decode cX6_laySales 7 = .ok (.if_icmp .ge 81, 3) := by decide +kernel
theorem dX6_laySales_10 : decode cX6_laySales 10 = .ok (.aload_n 0, 1) := by decide +kernel
theorem dX6_laySales_11 : decode cX6_laySales 11 = .ok (.getfield 36, 3) := by decide +kernel
theorem dX6_laySales_14 : decode cX6_laySales 14 = .ok (.aload_n 1, 1) := by decide +kernel
theorem dX6_laySales_15 : decode cX6_laySales 15 = .ok (.getfield 119, 3) := by decide +kernel
theorem dX6_laySales_18 : decode cX6_laySales 18 = .ok (.iload_n 3, 1) := by decide +kernel
theorem dX6_laySales_19 : decode cX6_laySales 19 = .ok (.iaload, 1) := by decide +kernel
theorem dX6_laySales_20 : decode cX6_laySales 20 = .ok (.isub, 1) := by decide +kernel
theorem dX6_laySales_21 : decode cX6_laySales 21 = .ok (.istore 4, 2) := by decide +kernel
theorem dX6_laySales_23 : decode cX6_laySales 23 = .ok (.iload 4, 2) := by decide +kernel
theorem dX6_laySales_25 : decode cX6_laySales 25 = .ok (.ifCond .lt 57, 3) := by decide +kernel
theorem dX6_laySales_28 : decode cX6_laySales 28 = .ok (.iload 4, 2) := by decide +kernel
theorem dX6_laySales_30 : decode cX6_laySales 30 = .ok (.iload_n 2, 1) := by decide +kernel
theorem dX6_laySales_31 : decode cX6_laySales 31 = .ok (.if_icmp .ge 51, 3) := by decide +kernel
theorem dX6_laySales_34 : decode cX6_laySales 34 = .ok (.aload_n 1, 1) := by decide +kernel
theorem dX6_laySales_35 : decode cX6_laySales 35 = .ok (.getfield 121, 3) := by decide +kernel
theorem dX6_laySales_38 : decode cX6_laySales 38 = .ok (.iload_n 3, 1) := by decide +kernel
theorem dX6_laySales_39 : decode cX6_laySales 39 = .ok (.iaload, 1) := by decide +kernel
theorem dX6_laySales_40 : decode cX6_laySales 40 = .ok (.istore 5, 2) := by decide +kernel
theorem dX6_laySales_42 : decode cX6_laySales 42 = .ok (.aload_n 1, 1) := by decide +kernel
theorem dX6_laySales_43 : decode cX6_laySales 43 = .ok (.iload_n 3, 1) := by decide +kernel
theorem dX6_laySales_44 : decode cX6_laySales 44 = .ok (.invokevirtual 124, 3) := by decide +kernel
theorem dX6_laySales_47 : decode cX6_laySales 47 = .ok (.istore 6, 2) := by decide +kernel
theorem dX6_laySales_49 : decode cX6_laySales 49 = .ok (.aload_n 0, 1) := by decide +kernel
theorem dX6_laySales_50 : decode cX6_laySales 50 = .ok (.getfield 18, 3) := by decide +kernel
theorem dX6_laySales_53 : decode cX6_laySales 53 = .ok (.iload 5, 2) := by decide +kernel
theorem dX6_laySales_55 : decode cX6_laySales 55 = .ok (.dup2, 1) := by decide +kernel
theorem dX6_laySales_56 : decode cX6_laySales 56 = .ok (.iaload, 1) := by decide +kernel
theorem dX6_laySales_57 : decode cX6_laySales 57 = .ok (.iload 6, 2) := by decide +kernel
theorem dX6_laySales_59 : decode cX6_laySales 59 = .ok (.iadd, 1) := by decide +kernel
theorem dX6_laySales_60 : decode cX6_laySales 60 = .ok (.iastore, 1) := by decide +kernel
theorem dX6_laySales_61 : decode cX6_laySales 61 = .ok (.aload_n 0, 1) := by decide +kernel
theorem dX6_laySales_62 : decode cX6_laySales 62 = .ok (.getfield 15, 3) := by decide +kernel
theorem dX6_laySales_65 : decode cX6_laySales 65 = .ok (.iload 5, 2) := by decide +kernel
theorem dX6_laySales_67 : decode cX6_laySales 67 = .ok (.dup2, 1) := by decide +kernel
theorem dX6_laySales_68 : decode cX6_laySales 68 = .ok (.iaload, 1) := by decide +kernel
theorem dX6_laySales_69 : decode cX6_laySales 69 = .ok (.iload 4, 2) := by decide +kernel
theorem dX6_laySales_71 : decode cX6_laySales 71 = .ok (.ifCond .ne 8, 3) := by decide +kernel
theorem dX6_laySales_74 : decode cX6_laySales 74 = .ok (.iload 6, 2) := by decide +kernel
theorem dX6_laySales_76 : decode cX6_laySales 76 = .ok (.goto 4, 3) := by decide +kernel
theorem dX6_laySales_79 : decode cX6_laySales 79 = .ok (.iconst 0, 1) := by decide +kernel
theorem dX6_laySales_80 : decode cX6_laySales 80 = .ok (.iadd, 1) := by decide +kernel
theorem dX6_laySales_81 : decode cX6_laySales 81 = .ok (.iastore, 1) := by decide +kernel
theorem dX6_laySales_82 : decode cX6_laySales 82 = .ok (.iinc 3 1, 3) := by decide +kernel
theorem dX6_laySales_85 : decode cX6_laySales 85 = .ok (.goto (-83), 3) := by decide +kernel
theorem dX6_laySales_88 : decode cX6_laySales 88 = .ok (.return_, 1) := by decide +kernel
theorem dX6_lay_0 : decode cX6_lay 0 = .ok (.aload_n 1, 1) := by decide +kernel
theorem dX6_lay_1 : decode cX6_lay 1 = .ok (.getfield 83, 3) := by decide +kernel
theorem dX6_lay_4 : decode cX6_lay 4 = .ok (.astore_n 3, 1) := by decide +kernel
theorem dX6_lay_5 : decode cX6_lay 5 = .ok (.aload_n 0, 1) := by decide +kernel
theorem dX6_lay_6 : decode cX6_lay 6 = .ok (.iload_n 2, 1) := by decide +kernel
theorem dX6_lay_7 : decode cX6_lay 7 = .ok (.putfield 36, 3) := by decide +kernel
theorem dX6_lay_10 : decode cX6_lay 10 = .ok (.aload_n 0, 1) := by decide +kernel
theorem dX6_lay_11 : decode cX6_lay 11 = .ok (.aload_n 3, 1) := by decide +kernel
theorem dX6_lay_12 : decode cX6_lay 12 = .ok (.getfield 87, 3) := by decide +kernel
theorem dX6_lay_15 : decode cX6_lay 15 = .ok (.putfield 49, 3) := by decide +kernel
theorem dX6_lay_18 : decode cX6_lay 18 = .ok (.aload_n 0, 1) := by decide +kernel
theorem dX6_lay_19 : decode cX6_lay 19 = .ok (.iconst 0, 1) := by decide +kernel
theorem dX6_lay_20 : decode cX6_lay 20 = .ok (.putfield 46, 3) := by decide +kernel
theorem dX6_lay_23 : decode cX6_lay 23 = .ok (.aload_n 0, 1) := by decide +kernel
theorem dX6_lay_24 : decode cX6_lay 24 = .ok (.iconst 0, 1) := by decide +kernel
theorem dX6_lay_25 : decode cX6_lay 25 = .ok (.putfield 43, 3) := by decide +kernel
theorem dX6_lay_28 : decode cX6_lay 28 = .ok (.iconst 0, 1) := by decide +kernel
theorem dX6_lay_29 : decode cX6_lay 29 = .ok (.istore 4, 2) := by decide +kernel
theorem dX6_lay_31 : decode cX6_lay 31 = .ok (.iload 4, 2) := by decide +kernel
theorem dX6_lay_33 : decode cX6_lay 33 = .ok (.aload_n 0, 1) := by decide +kernel
theorem dX6_lay_34 : decode cX6_lay 34 = .ok (.getfield 49, 3) := by decide +kernel
theorem dX6_lay_37 : decode cX6_lay 37 = .ok (.if_icmp .ge 103, 3) := by decide +kernel
theorem dX6_lay_40 : decode cX6_lay 40 = .ok (.aload_n 0, 1) := by decide +kernel
theorem dX6_lay_41 : decode cX6_lay 41 = .ok (.iload 4, 2) := by decide +kernel
theorem dX6_lay_43 : decode cX6_lay 43 = .ok (.invokevirtual 73, 3) := by decide +kernel
theorem dX6_lay_46 : decode cX6_lay 46 = .ok (.aload_n 0, 1) := by decide +kernel
theorem dX6_lay_47 : decode cX6_lay 47 = .ok (.getfield 9, 3) := by decide +kernel
theorem dX6_lay_50 : decode cX6_lay 50 = .ok (.iload 4, 2) := by decide +kernel
theorem dX6_lay_52 : decode cX6_lay 52 = .ok (.aload_n 3, 1) := by decide +kernel
theorem dX6_lay_53 : decode cX6_lay 53 = .ok (.iload 4, 2) := by decide +kernel
theorem dX6_lay_55 : decode cX6_lay 55 = .ok (.aload_n 0, 1) := by decide +kernel
theorem dX6_lay_56 : decode cX6_lay 56 = .ok (.getfield 36, 3) := by decide +kernel
theorem dX6_lay_59 : decode cX6_lay 59 = .ok (.invokevirtual 90, 3) := by decide +kernel
theorem dX6_lay_62 : decode cX6_lay 62 = .ok (.iastore, 1) := by decide +kernel
theorem dX6_lay_63 : decode cX6_lay 63 = .ok (.aload_n 0, 1) := by decide +kernel
theorem dX6_lay_64 : decode cX6_lay 64 = .ok (.dup, 1) := by decide +kernel
theorem dX6_lay_65 : decode cX6_lay 65 = .ok (.getfield 46, 3) := by decide +kernel
theorem dX6_lay_68 : decode cX6_lay 68 = .ok (.aload_n 3, 1) := by decide +kernel
theorem dX6_lay_69 : decode cX6_lay 69 = .ok (.getfield 94, 3) := by decide +kernel
theorem dX6_lay_72 : decode cX6_lay 72 = .ok (.iload 4, 2) := by decide +kernel
theorem dX6_lay_74 : decode cX6_lay 74 = .ok (.iaload, 1) := by decide +kernel
theorem dX6_lay_75 : decode cX6_lay 75 = .ok (.aload_n 0, 1) := by decide +kernel
theorem dX6_lay_76 : decode cX6_lay 76 = .ok (.getfield 36, 3) := by decide +kernel
theorem dX6_lay_79 : decode cX6_lay 79 = .ok (.if_icmp .gt 10, 3) := by decide +kernel
theorem dX6_lay_82 : decode cX6_lay 82 = .ok (.iconst 1, 1) := by decide +kernel
theorem dX6_lay_83 : decode cX6_lay 83 = .ok (.iload 4, 2) := by decide +kernel
theorem dX6_lay_85 : decode cX6_lay 85 = .ok (.ishl, 1) := by decide +kernel
theorem dX6_lay_86 : decode cX6_lay 86 = .ok (.goto 4, 3) := by decide +kernel
theorem dX6_lay_89 : decode cX6_lay 89 = .ok (.iconst 0, 1) := by decide +kernel
theorem dX6_lay_90 : decode cX6_lay 90 = .ok (.ior, 1) := by decide +kernel
theorem dX6_lay_91 : decode cX6_lay 91 = .ok (.putfield 46, 3) := by decide +kernel
theorem dX6_lay_94 : decode cX6_lay 94 = .ok (.aload_n 0, 1) := by decide +kernel
theorem dX6_lay_95 : decode cX6_lay 95 = .ok (.dup, 1) := by decide +kernel
theorem dX6_lay_96 : decode cX6_lay 96 = .ok (.getfield 43, 3) := by decide +kernel
theorem dX6_lay_99 : decode cX6_lay 99 = .ok (.aload_n 3, 1) := by decide +kernel
theorem dX6_lay_100 : decode cX6_lay 100 = .ok (.iload 4, 2) := by decide +kernel
theorem dX6_lay_102 : decode cX6_lay 102 = .ok (.invokevirtual 97, 3) := by decide +kernel
theorem dX6_lay_105 : decode cX6_lay 105 = .ok (.ifCond .eq 24, 3) := by decide +kernel
theorem dX6_lay_108 : decode cX6_lay 108 = .ok (.aload_n 3, 1) := by decide +kernel
theorem dX6_lay_109 : decode cX6_lay 109 = .ok (.getfield 101, 3) := by decide +kernel
theorem dX6_lay_112 : decode cX6_lay 112 = .ok (.iload 4, 2) := by decide +kernel
theorem dX6_lay_114 : decode cX6_lay 114 = .ok (.iaload, 1) := by decide +kernel
theorem dX6_lay_115 : decode cX6_lay 115 = .ok (.aload_n 0, 1) := by decide +kernel
theorem dX6_lay_116 : decode cX6_lay 116 = .ok (.getfield 36, 3) := by decide +kernel
theorem dX6_lay_119 : decode cX6_lay 119 = .ok (.if_icmp .gt 10, 3) := by decide +kernel
theorem dX6_lay_122 : decode cX6_lay 122 = .ok (.iconst 1, 1) := by decide +kernel
theorem dX6_lay_123 : decode cX6_lay 123 = .ok (.iload 4, 2) := by decide +kernel
theorem dX6_lay_125 : decode cX6_lay 125 = .ok (.ishl, 1) := by decide +kernel
theorem dX6_lay_126 : decode cX6_lay 126 = .ok (.goto 4, 3) := by decide +kernel
theorem dX6_lay_129 : decode cX6_lay 129 = .ok (.iconst 0, 1) := by decide +kernel
theorem dX6_lay_130 : decode cX6_lay 130 = .ok (.ior, 1) := by decide +kernel
theorem dX6_lay_131 : decode cX6_lay 131 = .ok (.putfield 43, 3) := by decide +kernel
theorem dX6_lay_134 : decode cX6_lay 134 = .ok (.iinc 4 1, 3) := by decide +kernel
theorem dX6_lay_137 : decode cX6_lay 137 = .ok (.goto (-106), 3) := by decide +kernel
theorem dX6_lay_140 : decode cX6_lay 140 = .ok (.aload_n 0, 1) := by decide +kernel
theorem dX6_lay_141 : decode cX6_lay 141 = .ok (.aload_n 1, 1) := by decide +kernel
theorem dX6_lay_142 : decode cX6_lay 142 = .ok (.getfield 103, 3) := by decide +kernel
theorem dX6_lay_145 : decode cX6_lay 145 = .ok (.aload_n 1, 1) := by decide +kernel
theorem dX6_lay_146 : decode cX6_lay 146 = .ok (.getfield 56, 3) := by decide +kernel
theorem dX6_lay_149 : decode cX6_lay 149 = .ok (.getfield 107, 3) := by decide +kernel
theorem dX6_lay_152 : decode cX6_lay 152 = .ok (.invokevirtual 112, 3) := by decide +kernel
theorem dX6_lay_155 : decode cX6_lay 155 = .ok (.return_, 1) := by decide +kernel
theorem dX6_countUpwards_0 : decode cX6_countUpwards 0 = .ok (.aload_n 0, 1) := by decide +kernel
theorem dX6_countUpwards_1 : decode cX6_countUpwards 1 = .ok (.getfield 9, 3) := by decide +kernel
theorem dX6_countUpwards_4 : decode cX6_countUpwards 4 = .ok (.iload_n 1, 1) := by decide +kernel
theorem dX6_countUpwards_5 : decode cX6_countUpwards 5 = .ok (.iaload, 1) := by decide +kernel
theorem dX6_countUpwards_6 : decode cX6_countUpwards 6 = .ok (.iconst (-1), 1) := by decide +kernel
theorem dX6_countUpwards_7 : decode cX6_countUpwards 7 = .ok (.if_icmp .eq 20, 3) := by decide +kernel
theorem dX6_countUpwards_10 : decode cX6_countUpwards 10 = .ok (.aload_n 0, 1) := by decide +kernel
theorem dX6_countUpwards_11 : decode cX6_countUpwards 11 = .ok (.getfield 27, 3) := by decide +kernel
theorem dX6_countUpwards_14 : decode cX6_countUpwards 14 = .ok (.aload_n 0, 1) := by decide +kernel
theorem dX6_countUpwards_15 : decode cX6_countUpwards 15 = .ok (.getfield 9, 3) := by decide +kernel
theorem dX6_countUpwards_18 : decode cX6_countUpwards 18 = .ok (.iload_n 1, 1) := by decide +kernel
theorem dX6_countUpwards_19 : decode cX6_countUpwards 19 = .ok (.iaload, 1) := by decide +kernel
theorem dX6_countUpwards_20 : decode cX6_countUpwards 20 = .ok (.dup2, 1) := by decide +kernel
theorem dX6_countUpwards_21 : decode cX6_countUpwards 21 = .ok (.iaload, 1) := by decide +kernel
theorem dX6_countUpwards_22 : decode cX6_countUpwards 22 = .ok (.iconst 1, 1) := by decide +kernel
theorem dX6_countUpwards_23 : decode cX6_countUpwards 23 = .ok (.iload_n 1, 1) := by decide +kernel
theorem dX6_countUpwards_24 : decode cX6_countUpwards 24 = .ok (.ishl, 1) := by decide +kernel
theorem dX6_countUpwards_25 : decode cX6_countUpwards 25 = .ok (.ior, 1) := by decide +kernel
theorem dX6_countUpwards_26 : decode cX6_countUpwards 26 = .ok (.iastore, 1) := by decide +kernel
theorem dX6_countUpwards_27 : decode cX6_countUpwards 27 = .ok (.iload_n 1, 1) := by decide +kernel
theorem dX6_countUpwards_28 : decode cX6_countUpwards 28 = .ok (.istore_n 2, 1) := by decide +kernel
theorem dX6_countUpwards_29 : decode cX6_countUpwards 29 = .ok (.iconst 0, 1) := by decide +kernel
theorem dX6_countUpwards_30 : decode cX6_countUpwards 30 = .ok (.istore_n 3, 1) := by decide +kernel
theorem dX6_countUpwards_31 : decode cX6_countUpwards 31 = .ok (.iload_n 3, 1) := by decide +kernel
theorem dX6_countUpwards_32 : decode cX6_countUpwards 32 = .ok (.bipush 10, 2) := by decide +kernel
theorem dX6_countUpwards_34 : decode cX6_countUpwards 34 = .ok (.if_icmp .gt 64, 3) := by decide +kernel
theorem dX6_countUpwards_37 : decode cX6_countUpwards 37 = .ok (.iload_n 2, 1) := by decide +kernel
theorem dX6_countUpwards_38 : decode cX6_countUpwards 38 = .ok (.iconst (-1), 1) := by decide +kernel
theorem dX6_countUpwards_39 : decode cX6_countUpwards 39 = .ok (.if_icmp .eq 59, 3) := by decide +kernel
theorem dX6_countUpwards_42 : decode cX6_countUpwards 42 = .ok (.aload_n 0, 1) := by decide +kernel
theorem dX6_countUpwards_43 : decode cX6_countUpwards 43 = .ok (.getfield 24, 3) := by decide +kernel
theorem dX6_countUpwards_46 : decode cX6_countUpwards 46 = .ok (.iload_n 2, 1) := by decide +kernel
theorem dX6_countUpwards_47 : decode cX6_countUpwards 47 = .ok (.dup2, 1) := by decide +kernel
theorem dX6_countUpwards_48 : decode cX6_countUpwards 48 = .ok (.iaload, 1) := by decide +kernel
theorem dX6_countUpwards_49 : decode cX6_countUpwards 49 = .ok (.iconst 1, 1) := by decide +kernel
theorem dX6_countUpwards_50 : decode cX6_countUpwards 50 = .ok (.iload_n 1, 1) := by decide +kernel
theorem dX6_countUpwards_51 : decode cX6_countUpwards 51 = .ok (.ishl, 1) := by decide +kernel
theorem dX6_countUpwards_52 : decode cX6_countUpwards 52 = .ok (.ior, 1) := by decide +kernel
theorem dX6_countUpwards_53 : decode cX6_countUpwards 53 = .ok (.iastore, 1) := by decide +kernel
theorem dX6_countUpwards_54 : decode cX6_countUpwards 54 = .ok (.aload_n 0, 1) := by decide +kernel
theorem dX6_countUpwards_55 : decode cX6_countUpwards 55 = .ok (.getfield 21, 3) := by decide +kernel
theorem dX6_countUpwards_58 : decode cX6_countUpwards 58 = .ok (.iload_n 2, 1) := by decide +kernel
theorem dX6_countUpwards_59 : decode cX6_countUpwards 59 = .ok (.dup2, 1) := by decide +kernel
theorem dX6_countUpwards_60 : decode cX6_countUpwards 60 = .ok (.iaload, 1) := by decide +kernel
theorem dX6_countUpwards_61 : decode cX6_countUpwards 61 = .ok (.aload_n 0, 1) := by decide +kernel
theorem dX6_countUpwards_62 : decode cX6_countUpwards 62 = .ok (.getfield 18, 3) := by decide +kernel
theorem dX6_countUpwards_65 : decode cX6_countUpwards 65 = .ok (.iload_n 1, 1) := by decide +kernel
theorem dX6_countUpwards_66 : decode cX6_countUpwards 66 = .ok (.iaload, 1) := by decide +kernel
theorem dX6_countUpwards_67 : decode cX6_countUpwards 67 = .ok (.iadd, 1) := by decide +kernel
theorem dX6_countUpwards_68 : decode cX6_countUpwards 68 = .ok (.iastore, 1) := by decide +kernel
theorem dX6_countUpwards_69 : decode cX6_countUpwards 69 = .ok (.aload_n 0, 1) := by decide +kernel
theorem dX6_countUpwards_70 : decode cX6_countUpwards 70 = .ok (.getfield 30, 3) := by decide +kernel
theorem dX6_countUpwards_73 : decode cX6_countUpwards 73 = .ok (.iload_n 2, 1) := by decide +kernel
theorem dX6_countUpwards_74 : decode cX6_countUpwards 74 = .ok (.aload_n 0, 1) := by decide +kernel
theorem dX6_countUpwards_75 : decode cX6_countUpwards 75 = .ok (.getfield 30, 3) := by decide +kernel
theorem dX6_countUpwards_78 : decode cX6_countUpwards 78 = .ok (.iload_n 2, 1) := by decide +kernel
theorem dX6_countUpwards_79 : decode cX6_countUpwards 79 = .ok (.iaload, 1) := by decide +kernel
theorem dX6_countUpwards_80 : decode cX6_countUpwards 80 = .ok (.iload_n 3, 1) := by decide +kernel
theorem dX6_countUpwards_81 : decode cX6_countUpwards 81 = .ok (.invokestatic 139, 3) := by decide +kernel
theorem dX6_countUpwards_84 : decode cX6_countUpwards 84 = .ok (.iastore, 1) := by decide +kernel
theorem dX6_countUpwards_85 : decode cX6_countUpwards 85 = .ok (.aload_n 0, 1) := by decide +kernel
theorem dX6_countUpwards_86 : decode cX6_countUpwards 86 = .ok (.getfield 9, 3) := by decide +kernel
theorem dX6_countUpwards_89 : decode cX6_countUpwards 89 = .ok (.iload_n 2, 1) := by decide +kernel
theorem dX6_countUpwards_90 : decode cX6_countUpwards 90 = .ok (.iaload, 1) := by decide +kernel
theorem dX6_countUpwards_91 : decode cX6_countUpwards 91 = .ok (.istore_n 2, 1) := by decide +kernel
theorem dX6_countUpwards_92 : decode cX6_countUpwards 92 = .ok (.iinc 3 1, 3) := by decide +kernel
theorem dX6_countUpwards_95 : decode cX6_countUpwards 95 = .ok (.goto (-64), 3) := by decide +kernel
theorem dX6_countUpwards_98 : decode cX6_countUpwards 98 = .ok (.return_, 1) := by decide +kernel
theorem dJ6_bitCount_0f7a4_0 : decode cJ6_bitCount_0f7a4 0 = .ok (.iload_n 0, 1) := by decide +kernel
theorem dJ6_bitCount_0f7a4_1 : decode cJ6_bitCount_0f7a4 1 = .ok (.iload_n 0, 1) := by decide +kernel
theorem dJ6_bitCount_0f7a4_2 : decode cJ6_bitCount_0f7a4 2 = .ok (.iconst 1, 1) := by decide +kernel
theorem dJ6_bitCount_0f7a4_3 : decode cJ6_bitCount_0f7a4 3 = .ok (.iushr, 1) := by decide +kernel
theorem dJ6_bitCount_0f7a4_4 : decode cJ6_bitCount_0f7a4 4 = .ok (.ldc_w 265, 3) := by decide +kernel
theorem dJ6_bitCount_0f7a4_7 : decode cJ6_bitCount_0f7a4 7 = .ok (.iand, 1) := by decide +kernel
theorem dJ6_bitCount_0f7a4_8 : decode cJ6_bitCount_0f7a4 8 = .ok (.isub, 1) := by decide +kernel
theorem dJ6_bitCount_0f7a4_9 : decode cJ6_bitCount_0f7a4 9 = .ok (.istore_n 0, 1) := by decide +kernel
theorem dJ6_bitCount_0f7a4_10 : decode cJ6_bitCount_0f7a4 10 = .ok (.iload_n 0, 1) := by decide +kernel
theorem dJ6_bitCount_0f7a4_11 : decode cJ6_bitCount_0f7a4 11 = .ok (.ldc_w 266, 3) := by decide +kernel
theorem dJ6_bitCount_0f7a4_14 : decode cJ6_bitCount_0f7a4 14 = .ok (.iand, 1) := by decide +kernel
theorem dJ6_bitCount_0f7a4_15 : decode cJ6_bitCount_0f7a4 15 = .ok (.iload_n 0, 1) := by decide +kernel
theorem dJ6_bitCount_0f7a4_16 : decode cJ6_bitCount_0f7a4 16 = .ok (.iconst 2, 1) := by decide +kernel
theorem dJ6_bitCount_0f7a4_17 : decode cJ6_bitCount_0f7a4 17 = .ok (.iushr, 1) := by decide +kernel
theorem dJ6_bitCount_0f7a4_18 : decode cJ6_bitCount_0f7a4 18 = .ok (.ldc_w 266, 3) := by decide +kernel
theorem dJ6_bitCount_0f7a4_21 : decode cJ6_bitCount_0f7a4 21 = .ok (.iand, 1) := by decide +kernel
theorem dJ6_bitCount_0f7a4_22 : decode cJ6_bitCount_0f7a4 22 = .ok (.iadd, 1) := by decide +kernel
theorem dJ6_bitCount_0f7a4_23 : decode cJ6_bitCount_0f7a4 23 = .ok (.istore_n 0, 1) := by decide +kernel
theorem dJ6_bitCount_0f7a4_24 : decode cJ6_bitCount_0f7a4 24 = .ok (.iload_n 0, 1) := by decide +kernel
theorem dJ6_bitCount_0f7a4_25 : decode cJ6_bitCount_0f7a4 25 = .ok (.iload_n 0, 1) := by decide +kernel
theorem dJ6_bitCount_0f7a4_26 : decode cJ6_bitCount_0f7a4 26 = .ok (.iconst 4, 1) := by decide +kernel
theorem dJ6_bitCount_0f7a4_27 : decode cJ6_bitCount_0f7a4 27 = .ok (.iushr, 1) := by decide +kernel
theorem dJ6_bitCount_0f7a4_28 : decode cJ6_bitCount_0f7a4 28 = .ok (.iadd, 1) := by decide +kernel
theorem dJ6_bitCount_0f7a4_29 : decode cJ6_bitCount_0f7a4 29 = .ok (.ldc_w 267, 3) := by decide +kernel
theorem dJ6_bitCount_0f7a4_32 : decode cJ6_bitCount_0f7a4 32 = .ok (.iand, 1) := by decide +kernel
theorem dJ6_bitCount_0f7a4_33 : decode cJ6_bitCount_0f7a4 33 = .ok (.istore_n 0, 1) := by decide +kernel
theorem dJ6_bitCount_0f7a4_34 : decode cJ6_bitCount_0f7a4 34 = .ok (.iload_n 0, 1) := by decide +kernel
theorem dJ6_bitCount_0f7a4_35 : decode cJ6_bitCount_0f7a4 35 = .ok (.iload_n 0, 1) := by decide +kernel
theorem dJ6_bitCount_0f7a4_36 : decode cJ6_bitCount_0f7a4 36 = .ok (.bipush 8, 2) := by decide +kernel
theorem dJ6_bitCount_0f7a4_38 : decode cJ6_bitCount_0f7a4 38 = .ok (.iushr, 1) := by decide +kernel
theorem dJ6_bitCount_0f7a4_39 : decode cJ6_bitCount_0f7a4 39 = .ok (.iadd, 1) := by decide +kernel
theorem dJ6_bitCount_0f7a4_40 : decode cJ6_bitCount_0f7a4 40 = .ok (.istore_n 0, 1) := by decide +kernel
theorem dJ6_bitCount_0f7a4_41 : decode cJ6_bitCount_0f7a4 41 = .ok (.iload_n 0, 1) := by decide +kernel
theorem dJ6_bitCount_0f7a4_42 : decode cJ6_bitCount_0f7a4 42 = .ok (.iload_n 0, 1) := by decide +kernel
theorem dJ6_bitCount_0f7a4_43 : decode cJ6_bitCount_0f7a4 43 = .ok (.bipush 16, 2) := by decide +kernel
theorem dJ6_bitCount_0f7a4_45 : decode cJ6_bitCount_0f7a4 45 = .ok (.iushr, 1) := by decide +kernel
theorem dJ6_bitCount_0f7a4_46 : decode cJ6_bitCount_0f7a4 46 = .ok (.iadd, 1) := by decide +kernel
theorem dJ6_bitCount_0f7a4_47 : decode cJ6_bitCount_0f7a4 47 = .ok (.istore_n 0, 1) := by decide +kernel
theorem dJ6_bitCount_0f7a4_48 : decode cJ6_bitCount_0f7a4 48 = .ok (.iload_n 0, 1) := by decide +kernel
theorem dJ6_bitCount_0f7a4_49 : decode cJ6_bitCount_0f7a4 49 = .ok (.bipush 63, 2) := by decide +kernel
theorem dJ6_bitCount_0f7a4_51 : decode cJ6_bitCount_0f7a4 51 = .ok (.iand, 1) := by decide +kernel
theorem dJ6_bitCount_0f7a4_52 : decode cJ6_bitCount_0f7a4 52 = .ok (.ireturn, 1) := by decide +kernel
theorem dX6_activeLegs_0 : decode cX6_activeLegs 0 = .ok (.aload_n 0, 1) := by decide +kernel
theorem dX6_activeLegs_1 : decode cX6_activeLegs 1 = .ok (.getfield 27, 3) := by decide +kernel
theorem dX6_activeLegs_4 : decode cX6_activeLegs 4 = .ok (.iload_n 1, 1) := by decide +kernel
theorem dX6_activeLegs_5 : decode cX6_activeLegs 5 = .ok (.iaload, 1) := by decide +kernel
theorem dX6_activeLegs_6 : decode cX6_activeLegs 6 = .ok (.aload_n 0, 1) := by decide +kernel
theorem dX6_activeLegs_7 : decode cX6_activeLegs 7 = .ok (.getfield 40, 3) := by decide +kernel
theorem dX6_activeLegs_10 : decode cX6_activeLegs 10 = .ok (.iand, 1) := by decide +kernel
theorem dX6_activeLegs_11 : decode cX6_activeLegs 11 = .ok (.invokestatic 77, 3) := by decide +kernel
theorem dX6_activeLegs_14 : decode cX6_activeLegs 14 = .ok (.ireturn, 1) := by decide +kernel
theorem dX3_rankFor_0 : decode cX3_rankFor 0 = .ok (.iconst 3, 1) := by decide +kernel
theorem dX3_rankFor_1 : decode cX3_rankFor 1 = .ok (.istore_n 3, 1) := by decide +kernel
theorem dX3_rankFor_2 : decode cX3_rankFor 2 = .ok (.iload_n 3, 1) := by decide +kernel
theorem dX3_rankFor_3 : decode cX3_rankFor 3 = .ok (.iconst 1, 1) := by decide +kernel
theorem dX3_rankFor_4 : decode cX3_rankFor 4 = .ok (.if_icmp .lt 31, 3) := by decide +kernel
theorem dX3_rankFor_7 : decode cX3_rankFor 7 = .ok (.iload_n 1, 1) := by decide +kernel
theorem dX3_rankFor_8 : decode cX3_rankFor 8 = .ok (.aload_n 0, 1) := by decide +kernel
theorem dX3_rankFor_9 : decode cX3_rankFor 9 = .ok (.getfield 9, 3) := by decide +kernel
theorem dX3_rankFor_12 : decode cX3_rankFor 12 = .ok (.iload_n 3, 1) := by decide +kernel
theorem dX3_rankFor_13 : decode cX3_rankFor 13 = .ok (.iaload, 1) := by decide +kernel
theorem dX3_rankFor_14 : decode cX3_rankFor 14 = .ok (.if_icmp .lt 15, 3) := by decide +kernel
theorem dX3_rankFor_17 : decode cX3_rankFor 17 = .ok (.iload_n 2, 1) := by decide +kernel
theorem dX3_rankFor_18 : decode cX3_rankFor 18 = .ok (.aload_n 0, 1) := by decide +kernel
theorem dX3_rankFor_19 : decode cX3_rankFor 19 = .ok (.getfield 15, 3) := by decide +kernel
theorem dX3_rankFor_22 : decode cX3_rankFor 22 = .ok (.iload_n 3, 1) := by decide +kernel
theorem dX3_rankFor_23 : decode cX3_rankFor 23 = .ok (.iaload, 1) := by decide +kernel
theorem dX3_rankFor_24 : decode cX3_rankFor 24 = .ok (.if_icmp .lt 5, 3) := by decide +kernel
theorem dX3_rankFor_27 : decode cX3_rankFor 27 = .ok (.iload_n 3, 1) := by decide +kernel
theorem dX3_rankFor_28 : decode cX3_rankFor 28 = .ok (.ireturn, 1) := by decide +kernel
theorem dX3_rankFor_29 : decode cX3_rankFor 29 = .ok (.iinc 3 (-1), 3) := by decide +kernel
theorem dX3_rankFor_32 : decode cX3_rankFor 32 = .ok (.goto (-30), 3) := by decide +kernel
theorem dX3_rankFor_35 : decode cX3_rankFor 35 = .ok (.iconst 0, 1) := by decide +kernel
theorem dX3_rankFor_36 : decode cX3_rankFor 36 = .ok (.ireturn, 1) := by decide +kernel
