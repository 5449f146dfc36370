/-! rows that decode: the words' methods -/
theorem dJ0_length_8abf5_0 : decode cJ0_length_8abf5 0 = .ok (.aload_n 0, 1) := by decide +kernel
theorem dJ0_length_8abf5_1 : decode cJ0_length_8abf5 1 = .ok (.getfield 9, 3) := by decide +kernel
theorem dJ0_length_8abf5_4 : decode cJ0_length_8abf5 4 = .ok (.arraylength, 1) := by decide +kernel
theorem dJ0_length_8abf5_5 : decode cJ0_length_8abf5 5 = .ok (.aload_n 0, 1) := by decide +kernel
theorem dJ0_length_8abf5_6 : decode cJ0_length_8abf5 6 = .ok (.invokevirtual 335, 3) := by decide +kernel
theorem dJ0_length_8abf5_9 : decode cJ0_length_8abf5 9 = .ok (.ishr, 1) := by decide +kernel
theorem dJ0_length_8abf5_10 : decode cJ0_length_8abf5 10 = .ok (.ireturn, 1) := by decide +kernel
theorem dJ0_charAt_5068e_0 : decode cJ0_charAt_5068e 0 = .ok (.aload_n 0, 1) := by decide +kernel
theorem dJ0_charAt_5068e_1 : decode cJ0_charAt_5068e 1 = .ok (.invokevirtual 492, 3) := by decide +kernel
theorem dJ0_charAt_5068e_4 : decode cJ0_charAt_5068e 4 = .ok (.ifCond .eq 12, 3) := by decide +kernel
theorem dJ0_charAt_5068e_7 : decode cJ0_charAt_5068e 7 = .ok (.aload_n 0, 1) := by decide +kernel
theorem dJ0_charAt_5068e_8 : decode cJ0_charAt_5068e 8 = .ok (.getfield 9, 3) := by decide +kernel
theorem dJ0_charAt_5068e_11 : decode cJ0_charAt_5068e 11 = .ok (.iload_n 1, 1) := by decide +kernel
theorem dJ0_charAt_5068e_12 : decode cJ0_charAt_5068e 12 = .ok (.invokestatic 495, 3) := by decide +kernel
theorem dJ0_charAt_5068e_15 : decode cJ0_charAt_5068e 15 = .ok (.ireturn, 1) := by decide +kernel
theorem dJ0_charAt_5068e_16 : decode cJ0_charAt_5068e 16 = .ok (.aload_n 0, 1) := by decide +kernel
theorem dJ0_charAt_5068e_17 : decode cJ0_charAt_5068e 17 = .ok (.getfield 9, 3) := by decide +kernel
theorem dJ0_charAt_5068e_20 : decode cJ0_charAt_5068e 20 = .ok (.iload_n 1, 1) := by decide +kernel
theorem dJ0_charAt_5068e_21 : decode cJ0_charAt_5068e 21 = .ok (.invokestatic 498, 3) := by decide +kernel
theorem dJ0_charAt_5068e_24 : decode cJ0_charAt_5068e 24 = .ok (.ireturn, 1) := by decide +kernel
theorem dJ0_coder_7d493_0 : decode cJ0_coder_7d493 0 = .ok (.getstatic 38, 3) := by decide +kernel
theorem dJ0_coder_7d493_3 : decode cJ0_coder_7d493 3 = .ok (.ifCond .eq 10, 3) := by decide +kernel
theorem dJ0_coder_7d493_6 : decode cJ0_coder_7d493 6 = .ok (.aload_n 0, 1) := by decide +kernel
theorem dJ0_coder_7d493_7 : decode cJ0_coder_7d493 7 = .ok (.getfield 15, 3) := by decide +kernel
theorem dJ0_coder_7d493_10 : decode cJ0_coder_7d493 10 = .ok (.goto 4, 3) := by decide +kernel
theorem dJ0_coder_7d493_13 : decode cJ0_coder_7d493 13 = .ok (.iconst 1, 1) := by decide +kernel
theorem dJ0_coder_7d493_14 : decode cJ0_coder_7d493 14 = .ok (.ireturn, 1) := by decide +kernel
theorem dJ0_isLatin1_aae02_0 : decode cJ0_isLatin1_aae02 0 = .ok (.getstatic 38, 3) := by decide +kernel
theorem dJ0_isLatin1_aae02_3 : decode cJ0_isLatin1_aae02 3 = .ok (.ifCond .eq 14, 3) := by decide +kernel
theorem dJ0_isLatin1_aae02_6 : decode cJ0_isLatin1_aae02 6 = .ok (.aload_n 0, 1) := by decide +kernel
theorem dJ0_isLatin1_aae02_7 : decode cJ0_isLatin1_aae02 7 = .ok (.getfield 15, 3) := by decide +kernel
theorem dJ0_isLatin1_aae02_10 : decode cJ0_isLatin1_aae02 10 = .ok (.ifCond .ne 7, 3) := by decide +kernel
theorem dJ0_isLatin1_aae02_13 : decode cJ0_isLatin1_aae02 13 = .ok (.iconst 1, 1) := by decide +kernel
theorem dJ0_isLatin1_aae02_14 : decode cJ0_isLatin1_aae02 14 = .ok (.goto 4, 3) := by decide +kernel
theorem dJ0_isLatin1_aae02_17 : decode cJ0_isLatin1_aae02 17 = .ok (.iconst 0, 1) := by decide +kernel
theorem dJ0_isLatin1_aae02_18 : decode cJ0_isLatin1_aae02 18 = .ok (.ireturn, 1) := by decide +kernel
theorem dJ0_checkIndex_df160_0 : decode cJ0_checkIndex_df160 0 = .ok (.iload_n 0, 1) := by decide +kernel
theorem dJ0_checkIndex_df160_1 : decode cJ0_checkIndex_df160 1 = .ok (.iload_n 1, 1) := by decide +kernel
theorem dJ0_checkIndex_df160_2 : decode cJ0_checkIndex_df160 2 = .ok (.getstatic 1053, 3) := by decide +kernel
theorem dJ0_checkIndex_df160_5 : decode cJ0_checkIndex_df160 5 = .ok (.invokestatic 1059, 3) := by decide +kernel
theorem dJ0_checkIndex_df160_8 : decode cJ0_checkIndex_df160 8 = .ok (.pop, 1) := by decide +kernel
theorem dJ0_checkIndex_df160_9 : decode cJ0_checkIndex_df160 9 = .ok (.return_, 1) := by decide +kernel
theorem dJ1_charAt_3b067_0 : decode cJ1_charAt_3b067 0 = .ok (.iload_n 1, 1) := by decide +kernel
theorem dJ1_charAt_3b067_1 : decode cJ1_charAt_3b067 1 = .ok (.aload_n 0, 1) := by decide +kernel
theorem dJ1_charAt_3b067_2 : decode cJ1_charAt_3b067 2 = .ok (.arraylength, 1) := by decide +kernel
theorem dJ1_charAt_3b067_3 : decode cJ1_charAt_3b067 3 = .ok (.invokestatic 9, 3) := by decide +kernel
theorem dJ1_charAt_3b067_6 : decode cJ1_charAt_3b067 6 = .ok (.aload_n 0, 1) := by decide +kernel
theorem dJ1_charAt_3b067_7 : decode cJ1_charAt_3b067 7 = .ok (.iload_n 1, 1) := by decide +kernel
theorem dJ1_charAt_3b067_8 : decode cJ1_charAt_3b067 8 = .ok (.baload, 1) := by decide +kernel
theorem dJ1_charAt_3b067_9 : decode cJ1_charAt_3b067 9 = .ok (.sipush 255, 3) := by decide +kernel
theorem dJ1_charAt_3b067_12 : decode cJ1_charAt_3b067 12 = .ok (.iand, 1) := by decide +kernel
theorem dJ1_charAt_3b067_13 : decode cJ1_charAt_3b067 13 = .ok (.i2c, 1) := by decide +kernel
theorem dJ1_charAt_3b067_14 : decode cJ1_charAt_3b067 14 = .ok (.ireturn, 1) := by decide +kernel
theorem dJ3_checkIndex_8e157_0 : decode cJ3_checkIndex_8e157 0 = .ok (.iload_n 0, 1) := by decide +kernel
theorem dJ3_checkIndex_8e157_1 : decode cJ3_checkIndex_8e157 1 = .ok (.ifCond .lt 8, 3) := by decide +kernel
theorem dJ3_checkIndex_8e157_4 : decode cJ3_checkIndex_8e157 4 = .ok (.iload_n 0, 1) := by decide +kernel
theorem dJ3_checkIndex_8e157_5 : decode cJ3_checkIndex_8e157 5 = .ok (.iload_n 1, 1) := by decide +kernel
theorem dJ3_checkIndex_8e157_6 : decode cJ3_checkIndex_8e157 6 = .ok (.if_icmp .lt 10, 3) := by decide +kernel
theorem dJ3_checkIndex_8e157_9 : decode cJ3_checkIndex_8e157 9 = .ok (.aload_n 2, 1) := by decide +kernel
theorem dJ3_checkIndex_8e157_10 : decode cJ3_checkIndex_8e157 10 = .ok (.iload_n 0, 1) := by decide +kernel
theorem dJ3_checkIndex_8e157_11 : decode cJ3_checkIndex_8e157 11 = .ok (.iload_n 1, 1) := by decide +kernel
theorem dJ3_checkIndex_8e157_12 : decode cJ3_checkIndex_8e157 12 = .ok (.invokestatic 95, 3) := by decide +kernel
theorem dJ3_checkIndex_8e157_15 : decode cJ3_checkIndex_8e157 15 = .ok (.athrow, 1) := by decide +kernel
theorem dJ3_checkIndex_8e157_16 : decode cJ3_checkIndex_8e157 16 = .ok (.iload_n 0, 1) := by decide +kernel
theorem dJ3_checkIndex_8e157_17 : decode cJ3_checkIndex_8e157 17 = .ok (.ireturn, 1) := by decide +kernel
theorem dX4_spells_0 : decode cX4_spells 0 = .ok (.aload_n 0, 1) := by decide +kernel
theorem dX4_spells_1 : decode cX4_spells 1 = .ok (.getfield 39, 3) := by decide +kernel
theorem dX4_spells_4 : decode cX4_spells 4 = .ok (.iload_n 1, 1) := by decide +kernel
theorem dX4_spells_5 : decode cX4_spells 5 = .ok (.isub, 1) := by decide +kernel
theorem dX4_spells_6 : decode cX4_spells 6 = .ok (.aload_n 2, 1) := by decide +kernel
theorem dX4_spells_7 : decode cX4_spells 7 = .ok (.invokevirtual 182, 3) := by decide +kernel
theorem dX4_spells_10 : decode cX4_spells 10 = .ok (.if_icmp .eq 5, 3) := by decide +kernel
theorem dX4_spells_13 : decode cX4_spells 13 = .ok (.iconst 0, 1) := by decide +kernel
theorem dX4_spells_14 : decode cX4_spells 14 = .ok (.ireturn, 1) := by decide +kernel
theorem dX4_spells_15 : decode cX4_spells 15 = .ok (.iconst 0, 1) := by decide +kernel
theorem dX4_spells_16 : decode cX4_spells 16 = .ok (.istore_n 3, 1) := by decide +kernel
theorem dX4_spells_17 : decode cX4_spells 17 = .ok (.iload_n 3, 1) := by decide +kernel
theorem dX4_spells_18 : decode cX4_spells 18 = .ok (.aload_n 2, 1) := by decide +kernel
theorem dX4_spells_19 : decode cX4_spells 19 = .ok (.invokevirtual 182, 3) := by decide +kernel
theorem dX4_spells_22 : decode cX4_spells 22 = .ok (.if_icmp .ge 30, 3) := by decide +kernel
theorem dX4_spells_25 : decode cX4_spells 25 = .ok (.aload_n 0, 1) := by decide +kernel
theorem dX4_spells_26 : decode cX4_spells 26 = .ok (.getfield 21, 3) := by decide +kernel
theorem dX4_spells_29 : decode cX4_spells 29 = .ok (.getfield 147, 3) := by decide +kernel
theorem dX4_spells_32 : decode cX4_spells 32 = .ok (.iload_n 1, 1) := by decide +kernel
theorem dX4_spells_33 : decode cX4_spells 33 = .ok (.iload_n 3, 1) := by decide +kernel
theorem dX4_spells_34 : decode cX4_spells 34 = .ok (.iadd, 1) := by decide +kernel
theorem dX4_spells_35 : decode cX4_spells 35 = .ok (.baload, 1) := by decide +kernel
theorem dX4_spells_36 : decode cX4_spells 36 = .ok (.aload_n 2, 1) := by decide +kernel
theorem dX4_spells_37 : decode cX4_spells 37 = .ok (.iload_n 3, 1) := by decide +kernel
theorem dX4_spells_38 : decode cX4_spells 38 = .ok (.invokevirtual 186, 3) := by decide +kernel
theorem dX4_spells_41 : decode cX4_spells 41 = .ok (.if_icmp .eq 5, 3) := by decide +kernel
theorem dX4_spells_44 : decode cX4_spells 44 = .ok (.iconst 0, 1) := by decide +kernel
theorem dX4_spells_45 : decode cX4_spells 45 = .ok (.ireturn, 1) := by decide +kernel
theorem dX4_spells_46 : decode cX4_spells 46 = .ok (.iinc 3 1, 3) := by decide +kernel
theorem dX4_spells_49 : decode cX4_spells 49 = .ok (.goto (-32), 3) := by decide +kernel
theorem dX4_spells_52 : decode cX4_spells 52 = .ok (.iconst 1, 1) := by decide +kernel
theorem dX4_spells_53 : decode cX4_spells 53 = .ok (.ireturn, 1) := by decide +kernel
theorem dX4_wordFrom_0 : decode cX4_wordFrom 0 = .ok (.aload_n 0, 1) := by decide +kernel
theorem dX4_wordFrom_1 : decode cX4_wordFrom 1 = .ok (.iload_n 1, 1) := by decide +kernel
theorem dX4_wordFrom_2 : decode cX4_wordFrom 2 = .ok (.ldc 155, 2) := by decide +kernel
theorem dX4_wordFrom_4 : decode cX4_wordFrom 4 = .ok (.invokevirtual 157, 3) := by decide +kernel
theorem dX4_wordFrom_7 : decode cX4_wordFrom 7 = .ok (.ifCond .eq 7, 3) := by decide +kernel
theorem dX4_wordFrom_10 : decode cX4_wordFrom 10 = .ok (.iconst 4, 1) := by decide +kernel
theorem dX4_wordFrom_11 : decode cX4_wordFrom 11 = .ok (.goto 198, 3) := by decide +kernel
theorem dX4_wordFrom_14 : decode cX4_wordFrom 14 = .ok (.aload_n 0, 1) := by decide +kernel
theorem dX4_wordFrom_15 : decode cX4_wordFrom 15 = .ok (.iload_n 1, 1) := by decide +kernel
theorem dX4_wordFrom_16 : decode cX4_wordFrom 16 = .ok (.ldc 161, 2) := by decide +kernel
theorem dX4_wordFrom_18 : decode cX4_wordFrom 18 = .ok (.invokevirtual 157, 3) := by decide +kernel
theorem dX4_wordFrom_21 : decode cX4_wordFrom 21 = .ok (.ifCond .eq 7, 3) := by decide +kernel
theorem dX4_wordFrom_24 : decode cX4_wordFrom 24 = .ok (.iconst 5, 1) := by decide +kernel
theorem dX4_wordFrom_25 : decode cX4_wordFrom 25 = .ok (.goto 184, 3) := by decide +kernel
theorem dX4_wordFrom_28 : decode cX4_wordFrom 28 = .ok (.aload_n 0, 1) := by decide +kernel
theorem dX4_wordFrom_29 : decode cX4_wordFrom 29 = .ok (.iload_n 1, 1) := by decide +kernel
theorem dX4_wordFrom_30 : decode cX4_wordFrom 30 = .ok (.ldc 163, 2) := by decide +kernel
theorem dX4_wordFrom_32 : decode cX4_wordFrom 32 = .ok (.invokevirtual 157, 3) := by decide +kernel
theorem dX4_wordFrom_35 : decode cX4_wordFrom 35 = .ok (.ifCond .eq 8, 3) := by decide +kernel
theorem dX4_wordFrom_38 : decode cX4_wordFrom 38 = .ok (.bipush 6, 2) := by decide +kernel
theorem dX4_wordFrom_40 : decode cX4_wordFrom 40 = .ok (.goto 169, 3) := by decide +kernel
theorem dX4_wordFrom_43 : decode cX4_wordFrom 43 = .ok (.aload_n 0, 1) := by decide +kernel
theorem dX4_wordFrom_44 : decode cX4_wordFrom 44 = .ok (.iload_n 1, 1) := by decide +kernel
theorem dX4_wordFrom_45 : decode cX4_wordFrom 45 = .ok (.ldc 164, 2) := by decide +kernel
theorem dX4_wordFrom_47 : decode cX4_wordFrom 47 = .ok (.invokevirtual 157, 3) := by decide +kernel
theorem dX4_wordFrom_50 : decode cX4_wordFrom 50 = .ok (.ifCond .eq 8, 3) := by decide +kernel
theorem dX4_wordFrom_53 : decode cX4_wordFrom 53 = .ok (.bipush 7, 2) := by decide +kernel
theorem dX4_wordFrom_55 : decode cX4_wordFrom 55 = .ok (.goto 154, 3) := by decide +kernel
theorem dX4_wordFrom_58 : decode cX4_wordFrom 58 = .ok (.aload_n 0, 1) := by decide +kernel
theorem dX4_wordFrom_59 : decode cX4_wordFrom 59 = .ok (.iload_n 1, 1) := by decide +kernel
theorem dX4_wordFrom_60 : decode cX4_wordFrom 60 = .ok (.ldc 165, 2) := by decide +kernel
theorem dX4_wordFrom_62 : decode cX4_wordFrom 62 = .ok (.invokevirtual 157, 3) := by decide +kernel
theorem dX4_wordFrom_65 : decode cX4_wordFrom 65 = .ok (.ifCond .eq 8, 3) := by decide +kernel
theorem dX4_wordFrom_68 : decode cX4_wordFrom 68 = .ok (.bipush 8, 2) := by decide +kernel
theorem dX4_wordFrom_70 : decode cX4_wordFrom 70 = .ok (.goto 139, 3) := by decide +kernel
theorem dX4_wordFrom_73 : decode cX4_wordFrom 73 = .ok (.aload_n 0, 1) := by decide +kernel
theorem dX4_wordFrom_74 : decode cX4_wordFrom 74 = .ok (.iload_n 1, 1) := by decide +kernel
theorem dX4_wordFrom_75 : decode cX4_wordFrom 75 = .ok (.ldc 166, 2) := by decide +kernel
theorem dX4_wordFrom_77 : decode cX4_wordFrom 77 = .ok (.invokevirtual 157, 3) := by decide +kernel
theorem dX4_wordFrom_80 : decode cX4_wordFrom 80 = .ok (.ifCond .eq 8, 3) := by decide +kernel
theorem dX4_wordFrom_83 : decode cX4_wordFrom 83 = .ok (.bipush 9, 2) := by decide +kernel
theorem dX4_wordFrom_85 : decode cX4_wordFrom 85 = .ok (.goto 124, 3) := by decide +kernel
theorem dX4_wordFrom_88 : decode cX4_wordFrom 88 = .ok (.aload_n 0, 1) := by decide +kernel
theorem dX4_wordFrom_89 : decode cX4_wordFrom 89 = .ok (.iload_n 1, 1) := by decide +kernel
theorem dX4_wordFrom_90 : decode cX4_wordFrom 90 = .ok (.ldc 167, 2) := by decide +kernel
theorem dX4_wordFrom_92 : decode cX4_wordFrom 92 = .ok (.invokevirtual 157, 3) := by decide +kernel
theorem dX4_wordFrom_95 : decode cX4_wordFrom 95 = .ok (.ifCond .eq 8, 3) := by decide +kernel
theorem dX4_wordFrom_98 : decode cX4_wordFrom 98 = .ok (.bipush 10, 2) := by decide +kernel
theorem dX4_wordFrom_100 : decode cX4_wordFrom 100 = .ok (.goto 109, 3) := by decide +kernel
theorem dX4_wordFrom_103 : decode cX4_wordFrom 103 = .ok (.aload_n 0, 1) := by decide +kernel
theorem dX4_wordFrom_104 : decode cX4_wordFrom 104 = .ok (.iload_n 1, 1) := by decide +kernel
theorem dX4_wordFrom_105 : decode cX4_wordFrom 105 = .ok (.ldc 168, 2) := by decide +kernel
theorem dX4_wordFrom_107 : decode cX4_wordFrom 107 = .ok (.invokevirtual 157, 3) := by decide +kernel
theorem dX4_wordFrom_110 : decode cX4_wordFrom 110 = .ok (.ifCond .eq 8, 3) := by decide +kernel
theorem dX4_wordFrom_113 : decode cX4_wordFrom 113 = .ok (.bipush 11, 2) := by decide +kernel
theorem dX4_wordFrom_115 : decode cX4_wordFrom 115 = .ok (.goto 94, 3) := by decide +kernel
theorem dX4_wordFrom_118 : decode cX4_wordFrom 118 = .ok (.aload_n 0, 1) := by decide +kernel
theorem dX4_wordFrom_119 : decode cX4_wordFrom 119 = .ok (.iload_n 1, 1) := by decide +kernel
theorem dX4_wordFrom_120 : decode cX4_wordFrom 120 = .ok (.ldc 170, 2) := by decide +kernel
theorem dX4_wordFrom_122 : decode cX4_wordFrom 122 = .ok (.invokevirtual 157, 3) := by decide +kernel
theorem dX4_wordFrom_125 : decode cX4_wordFrom 125 = .ok (.ifCond .eq 8, 3) := by decide +kernel
theorem dX4_wordFrom_128 : decode cX4_wordFrom 128 = .ok (.bipush 12, 2) := by decide +kernel
theorem dX4_wordFrom_130 : decode cX4_wordFrom 130 = .ok (.goto 79, 3) := by decide +kernel
theorem dX4_wordFrom_133 : decode cX4_wordFrom 133 = .ok (.aload_n 0, 1) := by decide +kernel
theorem dX4_wordFrom_134 : decode cX4_wordFrom 134 = .ok (.iload_n 1, 1) := by decide +kernel
theorem dX4_wordFrom_135 : decode cX4_wordFrom 135 = .ok (.ldc 172, 2) := by decide +kernel
theorem dX4_wordFrom_137 : decode cX4_wordFrom 137 = .ok (.invokevirtual 157, 3) := by decide +kernel
theorem dX4_wordFrom_140 : decode cX4_wordFrom 140 = .ok (.ifCond .eq 8, 3) := by decide +kernel
theorem dX4_wordFrom_143 : decode cX4_wordFrom 143 = .ok (.bipush 13, 2) := by decide +kernel
theorem dX4_wordFrom_145 : decode cX4_wordFrom 145 = .ok (.goto 64, 3) := by decide +kernel
theorem dX4_wordFrom_148 : decode cX4_wordFrom 148 = .ok (.aload_n 0, 1) := by decide +kernel
theorem dX4_wordFrom_149 : decode cX4_wordFrom 149 = .ok (.iload_n 1, 1) := by decide +kernel
theorem dX4_wordFrom_150 : decode cX4_wordFrom 150 = .ok (.ldc 174, 2) := by decide +kernel
theorem dX4_wordFrom_152 : decode cX4_wordFrom 152 = .ok (.invokevirtual 157, 3) := by decide +kernel
theorem dX4_wordFrom_155 : decode cX4_wordFrom 155 = .ok (.ifCond .eq 8, 3) := by decide +kernel
theorem dX4_wordFrom_158 : decode cX4_wordFrom 158 = .ok (.bipush 14, 2) := by decide +kernel
theorem dX4_wordFrom_160 : decode cX4_wordFrom 160 = .ok (.goto 49, 3) := by decide +kernel
theorem dX4_wordFrom_163 : decode cX4_wordFrom 163 = .ok (.aload_n 0, 1) := by decide +kernel
theorem dX4_wordFrom_164 : decode cX4_wordFrom 164 = .ok (.iload_n 1, 1) := by decide +kernel
theorem dX4_wordFrom_165 : decode cX4_wordFrom 165 = .ok (.ldc 176, 2) := by decide +kernel
theorem dX4_wordFrom_167 : decode cX4_wordFrom 167 = .ok (.invokevirtual 157, 3) := by decide +kernel
theorem dX4_wordFrom_170 : decode cX4_wordFrom 170 = .ok (.ifCond .eq 8, 3) := by decide +kernel
theorem dX4_wordFrom_173 : decode cX4_wordFrom 173 = .ok (.bipush 15, 2) := by decide +kernel
theorem dX4_wordFrom_175 : decode cX4_wordFrom 175 = .ok (.goto 34, 3) := by decide +kernel
theorem dX4_wordFrom_178 : decode cX4_wordFrom 178 = .ok (.aload_n 0, 1) := by decide +kernel
theorem dX4_wordFrom_179 : decode cX4_wordFrom 179 = .ok (.iload_n 1, 1) := by decide +kernel
theorem dX4_wordFrom_180 : decode cX4_wordFrom 180 = .ok (.ldc 178, 2) := by decide +kernel
theorem dX4_wordFrom_182 : decode cX4_wordFrom 182 = .ok (.invokevirtual 157, 3) := by decide +kernel
theorem dX4_wordFrom_185 : decode cX4_wordFrom 185 = .ok (.ifCond .eq 8, 3) := by decide +kernel
theorem dX4_wordFrom_188 : decode cX4_wordFrom 188 = .ok (.bipush 16, 2) := by decide +kernel
theorem dX4_wordFrom_190 : decode cX4_wordFrom 190 = .ok (.goto 19, 3) := by decide +kernel
theorem dX4_wordFrom_193 : decode cX4_wordFrom 193 = .ok (.aload_n 0, 1) := by decide +kernel
theorem dX4_wordFrom_194 : decode cX4_wordFrom 194 = .ok (.iload_n 1, 1) := by decide +kernel
theorem dX4_wordFrom_195 : decode cX4_wordFrom 195 = .ok (.ldc 180, 2) := by decide +kernel
theorem dX4_wordFrom_197 : decode cX4_wordFrom 197 = .ok (.invokevirtual 157, 3) := by decide +kernel
theorem dX4_wordFrom_200 : decode cX4_wordFrom 200 = .ok (.ifCond .eq 8, 3) := by decide +kernel
theorem dX4_wordFrom_203 : decode cX4_wordFrom 203 = .ok (.bipush 17, 2) := by decide +kernel
theorem dX4_wordFrom_205 : decode cX4_wordFrom 205 = .ok (.goto 4, 3) := by decide +kernel
theorem dX4_wordFrom_208 : decode cX4_wordFrom 208 = .ok (.iconst 1, 1) := by decide +kernel
theorem dX4_wordFrom_209 : decode cX4_wordFrom 209 = .ok (.ireturn, 1) := by decide +kernel
