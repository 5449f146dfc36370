theorem dX6_lookWithNewcomer_0 : decode cX6_lookWithNewcomer 0 = .ok (.aload_n 0, 1) := by decide +kernel
theorem dX6_lookWithNewcomer_1 : decode cX6_lookWithNewcomer 1 = .ok (.aload_n 1, 1) := by decide +kernel
theorem dX6_lookWithNewcomer_2 : decode cX6_lookWithNewcomer 2 = .ok (.aload_n 1, 1) := by decide +kernel
theorem dX6_lookWithNewcomer_3 : decode cX6_lookWithNewcomer 3 = .ok (.getfield 66, 3) := by decide +kernel
theorem dX6_lookWithNewcomer_6 : decode cX6_lookWithNewcomer 6 = .ok (.invokevirtual 52, 3) := by decide +kernel
theorem dX6_lookWithNewcomer_9 : decode cX6_lookWithNewcomer 9 = .ok (.aload_n 0, 1) := by decide +kernel
theorem dX6_lookWithNewcomer_10 : decode cX6_lookWithNewcomer 10 = .ok (.getfield 49, 3) := by decide +kernel
theorem dX6_lookWithNewcomer_13 : decode cX6_lookWithNewcomer 13 = .ok (.istore 4, 2) := by decide +kernel
theorem dX6_lookWithNewcomer_15 : decode cX6_lookWithNewcomer 15 = .ok (.aload_n 0, 1) := by decide +kernel
theorem dX6_lookWithNewcomer_16 : decode cX6_lookWithNewcomer 16 = .ok (.iload 4, 2) := by decide +kernel
theorem dX6_lookWithNewcomer_18 : decode cX6_lookWithNewcomer 18 = .ok (.invokevirtual 73, 3) := by decide +kernel
theorem dX6_lookWithNewcomer_21 : decode cX6_lookWithNewcomer 21 = .ok (.aload_n 0, 1) := by decide +kernel
theorem dX6_lookWithNewcomer_22 : decode cX6_lookWithNewcomer 22 = .ok (.getfield 9, 3) := by decide +kernel
theorem dX6_lookWithNewcomer_25 : decode cX6_lookWithNewcomer 25 = .ok (.iload 4, 2) := by decide +kernel
theorem dX6_lookWithNewcomer_27 : decode cX6_lookWithNewcomer 27 = .ok (.iload_n 2, 1) := by decide +kernel
theorem dX6_lookWithNewcomer_28 : decode cX6_lookWithNewcomer 28 = .ok (.iastore, 1) := by decide +kernel
theorem dX6_lookWithNewcomer_29 : decode cX6_lookWithNewcomer 29 = .ok (.aload_n 0, 1) := by decide +kernel
theorem dX6_lookWithNewcomer_30 : decode cX6_lookWithNewcomer 30 = .ok (.dup, 1) := by decide +kernel
theorem dX6_lookWithNewcomer_31 : decode cX6_lookWithNewcomer 31 = .ok (.getfield 46, 3) := by decide +kernel
theorem dX6_lookWithNewcomer_34 : decode cX6_lookWithNewcomer 34 = .ok (.iconst 1, 1) := by decide +kernel
theorem dX6_lookWithNewcomer_35 : decode cX6_lookWithNewcomer 35 = .ok (.iload 4, 2) := by decide +kernel
theorem dX6_lookWithNewcomer_37 : decode cX6_lookWithNewcomer 37 = .ok (.ishl, 1) := by decide +kernel
theorem dX6_lookWithNewcomer_38 : decode cX6_lookWithNewcomer 38 = .ok (.ior, 1) := by decide +kernel
theorem dX6_lookWithNewcomer_39 : decode cX6_lookWithNewcomer 39 = .ok (.putfield 46, 3) := by decide +kernel
theorem dX6_lookWithNewcomer_42 : decode cX6_lookWithNewcomer 42 = .ok (.aload_n 0, 1) := by decide +kernel
theorem dX6_lookWithNewcomer_43 : decode cX6_lookWithNewcomer 43 = .ok (.dup, 1) := by decide +kernel
theorem dX6_lookWithNewcomer_44 : decode cX6_lookWithNewcomer 44 = .ok (.getfield 49, 3) := by decide +kernel
theorem dX6_lookWithNewcomer_47 : decode cX6_lookWithNewcomer 47 = .ok (.iconst 1, 1) := by decide +kernel
theorem dX6_lookWithNewcomer_48 : decode cX6_lookWithNewcomer 48 = .ok (.iadd, 1) := by decide +kernel
theorem dX6_lookWithNewcomer_49 : decode cX6_lookWithNewcomer 49 = .ok (.putfield 49, 3) := by decide +kernel
theorem dX6_lookWithNewcomer_52 : decode cX6_lookWithNewcomer 52 = .ok (.aload_n 0, 1) := by decide +kernel
theorem dX6_lookWithNewcomer_53 : decode cX6_lookWithNewcomer 53 = .ok (.iload 4, 2) := by decide +kernel
theorem dX6_lookWithNewcomer_55 : decode cX6_lookWithNewcomer 55 = .ok (.iload_n 3, 1) := by decide +kernel
theorem dX6_lookWithNewcomer_56 : decode cX6_lookWithNewcomer 56 = .ok (.invokevirtual 69, 3) := by decide +kernel
theorem dX6_lookWithNewcomer_59 : decode cX6_lookWithNewcomer 59 = .ok (.aload_n 0, 1) := by decide +kernel
theorem dX6_lookWithNewcomer_60 : decode cX6_lookWithNewcomer 60 = .ok (.aload_n 1, 1) := by decide +kernel
theorem dX6_lookWithNewcomer_61 : decode cX6_lookWithNewcomer 61 = .ok (.getfield 56, 3) := by decide +kernel
theorem dX6_lookWithNewcomer_64 : decode cX6_lookWithNewcomer 64 = .ok (.invokevirtual 62, 3) := by decide +kernel
theorem dX6_lookWithNewcomer_67 : decode cX6_lookWithNewcomer 67 = .ok (.return_, 1) := by decide +kernel
theorem dX9_paidByNewcomer_0 : decode cX9_paidByNewcomer 0 = .ok (.aload_n 0, 1) := by decide +kernel
theorem dX9_paidByNewcomer_1 : decode cX9_paidByNewcomer 1 = .ok (.getfield 30, 3) := by decide +kernel
theorem dX9_paidByNewcomer_4 : decode cX9_paidByNewcomer 4 = .ok (.aload_n 0, 1) := by decide +kernel
theorem dX9_paidByNewcomer_5 : decode cX9_paidByNewcomer 5 = .ok (.getfield 10, 3) := by decide +kernel
theorem dX9_paidByNewcomer_8 : decode cX9_paidByNewcomer 8 = .ok (.iload_n 2, 1) := by decide +kernel
theorem dX9_paidByNewcomer_9 : decode cX9_paidByNewcomer 9 = .ok (.iload_n 3, 1) := by decide +kernel
theorem dX9_paidByNewcomer_10 : decode cX9_paidByNewcomer 10 = .ok (.invokevirtual 409, 3) := by decide +kernel
theorem dX9_paidByNewcomer_13 : decode cX9_paidByNewcomer 13 = .ok (.aload_n 0, 1) := by decide +kernel
theorem dX9_paidByNewcomer_14 : decode cX9_paidByNewcomer 14 = .ok (.getfield 37, 3) := by decide +kernel
theorem dX9_paidByNewcomer_17 : decode cX9_paidByNewcomer 17 = .ok (.aload_n 0, 1) := by decide +kernel
theorem dX9_paidByNewcomer_18 : decode cX9_paidByNewcomer 18 = .ok (.getfield 10, 3) := by decide +kernel
theorem dX9_paidByNewcomer_21 : decode cX9_paidByNewcomer 21 = .ok (.aload_n 0, 1) := by decide +kernel
theorem dX9_paidByNewcomer_22 : decode cX9_paidByNewcomer 22 = .ok (.getfield 30, 3) := by decide +kernel
theorem dX9_paidByNewcomer_25 : decode cX9_paidByNewcomer 25 = .ok (.aload_n 0, 1) := by decide +kernel
theorem dX9_paidByNewcomer_26 : decode cX9_paidByNewcomer 26 = .ok (.getfield 10, 3) := by decide +kernel
theorem dX9_paidByNewcomer_29 : decode cX9_paidByNewcomer 29 = .ok (.getfield 93, 3) := by decide +kernel
theorem dX9_paidByNewcomer_32 : decode cX9_paidByNewcomer 32 = .ok (.getfield 103, 3) := by decide +kernel
theorem dX9_paidByNewcomer_35 : decode cX9_paidByNewcomer 35 = .ok (.iload_n 3, 1) := by decide +kernel
theorem dX9_paidByNewcomer_36 : decode cX9_paidByNewcomer 36 = .ok (.invokevirtual 158, 3) := by decide +kernel
theorem dX9_paidByNewcomer_39 : decode cX9_paidByNewcomer 39 = .ok (.iconst 0, 1) := by decide +kernel
theorem dX9_paidByNewcomer_40 : decode cX9_paidByNewcomer 40 = .ok (.istore 4, 2) := by decide +kernel
theorem dX9_paidByNewcomer_42 : decode cX9_paidByNewcomer 42 = .ok (.iconst 1, 1) := by decide +kernel
theorem dX9_paidByNewcomer_43 : decode cX9_paidByNewcomer 43 = .ok (.istore 5, 2) := by decide +kernel
theorem dX9_paidByNewcomer_45 : decode cX9_paidByNewcomer 45 = .ok (.iload 5, 2) := by decide +kernel
theorem dX9_paidByNewcomer_47 : decode cX9_paidByNewcomer 47 = .ok (.aload_n 0, 1) := by decide +kernel
theorem dX9_paidByNewcomer_48 : decode cX9_paidByNewcomer 48 = .ok (.getfield 37, 3) := by decide +kernel
theorem dX9_paidByNewcomer_51 : decode cX9_paidByNewcomer 51 = .ok (.getfield 166, 3) := by decide +kernel
theorem dX9_paidByNewcomer_54 : decode cX9_paidByNewcomer 54 = .ok (.if_icmp .gt 38, 3) := by decide +kernel
theorem dX9_paidByNewcomer_57 : decode cX9_paidByNewcomer 57 = .ok (.aload_n 0, 1) := by decide +kernel
theorem dX9_paidByNewcomer_58 : decode cX9_paidByNewcomer 58 = .ok (.getfield 37, 3) := by decide +kernel
theorem dX9_paidByNewcomer_61 : decode cX9_paidByNewcomer 61 = .ok (.iload 5, 2) := by decide +kernel
theorem dX9_paidByNewcomer_63 : decode cX9_paidByNewcomer 63 = .ok (.iconst 0, 1) := by decide +kernel
theorem dX9_paidByNewcomer_64 : decode cX9_paidByNewcomer 64 = .ok (.invokevirtual 169, 3) := by decide +kernel
theorem dX9_paidByNewcomer_67 : decode cX9_paidByNewcomer 67 = .ok (.iload_n 1, 1) := by decide +kernel
theorem dX9_paidByNewcomer_68 : decode cX9_paidByNewcomer 68 = .ok (.if_icmp .ne 18, 3) := by decide +kernel
theorem dX9_paidByNewcomer_71 : decode cX9_paidByNewcomer 71 = .ok (.iload 4, 2) := by decide +kernel
theorem dX9_paidByNewcomer_73 : decode cX9_paidByNewcomer 73 = .ok (.aload_n 0, 1) := by decide +kernel
theorem dX9_paidByNewcomer_74 : decode cX9_paidByNewcomer 74 = .ok (.getfield 37, 3) := by decide +kernel
theorem dX9_paidByNewcomer_77 : decode cX9_paidByNewcomer 77 = .ok (.iload 5, 2) := by decide +kernel
theorem dX9_paidByNewcomer_79 : decode cX9_paidByNewcomer 79 = .ok (.iconst 2, 1) := by decide +kernel
theorem dX9_paidByNewcomer_80 : decode cX9_paidByNewcomer 80 = .ok (.invokevirtual 169, 3) := by decide +kernel
theorem dX9_paidByNewcomer_83 : decode cX9_paidByNewcomer 83 = .ok (.iadd, 1) := by decide +kernel
theorem dX9_paidByNewcomer_84 : decode cX9_paidByNewcomer 84 = .ok (.istore 4, 2) := by decide +kernel
theorem dX9_paidByNewcomer_86 : decode cX9_paidByNewcomer 86 = .ok (.iinc 5 1, 3) := by decide +kernel
theorem dX9_paidByNewcomer_89 : decode cX9_paidByNewcomer 89 = .ok (.goto (-44), 3) := by decide +kernel
theorem dX9_paidByNewcomer_92 : decode cX9_paidByNewcomer 92 = .ok (.iload 4, 2) := by decide +kernel
theorem dX9_paidByNewcomer_94 : decode cX9_paidByNewcomer 94 = .ok (.ireturn, 1) := by decide +kernel
theorem dX9_place_0 : decode cX9_place 0 = .ok (.aload_n 0, 1) := by decide +kernel
theorem dX9_place_1 : decode cX9_place 1 = .ok (.getfield 10, 3) := by decide +kernel
theorem dX9_place_4 : decode cX9_place 4 = .ok (.getfield 93, 3) := by decide +kernel
theorem dX9_place_7 : decode cX9_place 7 = .ok (.iload_n 1, 1) := by decide +kernel
theorem dX9_place_8 : decode cX9_place 8 = .ok (.invokevirtual 189, 3) := by decide +kernel
theorem dX9_place_11 : decode cX9_place 11 = .ok (.ifCond .eq 15, 3) := by decide +kernel
theorem dX9_place_14 : decode cX9_place 14 = .ok (.iload_n 2, 1) := by decide +kernel
theorem dX9_place_15 : decode cX9_place 15 = .ok (.iconst 1, 1) := by decide +kernel
theorem dX9_place_16 : decode cX9_place 16 = .ok (.if_icmp .lt 10, 3) := by decide +kernel
theorem dX9_place_19 : decode cX9_place 19 = .ok (.iload_n 2, 1) := by decide +kernel
theorem dX9_place_20 : decode cX9_place 20 = .ok (.sipush 9999, 3) := by decide +kernel
theorem dX9_place_23 : decode cX9_place 23 = .ok (.if_icmp .le 5, 3) := by decide +kernel
theorem dX9_place_26 : decode cX9_place 26 = .ok (.iconst (-1), 1) := by decide +kernel
theorem dX9_place_27 : decode cX9_place 27 = .ok (.ireturn, 1) := by decide +kernel
theorem dX9_place_28 : decode cX9_place 28 = .ok (.iconst (-1), 1) := by decide +kernel
theorem dX9_place_29 : decode cX9_place 29 = .ok (.istore 4, 2) := by decide +kernel
theorem dX9_place_31 : decode cX9_place 31 = .ok (.iconst (-1), 1) := by decide +kernel
theorem dX9_place_32 : decode cX9_place 32 = .ok (.istore 5, 2) := by decide +kernel
theorem dX9_place_34 : decode cX9_place 34 = .ok (.iconst 0, 1) := by decide +kernel
theorem dX9_place_35 : decode cX9_place 35 = .ok (.istore 6, 2) := by decide +kernel
theorem dX9_place_37 : decode cX9_place 37 = .ok (.iload 6, 2) := by decide +kernel
theorem dX9_place_39 : decode cX9_place 39 = .ok (.aload_n 0, 1) := by decide +kernel
theorem dX9_place_40 : decode cX9_place 40 = .ok (.getfield 10, 3) := by decide +kernel
theorem dX9_place_43 : decode cX9_place 43 = .ok (.getfield 93, 3) := by decide +kernel
theorem dX9_place_46 : decode cX9_place 46 = .ok (.getfield 103, 3) := by decide +kernel
theorem dX9_place_49 : decode cX9_place 49 = .ok (.if_icmp .ge 53, 3) := by decide +kernel
theorem dX9_place_52 : decode cX9_place 52 = .ok (.aload_n 0, 1) := by decide +kernel
theorem dX9_place_53 : decode cX9_place 53 = .ok (.getfield 10, 3) := by decide +kernel
theorem dX9_place_56 : decode cX9_place 56 = .ok (.getfield 93, 3) := by decide +kernel
theorem dX9_place_59 : decode cX9_place 59 = .ok (.iload 6, 2) := by decide +kernel
theorem dX9_place_61 : decode cX9_place 61 = .ok (.invokevirtual 227, 3) := by decide +kernel
theorem dX9_place_64 : decode cX9_place 64 = .ok (.ifCond .eq 7, 3) := by decide +kernel
theorem dX9_place_67 : decode cX9_place 67 = .ok (.iconst (-1), 1) := by decide +kernel
theorem dX9_place_68 : decode cX9_place 68 = .ok (.goto 11, 3) := by decide +kernel
theorem dX9_place_71 : decode cX9_place 71 = .ok (.aload_n 0, 1) := by decide +kernel
theorem dX9_place_72 : decode cX9_place 72 = .ok (.iload_n 1, 1) := by decide +kernel
theorem dX9_place_73 : decode cX9_place 73 = .ok (.iload 6, 2) := by decide +kernel
theorem dX9_place_75 : decode cX9_place 75 = .ok (.iload_n 2, 1) := by decide +kernel
theorem dX9_place_76 : decode cX9_place 76 = .ok (.invokevirtual 338, 3) := by decide +kernel
theorem dX9_place_79 : decode cX9_place 79 = .ok (.istore 7, 2) := by decide +kernel
theorem dX9_place_81 : decode cX9_place 81 = .ok (.iload 7, 2) := by decide +kernel
theorem dX9_place_83 : decode cX9_place 83 = .ok (.iload 5, 2) := by decide +kernel
theorem dX9_place_85 : decode cX9_place 85 = .ok (.if_icmp .le 11, 3) := by decide +kernel
theorem dX9_place_88 : decode cX9_place 88 = .ok (.iload 7, 2) := by decide +kernel
theorem dX9_place_90 : decode cX9_place 90 = .ok (.istore 5, 2) := by decide +kernel
theorem dX9_place_92 : decode cX9_place 92 = .ok (.iload 6, 2) := by decide +kernel
theorem dX9_place_94 : decode cX9_place 94 = .ok (.istore 4, 2) := by decide +kernel
theorem dX9_place_96 : decode cX9_place 96 = .ok (.iinc 6 1, 3) := by decide +kernel
theorem dX9_place_99 : decode cX9_place 99 = .ok (.goto (-62), 3) := by decide +kernel
theorem dX9_place_102 : decode cX9_place 102 = .ok (.iload_n 3, 1) := by decide +kernel
theorem dX9_place_103 : decode cX9_place 103 = .ok (.ifCond .eq 8, 3) := by decide +kernel
theorem dX9_place_106 : decode cX9_place 106 = .ok (.iload 5, 2) := by decide +kernel
theorem dX9_place_108 : decode cX9_place 108 = .ok (.goto 5, 3) := by decide +kernel
theorem dX9_place_111 : decode cX9_place 111 = .ok (.iload 4, 2) := by decide +kernel
theorem dX9_place_113 : decode cX9_place 113 = .ok (.ireturn, 1) := by decide +kernel
theorem dX10_paidBy_0 : decode cX10_paidBy 0 = .ok (.aload_n 0, 1) := by decide +kernel
theorem dX10_paidBy_1 : decode cX10_paidBy 1 = .ok (.invokevirtual 282, 3) := by decide +kernel
theorem dX10_paidBy_4 : decode cX10_paidBy 4 = .ok (.aload_n 0, 1) := by decide +kernel
theorem dX10_paidBy_5 : decode cX10_paidBy 5 = .ok (.aload_n 0, 1) := by decide +kernel
theorem dX10_paidBy_6 : decode cX10_paidBy 6 = .ok (.invokevirtual 218, 3) := by decide +kernel
theorem dX10_paidBy_9 : decode cX10_paidBy 9 = .ok (.invokevirtual 256, 3) := by decide +kernel
theorem dX10_paidBy_12 : decode cX10_paidBy 12 = .ok (.aload_n 0, 1) := by decide +kernel
theorem dX10_paidBy_13 : decode cX10_paidBy 13 = .ok (.getfield 174, 3) := by decide +kernel
theorem dX10_paidBy_16 : decode cX10_paidBy 16 = .ok (.istore 4, 2) := by decide +kernel
theorem dX10_paidBy_18 : decode cX10_paidBy 18 = .ok (.aload_n 0, 1) := by decide +kernel
theorem dX10_paidBy_19 : decode cX10_paidBy 19 = .ok (.getfield 27, 3) := by decide +kernel
theorem dX10_paidBy_22 : decode cX10_paidBy 22 = .ok (.iload 4, 2) := by decide +kernel
theorem dX10_paidBy_24 : decode cX10_paidBy 24 = .ok (.iload_n 3, 1) := by decide +kernel
theorem dX10_paidBy_25 : decode cX10_paidBy 25 = .ok (.iastore, 1) := by decide +kernel
theorem dX10_paidBy_26 : decode cX10_paidBy 26 = .ok (.aload_n 0, 1) := by decide +kernel
theorem dX10_paidBy_27 : decode cX10_paidBy 27 = .ok (.getfield 30, 3) := by decide +kernel
theorem dX10_paidBy_30 : decode cX10_paidBy 30 = .ok (.iload 4, 2) := by decide +kernel
theorem dX10_paidBy_32 : decode cX10_paidBy 32 = .ok (.iconst 1, 1) := by decide +kernel
theorem dX10_paidBy_33 : decode cX10_paidBy 33 = .ok (.bastore, 1) := by decide +kernel
theorem dX10_paidBy_34 : decode cX10_paidBy 34 = .ok (.aload_n 0, 1) := by decide +kernel
theorem dX10_paidBy_35 : decode cX10_paidBy 35 = .ok (.dup, 1) := by decide +kernel
theorem dX10_paidBy_36 : decode cX10_paidBy 36 = .ok (.getfield 174, 3) := by decide +kernel
theorem dX10_paidBy_39 : decode cX10_paidBy 39 = .ok (.iconst 1, 1) := by decide +kernel
theorem dX10_paidBy_40 : decode cX10_paidBy 40 = .ok (.iadd, 1) := by decide +kernel
theorem dX10_paidBy_41 : decode cX10_paidBy 41 = .ok (.putfield 174, 3) := by decide +kernel
theorem dX10_paidBy_44 : decode cX10_paidBy 44 = .ok (.aload_n 0, 1) := by decide +kernel
theorem dX10_paidBy_45 : decode cX10_paidBy 45 = .ok (.getfield 34, 3) := by decide +kernel
theorem dX10_paidBy_48 : decode cX10_paidBy 48 = .ok (.bipush 100, 2) := by decide +kernel
theorem dX10_paidBy_50 : decode cX10_paidBy 50 = .ok (.iload 4, 2) := by decide +kernel
theorem dX10_paidBy_52 : decode cX10_paidBy 52 = .ok (.imul, 1) := by decide +kernel
theorem dX10_paidBy_53 : decode cX10_paidBy 53 = .ok (.aload_n 0, 1) := by decide +kernel
theorem dX10_paidBy_54 : decode cX10_paidBy 54 = .ok (.invokevirtual 218, 3) := by decide +kernel
theorem dX10_paidBy_57 : decode cX10_paidBy 57 = .ok (.iadd, 1) := by decide +kernel
theorem dX10_paidBy_58 : decode cX10_paidBy 58 = .ok (.iload_n 2, 1) := by decide +kernel
theorem dX10_paidBy_59 : decode cX10_paidBy 59 = .ok (.iastore, 1) := by decide +kernel
theorem dX10_paidBy_60 : decode cX10_paidBy 60 = .ok (.aload_n 0, 1) := by decide +kernel
theorem dX10_paidBy_61 : decode cX10_paidBy 61 = .ok (.iload 4, 2) := by decide +kernel
theorem dX10_paidBy_63 : decode cX10_paidBy 63 = .ok (.iload_n 2, 1) := by decide +kernel
theorem dX10_paidBy_64 : decode cX10_paidBy 64 = .ok (.invokevirtual 285, 3) := by decide +kernel
theorem dX10_paidBy_67 : decode cX10_paidBy 67 = .ok (.iconst 0, 1) := by decide +kernel
theorem dX10_paidBy_68 : decode cX10_paidBy 68 = .ok (.istore 5, 2) := by decide +kernel
theorem dX10_paidBy_70 : decode cX10_paidBy 70 = .ok (.iload 5, 2) := by decide +kernel
theorem dX10_paidBy_72 : decode cX10_paidBy 72 = .ok (.aload_n 0, 1) := by decide +kernel
theorem dX10_paidBy_73 : decode cX10_paidBy 73 = .ok (.getfield 230, 3) := by decide +kernel
theorem dX10_paidBy_76 : decode cX10_paidBy 76 = .ok (.if_icmp .ge 36, 3) := by decide +kernel
theorem dX10_paidBy_79 : decode cX10_paidBy 79 = .ok (.aload_n 0, 1) := by decide +kernel
theorem dX10_paidBy_80 : decode cX10_paidBy 80 = .ok (.getfield 40, 3) := by decide +kernel
theorem dX10_paidBy_83 : decode cX10_paidBy 83 = .ok (.bipush 7, 2) := by decide +kernel
theorem dX10_paidBy_85 : decode cX10_paidBy 85 = .ok (.iload 5, 2) := by decide +kernel
theorem dX10_paidBy_87 : decode cX10_paidBy 87 = .ok (.imul, 1) := by decide +kernel
theorem dX10_paidBy_88 : decode cX10_paidBy 88 = .ok (.iaload, 1) := by decide +kernel
theorem dX10_paidBy_89 : decode cX10_paidBy 89 = .ok (.iload_n 1, 1) := by decide +kernel
theorem dX10_paidBy_90 : decode cX10_paidBy 90 = .ok (.if_icmp .ne 16, 3) := by decide +kernel
theorem dX10_paidBy_93 : decode cX10_paidBy 93 = .ok (.aload_n 0, 1) := by decide +kernel
theorem dX10_paidBy_94 : decode cX10_paidBy 94 = .ok (.getfield 40, 3) := by decide +kernel
theorem dX10_paidBy_97 : decode cX10_paidBy 97 = .ok (.bipush 7, 2) := by decide +kernel
theorem dX10_paidBy_99 : decode cX10_paidBy 99 = .ok (.iload 5, 2) := by decide +kernel
theorem dX10_paidBy_101 : decode cX10_paidBy 101 = .ok (.imul, 1) := by decide +kernel
theorem dX10_paidBy_102 : decode cX10_paidBy 102 = .ok (.iconst 2, 1) := by decide +kernel
theorem dX10_paidBy_103 : decode cX10_paidBy 103 = .ok (.iadd, 1) := by decide +kernel
theorem dX10_paidBy_104 : decode cX10_paidBy 104 = .ok (.iaload, 1) := by decide +kernel
theorem dX10_paidBy_105 : decode cX10_paidBy 105 = .ok (.ireturn, 1) := by decide +kernel
theorem dX10_paidBy_106 : decode cX10_paidBy 106 = .ok (.iinc 5 1, 3) := by decide +kernel
theorem dX10_paidBy_109 : decode cX10_paidBy 109 = .ok (.goto (-39), 3) := by decide +kernel
theorem dX10_paidBy_112 : decode cX10_paidBy 112 = .ok (.iconst 0, 1) := by decide +kernel
theorem dX10_paidBy_113 : decode cX10_paidBy 113 = .ok (.ireturn, 1) := by decide +kernel
theorem dX10_place_0 : decode cX10_place 0 = .ok (.aload_n 0, 1) := by decide +kernel
theorem dX10_place_1 : decode cX10_place 1 = .ok (.iconst 0, 1) := by decide +kernel
theorem dX10_place_2 : decode cX10_place 2 = .ok (.putfield 52, 3) := by decide +kernel
theorem dX10_place_5 : decode cX10_place 5 = .ok (.aload_n 0, 1) := by decide +kernel
theorem dX10_place_6 : decode cX10_place 6 = .ok (.iload_n 1, 1) := by decide +kernel
theorem dX10_place_7 : decode cX10_place 7 = .ok (.invokevirtual 253, 3) := by decide +kernel
theorem dX10_place_10 : decode cX10_place 10 = .ok (.ifCond .eq 14, 3) := by decide +kernel
theorem dX10_place_13 : decode cX10_place 13 = .ok (.iload_n 2, 1) := by decide +kernel
theorem dX10_place_14 : decode cX10_place 14 = .ok (.iconst 1, 1) := by decide +kernel
theorem dX10_place_15 : decode cX10_place 15 = .ok (.sipush 9999, 3) := by decide +kernel
theorem dX10_place_18 : decode cX10_place 18 = .ok (.invokestatic 59, 3) := by decide +kernel
theorem dX10_place_21 : decode cX10_place 21 = .ok (.ifCond .ne 5, 3) := by decide +kernel
theorem dX10_place_24 : decode cX10_place 24 = .ok (.iconst (-1), 1) := by decide +kernel
theorem dX10_place_25 : decode cX10_place 25 = .ok (.ireturn, 1) := by decide +kernel
theorem dX10_place_26 : decode cX10_place 26 = .ok (.iconst (-1), 1) := by decide +kernel
theorem dX10_place_27 : decode cX10_place 27 = .ok (.istore 4, 2) := by decide +kernel
theorem dX10_place_29 : decode cX10_place 29 = .ok (.iconst (-1), 1) := by decide +kernel
theorem dX10_place_30 : decode cX10_place 30 = .ok (.istore 5, 2) := by decide +kernel
theorem dX10_place_32 : decode cX10_place 32 = .ok (.iconst 0, 1) := by decide +kernel
theorem dX10_place_33 : decode cX10_place 33 = .ok (.istore 6, 2) := by decide +kernel
theorem dX10_place_35 : decode cX10_place 35 = .ok (.iload 6, 2) := by decide +kernel
theorem dX10_place_37 : decode cX10_place 37 = .ok (.aload_n 0, 1) := by decide +kernel
theorem dX10_place_38 : decode cX10_place 38 = .ok (.getfield 7, 3) := by decide +kernel
theorem dX10_place_41 : decode cX10_place 41 = .ok (.sipush 145, 3) := by decide +kernel
theorem dX10_place_44 : decode cX10_place 44 = .ok (.iaload, 1) := by decide +kernel
theorem dX10_place_45 : decode cX10_place 45 = .ok (.if_icmp .ge 57, 3) := by decide +kernel
theorem dX10_place_48 : decode cX10_place 48 = .ok (.aload_n 0, 1) := by decide +kernel
theorem dX10_place_49 : decode cX10_place 49 = .ok (.iload 6, 2) := by decide +kernel
theorem dX10_place_51 : decode cX10_place 51 = .ok (.invokevirtual 190, 3) := by decide +kernel
theorem dX10_place_54 : decode cX10_place 54 = .ok (.ifCond .eq 7, 3) := by decide +kernel
theorem dX10_place_57 : decode cX10_place 57 = .ok (.iconst (-1), 1) := by decide +kernel
theorem dX10_place_58 : decode cX10_place 58 = .ok (.goto 11, 3) := by decide +kernel
theorem dX10_place_61 : decode cX10_place 61 = .ok (.aload_n 0, 1) := by decide +kernel
theorem dX10_place_62 : decode cX10_place 62 = .ok (.iload_n 1, 1) := by decide +kernel
theorem dX10_place_63 : decode cX10_place 63 = .ok (.iload_n 2, 1) := by decide +kernel
theorem dX10_place_64 : decode cX10_place 64 = .ok (.iload 6, 2) := by decide +kernel
theorem dX10_place_66 : decode cX10_place 66 = .ok (.invokevirtual 344, 3) := by decide +kernel
theorem dX10_place_69 : decode cX10_place 69 = .ok (.istore 7, 2) := by decide +kernel
theorem dX10_place_71 : decode cX10_place 71 = .ok (.iload 7, 2) := by decide +kernel
theorem dX10_place_73 : decode cX10_place 73 = .ok (.iload 5, 2) := by decide +kernel
theorem dX10_place_75 : decode cX10_place 75 = .ok (.if_icmp .le 8, 3) := by decide +kernel
theorem dX10_place_78 : decode cX10_place 78 = .ok (.iload 6, 2) := by decide +kernel
theorem dX10_place_80 : decode cX10_place 80 = .ok (.goto 5, 3) := by decide +kernel
theorem dX10_place_83 : decode cX10_place 83 = .ok (.iload 4, 2) := by decide +kernel
theorem dX10_place_85 : decode cX10_place 85 = .ok (.istore 4, 2) := by decide +kernel
theorem dX10_place_87 : decode cX10_place 87 = .ok (.iload 5, 2) := by decide +kernel
theorem dX10_place_89 : decode cX10_place 89 = .ok (.iload 7, 2) := by decide +kernel
theorem dX10_place_91 : decode cX10_place 91 = .ok (.invokestatic 193, 3) := by decide +kernel
theorem dX10_place_94 : decode cX10_place 94 = .ok (.istore 5, 2) := by decide +kernel
theorem dX10_place_96 : decode cX10_place 96 = .ok (.iinc 6 1, 3) := by decide +kernel
theorem dX10_place_99 : decode cX10_place 99 = .ok (.goto (-64), 3) := by decide +kernel
theorem dX10_place_102 : decode cX10_place 102 = .ok (.iload_n 3, 1) := by decide +kernel
theorem dX10_place_103 : decode cX10_place 103 = .ok (.ifCond .eq 8, 3) := by decide +kernel
theorem dX10_place_106 : decode cX10_place 106 = .ok (.iload 5, 2) := by decide +kernel
theorem dX10_place_108 : decode cX10_place 108 = .ok (.goto 5, 3) := by decide +kernel
theorem dX10_place_111 : decode cX10_place 111 = .ok (.iload 4, 2) := by decide +kernel
theorem dX10_place_113 : decode cX10_place 113 = .ok (.ireturn, 1) := by decide +kernel
theorem dX9_due_0 : decode cX9_due 0 = .ok (.aload_n 0, 1) := by decide +kernel
theorem dX9_due_1 : decode cX9_due 1 = .ok (.getfield 10, 3) := by decide +kernel
theorem dX9_due_4 : decode cX9_due 4 = .ok (.getfield 93, 3) := by decide +kernel
theorem dX9_due_7 : decode cX9_due 7 = .ok (.iload_n 1, 1) := by decide +kernel
theorem dX9_due_8 : decode cX9_due 8 = .ok (.invokevirtual 189, 3) := by decide +kernel
theorem dX9_due_11 : decode cX9_due 11 = .ok (.ifCond .eq 28, 3) := by decide +kernel
theorem dX9_due_14 : decode cX9_due 14 = .ok (.iload_n 2, 1) := by decide +kernel
theorem dX9_due_15 : decode cX9_due 15 = .ok (.aload_n 0, 1) := by decide +kernel
theorem dX9_due_16 : decode cX9_due 16 = .ok (.getfield 10, 3) := by decide +kernel
theorem dX9_due_19 : decode cX9_due 19 = .ok (.getfield 90, 3) := by decide +kernel
theorem dX9_due_22 : decode cX9_due 22 = .ok (.if_icmp .lt 17, 3) := by decide +kernel
theorem dX9_due_25 : decode cX9_due 25 = .ok (.iload_n 2, 1) := by decide +kernel
theorem dX9_due_26 : decode cX9_due 26 = .ok (.aload_n 0, 1) := by decide +kernel
theorem dX9_due_27 : decode cX9_due 27 = .ok (.getfield 10, 3) := by decide +kernel
theorem dX9_due_30 : decode cX9_due 30 = .ok (.getfield 90, 3) := by decide +kernel
theorem dX9_due_33 : decode cX9_due 33 = .ok (.bipush 12, 2) := by decide +kernel
theorem dX9_due_35 : decode cX9_due 35 = .ok (.iadd, 1) := by decide +kernel
theorem dX9_due_36 : decode cX9_due 36 = .ok (.if_icmp .le 5, 3) := by decide +kernel
theorem dX9_due_39 : decode cX9_due 39 = .ok (.iconst (-1), 1) := by decide +kernel
theorem dX9_due_40 : decode cX9_due 40 = .ok (.ireturn, 1) := by decide +kernel
theorem dX9_due_41 : decode cX9_due 41 = .ok (.aload_n 0, 1) := by decide +kernel
theorem dX9_due_42 : decode cX9_due 42 = .ok (.getfield 10, 3) := by decide +kernel
theorem dX9_due_45 : decode cX9_due 45 = .ok (.iload_n 1, 1) := by decide +kernel
theorem dX9_due_46 : decode cX9_due 46 = .ok (.iload_n 2, 1) := by decide +kernel
theorem dX9_due_47 : decode cX9_due 47 = .ok (.invokevirtual 224, 3) := by decide +kernel
theorem dX9_due_50 : decode cX9_due 50 = .ok (.ireturn, 1) := by decide +kernel
theorem dX10_due_0 : decode cX10_due 0 = .ok (.aload_n 0, 1) := by decide +kernel
theorem dX10_due_1 : decode cX10_due 1 = .ok (.iconst 0, 1) := by decide +kernel
theorem dX10_due_2 : decode cX10_due 2 = .ok (.putfield 52, 3) := by decide +kernel
theorem dX10_due_5 : decode cX10_due 5 = .ok (.aload_n 0, 1) := by decide +kernel
theorem dX10_due_6 : decode cX10_due 6 = .ok (.iload_n 1, 1) := by decide +kernel
theorem dX10_due_7 : decode cX10_due 7 = .ok (.invokevirtual 253, 3) := by decide +kernel
theorem dX10_due_10 : decode cX10_due 10 = .ok (.ifCond .eq 31, 3) := by decide +kernel
theorem dX10_due_13 : decode cX10_due 13 = .ok (.iload_n 2, 1) := by decide +kernel
theorem dX10_due_14 : decode cX10_due 14 = .ok (.aload_n 0, 1) := by decide +kernel
theorem dX10_due_15 : decode cX10_due 15 = .ok (.invokevirtual 218, 3) := by decide +kernel
theorem dX10_due_18 : decode cX10_due 18 = .ok (.aload_n 0, 1) := by decide +kernel
theorem dX10_due_19 : decode cX10_due 19 = .ok (.invokevirtual 218, 3) := by decide +kernel
theorem dX10_due_22 : decode cX10_due 22 = .ok (.bipush 12, 2) := by decide +kernel
theorem dX10_due_24 : decode cX10_due 24 = .ok (.iadd, 1) := by decide +kernel
theorem dX10_due_25 : decode cX10_due 25 = .ok (.invokestatic 59, 3) := by decide +kernel
theorem dX10_due_28 : decode cX10_due 28 = .ok (.ifCond .eq 13, 3) := by decide +kernel
theorem dX10_due_31 : decode cX10_due 31 = .ok (.aload_n 0, 1) := by decide +kernel
theorem dX10_due_32 : decode cX10_due 32 = .ok (.iload_n 1, 1) := by decide +kernel
theorem dX10_due_33 : decode cX10_due 33 = .ok (.iload_n 2, 1) := by decide +kernel
theorem dX10_due_34 : decode cX10_due 34 = .ok (.iconst (-1), 1) := by decide +kernel
theorem dX10_due_35 : decode cX10_due 35 = .ok (.invokevirtual 250, 3) := by decide +kernel
theorem dX10_due_38 : decode cX10_due 38 = .ok (.goto 4, 3) := by decide +kernel
theorem dX10_due_41 : decode cX10_due 41 = .ok (.iconst (-1), 1) := by decide +kernel
theorem dX10_due_42 : decode cX10_due 42 = .ok (.ireturn, 1) := by decide +kernel
theorem dX9_ready_0 : decode cX9_ready 0 = .ok (.aload_n 0, 1) := by decide +kernel
theorem dX9_ready_1 : decode cX9_ready 1 = .ok (.getfield 10, 3) := by decide +kernel
theorem dX9_ready_4 : decode cX9_ready 4 = .ok (.getfield 93, 3) := by decide +kernel
theorem dX9_ready_7 : decode cX9_ready 7 = .ok (.iload_n 1, 1) := by decide +kernel
theorem dX9_ready_8 : decode cX9_ready 8 = .ok (.invokevirtual 189, 3) := by decide +kernel
theorem dX9_ready_11 : decode cX9_ready 11 = .ok (.ifCond .ne 5, 3) := by decide +kernel
theorem dX9_ready_14 : decode cX9_ready 14 = .ok (.iconst (-1), 1) := by decide +kernel
theorem dX9_ready_15 : decode cX9_ready 15 = .ok (.ireturn, 1) := by decide +kernel
theorem dX9_ready_16 : decode cX9_ready 16 = .ok (.aload_n 0, 1) := by decide +kernel
theorem dX9_ready_17 : decode cX9_ready 17 = .ok (.getfield 10, 3) := by decide +kernel
theorem dX9_ready_20 : decode cX9_ready 20 = .ok (.getfield 90, 3) := by decide +kernel
theorem dX9_ready_23 : decode cX9_ready 23 = .ok (.istore_n 3, 1) := by decide +kernel
theorem dX9_ready_24 : decode cX9_ready 24 = .ok (.iload_n 3, 1) := by decide +kernel
theorem dX9_ready_25 : decode cX9_ready 25 = .ok (.aload_n 0, 1) := by decide +kernel
theorem dX9_ready_26 : decode cX9_ready 26 = .ok (.getfield 10, 3) := by decide +kernel
theorem dX9_ready_29 : decode cX9_ready 29 = .ok (.getfield 90, 3) := by decide +kernel
theorem dX9_ready_32 : decode cX9_ready 32 = .ok (.bipush 12, 2) := by decide +kernel
theorem dX9_ready_34 : decode cX9_ready 34 = .ok (.iadd, 1) := by decide +kernel
theorem dX9_ready_35 : decode cX9_ready 35 = .ok (.if_icmp .gt 37, 3) := by decide +kernel
theorem dX9_ready_38 : decode cX9_ready 38 = .ok (.aload_n 0, 1) := by decide +kernel
theorem dX9_ready_39 : decode cX9_ready 39 = .ok (.getfield 10, 3) := by decide +kernel
theorem dX9_ready_42 : decode cX9_ready 42 = .ok (.iload_n 1, 1) := by decide +kernel
theorem dX9_ready_43 : decode cX9_ready 43 = .ok (.iload_n 3, 1) := by decide +kernel
theorem dX9_ready_44 : decode cX9_ready 44 = .ok (.invokevirtual 224, 3) := by decide +kernel
theorem dX9_ready_47 : decode cX9_ready 47 = .ok (.aload_n 0, 1) := by decide +kernel
theorem dX9_ready_48 : decode cX9_ready 48 = .ok (.getfield 10, 3) := by decide +kernel
theorem dX9_ready_51 : decode cX9_ready 51 = .ok (.getfield 93, 3) := by decide +kernel
theorem dX9_ready_54 : decode cX9_ready 54 = .ok (.getfield 193, 3) := by decide +kernel
theorem dX9_ready_57 : decode cX9_ready 57 = .ok (.iload_n 1, 1) := by decide +kernel
theorem dX9_ready_58 : decode cX9_ready 58 = .ok (.iaload, 1) := by decide +kernel
theorem dX9_ready_59 : decode cX9_ready 59 = .ok (.isub, 1) := by decide +kernel
theorem dX9_ready_60 : decode cX9_ready 60 = .ok (.iload_n 2, 1) := by decide +kernel
theorem dX9_ready_61 : decode cX9_ready 61 = .ok (.if_icmp .lt 5, 3) := by decide +kernel
theorem dX9_ready_64 : decode cX9_ready 64 = .ok (.iload_n 3, 1) := by decide +kernel
theorem dX9_ready_65 : decode cX9_ready 65 = .ok (.ireturn, 1) := by decide +kernel
theorem dX9_ready_66 : decode cX9_ready 66 = .ok (.iinc 3 1, 3) := by decide +kernel
theorem dX9_ready_69 : decode cX9_ready 69 = .ok (.goto (-45), 3) := by decide +kernel
theorem dX9_ready_72 : decode cX9_ready 72 = .ok (.iconst (-1), 1) := by decide +kernel
theorem dX9_ready_73 : decode cX9_ready 73 = .ok (.ireturn, 1) := by decide +kernel
theorem dX10_ready_0 : decode cX10_ready 0 = .ok (.aload_n 0, 1) := by decide +kernel
theorem dX10_ready_1 : decode cX10_ready 1 = .ok (.iconst 0, 1) := by decide +kernel
theorem dX10_ready_2 : decode cX10_ready 2 = .ok (.putfield 52, 3) := by decide +kernel
theorem dX10_ready_5 : decode cX10_ready 5 = .ok (.aload_n 0, 1) := by decide +kernel
theorem dX10_ready_6 : decode cX10_ready 6 = .ok (.iload_n 1, 1) := by decide +kernel
theorem dX10_ready_7 : decode cX10_ready 7 = .ok (.invokevirtual 253, 3) := by decide +kernel
theorem dX10_ready_10 : decode cX10_ready 10 = .ok (.ifCond .ne 5, 3) := by decide +kernel
theorem dX10_ready_13 : decode cX10_ready 13 = .ok (.iconst (-1), 1) := by decide +kernel
theorem dX10_ready_14 : decode cX10_ready 14 = .ok (.ireturn, 1) := by decide +kernel
theorem dX10_ready_15 : decode cX10_ready 15 = .ok (.aload_n 0, 1) := by decide +kernel
theorem dX10_ready_16 : decode cX10_ready 16 = .ok (.invokevirtual 218, 3) := by decide +kernel
theorem dX10_ready_19 : decode cX10_ready 19 = .ok (.istore_n 3, 1) := by decide +kernel
theorem dX10_ready_20 : decode cX10_ready 20 = .ok (.iload_n 3, 1) := by decide +kernel
theorem dX10_ready_21 : decode cX10_ready 21 = .ok (.aload_n 0, 1) := by decide +kernel
theorem dX10_ready_22 : decode cX10_ready 22 = .ok (.invokevirtual 218, 3) := by decide +kernel
theorem dX10_ready_25 : decode cX10_ready 25 = .ok (.bipush 12, 2) := by decide +kernel
theorem dX10_ready_27 : decode cX10_ready 27 = .ok (.iadd, 1) := by decide +kernel
theorem dX10_ready_28 : decode cX10_ready 28 = .ok (.if_icmp .gt 29, 3) := by decide +kernel
theorem dX10_ready_31 : decode cX10_ready 31 = .ok (.aload_n 0, 1) := by decide +kernel
theorem dX10_ready_32 : decode cX10_ready 32 = .ok (.iload_n 1, 1) := by decide +kernel
theorem dX10_ready_33 : decode cX10_ready 33 = .ok (.iload_n 3, 1) := by decide +kernel
theorem dX10_ready_34 : decode cX10_ready 34 = .ok (.iconst (-1), 1) := by decide +kernel
theorem dX10_ready_35 : decode cX10_ready 35 = .ok (.invokevirtual 250, 3) := by decide +kernel
theorem dX10_ready_38 : decode cX10_ready 38 = .ok (.aload_n 0, 1) := by decide +kernel
theorem dX10_ready_39 : decode cX10_ready 39 = .ok (.iload_n 1, 1) := by decide +kernel
theorem dX10_ready_40 : decode cX10_ready 40 = .ok (.iconst 3, 1) := by decide +kernel
theorem dX10_ready_41 : decode cX10_ready 41 = .ok (.invokevirtual 159, 3) := by decide +kernel
theorem dX10_ready_44 : decode cX10_ready 44 = .ok (.isub, 1) := by decide +kernel
theorem dX10_ready_45 : decode cX10_ready 45 = .ok (.iload_n 2, 1) := by decide +kernel
theorem dX10_ready_46 : decode cX10_ready 46 = .ok (.if_icmp .lt 5, 3) := by decide +kernel
theorem dX10_ready_49 : decode cX10_ready 49 = .ok (.iload_n 3, 1) := by decide +kernel
theorem dX10_ready_50 : decode cX10_ready 50 = .ok (.ireturn, 1) := by decide +kernel
theorem dX10_ready_51 : decode cX10_ready 51 = .ok (.iinc 3 1, 3) := by decide +kernel
theorem dX10_ready_54 : decode cX10_ready 54 = .ok (.goto (-34), 3) := by decide +kernel
theorem dX10_ready_57 : decode cX10_ready 57 = .ok (.iconst (-1), 1) := by decide +kernel
theorem dX10_ready_58 : decode cX10_ready 58 = .ok (.ireturn, 1) := by decide +kernel
theorem dX1_fact_0 : decode cX1_fact 0 = .ok (.aload_n 0, 1) := by decide +kernel
theorem dX1_fact_1 : decode cX1_fact 1 = .ok (.getfield 15, 3) := by decide +kernel
theorem dX1_fact_4 : decode cX1_fact 4 = .ok (.iload_n 1, 1) := by decide +kernel
theorem dX1_fact_5 : decode cX1_fact 5 = .ok (.iaload, 1) := by decide +kernel
theorem dX1_fact_6 : decode cX1_fact 6 = .ok (.bipush 16, 2) := by decide +kernel
theorem dX1_fact_8 : decode cX1_fact 8 = .ok (.iadd, 1) := by decide +kernel
theorem dX1_fact_9 : decode cX1_fact 9 = .ok (.iconst 1, 1) := by decide +kernel
theorem dX1_fact_10 : decode cX1_fact 10 = .ok (.isub, 1) := by decide +kernel
theorem dX1_fact_11 : decode cX1_fact 11 = .ok (.iload_n 2, 1) := by decide +kernel
theorem dX1_fact_12 : decode cX1_fact 12 = .ok (.isub, 1) := by decide +kernel
theorem dX1_fact_13 : decode cX1_fact 13 = .ok (.bipush 16, 2) := by decide +kernel
theorem dX1_fact_15 : decode cX1_fact 15 = .ok (.irem, 1) := by decide +kernel
theorem dX1_fact_16 : decode cX1_fact 16 = .ok (.istore 4, 2) := by decide +kernel
theorem dX1_fact_18 : decode cX1_fact 18 = .ok (.aload_n 0, 1) := by decide +kernel
theorem dX1_fact_19 : decode cX1_fact 19 = .ok (.getfield 18, 3) := by decide +kernel
theorem dX1_fact_22 : decode cX1_fact 22 = .ok (.iload_n 1, 1) := by decide +kernel
theorem dX1_fact_23 : decode cX1_fact 23 = .ok (.bipush 16, 2) := by decide +kernel
theorem dX1_fact_25 : decode cX1_fact 25 = .ok (.imul, 1) := by decide +kernel
theorem dX1_fact_26 : decode cX1_fact 26 = .ok (.iload 4, 2) := by decide +kernel
theorem dX1_fact_28 : decode cX1_fact 28 = .ok (.iadd, 1) := by decide +kernel
theorem dX1_fact_29 : decode cX1_fact 29 = .ok (.iconst 4, 1) := by decide +kernel
theorem dX1_fact_30 : decode cX1_fact 30 = .ok (.imul, 1) := by decide +kernel
theorem dX1_fact_31 : decode cX1_fact 31 = .ok (.iload_n 3, 1) := by decide +kernel
theorem dX1_fact_32 : decode cX1_fact 32 = .ok (.iadd, 1) := by decide +kernel
theorem dX1_fact_33 : decode cX1_fact 33 = .ok (.iaload, 1) := by decide +kernel
theorem dX1_fact_34 : decode cX1_fact 34 = .ok (.ireturn, 1) := by decide +kernel
theorem dX9_journal_0 : decode cX9_journal 0 = .ok (.aload_n 0, 1) := by decide +kernel
theorem dX9_journal_1 : decode cX9_journal 1 = .ok (.getfield 10, 3) := by decide +kernel
theorem dX9_journal_4 : decode cX9_journal 4 = .ok (.getfield 93, 3) := by decide +kernel
theorem dX9_journal_7 : decode cX9_journal 7 = .ok (.iload_n 1, 1) := by decide +kernel
theorem dX9_journal_8 : decode cX9_journal 8 = .ok (.invokevirtual 189, 3) := by decide +kernel
theorem dX9_journal_11 : decode cX9_journal 11 = .ok (.ifCond .ne 6, 3) := by decide +kernel
theorem dX9_journal_14 : decode cX9_journal 14 = .ok (.bipush (-2), 2) := by decide +kernel
theorem dX9_journal_16 : decode cX9_journal 16 = .ok (.ireturn, 1) := by decide +kernel
theorem dX9_journal_17 : decode cX9_journal 17 = .ok (.iload_n 2, 1) := by decide +kernel
theorem dX9_journal_18 : decode cX9_journal 18 = .ok (.iconst (-1), 1) := by decide +kernel
theorem dX9_journal_19 : decode cX9_journal 19 = .ok (.if_icmp .ne 25, 3) := by decide +kernel
theorem dX9_journal_22 : decode cX9_journal 22 = .ok (.iload_n 3, 1) := by decide +kernel
theorem dX9_journal_23 : decode cX9_journal 23 = .ok (.ifCond .ne 18, 3) := by decide +kernel
theorem dX9_journal_26 : decode cX9_journal 26 = .ok (.aload_n 0, 1) := by decide +kernel
theorem dX9_journal_27 : decode cX9_journal 27 = .ok (.getfield 10, 3) := by decide +kernel
theorem dX9_journal_30 : decode cX9_journal 30 = .ok (.getfield 126, 3) := by decide +kernel
theorem dX9_journal_33 : decode cX9_journal 33 = .ok (.getfield 341, 3) := by decide +kernel
theorem dX9_journal_36 : decode cX9_journal 36 = .ok (.iload_n 1, 1) := by decide +kernel
theorem dX9_journal_37 : decode cX9_journal 37 = .ok (.iaload, 1) := by decide +kernel
theorem dX9_journal_38 : decode cX9_journal 38 = .ok (.goto 5, 3) := by decide +kernel
theorem dX9_journal_41 : decode cX9_journal 41 = .ok (.bipush (-2), 2) := by decide +kernel
theorem dX9_journal_43 : decode cX9_journal 43 = .ok (.ireturn, 1) := by decide +kernel
theorem dX9_journal_44 : decode cX9_journal 44 = .ok (.iload_n 2, 1) := by decide +kernel
theorem dX9_journal_45 : decode cX9_journal 45 = .ok (.ifCond .lt 28, 3) := by decide +kernel
theorem dX9_journal_48 : decode cX9_journal 48 = .ok (.iload_n 2, 1) := by decide +kernel
theorem dX9_journal_49 : decode cX9_journal 49 = .ok (.aload_n 0, 1) := by decide +kernel
theorem dX9_journal_50 : decode cX9_journal 50 = .ok (.getfield 10, 3) := by decide +kernel
theorem dX9_journal_53 : decode cX9_journal 53 = .ok (.getfield 126, 3) := by decide +kernel
theorem dX9_journal_56 : decode cX9_journal 56 = .ok (.getfield 341, 3) := by decide +kernel
theorem dX9_journal_59 : decode cX9_journal 59 = .ok (.iload_n 1, 1) := by decide +kernel
theorem dX9_journal_60 : decode cX9_journal 60 = .ok (.iaload, 1) := by decide +kernel
theorem dX9_journal_61 : decode cX9_journal 61 = .ok (.if_icmp .ge 12, 3) := by decide +kernel
theorem dX9_journal_64 : decode cX9_journal 64 = .ok (.iload_n 3, 1) := by decide +kernel
theorem dX9_journal_65 : decode cX9_journal 65 = .ok (.ifCond .lt 8, 3) := by decide +kernel
theorem dX9_journal_68 : decode cX9_journal 68 = .ok (.iload_n 3, 1) := by decide +kernel
theorem dX9_journal_69 : decode cX9_journal 69 = .ok (.iconst 4, 1) := by decide +kernel
theorem dX9_journal_70 : decode cX9_journal 70 = .ok (.if_icmp .lt 6, 3) := by decide +kernel
theorem dX9_journal_73 : decode cX9_journal 73 = .ok (.bipush (-2), 2) := by decide +kernel
theorem dX9_journal_75 : decode cX9_journal 75 = .ok (.ireturn, 1) := by decide +kernel
theorem dX9_journal_76 : decode cX9_journal 76 = .ok (.aload_n 0, 1) := by decide +kernel
theorem dX9_journal_77 : decode cX9_journal 77 = .ok (.getfield 10, 3) := by decide +kernel
theorem dX9_journal_80 : decode cX9_journal 80 = .ok (.getfield 126, 3) := by decide +kernel
theorem dX9_journal_83 : decode cX9_journal 83 = .ok (.iload_n 1, 1) := by decide +kernel
theorem dX9_journal_84 : decode cX9_journal 84 = .ok (.iload_n 2, 1) := by decide +kernel
theorem dX9_journal_85 : decode cX9_journal 85 = .ok (.iload_n 3, 1) := by decide +kernel
theorem dX9_journal_86 : decode cX9_journal 86 = .ok (.invokevirtual 344, 3) := by decide +kernel
theorem dX9_journal_89 : decode cX9_journal 89 = .ok (.ireturn, 1) := by decide +kernel
theorem dX10_journal_0 : decode cX10_journal 0 = .ok (.aload_n 0, 1) := by decide +kernel
theorem dX10_journal_1 : decode cX10_journal 1 = .ok (.iconst 0, 1) := by decide +kernel
theorem dX10_journal_2 : decode cX10_journal 2 = .ok (.putfield 52, 3) := by decide +kernel
theorem dX10_journal_5 : decode cX10_journal 5 = .ok (.aload_n 0, 1) := by decide +kernel
theorem dX10_journal_6 : decode cX10_journal 6 = .ok (.iload_n 1, 1) := by decide +kernel
theorem dX10_journal_7 : decode cX10_journal 7 = .ok (.invokevirtual 253, 3) := by decide +kernel
theorem dX10_journal_10 : decode cX10_journal 10 = .ok (.ifCond .ne 6, 3) := by decide +kernel
theorem dX10_journal_13 : decode cX10_journal 13 = .ok (.bipush (-2), 2) := by decide +kernel
theorem dX10_journal_15 : decode cX10_journal 15 = .ok (.ireturn, 1) := by decide +kernel
theorem dX10_journal_16 : decode cX10_journal 16 = .ok (.aload_n 0, 1) := by decide +kernel
theorem dX10_journal_17 : decode cX10_journal 17 = .ok (.iload_n 1, 1) := by decide +kernel
theorem dX10_journal_18 : decode cX10_journal 18 = .ok (.bipush 29, 2) := by decide +kernel
theorem dX10_journal_20 : decode cX10_journal 20 = .ok (.invokevirtual 159, 3) := by decide +kernel
theorem dX10_journal_23 : decode cX10_journal 23 = .ok (.istore 4, 2) := by decide +kernel
theorem dX10_journal_25 : decode cX10_journal 25 = .ok (.iload_n 2, 1) := by decide +kernel
theorem dX10_journal_26 : decode cX10_journal 26 = .ok (.iconst (-1), 1) := by decide +kernel
theorem dX10_journal_27 : decode cX10_journal 27 = .ok (.if_icmp .ne 15, 3) := by decide +kernel
theorem dX10_journal_30 : decode cX10_journal 30 = .ok (.iload_n 3, 1) := by decide +kernel
theorem dX10_journal_31 : decode cX10_journal 31 = .ok (.ifCond .ne 8, 3) := by decide +kernel
theorem dX10_journal_34 : decode cX10_journal 34 = .ok (.iload 4, 2) := by decide +kernel
theorem dX10_journal_36 : decode cX10_journal 36 = .ok (.goto 5, 3) := by decide +kernel
theorem dX10_journal_39 : decode cX10_journal 39 = .ok (.bipush (-2), 2) := by decide +kernel
theorem dX10_journal_41 : decode cX10_journal 41 = .ok (.ireturn, 1) := by decide +kernel
theorem dX10_journal_42 : decode cX10_journal 42 = .ok (.iload_n 2, 1) := by decide +kernel
theorem dX10_journal_43 : decode cX10_journal 43 = .ok (.iconst 0, 1) := by decide +kernel
theorem dX10_journal_44 : decode cX10_journal 44 = .ok (.iload 4, 2) := by decide +kernel
theorem dX10_journal_46 : decode cX10_journal 46 = .ok (.iconst 1, 1) := by decide +kernel
theorem dX10_journal_47 : decode cX10_journal 47 = .ok (.isub, 1) := by decide +kernel
theorem dX10_journal_48 : decode cX10_journal 48 = .ok (.invokestatic 59, 3) := by decide +kernel
theorem dX10_journal_51 : decode cX10_journal 51 = .ok (.ifCond .eq 28, 3) := by decide +kernel
theorem dX10_journal_54 : decode cX10_journal 54 = .ok (.iload_n 3, 1) := by decide +kernel
theorem dX10_journal_55 : decode cX10_journal 55 = .ok (.iconst 0, 1) := by decide +kernel
theorem dX10_journal_56 : decode cX10_journal 56 = .ok (.iconst 3, 1) := by decide +kernel
theorem dX10_journal_57 : decode cX10_journal 57 = .ok (.invokestatic 59, 3) := by decide +kernel
theorem dX10_journal_60 : decode cX10_journal 60 = .ok (.ifCond .eq 19, 3) := by decide +kernel
theorem dX10_journal_63 : decode cX10_journal 63 = .ok (.aload_n 0, 1) := by decide +kernel
theorem dX10_journal_64 : decode cX10_journal 64 = .ok (.iload_n 1, 1) := by decide +kernel
theorem dX10_journal_65 : decode cX10_journal 65 = .ok (.bipush 30, 2) := by decide +kernel
theorem dX10_journal_67 : decode cX10_journal 67 = .ok (.iconst 4, 1) := by decide +kernel
theorem dX10_journal_68 : decode cX10_journal 68 = .ok (.iload_n 2, 1) := by decide +kernel
theorem dX10_journal_69 : decode cX10_journal 69 = .ok (.imul, 1) := by decide +kernel
theorem dX10_journal_70 : decode cX10_journal 70 = .ok (.iadd, 1) := by decide +kernel
theorem dX10_journal_71 : decode cX10_journal 71 = .ok (.iload_n 3, 1) := by decide +kernel
theorem dX10_journal_72 : decode cX10_journal 72 = .ok (.iadd, 1) := by decide +kernel
theorem dX10_journal_73 : decode cX10_journal 73 = .ok (.invokevirtual 159, 3) := by decide +kernel
theorem dX10_journal_76 : decode cX10_journal 76 = .ok (.goto 5, 3) := by decide +kernel
theorem dX10_journal_79 : decode cX10_journal 79 = .ok (.bipush (-2), 2) := by decide +kernel
theorem dX10_journal_81 : decode cX10_journal 81 = .ok (.ireturn, 1) := by decide +kernel
theorem dX5_allAmounts_0 : decode cX5_allAmounts 0 = .ok (.iconst 0, 1) := by decide +kernel
theorem dX5_allAmounts_1 : decode cX5_allAmounts 1 = .ok (.istore_n 1, 1) := by decide +kernel
theorem dX5_allAmounts_2 : decode cX5_allAmounts 2 = .ok (.iconst 0, 1) := by decide +kernel
theorem dX5_allAmounts_3 : decode cX5_allAmounts 3 = .ok (.istore_n 2, 1) := by decide +kernel
theorem dX5_allAmounts_4 : decode cX5_allAmounts 4 = .ok (.iload_n 2, 1) := by decide +kernel
theorem dX5_allAmounts_5 : decode cX5_allAmounts 5 = .ok (.aload_n 0, 1) := by decide +kernel
theorem dX5_allAmounts_6 : decode cX5_allAmounts 6 = .ok (.getfield 9, 3) := by decide +kernel
theorem dX5_allAmounts_9 : decode cX5_allAmounts 9 = .ok (.if_icmp .ge 18, 3) := by decide +kernel
theorem dX5_allAmounts_12 : decode cX5_allAmounts 12 = .ok (.iload_n 1, 1) := by decide +kernel
theorem dX5_allAmounts_13 : decode cX5_allAmounts 13 = .ok (.aload_n 0, 1) := by decide +kernel
theorem dX5_allAmounts_14 : decode cX5_allAmounts 14 = .ok (.getfield 19, 3) := by decide +kernel
theorem dX5_allAmounts_17 : decode cX5_allAmounts 17 = .ok (.iload_n 2, 1) := by decide +kernel
theorem dX5_allAmounts_18 : decode cX5_allAmounts 18 = .ok (.iaload, 1) := by decide +kernel
theorem dX5_allAmounts_19 : decode cX5_allAmounts 19 = .ok (.iadd, 1) := by decide +kernel
theorem dX5_allAmounts_20 : decode cX5_allAmounts 20 = .ok (.istore_n 1, 1) := by decide +kernel
theorem dX5_allAmounts_21 : decode cX5_allAmounts 21 = .ok (.iinc 2 1, 3) := by decide +kernel
theorem dX5_allAmounts_24 : decode cX5_allAmounts 24 = .ok (.goto (-20), 3) := by decide +kernel
theorem dX5_allAmounts_27 : decode cX5_allAmounts 27 = .ok (.iload_n 1, 1) := by decide +kernel
theorem dX5_allAmounts_28 : decode cX5_allAmounts 28 = .ok (.ireturn, 1) := by decide +kernel
theorem dX5_allNetAmounts_0 : decode cX5_allNetAmounts 0 = .ok (.iconst 0, 1) := by decide +kernel
theorem dX5_allNetAmounts_1 : decode cX5_allNetAmounts 1 = .ok (.istore_n 1, 1) := by decide +kernel
theorem dX5_allNetAmounts_2 : decode cX5_allNetAmounts 2 = .ok (.iconst 0, 1) := by decide +kernel
theorem dX5_allNetAmounts_3 : decode cX5_allNetAmounts 3 = .ok (.istore_n 2, 1) := by decide +kernel
theorem dX5_allNetAmounts_4 : decode cX5_allNetAmounts 4 = .ok (.iload_n 2, 1) := by decide +kernel
theorem dX5_allNetAmounts_5 : decode cX5_allNetAmounts 5 = .ok (.aload_n 0, 1) := by decide +kernel
theorem dX5_allNetAmounts_6 : decode cX5_allNetAmounts 6 = .ok (.getfield 9, 3) := by decide +kernel
theorem dX5_allNetAmounts_9 : decode cX5_allNetAmounts 9 = .ok (.if_icmp .ge 17, 3) := by decide +kernel
theorem dX5_allNetAmounts_12 : decode cX5_allNetAmounts 12 = .ok (.iload_n 1, 1) := by decide +kernel
theorem dX5_allNetAmounts_13 : decode cX5_allNetAmounts 13 = .ok (.aload_n 0, 1) := by decide +kernel
theorem dX5_allNetAmounts_14 : decode cX5_allNetAmounts 14 = .ok (.iload_n 2, 1) := by decide +kernel
theorem dX5_allNetAmounts_15 : decode cX5_allNetAmounts 15 = .ok (.invokevirtual 59, 3) := by decide +kernel
theorem dX5_allNetAmounts_18 : decode cX5_allNetAmounts 18 = .ok (.iadd, 1) := by decide +kernel
theorem dX5_allNetAmounts_19 : decode cX5_allNetAmounts 19 = .ok (.istore_n 1, 1) := by decide +kernel
theorem dX5_allNetAmounts_20 : decode cX5_allNetAmounts 20 = .ok (.iinc 2 1, 3) := by decide +kernel
theorem dX5_allNetAmounts_23 : decode cX5_allNetAmounts 23 = .ok (.goto (-19), 3) := by decide +kernel
theorem dX5_allNetAmounts_26 : decode cX5_allNetAmounts 26 = .ok (.iload_n 1, 1) := by decide +kernel
theorem dX5_allNetAmounts_27 : decode cX5_allNetAmounts 27 = .ok (.ireturn, 1) := by decide +kernel
theorem dX5_allTogether_0 : decode cX5_allTogether 0 = .ok (.iconst 0, 1) := by decide +kernel
theorem dX5_allTogether_1 : decode cX5_allTogether 1 = .ok (.istore_n 2, 1) := by decide +kernel
theorem dX5_allTogether_2 : decode cX5_allTogether 2 = .ok (.iconst 0, 1) := by decide +kernel
theorem dX5_allTogether_3 : decode cX5_allTogether 3 = .ok (.istore_n 3, 1) := by decide +kernel
theorem dX5_allTogether_4 : decode cX5_allTogether 4 = .ok (.iload_n 3, 1) := by decide +kernel
theorem dX5_allTogether_5 : decode cX5_allTogether 5 = .ok (.aload_n 0, 1) := by decide +kernel
theorem dX5_allTogether_6 : decode cX5_allTogether 6 = .ok (.getfield 9, 3) := by decide +kernel
theorem dX5_allTogether_9 : decode cX5_allTogether 9 = .ok (.if_icmp .ge 18, 3) := by decide +kernel
theorem dX5_allTogether_12 : decode cX5_allTogether 12 = .ok (.iload_n 2, 1) := by decide +kernel
theorem dX5_allTogether_13 : decode cX5_allTogether 13 = .ok (.aload_n 0, 1) := by decide +kernel
theorem dX5_allTogether_14 : decode cX5_allTogether 14 = .ok (.iload_n 3, 1) := by decide +kernel
theorem dX5_allTogether_15 : decode cX5_allTogether 15 = .ok (.iload_n 1, 1) := by decide +kernel
theorem dX5_allTogether_16 : decode cX5_allTogether 16 = .ok (.invokevirtual 63, 3) := by decide +kernel
theorem dX5_allTogether_19 : decode cX5_allTogether 19 = .ok (.iadd, 1) := by decide +kernel
theorem dX5_allTogether_20 : decode cX5_allTogether 20 = .ok (.istore_n 2, 1) := by decide +kernel
theorem dX5_allTogether_21 : decode cX5_allTogether 21 = .ok (.iinc 3 1, 3) := by decide +kernel
theorem dX5_allTogether_24 : decode cX5_allTogether 24 = .ok (.goto (-20), 3) := by decide +kernel
theorem dX5_allTogether_27 : decode cX5_allTogether 27 = .ok (.iload_n 2, 1) := by decide +kernel
theorem dX5_allTogether_28 : decode cX5_allTogether 28 = .ok (.ireturn, 1) := by decide +kernel
theorem dX5_allNetPays_0 : decode cX5_allNetPays 0 = .ok (.iconst 0, 1) := by decide +kernel
theorem dX5_allNetPays_1 : decode cX5_allNetPays 1 = .ok (.istore_n 1, 1) := by decide +kernel
theorem dX5_allNetPays_2 : decode cX5_allNetPays 2 = .ok (.iconst 0, 1) := by decide +kernel
theorem dX5_allNetPays_3 : decode cX5_allNetPays 3 = .ok (.istore_n 2, 1) := by decide +kernel
theorem dX5_allNetPays_4 : decode cX5_allNetPays 4 = .ok (.iload_n 2, 1) := by decide +kernel
theorem dX5_allNetPays_5 : decode cX5_allNetPays 5 = .ok (.aload_n 0, 1) := by decide +kernel
theorem dX5_allNetPays_6 : decode cX5_allNetPays 6 = .ok (.getfield 9, 3) := by decide +kernel
theorem dX5_allNetPays_9 : decode cX5_allNetPays 9 = .ok (.if_icmp .ge 17, 3) := by decide +kernel
theorem dX5_allNetPays_12 : decode cX5_allNetPays 12 = .ok (.iload_n 1, 1) := by decide +kernel
theorem dX5_allNetPays_13 : decode cX5_allNetPays 13 = .ok (.aload_n 0, 1) := by decide +kernel
theorem dX5_allNetPays_14 : decode cX5_allNetPays 14 = .ok (.iload_n 2, 1) := by decide +kernel
theorem dX5_allNetPays_15 : decode cX5_allNetPays 15 = .ok (.invokevirtual 66, 3) := by decide +kernel
theorem dX5_allNetPays_18 : decode cX5_allNetPays 18 = .ok (.iadd, 1) := by decide +kernel
theorem dX5_allNetPays_19 : decode cX5_allNetPays 19 = .ok (.istore_n 1, 1) := by decide +kernel
theorem dX5_allNetPays_20 : decode cX5_allNetPays 20 = .ok (.iinc 2 1, 3) := by decide +kernel
theorem dX5_allNetPays_23 : decode cX5_allNetPays 23 = .ok (.goto (-19), 3) := by decide +kernel
theorem dX5_allNetPays_26 : decode cX5_allNetPays 26 = .ok (.iload_n 1, 1) := by decide +kernel
theorem dX5_allNetPays_27 : decode cX5_allNetPays 27 = .ok (.ireturn, 1) := by decide +kernel
theorem dX7_allVested_0 : decode cX7_allVested 0 = .ok (.iconst 0, 1) := by decide +kernel
theorem dX7_allVested_1 : decode cX7_allVested 1 = .ok (.istore_n 1, 1) := by decide +kernel
theorem dX7_allVested_2 : decode cX7_allVested 2 = .ok (.iconst 0, 1) := by decide +kernel
theorem dX7_allVested_3 : decode cX7_allVested 3 = .ok (.istore_n 2, 1) := by decide +kernel
theorem dX7_allVested_4 : decode cX7_allVested 4 = .ok (.iload_n 2, 1) := by decide +kernel
theorem dX7_allVested_5 : decode cX7_allVested 5 = .ok (.aload_n 0, 1) := by decide +kernel
theorem dX7_allVested_6 : decode cX7_allVested 6 = .ok (.getfield 35, 3) := by decide +kernel
theorem dX7_allVested_9 : decode cX7_allVested 9 = .ok (.getfield 79, 3) := by decide +kernel
theorem dX7_allVested_12 : decode cX7_allVested 12 = .ok (.if_icmp .ge 17, 3) := by decide +kernel
theorem dX7_allVested_15 : decode cX7_allVested 15 = .ok (.iload_n 1, 1) := by decide +kernel
theorem dX7_allVested_16 : decode cX7_allVested 16 = .ok (.aload_n 0, 1) := by decide +kernel
theorem dX7_allVested_17 : decode cX7_allVested 17 = .ok (.iload_n 2, 1) := by decide +kernel
theorem dX7_allVested_18 : decode cX7_allVested 18 = .ok (.invokevirtual 136, 3) := by decide +kernel
theorem dX7_allVested_21 : decode cX7_allVested 21 = .ok (.iadd, 1) := by decide +kernel
theorem dX7_allVested_22 : decode cX7_allVested 22 = .ok (.istore_n 1, 1) := by decide +kernel
theorem dX7_allVested_23 : decode cX7_allVested 23 = .ok (.iinc 2 1, 3) := by decide +kernel
theorem dX7_allVested_26 : decode cX7_allVested 26 = .ok (.goto (-22), 3) := by decide +kernel
theorem dX7_allVested_29 : decode cX7_allVested 29 = .ok (.iload_n 1, 1) := by decide +kernel
theorem dX7_allVested_30 : decode cX7_allVested 30 = .ok (.ireturn, 1) := by decide +kernel
theorem dX7_allNotVested_0 : decode cX7_allNotVested 0 = .ok (.iconst 0, 1) := by decide +kernel
theorem dX7_allNotVested_1 : decode cX7_allNotVested 1 = .ok (.istore_n 2, 1) := by decide +kernel
theorem dX7_allNotVested_2 : decode cX7_allNotVested 2 = .ok (.iconst 0, 1) := by decide +kernel
theorem dX7_allNotVested_3 : decode cX7_allNotVested 3 = .ok (.istore_n 3, 1) := by decide +kernel
theorem dX7_allNotVested_4 : decode cX7_allNotVested 4 = .ok (.iload_n 3, 1) := by decide +kernel
theorem dX7_allNotVested_5 : decode cX7_allNotVested 5 = .ok (.aload_n 0, 1) := by decide +kernel
theorem dX7_allNotVested_6 : decode cX7_allNotVested 6 = .ok (.getfield 28, 3) := by decide +kernel
theorem dX7_allNotVested_9 : decode cX7_allNotVested 9 = .ok (.getfield 128, 3) := by decide +kernel
theorem dX7_allNotVested_12 : decode cX7_allNotVested 12 = .ok (.if_icmp .ge 33, 3) := by decide +kernel
theorem dX7_allNotVested_15 : decode cX7_allNotVested 15 = .ok (.iload_n 2, 1) := by decide +kernel
theorem dX7_allNotVested_16 : decode cX7_allNotVested 16 = .ok (.aload_n 0, 1) := by decide +kernel
theorem dX7_allNotVested_17 : decode cX7_allNotVested 17 = .ok (.getfield 28, 3) := by decide +kernel
theorem dX7_allNotVested_20 : decode cX7_allNotVested 20 = .ok (.iload_n 3, 1) := by decide +kernel
theorem dX7_allNotVested_21 : decode cX7_allNotVested 21 = .ok (.invokevirtual 98, 3) := by decide +kernel
theorem dX7_allNotVested_24 : decode cX7_allNotVested 24 = .ok (.iload_n 1, 1) := by decide +kernel
theorem dX7_allNotVested_25 : decode cX7_allNotVested 25 = .ok (.if_icmp .ne 11, 3) := by decide +kernel
theorem dX7_allNotVested_28 : decode cX7_allNotVested 28 = .ok (.aload_n 0, 1) := by decide +kernel
theorem dX7_allNotVested_29 : decode cX7_allNotVested 29 = .ok (.iload_n 3, 1) := by decide +kernel
theorem dX7_allNotVested_30 : decode cX7_allNotVested 30 = .ok (.invokevirtual 129, 3) := by decide +kernel
theorem dX7_allNotVested_33 : decode cX7_allNotVested 33 = .ok (.goto 4, 3) := by decide +kernel
theorem dX7_allNotVested_36 : decode cX7_allNotVested 36 = .ok (.iconst 0, 1) := by decide +kernel
theorem dX7_allNotVested_37 : decode cX7_allNotVested 37 = .ok (.iadd, 1) := by decide +kernel
theorem dX7_allNotVested_38 : decode cX7_allNotVested 38 = .ok (.istore_n 2, 1) := by decide +kernel
theorem dX7_allNotVested_39 : decode cX7_allNotVested 39 = .ok (.iinc 3 1, 3) := by decide +kernel
theorem dX7_allNotVested_42 : decode cX7_allNotVested 42 = .ok (.goto (-38), 3) := by decide +kernel
theorem dX7_allNotVested_45 : decode cX7_allNotVested 45 = .ok (.iload_n 2, 1) := by decide +kernel
theorem dX7_allNotVested_46 : decode cX7_allNotVested 46 = .ok (.ireturn, 1) := by decide +kernel
theorem dX0_allDrawn_0 : decode cX0_allDrawn 0 = .ok (.iconst 0, 1) := by decide +kernel
theorem dX0_allDrawn_1 : decode cX0_allDrawn 1 = .ok (.istore_n 1, 1) := by decide +kernel
theorem dX0_allDrawn_2 : decode cX0_allDrawn 2 = .ok (.iconst 0, 1) := by decide +kernel
theorem dX0_allDrawn_3 : decode cX0_allDrawn 3 = .ok (.istore_n 2, 1) := by decide +kernel
theorem dX0_allDrawn_4 : decode cX0_allDrawn 4 = .ok (.iload_n 2, 1) := by decide +kernel
theorem dX0_allDrawn_5 : decode cX0_allDrawn 5 = .ok (.aload_n 0, 1) := by decide +kernel
theorem dX0_allDrawn_6 : decode cX0_allDrawn 6 = .ok (.getfield 9, 3) := by decide +kernel
theorem dX0_allDrawn_9 : decode cX0_allDrawn 9 = .ok (.if_icmp .ge 18, 3) := by decide +kernel
theorem dX0_allDrawn_12 : decode cX0_allDrawn 12 = .ok (.iload_n 1, 1) := by decide +kernel
theorem dX0_allDrawn_13 : decode cX0_allDrawn 13 = .ok (.aload_n 0, 1) := by decide +kernel
theorem dX0_allDrawn_14 : decode cX0_allDrawn 14 = .ok (.getfield 22, 3) := by decide +kernel
theorem dX0_allDrawn_17 : decode cX0_allDrawn 17 = .ok (.iload_n 2, 1) := by decide +kernel
theorem dX0_allDrawn_18 : decode cX0_allDrawn 18 = .ok (.iaload, 1) := by decide +kernel
theorem dX0_allDrawn_19 : decode cX0_allDrawn 19 = .ok (.iadd, 1) := by decide +kernel
theorem dX0_allDrawn_20 : decode cX0_allDrawn 20 = .ok (.istore_n 1, 1) := by decide +kernel
theorem dX0_allDrawn_21 : decode cX0_allDrawn 21 = .ok (.iinc 2 1, 3) := by decide +kernel
theorem dX0_allDrawn_24 : decode cX0_allDrawn 24 = .ok (.goto (-20), 3) := by decide +kernel
theorem dX0_allDrawn_27 : decode cX0_allDrawn 27 = .ok (.iload_n 1, 1) := by decide +kernel
theorem dX0_allDrawn_28 : decode cX0_allDrawn 28 = .ok (.ireturn, 1) := by decide +kernel
theorem dX7_allDebts_0 : decode cX7_allDebts 0 = .ok (.aload_n 0, 1) := by decide +kernel
theorem dX7_allDebts_1 : decode cX7_allDebts 1 = .ok (.iconst (-1), 1) := by decide +kernel
theorem dX7_allDebts_2 : decode cX7_allDebts 2 = .ok (.invokevirtual 139, 3) := by decide +kernel
theorem dX7_allDebts_5 : decode cX7_allDebts 5 = .ok (.iconst 0, 1) := by decide +kernel
theorem dX7_allDebts_6 : decode cX7_allDebts 6 = .ok (.istore_n 1, 1) := by decide +kernel
theorem dX7_allDebts_7 : decode cX7_allDebts 7 = .ok (.iconst 0, 1) := by decide +kernel
theorem dX7_allDebts_8 : decode cX7_allDebts 8 = .ok (.istore_n 2, 1) := by decide +kernel
theorem dX7_allDebts_9 : decode cX7_allDebts 9 = .ok (.iload_n 2, 1) := by decide +kernel
theorem dX7_allDebts_10 : decode cX7_allDebts 10 = .ok (.aload_n 0, 1) := by decide +kernel
theorem dX7_allDebts_11 : decode cX7_allDebts 11 = .ok (.getfield 28, 3) := by decide +kernel
theorem dX7_allDebts_14 : decode cX7_allDebts 14 = .ok (.getfield 128, 3) := by decide +kernel
theorem dX7_allDebts_17 : decode cX7_allDebts 17 = .ok (.if_icmp .ge 23, 3) := by decide +kernel
theorem dX7_allDebts_20 : decode cX7_allDebts 20 = .ok (.iload_n 1, 1) := by decide +kernel
theorem dX7_allDebts_21 : decode cX7_allDebts 21 = .ok (.iconst 0, 1) := by decide +kernel
theorem dX7_allDebts_22 : decode cX7_allDebts 22 = .ok (.aload_n 0, 1) := by decide +kernel
theorem dX7_allDebts_23 : decode cX7_allDebts 23 = .ok (.getfield 46, 3) := by decide +kernel
theorem dX7_allDebts_26 : decode cX7_allDebts 26 = .ok (.iload_n 2, 1) := by decide +kernel
theorem dX7_allDebts_27 : decode cX7_allDebts 27 = .ok (.iaload, 1) := by decide +kernel
theorem dX7_allDebts_28 : decode cX7_allDebts 28 = .ok (.ineg, 1) := by decide +kernel
theorem dX7_allDebts_29 : decode cX7_allDebts 29 = .ok (.invokestatic 113, 3) := by decide +kernel
theorem dX7_allDebts_32 : decode cX7_allDebts 32 = .ok (.iadd, 1) := by decide +kernel
theorem dX7_allDebts_33 : decode cX7_allDebts 33 = .ok (.istore_n 1, 1) := by decide +kernel
theorem dX7_allDebts_34 : decode cX7_allDebts 34 = .ok (.iinc 2 1, 3) := by decide +kernel
theorem dX7_allDebts_37 : decode cX7_allDebts 37 = .ok (.goto (-28), 3) := by decide +kernel
theorem dX7_allDebts_40 : decode cX7_allDebts 40 = .ok (.iload_n 1, 1) := by decide +kernel
theorem dX7_allDebts_41 : decode cX7_allDebts 41 = .ok (.ireturn, 1) := by decide +kernel
theorem dX0_leavers_0 : decode cX0_leavers 0 = .ok (.iconst 0, 1) := by decide +kernel
theorem dX0_leavers_1 : decode cX0_leavers 1 = .ok (.istore_n 1, 1) := by decide +kernel
theorem dX0_leavers_2 : decode cX0_leavers 2 = .ok (.iconst 0, 1) := by decide +kernel
theorem dX0_leavers_3 : decode cX0_leavers 3 = .ok (.istore_n 2, 1) := by decide +kernel
theorem dX0_leavers_4 : decode cX0_leavers 4 = .ok (.iload_n 2, 1) := by decide +kernel
theorem dX0_leavers_5 : decode cX0_leavers 5 = .ok (.aload_n 0, 1) := by decide +kernel
theorem dX0_leavers_6 : decode cX0_leavers 6 = .ok (.getfield 9, 3) := by decide +kernel
theorem dX0_leavers_9 : decode cX0_leavers 9 = .ok (.if_icmp .ge 27, 3) := by decide +kernel
theorem dX0_leavers_12 : decode cX0_leavers 12 = .ok (.iload_n 1, 1) := by decide +kernel
theorem dX0_leavers_13 : decode cX0_leavers 13 = .ok (.aload_n 0, 1) := by decide +kernel
theorem dX0_leavers_14 : decode cX0_leavers 14 = .ok (.iload_n 2, 1) := by decide +kernel
theorem dX0_leavers_15 : decode cX0_leavers 15 = .ok (.invokevirtual 54, 3) := by decide +kernel
theorem dX0_leavers_18 : decode cX0_leavers 18 = .ok (.ifCond .eq 9, 3) := by decide +kernel
theorem dX0_leavers_21 : decode cX0_leavers 21 = .ok (.iconst 1, 1) := by decide +kernel
theorem dX0_leavers_22 : decode cX0_leavers 22 = .ok (.iload_n 2, 1) := by decide +kernel
theorem dX0_leavers_23 : decode cX0_leavers 23 = .ok (.ishl, 1) := by decide +kernel
theorem dX0_leavers_24 : decode cX0_leavers 24 = .ok (.goto 4, 3) := by decide +kernel
theorem dX0_leavers_27 : decode cX0_leavers 27 = .ok (.iconst 0, 1) := by decide +kernel
theorem dX0_leavers_28 : decode cX0_leavers 28 = .ok (.ior, 1) := by decide +kernel
theorem dX0_leavers_29 : decode cX0_leavers 29 = .ok (.istore_n 1, 1) := by decide +kernel
theorem dX0_leavers_30 : decode cX0_leavers 30 = .ok (.iinc 2 1, 3) := by decide +kernel
theorem dX0_leavers_33 : decode cX0_leavers 33 = .ok (.goto (-29), 3) := by decide +kernel
theorem dX0_leavers_36 : decode cX0_leavers 36 = .ok (.iload_n 1, 1) := by decide +kernel
theorem dX0_leavers_37 : decode cX0_leavers 37 = .ok (.ireturn, 1) := by decide +kernel
theorem dX9_activeNow_0 : decode cX9_activeNow 0 = .ok (.aload_n 0, 1) := by decide +kernel
theorem dX9_activeNow_1 : decode cX9_activeNow 1 = .ok (.getfield 30, 3) := by decide +kernel
theorem dX9_activeNow_4 : decode cX9_activeNow 4 = .ok (.aload_n 0, 1) := by decide +kernel
theorem dX9_activeNow_5 : decode cX9_activeNow 5 = .ok (.getfield 10, 3) := by decide +kernel
theorem dX9_activeNow_8 : decode cX9_activeNow 8 = .ok (.aload_n 0, 1) := by decide +kernel
theorem dX9_activeNow_9 : decode cX9_activeNow 9 = .ok (.getfield 10, 3) := by decide +kernel
theorem dX9_activeNow_12 : decode cX9_activeNow 12 = .ok (.getfield 90, 3) := by decide +kernel
theorem dX9_activeNow_15 : decode cX9_activeNow 15 = .ok (.invokevirtual 154, 3) := by decide +kernel
theorem dX9_activeNow_18 : decode cX9_activeNow 18 = .ok (.aload_n 0, 1) := by decide +kernel
theorem dX9_activeNow_19 : decode cX9_activeNow 19 = .ok (.getfield 30, 3) := by decide +kernel
theorem dX9_activeNow_22 : decode cX9_activeNow 22 = .ok (.getfield 267, 3) := by decide +kernel
theorem dX9_activeNow_25 : decode cX9_activeNow 25 = .ok (.ireturn, 1) := by decide +kernel
theorem dX9_staleSales_0 : decode cX9_staleSales 0 = .ok (.aload_n 0, 1) := by decide +kernel
theorem dX9_staleSales_1 : decode cX9_staleSales 1 = .ok (.getfield 30, 3) := by decide +kernel
theorem dX9_staleSales_4 : decode cX9_staleSales 4 = .ok (.aload_n 0, 1) := by decide +kernel
theorem dX9_staleSales_5 : decode cX9_staleSales 5 = .ok (.getfield 10, 3) := by decide +kernel
theorem dX9_staleSales_8 : decode cX9_staleSales 8 = .ok (.aload_n 0, 1) := by decide +kernel
theorem dX9_staleSales_9 : decode cX9_staleSales 9 = .ok (.getfield 10, 3) := by decide +kernel
theorem dX9_staleSales_12 : decode cX9_staleSales 12 = .ok (.getfield 90, 3) := by decide +kernel
theorem dX9_staleSales_15 : decode cX9_staleSales 15 = .ok (.invokevirtual 154, 3) := by decide +kernel
theorem dX9_staleSales_18 : decode cX9_staleSales 18 = .ok (.iconst 0, 1) := by decide +kernel
theorem dX9_staleSales_19 : decode cX9_staleSales 19 = .ok (.istore_n 1, 1) := by decide +kernel
theorem dX9_staleSales_20 : decode cX9_staleSales 20 = .ok (.iconst 0, 1) := by decide +kernel
theorem dX9_staleSales_21 : decode cX9_staleSales 21 = .ok (.istore_n 2, 1) := by decide +kernel
theorem dX9_staleSales_22 : decode cX9_staleSales 22 = .ok (.iload_n 2, 1) := by decide +kernel
theorem dX9_staleSales_23 : decode cX9_staleSales 23 = .ok (.aload_n 0, 1) := by decide +kernel
theorem dX9_staleSales_24 : decode cX9_staleSales 24 = .ok (.getfield 10, 3) := by decide +kernel
theorem dX9_staleSales_27 : decode cX9_staleSales 27 = .ok (.getfield 136, 3) := by decide +kernel
theorem dX9_staleSales_30 : decode cX9_staleSales 30 = .ok (.getfield 144, 3) := by decide +kernel
theorem dX9_staleSales_33 : decode cX9_staleSales 33 = .ok (.if_icmp .ge 25, 3) := by decide +kernel
theorem dX9_staleSales_36 : decode cX9_staleSales 36 = .ok (.iload_n 1, 1) := by decide +kernel
theorem dX9_staleSales_37 : decode cX9_staleSales 37 = .ok (.aload_n 0, 1) := by decide +kernel
theorem dX9_staleSales_38 : decode cX9_staleSales 38 = .ok (.iload_n 2, 1) := by decide +kernel
theorem dX9_staleSales_39 : decode cX9_staleSales 39 = .ok (.invokevirtual 412, 3) := by decide +kernel
theorem dX9_staleSales_42 : decode cX9_staleSales 42 = .ok (.ifCond .eq 7, 3) := by decide +kernel
theorem dX9_staleSales_45 : decode cX9_staleSales 45 = .ok (.iconst 1, 1) := by decide +kernel
theorem dX9_staleSales_46 : decode cX9_staleSales 46 = .ok (.goto 4, 3) := by decide +kernel
theorem dX9_staleSales_49 : decode cX9_staleSales 49 = .ok (.iconst 0, 1) := by decide +kernel
theorem dX9_staleSales_50 : decode cX9_staleSales 50 = .ok (.iadd, 1) := by decide +kernel
theorem dX9_staleSales_51 : decode cX9_staleSales 51 = .ok (.istore_n 1, 1) := by decide +kernel
theorem dX9_staleSales_52 : decode cX9_staleSales 52 = .ok (.iinc 2 1, 3) := by decide +kernel
theorem dX9_staleSales_55 : decode cX9_staleSales 55 = .ok (.goto (-33), 3) := by decide +kernel
theorem dX9_staleSales_58 : decode cX9_staleSales 58 = .ok (.iload_n 1, 1) := by decide +kernel
theorem dX9_staleSales_59 : decode cX9_staleSales 59 = .ok (.ireturn, 1) := by decide +kernel
theorem dX9_greatestNow_0 : decode cX9_greatestNow 0 = .ok (.aload_n 0, 1) := by decide +kernel
theorem dX9_greatestNow_1 : decode cX9_greatestNow 1 = .ok (.getfield 30, 3) := by decide +kernel
theorem dX9_greatestNow_4 : decode cX9_greatestNow 4 = .ok (.aload_n 0, 1) := by decide +kernel
theorem dX9_greatestNow_5 : decode cX9_greatestNow 5 = .ok (.getfield 10, 3) := by decide +kernel
theorem dX9_greatestNow_8 : decode cX9_greatestNow 8 = .ok (.aload_n 0, 1) := by decide +kernel
theorem dX9_greatestNow_9 : decode cX9_greatestNow 9 = .ok (.getfield 10, 3) := by decide +kernel
theorem dX9_greatestNow_12 : decode cX9_greatestNow 12 = .ok (.getfield 90, 3) := by decide +kernel
theorem dX9_greatestNow_15 : decode cX9_greatestNow 15 = .ok (.invokevirtual 154, 3) := by decide +kernel
theorem dX9_greatestNow_18 : decode cX9_greatestNow 18 = .ok (.iconst 0, 1) := by decide +kernel
theorem dX9_greatestNow_19 : decode cX9_greatestNow 19 = .ok (.istore_n 2, 1) := by decide +kernel
theorem dX9_greatestNow_20 : decode cX9_greatestNow 20 = .ok (.iconst 1, 1) := by decide +kernel
theorem dX9_greatestNow_21 : decode cX9_greatestNow 21 = .ok (.istore_n 3, 1) := by decide +kernel
theorem dX9_greatestNow_22 : decode cX9_greatestNow 22 = .ok (.iload_n 3, 1) := by decide +kernel
theorem dX9_greatestNow_23 : decode cX9_greatestNow 23 = .ok (.aload_n 0, 1) := by decide +kernel
theorem dX9_greatestNow_24 : decode cX9_greatestNow 24 = .ok (.getfield 10, 3) := by decide +kernel
theorem dX9_greatestNow_27 : decode cX9_greatestNow 27 = .ok (.getfield 93, 3) := by decide +kernel
theorem dX9_greatestNow_30 : decode cX9_greatestNow 30 = .ok (.getfield 103, 3) := by decide +kernel
theorem dX9_greatestNow_33 : decode cX9_greatestNow 33 = .ok (.if_icmp .ge 32, 3) := by decide +kernel
theorem dX9_greatestNow_36 : decode cX9_greatestNow 36 = .ok (.aload_n 0, 1) := by decide +kernel
theorem dX9_greatestNow_37 : decode cX9_greatestNow 37 = .ok (.getfield 30, 3) := by decide +kernel
theorem dX9_greatestNow_40 : decode cX9_greatestNow 40 = .ok (.getfield 270, 3) := by decide +kernel
theorem dX9_greatestNow_43 : decode cX9_greatestNow 43 = .ok (.iload_n 3, 1) := by decide +kernel
theorem dX9_greatestNow_44 : decode cX9_greatestNow 44 = .ok (.iaload, 1) := by decide +kernel
theorem dX9_greatestNow_45 : decode cX9_greatestNow 45 = .ok (.aload_n 0, 1) := by decide +kernel
theorem dX9_greatestNow_46 : decode cX9_greatestNow 46 = .ok (.getfield 30, 3) := by decide +kernel
theorem dX9_greatestNow_49 : decode cX9_greatestNow 49 = .ok (.getfield 270, 3) := by decide +kernel
theorem dX9_greatestNow_52 : decode cX9_greatestNow 52 = .ok (.iload_n 2, 1) := by decide +kernel
theorem dX9_greatestNow_53 : decode cX9_greatestNow 53 = .ok (.iaload, 1) := by decide +kernel
theorem dX9_greatestNow_54 : decode cX9_greatestNow 54 = .ok (.if_icmp .le 5, 3) := by decide +kernel
theorem dX9_greatestNow_57 : decode cX9_greatestNow 57 = .ok (.iload_n 3, 1) := by decide +kernel
theorem dX9_greatestNow_58 : decode cX9_greatestNow 58 = .ok (.istore_n 2, 1) := by decide +kernel
theorem dX9_greatestNow_59 : decode cX9_greatestNow 59 = .ok (.iinc 3 1, 3) := by decide +kernel
theorem dX9_greatestNow_62 : decode cX9_greatestNow 62 = .ok (.goto (-40), 3) := by decide +kernel
theorem dX9_greatestNow_65 : decode cX9_greatestNow 65 = .ok (.iload_n 1, 1) := by decide +kernel
theorem dX9_greatestNow_66 : decode cX9_greatestNow 66 = .ok (.ifCond .eq 7, 3) := by decide +kernel
theorem dX9_greatestNow_69 : decode cX9_greatestNow 69 = .ok (.iload_n 2, 1) := by decide +kernel
theorem dX9_greatestNow_70 : decode cX9_greatestNow 70 = .ok (.goto 12, 3) := by decide +kernel
theorem dX9_greatestNow_73 : decode cX9_greatestNow 73 = .ok (.aload_n 0, 1) := by decide +kernel
theorem dX9_greatestNow_74 : decode cX9_greatestNow 74 = .ok (.getfield 30, 3) := by decide +kernel
theorem dX9_greatestNow_77 : decode cX9_greatestNow 77 = .ok (.getfield 270, 3) := by decide +kernel
theorem dX9_greatestNow_80 : decode cX9_greatestNow 80 = .ok (.iload_n 2, 1) := by decide +kernel
theorem dX9_greatestNow_81 : decode cX9_greatestNow 81 = .ok (.iaload, 1) := by decide +kernel
theorem dX9_greatestNow_82 : decode cX9_greatestNow 82 = .ok (.ireturn, 1) := by decide +kernel
theorem dX9_books_0 : decode cX9_books 0 = .ok (.aload_n 0, 1) := by decide +kernel
theorem dX9_books_1 : decode cX9_books 1 = .ok (.getfield 10, 3) := by decide +kernel
theorem dX9_books_4 : decode cX9_books 4 = .ok (.getfield 136, 3) := by decide +kernel
theorem dX9_books_7 : decode cX9_books 7 = .ok (.astore_n 2, 1) := by decide +kernel
theorem dX9_books_8 : decode cX9_books 8 = .ok (.iload_n 1, 1) := by decide +kernel
theorem dX9_books_9 : decode cX9_books 9 = .ok (.tableswitch 239 0 19 #[95, 103, 114, 119, 124, 129, 135, 140, 146, 152, 160, 169, 178, 189, 197, 206, 217, 222, 227, 233], 95) := by decide +kernel
theorem dX9_books_104 : decode cX9_books 104 = .ok (.aload_n 0, 1) := by decide +kernel
theorem dX9_books_105 : decode cX9_books 105 = .ok (.getfield 10, 3) := by decide +kernel
theorem dX9_books_108 : decode cX9_books 108 = .ok (.getfield 90, 3) := by decide +kernel
theorem dX9_books_111 : decode cX9_books 111 = .ok (.ireturn, 1) := by decide +kernel
theorem dX9_books_112 : decode cX9_books 112 = .ok (.aload_n 0, 1) := by decide +kernel
theorem dX9_books_113 : decode cX9_books 113 = .ok (.getfield 10, 3) := by decide +kernel
theorem dX9_books_116 : decode cX9_books 116 = .ok (.getfield 93, 3) := by decide +kernel
theorem dX9_books_119 : decode cX9_books 119 = .ok (.getfield 103, 3) := by decide +kernel
theorem dX9_books_122 : decode cX9_books 122 = .ok (.ireturn, 1) := by decide +kernel
theorem dX9_books_123 : decode cX9_books 123 = .ok (.aload_n 2, 1) := by decide +kernel
theorem dX9_books_124 : decode cX9_books 124 = .ok (.getfield 144, 3) := by decide +kernel
theorem dX9_books_127 : decode cX9_books 127 = .ok (.ireturn, 1) := by decide +kernel
theorem dX9_books_128 : decode cX9_books 128 = .ok (.aload_n 2, 1) := by decide +kernel
theorem dX9_books_129 : decode cX9_books 129 = .ok (.invokevirtual 345, 3) := by decide +kernel
theorem dX9_books_132 : decode cX9_books 132 = .ok (.ireturn, 1) := by decide +kernel
theorem dX9_books_133 : decode cX9_books 133 = .ok (.aload_n 2, 1) := by decide +kernel
theorem dX9_books_134 : decode cX9_books 134 = .ok (.invokevirtual 348, 3) := by decide +kernel
theorem dX9_books_137 : decode cX9_books 137 = .ok (.ireturn, 1) := by decide +kernel
theorem dX9_books_138 : decode cX9_books 138 = .ok (.aload_n 2, 1) := by decide +kernel
theorem dX9_books_139 : decode cX9_books 139 = .ok (.iconst 2, 1) := by decide +kernel
theorem dX9_books_140 : decode cX9_books 140 = .ok (.invokevirtual 351, 3) := by decide +kernel
theorem dX9_books_143 : decode cX9_books 143 = .ok (.ireturn, 1) := by decide +kernel
theorem dX9_books_144 : decode cX9_books 144 = .ok (.aload_n 2, 1) := by decide +kernel
theorem dX9_books_145 : decode cX9_books 145 = .ok (.invokevirtual 354, 3) := by decide +kernel
theorem dX9_books_148 : decode cX9_books 148 = .ok (.ireturn, 1) := by decide +kernel
theorem dX9_books_149 : decode cX9_books 149 = .ok (.aload_n 2, 1) := by decide +kernel
theorem dX9_books_150 : decode cX9_books 150 = .ok (.iconst 3, 1) := by decide +kernel
theorem dX9_books_151 : decode cX9_books 151 = .ok (.invokevirtual 351, 3) := by decide +kernel
theorem dX9_books_154 : decode cX9_books 154 = .ok (.ireturn, 1) := by decide +kernel
theorem dX9_books_155 : decode cX9_books 155 = .ok (.aload_n 2, 1) := by decide +kernel
theorem dX9_books_156 : decode cX9_books 156 = .ok (.iconst 4, 1) := by decide +kernel
theorem dX9_books_157 : decode cX9_books 157 = .ok (.invokevirtual 351, 3) := by decide +kernel
theorem dX9_books_160 : decode cX9_books 160 = .ok (.ireturn, 1) := by decide +kernel
theorem dX9_books_161 : decode cX9_books 161 = .ok (.aload_n 0, 1) := by decide +kernel
theorem dX9_books_162 : decode cX9_books 162 = .ok (.getfield 10, 3) := by decide +kernel
theorem dX9_books_165 : decode cX9_books 165 = .ok (.invokevirtual 357, 3) := by decide +kernel
theorem dX9_books_168 : decode cX9_books 168 = .ok (.ireturn, 1) := by decide +kernel
theorem dX9_books_169 : decode cX9_books 169 = .ok (.aload_n 0, 1) := by decide +kernel
theorem dX9_books_170 : decode cX9_books 170 = .ok (.getfield 10, 3) := by decide +kernel
theorem dX9_books_173 : decode cX9_books 173 = .ok (.iconst 0, 1) := by decide +kernel
theorem dX9_books_174 : decode cX9_books 174 = .ok (.invokevirtual 360, 3) := by decide +kernel
theorem dX9_books_177 : decode cX9_books 177 = .ok (.ireturn, 1) := by decide +kernel
theorem dX9_books_178 : decode cX9_books 178 = .ok (.aload_n 0, 1) := by decide +kernel
theorem dX9_books_179 : decode cX9_books 179 = .ok (.getfield 10, 3) := by decide +kernel
theorem dX9_books_182 : decode cX9_books 182 = .ok (.iconst 1, 1) := by decide +kernel
theorem dX9_books_183 : decode cX9_books 183 = .ok (.invokevirtual 360, 3) := by decide +kernel
theorem dX9_books_186 : decode cX9_books 186 = .ok (.ireturn, 1) := by decide +kernel
theorem dX9_books_187 : decode cX9_books 187 = .ok (.aload_n 0, 1) := by decide +kernel
theorem dX9_books_188 : decode cX9_books 188 = .ok (.getfield 10, 3) := by decide +kernel
theorem dX9_books_191 : decode cX9_books 191 = .ok (.getfield 93, 3) := by decide +kernel
theorem dX9_books_194 : decode cX9_books 194 = .ok (.invokevirtual 364, 3) := by decide +kernel
theorem dX9_books_197 : decode cX9_books 197 = .ok (.ireturn, 1) := by decide +kernel
theorem dX9_books_198 : decode cX9_books 198 = .ok (.aload_n 0, 1) := by decide +kernel
theorem dX9_books_199 : decode cX9_books 199 = .ok (.getfield 10, 3) := by decide +kernel
theorem dX9_books_202 : decode cX9_books 202 = .ok (.invokevirtual 367, 3) := by decide +kernel
theorem dX9_books_205 : decode cX9_books 205 = .ok (.ireturn, 1) := by decide +kernel
theorem dX9_books_206 : decode cX9_books 206 = .ok (.aload_n 0, 1) := by decide +kernel
theorem dX9_books_207 : decode cX9_books 207 = .ok (.getfield 10, 3) := by decide +kernel
theorem dX9_books_210 : decode cX9_books 210 = .ok (.iconst (-1), 1) := by decide +kernel
theorem dX9_books_211 : decode cX9_books 211 = .ok (.invokevirtual 306, 3) := by decide +kernel
theorem dX9_books_214 : decode cX9_books 214 = .ok (.ireturn, 1) := by decide +kernel
theorem dX9_books_215 : decode cX9_books 215 = .ok (.aload_n 0, 1) := by decide +kernel
theorem dX9_books_216 : decode cX9_books 216 = .ok (.getfield 10, 3) := by decide +kernel
theorem dX9_books_219 : decode cX9_books 219 = .ok (.getfield 93, 3) := by decide +kernel
theorem dX9_books_222 : decode cX9_books 222 = .ok (.invokevirtual 370, 3) := by decide +kernel
theorem dX9_books_225 : decode cX9_books 225 = .ok (.ireturn, 1) := by decide +kernel
theorem dX9_books_226 : decode cX9_books 226 = .ok (.aload_n 0, 1) := by decide +kernel
theorem dX9_books_227 : decode cX9_books 227 = .ok (.invokevirtual 373, 3) := by decide +kernel
theorem dX9_books_230 : decode cX9_books 230 = .ok (.ireturn, 1) := by decide +kernel
theorem dX9_books_231 : decode cX9_books 231 = .ok (.aload_n 0, 1) := by decide +kernel
theorem dX9_books_232 : decode cX9_books 232 = .ok (.invokevirtual 376, 3) := by decide +kernel
theorem dX9_books_235 : decode cX9_books 235 = .ok (.ireturn, 1) := by decide +kernel
theorem dX9_books_236 : decode cX9_books 236 = .ok (.aload_n 0, 1) := by decide +kernel
theorem dX9_books_237 : decode cX9_books 237 = .ok (.iconst 0, 1) := by decide +kernel
theorem dX9_books_238 : decode cX9_books 238 = .ok (.invokevirtual 379, 3) := by decide +kernel
theorem dX9_books_241 : decode cX9_books 241 = .ok (.ireturn, 1) := by decide +kernel
theorem dX9_books_242 : decode cX9_books 242 = .ok (.aload_n 0, 1) := by decide +kernel
theorem dX9_books_243 : decode cX9_books 243 = .ok (.iconst 1, 1) := by decide +kernel
theorem dX9_books_244 : decode cX9_books 244 = .ok (.invokevirtual 379, 3) := by decide +kernel
theorem dX9_books_247 : decode cX9_books 247 = .ok (.ireturn, 1) := by decide +kernel
theorem dX9_books_248 : decode cX9_books 248 = .ok (.bipush (-2), 2) := by decide +kernel
theorem dX9_books_250 : decode cX9_books 250 = .ok (.ireturn, 1) := by decide +kernel
theorem dX10_ofSales_0 : decode cX10_ofSales 0 = .ok (.iconst 0, 1) := by decide +kernel
theorem dX10_ofSales_1 : decode cX10_ofSales 1 = .ok (.istore_n 2, 1) := by decide +kernel
theorem dX10_ofSales_2 : decode cX10_ofSales 2 = .ok (.iconst 0, 1) := by decide +kernel
theorem dX10_ofSales_3 : decode cX10_ofSales 3 = .ok (.istore_n 3, 1) := by decide +kernel
theorem dX10_ofSales_4 : decode cX10_ofSales 4 = .ok (.iload_n 3, 1) := by decide +kernel
theorem dX10_ofSales_5 : decode cX10_ofSales 5 = .ok (.aload_n 0, 1) := by decide +kernel
theorem dX10_ofSales_6 : decode cX10_ofSales 6 = .ok (.getfield 7, 3) := by decide +kernel
theorem dX10_ofSales_9 : decode cX10_ofSales 9 = .ok (.sipush 146, 3) := by decide +kernel
theorem dX10_ofSales_12 : decode cX10_ofSales 12 = .ok (.iaload, 1) := by decide +kernel
theorem dX10_ofSales_13 : decode cX10_ofSales 13 = .ok (.if_icmp .ge 116, 3) := by decide +kernel
theorem dX10_ofSales_16 : decode cX10_ofSales 16 = .ok (.iload_n 2, 1) := by decide +kernel
theorem dX10_ofSales_17 : decode cX10_ofSales 17 = .ok (.iload_n 1, 1) := by decide +kernel
theorem dX10_ofSales_18 : decode cX10_ofSales 18 = .ok (.iconst 3, 1) := by decide +kernel
theorem dX10_ofSales_19 : decode cX10_ofSales 19 = .ok (.if_icmp .ne 12, 3) := by decide +kernel
theorem dX10_ofSales_22 : decode cX10_ofSales 22 = .ok (.aload_n 0, 1) := by decide +kernel
theorem dX10_ofSales_23 : decode cX10_ofSales 23 = .ok (.iload_n 3, 1) := by decide +kernel
theorem dX10_ofSales_24 : decode cX10_ofSales 24 = .ok (.iconst 1, 1) := by decide +kernel
theorem dX10_ofSales_25 : decode cX10_ofSales 25 = .ok (.invokevirtual 162, 3) := by decide +kernel
theorem dX10_ofSales_28 : decode cX10_ofSales 28 = .ok (.goto 93, 3) := by decide +kernel
theorem dX10_ofSales_31 : decode cX10_ofSales 31 = .ok (.iload_n 1, 1) := by decide +kernel
theorem dX10_ofSales_32 : decode cX10_ofSales 32 = .ok (.iconst 4, 1) := by decide +kernel
theorem dX10_ofSales_33 : decode cX10_ofSales 33 = .ok (.if_icmp .ne 17, 3) := by decide +kernel
theorem dX10_ofSales_36 : decode cX10_ofSales 36 = .ok (.aload_n 0, 1) := by decide +kernel
theorem dX10_ofSales_37 : decode cX10_ofSales 37 = .ok (.iload_n 3, 1) := by decide +kernel
theorem dX10_ofSales_38 : decode cX10_ofSales 38 = .ok (.aload_n 0, 1) := by decide +kernel
theorem dX10_ofSales_39 : decode cX10_ofSales 39 = .ok (.iload_n 3, 1) := by decide +kernel
theorem dX10_ofSales_40 : decode cX10_ofSales 40 = .ok (.iconst 1, 1) := by decide +kernel
theorem dX10_ofSales_41 : decode cX10_ofSales 41 = .ok (.invokevirtual 162, 3) := by decide +kernel
theorem dX10_ofSales_44 : decode cX10_ofSales 44 = .ok (.invokevirtual 187, 3) := by decide +kernel
theorem dX10_ofSales_47 : decode cX10_ofSales 47 = .ok (.goto 74, 3) := by decide +kernel
theorem dX10_ofSales_50 : decode cX10_ofSales 50 = .ok (.iload_n 1, 1) := by decide +kernel
theorem dX10_ofSales_51 : decode cX10_ofSales 51 = .ok (.iconst 5, 1) := by decide +kernel
theorem dX10_ofSales_52 : decode cX10_ofSales 52 = .ok (.if_icmp .ne 12, 3) := by decide +kernel
theorem dX10_ofSales_55 : decode cX10_ofSales 55 = .ok (.aload_n 0, 1) := by decide +kernel
theorem dX10_ofSales_56 : decode cX10_ofSales 56 = .ok (.iload_n 3, 1) := by decide +kernel
theorem dX10_ofSales_57 : decode cX10_ofSales 57 = .ok (.iconst 2, 1) := by decide +kernel
theorem dX10_ofSales_58 : decode cX10_ofSales 58 = .ok (.invokevirtual 323, 3) := by decide +kernel
theorem dX10_ofSales_61 : decode cX10_ofSales 61 = .ok (.goto 60, 3) := by decide +kernel
theorem dX10_ofSales_64 : decode cX10_ofSales 64 = .ok (.iload_n 1, 1) := by decide +kernel
theorem dX10_ofSales_65 : decode cX10_ofSales 65 = .ok (.bipush 6, 2) := by decide +kernel
theorem dX10_ofSales_67 : decode cX10_ofSales 67 = .ok (.if_icmp .ne 11, 3) := by decide +kernel
theorem dX10_ofSales_70 : decode cX10_ofSales 70 = .ok (.aload_n 0, 1) := by decide +kernel
theorem dX10_ofSales_71 : decode cX10_ofSales 71 = .ok (.iload_n 3, 1) := by decide +kernel
theorem dX10_ofSales_72 : decode cX10_ofSales 72 = .ok (.invokevirtual 326, 3) := by decide +kernel
theorem dX10_ofSales_75 : decode cX10_ofSales 75 = .ok (.goto 46, 3) := by decide +kernel
theorem dX10_ofSales_78 : decode cX10_ofSales 78 = .ok (.iload_n 1, 1) := by decide +kernel
theorem dX10_ofSales_79 : decode cX10_ofSales 79 = .ok (.bipush 7, 2) := by decide +kernel
theorem dX10_ofSales_81 : decode cX10_ofSales 81 = .ok (.if_icmp .ne 12, 3) := by decide +kernel
theorem dX10_ofSales_84 : decode cX10_ofSales 84 = .ok (.aload_n 0, 1) := by decide +kernel
theorem dX10_ofSales_85 : decode cX10_ofSales 85 = .ok (.iload_n 3, 1) := by decide +kernel
theorem dX10_ofSales_86 : decode cX10_ofSales 86 = .ok (.iconst 3, 1) := by decide +kernel
theorem dX10_ofSales_87 : decode cX10_ofSales 87 = .ok (.invokevirtual 323, 3) := by decide +kernel
theorem dX10_ofSales_90 : decode cX10_ofSales 90 = .ok (.goto 31, 3) := by decide +kernel
theorem dX10_ofSales_93 : decode cX10_ofSales 93 = .ok (.iload_n 1, 1) := by decide +kernel
theorem dX10_ofSales_94 : decode cX10_ofSales 94 = .ok (.bipush 8, 2) := by decide +kernel
theorem dX10_ofSales_96 : decode cX10_ofSales 96 = .ok (.if_icmp .ne 12, 3) := by decide +kernel
theorem dX10_ofSales_99 : decode cX10_ofSales 99 = .ok (.aload_n 0, 1) := by decide +kernel
theorem dX10_ofSales_100 : decode cX10_ofSales 100 = .ok (.iload_n 3, 1) := by decide +kernel
theorem dX10_ofSales_101 : decode cX10_ofSales 101 = .ok (.iconst 4, 1) := by decide +kernel
theorem dX10_ofSales_102 : decode cX10_ofSales 102 = .ok (.invokevirtual 323, 3) := by decide +kernel
theorem dX10_ofSales_105 : decode cX10_ofSales 105 = .ok (.goto 16, 3) := by decide +kernel
theorem dX10_ofSales_108 : decode cX10_ofSales 108 = .ok (.aload_n 0, 1) := by decide +kernel
theorem dX10_ofSales_109 : decode cX10_ofSales 109 = .ok (.iload_n 3, 1) := by decide +kernel
theorem dX10_ofSales_110 : decode cX10_ofSales 110 = .ok (.invokevirtual 329, 3) := by decide +kernel
theorem dX10_ofSales_113 : decode cX10_ofSales 113 = .ok (.ifCond .eq 7, 3) := by decide +kernel
theorem dX10_ofSales_116 : decode cX10_ofSales 116 = .ok (.iconst 1, 1) := by decide +kernel
theorem dX10_ofSales_117 : decode cX10_ofSales 117 = .ok (.goto 4, 3) := by decide +kernel
theorem dX10_ofSales_120 : decode cX10_ofSales 120 = .ok (.iconst 0, 1) := by decide +kernel
theorem dX10_ofSales_121 : decode cX10_ofSales 121 = .ok (.iadd, 1) := by decide +kernel
theorem dX10_ofSales_122 : decode cX10_ofSales 122 = .ok (.istore_n 2, 1) := by decide +kernel
theorem dX10_ofSales_123 : decode cX10_ofSales 123 = .ok (.iinc 3 1, 3) := by decide +kernel
theorem dX10_ofSales_126 : decode cX10_ofSales 126 = .ok (.goto (-122), 3) := by decide +kernel
theorem dX10_ofSales_129 : decode cX10_ofSales 129 = .ok (.iload_n 2, 1) := by decide +kernel
theorem dX10_ofSales_130 : decode cX10_ofSales 130 = .ok (.ireturn, 1) := by decide +kernel
theorem dX10_ofAll_0 : decode cX10_ofAll 0 = .ok (.iconst 0, 1) := by decide +kernel
theorem dX10_ofAll_1 : decode cX10_ofAll 1 = .ok (.istore_n 2, 1) := by decide +kernel
theorem dX10_ofAll_2 : decode cX10_ofAll 2 = .ok (.iconst 0, 1) := by decide +kernel
theorem dX10_ofAll_3 : decode cX10_ofAll 3 = .ok (.istore_n 3, 1) := by decide +kernel
theorem dX10_ofAll_4 : decode cX10_ofAll 4 = .ok (.iload_n 3, 1) := by decide +kernel
theorem dX10_ofAll_5 : decode cX10_ofAll 5 = .ok (.aload_n 0, 1) := by decide +kernel
theorem dX10_ofAll_6 : decode cX10_ofAll 6 = .ok (.getfield 7, 3) := by decide +kernel
theorem dX10_ofAll_9 : decode cX10_ofAll 9 = .ok (.sipush 145, 3) := by decide +kernel
theorem dX10_ofAll_12 : decode cX10_ofAll 12 = .ok (.iaload, 1) := by decide +kernel
theorem dX10_ofAll_13 : decode cX10_ofAll 13 = .ok (.if_icmp .ge 173, 3) := by decide +kernel
theorem dX10_ofAll_16 : decode cX10_ofAll 16 = .ok (.aload_n 0, 1) := by decide +kernel
theorem dX10_ofAll_17 : decode cX10_ofAll 17 = .ok (.iload_n 3, 1) := by decide +kernel
theorem dX10_ofAll_18 : decode cX10_ofAll 18 = .ok (.invokevirtual 291, 3) := by decide +kernel
theorem dX10_ofAll_21 : decode cX10_ofAll 21 = .ok (.istore 4, 2) := by decide +kernel
theorem dX10_ofAll_23 : decode cX10_ofAll 23 = .ok (.aload_n 0, 1) := by decide +kernel
theorem dX10_ofAll_24 : decode cX10_ofAll 24 = .ok (.iload_n 3, 1) := by decide +kernel
theorem dX10_ofAll_25 : decode cX10_ofAll 25 = .ok (.invokevirtual 190, 3) := by decide +kernel
theorem dX10_ofAll_28 : decode cX10_ofAll 28 = .ok (.istore 5, 2) := by decide +kernel
theorem dX10_ofAll_30 : decode cX10_ofAll 30 = .ok (.iload_n 1, 1) := by decide +kernel
theorem dX10_ofAll_31 : decode cX10_ofAll 31 = .ok (.tableswitch 134 9 14 #[37, 53, 73, 93, 105, 118], 37) := by decide +kernel
theorem dX10_ofAll_68 : decode cX10_ofAll 68 = .ok (.iload_n 2, 1) := by decide +kernel
theorem dX10_ofAll_69 : decode cX10_ofAll 69 = .ok (.aload_n 0, 1) := by decide +kernel
theorem dX10_ofAll_70 : decode cX10_ofAll 70 = .ok (.iload_n 3, 1) := by decide +kernel
theorem dX10_ofAll_71 : decode cX10_ofAll 71 = .ok (.aload_n 0, 1) := by decide +kernel
theorem dX10_ofAll_72 : decode cX10_ofAll 72 = .ok (.invokevirtual 218, 3) := by decide +kernel
theorem dX10_ofAll_75 : decode cX10_ofAll 75 = .ok (.iconst (-1), 1) := by decide +kernel
theorem dX10_ofAll_76 : decode cX10_ofAll 76 = .ok (.invokevirtual 250, 3) := by decide +kernel
theorem dX10_ofAll_79 : decode cX10_ofAll 79 = .ok (.iadd, 1) := by decide +kernel
theorem dX10_ofAll_80 : decode cX10_ofAll 80 = .ok (.istore_n 2, 1) := by decide +kernel
theorem dX10_ofAll_81 : decode cX10_ofAll 81 = .ok (.goto 99, 3) := by decide +kernel
theorem dX10_ofAll_84 : decode cX10_ofAll 84 = .ok (.iload_n 2, 1) := by decide +kernel
theorem dX10_ofAll_85 : decode cX10_ofAll 85 = .ok (.iload 5, 2) := by decide +kernel
theorem dX10_ofAll_87 : decode cX10_ofAll 87 = .ok (.ifCond .eq 7, 3) := by decide +kernel
theorem dX10_ofAll_90 : decode cX10_ofAll 90 = .ok (.iconst 0, 1) := by decide +kernel
theorem dX10_ofAll_91 : decode cX10_ofAll 91 = .ok (.goto 8, 3) := by decide +kernel
theorem dX10_ofAll_94 : decode cX10_ofAll 94 = .ok (.aload_n 0, 1) := by decide +kernel
theorem dX10_ofAll_95 : decode cX10_ofAll 95 = .ok (.iload_n 3, 1) := by decide +kernel
theorem dX10_ofAll_96 : decode cX10_ofAll 96 = .ok (.invokevirtual 272, 3) := by decide +kernel
theorem dX10_ofAll_99 : decode cX10_ofAll 99 = .ok (.iadd, 1) := by decide +kernel
theorem dX10_ofAll_100 : decode cX10_ofAll 100 = .ok (.istore_n 2, 1) := by decide +kernel
theorem dX10_ofAll_101 : decode cX10_ofAll 101 = .ok (.goto 79, 3) := by decide +kernel
theorem dX10_ofAll_104 : decode cX10_ofAll 104 = .ok (.iload_n 2, 1) := by decide +kernel
theorem dX10_ofAll_105 : decode cX10_ofAll 105 = .ok (.iload 5, 2) := by decide +kernel
theorem dX10_ofAll_107 : decode cX10_ofAll 107 = .ok (.ifCond .eq 11, 3) := by decide +kernel
theorem dX10_ofAll_110 : decode cX10_ofAll 110 = .ok (.aload_n 0, 1) := by decide +kernel
theorem dX10_ofAll_111 : decode cX10_ofAll 111 = .ok (.iload_n 3, 1) := by decide +kernel
theorem dX10_ofAll_112 : decode cX10_ofAll 112 = .ok (.invokevirtual 272, 3) := by decide +kernel
theorem dX10_ofAll_115 : decode cX10_ofAll 115 = .ok (.goto 4, 3) := by decide +kernel
theorem dX10_ofAll_118 : decode cX10_ofAll 118 = .ok (.iconst 0, 1) := by decide +kernel
theorem dX10_ofAll_119 : decode cX10_ofAll 119 = .ok (.iadd, 1) := by decide +kernel
theorem dX10_ofAll_120 : decode cX10_ofAll 120 = .ok (.istore_n 2, 1) := by decide +kernel
theorem dX10_ofAll_121 : decode cX10_ofAll 121 = .ok (.goto 59, 3) := by decide +kernel
theorem dX10_ofAll_124 : decode cX10_ofAll 124 = .ok (.iload_n 2, 1) := by decide +kernel
theorem dX10_ofAll_125 : decode cX10_ofAll 125 = .ok (.aload_n 0, 1) := by decide +kernel
theorem dX10_ofAll_126 : decode cX10_ofAll 126 = .ok (.iload_n 3, 1) := by decide +kernel
theorem dX10_ofAll_127 : decode cX10_ofAll 127 = .ok (.iconst 3, 1) := by decide +kernel
theorem dX10_ofAll_128 : decode cX10_ofAll 128 = .ok (.invokevirtual 159, 3) := by decide +kernel
theorem dX10_ofAll_131 : decode cX10_ofAll 131 = .ok (.iadd, 1) := by decide +kernel
theorem dX10_ofAll_132 : decode cX10_ofAll 132 = .ok (.istore_n 2, 1) := by decide +kernel
theorem dX10_ofAll_133 : decode cX10_ofAll 133 = .ok (.goto 47, 3) := by decide +kernel
theorem dX10_ofAll_136 : decode cX10_ofAll 136 = .ok (.iload_n 2, 1) := by decide +kernel
theorem dX10_ofAll_137 : decode cX10_ofAll 137 = .ok (.iconst 0, 1) := by decide +kernel
theorem dX10_ofAll_138 : decode cX10_ofAll 138 = .ok (.iload 4, 2) := by decide +kernel
theorem dX10_ofAll_140 : decode cX10_ofAll 140 = .ok (.ineg, 1) := by decide +kernel
theorem dX10_ofAll_141 : decode cX10_ofAll 141 = .ok (.invokestatic 193, 3) := by decide +kernel
theorem dX10_ofAll_144 : decode cX10_ofAll 144 = .ok (.iadd, 1) := by decide +kernel
theorem dX10_ofAll_145 : decode cX10_ofAll 145 = .ok (.istore_n 2, 1) := by decide +kernel
theorem dX10_ofAll_146 : decode cX10_ofAll 146 = .ok (.goto 34, 3) := by decide +kernel
theorem dX10_ofAll_149 : decode cX10_ofAll 149 = .ok (.iload_n 2, 1) := by decide +kernel
theorem dX10_ofAll_150 : decode cX10_ofAll 150 = .ok (.iload 4, 2) := by decide +kernel
theorem dX10_ofAll_152 : decode cX10_ofAll 152 = .ok (.ifCond .ge 7, 3) := by decide +kernel
theorem dX10_ofAll_155 : decode cX10_ofAll 155 = .ok (.iconst 1, 1) := by decide +kernel
theorem dX10_ofAll_156 : decode cX10_ofAll 156 = .ok (.goto 4, 3) := by decide +kernel
theorem dX10_ofAll_159 : decode cX10_ofAll 159 = .ok (.iconst 0, 1) := by decide +kernel
theorem dX10_ofAll_160 : decode cX10_ofAll 160 = .ok (.iadd, 1) := by decide +kernel
theorem dX10_ofAll_161 : decode cX10_ofAll 161 = .ok (.istore_n 2, 1) := by decide +kernel
theorem dX10_ofAll_162 : decode cX10_ofAll 162 = .ok (.goto 18, 3) := by decide +kernel
theorem dX10_ofAll_165 : decode cX10_ofAll 165 = .ok (.iload_n 2, 1) := by decide +kernel
theorem dX10_ofAll_166 : decode cX10_ofAll 166 = .ok (.iload 5, 2) := by decide +kernel
theorem dX10_ofAll_168 : decode cX10_ofAll 168 = .ok (.ifCond .eq 9, 3) := by decide +kernel
theorem dX10_ofAll_171 : decode cX10_ofAll 171 = .ok (.iconst 1, 1) := by decide +kernel
theorem dX10_ofAll_172 : decode cX10_ofAll 172 = .ok (.iload_n 3, 1) := by decide +kernel
theorem dX10_ofAll_173 : decode cX10_ofAll 173 = .ok (.ishl, 1) := by decide +kernel
theorem dX10_ofAll_174 : decode cX10_ofAll 174 = .ok (.goto 4, 3) := by decide +kernel
theorem dX10_ofAll_177 : decode cX10_ofAll 177 = .ok (.iconst 0, 1) := by decide +kernel
theorem dX10_ofAll_178 : decode cX10_ofAll 178 = .ok (.ior, 1) := by decide +kernel
theorem dX10_ofAll_179 : decode cX10_ofAll 179 = .ok (.istore_n 2, 1) := by decide +kernel
theorem dX10_ofAll_180 : decode cX10_ofAll 180 = .ok (.iinc 3 1, 3) := by decide +kernel
theorem dX10_ofAll_183 : decode cX10_ofAll 183 = .ok (.goto (-179), 3) := by decide +kernel
theorem dX10_ofAll_186 : decode cX10_ofAll 186 = .ok (.iload_n 2, 1) := by decide +kernel
theorem dX10_ofAll_187 : decode cX10_ofAll 187 = .ok (.ireturn, 1) := by decide +kernel
theorem dX10_activeNow_0 : decode cX10_activeNow 0 = .ok (.iconst 0, 1) := by decide +kernel
theorem dX10_activeNow_1 : decode cX10_activeNow 1 = .ok (.istore_n 1, 1) := by decide +kernel
theorem dX10_activeNow_2 : decode cX10_activeNow 2 = .ok (.iconst 0, 1) := by decide +kernel
theorem dX10_activeNow_3 : decode cX10_activeNow 3 = .ok (.istore_n 2, 1) := by decide +kernel
theorem dX10_activeNow_4 : decode cX10_activeNow 4 = .ok (.iload_n 2, 1) := by decide +kernel
theorem dX10_activeNow_5 : decode cX10_activeNow 5 = .ok (.aload_n 0, 1) := by decide +kernel
theorem dX10_activeNow_6 : decode cX10_activeNow 6 = .ok (.getfield 174, 3) := by decide +kernel
theorem dX10_activeNow_9 : decode cX10_activeNow 9 = .ok (.if_icmp .ge 31, 3) := by decide +kernel
theorem dX10_activeNow_12 : decode cX10_activeNow 12 = .ok (.iload_n 1, 1) := by decide +kernel
theorem dX10_activeNow_13 : decode cX10_activeNow 13 = .ok (.aload_n 0, 1) := by decide +kernel
theorem dX10_activeNow_14 : decode cX10_activeNow 14 = .ok (.iload_n 2, 1) := by decide +kernel
theorem dX10_activeNow_15 : decode cX10_activeNow 15 = .ok (.aload_n 0, 1) := by decide +kernel
theorem dX10_activeNow_16 : decode cX10_activeNow 16 = .ok (.invokevirtual 218, 3) := by decide +kernel
theorem dX10_activeNow_19 : decode cX10_activeNow 19 = .ok (.invokevirtual 206, 3) := by decide +kernel
theorem dX10_activeNow_22 : decode cX10_activeNow 22 = .ok (.ifCond .eq 9, 3) := by decide +kernel
theorem dX10_activeNow_25 : decode cX10_activeNow 25 = .ok (.iconst 1, 1) := by decide +kernel
theorem dX10_activeNow_26 : decode cX10_activeNow 26 = .ok (.iload_n 2, 1) := by decide +kernel
theorem dX10_activeNow_27 : decode cX10_activeNow 27 = .ok (.ishl, 1) := by decide +kernel
theorem dX10_activeNow_28 : decode cX10_activeNow 28 = .ok (.goto 4, 3) := by decide +kernel
theorem dX10_activeNow_31 : decode cX10_activeNow 31 = .ok (.iconst 0, 1) := by decide +kernel
theorem dX10_activeNow_32 : decode cX10_activeNow 32 = .ok (.ior, 1) := by decide +kernel
theorem dX10_activeNow_33 : decode cX10_activeNow 33 = .ok (.istore_n 1, 1) := by decide +kernel
theorem dX10_activeNow_34 : decode cX10_activeNow 34 = .ok (.iinc 2 1, 3) := by decide +kernel
theorem dX10_activeNow_37 : decode cX10_activeNow 37 = .ok (.goto (-33), 3) := by decide +kernel
theorem dX10_activeNow_40 : decode cX10_activeNow 40 = .ok (.iload_n 1, 1) := by decide +kernel
theorem dX10_activeNow_41 : decode cX10_activeNow 41 = .ok (.ireturn, 1) := by decide +kernel
theorem dX10_greatest_0 : decode cX10_greatest 0 = .ok (.iconst 0, 1) := by decide +kernel
theorem dX10_greatest_1 : decode cX10_greatest 1 = .ok (.istore_n 2, 1) := by decide +kernel
theorem dX10_greatest_2 : decode cX10_greatest 2 = .ok (.iconst 1, 1) := by decide +kernel
theorem dX10_greatest_3 : decode cX10_greatest 3 = .ok (.istore_n 3, 1) := by decide +kernel
theorem dX10_greatest_4 : decode cX10_greatest 4 = .ok (.iload_n 3, 1) := by decide +kernel
theorem dX10_greatest_5 : decode cX10_greatest 5 = .ok (.aload_n 0, 1) := by decide +kernel
theorem dX10_greatest_6 : decode cX10_greatest 6 = .ok (.getfield 174, 3) := by decide +kernel
theorem dX10_greatest_9 : decode cX10_greatest 9 = .ok (.if_icmp .ge 28, 3) := by decide +kernel
theorem dX10_greatest_12 : decode cX10_greatest 12 = .ok (.aload_n 0, 1) := by decide +kernel
theorem dX10_greatest_13 : decode cX10_greatest 13 = .ok (.iload_n 3, 1) := by decide +kernel
theorem dX10_greatest_14 : decode cX10_greatest 14 = .ok (.invokevirtual 221, 3) := by decide +kernel
theorem dX10_greatest_17 : decode cX10_greatest 17 = .ok (.aload_n 0, 1) := by decide +kernel
theorem dX10_greatest_18 : decode cX10_greatest 18 = .ok (.iload_n 2, 1) := by decide +kernel
theorem dX10_greatest_19 : decode cX10_greatest 19 = .ok (.invokevirtual 221, 3) := by decide +kernel
theorem dX10_greatest_22 : decode cX10_greatest 22 = .ok (.if_icmp .le 7, 3) := by decide +kernel
theorem dX10_greatest_25 : decode cX10_greatest 25 = .ok (.iload_n 3, 1) := by decide +kernel
theorem dX10_greatest_26 : decode cX10_greatest 26 = .ok (.goto 4, 3) := by decide +kernel
theorem dX10_greatest_29 : decode cX10_greatest 29 = .ok (.iload_n 2, 1) := by decide +kernel
theorem dX10_greatest_30 : decode cX10_greatest 30 = .ok (.istore_n 2, 1) := by decide +kernel
theorem dX10_greatest_31 : decode cX10_greatest 31 = .ok (.iinc 3 1, 3) := by decide +kernel
theorem dX10_greatest_34 : decode cX10_greatest 34 = .ok (.goto (-30), 3) := by decide +kernel
theorem dX10_greatest_37 : decode cX10_greatest 37 = .ok (.iload_n 1, 1) := by decide +kernel
theorem dX10_greatest_38 : decode cX10_greatest 38 = .ok (.ifCond .eq 7, 3) := by decide +kernel
theorem dX10_greatest_41 : decode cX10_greatest 41 = .ok (.iload_n 2, 1) := by decide +kernel
theorem dX10_greatest_42 : decode cX10_greatest 42 = .ok (.goto 8, 3) := by decide +kernel
theorem dX10_greatest_45 : decode cX10_greatest 45 = .ok (.aload_n 0, 1) := by decide +kernel
theorem dX10_greatest_46 : decode cX10_greatest 46 = .ok (.iload_n 2, 1) := by decide +kernel
theorem dX10_greatest_47 : decode cX10_greatest 47 = .ok (.invokevirtual 221, 3) := by decide +kernel
theorem dX10_greatest_50 : decode cX10_greatest 50 = .ok (.ireturn, 1) := by decide +kernel
theorem dX10_books_0 : decode cX10_books 0 = .ok (.aload_n 0, 1) := by decide +kernel
theorem dX10_books_1 : decode cX10_books 1 = .ok (.iconst 0, 1) := by decide +kernel
theorem dX10_books_2 : decode cX10_books 2 = .ok (.putfield 52, 3) := by decide +kernel
theorem dX10_books_5 : decode cX10_books 5 = .ok (.iload_n 1, 1) := by decide +kernel
theorem dX10_books_6 : decode cX10_books 6 = .ok (.iconst 0, 1) := by decide +kernel
theorem dX10_books_7 : decode cX10_books 7 = .ok (.iconst 2, 1) := by decide +kernel
theorem dX10_books_8 : decode cX10_books 8 = .ok (.invokestatic 59, 3) := by decide +kernel
theorem dX10_books_11 : decode cX10_books 11 = .ok (.ifCond .eq 14, 3) := by decide +kernel
theorem dX10_books_14 : decode cX10_books 14 = .ok (.aload_n 0, 1) := by decide +kernel
theorem dX10_books_15 : decode cX10_books 15 = .ok (.getfield 7, 3) := by decide +kernel
theorem dX10_books_18 : decode cX10_books 18 = .ok (.sipush 144, 3) := by decide +kernel
theorem dX10_books_21 : decode cX10_books 21 = .ok (.iload_n 1, 1) := by decide +kernel
theorem dX10_books_22 : decode cX10_books 22 = .ok (.iadd, 1) := by decide +kernel
theorem dX10_books_23 : decode cX10_books 23 = .ok (.iaload, 1) := by decide +kernel
theorem dX10_books_24 : decode cX10_books 24 = .ok (.ireturn, 1) := by decide +kernel
theorem dX10_books_25 : decode cX10_books 25 = .ok (.iload_n 1, 1) := by decide +kernel
theorem dX10_books_26 : decode cX10_books 26 = .ok (.iconst 3, 1) := by decide +kernel
theorem dX10_books_27 : decode cX10_books 27 = .ok (.bipush 8, 2) := by decide +kernel
theorem dX10_books_29 : decode cX10_books 29 = .ok (.invokestatic 59, 3) := by decide +kernel
theorem dX10_books_32 : decode cX10_books 32 = .ok (.ifCond .ne 9, 3) := by decide +kernel
theorem dX10_books_35 : decode cX10_books 35 = .ok (.iload_n 1, 1) := by decide +kernel
theorem dX10_books_36 : decode cX10_books 36 = .ok (.bipush 17, 2) := by decide +kernel
theorem dX10_books_38 : decode cX10_books 38 = .ok (.if_icmp .ne 9, 3) := by decide +kernel
theorem dX10_books_41 : decode cX10_books 41 = .ok (.aload_n 0, 1) := by decide +kernel
theorem dX10_books_42 : decode cX10_books 42 = .ok (.iload_n 1, 1) := by decide +kernel
theorem dX10_books_43 : decode cX10_books 43 = .ok (.invokevirtual 347, 3) := by decide +kernel
theorem dX10_books_46 : decode cX10_books 46 = .ok (.ireturn, 1) := by decide +kernel
theorem dX10_books_47 : decode cX10_books 47 = .ok (.iload_n 1, 1) := by decide +kernel
theorem dX10_books_48 : decode cX10_books 48 = .ok (.bipush 9, 2) := by decide +kernel
theorem dX10_books_50 : decode cX10_books 50 = .ok (.bipush 15, 2) := by decide +kernel
theorem dX10_books_52 : decode cX10_books 52 = .ok (.invokestatic 59, 3) := by decide +kernel
theorem dX10_books_55 : decode cX10_books 55 = .ok (.ifCond .eq 9, 3) := by decide +kernel
theorem dX10_books_58 : decode cX10_books 58 = .ok (.aload_n 0, 1) := by decide +kernel
theorem dX10_books_59 : decode cX10_books 59 = .ok (.iload_n 1, 1) := by decide +kernel
theorem dX10_books_60 : decode cX10_books 60 = .ok (.invokevirtual 350, 3) := by decide +kernel
theorem dX10_books_63 : decode cX10_books 63 = .ok (.ireturn, 1) := by decide +kernel
theorem dX10_books_64 : decode cX10_books 64 = .ok (.aload_n 0, 1) := by decide +kernel
theorem dX10_books_65 : decode cX10_books 65 = .ok (.invokevirtual 282, 3) := by decide +kernel
theorem dX10_books_68 : decode cX10_books 68 = .ok (.aload_n 0, 1) := by decide +kernel
theorem dX10_books_69 : decode cX10_books 69 = .ok (.aload_n 0, 1) := by decide +kernel
theorem dX10_books_70 : decode cX10_books 70 = .ok (.invokevirtual 218, 3) := by decide +kernel
theorem dX10_books_73 : decode cX10_books 73 = .ok (.invokevirtual 256, 3) := by decide +kernel
theorem dX10_books_76 : decode cX10_books 76 = .ok (.iload_n 1, 1) := by decide +kernel
theorem dX10_books_77 : decode cX10_books 77 = .ok (.bipush 16, 2) := by decide +kernel
theorem dX10_books_79 : decode cX10_books 79 = .ok (.if_icmp .ne 10, 3) := by decide +kernel
theorem dX10_books_82 : decode cX10_books 82 = .ok (.aload_n 0, 1) := by decide +kernel
theorem dX10_books_83 : decode cX10_books 83 = .ok (.invokevirtual 353, 3) := by decide +kernel
theorem dX10_books_86 : decode cX10_books 86 = .ok (.goto 35, 3) := by decide +kernel
theorem dX10_books_89 : decode cX10_books 89 = .ok (.iload_n 1, 1) := by decide +kernel
theorem dX10_books_90 : decode cX10_books 90 = .ok (.bipush 18, 2) := by decide +kernel
theorem dX10_books_92 : decode cX10_books 92 = .ok (.if_icmp .eq 9, 3) := by decide +kernel
theorem dX10_books_95 : decode cX10_books 95 = .ok (.iload_n 1, 1) := by decide +kernel
theorem dX10_books_96 : decode cX10_books 96 = .ok (.bipush 19, 2) := by decide +kernel
theorem dX10_books_98 : decode cX10_books 98 = .ok (.if_icmp .ne 21, 3) := by decide +kernel
theorem dX10_books_101 : decode cX10_books 101 = .ok (.aload_n 0, 1) := by decide +kernel
theorem dX10_books_102 : decode cX10_books 102 = .ok (.iload_n 1, 1) := by decide +kernel
theorem dX10_books_103 : decode cX10_books 103 = .ok (.bipush 19, 2) := by decide +kernel
theorem dX10_books_105 : decode cX10_books 105 = .ok (.if_icmp .ne 7, 3) := by decide +kernel
theorem dX10_books_108 : decode cX10_books 108 = .ok (.iconst 1, 1) := by decide +kernel
theorem dX10_books_109 : decode cX10_books 109 = .ok (.goto 4, 3) := by decide +kernel
theorem dX10_books_112 : decode cX10_books 112 = .ok (.iconst 0, 1) := by decide +kernel
theorem dX10_books_113 : decode cX10_books 113 = .ok (.invokevirtual 356, 3) := by decide +kernel
theorem dX10_books_116 : decode cX10_books 116 = .ok (.goto 5, 3) := by decide +kernel
theorem dX10_books_119 : decode cX10_books 119 = .ok (.bipush (-2), 2) := by decide +kernel
theorem dX10_books_121 : decode cX10_books 121 = .ok (.ireturn, 1) := by decide +kernel
theorem dX0_copyFrom_0 : decode cX0_copyFrom 0 = .ok (.aload_n 0, 1) := by decide +kernel
theorem dX0_copyFrom_1 : decode cX0_copyFrom 1 = .ok (.aload_n 1, 1) := by decide +kernel
theorem dX0_copyFrom_2 : decode cX0_copyFrom 2 = .ok (.getfield 9, 3) := by decide +kernel
theorem dX0_copyFrom_5 : decode cX0_copyFrom 5 = .ok (.putfield 9, 3) := by decide +kernel
theorem dX0_copyFrom_8 : decode cX0_copyFrom 8 = .ok (.aload_n 1, 1) := by decide +kernel
theorem dX0_copyFrom_9 : decode cX0_copyFrom 9 = .ok (.getfield 15, 3) := by decide +kernel
theorem dX0_copyFrom_12 : decode cX0_copyFrom 12 = .ok (.iconst 0, 1) := by decide +kernel
theorem dX0_copyFrom_13 : decode cX0_copyFrom 13 = .ok (.aload_n 0, 1) := by decide +kernel
theorem dX0_copyFrom_14 : decode cX0_copyFrom 14 = .ok (.getfield 15, 3) := by decide +kernel
theorem dX0_copyFrom_17 : decode cX0_copyFrom 17 = .ok (.iconst 0, 1) := by decide +kernel
theorem dX0_copyFrom_18 : decode cX0_copyFrom 18 = .ok (.aload_n 0, 1) := by decide +kernel
theorem dX0_copyFrom_19 : decode cX0_copyFrom 19 = .ok (.getfield 9, 3) := by decide +kernel
theorem dX0_copyFrom_22 : decode cX0_copyFrom 22 = .ok (.invokestatic 44, 3) := by decide +kernel
theorem dX0_copyFrom_25 : decode cX0_copyFrom 25 = .ok (.aload_n 1, 1) := by decide +kernel
theorem dX0_copyFrom_26 : decode cX0_copyFrom 26 = .ok (.getfield 19, 3) := by decide +kernel
theorem dX0_copyFrom_29 : decode cX0_copyFrom 29 = .ok (.iconst 0, 1) := by decide +kernel
theorem dX0_copyFrom_30 : decode cX0_copyFrom 30 = .ok (.aload_n 0, 1) := by decide +kernel
theorem dX0_copyFrom_31 : decode cX0_copyFrom 31 = .ok (.getfield 19, 3) := by decide +kernel
theorem dX0_copyFrom_34 : decode cX0_copyFrom 34 = .ok (.iconst 0, 1) := by decide +kernel
theorem dX0_copyFrom_35 : decode cX0_copyFrom 35 = .ok (.aload_n 0, 1) := by decide +kernel
theorem dX0_copyFrom_36 : decode cX0_copyFrom 36 = .ok (.getfield 9, 3) := by decide +kernel
theorem dX0_copyFrom_39 : decode cX0_copyFrom 39 = .ok (.invokestatic 44, 3) := by decide +kernel
theorem dX0_copyFrom_42 : decode cX0_copyFrom 42 = .ok (.aload_n 1, 1) := by decide +kernel
theorem dX0_copyFrom_43 : decode cX0_copyFrom 43 = .ok (.getfield 22, 3) := by decide +kernel
theorem dX0_copyFrom_46 : decode cX0_copyFrom 46 = .ok (.iconst 0, 1) := by decide +kernel
theorem dX0_copyFrom_47 : decode cX0_copyFrom 47 = .ok (.aload_n 0, 1) := by decide +kernel
theorem dX0_copyFrom_48 : decode cX0_copyFrom 48 = .ok (.getfield 22, 3) := by decide +kernel
theorem dX0_copyFrom_51 : decode cX0_copyFrom 51 = .ok (.iconst 0, 1) := by decide +kernel
theorem dX0_copyFrom_52 : decode cX0_copyFrom 52 = .ok (.aload_n 0, 1) := by decide +kernel
theorem dX0_copyFrom_53 : decode cX0_copyFrom 53 = .ok (.getfield 9, 3) := by decide +kernel
theorem dX0_copyFrom_56 : decode cX0_copyFrom 56 = .ok (.invokestatic 44, 3) := by decide +kernel
theorem dX0_copyFrom_59 : decode cX0_copyFrom 59 = .ok (.aload_n 1, 1) := by decide +kernel
theorem dX0_copyFrom_60 : decode cX0_copyFrom 60 = .ok (.getfield 25, 3) := by decide +kernel
theorem dX0_copyFrom_63 : decode cX0_copyFrom 63 = .ok (.iconst 0, 1) := by decide +kernel
theorem dX0_copyFrom_64 : decode cX0_copyFrom 64 = .ok (.aload_n 0, 1) := by decide +kernel
theorem dX0_copyFrom_65 : decode cX0_copyFrom 65 = .ok (.getfield 25, 3) := by decide +kernel
theorem dX0_copyFrom_68 : decode cX0_copyFrom 68 = .ok (.iconst 0, 1) := by decide +kernel
theorem dX0_copyFrom_69 : decode cX0_copyFrom 69 = .ok (.aload_n 0, 1) := by decide +kernel
theorem dX0_copyFrom_70 : decode cX0_copyFrom 70 = .ok (.getfield 9, 3) := by decide +kernel
theorem dX0_copyFrom_73 : decode cX0_copyFrom 73 = .ok (.invokestatic 44, 3) := by decide +kernel
theorem dX0_copyFrom_76 : decode cX0_copyFrom 76 = .ok (.aload_n 1, 1) := by decide +kernel
theorem dX0_copyFrom_77 : decode cX0_copyFrom 77 = .ok (.getfield 28, 3) := by decide +kernel
theorem dX0_copyFrom_80 : decode cX0_copyFrom 80 = .ok (.iconst 0, 1) := by decide +kernel
theorem dX0_copyFrom_81 : decode cX0_copyFrom 81 = .ok (.aload_n 0, 1) := by decide +kernel
theorem dX0_copyFrom_82 : decode cX0_copyFrom 82 = .ok (.getfield 28, 3) := by decide +kernel
theorem dX0_copyFrom_85 : decode cX0_copyFrom 85 = .ok (.iconst 0, 1) := by decide +kernel
theorem dX0_copyFrom_86 : decode cX0_copyFrom 86 = .ok (.aload_n 0, 1) := by decide +kernel
theorem dX0_copyFrom_87 : decode cX0_copyFrom 87 = .ok (.getfield 9, 3) := by decide +kernel
theorem dX0_copyFrom_90 : decode cX0_copyFrom 90 = .ok (.bipush 12, 2) := by decide +kernel
theorem dX0_copyFrom_92 : decode cX0_copyFrom 92 = .ok (.imul, 1) := by decide +kernel
theorem dX0_copyFrom_93 : decode cX0_copyFrom 93 = .ok (.invokestatic 44, 3) := by decide +kernel
theorem dX0_copyFrom_96 : decode cX0_copyFrom 96 = .ok (.aload_n 1, 1) := by decide +kernel
theorem dX0_copyFrom_97 : decode cX0_copyFrom 97 = .ok (.getfield 31, 3) := by decide +kernel
theorem dX0_copyFrom_100 : decode cX0_copyFrom 100 = .ok (.iconst 0, 1) := by decide +kernel
theorem dX0_copyFrom_101 : decode cX0_copyFrom 101 = .ok (.aload_n 0, 1) := by decide +kernel
theorem dX0_copyFrom_102 : decode cX0_copyFrom 102 = .ok (.getfield 31, 3) := by decide +kernel
theorem dX0_copyFrom_105 : decode cX0_copyFrom 105 = .ok (.iconst 0, 1) := by decide +kernel
theorem dX0_copyFrom_106 : decode cX0_copyFrom 106 = .ok (.aload_n 0, 1) := by decide +kernel
theorem dX0_copyFrom_107 : decode cX0_copyFrom 107 = .ok (.getfield 9, 3) := by decide +kernel
theorem dX0_copyFrom_110 : decode cX0_copyFrom 110 = .ok (.bipush 12, 2) := by decide +kernel
theorem dX0_copyFrom_112 : decode cX0_copyFrom 112 = .ok (.imul, 1) := by decide +kernel
theorem dX0_copyFrom_113 : decode cX0_copyFrom 113 = .ok (.invokestatic 44, 3) := by decide +kernel
theorem dX0_copyFrom_116 : decode cX0_copyFrom 116 = .ok (.aload_n 1, 1) := by decide +kernel
theorem dX0_copyFrom_117 : decode cX0_copyFrom 117 = .ok (.getfield 34, 3) := by decide +kernel
theorem dX0_copyFrom_120 : decode cX0_copyFrom 120 = .ok (.iconst 0, 1) := by decide +kernel
theorem dX0_copyFrom_121 : decode cX0_copyFrom 121 = .ok (.aload_n 0, 1) := by decide +kernel
theorem dX0_copyFrom_122 : decode cX0_copyFrom 122 = .ok (.getfield 34, 3) := by decide +kernel
theorem dX0_copyFrom_125 : decode cX0_copyFrom 125 = .ok (.iconst 0, 1) := by decide +kernel
theorem dX0_copyFrom_126 : decode cX0_copyFrom 126 = .ok (.aload_n 0, 1) := by decide +kernel
theorem dX0_copyFrom_127 : decode cX0_copyFrom 127 = .ok (.getfield 9, 3) := by decide +kernel
theorem dX0_copyFrom_130 : decode cX0_copyFrom 130 = .ok (.invokestatic 44, 3) := by decide +kernel
theorem dX0_copyFrom_133 : decode cX0_copyFrom 133 = .ok (.return_, 1) := by decide +kernel
theorem dX5_copyFrom_0 : decode cX5_copyFrom 0 = .ok (.aload_n 0, 1) := by decide +kernel
theorem dX5_copyFrom_1 : decode cX5_copyFrom 1 = .ok (.aload_n 1, 1) := by decide +kernel
theorem dX5_copyFrom_2 : decode cX5_copyFrom 2 = .ok (.getfield 9, 3) := by decide +kernel
theorem dX5_copyFrom_5 : decode cX5_copyFrom 5 = .ok (.putfield 9, 3) := by decide +kernel
theorem dX5_copyFrom_8 : decode cX5_copyFrom 8 = .ok (.aload_n 1, 1) := by decide +kernel
theorem dX5_copyFrom_9 : decode cX5_copyFrom 9 = .ok (.getfield 15, 3) := by decide +kernel
theorem dX5_copyFrom_12 : decode cX5_copyFrom 12 = .ok (.iconst 0, 1) := by decide +kernel
theorem dX5_copyFrom_13 : decode cX5_copyFrom 13 = .ok (.aload_n 0, 1) := by decide +kernel
theorem dX5_copyFrom_14 : decode cX5_copyFrom 14 = .ok (.getfield 15, 3) := by decide +kernel
theorem dX5_copyFrom_17 : decode cX5_copyFrom 17 = .ok (.iconst 0, 1) := by decide +kernel
theorem dX5_copyFrom_18 : decode cX5_copyFrom 18 = .ok (.aload_n 0, 1) := by decide +kernel
theorem dX5_copyFrom_19 : decode cX5_copyFrom 19 = .ok (.getfield 9, 3) := by decide +kernel
theorem dX5_copyFrom_22 : decode cX5_copyFrom 22 = .ok (.invokestatic 42, 3) := by decide +kernel
theorem dX5_copyFrom_25 : decode cX5_copyFrom 25 = .ok (.aload_n 1, 1) := by decide +kernel
theorem dX5_copyFrom_26 : decode cX5_copyFrom 26 = .ok (.getfield 19, 3) := by decide +kernel
theorem dX5_copyFrom_29 : decode cX5_copyFrom 29 = .ok (.iconst 0, 1) := by decide +kernel
theorem dX5_copyFrom_30 : decode cX5_copyFrom 30 = .ok (.aload_n 0, 1) := by decide +kernel
theorem dX5_copyFrom_31 : decode cX5_copyFrom 31 = .ok (.getfield 19, 3) := by decide +kernel
theorem dX5_copyFrom_34 : decode cX5_copyFrom 34 = .ok (.iconst 0, 1) := by decide +kernel
theorem dX5_copyFrom_35 : decode cX5_copyFrom 35 = .ok (.aload_n 0, 1) := by decide +kernel
theorem dX5_copyFrom_36 : decode cX5_copyFrom 36 = .ok (.getfield 9, 3) := by decide +kernel
theorem dX5_copyFrom_39 : decode cX5_copyFrom 39 = .ok (.invokestatic 42, 3) := by decide +kernel
theorem dX5_copyFrom_42 : decode cX5_copyFrom 42 = .ok (.aload_n 1, 1) := by decide +kernel
theorem dX5_copyFrom_43 : decode cX5_copyFrom 43 = .ok (.getfield 22, 3) := by decide +kernel
theorem dX5_copyFrom_46 : decode cX5_copyFrom 46 = .ok (.iconst 0, 1) := by decide +kernel
theorem dX5_copyFrom_47 : decode cX5_copyFrom 47 = .ok (.aload_n 0, 1) := by decide +kernel
theorem dX5_copyFrom_48 : decode cX5_copyFrom 48 = .ok (.getfield 22, 3) := by decide +kernel
theorem dX5_copyFrom_51 : decode cX5_copyFrom 51 = .ok (.iconst 0, 1) := by decide +kernel
theorem dX5_copyFrom_52 : decode cX5_copyFrom 52 = .ok (.aload_n 0, 1) := by decide +kernel
theorem dX5_copyFrom_53 : decode cX5_copyFrom 53 = .ok (.getfield 9, 3) := by decide +kernel
theorem dX5_copyFrom_56 : decode cX5_copyFrom 56 = .ok (.invokestatic 42, 3) := by decide +kernel
theorem dX5_copyFrom_59 : decode cX5_copyFrom 59 = .ok (.aload_n 1, 1) := by decide +kernel
theorem dX5_copyFrom_60 : decode cX5_copyFrom 60 = .ok (.getfield 25, 3) := by decide +kernel
theorem dX5_copyFrom_63 : decode cX5_copyFrom 63 = .ok (.iconst 0, 1) := by decide +kernel
theorem dX5_copyFrom_64 : decode cX5_copyFrom 64 = .ok (.aload_n 0, 1) := by decide +kernel
theorem dX5_copyFrom_65 : decode cX5_copyFrom 65 = .ok (.getfield 25, 3) := by decide +kernel
theorem dX5_copyFrom_68 : decode cX5_copyFrom 68 = .ok (.iconst 0, 1) := by decide +kernel
theorem dX5_copyFrom_69 : decode cX5_copyFrom 69 = .ok (.aload_n 0, 1) := by decide +kernel
theorem dX5_copyFrom_70 : decode cX5_copyFrom 70 = .ok (.getfield 9, 3) := by decide +kernel
theorem dX5_copyFrom_73 : decode cX5_copyFrom 73 = .ok (.invokestatic 42, 3) := by decide +kernel
theorem dX5_copyFrom_76 : decode cX5_copyFrom 76 = .ok (.aload_n 1, 1) := by decide +kernel
theorem dX5_copyFrom_77 : decode cX5_copyFrom 77 = .ok (.getfield 28, 3) := by decide +kernel
theorem dX5_copyFrom_80 : decode cX5_copyFrom 80 = .ok (.iconst 0, 1) := by decide +kernel
theorem dX5_copyFrom_81 : decode cX5_copyFrom 81 = .ok (.aload_n 0, 1) := by decide +kernel
theorem dX5_copyFrom_82 : decode cX5_copyFrom 82 = .ok (.getfield 28, 3) := by decide +kernel
theorem dX5_copyFrom_85 : decode cX5_copyFrom 85 = .ok (.iconst 0, 1) := by decide +kernel
theorem dX5_copyFrom_86 : decode cX5_copyFrom 86 = .ok (.aload_n 0, 1) := by decide +kernel
theorem dX5_copyFrom_87 : decode cX5_copyFrom 87 = .ok (.getfield 9, 3) := by decide +kernel
theorem dX5_copyFrom_90 : decode cX5_copyFrom 90 = .ok (.invokestatic 42, 3) := by decide +kernel
theorem dX5_copyFrom_93 : decode cX5_copyFrom 93 = .ok (.aload_n 1, 1) := by decide +kernel
theorem dX5_copyFrom_94 : decode cX5_copyFrom 94 = .ok (.getfield 31, 3) := by decide +kernel
theorem dX5_copyFrom_97 : decode cX5_copyFrom 97 = .ok (.iconst 0, 1) := by decide +kernel
theorem dX5_copyFrom_98 : decode cX5_copyFrom 98 = .ok (.aload_n 0, 1) := by decide +kernel
theorem dX5_copyFrom_99 : decode cX5_copyFrom 99 = .ok (.getfield 31, 3) := by decide +kernel
theorem dX5_copyFrom_102 : decode cX5_copyFrom 102 = .ok (.iconst 0, 1) := by decide +kernel
theorem dX5_copyFrom_103 : decode cX5_copyFrom 103 = .ok (.aload_n 0, 1) := by decide +kernel
theorem dX5_copyFrom_104 : decode cX5_copyFrom 104 = .ok (.getfield 9, 3) := by decide +kernel
theorem dX5_copyFrom_107 : decode cX5_copyFrom 107 = .ok (.invokestatic 42, 3) := by decide +kernel
theorem dX5_copyFrom_110 : decode cX5_copyFrom 110 = .ok (.aload_n 1, 1) := by decide +kernel
theorem dX5_copyFrom_111 : decode cX5_copyFrom 111 = .ok (.getfield 34, 3) := by decide +kernel
theorem dX5_copyFrom_114 : decode cX5_copyFrom 114 = .ok (.iconst 0, 1) := by decide +kernel
theorem dX5_copyFrom_115 : decode cX5_copyFrom 115 = .ok (.aload_n 0, 1) := by decide +kernel
theorem dX5_copyFrom_116 : decode cX5_copyFrom 116 = .ok (.getfield 34, 3) := by decide +kernel
theorem dX5_copyFrom_119 : decode cX5_copyFrom 119 = .ok (.iconst 0, 1) := by decide +kernel
theorem dX5_copyFrom_120 : decode cX5_copyFrom 120 = .ok (.aload_n 0, 1) := by decide +kernel
theorem dX5_copyFrom_121 : decode cX5_copyFrom 121 = .ok (.getfield 9, 3) := by decide +kernel
theorem dX5_copyFrom_124 : decode cX5_copyFrom 124 = .ok (.iconst 5, 1) := by decide +kernel
theorem dX5_copyFrom_125 : decode cX5_copyFrom 125 = .ok (.imul, 1) := by decide +kernel
theorem dX5_copyFrom_126 : decode cX5_copyFrom 126 = .ok (.bipush 7, 2) := by decide +kernel
theorem dX5_copyFrom_128 : decode cX5_copyFrom 128 = .ok (.imul, 1) := by decide +kernel
theorem dX5_copyFrom_129 : decode cX5_copyFrom 129 = .ok (.invokestatic 42, 3) := by decide +kernel
theorem dX5_copyFrom_132 : decode cX5_copyFrom 132 = .ok (.return_, 1) := by decide +kernel
theorem dX1_copyFrom_0 : decode cX1_copyFrom 0 = .ok (.aload_n 1, 1) := by decide +kernel
theorem dX1_copyFrom_1 : decode cX1_copyFrom 1 = .ok (.getfield 9, 3) := by decide +kernel
theorem dX1_copyFrom_4 : decode cX1_copyFrom 4 = .ok (.iconst 0, 1) := by decide +kernel
theorem dX1_copyFrom_5 : decode cX1_copyFrom 5 = .ok (.aload_n 0, 1) := by decide +kernel
theorem dX1_copyFrom_6 : decode cX1_copyFrom 6 = .ok (.getfield 9, 3) := by decide +kernel
theorem dX1_copyFrom_9 : decode cX1_copyFrom 9 = .ok (.iconst 0, 1) := by decide +kernel
theorem dX1_copyFrom_10 : decode cX1_copyFrom 10 = .ok (.bipush 10, 2) := by decide +kernel
theorem dX1_copyFrom_12 : decode cX1_copyFrom 12 = .ok (.invokestatic 27, 3) := by decide +kernel
theorem dX1_copyFrom_15 : decode cX1_copyFrom 15 = .ok (.aload_n 1, 1) := by decide +kernel
theorem dX1_copyFrom_16 : decode cX1_copyFrom 16 = .ok (.getfield 15, 3) := by decide +kernel
theorem dX1_copyFrom_19 : decode cX1_copyFrom 19 = .ok (.iconst 0, 1) := by decide +kernel
theorem dX1_copyFrom_20 : decode cX1_copyFrom 20 = .ok (.aload_n 0, 1) := by decide +kernel
theorem dX1_copyFrom_21 : decode cX1_copyFrom 21 = .ok (.getfield 15, 3) := by decide +kernel
theorem dX1_copyFrom_24 : decode cX1_copyFrom 24 = .ok (.iconst 0, 1) := by decide +kernel
theorem dX1_copyFrom_25 : decode cX1_copyFrom 25 = .ok (.bipush 10, 2) := by decide +kernel
theorem dX1_copyFrom_27 : decode cX1_copyFrom 27 = .ok (.invokestatic 27, 3) := by decide +kernel
theorem dX1_copyFrom_30 : decode cX1_copyFrom 30 = .ok (.aload_n 1, 1) := by decide +kernel
theorem dX1_copyFrom_31 : decode cX1_copyFrom 31 = .ok (.getfield 18, 3) := by decide +kernel
theorem dX1_copyFrom_34 : decode cX1_copyFrom 34 = .ok (.iconst 0, 1) := by decide +kernel
theorem dX1_copyFrom_35 : decode cX1_copyFrom 35 = .ok (.aload_n 0, 1) := by decide +kernel
theorem dX1_copyFrom_36 : decode cX1_copyFrom 36 = .ok (.getfield 18, 3) := by decide +kernel
theorem dX1_copyFrom_39 : decode cX1_copyFrom 39 = .ok (.iconst 0, 1) := by decide +kernel
theorem dX1_copyFrom_40 : decode cX1_copyFrom 40 = .ok (.aload_n 0, 1) := by decide +kernel
theorem dX1_copyFrom_41 : decode cX1_copyFrom 41 = .ok (.getfield 18, 3) := by decide +kernel
theorem dX1_copyFrom_44 : decode cX1_copyFrom 44 = .ok (.arraylength, 1) := by decide +kernel
theorem dX1_copyFrom_45 : decode cX1_copyFrom 45 = .ok (.invokestatic 27, 3) := by decide +kernel
theorem dX1_copyFrom_48 : decode cX1_copyFrom 48 = .ok (.return_, 1) := by decide +kernel
theorem dX7_copyFrom_0 : decode cX7_copyFrom 0 = .ok (.aload_n 0, 1) := by decide +kernel
theorem dX7_copyFrom_1 : decode cX7_copyFrom 1 = .ok (.getfield 12, 3) := by decide +kernel
theorem dX7_copyFrom_4 : decode cX7_copyFrom 4 = .ok (.aload_n 1, 1) := by decide +kernel
theorem dX7_copyFrom_5 : decode cX7_copyFrom 5 = .ok (.getfield 12, 3) := by decide +kernel
theorem dX7_copyFrom_8 : decode cX7_copyFrom 8 = .ok (.invokevirtual 60, 3) := by decide +kernel
theorem dX7_copyFrom_11 : decode cX7_copyFrom 11 = .ok (.aload_n 0, 1) := by decide +kernel
theorem dX7_copyFrom_12 : decode cX7_copyFrom 12 = .ok (.getfield 21, 3) := by decide +kernel
theorem dX7_copyFrom_15 : decode cX7_copyFrom 15 = .ok (.aload_n 1, 1) := by decide +kernel
theorem dX7_copyFrom_16 : decode cX7_copyFrom 16 = .ok (.getfield 21, 3) := by decide +kernel
theorem dX7_copyFrom_19 : decode cX7_copyFrom 19 = .ok (.invokevirtual 64, 3) := by decide +kernel
theorem dX7_copyFrom_22 : decode cX7_copyFrom 22 = .ok (.aload_n 0, 1) := by decide +kernel
theorem dX7_copyFrom_23 : decode cX7_copyFrom 23 = .ok (.getfield 28, 3) := by decide +kernel
theorem dX7_copyFrom_26 : decode cX7_copyFrom 26 = .ok (.aload_n 1, 1) := by decide +kernel
theorem dX7_copyFrom_27 : decode cX7_copyFrom 27 = .ok (.getfield 28, 3) := by decide +kernel
theorem dX7_copyFrom_30 : decode cX7_copyFrom 30 = .ok (.invokevirtual 67, 3) := by decide +kernel
theorem dX7_copyFrom_33 : decode cX7_copyFrom 33 = .ok (.aload_n 0, 1) := by decide +kernel
theorem dX7_copyFrom_34 : decode cX7_copyFrom 34 = .ok (.getfield 35, 3) := by decide +kernel
theorem dX7_copyFrom_37 : decode cX7_copyFrom 37 = .ok (.aload_n 1, 1) := by decide +kernel
theorem dX7_copyFrom_38 : decode cX7_copyFrom 38 = .ok (.getfield 35, 3) := by decide +kernel
theorem dX7_copyFrom_41 : decode cX7_copyFrom 41 = .ok (.invokevirtual 70, 3) := by decide +kernel
theorem dX7_copyFrom_44 : decode cX7_copyFrom 44 = .ok (.aload_n 0, 1) := by decide +kernel
theorem dX7_copyFrom_45 : decode cX7_copyFrom 45 = .ok (.getfield 42, 3) := by decide +kernel
theorem dX7_copyFrom_48 : decode cX7_copyFrom 48 = .ok (.aload_n 1, 1) := by decide +kernel
theorem dX7_copyFrom_49 : decode cX7_copyFrom 49 = .ok (.getfield 42, 3) := by decide +kernel
theorem dX7_copyFrom_52 : decode cX7_copyFrom 52 = .ok (.invokevirtual 73, 3) := by decide +kernel
theorem dX7_copyFrom_55 : decode cX7_copyFrom 55 = .ok (.aload_n 0, 1) := by decide +kernel
theorem dX7_copyFrom_56 : decode cX7_copyFrom 56 = .ok (.aload_n 1, 1) := by decide +kernel
theorem dX7_copyFrom_57 : decode cX7_copyFrom 57 = .ok (.getfield 50, 3) := by decide +kernel
theorem dX7_copyFrom_60 : decode cX7_copyFrom 60 = .ok (.putfield 50, 3) := by decide +kernel
theorem dX7_copyFrom_63 : decode cX7_copyFrom 63 = .ok (.aload_n 0, 1) := by decide +kernel
theorem dX7_copyFrom_64 : decode cX7_copyFrom 64 = .ok (.aload_n 1, 1) := by decide +kernel
theorem dX7_copyFrom_65 : decode cX7_copyFrom 65 = .ok (.getfield 54, 3) := by decide +kernel
theorem dX7_copyFrom_68 : decode cX7_copyFrom 68 = .ok (.putfield 54, 3) := by decide +kernel
theorem dX7_copyFrom_71 : decode cX7_copyFrom 71 = .ok (.aload_n 0, 1) := by decide +kernel
theorem dX7_copyFrom_72 : decode cX7_copyFrom 72 = .ok (.aload_n 1, 1) := by decide +kernel
theorem dX7_copyFrom_73 : decode cX7_copyFrom 73 = .ok (.getfield 57, 3) := by decide +kernel
theorem dX7_copyFrom_76 : decode cX7_copyFrom 76 = .ok (.putfield 57, 3) := by decide +kernel
theorem dX7_copyFrom_79 : decode cX7_copyFrom 79 = .ok (.return_, 1) := by decide +kernel
theorem dX9_image_0 : decode cX9_image 0 = .ok (.iload_n 1, 1) := by decide +kernel
theorem dX9_image_1 : decode cX9_image 1 = .ok (.ifCond .lt 8, 3) := by decide +kernel
theorem dX9_image_4 : decode cX9_image 4 = .ok (.iload_n 1, 1) := by decide +kernel
theorem dX9_image_5 : decode cX9_image 5 = .ok (.iconst 3, 1) := by decide +kernel
theorem dX9_image_6 : decode cX9_image 6 = .ok (.if_icmp .lt 5, 3) := by decide +kernel
theorem dX9_image_9 : decode cX9_image 9 = .ok (.iconst 0, 1) := by decide +kernel
theorem dX9_image_10 : decode cX9_image 10 = .ok (.ireturn, 1) := by decide +kernel
theorem dX9_image_11 : decode cX9_image 11 = .ok (.aload_n 0, 1) := by decide +kernel
theorem dX9_image_12 : decode cX9_image 12 = .ok (.getfield 16, 3) := by decide +kernel
theorem dX9_image_15 : decode cX9_image 15 = .ok (.iload_n 1, 1) := by decide +kernel
theorem dX9_image_16 : decode cX9_image 16 = .ok (.aaload, 1) := by decide +kernel
theorem dX9_image_17 : decode cX9_image 17 = .ok (.ifnonnull 16, 3) := by decide +kernel
theorem dX9_image_20 : decode cX9_image 20 = .ok (.aload_n 0, 1) := by decide +kernel
theorem dX9_image_21 : decode cX9_image 21 = .ok (.getfield 16, 3) := by decide +kernel
theorem dX9_image_24 : decode cX9_image 24 = .ok (.iload_n 1, 1) := by decide +kernel
theorem dX9_image_25 : decode cX9_image 25 = .ok (.new 7, 3) := by decide +kernel
theorem dX9_image_28 : decode cX9_image 28 = .ok (.dup, 1) := by decide +kernel
theorem dX9_image_29 : decode cX9_image 29 = .ok (.invokespecial 9, 3) := by decide +kernel
theorem dX9_image_32 : decode cX9_image 32 = .ok (.aastore, 1) := by decide +kernel
theorem dX9_image_33 : decode cX9_image 33 = .ok (.aload_n 0, 1) := by decide +kernel
theorem dX9_image_34 : decode cX9_image 34 = .ok (.getfield 16, 3) := by decide +kernel
theorem dX9_image_37 : decode cX9_image 37 = .ok (.iload_n 1, 1) := by decide +kernel
theorem dX9_image_38 : decode cX9_image 38 = .ok (.aaload, 1) := by decide +kernel
theorem dX9_image_39 : decode cX9_image 39 = .ok (.aload_n 0, 1) := by decide +kernel
theorem dX9_image_40 : decode cX9_image 40 = .ok (.getfield 10, 3) := by decide +kernel
theorem dX9_image_43 : decode cX9_image 43 = .ok (.invokevirtual 382, 3) := by decide +kernel
theorem dX9_image_46 : decode cX9_image 46 = .ok (.iconst 1, 1) := by decide +kernel
theorem dX9_image_47 : decode cX9_image 47 = .ok (.ireturn, 1) := by decide +kernel
