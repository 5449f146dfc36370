theorem dX6_settle_0 : decode cX6_settle 0 = .ok (.aload_n 0, 1) := by decide +kernel
theorem dX6_settle_1 : decode cX6_settle 1 = .ok (.iconst 0, 1) := by decide +kernel
theorem dX6_settle_2 : decode cX6_settle 2 = .ok (.putfield 40, 3) := by decide +kernel
theorem dX6_settle_5 : decode cX6_settle 5 = .ok (.iconst 0, 1) := by decide +kernel
theorem dX6_settle_6 : decode cX6_settle 6 = .ok (.istore_n 2, 1) := by decide +kernel
theorem dX6_settle_7 : decode cX6_settle 7 = .ok (.iload_n 2, 1) := by decide +kernel
theorem dX6_settle_8 : decode cX6_settle 8 = .ok (.aload_n 0, 1) := by decide +kernel
theorem dX6_settle_9 : decode cX6_settle 9 = .ok (.getfield 49, 3) := by decide +kernel
theorem dX6_settle_12 : decode cX6_settle 12 = .ok (.if_icmp .ge 76, 3) := by decide +kernel
theorem dX6_settle_15 : decode cX6_settle 15 = .ok (.aload_n 0, 1) := by decide +kernel
theorem dX6_settle_16 : decode cX6_settle 16 = .ok (.getfield 46, 3) := by decide +kernel
theorem dX6_settle_19 : decode cX6_settle 19 = .ok (.iload_n 2, 1) := by decide +kernel
theorem dX6_settle_20 : decode cX6_settle 20 = .ok (.ishr, 1) := by decide +kernel
theorem dX6_settle_21 : decode cX6_settle 21 = .ok (.iconst 1, 1) := by decide +kernel
theorem dX6_settle_22 : decode cX6_settle 22 = .ok (.iand, 1) := by decide +kernel
theorem dX6_settle_23 : decode cX6_settle 23 = .ok (.iconst 1, 1) := by decide +kernel
theorem dX6_settle_24 : decode cX6_settle 24 = .ok (.if_icmp .ne 58, 3) := by decide +kernel
theorem dX6_settle_27 : decode cX6_settle 27 = .ok (.aload_n 0, 1) := by decide +kernel
theorem dX6_settle_28 : decode cX6_settle 28 = .ok (.iload_n 2, 1) := by decide +kernel
theorem dX6_settle_29 : decode cX6_settle 29 = .ok (.invokevirtual 127, 3) := by decide +kernel
theorem dX6_settle_32 : decode cX6_settle 32 = .ok (.aload_n 0, 1) := by decide +kernel
theorem dX6_settle_33 : decode cX6_settle 33 = .ok (.getfield 43, 3) := by decide +kernel
theorem dX6_settle_36 : decode cX6_settle 36 = .ok (.iload_n 2, 1) := by decide +kernel
theorem dX6_settle_37 : decode cX6_settle 37 = .ok (.ishr, 1) := by decide +kernel
theorem dX6_settle_38 : decode cX6_settle 38 = .ok (.iconst 1, 1) := by decide +kernel
theorem dX6_settle_39 : decode cX6_settle 39 = .ok (.iand, 1) := by decide +kernel
theorem dX6_settle_40 : decode cX6_settle 40 = .ok (.ifCond .ne 7, 3) := by decide +kernel
theorem dX6_settle_43 : decode cX6_settle 43 = .ok (.iconst 1, 1) := by decide +kernel
theorem dX6_settle_44 : decode cX6_settle 44 = .ok (.goto 4, 3) := by decide +kernel
theorem dX6_settle_47 : decode cX6_settle 47 = .ok (.iconst 0, 1) := by decide +kernel
theorem dX6_settle_48 : decode cX6_settle 48 = .ok (.istore_n 3, 1) := by decide +kernel
theorem dX6_settle_49 : decode cX6_settle 49 = .ok (.aload_n 0, 1) := by decide +kernel
theorem dX6_settle_50 : decode cX6_settle 50 = .ok (.dup, 1) := by decide +kernel
theorem dX6_settle_51 : decode cX6_settle 51 = .ok (.getfield 40, 3) := by decide +kernel
theorem dX6_settle_54 : decode cX6_settle 54 = .ok (.iload_n 3, 1) := by decide +kernel
theorem dX6_settle_55 : decode cX6_settle 55 = .ok (.ifCond .eq 22, 3) := by decide +kernel
theorem dX6_settle_58 : decode cX6_settle 58 = .ok (.aload_n 0, 1) := by decide +kernel
theorem dX6_settle_59 : decode cX6_settle 59 = .ok (.getfield 15, 3) := by decide +kernel
theorem dX6_settle_62 : decode cX6_settle 62 = .ok (.iload_n 2, 1) := by decide +kernel
theorem dX6_settle_63 : decode cX6_settle 63 = .ok (.iaload, 1) := by decide +kernel
theorem dX6_settle_64 : decode cX6_settle 64 = .ok (.aload_n 1, 1) := by decide +kernel
theorem dX6_settle_65 : decode cX6_settle 65 = .ok (.getfield 130, 3) := by decide +kernel
theorem dX6_settle_68 : decode cX6_settle 68 = .ok (.if_icmp .lt 9, 3) := by decide +kernel
theorem dX6_settle_71 : decode cX6_settle 71 = .ok (.iconst 1, 1) := by decide +kernel
theorem dX6_settle_72 : decode cX6_settle 72 = .ok (.iload_n 2, 1) := by decide +kernel
theorem dX6_settle_73 : decode cX6_settle 73 = .ok (.ishl, 1) := by decide +kernel
theorem dX6_settle_74 : decode cX6_settle 74 = .ok (.goto 4, 3) := by decide +kernel
theorem dX6_settle_77 : decode cX6_settle 77 = .ok (.iconst 0, 1) := by decide +kernel
theorem dX6_settle_78 : decode cX6_settle 78 = .ok (.ior, 1) := by decide +kernel
theorem dX6_settle_79 : decode cX6_settle 79 = .ok (.putfield 40, 3) := by decide +kernel
theorem dX6_settle_82 : decode cX6_settle 82 = .ok (.iinc 2 1, 3) := by decide +kernel
theorem dX6_settle_85 : decode cX6_settle 85 = .ok (.goto (-78), 3) := by decide +kernel
theorem dX6_settle_88 : decode cX6_settle 88 = .ok (.iconst 0, 1) := by decide +kernel
theorem dX6_settle_89 : decode cX6_settle 89 = .ok (.istore_n 2, 1) := by decide +kernel
theorem dX6_settle_90 : decode cX6_settle 90 = .ok (.iload_n 2, 1) := by decide +kernel
theorem dX6_settle_91 : decode cX6_settle 91 = .ok (.aload_n 0, 1) := by decide +kernel
theorem dX6_settle_92 : decode cX6_settle 92 = .ok (.getfield 49, 3) := by decide +kernel
theorem dX6_settle_95 : decode cX6_settle 95 = .ok (.if_icmp .ge 30, 3) := by decide +kernel
theorem dX6_settle_98 : decode cX6_settle 98 = .ok (.aload_n 0, 1) := by decide +kernel
theorem dX6_settle_99 : decode cX6_settle 99 = .ok (.getfield 33, 3) := by decide +kernel
theorem dX6_settle_102 : decode cX6_settle 102 = .ok (.iload_n 2, 1) := by decide +kernel
theorem dX6_settle_103 : decode cX6_settle 103 = .ok (.aload_n 1, 1) := by decide +kernel
theorem dX6_settle_104 : decode cX6_settle 104 = .ok (.aload_n 0, 1) := by decide +kernel
theorem dX6_settle_105 : decode cX6_settle 105 = .ok (.getfield 21, 3) := by decide +kernel
theorem dX6_settle_108 : decode cX6_settle 108 = .ok (.iload_n 2, 1) := by decide +kernel
theorem dX6_settle_109 : decode cX6_settle 109 = .ok (.iaload, 1) := by decide +kernel
theorem dX6_settle_110 : decode cX6_settle 110 = .ok (.aload_n 0, 1) := by decide +kernel
theorem dX6_settle_111 : decode cX6_settle 111 = .ok (.iload_n 2, 1) := by decide +kernel
theorem dX6_settle_112 : decode cX6_settle 112 = .ok (.invokevirtual 133, 3) := by decide +kernel
theorem dX6_settle_115 : decode cX6_settle 115 = .ok (.invokevirtual 136, 3) := by decide +kernel
theorem dX6_settle_118 : decode cX6_settle 118 = .ok (.iastore, 1) := by decide +kernel
theorem dX6_settle_119 : decode cX6_settle 119 = .ok (.iinc 2 1, 3) := by decide +kernel
theorem dX6_settle_122 : decode cX6_settle 122 = .ok (.goto (-32), 3) := by decide +kernel
theorem dX6_settle_125 : decode cX6_settle 125 = .ok (.return_, 1) := by decide +kernel
theorem dX6_look_0 : decode cX6_look 0 = .ok (.aload_n 0, 1) := by decide +kernel
theorem dX6_look_1 : decode cX6_look 1 = .ok (.aload_n 1, 1) := by decide +kernel
theorem dX6_look_2 : decode cX6_look 2 = .ok (.iload_n 2, 1) := by decide +kernel
theorem dX6_look_3 : decode cX6_look 3 = .ok (.invokevirtual 52, 3) := by decide +kernel
theorem dX6_look_6 : decode cX6_look 6 = .ok (.aload_n 0, 1) := by decide +kernel
theorem dX6_look_7 : decode cX6_look 7 = .ok (.aload_n 1, 1) := by decide +kernel
theorem dX6_look_8 : decode cX6_look 8 = .ok (.getfield 56, 3) := by decide +kernel
theorem dX6_look_11 : decode cX6_look 11 = .ok (.invokevirtual 62, 3) := by decide +kernel
theorem dX6_look_14 : decode cX6_look 14 = .ok (.return_, 1) := by decide +kernel
theorem dX6_isActive_0 : decode cX6_isActive 0 = .ok (.aload_n 0, 1) := by decide +kernel
theorem dX6_isActive_1 : decode cX6_isActive 1 = .ok (.getfield 40, 3) := by decide +kernel
theorem dX6_isActive_4 : decode cX6_isActive 4 = .ok (.iload_n 1, 1) := by decide +kernel
theorem dX6_isActive_5 : decode cX6_isActive 5 = .ok (.ishr, 1) := by decide +kernel
theorem dX6_isActive_6 : decode cX6_isActive 6 = .ok (.iconst 1, 1) := by decide +kernel
theorem dX6_isActive_7 : decode cX6_isActive 7 = .ok (.iand, 1) := by decide +kernel
theorem dX6_isActive_8 : decode cX6_isActive 8 = .ok (.iconst 1, 1) := by decide +kernel
theorem dX6_isActive_9 : decode cX6_isActive 9 = .ok (.if_icmp .ne 7, 3) := by decide +kernel
theorem dX6_isActive_12 : decode cX6_isActive 12 = .ok (.iconst 1, 1) := by decide +kernel
theorem dX6_isActive_13 : decode cX6_isActive 13 = .ok (.goto 4, 3) := by decide +kernel
theorem dX6_isActive_16 : decode cX6_isActive 16 = .ok (.iconst 0, 1) := by decide +kernel
theorem dX6_isActive_17 : decode cX6_isActive 17 = .ok (.ireturn, 1) := by decide +kernel
theorem dX3_leafPercent_0 : decode cX3_leafPercent 0 = .ok (.aload_n 0, 1) := by decide +kernel
theorem dX3_leafPercent_1 : decode cX3_leafPercent 1 = .ok (.getfield 24, 3) := by decide +kernel
theorem dX3_leafPercent_4 : decode cX3_leafPercent 4 = .ok (.iload_n 1, 1) := by decide +kernel
theorem dX3_leafPercent_5 : decode cX3_leafPercent 5 = .ok (.iaload, 1) := by decide +kernel
theorem dX3_leafPercent_6 : decode cX3_leafPercent 6 = .ok (.tableswitch 70 12 14 #[26, 35, 48], 26) := by decide +kernel
theorem dX3_leafPercent_32 : decode cX3_leafPercent 32 = .ok (.aload_n 0, 1) := by decide +kernel
theorem dX3_leafPercent_33 : decode cX3_leafPercent 33 = .ok (.getfield 30, 3) := by decide +kernel
theorem dX3_leafPercent_36 : decode cX3_leafPercent 36 = .ok (.iload_n 1, 1) := by decide +kernel
theorem dX3_leafPercent_37 : decode cX3_leafPercent 37 = .ok (.iaload, 1) := by decide +kernel
theorem dX3_leafPercent_38 : decode cX3_leafPercent 38 = .ok (.iload_n 2, 1) := by decide +kernel
theorem dX3_leafPercent_39 : decode cX3_leafPercent 39 = .ok (.imul, 1) := by decide +kernel
theorem dX3_leafPercent_40 : decode cX3_leafPercent 40 = .ok (.ireturn, 1) := by decide +kernel
theorem dX3_leafPercent_41 : decode cX3_leafPercent 41 = .ok (.aload_n 0, 1) := by decide +kernel
theorem dX3_leafPercent_42 : decode cX3_leafPercent 42 = .ok (.getfield 30, 3) := by decide +kernel
theorem dX3_leafPercent_45 : decode cX3_leafPercent 45 = .ok (.iload_n 1, 1) := by decide +kernel
theorem dX3_leafPercent_46 : decode cX3_leafPercent 46 = .ok (.iaload, 1) := by decide +kernel
theorem dX3_leafPercent_47 : decode cX3_leafPercent 47 = .ok (.iconst 5, 1) := by decide +kernel
theorem dX3_leafPercent_48 : decode cX3_leafPercent 48 = .ok (.iload_n 3, 1) := by decide +kernel
theorem dX3_leafPercent_49 : decode cX3_leafPercent 49 = .ok (.invokestatic 70, 3) := by decide +kernel
theorem dX3_leafPercent_52 : decode cX3_leafPercent 52 = .ok (.imul, 1) := by decide +kernel
theorem dX3_leafPercent_53 : decode cX3_leafPercent 53 = .ok (.ireturn, 1) := by decide +kernel
theorem dX3_leafPercent_54 : decode cX3_leafPercent 54 = .ok (.iload 4, 2) := by decide +kernel
theorem dX3_leafPercent_56 : decode cX3_leafPercent 56 = .ok (.aload_n 0, 1) := by decide +kernel
theorem dX3_leafPercent_57 : decode cX3_leafPercent 57 = .ok (.getfield 27, 3) := by decide +kernel
theorem dX3_leafPercent_60 : decode cX3_leafPercent 60 = .ok (.iload_n 1, 1) := by decide +kernel
theorem dX3_leafPercent_61 : decode cX3_leafPercent 61 = .ok (.iaload, 1) := by decide +kernel
theorem dX3_leafPercent_62 : decode cX3_leafPercent 62 = .ok (.if_icmp .lt 12, 3) := by decide +kernel
theorem dX3_leafPercent_65 : decode cX3_leafPercent 65 = .ok (.aload_n 0, 1) := by decide +kernel
theorem dX3_leafPercent_66 : decode cX3_leafPercent 66 = .ok (.getfield 30, 3) := by decide +kernel
theorem dX3_leafPercent_69 : decode cX3_leafPercent 69 = .ok (.iload_n 1, 1) := by decide +kernel
theorem dX3_leafPercent_70 : decode cX3_leafPercent 70 = .ok (.iaload, 1) := by decide +kernel
theorem dX3_leafPercent_71 : decode cX3_leafPercent 71 = .ok (.goto 4, 3) := by decide +kernel
theorem dX3_leafPercent_74 : decode cX3_leafPercent 74 = .ok (.iconst 0, 1) := by decide +kernel
theorem dX3_leafPercent_75 : decode cX3_leafPercent 75 = .ok (.ireturn, 1) := by decide +kernel
theorem dX3_leafPercent_76 : decode cX3_leafPercent 76 = .ok (.aload_n 0, 1) := by decide +kernel
theorem dX3_leafPercent_77 : decode cX3_leafPercent 77 = .ok (.getfield 30, 3) := by decide +kernel
theorem dX3_leafPercent_80 : decode cX3_leafPercent 80 = .ok (.iload_n 1, 1) := by decide +kernel
theorem dX3_leafPercent_81 : decode cX3_leafPercent 81 = .ok (.iaload, 1) := by decide +kernel
theorem dX3_leafPercent_82 : decode cX3_leafPercent 82 = .ok (.ireturn, 1) := by decide +kernel
theorem dX3_joinedPercent_0 : decode cX3_joinedPercent 0 = .ok (.iload_n 0, 1) := by decide +kernel
theorem dX3_joinedPercent_1 : decode cX3_joinedPercent 1 = .ok (.lookupswitch 39 #[(15, 27), (16, 33)], 27) := by decide +kernel
theorem dX3_joinedPercent_28 : decode cX3_joinedPercent 28 = .ok (.iload_n 1, 1) := by decide +kernel
theorem dX3_joinedPercent_29 : decode cX3_joinedPercent 29 = .ok (.iload_n 2, 1) := by decide +kernel
theorem dX3_joinedPercent_30 : decode cX3_joinedPercent 30 = .ok (.invokestatic 76, 3) := by decide +kernel
theorem dX3_joinedPercent_33 : decode cX3_joinedPercent 33 = .ok (.ireturn, 1) := by decide +kernel
theorem dX3_joinedPercent_34 : decode cX3_joinedPercent 34 = .ok (.iload_n 1, 1) := by decide +kernel
theorem dX3_joinedPercent_35 : decode cX3_joinedPercent 35 = .ok (.iload_n 2, 1) := by decide +kernel
theorem dX3_joinedPercent_36 : decode cX3_joinedPercent 36 = .ok (.invokestatic 70, 3) := by decide +kernel
theorem dX3_joinedPercent_39 : decode cX3_joinedPercent 39 = .ok (.ireturn, 1) := by decide +kernel
theorem dX3_joinedPercent_40 : decode cX3_joinedPercent 40 = .ok (.bipush 100, 2) := by decide +kernel
theorem dX3_joinedPercent_42 : decode cX3_joinedPercent 42 = .ok (.iload_n 1, 1) := by decide +kernel
theorem dX3_joinedPercent_43 : decode cX3_joinedPercent 43 = .ok (.iload_n 2, 1) := by decide +kernel
theorem dX3_joinedPercent_44 : decode cX3_joinedPercent 44 = .ok (.iadd, 1) := by decide +kernel
theorem dX3_joinedPercent_45 : decode cX3_joinedPercent 45 = .ok (.invokestatic 70, 3) := by decide +kernel
theorem dX3_joinedPercent_48 : decode cX3_joinedPercent 48 = .ok (.ireturn, 1) := by decide +kernel
theorem dX3_percentOf_0 : decode cX3_percentOf 0 = .ok (.iconst 0, 1) := by decide +kernel
theorem dX3_percentOf_1 : decode cX3_percentOf 1 = .ok (.istore 5, 2) := by decide +kernel
theorem dX3_percentOf_3 : decode cX3_percentOf 3 = .ok (.iload_n 1, 1) := by decide +kernel
theorem dX3_percentOf_4 : decode cX3_percentOf 4 = .ok (.bipush 8, 2) := by decide +kernel
theorem dX3_percentOf_6 : decode cX3_percentOf 6 = .ok (.imul, 1) := by decide +kernel
theorem dX3_percentOf_7 : decode cX3_percentOf 7 = .ok (.aload_n 0, 1) := by decide +kernel
theorem dX3_percentOf_8 : decode cX3_percentOf 8 = .ok (.getfield 21, 3) := by decide +kernel
theorem dX3_percentOf_11 : decode cX3_percentOf 11 = .ok (.iload_n 1, 1) := by decide +kernel
theorem dX3_percentOf_12 : decode cX3_percentOf 12 = .ok (.iaload, 1) := by decide +kernel
theorem dX3_percentOf_13 : decode cX3_percentOf 13 = .ok (.iadd, 1) := by decide +kernel
theorem dX3_percentOf_14 : decode cX3_percentOf 14 = .ok (.iconst 1, 1) := by decide +kernel
theorem dX3_percentOf_15 : decode cX3_percentOf 15 = .ok (.isub, 1) := by decide +kernel
theorem dX3_percentOf_16 : decode cX3_percentOf 16 = .ok (.istore 6, 2) := by decide +kernel
theorem dX3_percentOf_18 : decode cX3_percentOf 18 = .ok (.iload 6, 2) := by decide +kernel
theorem dX3_percentOf_20 : decode cX3_percentOf 20 = .ok (.iload_n 1, 1) := by decide +kernel
theorem dX3_percentOf_21 : decode cX3_percentOf 21 = .ok (.bipush 8, 2) := by decide +kernel
theorem dX3_percentOf_23 : decode cX3_percentOf 23 = .ok (.imul, 1) := by decide +kernel
theorem dX3_percentOf_24 : decode cX3_percentOf 24 = .ok (.if_icmp .lt 95, 3) := by decide +kernel
theorem dX3_percentOf_27 : decode cX3_percentOf 27 = .ok (.aload_n 0, 1) := by decide +kernel
theorem dX3_percentOf_28 : decode cX3_percentOf 28 = .ok (.getfield 24, 3) := by decide +kernel
theorem dX3_percentOf_31 : decode cX3_percentOf 31 = .ok (.iload 6, 2) := by decide +kernel
theorem dX3_percentOf_33 : decode cX3_percentOf 33 = .ok (.iaload, 1) := by decide +kernel
theorem dX3_percentOf_34 : decode cX3_percentOf 34 = .ok (.bipush 15, 2) := by decide +kernel
theorem dX3_percentOf_36 : decode cX3_percentOf 36 = .ok (.if_icmp .ge 33, 3) := by decide +kernel
theorem dX3_percentOf_39 : decode cX3_percentOf 39 = .ok (.iload 5, 2) := by decide +kernel
theorem dX3_percentOf_41 : decode cX3_percentOf 41 = .ok (.bipush 8, 2) := by decide +kernel
theorem dX3_percentOf_43 : decode cX3_percentOf 43 = .ok (.if_icmp .ge 26, 3) := by decide +kernel
theorem dX3_percentOf_46 : decode cX3_percentOf 46 = .ok (.aload_n 0, 1) := by decide +kernel
theorem dX3_percentOf_47 : decode cX3_percentOf 47 = .ok (.getfield 33, 3) := by decide +kernel
theorem dX3_percentOf_50 : decode cX3_percentOf 50 = .ok (.iload 5, 2) := by decide +kernel
theorem dX3_percentOf_52 : decode cX3_percentOf 52 = .ok (.aload_n 0, 1) := by decide +kernel
theorem dX3_percentOf_53 : decode cX3_percentOf 53 = .ok (.iload 6, 2) := by decide +kernel
theorem dX3_percentOf_55 : decode cX3_percentOf 55 = .ok (.iload_n 2, 1) := by decide +kernel
theorem dX3_percentOf_56 : decode cX3_percentOf 56 = .ok (.iload_n 3, 1) := by decide +kernel
theorem dX3_percentOf_57 : decode cX3_percentOf 57 = .ok (.iload 4, 2) := by decide +kernel
theorem dX3_percentOf_59 : decode cX3_percentOf 59 = .ok (.invokevirtual 62, 3) := by decide +kernel
theorem dX3_percentOf_62 : decode cX3_percentOf 62 = .ok (.iastore, 1) := by decide +kernel
theorem dX3_percentOf_63 : decode cX3_percentOf 63 = .ok (.iinc 5 1, 3) := by decide +kernel
theorem dX3_percentOf_66 : decode cX3_percentOf 66 = .ok (.goto 47, 3) := by decide +kernel
theorem dX3_percentOf_69 : decode cX3_percentOf 69 = .ok (.iload 5, 2) := by decide +kernel
theorem dX3_percentOf_71 : decode cX3_percentOf 71 = .ok (.iconst 2, 1) := by decide +kernel
theorem dX3_percentOf_72 : decode cX3_percentOf 72 = .ok (.if_icmp .lt 41, 3) := by decide +kernel
theorem dX3_percentOf_75 : decode cX3_percentOf 75 = .ok (.iinc 5 (-1), 3) := by decide +kernel
theorem dX3_percentOf_78 : decode cX3_percentOf 78 = .ok (.aload_n 0, 1) := by decide +kernel
theorem dX3_percentOf_79 : decode cX3_percentOf 79 = .ok (.getfield 33, 3) := by decide +kernel
theorem dX3_percentOf_82 : decode cX3_percentOf 82 = .ok (.iload 5, 2) := by decide +kernel
theorem dX3_percentOf_84 : decode cX3_percentOf 84 = .ok (.iconst 1, 1) := by decide +kernel
theorem dX3_percentOf_85 : decode cX3_percentOf 85 = .ok (.isub, 1) := by decide +kernel
theorem dX3_percentOf_86 : decode cX3_percentOf 86 = .ok (.aload_n 0, 1) := by decide +kernel
theorem dX3_percentOf_87 : decode cX3_percentOf 87 = .ok (.getfield 24, 3) := by decide +kernel
theorem dX3_percentOf_90 : decode cX3_percentOf 90 = .ok (.iload 6, 2) := by decide +kernel
theorem dX3_percentOf_92 : decode cX3_percentOf 92 = .ok (.iaload, 1) := by decide +kernel
theorem dX3_percentOf_93 : decode cX3_percentOf 93 = .ok (.aload_n 0, 1) := by decide +kernel
theorem dX3_percentOf_94 : decode cX3_percentOf 94 = .ok (.getfield 33, 3) := by decide +kernel
theorem dX3_percentOf_97 : decode cX3_percentOf 97 = .ok (.iload 5, 2) := by decide +kernel
theorem dX3_percentOf_99 : decode cX3_percentOf 99 = .ok (.iaload, 1) := by decide +kernel
theorem dX3_percentOf_100 : decode cX3_percentOf 100 = .ok (.aload_n 0, 1) := by decide +kernel
theorem dX3_percentOf_101 : decode cX3_percentOf 101 = .ok (.getfield 33, 3) := by decide +kernel
theorem dX3_percentOf_104 : decode cX3_percentOf 104 = .ok (.iload 5, 2) := by decide +kernel
theorem dX3_percentOf_106 : decode cX3_percentOf 106 = .ok (.iconst 1, 1) := by decide +kernel
theorem dX3_percentOf_107 : decode cX3_percentOf 107 = .ok (.isub, 1) := by decide +kernel
theorem dX3_percentOf_108 : decode cX3_percentOf 108 = .ok (.iaload, 1) := by decide +kernel
theorem dX3_percentOf_109 : decode cX3_percentOf 109 = .ok (.invokestatic 66, 3) := by decide +kernel
theorem dX3_percentOf_112 : decode cX3_percentOf 112 = .ok (.iastore, 1) := by decide +kernel
theorem dX3_percentOf_113 : decode cX3_percentOf 113 = .ok (.iinc 6 (-1), 3) := by decide +kernel
theorem dX3_percentOf_116 : decode cX3_percentOf 116 = .ok (.goto (-98), 3) := by decide +kernel
theorem dX3_percentOf_119 : decode cX3_percentOf 119 = .ok (.aload_n 0, 1) := by decide +kernel
theorem dX3_percentOf_120 : decode cX3_percentOf 120 = .ok (.getfield 33, 3) := by decide +kernel
theorem dX3_percentOf_123 : decode cX3_percentOf 123 = .ok (.iconst 0, 1) := by decide +kernel
theorem dX3_percentOf_124 : decode cX3_percentOf 124 = .ok (.iaload, 1) := by decide +kernel
theorem dX3_percentOf_125 : decode cX3_percentOf 125 = .ok (.ireturn, 1) := by decide +kernel
theorem dX2_takeLevel_0 : decode cX2_takeLevel 0 = .ok (.aload_n 1, 1) := by decide +kernel
theorem dX2_takeLevel_1 : decode cX2_takeLevel 1 = .ok (.getfield 19, 3) := by decide +kernel
theorem dX2_takeLevel_4 : decode cX2_takeLevel 4 = .ok (.astore 6, 2) := by decide +kernel
theorem dX2_takeLevel_6 : decode cX2_takeLevel 6 = .ok (.aload_n 2, 1) := by decide +kernel
theorem dX2_takeLevel_7 : decode cX2_takeLevel 7 = .ok (.getfield 47, 3) := by decide +kernel
theorem dX2_takeLevel_10 : decode cX2_takeLevel 10 = .ok (.iload_n 3, 1) := by decide +kernel
theorem dX2_takeLevel_11 : decode cX2_takeLevel 11 = .ok (.iaload, 1) := by decide +kernel
theorem dX2_takeLevel_12 : decode cX2_takeLevel 12 = .ok (.istore 7, 2) := by decide +kernel
theorem dX2_takeLevel_14 : decode cX2_takeLevel 14 = .ok (.aload_n 2, 1) := by decide +kernel
theorem dX2_takeLevel_15 : decode cX2_takeLevel 15 = .ok (.getfield 50, 3) := by decide +kernel
theorem dX2_takeLevel_18 : decode cX2_takeLevel 18 = .ok (.iload_n 3, 1) := by decide +kernel
theorem dX2_takeLevel_19 : decode cX2_takeLevel 19 = .ok (.iaload, 1) := by decide +kernel
theorem dX2_takeLevel_20 : decode cX2_takeLevel 20 = .ok (.invokestatic 53, 3) := by decide +kernel
theorem dX2_takeLevel_23 : decode cX2_takeLevel 23 = .ok (.istore 8, 2) := by decide +kernel
theorem dX2_takeLevel_25 : decode cX2_takeLevel 25 = .ok (.aload_n 2, 1) := by decide +kernel
theorem dX2_takeLevel_26 : decode cX2_takeLevel 26 = .ok (.getfield 59, 3) := by decide +kernel
theorem dX2_takeLevel_29 : decode cX2_takeLevel 29 = .ok (.aload_n 1, 1) := by decide +kernel
theorem dX2_takeLevel_30 : decode cX2_takeLevel 30 = .ok (.getfield 62, 3) := by decide +kernel
theorem dX2_takeLevel_33 : decode cX2_takeLevel 33 = .ok (.getfield 66, 3) := by decide +kernel
theorem dX2_takeLevel_36 : decode cX2_takeLevel 36 = .ok (.iload_n 3, 1) := by decide +kernel
theorem dX2_takeLevel_37 : decode cX2_takeLevel 37 = .ok (.iaload, 1) := by decide +kernel
theorem dX2_takeLevel_38 : decode cX2_takeLevel 38 = .ok (.isub, 1) := by decide +kernel
theorem dX2_takeLevel_39 : decode cX2_takeLevel 39 = .ok (.istore 9, 2) := by decide +kernel
theorem dX2_takeLevel_41 : decode cX2_takeLevel 41 = .ok (.aload 6, 2) := by decide +kernel
theorem dX2_takeLevel_43 : decode cX2_takeLevel 43 = .ok (.aload_n 0, 1) := by decide +kernel
theorem dX2_takeLevel_44 : decode cX2_takeLevel 44 = .ok (.getfield 9, 3) := by decide +kernel
theorem dX2_takeLevel_47 : decode cX2_takeLevel 47 = .ok (.iload 7, 2) := by decide +kernel
theorem dX2_takeLevel_49 : decode cX2_takeLevel 49 = .ok (.iload 8, 2) := by decide +kernel
theorem dX2_takeLevel_51 : decode cX2_takeLevel 51 = .ok (.iload 9, 2) := by decide +kernel
theorem dX2_takeLevel_53 : decode cX2_takeLevel 53 = .ok (.invokevirtual 71, 3) := by decide +kernel
theorem dX2_takeLevel_56 : decode cX2_takeLevel 56 = .ok (.istore 10, 2) := by decide +kernel
theorem dX2_takeLevel_58 : decode cX2_takeLevel 58 = .ok (.iload 4, 2) := by decide +kernel
theorem dX2_takeLevel_60 : decode cX2_takeLevel 60 = .ok (.iload 10, 2) := by decide +kernel
theorem dX2_takeLevel_62 : decode cX2_takeLevel 62 = .ok (.imul, 1) := by decide +kernel
theorem dX2_takeLevel_63 : decode cX2_takeLevel 63 = .ok (.bipush 100, 2) := by decide +kernel
theorem dX2_takeLevel_65 : decode cX2_takeLevel 65 = .ok (.idiv, 1) := by decide +kernel
theorem dX2_takeLevel_66 : decode cX2_takeLevel 66 = .ok (.istore 11, 2) := by decide +kernel
theorem dX2_takeLevel_68 : decode cX2_takeLevel 68 = .ok (.aload 6, 2) := by decide +kernel
theorem dX2_takeLevel_70 : decode cX2_takeLevel 70 = .ok (.getfield 75, 3) := by decide +kernel
theorem dX2_takeLevel_73 : decode cX2_takeLevel 73 = .ok (.iload 7, 2) := by decide +kernel
theorem dX2_takeLevel_75 : decode cX2_takeLevel 75 = .ok (.iaload, 1) := by decide +kernel
theorem dX2_takeLevel_76 : decode cX2_takeLevel 76 = .ok (.aload_n 0, 1) := by decide +kernel
theorem dX2_takeLevel_77 : decode cX2_takeLevel 77 = .ok (.getfield 9, 3) := by decide +kernel
theorem dX2_takeLevel_80 : decode cX2_takeLevel 80 = .ok (.if_icmp .lt 7, 3) := by decide +kernel
theorem dX2_takeLevel_83 : decode cX2_takeLevel 83 = .ok (.iconst 1, 1) := by decide +kernel
theorem dX2_takeLevel_84 : decode cX2_takeLevel 84 = .ok (.goto 4, 3) := by decide +kernel
theorem dX2_takeLevel_87 : decode cX2_takeLevel 87 = .ok (.iconst 0, 1) := by decide +kernel
theorem dX2_takeLevel_88 : decode cX2_takeLevel 88 = .ok (.istore 12, 2) := by decide +kernel
theorem dX2_takeLevel_90 : decode cX2_takeLevel 90 = .ok (.iload 12, 2) := by decide +kernel
theorem dX2_takeLevel_92 : decode cX2_takeLevel 92 = .ok (.ifCond .eq 13, 3) := by decide +kernel
theorem dX2_takeLevel_95 : decode cX2_takeLevel 95 = .ok (.iload 11, 2) := by decide +kernel
theorem dX2_takeLevel_97 : decode cX2_takeLevel 97 = .ok (.iload 5, 2) := by decide +kernel
theorem dX2_takeLevel_99 : decode cX2_takeLevel 99 = .ok (.invokestatic 78, 3) := by decide +kernel
theorem dX2_takeLevel_102 : decode cX2_takeLevel 102 = .ok (.goto 4, 3) := by decide +kernel
theorem dX2_takeLevel_105 : decode cX2_takeLevel 105 = .ok (.iconst 0, 1) := by decide +kernel
theorem dX2_takeLevel_106 : decode cX2_takeLevel 106 = .ok (.istore 13, 2) := by decide +kernel
theorem dX2_takeLevel_108 : decode cX2_takeLevel 108 = .ok (.aload_n 0, 1) := by decide +kernel
theorem dX2_takeLevel_109 : decode cX2_takeLevel 109 = .ok (.getfield 9, 3) := by decide +kernel
theorem dX2_takeLevel_112 : decode cX2_takeLevel 112 = .ok (.iconst 1, 1) := by decide +kernel
theorem dX2_takeLevel_113 : decode cX2_takeLevel 113 = .ok (.isub, 1) := by decide +kernel
theorem dX2_takeLevel_114 : decode cX2_takeLevel 114 = .ok (.bipush 7, 2) := by decide +kernel
theorem dX2_takeLevel_116 : decode cX2_takeLevel 116 = .ok (.imul, 1) := by decide +kernel
theorem dX2_takeLevel_117 : decode cX2_takeLevel 117 = .ok (.istore 14, 2) := by decide +kernel
theorem dX2_takeLevel_119 : decode cX2_takeLevel 119 = .ok (.aload_n 0, 1) := by decide +kernel
theorem dX2_takeLevel_120 : decode cX2_takeLevel 120 = .ok (.getfield 15, 3) := by decide +kernel
theorem dX2_takeLevel_123 : decode cX2_takeLevel 123 = .ok (.iload 14, 2) := by decide +kernel
theorem dX2_takeLevel_125 : decode cX2_takeLevel 125 = .ok (.iconst 0, 1) := by decide +kernel
theorem dX2_takeLevel_126 : decode cX2_takeLevel 126 = .ok (.iadd, 1) := by decide +kernel
theorem dX2_takeLevel_127 : decode cX2_takeLevel 127 = .ok (.iload_n 3, 1) := by decide +kernel
theorem dX2_takeLevel_128 : decode cX2_takeLevel 128 = .ok (.iastore, 1) := by decide +kernel
theorem dX2_takeLevel_129 : decode cX2_takeLevel 129 = .ok (.aload_n 0, 1) := by decide +kernel
theorem dX2_takeLevel_130 : decode cX2_takeLevel 130 = .ok (.getfield 15, 3) := by decide +kernel
theorem dX2_takeLevel_133 : decode cX2_takeLevel 133 = .ok (.iload 14, 2) := by decide +kernel
theorem dX2_takeLevel_135 : decode cX2_takeLevel 135 = .ok (.iconst 1, 1) := by decide +kernel
theorem dX2_takeLevel_136 : decode cX2_takeLevel 136 = .ok (.iadd, 1) := by decide +kernel
theorem dX2_takeLevel_137 : decode cX2_takeLevel 137 = .ok (.iload 10, 2) := by decide +kernel
theorem dX2_takeLevel_139 : decode cX2_takeLevel 139 = .ok (.iastore, 1) := by decide +kernel
theorem dX2_takeLevel_140 : decode cX2_takeLevel 140 = .ok (.aload_n 0, 1) := by decide +kernel
theorem dX2_takeLevel_141 : decode cX2_takeLevel 141 = .ok (.getfield 15, 3) := by decide +kernel
theorem dX2_takeLevel_144 : decode cX2_takeLevel 144 = .ok (.iload 14, 2) := by decide +kernel
theorem dX2_takeLevel_146 : decode cX2_takeLevel 146 = .ok (.iconst 2, 1) := by decide +kernel
theorem dX2_takeLevel_147 : decode cX2_takeLevel 147 = .ok (.iadd, 1) := by decide +kernel
theorem dX2_takeLevel_148 : decode cX2_takeLevel 148 = .ok (.iload 13, 2) := by decide +kernel
theorem dX2_takeLevel_150 : decode cX2_takeLevel 150 = .ok (.iastore, 1) := by decide +kernel
theorem dX2_takeLevel_151 : decode cX2_takeLevel 151 = .ok (.aload_n 0, 1) := by decide +kernel
theorem dX2_takeLevel_152 : decode cX2_takeLevel 152 = .ok (.getfield 15, 3) := by decide +kernel
theorem dX2_takeLevel_155 : decode cX2_takeLevel 155 = .ok (.iload 14, 2) := by decide +kernel
theorem dX2_takeLevel_157 : decode cX2_takeLevel 157 = .ok (.iconst 3, 1) := by decide +kernel
theorem dX2_takeLevel_158 : decode cX2_takeLevel 158 = .ok (.iadd, 1) := by decide +kernel
theorem dX2_takeLevel_159 : decode cX2_takeLevel 159 = .ok (.iload 12, 2) := by decide +kernel
theorem dX2_takeLevel_161 : decode cX2_takeLevel 161 = .ok (.ifCond .eq 7, 3) := by decide +kernel
theorem dX2_takeLevel_164 : decode cX2_takeLevel 164 = .ok (.iconst 0, 1) := by decide +kernel
theorem dX2_takeLevel_165 : decode cX2_takeLevel 165 = .ok (.goto 5, 3) := by decide +kernel
theorem dX2_takeLevel_168 : decode cX2_takeLevel 168 = .ok (.iload 11, 2) := by decide +kernel
theorem dX2_takeLevel_170 : decode cX2_takeLevel 170 = .ok (.iastore, 1) := by decide +kernel
theorem dX2_takeLevel_171 : decode cX2_takeLevel 171 = .ok (.aload_n 0, 1) := by decide +kernel
theorem dX2_takeLevel_172 : decode cX2_takeLevel 172 = .ok (.getfield 15, 3) := by decide +kernel
theorem dX2_takeLevel_175 : decode cX2_takeLevel 175 = .ok (.iload 14, 2) := by decide +kernel
theorem dX2_takeLevel_177 : decode cX2_takeLevel 177 = .ok (.iconst 4, 1) := by decide +kernel
theorem dX2_takeLevel_178 : decode cX2_takeLevel 178 = .ok (.iadd, 1) := by decide +kernel
theorem dX2_takeLevel_179 : decode cX2_takeLevel 179 = .ok (.iload 12, 2) := by decide +kernel
theorem dX2_takeLevel_181 : decode cX2_takeLevel 181 = .ok (.ifCond .eq 11, 3) := by decide +kernel
theorem dX2_takeLevel_184 : decode cX2_takeLevel 184 = .ok (.iload 11, 2) := by decide +kernel
theorem dX2_takeLevel_186 : decode cX2_takeLevel 186 = .ok (.iload 13, 2) := by decide +kernel
theorem dX2_takeLevel_188 : decode cX2_takeLevel 188 = .ok (.isub, 1) := by decide +kernel
theorem dX2_takeLevel_189 : decode cX2_takeLevel 189 = .ok (.goto 4, 3) := by decide +kernel
theorem dX2_takeLevel_192 : decode cX2_takeLevel 192 = .ok (.iconst 0, 1) := by decide +kernel
theorem dX2_takeLevel_193 : decode cX2_takeLevel 193 = .ok (.iastore, 1) := by decide +kernel
theorem dX2_takeLevel_194 : decode cX2_takeLevel 194 = .ok (.aload_n 0, 1) := by decide +kernel
theorem dX2_takeLevel_195 : decode cX2_takeLevel 195 = .ok (.getfield 15, 3) := by decide +kernel
theorem dX2_takeLevel_198 : decode cX2_takeLevel 198 = .ok (.iload 14, 2) := by decide +kernel
theorem dX2_takeLevel_200 : decode cX2_takeLevel 200 = .ok (.iconst 5, 1) := by decide +kernel
theorem dX2_takeLevel_201 : decode cX2_takeLevel 201 = .ok (.iadd, 1) := by decide +kernel
theorem dX2_takeLevel_202 : decode cX2_takeLevel 202 = .ok (.iload 7, 2) := by decide +kernel
theorem dX2_takeLevel_204 : decode cX2_takeLevel 204 = .ok (.iastore, 1) := by decide +kernel
theorem dX2_takeLevel_205 : decode cX2_takeLevel 205 = .ok (.return_, 1) := by decide +kernel
theorem dX2_fact_0 : decode cX2_fact 0 = .ok (.aload_n 0, 1) := by decide +kernel
theorem dX2_fact_1 : decode cX2_fact 1 = .ok (.getfield 15, 3) := by decide +kernel
theorem dX2_fact_4 : decode cX2_fact 4 = .ok (.iload_n 1, 1) := by decide +kernel
theorem dX2_fact_5 : decode cX2_fact 5 = .ok (.iconst 1, 1) := by decide +kernel
theorem dX2_fact_6 : decode cX2_fact 6 = .ok (.isub, 1) := by decide +kernel
theorem dX2_fact_7 : decode cX2_fact 7 = .ok (.bipush 7, 2) := by decide +kernel
theorem dX2_fact_9 : decode cX2_fact 9 = .ok (.imul, 1) := by decide +kernel
theorem dX2_fact_10 : decode cX2_fact 10 = .ok (.iload_n 2, 1) := by decide +kernel
theorem dX2_fact_11 : decode cX2_fact 11 = .ok (.iadd, 1) := by decide +kernel
theorem dX2_fact_12 : decode cX2_fact 12 = .ok (.iaload, 1) := by decide +kernel
theorem dX2_fact_13 : decode cX2_fact 13 = .ok (.ireturn, 1) := by decide +kernel
theorem dX2_payUp_0 : decode cX2_payUp 0 = .ok (.aload_n 0, 1) := by decide +kernel
theorem dX2_payUp_1 : decode cX2_payUp 1 = .ok (.iconst 0, 1) := by decide +kernel
theorem dX2_payUp_2 : decode cX2_payUp 2 = .ok (.putfield 9, 3) := by decide +kernel
theorem dX2_payUp_5 : decode cX2_payUp 5 = .ok (.iload 4, 2) := by decide +kernel
theorem dX2_payUp_7 : decode cX2_payUp 7 = .ok (.aload_n 1, 1) := by decide +kernel
theorem dX2_payUp_8 : decode cX2_payUp 8 = .ok (.getfield 19, 3) := by decide +kernel
theorem dX2_payUp_11 : decode cX2_payUp 11 = .ok (.getfield 25, 3) := by decide +kernel
theorem dX2_payUp_14 : decode cX2_payUp 14 = .ok (.imul, 1) := by decide +kernel
theorem dX2_payUp_15 : decode cX2_payUp 15 = .ok (.bipush 100, 2) := by decide +kernel
theorem dX2_payUp_17 : decode cX2_payUp 17 = .ok (.idiv, 1) := by decide +kernel
theorem dX2_payUp_18 : decode cX2_payUp 18 = .ok (.istore 5, 2) := by decide +kernel
theorem dX2_payUp_20 : decode cX2_payUp 20 = .ok (.aload_n 2, 1) := by decide +kernel
theorem dX2_payUp_21 : decode cX2_payUp 21 = .ok (.getfield 30, 3) := by decide +kernel
theorem dX2_payUp_24 : decode cX2_payUp 24 = .ok (.iload_n 3, 1) := by decide +kernel
theorem dX2_payUp_25 : decode cX2_payUp 25 = .ok (.iaload, 1) := by decide +kernel
theorem dX2_payUp_26 : decode cX2_payUp 26 = .ok (.istore 6, 2) := by decide +kernel
theorem dX2_payUp_28 : decode cX2_payUp 28 = .ok (.iconst 1, 1) := by decide +kernel
theorem dX2_payUp_29 : decode cX2_payUp 29 = .ok (.istore 7, 2) := by decide +kernel
theorem dX2_payUp_31 : decode cX2_payUp 31 = .ok (.iload 7, 2) := by decide +kernel
theorem dX2_payUp_33 : decode cX2_payUp 33 = .ok (.bipush 10, 2) := by decide +kernel
theorem dX2_payUp_35 : decode cX2_payUp 35 = .ok (.if_icmp .gt 96, 3) := by decide +kernel
theorem dX2_payUp_38 : decode cX2_payUp 38 = .ok (.iload 6, 2) := by decide +kernel
theorem dX2_payUp_40 : decode cX2_payUp 40 = .ok (.iconst (-1), 1) := by decide +kernel
theorem dX2_payUp_41 : decode cX2_payUp 41 = .ok (.if_icmp .eq 90, 3) := by decide +kernel
theorem dX2_payUp_44 : decode cX2_payUp 44 = .ok (.aload_n 0, 1) := by decide +kernel
theorem dX2_payUp_45 : decode cX2_payUp 45 = .ok (.getfield 9, 3) := by decide +kernel
theorem dX2_payUp_48 : decode cX2_payUp 48 = .ok (.iconst 5, 1) := by decide +kernel
theorem dX2_payUp_49 : decode cX2_payUp 49 = .ok (.if_icmp .ge 82, 3) := by decide +kernel
theorem dX2_payUp_52 : decode cX2_payUp 52 = .ok (.aload_n 2, 1) := by decide +kernel
theorem dX2_payUp_53 : decode cX2_payUp 53 = .ok (.iload 6, 2) := by decide +kernel
theorem dX2_payUp_55 : decode cX2_payUp 55 = .ok (.invokevirtual 35, 3) := by decide +kernel
theorem dX2_payUp_58 : decode cX2_payUp 58 = .ok (.ifCond .eq 58, 3) := by decide +kernel
theorem dX2_payUp_61 : decode cX2_payUp 61 = .ok (.aload_n 0, 1) := by decide +kernel
theorem dX2_payUp_62 : decode cX2_payUp 62 = .ok (.dup, 1) := by decide +kernel
theorem dX2_payUp_63 : decode cX2_payUp 63 = .ok (.getfield 9, 3) := by decide +kernel
theorem dX2_payUp_66 : decode cX2_payUp 66 = .ok (.iconst 1, 1) := by decide +kernel
theorem dX2_payUp_67 : decode cX2_payUp 67 = .ok (.iadd, 1) := by decide +kernel
theorem dX2_payUp_68 : decode cX2_payUp 68 = .ok (.putfield 9, 3) := by decide +kernel
theorem dX2_payUp_71 : decode cX2_payUp 71 = .ok (.aload_n 0, 1) := by decide +kernel
theorem dX2_payUp_72 : decode cX2_payUp 72 = .ok (.aload_n 1, 1) := by decide +kernel
theorem dX2_payUp_73 : decode cX2_payUp 73 = .ok (.aload_n 2, 1) := by decide +kernel
theorem dX2_payUp_74 : decode cX2_payUp 74 = .ok (.iload 6, 2) := by decide +kernel
theorem dX2_payUp_76 : decode cX2_payUp 76 = .ok (.iload 4, 2) := by decide +kernel
theorem dX2_payUp_78 : decode cX2_payUp 78 = .ok (.iload 5, 2) := by decide +kernel
theorem dX2_payUp_80 : decode cX2_payUp 80 = .ok (.invokevirtual 39, 3) := by decide +kernel
theorem dX2_payUp_83 : decode cX2_payUp 83 = .ok (.aload_n 0, 1) := by decide +kernel
theorem dX2_payUp_84 : decode cX2_payUp 84 = .ok (.getfield 15, 3) := by decide +kernel
theorem dX2_payUp_87 : decode cX2_payUp 87 = .ok (.aload_n 0, 1) := by decide +kernel
theorem dX2_payUp_88 : decode cX2_payUp 88 = .ok (.getfield 9, 3) := by decide +kernel
theorem dX2_payUp_91 : decode cX2_payUp 91 = .ok (.iconst 1, 1) := by decide +kernel
theorem dX2_payUp_92 : decode cX2_payUp 92 = .ok (.isub, 1) := by decide +kernel
theorem dX2_payUp_93 : decode cX2_payUp 93 = .ok (.bipush 7, 2) := by decide +kernel
theorem dX2_payUp_95 : decode cX2_payUp 95 = .ok (.imul, 1) := by decide +kernel
theorem dX2_payUp_96 : decode cX2_payUp 96 = .ok (.bipush 6, 2) := by decide +kernel
theorem dX2_payUp_98 : decode cX2_payUp 98 = .ok (.iadd, 1) := by decide +kernel
theorem dX2_payUp_99 : decode cX2_payUp 99 = .ok (.iload 7, 2) := by decide +kernel
theorem dX2_payUp_101 : decode cX2_payUp 101 = .ok (.iastore, 1) := by decide +kernel
theorem dX2_payUp_102 : decode cX2_payUp 102 = .ok (.iload 5, 2) := by decide +kernel
theorem dX2_payUp_104 : decode cX2_payUp 104 = .ok (.aload_n 0, 1) := by decide +kernel
theorem dX2_payUp_105 : decode cX2_payUp 105 = .ok (.aload_n 0, 1) := by decide +kernel
theorem dX2_payUp_106 : decode cX2_payUp 106 = .ok (.getfield 9, 3) := by decide +kernel
theorem dX2_payUp_109 : decode cX2_payUp 109 = .ok (.iconst 2, 1) := by decide +kernel
theorem dX2_payUp_110 : decode cX2_payUp 110 = .ok (.invokevirtual 43, 3) := by decide +kernel
theorem dX2_payUp_113 : decode cX2_payUp 113 = .ok (.isub, 1) := by decide +kernel
theorem dX2_payUp_114 : decode cX2_payUp 114 = .ok (.istore 5, 2) := by decide +kernel
theorem dX2_payUp_116 : decode cX2_payUp 116 = .ok (.aload_n 2, 1) := by decide +kernel
theorem dX2_payUp_117 : decode cX2_payUp 117 = .ok (.getfield 30, 3) := by decide +kernel
theorem dX2_payUp_120 : decode cX2_payUp 120 = .ok (.iload 6, 2) := by decide +kernel
theorem dX2_payUp_122 : decode cX2_payUp 122 = .ok (.iaload, 1) := by decide +kernel
theorem dX2_payUp_123 : decode cX2_payUp 123 = .ok (.istore 6, 2) := by decide +kernel
theorem dX2_payUp_125 : decode cX2_payUp 125 = .ok (.iinc 7 1, 3) := by decide +kernel
theorem dX2_payUp_128 : decode cX2_payUp 128 = .ok (.goto (-97), 3) := by decide +kernel
theorem dX2_payUp_131 : decode cX2_payUp 131 = .ok (.return_, 1) := by decide +kernel
theorem dX5_keep_0 : decode cX5_keep 0 = .ok (.aload_n 0, 1) := by decide +kernel
theorem dX5_keep_1 : decode cX5_keep 1 = .ok (.getfield 31, 3) := by decide +kernel
theorem dX5_keep_4 : decode cX5_keep 4 = .ok (.iload_n 1, 1) := by decide +kernel
theorem dX5_keep_5 : decode cX5_keep 5 = .ok (.aload_n 2, 1) := by decide +kernel
theorem dX5_keep_6 : decode cX5_keep 6 = .ok (.getfield 37, 3) := by decide +kernel
theorem dX5_keep_9 : decode cX5_keep 9 = .ok (.iastore, 1) := by decide +kernel
theorem dX5_keep_10 : decode cX5_keep 10 = .ok (.aload_n 2, 1) := by decide +kernel
theorem dX5_keep_11 : decode cX5_keep 11 = .ok (.getfield 41, 3) := by decide +kernel
theorem dX5_keep_14 : decode cX5_keep 14 = .ok (.iconst 0, 1) := by decide +kernel
theorem dX5_keep_15 : decode cX5_keep 15 = .ok (.aload_n 0, 1) := by decide +kernel
theorem dX5_keep_16 : decode cX5_keep 16 = .ok (.getfield 34, 3) := by decide +kernel
theorem dX5_keep_19 : decode cX5_keep 19 = .ok (.iload_n 1, 1) := by decide +kernel
theorem dX5_keep_20 : decode cX5_keep 20 = .ok (.iconst 5, 1) := by decide +kernel
theorem dX5_keep_21 : decode cX5_keep 21 = .ok (.imul, 1) := by decide +kernel
theorem dX5_keep_22 : decode cX5_keep 22 = .ok (.bipush 7, 2) := by decide +kernel
theorem dX5_keep_24 : decode cX5_keep 24 = .ok (.imul, 1) := by decide +kernel
theorem dX5_keep_25 : decode cX5_keep 25 = .ok (.aload_n 2, 1) := by decide +kernel
theorem dX5_keep_26 : decode cX5_keep 26 = .ok (.getfield 37, 3) := by decide +kernel
theorem dX5_keep_29 : decode cX5_keep 29 = .ok (.bipush 7, 2) := by decide +kernel
theorem dX5_keep_31 : decode cX5_keep 31 = .ok (.imul, 1) := by decide +kernel
theorem dX5_keep_32 : decode cX5_keep 32 = .ok (.invokestatic 42, 3) := by decide +kernel
theorem dX5_keep_35 : decode cX5_keep 35 = .ok (.return_, 1) := by decide +kernel
theorem dX7_note_0 : decode cX7_note 0 = .ok (.iload_n 3, 1) := by decide +kernel
theorem dX7_note_1 : decode cX7_note 1 = .ok (.ifCond .le 19, 3) := by decide +kernel
theorem dX7_note_4 : decode cX7_note 4 = .ok (.aload_n 0, 1) := by decide +kernel
theorem dX7_note_5 : decode cX7_note 5 = .ok (.getfield 42, 3) := by decide +kernel
theorem dX7_note_8 : decode cX7_note 8 = .ok (.iload_n 1, 1) := by decide +kernel
theorem dX7_note_9 : decode cX7_note 9 = .ok (.iload_n 2, 1) := by decide +kernel
theorem dX7_note_10 : decode cX7_note 10 = .ok (.aload_n 0, 1) := by decide +kernel
theorem dX7_note_11 : decode cX7_note 11 = .ok (.getfield 57, 3) := by decide +kernel
theorem dX7_note_14 : decode cX7_note 14 = .ok (.iload_n 3, 1) := by decide +kernel
theorem dX7_note_15 : decode cX7_note 15 = .ok (.iload 4, 2) := by decide +kernel
theorem dX7_note_17 : decode cX7_note 17 = .ok (.invokevirtual 83, 3) := by decide +kernel
theorem dX7_note_20 : decode cX7_note 20 = .ok (.return_, 1) := by decide +kernel
theorem dX9_sell_0 : decode cX9_sell 0 = .ok (.aload_n 0, 1) := by decide +kernel
theorem dX9_sell_1 : decode cX9_sell 1 = .ok (.getfield 10, 3) := by decide +kernel
theorem dX9_sell_4 : decode cX9_sell 4 = .ok (.getfield 136, 3) := by decide +kernel
theorem dX9_sell_7 : decode cX9_sell 7 = .ok (.astore 4, 2) := by decide +kernel
theorem dX9_sell_9 : decode cX9_sell 9 = .ok (.aload_n 0, 1) := by decide +kernel
theorem dX9_sell_10 : decode cX9_sell 10 = .ok (.iload_n 1, 1) := by decide +kernel
theorem dX9_sell_11 : decode cX9_sell 11 = .ok (.iload_n 2, 1) := by decide +kernel
theorem dX9_sell_12 : decode cX9_sell 12 = .ok (.invokevirtual 140, 3) := by decide +kernel
theorem dX9_sell_15 : decode cX9_sell 15 = .ok (.ifCond .eq 13, 3) := by decide +kernel
theorem dX9_sell_18 : decode cX9_sell 18 = .ok (.aload 4, 2) := by decide +kernel
theorem dX9_sell_20 : decode cX9_sell 20 = .ok (.getfield 144, 3) := by decide +kernel
theorem dX9_sell_23 : decode cX9_sell 23 = .ok (.bipush 40, 2) := by decide +kernel
theorem dX9_sell_25 : decode cX9_sell 25 = .ok (.if_icmp .lt 5, 3) := by decide +kernel
theorem dX9_sell_28 : decode cX9_sell 28 = .ok (.iconst (-1), 1) := by decide +kernel
theorem dX9_sell_29 : decode cX9_sell 29 = .ok (.ireturn, 1) := by decide +kernel
theorem dX9_sell_30 : decode cX9_sell 30 = .ok (.iload_n 3, 1) := by decide +kernel
theorem dX9_sell_31 : decode cX9_sell 31 = .ok (.aload_n 0, 1) := by decide +kernel
theorem dX9_sell_32 : decode cX9_sell 32 = .ok (.getfield 10, 3) := by decide +kernel
theorem dX9_sell_35 : decode cX9_sell 35 = .ok (.getfield 90, 3) := by decide +kernel
theorem dX9_sell_38 : decode cX9_sell 38 = .ok (.iconst 2, 1) := by decide +kernel
theorem dX9_sell_39 : decode cX9_sell 39 = .ok (.isub, 1) := by decide +kernel
theorem dX9_sell_40 : decode cX9_sell 40 = .ok (.if_icmp .lt 30, 3) := by decide +kernel
theorem dX9_sell_43 : decode cX9_sell 43 = .ok (.iload_n 3, 1) := by decide +kernel
theorem dX9_sell_44 : decode cX9_sell 44 = .ok (.aload_n 0, 1) := by decide +kernel
theorem dX9_sell_45 : decode cX9_sell 45 = .ok (.getfield 10, 3) := by decide +kernel
theorem dX9_sell_48 : decode cX9_sell 48 = .ok (.getfield 90, 3) := by decide +kernel
theorem dX9_sell_51 : decode cX9_sell 51 = .ok (.if_icmp .gt 19, 3) := by decide +kernel
theorem dX9_sell_54 : decode cX9_sell 54 = .ok (.iload_n 3, 1) := by decide +kernel
theorem dX9_sell_55 : decode cX9_sell 55 = .ok (.aload_n 0, 1) := by decide +kernel
theorem dX9_sell_56 : decode cX9_sell 56 = .ok (.getfield 10, 3) := by decide +kernel
theorem dX9_sell_59 : decode cX9_sell 59 = .ok (.getfield 93, 3) := by decide +kernel
theorem dX9_sell_62 : decode cX9_sell 62 = .ok (.getfield 147, 3) := by decide +kernel
theorem dX9_sell_65 : decode cX9_sell 65 = .ok (.iload_n 1, 1) := by decide +kernel
theorem dX9_sell_66 : decode cX9_sell 66 = .ok (.iaload, 1) := by decide +kernel
theorem dX9_sell_67 : decode cX9_sell 67 = .ok (.if_icmp .ge 5, 3) := by decide +kernel
theorem dX9_sell_70 : decode cX9_sell 70 = .ok (.iconst (-1), 1) := by decide +kernel
theorem dX9_sell_71 : decode cX9_sell 71 = .ok (.ireturn, 1) := by decide +kernel
theorem dX9_sell_72 : decode cX9_sell 72 = .ok (.aload 4, 2) := by decide +kernel
theorem dX9_sell_74 : decode cX9_sell 74 = .ok (.iload_n 1, 1) := by decide +kernel
theorem dX9_sell_75 : decode cX9_sell 75 = .ok (.iload_n 2, 1) := by decide +kernel
theorem dX9_sell_76 : decode cX9_sell 76 = .ok (.iload_n 3, 1) := by decide +kernel
theorem dX9_sell_77 : decode cX9_sell 77 = .ok (.aload_n 0, 1) := by decide +kernel
theorem dX9_sell_78 : decode cX9_sell 78 = .ok (.getfield 10, 3) := by decide +kernel
theorem dX9_sell_81 : decode cX9_sell 81 = .ok (.getfield 90, 3) := by decide +kernel
theorem dX9_sell_84 : decode cX9_sell 84 = .ok (.invokevirtual 150, 3) := by decide +kernel
theorem dX9_sell_87 : decode cX9_sell 87 = .ok (.istore 5, 2) := by decide +kernel
theorem dX9_sell_89 : decode cX9_sell 89 = .ok (.aload_n 0, 1) := by decide +kernel
theorem dX9_sell_90 : decode cX9_sell 90 = .ok (.getfield 30, 3) := by decide +kernel
theorem dX9_sell_93 : decode cX9_sell 93 = .ok (.aload_n 0, 1) := by decide +kernel
theorem dX9_sell_94 : decode cX9_sell 94 = .ok (.getfield 10, 3) := by decide +kernel
theorem dX9_sell_97 : decode cX9_sell 97 = .ok (.iload_n 3, 1) := by decide +kernel
theorem dX9_sell_98 : decode cX9_sell 98 = .ok (.invokevirtual 154, 3) := by decide +kernel
theorem dX9_sell_101 : decode cX9_sell 101 = .ok (.aload_n 0, 1) := by decide +kernel
theorem dX9_sell_102 : decode cX9_sell 102 = .ok (.getfield 37, 3) := by decide +kernel
theorem dX9_sell_105 : decode cX9_sell 105 = .ok (.aload_n 0, 1) := by decide +kernel
theorem dX9_sell_106 : decode cX9_sell 106 = .ok (.getfield 10, 3) := by decide +kernel
theorem dX9_sell_109 : decode cX9_sell 109 = .ok (.aload_n 0, 1) := by decide +kernel
theorem dX9_sell_110 : decode cX9_sell 110 = .ok (.getfield 30, 3) := by decide +kernel
theorem dX9_sell_113 : decode cX9_sell 113 = .ok (.iload_n 1, 1) := by decide +kernel
theorem dX9_sell_114 : decode cX9_sell 114 = .ok (.iload_n 2, 1) := by decide +kernel
theorem dX9_sell_115 : decode cX9_sell 115 = .ok (.invokevirtual 158, 3) := by decide +kernel
theorem dX9_sell_118 : decode cX9_sell 118 = .ok (.aload 4, 2) := by decide +kernel
theorem dX9_sell_120 : decode cX9_sell 120 = .ok (.iload 5, 2) := by decide +kernel
theorem dX9_sell_122 : decode cX9_sell 122 = .ok (.aload_n 0, 1) := by decide +kernel
theorem dX9_sell_123 : decode cX9_sell 123 = .ok (.getfield 37, 3) := by decide +kernel
theorem dX9_sell_126 : decode cX9_sell 126 = .ok (.invokevirtual 162, 3) := by decide +kernel
theorem dX9_sell_129 : decode cX9_sell 129 = .ok (.iconst 1, 1) := by decide +kernel
theorem dX9_sell_130 : decode cX9_sell 130 = .ok (.istore 6, 2) := by decide +kernel
theorem dX9_sell_132 : decode cX9_sell 132 = .ok (.iload 6, 2) := by decide +kernel
theorem dX9_sell_134 : decode cX9_sell 134 = .ok (.aload_n 0, 1) := by decide +kernel
theorem dX9_sell_135 : decode cX9_sell 135 = .ok (.getfield 37, 3) := by decide +kernel
theorem dX9_sell_138 : decode cX9_sell 138 = .ok (.getfield 166, 3) := by decide +kernel
theorem dX9_sell_141 : decode cX9_sell 141 = .ok (.if_icmp .gt 39, 3) := by decide +kernel
theorem dX9_sell_144 : decode cX9_sell 144 = .ok (.aload_n 0, 1) := by decide +kernel
theorem dX9_sell_145 : decode cX9_sell 145 = .ok (.getfield 10, 3) := by decide +kernel
theorem dX9_sell_148 : decode cX9_sell 148 = .ok (.aload_n 0, 1) := by decide +kernel
theorem dX9_sell_149 : decode cX9_sell 149 = .ok (.getfield 37, 3) := by decide +kernel
theorem dX9_sell_152 : decode cX9_sell 152 = .ok (.iload 6, 2) := by decide +kernel
theorem dX9_sell_154 : decode cX9_sell 154 = .ok (.iconst 0, 1) := by decide +kernel
theorem dX9_sell_155 : decode cX9_sell 155 = .ok (.invokevirtual 169, 3) := by decide +kernel
theorem dX9_sell_158 : decode cX9_sell 158 = .ok (.iconst 0, 1) := by decide +kernel
theorem dX9_sell_159 : decode cX9_sell 159 = .ok (.aload_n 0, 1) := by decide +kernel
theorem dX9_sell_160 : decode cX9_sell 160 = .ok (.getfield 37, 3) := by decide +kernel
theorem dX9_sell_163 : decode cX9_sell 163 = .ok (.iload 6, 2) := by decide +kernel
theorem dX9_sell_165 : decode cX9_sell 165 = .ok (.iconst 2, 1) := by decide +kernel
theorem dX9_sell_166 : decode cX9_sell 166 = .ok (.invokevirtual 169, 3) := by decide +kernel
theorem dX9_sell_169 : decode cX9_sell 169 = .ok (.iload 5, 2) := by decide +kernel
theorem dX9_sell_171 : decode cX9_sell 171 = .ok (.invokevirtual 172, 3) := by decide +kernel
theorem dX9_sell_174 : decode cX9_sell 174 = .ok (.iinc 6 1, 3) := by decide +kernel
theorem dX9_sell_177 : decode cX9_sell 177 = .ok (.goto (-45), 3) := by decide +kernel
theorem dX9_sell_180 : decode cX9_sell 180 = .ok (.iload 5, 2) := by decide +kernel
theorem dX9_sell_182 : decode cX9_sell 182 = .ok (.ireturn, 1) := by decide +kernel
theorem dX10_canSell_0 : decode cX10_canSell 0 = .ok (.aload_n 0, 1) := by decide +kernel
theorem dX10_canSell_1 : decode cX10_canSell 1 = .ok (.iload_n 1, 1) := by decide +kernel
theorem dX10_canSell_2 : decode cX10_canSell 2 = .ok (.invokevirtual 253, 3) := by decide +kernel
theorem dX10_canSell_5 : decode cX10_canSell 5 = .ok (.ifCond .eq 52, 3) := by decide +kernel
theorem dX10_canSell_8 : decode cX10_canSell 8 = .ok (.aload_n 0, 1) := by decide +kernel
theorem dX10_canSell_9 : decode cX10_canSell 9 = .ok (.iload_n 1, 1) := by decide +kernel
theorem dX10_canSell_10 : decode cX10_canSell 10 = .ok (.invokevirtual 190, 3) := by decide +kernel
theorem dX10_canSell_13 : decode cX10_canSell 13 = .ok (.ifCond .ne 44, 3) := by decide +kernel
theorem dX10_canSell_16 : decode cX10_canSell 16 = .ok (.iload_n 2, 1) := by decide +kernel
theorem dX10_canSell_17 : decode cX10_canSell 17 = .ok (.iconst 1, 1) := by decide +kernel
theorem dX10_canSell_18 : decode cX10_canSell 18 = .ok (.sipush 9999, 3) := by decide +kernel
theorem dX10_canSell_21 : decode cX10_canSell 21 = .ok (.invokestatic 59, 3) := by decide +kernel
theorem dX10_canSell_24 : decode cX10_canSell 24 = .ok (.ifCond .eq 33, 3) := by decide +kernel
theorem dX10_canSell_27 : decode cX10_canSell 27 = .ok (.iload_n 3, 1) := by decide +kernel
theorem dX10_canSell_28 : decode cX10_canSell 28 = .ok (.aload_n 0, 1) := by decide +kernel
theorem dX10_canSell_29 : decode cX10_canSell 29 = .ok (.iload_n 1, 1) := by decide +kernel
theorem dX10_canSell_30 : decode cX10_canSell 30 = .ok (.iconst 0, 1) := by decide +kernel
theorem dX10_canSell_31 : decode cX10_canSell 31 = .ok (.invokevirtual 159, 3) := by decide +kernel
theorem dX10_canSell_34 : decode cX10_canSell 34 = .ok (.aload_n 0, 1) := by decide +kernel
theorem dX10_canSell_35 : decode cX10_canSell 35 = .ok (.invokevirtual 218, 3) := by decide +kernel
theorem dX10_canSell_38 : decode cX10_canSell 38 = .ok (.iconst 2, 1) := by decide +kernel
theorem dX10_canSell_39 : decode cX10_canSell 39 = .ok (.isub, 1) := by decide +kernel
theorem dX10_canSell_40 : decode cX10_canSell 40 = .ok (.invokestatic 193, 3) := by decide +kernel
theorem dX10_canSell_43 : decode cX10_canSell 43 = .ok (.aload_n 0, 1) := by decide +kernel
theorem dX10_canSell_44 : decode cX10_canSell 44 = .ok (.invokevirtual 218, 3) := by decide +kernel
theorem dX10_canSell_47 : decode cX10_canSell 47 = .ok (.invokestatic 59, 3) := by decide +kernel
theorem dX10_canSell_50 : decode cX10_canSell 50 = .ok (.ifCond .eq 7, 3) := by decide +kernel
theorem dX10_canSell_53 : decode cX10_canSell 53 = .ok (.iconst 1, 1) := by decide +kernel
theorem dX10_canSell_54 : decode cX10_canSell 54 = .ok (.goto 4, 3) := by decide +kernel
theorem dX10_canSell_57 : decode cX10_canSell 57 = .ok (.iconst 0, 1) := by decide +kernel
theorem dX10_canSell_58 : decode cX10_canSell 58 = .ok (.ireturn, 1) := by decide +kernel
theorem dX10_laysOwn_0 : decode cX10_laysOwn 0 = .ok (.iconst 0, 1) := by decide +kernel
theorem dX10_laysOwn_1 : decode cX10_laysOwn 1 = .ok (.istore_n 1, 1) := by decide +kernel
theorem dX10_laysOwn_2 : decode cX10_laysOwn 2 = .ok (.iload_n 1, 1) := by decide +kernel
theorem dX10_laysOwn_3 : decode cX10_laysOwn 3 = .ok (.sipush 1100, 3) := by decide +kernel
theorem dX10_laysOwn_6 : decode cX10_laysOwn 6 = .ok (.if_icmp .ge 16, 3) := by decide +kernel
theorem dX10_laysOwn_9 : decode cX10_laysOwn 9 = .ok (.aload_n 0, 1) := by decide +kernel
theorem dX10_laysOwn_10 : decode cX10_laysOwn 10 = .ok (.getfield 34, 3) := by decide +kernel
theorem dX10_laysOwn_13 : decode cX10_laysOwn 13 = .ok (.iload_n 1, 1) := by decide +kernel
theorem dX10_laysOwn_14 : decode cX10_laysOwn 14 = .ok (.iconst 0, 1) := by decide +kernel
theorem dX10_laysOwn_15 : decode cX10_laysOwn 15 = .ok (.iastore, 1) := by decide +kernel
theorem dX10_laysOwn_16 : decode cX10_laysOwn 16 = .ok (.iinc 1 1, 3) := by decide +kernel
theorem dX10_laysOwn_19 : decode cX10_laysOwn 19 = .ok (.goto (-17), 3) := by decide +kernel
theorem dX10_laysOwn_22 : decode cX10_laysOwn 22 = .ok (.iconst 0, 1) := by decide +kernel
theorem dX10_laysOwn_23 : decode cX10_laysOwn 23 = .ok (.istore_n 1, 1) := by decide +kernel
theorem dX10_laysOwn_24 : decode cX10_laysOwn 24 = .ok (.iload_n 1, 1) := by decide +kernel
theorem dX10_laysOwn_25 : decode cX10_laysOwn 25 = .ok (.aload_n 0, 1) := by decide +kernel
theorem dX10_laysOwn_26 : decode cX10_laysOwn 26 = .ok (.getfield 7, 3) := by decide +kernel
theorem dX10_laysOwn_29 : decode cX10_laysOwn 29 = .ok (.sipush 146, 3) := by decide +kernel
theorem dX10_laysOwn_32 : decode cX10_laysOwn 32 = .ok (.iaload, 1) := by decide +kernel
theorem dX10_laysOwn_33 : decode cX10_laysOwn 33 = .ok (.if_icmp .ge 44, 3) := by decide +kernel
theorem dX10_laysOwn_36 : decode cX10_laysOwn 36 = .ok (.aload_n 0, 1) := by decide +kernel
theorem dX10_laysOwn_37 : decode cX10_laysOwn 37 = .ok (.getfield 34, 3) := by decide +kernel
theorem dX10_laysOwn_40 : decode cX10_laysOwn 40 = .ok (.bipush 100, 2) := by decide +kernel
theorem dX10_laysOwn_42 : decode cX10_laysOwn 42 = .ok (.aload_n 0, 1) := by decide +kernel
theorem dX10_laysOwn_43 : decode cX10_laysOwn 43 = .ok (.iload_n 1, 1) := by decide +kernel
theorem dX10_laysOwn_44 : decode cX10_laysOwn 44 = .ok (.iconst 0, 1) := by decide +kernel
theorem dX10_laysOwn_45 : decode cX10_laysOwn 45 = .ok (.invokevirtual 162, 3) := by decide +kernel
theorem dX10_laysOwn_48 : decode cX10_laysOwn 48 = .ok (.imul, 1) := by decide +kernel
theorem dX10_laysOwn_49 : decode cX10_laysOwn 49 = .ok (.aload_n 0, 1) := by decide +kernel
theorem dX10_laysOwn_50 : decode cX10_laysOwn 50 = .ok (.iload_n 1, 1) := by decide +kernel
theorem dX10_laysOwn_51 : decode cX10_laysOwn 51 = .ok (.iconst 2, 1) := by decide +kernel
theorem dX10_laysOwn_52 : decode cX10_laysOwn 52 = .ok (.invokevirtual 162, 3) := by decide +kernel
theorem dX10_laysOwn_55 : decode cX10_laysOwn 55 = .ok (.iadd, 1) := by decide +kernel
theorem dX10_laysOwn_56 : decode cX10_laysOwn 56 = .ok (.dup2, 1) := by decide +kernel
theorem dX10_laysOwn_57 : decode cX10_laysOwn 57 = .ok (.iaload, 1) := by decide +kernel
theorem dX10_laysOwn_58 : decode cX10_laysOwn 58 = .ok (.aload_n 0, 1) := by decide +kernel
theorem dX10_laysOwn_59 : decode cX10_laysOwn 59 = .ok (.iload_n 1, 1) := by decide +kernel
theorem dX10_laysOwn_60 : decode cX10_laysOwn 60 = .ok (.aload_n 0, 1) := by decide +kernel
theorem dX10_laysOwn_61 : decode cX10_laysOwn 61 = .ok (.iload_n 1, 1) := by decide +kernel
theorem dX10_laysOwn_62 : decode cX10_laysOwn 62 = .ok (.iconst 1, 1) := by decide +kernel
theorem dX10_laysOwn_63 : decode cX10_laysOwn 63 = .ok (.invokevirtual 162, 3) := by decide +kernel
theorem dX10_laysOwn_66 : decode cX10_laysOwn 66 = .ok (.invokevirtual 187, 3) := by decide +kernel
theorem dX10_laysOwn_69 : decode cX10_laysOwn 69 = .ok (.iadd, 1) := by decide +kernel
theorem dX10_laysOwn_70 : decode cX10_laysOwn 70 = .ok (.iastore, 1) := by decide +kernel
theorem dX10_laysOwn_71 : decode cX10_laysOwn 71 = .ok (.iinc 1 1, 3) := by decide +kernel
theorem dX10_laysOwn_74 : decode cX10_laysOwn 74 = .ok (.goto (-50), 3) := by decide +kernel
theorem dX10_laysOwn_77 : decode cX10_laysOwn 77 = .ok (.return_, 1) := by decide +kernel
theorem dX10_isActive_0 : decode cX10_isActive 0 = .ok (.iload_n 1, 1) := by decide +kernel
theorem dX10_isActive_1 : decode cX10_isActive 1 = .ok (.aload_n 0, 1) := by decide +kernel
theorem dX10_isActive_2 : decode cX10_isActive 2 = .ok (.getfield 7, 3) := by decide +kernel
theorem dX10_isActive_5 : decode cX10_isActive 5 = .ok (.sipush 145, 3) := by decide +kernel
theorem dX10_isActive_8 : decode cX10_isActive 8 = .ok (.iaload, 1) := by decide +kernel
theorem dX10_isActive_9 : decode cX10_isActive 9 = .ok (.if_icmp .ge 25, 3) := by decide +kernel
theorem dX10_isActive_12 : decode cX10_isActive 12 = .ok (.aload_n 0, 1) := by decide +kernel
theorem dX10_isActive_13 : decode cX10_isActive 13 = .ok (.iload_n 1, 1) := by decide +kernel
theorem dX10_isActive_14 : decode cX10_isActive 14 = .ok (.invokevirtual 190, 3) := by decide +kernel
theorem dX10_isActive_17 : decode cX10_isActive 17 = .ok (.ifCond .eq 17, 3) := by decide +kernel
theorem dX10_isActive_20 : decode cX10_isActive 20 = .ok (.aload_n 0, 1) := by decide +kernel
theorem dX10_isActive_21 : decode cX10_isActive 21 = .ok (.iload_n 1, 1) := by decide +kernel
theorem dX10_isActive_22 : decode cX10_isActive 22 = .ok (.iconst 1, 1) := by decide +kernel
theorem dX10_isActive_23 : decode cX10_isActive 23 = .ok (.invokevirtual 159, 3) := by decide +kernel
theorem dX10_isActive_26 : decode cX10_isActive 26 = .ok (.iload_n 2, 1) := by decide +kernel
theorem dX10_isActive_27 : decode cX10_isActive 27 = .ok (.if_icmp .gt 7, 3) := by decide +kernel
theorem dX10_isActive_30 : decode cX10_isActive 30 = .ok (.iconst 1, 1) := by decide +kernel
theorem dX10_isActive_31 : decode cX10_isActive 31 = .ok (.goto 4, 3) := by decide +kernel
theorem dX10_isActive_34 : decode cX10_isActive 34 = .ok (.iconst 0, 1) := by decide +kernel
theorem dX10_isActive_35 : decode cX10_isActive 35 = .ok (.istore_n 3, 1) := by decide +kernel
theorem dX10_isActive_36 : decode cX10_isActive 36 = .ok (.iload_n 3, 1) := by decide +kernel
theorem dX10_isActive_37 : decode cX10_isActive 37 = .ok (.ifCond .ne 27, 3) := by decide +kernel
theorem dX10_isActive_40 : decode cX10_isActive 40 = .ok (.aload_n 0, 1) := by decide +kernel
theorem dX10_isActive_41 : decode cX10_isActive 41 = .ok (.getfield 34, 3) := by decide +kernel
theorem dX10_isActive_44 : decode cX10_isActive 44 = .ok (.bipush 100, 2) := by decide +kernel
theorem dX10_isActive_46 : decode cX10_isActive 46 = .ok (.iload_n 1, 1) := by decide +kernel
theorem dX10_isActive_47 : decode cX10_isActive 47 = .ok (.imul, 1) := by decide +kernel
theorem dX10_isActive_48 : decode cX10_isActive 48 = .ok (.iload_n 2, 1) := by decide +kernel
theorem dX10_isActive_49 : decode cX10_isActive 49 = .ok (.iadd, 1) := by decide +kernel
theorem dX10_isActive_50 : decode cX10_isActive 50 = .ok (.iaload, 1) := by decide +kernel
theorem dX10_isActive_51 : decode cX10_isActive 51 = .ok (.aload_n 0, 1) := by decide +kernel
theorem dX10_isActive_52 : decode cX10_isActive 52 = .ok (.getfield 7, 3) := by decide +kernel
theorem dX10_isActive_55 : decode cX10_isActive 55 = .ok (.iconst 3, 1) := by decide +kernel
theorem dX10_isActive_56 : decode cX10_isActive 56 = .ok (.iaload, 1) := by decide +kernel
theorem dX10_isActive_57 : decode cX10_isActive 57 = .ok (.if_icmp .lt 7, 3) := by decide +kernel
theorem dX10_isActive_60 : decode cX10_isActive 60 = .ok (.iconst 1, 1) := by decide +kernel
theorem dX10_isActive_61 : decode cX10_isActive 61 = .ok (.goto 4, 3) := by decide +kernel
theorem dX10_isActive_64 : decode cX10_isActive 64 = .ok (.iconst 0, 1) := by decide +kernel
theorem dX10_isActive_65 : decode cX10_isActive 65 = .ok (.ireturn, 1) := by decide +kernel
theorem dX10_belowOf_0 : decode cX10_belowOf 0 = .ok (.iconst 0, 1) := by decide +kernel
theorem dX10_belowOf_1 : decode cX10_belowOf 1 = .ok (.istore_n 2, 1) := by decide +kernel
theorem dX10_belowOf_2 : decode cX10_belowOf 2 = .ok (.iconst 0, 1) := by decide +kernel
theorem dX10_belowOf_3 : decode cX10_belowOf 3 = .ok (.istore_n 3, 1) := by decide +kernel
theorem dX10_belowOf_4 : decode cX10_belowOf 4 = .ok (.iload_n 3, 1) := by decide +kernel
theorem dX10_belowOf_5 : decode cX10_belowOf 5 = .ok (.aload_n 0, 1) := by decide +kernel
theorem dX10_belowOf_6 : decode cX10_belowOf 6 = .ok (.getfield 174, 3) := by decide +kernel
theorem dX10_belowOf_9 : decode cX10_belowOf 9 = .ok (.if_icmp .ge 37, 3) := by decide +kernel
theorem dX10_belowOf_12 : decode cX10_belowOf 12 = .ok (.iload_n 2, 1) := by decide +kernel
theorem dX10_belowOf_13 : decode cX10_belowOf 13 = .ok (.aload_n 0, 1) := by decide +kernel
theorem dX10_belowOf_14 : decode cX10_belowOf 14 = .ok (.getfield 30, 3) := by decide +kernel
theorem dX10_belowOf_17 : decode cX10_belowOf 17 = .ok (.iload_n 3, 1) := by decide +kernel
theorem dX10_belowOf_18 : decode cX10_belowOf 18 = .ok (.baload, 1) := by decide +kernel
theorem dX10_belowOf_19 : decode cX10_belowOf 19 = .ok (.ifCond .eq 18, 3) := by decide +kernel
theorem dX10_belowOf_22 : decode cX10_belowOf 22 = .ok (.aload_n 0, 1) := by decide +kernel
theorem dX10_belowOf_23 : decode cX10_belowOf 23 = .ok (.iload_n 3, 1) := by decide +kernel
theorem dX10_belowOf_24 : decode cX10_belowOf 24 = .ok (.iload_n 1, 1) := by decide +kernel
theorem dX10_belowOf_25 : decode cX10_belowOf 25 = .ok (.invokevirtual 180, 3) := by decide +kernel
theorem dX10_belowOf_28 : decode cX10_belowOf 28 = .ok (.ifCond .lt 9, 3) := by decide +kernel
theorem dX10_belowOf_31 : decode cX10_belowOf 31 = .ok (.iconst 1, 1) := by decide +kernel
theorem dX10_belowOf_32 : decode cX10_belowOf 32 = .ok (.iload_n 3, 1) := by decide +kernel
theorem dX10_belowOf_33 : decode cX10_belowOf 33 = .ok (.ishl, 1) := by decide +kernel
theorem dX10_belowOf_34 : decode cX10_belowOf 34 = .ok (.goto 4, 3) := by decide +kernel
theorem dX10_belowOf_37 : decode cX10_belowOf 37 = .ok (.iconst 0, 1) := by decide +kernel
theorem dX10_belowOf_38 : decode cX10_belowOf 38 = .ok (.ior, 1) := by decide +kernel
theorem dX10_belowOf_39 : decode cX10_belowOf 39 = .ok (.istore_n 2, 1) := by decide +kernel
theorem dX10_belowOf_40 : decode cX10_belowOf 40 = .ok (.iinc 3 1, 3) := by decide +kernel
theorem dX10_belowOf_43 : decode cX10_belowOf 43 = .ok (.goto (-39), 3) := by decide +kernel
theorem dX10_belowOf_46 : decode cX10_belowOf 46 = .ok (.iload_n 2, 1) := by decide +kernel
theorem dX10_belowOf_47 : decode cX10_belowOf 47 = .ok (.ireturn, 1) := by decide +kernel
theorem dX10_has_0 : decode cX10_has 0 = .ok (.iload_n 0, 1) := by decide +kernel
theorem dX10_has_1 : decode cX10_has 1 = .ok (.iload_n 1, 1) := by decide +kernel
theorem dX10_has_2 : decode cX10_has 2 = .ok (.ishr, 1) := by decide +kernel
theorem dX10_has_3 : decode cX10_has 3 = .ok (.iconst 1, 1) := by decide +kernel
theorem dX10_has_4 : decode cX10_has 4 = .ok (.iand, 1) := by decide +kernel
theorem dX10_has_5 : decode cX10_has 5 = .ok (.iconst 1, 1) := by decide +kernel
theorem dX10_has_6 : decode cX10_has 6 = .ok (.if_icmp .ne 7, 3) := by decide +kernel
theorem dX10_has_9 : decode cX10_has 9 = .ok (.iconst 1, 1) := by decide +kernel
theorem dX10_has_10 : decode cX10_has 10 = .ok (.goto 4, 3) := by decide +kernel
theorem dX10_has_13 : decode cX10_has 13 = .ok (.iconst 0, 1) := by decide +kernel
theorem dX10_has_14 : decode cX10_has 14 = .ok (.ireturn, 1) := by decide +kernel
theorem dX10_volumeOf_0 : decode cX10_volumeOf 0 = .ok (.iconst 0, 1) := by decide +kernel
theorem dX10_volumeOf_1 : decode cX10_volumeOf 1 = .ok (.istore_n 2, 1) := by decide +kernel
theorem dX10_volumeOf_2 : decode cX10_volumeOf 2 = .ok (.iconst 0, 1) := by decide +kernel
theorem dX10_volumeOf_3 : decode cX10_volumeOf 3 = .ok (.aload_n 0, 1) := by decide +kernel
theorem dX10_volumeOf_4 : decode cX10_volumeOf 4 = .ok (.getfield 171, 3) := by decide +kernel
theorem dX10_volumeOf_7 : decode cX10_volumeOf 7 = .ok (.aload_n 0, 1) := by decide +kernel
theorem dX10_volumeOf_8 : decode cX10_volumeOf 8 = .ok (.getfield 7, 3) := by decide +kernel
theorem dX10_volumeOf_11 : decode cX10_volumeOf 11 = .ok (.bipush 6, 2) := by decide +kernel
theorem dX10_volumeOf_13 : decode cX10_volumeOf 13 = .ok (.iaload, 1) := by decide +kernel
theorem dX10_volumeOf_14 : decode cX10_volumeOf 14 = .ok (.isub, 1) := by decide +kernel
theorem dX10_volumeOf_15 : decode cX10_volumeOf 15 = .ok (.iconst 1, 1) := by decide +kernel
theorem dX10_volumeOf_16 : decode cX10_volumeOf 16 = .ok (.iadd, 1) := by decide +kernel
theorem dX10_volumeOf_17 : decode cX10_volumeOf 17 = .ok (.invokestatic 193, 3) := by decide +kernel
theorem dX10_volumeOf_20 : decode cX10_volumeOf 20 = .ok (.istore_n 3, 1) := by decide +kernel
theorem dX10_volumeOf_21 : decode cX10_volumeOf 21 = .ok (.iload_n 3, 1) := by decide +kernel
theorem dX10_volumeOf_22 : decode cX10_volumeOf 22 = .ok (.aload_n 0, 1) := by decide +kernel
theorem dX10_volumeOf_23 : decode cX10_volumeOf 23 = .ok (.getfield 171, 3) := by decide +kernel
theorem dX10_volumeOf_26 : decode cX10_volumeOf 26 = .ok (.if_icmp .gt 23, 3) := by decide +kernel
theorem dX10_volumeOf_29 : decode cX10_volumeOf 29 = .ok (.iload_n 2, 1) := by decide +kernel
theorem dX10_volumeOf_30 : decode cX10_volumeOf 30 = .ok (.aload_n 0, 1) := by decide +kernel
theorem dX10_volumeOf_31 : decode cX10_volumeOf 31 = .ok (.getfield 34, 3) := by decide +kernel
theorem dX10_volumeOf_34 : decode cX10_volumeOf 34 = .ok (.bipush 100, 2) := by decide +kernel
theorem dX10_volumeOf_36 : decode cX10_volumeOf 36 = .ok (.iload_n 1, 1) := by decide +kernel
theorem dX10_volumeOf_37 : decode cX10_volumeOf 37 = .ok (.imul, 1) := by decide +kernel
theorem dX10_volumeOf_38 : decode cX10_volumeOf 38 = .ok (.iload_n 3, 1) := by decide +kernel
theorem dX10_volumeOf_39 : decode cX10_volumeOf 39 = .ok (.iadd, 1) := by decide +kernel
theorem dX10_volumeOf_40 : decode cX10_volumeOf 40 = .ok (.iaload, 1) := by decide +kernel
theorem dX10_volumeOf_41 : decode cX10_volumeOf 41 = .ok (.iadd, 1) := by decide +kernel
theorem dX10_volumeOf_42 : decode cX10_volumeOf 42 = .ok (.istore_n 2, 1) := by decide +kernel
theorem dX10_volumeOf_43 : decode cX10_volumeOf 43 = .ok (.iinc 3 1, 3) := by decide +kernel
theorem dX10_volumeOf_46 : decode cX10_volumeOf 46 = .ok (.goto (-25), 3) := by decide +kernel
theorem dX10_volumeOf_49 : decode cX10_volumeOf 49 = .ok (.iload_n 2, 1) := by decide +kernel
theorem dX10_volumeOf_50 : decode cX10_volumeOf 50 = .ok (.ireturn, 1) := by decide +kernel
theorem dX10_groupOf_0 : decode cX10_groupOf 0 = .ok (.aload_n 0, 1) := by decide +kernel
theorem dX10_groupOf_1 : decode cX10_groupOf 1 = .ok (.iload_n 1, 1) := by decide +kernel
theorem dX10_groupOf_2 : decode cX10_groupOf 2 = .ok (.invokevirtual 196, 3) := by decide +kernel
theorem dX10_groupOf_5 : decode cX10_groupOf 5 = .ok (.istore_n 2, 1) := by decide +kernel
theorem dX10_groupOf_6 : decode cX10_groupOf 6 = .ok (.iconst 0, 1) := by decide +kernel
theorem dX10_groupOf_7 : decode cX10_groupOf 7 = .ok (.istore_n 3, 1) := by decide +kernel
theorem dX10_groupOf_8 : decode cX10_groupOf 8 = .ok (.iconst 0, 1) := by decide +kernel
theorem dX10_groupOf_9 : decode cX10_groupOf 9 = .ok (.istore 4, 2) := by decide +kernel
theorem dX10_groupOf_11 : decode cX10_groupOf 11 = .ok (.iload 4, 2) := by decide +kernel
theorem dX10_groupOf_13 : decode cX10_groupOf 13 = .ok (.aload_n 0, 1) := by decide +kernel
theorem dX10_groupOf_14 : decode cX10_groupOf 14 = .ok (.getfield 174, 3) := by decide +kernel
theorem dX10_groupOf_17 : decode cX10_groupOf 17 = .ok (.if_icmp .ge 31, 3) := by decide +kernel
theorem dX10_groupOf_20 : decode cX10_groupOf 20 = .ok (.iload_n 3, 1) := by decide +kernel
theorem dX10_groupOf_21 : decode cX10_groupOf 21 = .ok (.iload_n 2, 1) := by decide +kernel
theorem dX10_groupOf_22 : decode cX10_groupOf 22 = .ok (.iload 4, 2) := by decide +kernel
theorem dX10_groupOf_24 : decode cX10_groupOf 24 = .ok (.invokestatic 183, 3) := by decide +kernel
theorem dX10_groupOf_27 : decode cX10_groupOf 27 = .ok (.ifCond .eq 12, 3) := by decide +kernel
theorem dX10_groupOf_30 : decode cX10_groupOf 30 = .ok (.aload_n 0, 1) := by decide +kernel
theorem dX10_groupOf_31 : decode cX10_groupOf 31 = .ok (.iload 4, 2) := by decide +kernel
theorem dX10_groupOf_33 : decode cX10_groupOf 33 = .ok (.invokevirtual 200, 3) := by decide +kernel
theorem dX10_groupOf_36 : decode cX10_groupOf 36 = .ok (.goto 4, 3) := by decide +kernel
theorem dX10_groupOf_39 : decode cX10_groupOf 39 = .ok (.iconst 0, 1) := by decide +kernel
theorem dX10_groupOf_40 : decode cX10_groupOf 40 = .ok (.iadd, 1) := by decide +kernel
theorem dX10_groupOf_41 : decode cX10_groupOf 41 = .ok (.istore_n 3, 1) := by decide +kernel
theorem dX10_groupOf_42 : decode cX10_groupOf 42 = .ok (.iinc 4 1, 3) := by decide +kernel
theorem dX10_groupOf_45 : decode cX10_groupOf 45 = .ok (.goto (-34), 3) := by decide +kernel
theorem dX10_groupOf_48 : decode cX10_groupOf 48 = .ok (.iload_n 3, 1) := by decide +kernel
theorem dX10_groupOf_49 : decode cX10_groupOf 49 = .ok (.ireturn, 1) := by decide +kernel
theorem dX10_directOf_0 : decode cX10_directOf 0 = .ok (.iconst 0, 1) := by decide +kernel
theorem dX10_directOf_1 : decode cX10_directOf 1 = .ok (.istore_n 2, 1) := by decide +kernel
theorem dX10_directOf_2 : decode cX10_directOf 2 = .ok (.iconst 0, 1) := by decide +kernel
theorem dX10_directOf_3 : decode cX10_directOf 3 = .ok (.istore_n 3, 1) := by decide +kernel
theorem dX10_directOf_4 : decode cX10_directOf 4 = .ok (.iload_n 3, 1) := by decide +kernel
theorem dX10_directOf_5 : decode cX10_directOf 5 = .ok (.aload_n 0, 1) := by decide +kernel
theorem dX10_directOf_6 : decode cX10_directOf 6 = .ok (.getfield 174, 3) := by decide +kernel
theorem dX10_directOf_9 : decode cX10_directOf 9 = .ok (.if_icmp .ge 38, 3) := by decide +kernel
theorem dX10_directOf_12 : decode cX10_directOf 12 = .ok (.iload_n 2, 1) := by decide +kernel
theorem dX10_directOf_13 : decode cX10_directOf 13 = .ok (.aload_n 0, 1) := by decide +kernel
theorem dX10_directOf_14 : decode cX10_directOf 14 = .ok (.getfield 30, 3) := by decide +kernel
theorem dX10_directOf_17 : decode cX10_directOf 17 = .ok (.iload_n 3, 1) := by decide +kernel
theorem dX10_directOf_18 : decode cX10_directOf 18 = .ok (.baload, 1) := by decide +kernel
theorem dX10_directOf_19 : decode cX10_directOf 19 = .ok (.ifCond .eq 19, 3) := by decide +kernel
theorem dX10_directOf_22 : decode cX10_directOf 22 = .ok (.aload_n 0, 1) := by decide +kernel
theorem dX10_directOf_23 : decode cX10_directOf 23 = .ok (.getfield 27, 3) := by decide +kernel
theorem dX10_directOf_26 : decode cX10_directOf 26 = .ok (.iload_n 3, 1) := by decide +kernel
theorem dX10_directOf_27 : decode cX10_directOf 27 = .ok (.iaload, 1) := by decide +kernel
theorem dX10_directOf_28 : decode cX10_directOf 28 = .ok (.iload_n 1, 1) := by decide +kernel
theorem dX10_directOf_29 : decode cX10_directOf 29 = .ok (.if_icmp .ne 9, 3) := by decide +kernel
theorem dX10_directOf_32 : decode cX10_directOf 32 = .ok (.iconst 1, 1) := by decide +kernel
theorem dX10_directOf_33 : decode cX10_directOf 33 = .ok (.iload_n 3, 1) := by decide +kernel
theorem dX10_directOf_34 : decode cX10_directOf 34 = .ok (.ishl, 1) := by decide +kernel
theorem dX10_directOf_35 : decode cX10_directOf 35 = .ok (.goto 4, 3) := by decide +kernel
theorem dX10_directOf_38 : decode cX10_directOf 38 = .ok (.iconst 0, 1) := by decide +kernel
theorem dX10_directOf_39 : decode cX10_directOf 39 = .ok (.ior, 1) := by decide +kernel
theorem dX10_directOf_40 : decode cX10_directOf 40 = .ok (.istore_n 2, 1) := by decide +kernel
theorem dX10_directOf_41 : decode cX10_directOf 41 = .ok (.iinc 3 1, 3) := by decide +kernel
theorem dX10_directOf_44 : decode cX10_directOf 44 = .ok (.goto (-40), 3) := by decide +kernel
theorem dX10_directOf_47 : decode cX10_directOf 47 = .ok (.iload_n 2, 1) := by decide +kernel
theorem dX10_directOf_48 : decode cX10_directOf 48 = .ok (.ireturn, 1) := by decide +kernel
theorem dX10_legsOf_0 : decode cX10_legsOf 0 = .ok (.aload_n 0, 1) := by decide +kernel
theorem dX10_legsOf_1 : decode cX10_legsOf 1 = .ok (.iload_n 1, 1) := by decide +kernel
theorem dX10_legsOf_2 : decode cX10_legsOf 2 = .ok (.invokevirtual 203, 3) := by decide +kernel
theorem dX10_legsOf_5 : decode cX10_legsOf 5 = .ok (.istore_n 2, 1) := by decide +kernel
theorem dX10_legsOf_6 : decode cX10_legsOf 6 = .ok (.iconst 0, 1) := by decide +kernel
theorem dX10_legsOf_7 : decode cX10_legsOf 7 = .ok (.istore_n 3, 1) := by decide +kernel
theorem dX10_legsOf_8 : decode cX10_legsOf 8 = .ok (.iconst 0, 1) := by decide +kernel
theorem dX10_legsOf_9 : decode cX10_legsOf 9 = .ok (.istore 4, 2) := by decide +kernel
theorem dX10_legsOf_11 : decode cX10_legsOf 11 = .ok (.iload 4, 2) := by decide +kernel
theorem dX10_legsOf_13 : decode cX10_legsOf 13 = .ok (.aload_n 0, 1) := by decide +kernel
theorem dX10_legsOf_14 : decode cX10_legsOf 14 = .ok (.getfield 174, 3) := by decide +kernel
theorem dX10_legsOf_17 : decode cX10_legsOf 17 = .ok (.if_icmp .ge 39, 3) := by decide +kernel
theorem dX10_legsOf_20 : decode cX10_legsOf 20 = .ok (.iload_n 3, 1) := by decide +kernel
theorem dX10_legsOf_21 : decode cX10_legsOf 21 = .ok (.iload_n 2, 1) := by decide +kernel
theorem dX10_legsOf_22 : decode cX10_legsOf 22 = .ok (.iload 4, 2) := by decide +kernel
theorem dX10_legsOf_24 : decode cX10_legsOf 24 = .ok (.invokestatic 183, 3) := by decide +kernel
theorem dX10_legsOf_27 : decode cX10_legsOf 27 = .ok (.ifCond .eq 20, 3) := by decide +kernel
theorem dX10_legsOf_30 : decode cX10_legsOf 30 = .ok (.aload_n 0, 1) := by decide +kernel
theorem dX10_legsOf_31 : decode cX10_legsOf 31 = .ok (.iload 4, 2) := by decide +kernel
theorem dX10_legsOf_33 : decode cX10_legsOf 33 = .ok (.aload_n 0, 1) := by decide +kernel
theorem dX10_legsOf_34 : decode cX10_legsOf 34 = .ok (.getfield 171, 3) := by decide +kernel
theorem dX10_legsOf_37 : decode cX10_legsOf 37 = .ok (.invokevirtual 206, 3) := by decide +kernel
theorem dX10_legsOf_40 : decode cX10_legsOf 40 = .ok (.ifCond .eq 7, 3) := by decide +kernel
theorem dX10_legsOf_43 : decode cX10_legsOf 43 = .ok (.iconst 1, 1) := by decide +kernel
theorem dX10_legsOf_44 : decode cX10_legsOf 44 = .ok (.goto 4, 3) := by decide +kernel
theorem dX10_legsOf_47 : decode cX10_legsOf 47 = .ok (.iconst 0, 1) := by decide +kernel
theorem dX10_legsOf_48 : decode cX10_legsOf 48 = .ok (.iadd, 1) := by decide +kernel
theorem dX10_legsOf_49 : decode cX10_legsOf 49 = .ok (.istore_n 3, 1) := by decide +kernel
theorem dX10_legsOf_50 : decode cX10_legsOf 50 = .ok (.iinc 4 1, 3) := by decide +kernel
theorem dX10_legsOf_53 : decode cX10_legsOf 53 = .ok (.goto (-42), 3) := by decide +kernel
theorem dX10_legsOf_56 : decode cX10_legsOf 56 = .ok (.iload_n 3, 1) := by decide +kernel
theorem dX10_legsOf_57 : decode cX10_legsOf 57 = .ok (.ireturn, 1) := by decide +kernel
theorem dX10_rankBy_0 : decode cX10_rankBy 0 = .ok (.iconst 0, 1) := by decide +kernel
theorem dX10_rankBy_1 : decode cX10_rankBy 1 = .ok (.istore_n 3, 1) := by decide +kernel
theorem dX10_rankBy_2 : decode cX10_rankBy 2 = .ok (.iconst 1, 1) := by decide +kernel
theorem dX10_rankBy_3 : decode cX10_rankBy 3 = .ok (.istore 4, 2) := by decide +kernel
theorem dX10_rankBy_5 : decode cX10_rankBy 5 = .ok (.iload 4, 2) := by decide +kernel
theorem dX10_rankBy_7 : decode cX10_rankBy 7 = .ok (.iconst 3, 1) := by decide +kernel
theorem dX10_rankBy_8 : decode cX10_rankBy 8 = .ok (.if_icmp .gt 44, 3) := by decide +kernel
theorem dX10_rankBy_11 : decode cX10_rankBy 11 = .ok (.iload_n 1, 1) := by decide +kernel
theorem dX10_rankBy_12 : decode cX10_rankBy 12 = .ok (.aload_n 0, 1) := by decide +kernel
theorem dX10_rankBy_13 : decode cX10_rankBy 13 = .ok (.getfield 7, 3) := by decide +kernel
theorem dX10_rankBy_16 : decode cX10_rankBy 16 = .ok (.bipush 7, 2) := by decide +kernel
theorem dX10_rankBy_18 : decode cX10_rankBy 18 = .ok (.iload 4, 2) := by decide +kernel
theorem dX10_rankBy_20 : decode cX10_rankBy 20 = .ok (.iadd, 1) := by decide +kernel
theorem dX10_rankBy_21 : decode cX10_rankBy 21 = .ok (.iaload, 1) := by decide +kernel
theorem dX10_rankBy_22 : decode cX10_rankBy 22 = .ok (.if_icmp .lt 22, 3) := by decide +kernel
theorem dX10_rankBy_25 : decode cX10_rankBy 25 = .ok (.iload_n 2, 1) := by decide +kernel
theorem dX10_rankBy_26 : decode cX10_rankBy 26 = .ok (.aload_n 0, 1) := by decide +kernel
theorem dX10_rankBy_27 : decode cX10_rankBy 27 = .ok (.getfield 7, 3) := by decide +kernel
theorem dX10_rankBy_30 : decode cX10_rankBy 30 = .ok (.bipush 11, 2) := by decide +kernel
theorem dX10_rankBy_32 : decode cX10_rankBy 32 = .ok (.iload 4, 2) := by decide +kernel
theorem dX10_rankBy_34 : decode cX10_rankBy 34 = .ok (.iadd, 1) := by decide +kernel
theorem dX10_rankBy_35 : decode cX10_rankBy 35 = .ok (.iaload, 1) := by decide +kernel
theorem dX10_rankBy_36 : decode cX10_rankBy 36 = .ok (.if_icmp .lt 8, 3) := by decide +kernel
theorem dX10_rankBy_39 : decode cX10_rankBy 39 = .ok (.iload 4, 2) := by decide +kernel
theorem dX10_rankBy_41 : decode cX10_rankBy 41 = .ok (.goto 4, 3) := by decide +kernel
theorem dX10_rankBy_44 : decode cX10_rankBy 44 = .ok (.iload_n 3, 1) := by decide +kernel
theorem dX10_rankBy_45 : decode cX10_rankBy 45 = .ok (.istore_n 3, 1) := by decide +kernel
theorem dX10_rankBy_46 : decode cX10_rankBy 46 = .ok (.iinc 4 1, 3) := by decide +kernel
theorem dX10_rankBy_49 : decode cX10_rankBy 49 = .ok (.goto (-44), 3) := by decide +kernel
theorem dX10_rankBy_52 : decode cX10_rankBy 52 = .ok (.iload_n 3, 1) := by decide +kernel
theorem dX10_rankBy_53 : decode cX10_rankBy 53 = .ok (.ireturn, 1) := by decide +kernel
theorem dX10_rankOf_0 : decode cX10_rankOf 0 = .ok (.aload_n 0, 1) := by decide +kernel
theorem dX10_rankOf_1 : decode cX10_rankOf 1 = .ok (.aload_n 0, 1) := by decide +kernel
theorem dX10_rankOf_2 : decode cX10_rankOf 2 = .ok (.iload_n 1, 1) := by decide +kernel
theorem dX10_rankOf_3 : decode cX10_rankOf 3 = .ok (.invokevirtual 209, 3) := by decide +kernel
theorem dX10_rankOf_6 : decode cX10_rankOf 6 = .ok (.aload_n 0, 1) := by decide +kernel
theorem dX10_rankOf_7 : decode cX10_rankOf 7 = .ok (.iload_n 1, 1) := by decide +kernel
theorem dX10_rankOf_8 : decode cX10_rankOf 8 = .ok (.invokevirtual 212, 3) := by decide +kernel
theorem dX10_rankOf_11 : decode cX10_rankOf 11 = .ok (.invokevirtual 215, 3) := by decide +kernel
theorem dX10_rankOf_14 : decode cX10_rankOf 14 = .ok (.ireturn, 1) := by decide +kernel
theorem dX10_ones_0 : decode cX10_ones 0 = .ok (.iconst 0, 1) := by decide +kernel
theorem dX10_ones_1 : decode cX10_ones 1 = .ok (.istore_n 1, 1) := by decide +kernel
theorem dX10_ones_2 : decode cX10_ones 2 = .ok (.iconst 0, 1) := by decide +kernel
theorem dX10_ones_3 : decode cX10_ones 3 = .ok (.istore_n 2, 1) := by decide +kernel
theorem dX10_ones_4 : decode cX10_ones 4 = .ok (.iload_n 2, 1) := by decide +kernel
theorem dX10_ones_5 : decode cX10_ones 5 = .ok (.bipush 10, 2) := by decide +kernel
theorem dX10_ones_7 : decode cX10_ones 7 = .ok (.if_icmp .gt 25, 3) := by decide +kernel
theorem dX10_ones_10 : decode cX10_ones 10 = .ok (.iload_n 1, 1) := by decide +kernel
theorem dX10_ones_11 : decode cX10_ones 11 = .ok (.iload_n 0, 1) := by decide +kernel
theorem dX10_ones_12 : decode cX10_ones 12 = .ok (.iload_n 2, 1) := by decide +kernel
theorem dX10_ones_13 : decode cX10_ones 13 = .ok (.invokestatic 183, 3) := by decide +kernel
theorem dX10_ones_16 : decode cX10_ones 16 = .ok (.ifCond .eq 7, 3) := by decide +kernel
theorem dX10_ones_19 : decode cX10_ones 19 = .ok (.iconst 1, 1) := by decide +kernel
theorem dX10_ones_20 : decode cX10_ones 20 = .ok (.goto 4, 3) := by decide +kernel
theorem dX10_ones_23 : decode cX10_ones 23 = .ok (.iconst 0, 1) := by decide +kernel
theorem dX10_ones_24 : decode cX10_ones 24 = .ok (.iadd, 1) := by decide +kernel
theorem dX10_ones_25 : decode cX10_ones 25 = .ok (.istore_n 1, 1) := by decide +kernel
theorem dX10_ones_26 : decode cX10_ones 26 = .ok (.iinc 2 1, 3) := by decide +kernel
theorem dX10_ones_29 : decode cX10_ones 29 = .ok (.goto (-25), 3) := by decide +kernel
theorem dX10_ones_32 : decode cX10_ones 32 = .ok (.iload_n 1, 1) := by decide +kernel
theorem dX10_ones_33 : decode cX10_ones 33 = .ok (.ireturn, 1) := by decide +kernel
theorem dX10_leaf_0 : decode cX10_leaf 0 = .ok (.aload_n 0, 1) := by decide +kernel
theorem dX10_leaf_1 : decode cX10_leaf 1 = .ok (.getfield 7, 3) := by decide +kernel
theorem dX10_leaf_4 : decode cX10_leaf 4 = .ok (.iload_n 1, 1) := by decide +kernel
theorem dX10_leaf_5 : decode cX10_leaf 5 = .ok (.bipush 16, 2) := by decide +kernel
theorem dX10_leaf_7 : decode cX10_leaf 7 = .ok (.iadd, 1) := by decide +kernel
theorem dX10_leaf_8 : decode cX10_leaf 8 = .ok (.iaload, 1) := by decide +kernel
theorem dX10_leaf_9 : decode cX10_leaf 9 = .ok (.istore_n 3, 1) := by decide +kernel
theorem dX10_leaf_10 : decode cX10_leaf 10 = .ok (.iload_n 2, 1) := by decide +kernel
theorem dX10_leaf_11 : decode cX10_leaf 11 = .ok (.aload_n 0, 1) := by decide +kernel
theorem dX10_leaf_12 : decode cX10_leaf 12 = .ok (.getfield 7, 3) := by decide +kernel
theorem dX10_leaf_15 : decode cX10_leaf 15 = .ok (.sipush 145, 3) := by decide +kernel
theorem dX10_leaf_18 : decode cX10_leaf 18 = .ok (.iaload, 1) := by decide +kernel
theorem dX10_leaf_19 : decode cX10_leaf 19 = .ok (.if_icmp .ge 12, 3) := by decide +kernel
theorem dX10_leaf_22 : decode cX10_leaf 22 = .ok (.aload_n 0, 1) := by decide +kernel
theorem dX10_leaf_23 : decode cX10_leaf 23 = .ok (.iload_n 2, 1) := by decide +kernel
theorem dX10_leaf_24 : decode cX10_leaf 24 = .ok (.iconst 0, 1) := by decide +kernel
theorem dX10_leaf_25 : decode cX10_leaf 25 = .ok (.invokevirtual 159, 3) := by decide +kernel
theorem dX10_leaf_28 : decode cX10_leaf 28 = .ok (.goto 7, 3) := by decide +kernel
theorem dX10_leaf_31 : decode cX10_leaf 31 = .ok (.aload_n 0, 1) := by decide +kernel
theorem dX10_leaf_32 : decode cX10_leaf 32 = .ok (.invokevirtual 218, 3) := by decide +kernel
theorem dX10_leaf_35 : decode cX10_leaf 35 = .ok (.istore 4, 2) := by decide +kernel
theorem dX10_leaf_37 : decode cX10_leaf 37 = .ok (.aload_n 0, 1) := by decide +kernel
theorem dX10_leaf_38 : decode cX10_leaf 38 = .ok (.getfield 7, 3) := by decide +kernel
theorem dX10_leaf_41 : decode cX10_leaf 41 = .ok (.iload_n 1, 1) := by decide +kernel
theorem dX10_leaf_42 : decode cX10_leaf 42 = .ok (.iaload, 1) := by decide +kernel
theorem dX10_leaf_43 : decode cX10_leaf 43 = .ok (.tableswitch 50 0 2 #[25, 27, 35], 25) := by decide +kernel
theorem dX10_leaf_68 : decode cX10_leaf 68 = .ok (.iload_n 3, 1) := by decide +kernel
theorem dX10_leaf_69 : decode cX10_leaf 69 = .ok (.ireturn, 1) := by decide +kernel
theorem dX10_leaf_70 : decode cX10_leaf 70 = .ok (.iload_n 3, 1) := by decide +kernel
theorem dX10_leaf_71 : decode cX10_leaf 71 = .ok (.aload_n 0, 1) := by decide +kernel
theorem dX10_leaf_72 : decode cX10_leaf 72 = .ok (.iload_n 2, 1) := by decide +kernel
theorem dX10_leaf_73 : decode cX10_leaf 73 = .ok (.invokevirtual 221, 3) := by decide +kernel
theorem dX10_leaf_76 : decode cX10_leaf 76 = .ok (.imul, 1) := by decide +kernel
theorem dX10_leaf_77 : decode cX10_leaf 77 = .ok (.ireturn, 1) := by decide +kernel
theorem dX10_leaf_78 : decode cX10_leaf 78 = .ok (.iload_n 3, 1) := by decide +kernel
theorem dX10_leaf_79 : decode cX10_leaf 79 = .ok (.iconst 5, 1) := by decide +kernel
theorem dX10_leaf_80 : decode cX10_leaf 80 = .ok (.aload_n 0, 1) := by decide +kernel
theorem dX10_leaf_81 : decode cX10_leaf 81 = .ok (.iload_n 2, 1) := by decide +kernel
theorem dX10_leaf_82 : decode cX10_leaf 82 = .ok (.invokevirtual 203, 3) := by decide +kernel
theorem dX10_leaf_85 : decode cX10_leaf 85 = .ok (.invokestatic 224, 3) := by decide +kernel
theorem dX10_leaf_88 : decode cX10_leaf 88 = .ok (.invokestatic 127, 3) := by decide +kernel
theorem dX10_leaf_91 : decode cX10_leaf 91 = .ok (.imul, 1) := by decide +kernel
theorem dX10_leaf_92 : decode cX10_leaf 92 = .ok (.ireturn, 1) := by decide +kernel
theorem dX10_leaf_93 : decode cX10_leaf 93 = .ok (.aload_n 0, 1) := by decide +kernel
theorem dX10_leaf_94 : decode cX10_leaf 94 = .ok (.getfield 171, 3) := by decide +kernel
theorem dX10_leaf_97 : decode cX10_leaf 97 = .ok (.iload 4, 2) := by decide +kernel
theorem dX10_leaf_99 : decode cX10_leaf 99 = .ok (.isub, 1) := by decide +kernel
theorem dX10_leaf_100 : decode cX10_leaf 100 = .ok (.aload_n 0, 1) := by decide +kernel
theorem dX10_leaf_101 : decode cX10_leaf 101 = .ok (.getfield 7, 3) := by decide +kernel
theorem dX10_leaf_104 : decode cX10_leaf 104 = .ok (.iload_n 1, 1) := by decide +kernel
theorem dX10_leaf_105 : decode cX10_leaf 105 = .ok (.bipush 8, 2) := by decide +kernel
theorem dX10_leaf_107 : decode cX10_leaf 107 = .ok (.iadd, 1) := by decide +kernel
theorem dX10_leaf_108 : decode cX10_leaf 108 = .ok (.iaload, 1) := by decide +kernel
theorem dX10_leaf_109 : decode cX10_leaf 109 = .ok (.if_icmp .lt 7, 3) := by decide +kernel
theorem dX10_leaf_112 : decode cX10_leaf 112 = .ok (.iload_n 3, 1) := by decide +kernel
theorem dX10_leaf_113 : decode cX10_leaf 113 = .ok (.goto 4, 3) := by decide +kernel
theorem dX10_leaf_116 : decode cX10_leaf 116 = .ok (.iconst 0, 1) := by decide +kernel
theorem dX10_leaf_117 : decode cX10_leaf 117 = .ok (.ireturn, 1) := by decide +kernel
theorem dX10_percentOf_0 : decode cX10_percentOf 0 = .ok (.bipush 19, 2) := by decide +kernel
theorem dX10_percentOf_2 : decode cX10_percentOf 2 = .ok (.bipush 25, 2) := by decide +kernel
theorem dX10_percentOf_4 : decode cX10_percentOf 4 = .ok (.iload_n 1, 1) := by decide +kernel
theorem dX10_percentOf_5 : decode cX10_percentOf 5 = .ok (.iconst 1, 1) := by decide +kernel
theorem dX10_percentOf_6 : decode cX10_percentOf 6 = .ok (.isub, 1) := by decide +kernel
theorem dX10_percentOf_7 : decode cX10_percentOf 7 = .ok (.imul, 1) := by decide +kernel
theorem dX10_percentOf_8 : decode cX10_percentOf 8 = .ok (.iadd, 1) := by decide +kernel
theorem dX10_percentOf_9 : decode cX10_percentOf 9 = .ok (.istore_n 3, 1) := by decide +kernel
theorem dX10_percentOf_10 : decode cX10_percentOf 10 = .ok (.iconst 0, 1) := by decide +kernel
theorem dX10_percentOf_11 : decode cX10_percentOf 11 = .ok (.istore 4, 2) := by decide +kernel
theorem dX10_percentOf_13 : decode cX10_percentOf 13 = .ok (.aload_n 0, 1) := by decide +kernel
theorem dX10_percentOf_14 : decode cX10_percentOf 14 = .ok (.getfield 7, 3) := by decide +kernel
theorem dX10_percentOf_17 : decode cX10_percentOf 17 = .ok (.iload_n 3, 1) := by decide +kernel
theorem dX10_percentOf_18 : decode cX10_percentOf 18 = .ok (.iaload, 1) := by decide +kernel
theorem dX10_percentOf_19 : decode cX10_percentOf 19 = .ok (.iconst 1, 1) := by decide +kernel
theorem dX10_percentOf_20 : decode cX10_percentOf 20 = .ok (.isub, 1) := by decide +kernel
theorem dX10_percentOf_21 : decode cX10_percentOf 21 = .ok (.istore 5, 2) := by decide +kernel
theorem dX10_percentOf_23 : decode cX10_percentOf 23 = .ok (.iload 5, 2) := by decide +kernel
theorem dX10_percentOf_25 : decode cX10_percentOf 25 = .ok (.ifCond .lt 126, 3) := by decide +kernel
theorem dX10_percentOf_28 : decode cX10_percentOf 28 = .ok (.aload_n 0, 1) := by decide +kernel
theorem dX10_percentOf_29 : decode cX10_percentOf 29 = .ok (.getfield 7, 3) := by decide +kernel
theorem dX10_percentOf_32 : decode cX10_percentOf 32 = .ok (.iload_n 3, 1) := by decide +kernel
theorem dX10_percentOf_33 : decode cX10_percentOf 33 = .ok (.iconst 1, 1) := by decide +kernel
theorem dX10_percentOf_34 : decode cX10_percentOf 34 = .ok (.iadd, 1) := by decide +kernel
theorem dX10_percentOf_35 : decode cX10_percentOf 35 = .ok (.iload 5, 2) := by decide +kernel
theorem dX10_percentOf_37 : decode cX10_percentOf 37 = .ok (.iadd, 1) := by decide +kernel
theorem dX10_percentOf_38 : decode cX10_percentOf 38 = .ok (.iaload, 1) := by decide +kernel
theorem dX10_percentOf_39 : decode cX10_percentOf 39 = .ok (.istore 6, 2) := by decide +kernel
theorem dX10_percentOf_41 : decode cX10_percentOf 41 = .ok (.iload 6, 2) := by decide +kernel
theorem dX10_percentOf_43 : decode cX10_percentOf 43 = .ok (.iconst 3, 1) := by decide +kernel
theorem dX10_percentOf_44 : decode cX10_percentOf 44 = .ok (.if_icmp .gt 27, 3) := by decide +kernel
theorem dX10_percentOf_47 : decode cX10_percentOf 47 = .ok (.aload_n 0, 1) := by decide +kernel
theorem dX10_percentOf_48 : decode cX10_percentOf 48 = .ok (.getfield 37, 3) := by decide +kernel
theorem dX10_percentOf_51 : decode cX10_percentOf 51 = .ok (.iload 4, 2) := by decide +kernel
theorem dX10_percentOf_53 : decode cX10_percentOf 53 = .ok (.aload_n 0, 1) := by decide +kernel
theorem dX10_percentOf_54 : decode cX10_percentOf 54 = .ok (.iload_n 3, 1) := by decide +kernel
theorem dX10_percentOf_55 : decode cX10_percentOf 55 = .ok (.iconst 1, 1) := by decide +kernel
theorem dX10_percentOf_56 : decode cX10_percentOf 56 = .ok (.iadd, 1) := by decide +kernel
theorem dX10_percentOf_57 : decode cX10_percentOf 57 = .ok (.iload 5, 2) := by decide +kernel
theorem dX10_percentOf_59 : decode cX10_percentOf 59 = .ok (.iadd, 1) := by decide +kernel
theorem dX10_percentOf_60 : decode cX10_percentOf 60 = .ok (.iload_n 2, 1) := by decide +kernel
theorem dX10_percentOf_61 : decode cX10_percentOf 61 = .ok (.invokevirtual 227, 3) := by decide +kernel
theorem dX10_percentOf_64 : decode cX10_percentOf 64 = .ok (.iastore, 1) := by decide +kernel
theorem dX10_percentOf_65 : decode cX10_percentOf 65 = .ok (.iinc 4 1, 3) := by decide +kernel
theorem dX10_percentOf_68 : decode cX10_percentOf 68 = .ok (.goto 77, 3) := by decide +kernel
theorem dX10_percentOf_71 : decode cX10_percentOf 71 = .ok (.iinc 4 (-1), 3) := by decide +kernel
theorem dX10_percentOf_74 : decode cX10_percentOf 74 = .ok (.aload_n 0, 1) := by decide +kernel
theorem dX10_percentOf_75 : decode cX10_percentOf 75 = .ok (.getfield 37, 3) := by decide +kernel
theorem dX10_percentOf_78 : decode cX10_percentOf 78 = .ok (.iload 4, 2) := by decide +kernel
theorem dX10_percentOf_80 : decode cX10_percentOf 80 = .ok (.iaload, 1) := by decide +kernel
theorem dX10_percentOf_81 : decode cX10_percentOf 81 = .ok (.istore 7, 2) := by decide +kernel
theorem dX10_percentOf_83 : decode cX10_percentOf 83 = .ok (.aload_n 0, 1) := by decide +kernel
theorem dX10_percentOf_84 : decode cX10_percentOf 84 = .ok (.getfield 37, 3) := by decide +kernel
theorem dX10_percentOf_87 : decode cX10_percentOf 87 = .ok (.iload 4, 2) := by decide +kernel
theorem dX10_percentOf_89 : decode cX10_percentOf 89 = .ok (.iconst 1, 1) := by decide +kernel
theorem dX10_percentOf_90 : decode cX10_percentOf 90 = .ok (.isub, 1) := by decide +kernel
theorem dX10_percentOf_91 : decode cX10_percentOf 91 = .ok (.iaload, 1) := by decide +kernel
theorem dX10_percentOf_92 : decode cX10_percentOf 92 = .ok (.istore 8, 2) := by decide +kernel
theorem dX10_percentOf_94 : decode cX10_percentOf 94 = .ok (.aload_n 0, 1) := by decide +kernel
theorem dX10_percentOf_95 : decode cX10_percentOf 95 = .ok (.getfield 37, 3) := by decide +kernel
theorem dX10_percentOf_98 : decode cX10_percentOf 98 = .ok (.iload 4, 2) := by decide +kernel
theorem dX10_percentOf_100 : decode cX10_percentOf 100 = .ok (.iconst 1, 1) := by decide +kernel
theorem dX10_percentOf_101 : decode cX10_percentOf 101 = .ok (.isub, 1) := by decide +kernel
theorem dX10_percentOf_102 : decode cX10_percentOf 102 = .ok (.iload 6, 2) := by decide +kernel
theorem dX10_percentOf_104 : decode cX10_percentOf 104 = .ok (.iconst 4, 1) := by decide +kernel
theorem dX10_percentOf_105 : decode cX10_percentOf 105 = .ok (.if_icmp .ne 13, 3) := by decide +kernel
theorem dX10_percentOf_108 : decode cX10_percentOf 108 = .ok (.iload 7, 2) := by decide +kernel
theorem dX10_percentOf_110 : decode cX10_percentOf 110 = .ok (.iload 8, 2) := by decide +kernel
theorem dX10_percentOf_112 : decode cX10_percentOf 112 = .ok (.invokestatic 193, 3) := by decide +kernel
theorem dX10_percentOf_115 : decode cX10_percentOf 115 = .ok (.goto 29, 3) := by decide +kernel
theorem dX10_percentOf_118 : decode cX10_percentOf 118 = .ok (.iload 6, 2) := by decide +kernel
theorem dX10_percentOf_120 : decode cX10_percentOf 120 = .ok (.iconst 5, 1) := by decide +kernel
theorem dX10_percentOf_121 : decode cX10_percentOf 121 = .ok (.if_icmp .ne 13, 3) := by decide +kernel
theorem dX10_percentOf_124 : decode cX10_percentOf 124 = .ok (.iload 7, 2) := by decide +kernel
theorem dX10_percentOf_126 : decode cX10_percentOf 126 = .ok (.iload 8, 2) := by decide +kernel
theorem dX10_percentOf_128 : decode cX10_percentOf 128 = .ok (.invokestatic 127, 3) := by decide +kernel
theorem dX10_percentOf_131 : decode cX10_percentOf 131 = .ok (.goto 13, 3) := by decide +kernel
theorem dX10_percentOf_134 : decode cX10_percentOf 134 = .ok (.bipush 100, 2) := by decide +kernel
theorem dX10_percentOf_136 : decode cX10_percentOf 136 = .ok (.iload 7, 2) := by decide +kernel
theorem dX10_percentOf_138 : decode cX10_percentOf 138 = .ok (.iload 8, 2) := by decide +kernel
theorem dX10_percentOf_140 : decode cX10_percentOf 140 = .ok (.iadd, 1) := by decide +kernel
theorem dX10_percentOf_141 : decode cX10_percentOf 141 = .ok (.invokestatic 127, 3) := by decide +kernel
theorem dX10_percentOf_144 : decode cX10_percentOf 144 = .ok (.iastore, 1) := by decide +kernel
theorem dX10_percentOf_145 : decode cX10_percentOf 145 = .ok (.iinc 5 (-1), 3) := by decide +kernel
theorem dX10_percentOf_148 : decode cX10_percentOf 148 = .ok (.goto (-125), 3) := by decide +kernel
theorem dX10_percentOf_151 : decode cX10_percentOf 151 = .ok (.aload_n 0, 1) := by decide +kernel
theorem dX10_percentOf_152 : decode cX10_percentOf 152 = .ok (.getfield 37, 3) := by decide +kernel
theorem dX10_percentOf_155 : decode cX10_percentOf 155 = .ok (.iconst 0, 1) := by decide +kernel
theorem dX10_percentOf_156 : decode cX10_percentOf 156 = .ok (.iaload, 1) := by decide +kernel
theorem dX10_percentOf_157 : decode cX10_percentOf 157 = .ok (.ireturn, 1) := by decide +kernel
theorem dX10_takesLevel_0 : decode cX10_takesLevel 0 = .ok (.bipush 7, 2) := by decide +kernel
theorem dX10_takesLevel_2 : decode cX10_takesLevel 2 = .ok (.aload_n 0, 1) := by decide +kernel
theorem dX10_takesLevel_3 : decode cX10_takesLevel 3 = .ok (.getfield 230, 3) := by decide +kernel
theorem dX10_takesLevel_6 : decode cX10_takesLevel 6 = .ok (.imul, 1) := by decide +kernel
theorem dX10_takesLevel_7 : decode cX10_takesLevel 7 = .ok (.istore 5, 2) := by decide +kernel
theorem dX10_takesLevel_9 : decode cX10_takesLevel 9 = .ok (.aload_n 0, 1) := by decide +kernel
theorem dX10_takesLevel_10 : decode cX10_takesLevel 10 = .ok (.dup, 1) := by decide +kernel
theorem dX10_takesLevel_11 : decode cX10_takesLevel 11 = .ok (.getfield 230, 3) := by decide +kernel
theorem dX10_takesLevel_14 : decode cX10_takesLevel 14 = .ok (.iconst 1, 1) := by decide +kernel
theorem dX10_takesLevel_15 : decode cX10_takesLevel 15 = .ok (.iadd, 1) := by decide +kernel
theorem dX10_takesLevel_16 : decode cX10_takesLevel 16 = .ok (.putfield 230, 3) := by decide +kernel
theorem dX10_takesLevel_19 : decode cX10_takesLevel 19 = .ok (.aload_n 0, 1) := by decide +kernel
theorem dX10_takesLevel_20 : decode cX10_takesLevel 20 = .ok (.iload_n 1, 1) := by decide +kernel
theorem dX10_takesLevel_21 : decode cX10_takesLevel 21 = .ok (.invokevirtual 221, 3) := by decide +kernel
theorem dX10_takesLevel_24 : decode cX10_takesLevel 24 = .ok (.istore 6, 2) := by decide +kernel
theorem dX10_takesLevel_26 : decode cX10_takesLevel 26 = .ok (.aload_n 0, 1) := by decide +kernel
theorem dX10_takesLevel_27 : decode cX10_takesLevel 27 = .ok (.aload_n 0, 1) := by decide +kernel
theorem dX10_takesLevel_28 : decode cX10_takesLevel 28 = .ok (.getfield 230, 3) := by decide +kernel
theorem dX10_takesLevel_31 : decode cX10_takesLevel 31 = .ok (.iload_n 1, 1) := by decide +kernel
theorem dX10_takesLevel_32 : decode cX10_takesLevel 32 = .ok (.invokevirtual 237, 3) := by decide +kernel
theorem dX10_takesLevel_35 : decode cX10_takesLevel 35 = .ok (.istore 7, 2) := by decide +kernel
theorem dX10_takesLevel_37 : decode cX10_takesLevel 37 = .ok (.iload_n 2, 1) := by decide +kernel
theorem dX10_takesLevel_38 : decode cX10_takesLevel 38 = .ok (.iload 7, 2) := by decide +kernel
theorem dX10_takesLevel_40 : decode cX10_takesLevel 40 = .ok (.imul, 1) := by decide +kernel
theorem dX10_takesLevel_41 : decode cX10_takesLevel 41 = .ok (.bipush 100, 2) := by decide +kernel
theorem dX10_takesLevel_43 : decode cX10_takesLevel 43 = .ok (.idiv, 1) := by decide +kernel
theorem dX10_takesLevel_44 : decode cX10_takesLevel 44 = .ok (.istore 8, 2) := by decide +kernel
theorem dX10_takesLevel_46 : decode cX10_takesLevel 46 = .ok (.aload_n 0, 1) := by decide +kernel
theorem dX10_takesLevel_47 : decode cX10_takesLevel 47 = .ok (.getfield 7, 3) := by decide +kernel
theorem dX10_takesLevel_50 : decode cX10_takesLevel 50 = .ok (.bipush 15, 2) := by decide +kernel
theorem dX10_takesLevel_52 : decode cX10_takesLevel 52 = .ok (.iload 6, 2) := by decide +kernel
theorem dX10_takesLevel_54 : decode cX10_takesLevel 54 = .ok (.iadd, 1) := by decide +kernel
theorem dX10_takesLevel_55 : decode cX10_takesLevel 55 = .ok (.iaload, 1) := by decide +kernel
theorem dX10_takesLevel_56 : decode cX10_takesLevel 56 = .ok (.aload_n 0, 1) := by decide +kernel
theorem dX10_takesLevel_57 : decode cX10_takesLevel 57 = .ok (.getfield 230, 3) := by decide +kernel
theorem dX10_takesLevel_60 : decode cX10_takesLevel 60 = .ok (.if_icmp .lt 7, 3) := by decide +kernel
theorem dX10_takesLevel_63 : decode cX10_takesLevel 63 = .ok (.iconst 1, 1) := by decide +kernel
theorem dX10_takesLevel_64 : decode cX10_takesLevel 64 = .ok (.goto 4, 3) := by decide +kernel
theorem dX10_takesLevel_67 : decode cX10_takesLevel 67 = .ok (.iconst 0, 1) := by decide +kernel
theorem dX10_takesLevel_68 : decode cX10_takesLevel 68 = .ok (.istore 9, 2) := by decide +kernel
theorem dX10_takesLevel_70 : decode cX10_takesLevel 70 = .ok (.iload 9, 2) := by decide +kernel
theorem dX10_takesLevel_72 : decode cX10_takesLevel 72 = .ok (.ifCond .eq 12, 3) := by decide +kernel
theorem dX10_takesLevel_75 : decode cX10_takesLevel 75 = .ok (.iload 8, 2) := by decide +kernel
theorem dX10_takesLevel_77 : decode cX10_takesLevel 77 = .ok (.iload_n 3, 1) := by decide +kernel
theorem dX10_takesLevel_78 : decode cX10_takesLevel 78 = .ok (.invokestatic 127, 3) := by decide +kernel
theorem dX10_takesLevel_81 : decode cX10_takesLevel 81 = .ok (.goto 4, 3) := by decide +kernel
theorem dX10_takesLevel_84 : decode cX10_takesLevel 84 = .ok (.iconst 0, 1) := by decide +kernel
theorem dX10_takesLevel_85 : decode cX10_takesLevel 85 = .ok (.istore 10, 2) := by decide +kernel
theorem dX10_takesLevel_87 : decode cX10_takesLevel 87 = .ok (.aload_n 0, 1) := by decide +kernel
theorem dX10_takesLevel_88 : decode cX10_takesLevel 88 = .ok (.getfield 40, 3) := by decide +kernel
theorem dX10_takesLevel_91 : decode cX10_takesLevel 91 = .ok (.iload 5, 2) := by decide +kernel
theorem dX10_takesLevel_93 : decode cX10_takesLevel 93 = .ok (.iconst 0, 1) := by decide +kernel
theorem dX10_takesLevel_94 : decode cX10_takesLevel 94 = .ok (.iadd, 1) := by decide +kernel
theorem dX10_takesLevel_95 : decode cX10_takesLevel 95 = .ok (.iload_n 1, 1) := by decide +kernel
theorem dX10_takesLevel_96 : decode cX10_takesLevel 96 = .ok (.iastore, 1) := by decide +kernel
theorem dX10_takesLevel_97 : decode cX10_takesLevel 97 = .ok (.aload_n 0, 1) := by decide +kernel
theorem dX10_takesLevel_98 : decode cX10_takesLevel 98 = .ok (.getfield 40, 3) := by decide +kernel
theorem dX10_takesLevel_101 : decode cX10_takesLevel 101 = .ok (.iload 5, 2) := by decide +kernel
theorem dX10_takesLevel_103 : decode cX10_takesLevel 103 = .ok (.iconst 1, 1) := by decide +kernel
theorem dX10_takesLevel_104 : decode cX10_takesLevel 104 = .ok (.iadd, 1) := by decide +kernel
theorem dX10_takesLevel_105 : decode cX10_takesLevel 105 = .ok (.iload 7, 2) := by decide +kernel
theorem dX10_takesLevel_107 : decode cX10_takesLevel 107 = .ok (.iastore, 1) := by decide +kernel
theorem dX10_takesLevel_108 : decode cX10_takesLevel 108 = .ok (.aload_n 0, 1) := by decide +kernel
theorem dX10_takesLevel_109 : decode cX10_takesLevel 109 = .ok (.getfield 40, 3) := by decide +kernel
theorem dX10_takesLevel_112 : decode cX10_takesLevel 112 = .ok (.iload 5, 2) := by decide +kernel
theorem dX10_takesLevel_114 : decode cX10_takesLevel 114 = .ok (.iconst 2, 1) := by decide +kernel
theorem dX10_takesLevel_115 : decode cX10_takesLevel 115 = .ok (.iadd, 1) := by decide +kernel
theorem dX10_takesLevel_116 : decode cX10_takesLevel 116 = .ok (.iload 10, 2) := by decide +kernel
theorem dX10_takesLevel_118 : decode cX10_takesLevel 118 = .ok (.iastore, 1) := by decide +kernel
theorem dX10_takesLevel_119 : decode cX10_takesLevel 119 = .ok (.aload_n 0, 1) := by decide +kernel
theorem dX10_takesLevel_120 : decode cX10_takesLevel 120 = .ok (.getfield 40, 3) := by decide +kernel
theorem dX10_takesLevel_123 : decode cX10_takesLevel 123 = .ok (.iload 5, 2) := by decide +kernel
theorem dX10_takesLevel_125 : decode cX10_takesLevel 125 = .ok (.iconst 3, 1) := by decide +kernel
theorem dX10_takesLevel_126 : decode cX10_takesLevel 126 = .ok (.iadd, 1) := by decide +kernel
theorem dX10_takesLevel_127 : decode cX10_takesLevel 127 = .ok (.iload 9, 2) := by decide +kernel
theorem dX10_takesLevel_129 : decode cX10_takesLevel 129 = .ok (.ifCond .eq 7, 3) := by decide +kernel
theorem dX10_takesLevel_132 : decode cX10_takesLevel 132 = .ok (.iconst 0, 1) := by decide +kernel
theorem dX10_takesLevel_133 : decode cX10_takesLevel 133 = .ok (.goto 5, 3) := by decide +kernel
theorem dX10_takesLevel_136 : decode cX10_takesLevel 136 = .ok (.iload 8, 2) := by decide +kernel
theorem dX10_takesLevel_138 : decode cX10_takesLevel 138 = .ok (.iastore, 1) := by decide +kernel
theorem dX10_takesLevel_139 : decode cX10_takesLevel 139 = .ok (.aload_n 0, 1) := by decide +kernel
theorem dX10_takesLevel_140 : decode cX10_takesLevel 140 = .ok (.getfield 40, 3) := by decide +kernel
theorem dX10_takesLevel_143 : decode cX10_takesLevel 143 = .ok (.iload 5, 2) := by decide +kernel
theorem dX10_takesLevel_145 : decode cX10_takesLevel 145 = .ok (.iconst 4, 1) := by decide +kernel
theorem dX10_takesLevel_146 : decode cX10_takesLevel 146 = .ok (.iadd, 1) := by decide +kernel
theorem dX10_takesLevel_147 : decode cX10_takesLevel 147 = .ok (.iload 9, 2) := by decide +kernel
theorem dX10_takesLevel_149 : decode cX10_takesLevel 149 = .ok (.ifCond .eq 11, 3) := by decide +kernel
theorem dX10_takesLevel_152 : decode cX10_takesLevel 152 = .ok (.iload 8, 2) := by decide +kernel
theorem dX10_takesLevel_154 : decode cX10_takesLevel 154 = .ok (.iload 10, 2) := by decide +kernel
theorem dX10_takesLevel_156 : decode cX10_takesLevel 156 = .ok (.isub, 1) := by decide +kernel
theorem dX10_takesLevel_157 : decode cX10_takesLevel 157 = .ok (.goto 4, 3) := by decide +kernel
theorem dX10_takesLevel_160 : decode cX10_takesLevel 160 = .ok (.iconst 0, 1) := by decide +kernel
theorem dX10_takesLevel_161 : decode cX10_takesLevel 161 = .ok (.iastore, 1) := by decide +kernel
theorem dX10_takesLevel_162 : decode cX10_takesLevel 162 = .ok (.aload_n 0, 1) := by decide +kernel
theorem dX10_takesLevel_163 : decode cX10_takesLevel 163 = .ok (.getfield 40, 3) := by decide +kernel
theorem dX10_takesLevel_166 : decode cX10_takesLevel 166 = .ok (.iload 5, 2) := by decide +kernel
theorem dX10_takesLevel_168 : decode cX10_takesLevel 168 = .ok (.iconst 5, 1) := by decide +kernel
theorem dX10_takesLevel_169 : decode cX10_takesLevel 169 = .ok (.iadd, 1) := by decide +kernel
theorem dX10_takesLevel_170 : decode cX10_takesLevel 170 = .ok (.iload 6, 2) := by decide +kernel
theorem dX10_takesLevel_172 : decode cX10_takesLevel 172 = .ok (.iastore, 1) := by decide +kernel
theorem dX10_takesLevel_173 : decode cX10_takesLevel 173 = .ok (.aload_n 0, 1) := by decide +kernel
theorem dX10_takesLevel_174 : decode cX10_takesLevel 174 = .ok (.getfield 40, 3) := by decide +kernel
theorem dX10_takesLevel_177 : decode cX10_takesLevel 177 = .ok (.iload 5, 2) := by decide +kernel
theorem dX10_takesLevel_179 : decode cX10_takesLevel 179 = .ok (.bipush 6, 2) := by decide +kernel
theorem dX10_takesLevel_181 : decode cX10_takesLevel 181 = .ok (.iadd, 1) := by decide +kernel
theorem dX10_takesLevel_182 : decode cX10_takesLevel 182 = .ok (.iload 4, 2) := by decide +kernel
theorem dX10_takesLevel_184 : decode cX10_takesLevel 184 = .ok (.iastore, 1) := by decide +kernel
theorem dX10_takesLevel_185 : decode cX10_takesLevel 185 = .ok (.iload 10, 2) := by decide +kernel
theorem dX10_takesLevel_187 : decode cX10_takesLevel 187 = .ok (.ireturn, 1) := by decide +kernel
theorem dX10_pays_0 : decode cX10_pays 0 = .ok (.aload_n 0, 1) := by decide +kernel
theorem dX10_pays_1 : decode cX10_pays 1 = .ok (.iconst 0, 1) := by decide +kernel
theorem dX10_pays_2 : decode cX10_pays 2 = .ok (.putfield 230, 3) := by decide +kernel
theorem dX10_pays_5 : decode cX10_pays 5 = .ok (.iload_n 2, 1) := by decide +kernel
theorem dX10_pays_6 : decode cX10_pays 6 = .ok (.aload_n 0, 1) := by decide +kernel
theorem dX10_pays_7 : decode cX10_pays 7 = .ok (.getfield 7, 3) := by decide +kernel
theorem dX10_pays_10 : decode cX10_pays 10 = .ok (.iconst 4, 1) := by decide +kernel
theorem dX10_pays_11 : decode cX10_pays 11 = .ok (.iaload, 1) := by decide +kernel
theorem dX10_pays_12 : decode cX10_pays 12 = .ok (.imul, 1) := by decide +kernel
theorem dX10_pays_13 : decode cX10_pays 13 = .ok (.bipush 100, 2) := by decide +kernel
theorem dX10_pays_15 : decode cX10_pays 15 = .ok (.idiv, 1) := by decide +kernel
theorem dX10_pays_16 : decode cX10_pays 16 = .ok (.istore_n 3, 1) := by decide +kernel
theorem dX10_pays_17 : decode cX10_pays 17 = .ok (.iconst 1, 1) := by decide +kernel
theorem dX10_pays_18 : decode cX10_pays 18 = .ok (.istore 4, 2) := by decide +kernel
theorem dX10_pays_20 : decode cX10_pays 20 = .ok (.aload_n 0, 1) := by decide +kernel
theorem dX10_pays_21 : decode cX10_pays 21 = .ok (.getfield 27, 3) := by decide +kernel
theorem dX10_pays_24 : decode cX10_pays 24 = .ok (.iload_n 1, 1) := by decide +kernel
theorem dX10_pays_25 : decode cX10_pays 25 = .ok (.iaload, 1) := by decide +kernel
theorem dX10_pays_26 : decode cX10_pays 26 = .ok (.istore 5, 2) := by decide +kernel
theorem dX10_pays_28 : decode cX10_pays 28 = .ok (.iload 5, 2) := by decide +kernel
theorem dX10_pays_30 : decode cX10_pays 30 = .ok (.iconst (-1), 1) := by decide +kernel
theorem dX10_pays_31 : decode cX10_pays 31 = .ok (.if_icmp .eq 52, 3) := by decide +kernel
theorem dX10_pays_34 : decode cX10_pays 34 = .ok (.aload_n 0, 1) := by decide +kernel
theorem dX10_pays_35 : decode cX10_pays 35 = .ok (.getfield 230, 3) := by decide +kernel
theorem dX10_pays_38 : decode cX10_pays 38 = .ok (.iconst 5, 1) := by decide +kernel
theorem dX10_pays_39 : decode cX10_pays 39 = .ok (.if_icmp .ge 44, 3) := by decide +kernel
theorem dX10_pays_42 : decode cX10_pays 42 = .ok (.aload_n 0, 1) := by decide +kernel
theorem dX10_pays_43 : decode cX10_pays 43 = .ok (.iload 5, 2) := by decide +kernel
theorem dX10_pays_45 : decode cX10_pays 45 = .ok (.aload_n 0, 1) := by decide +kernel
theorem dX10_pays_46 : decode cX10_pays 46 = .ok (.getfield 171, 3) := by decide +kernel
theorem dX10_pays_49 : decode cX10_pays 49 = .ok (.invokevirtual 206, 3) := by decide +kernel
theorem dX10_pays_52 : decode cX10_pays 52 = .ok (.ifCond .eq 16, 3) := by decide +kernel
theorem dX10_pays_55 : decode cX10_pays 55 = .ok (.iload_n 3, 1) := by decide +kernel
theorem dX10_pays_56 : decode cX10_pays 56 = .ok (.aload_n 0, 1) := by decide +kernel
theorem dX10_pays_57 : decode cX10_pays 57 = .ok (.iload 5, 2) := by decide +kernel
theorem dX10_pays_59 : decode cX10_pays 59 = .ok (.iload_n 2, 1) := by decide +kernel
theorem dX10_pays_60 : decode cX10_pays 60 = .ok (.iload_n 3, 1) := by decide +kernel
theorem dX10_pays_61 : decode cX10_pays 61 = .ok (.iload 4, 2) := by decide +kernel
theorem dX10_pays_63 : decode cX10_pays 63 = .ok (.invokevirtual 233, 3) := by decide +kernel
theorem dX10_pays_66 : decode cX10_pays 66 = .ok (.isub, 1) := by decide +kernel
theorem dX10_pays_67 : decode cX10_pays 67 = .ok (.istore_n 3, 1) := by decide +kernel
theorem dX10_pays_68 : decode cX10_pays 68 = .ok (.iinc 4 1, 3) := by decide +kernel
theorem dX10_pays_71 : decode cX10_pays 71 = .ok (.aload_n 0, 1) := by decide +kernel
theorem dX10_pays_72 : decode cX10_pays 72 = .ok (.getfield 27, 3) := by decide +kernel
theorem dX10_pays_75 : decode cX10_pays 75 = .ok (.iload 5, 2) := by decide +kernel
theorem dX10_pays_77 : decode cX10_pays 77 = .ok (.iaload, 1) := by decide +kernel
theorem dX10_pays_78 : decode cX10_pays 78 = .ok (.istore 5, 2) := by decide +kernel
theorem dX10_pays_80 : decode cX10_pays 80 = .ok (.goto (-52), 3) := by decide +kernel
theorem dX10_pays_83 : decode cX10_pays 83 = .ok (.return_, 1) := by decide +kernel
theorem dX10_sell_0 : decode cX10_sell 0 = .ok (.aload_n 0, 1) := by decide +kernel
theorem dX10_sell_1 : decode cX10_sell 1 = .ok (.iconst 0, 1) := by decide +kernel
theorem dX10_sell_2 : decode cX10_sell 2 = .ok (.putfield 52, 3) := by decide +kernel
theorem dX10_sell_5 : decode cX10_sell 5 = .ok (.aload_n 0, 1) := by decide +kernel
theorem dX10_sell_6 : decode cX10_sell 6 = .ok (.iload_n 1, 1) := by decide +kernel
theorem dX10_sell_7 : decode cX10_sell 7 = .ok (.iload_n 2, 1) := by decide +kernel
theorem dX10_sell_8 : decode cX10_sell 8 = .ok (.iload_n 3, 1) := by decide +kernel
theorem dX10_sell_9 : decode cX10_sell 9 = .ok (.invokevirtual 279, 3) := by decide +kernel
theorem dX10_sell_12 : decode cX10_sell 12 = .ok (.ifCond .eq 16, 3) := by decide +kernel
theorem dX10_sell_15 : decode cX10_sell 15 = .ok (.aload_n 0, 1) := by decide +kernel
theorem dX10_sell_16 : decode cX10_sell 16 = .ok (.getfield 7, 3) := by decide +kernel
theorem dX10_sell_19 : decode cX10_sell 19 = .ok (.sipush 146, 3) := by decide +kernel
theorem dX10_sell_22 : decode cX10_sell 22 = .ok (.iaload, 1) := by decide +kernel
theorem dX10_sell_23 : decode cX10_sell 23 = .ok (.bipush 40, 2) := by decide +kernel
theorem dX10_sell_25 : decode cX10_sell 25 = .ok (.if_icmp .ne 5, 3) := by decide +kernel
theorem dX10_sell_28 : decode cX10_sell 28 = .ok (.iconst (-1), 1) := by decide +kernel
theorem dX10_sell_29 : decode cX10_sell 29 = .ok (.ireturn, 1) := by decide +kernel
theorem dX10_sell_30 : decode cX10_sell 30 = .ok (.aload_n 0, 1) := by decide +kernel
theorem dX10_sell_31 : decode cX10_sell 31 = .ok (.getfield 7, 3) := by decide +kernel
theorem dX10_sell_34 : decode cX10_sell 34 = .ok (.sipush 146, 3) := by decide +kernel
theorem dX10_sell_37 : decode cX10_sell 37 = .ok (.iaload, 1) := by decide +kernel
theorem dX10_sell_38 : decode cX10_sell 38 = .ok (.istore 4, 2) := by decide +kernel
theorem dX10_sell_40 : decode cX10_sell 40 = .ok (.sipush 1087, 3) := by decide +kernel
theorem dX10_sell_43 : decode cX10_sell 43 = .ok (.bipush 41, 2) := by decide +kernel
theorem dX10_sell_45 : decode cX10_sell 45 = .ok (.iload 4, 2) := by decide +kernel
theorem dX10_sell_47 : decode cX10_sell 47 = .ok (.imul, 1) := by decide +kernel
theorem dX10_sell_48 : decode cX10_sell 48 = .ok (.iadd, 1) := by decide +kernel
theorem dX10_sell_49 : decode cX10_sell 49 = .ok (.istore 5, 2) := by decide +kernel
theorem dX10_sell_51 : decode cX10_sell 51 = .ok (.aload_n 0, 1) := by decide +kernel
theorem dX10_sell_52 : decode cX10_sell 52 = .ok (.getfield 7, 3) := by decide +kernel
theorem dX10_sell_55 : decode cX10_sell 55 = .ok (.sipush 146, 3) := by decide +kernel
theorem dX10_sell_58 : decode cX10_sell 58 = .ok (.dup2, 1) := by decide +kernel
theorem dX10_sell_59 : decode cX10_sell 59 = .ok (.iaload, 1) := by decide +kernel
theorem dX10_sell_60 : decode cX10_sell 60 = .ok (.iconst 1, 1) := by decide +kernel
theorem dX10_sell_61 : decode cX10_sell 61 = .ok (.iadd, 1) := by decide +kernel
theorem dX10_sell_62 : decode cX10_sell 62 = .ok (.iastore, 1) := by decide +kernel
theorem dX10_sell_63 : decode cX10_sell 63 = .ok (.aload_n 0, 1) := by decide +kernel
theorem dX10_sell_64 : decode cX10_sell 64 = .ok (.getfield 7, 3) := by decide +kernel
theorem dX10_sell_67 : decode cX10_sell 67 = .ok (.iload 5, 2) := by decide +kernel
theorem dX10_sell_69 : decode cX10_sell 69 = .ok (.iconst 0, 1) := by decide +kernel
theorem dX10_sell_70 : decode cX10_sell 70 = .ok (.iadd, 1) := by decide +kernel
theorem dX10_sell_71 : decode cX10_sell 71 = .ok (.iload_n 1, 1) := by decide +kernel
theorem dX10_sell_72 : decode cX10_sell 72 = .ok (.iastore, 1) := by decide +kernel
theorem dX10_sell_73 : decode cX10_sell 73 = .ok (.aload_n 0, 1) := by decide +kernel
theorem dX10_sell_74 : decode cX10_sell 74 = .ok (.getfield 7, 3) := by decide +kernel
theorem dX10_sell_77 : decode cX10_sell 77 = .ok (.iload 5, 2) := by decide +kernel
theorem dX10_sell_79 : decode cX10_sell 79 = .ok (.iconst 1, 1) := by decide +kernel
theorem dX10_sell_80 : decode cX10_sell 80 = .ok (.iadd, 1) := by decide +kernel
theorem dX10_sell_81 : decode cX10_sell 81 = .ok (.iload_n 2, 1) := by decide +kernel
theorem dX10_sell_82 : decode cX10_sell 82 = .ok (.iastore, 1) := by decide +kernel
theorem dX10_sell_83 : decode cX10_sell 83 = .ok (.aload_n 0, 1) := by decide +kernel
theorem dX10_sell_84 : decode cX10_sell 84 = .ok (.getfield 7, 3) := by decide +kernel
theorem dX10_sell_87 : decode cX10_sell 87 = .ok (.iload 5, 2) := by decide +kernel
theorem dX10_sell_89 : decode cX10_sell 89 = .ok (.iconst 2, 1) := by decide +kernel
theorem dX10_sell_90 : decode cX10_sell 90 = .ok (.iadd, 1) := by decide +kernel
theorem dX10_sell_91 : decode cX10_sell 91 = .ok (.iload_n 3, 1) := by decide +kernel
theorem dX10_sell_92 : decode cX10_sell 92 = .ok (.iastore, 1) := by decide +kernel
theorem dX10_sell_93 : decode cX10_sell 93 = .ok (.aload_n 0, 1) := by decide +kernel
theorem dX10_sell_94 : decode cX10_sell 94 = .ok (.getfield 7, 3) := by decide +kernel
theorem dX10_sell_97 : decode cX10_sell 97 = .ok (.iload 5, 2) := by decide +kernel
theorem dX10_sell_99 : decode cX10_sell 99 = .ok (.iconst 3, 1) := by decide +kernel
theorem dX10_sell_100 : decode cX10_sell 100 = .ok (.iadd, 1) := by decide +kernel
theorem dX10_sell_101 : decode cX10_sell 101 = .ok (.aload_n 0, 1) := by decide +kernel
theorem dX10_sell_102 : decode cX10_sell 102 = .ok (.invokevirtual 218, 3) := by decide +kernel
theorem dX10_sell_105 : decode cX10_sell 105 = .ok (.iastore, 1) := by decide +kernel
theorem dX10_sell_106 : decode cX10_sell 106 = .ok (.aload_n 0, 1) := by decide +kernel
theorem dX10_sell_107 : decode cX10_sell 107 = .ok (.getfield 7, 3) := by decide +kernel
theorem dX10_sell_110 : decode cX10_sell 110 = .ok (.iload 5, 2) := by decide +kernel
theorem dX10_sell_112 : decode cX10_sell 112 = .ok (.iconst 4, 1) := by decide +kernel
theorem dX10_sell_113 : decode cX10_sell 113 = .ok (.iadd, 1) := by decide +kernel
theorem dX10_sell_114 : decode cX10_sell 114 = .ok (.iconst 0, 1) := by decide +kernel
theorem dX10_sell_115 : decode cX10_sell 115 = .ok (.iastore, 1) := by decide +kernel
theorem dX10_sell_116 : decode cX10_sell 116 = .ok (.aload_n 0, 1) := by decide +kernel
theorem dX10_sell_117 : decode cX10_sell 117 = .ok (.invokevirtual 282, 3) := by decide +kernel
theorem dX10_sell_120 : decode cX10_sell 120 = .ok (.aload_n 0, 1) := by decide +kernel
theorem dX10_sell_121 : decode cX10_sell 121 = .ok (.iload_n 3, 1) := by decide +kernel
theorem dX10_sell_122 : decode cX10_sell 122 = .ok (.invokevirtual 256, 3) := by decide +kernel
theorem dX10_sell_125 : decode cX10_sell 125 = .ok (.aload_n 0, 1) := by decide +kernel
theorem dX10_sell_126 : decode cX10_sell 126 = .ok (.iload_n 1, 1) := by decide +kernel
theorem dX10_sell_127 : decode cX10_sell 127 = .ok (.iload_n 2, 1) := by decide +kernel
theorem dX10_sell_128 : decode cX10_sell 128 = .ok (.invokevirtual 285, 3) := by decide +kernel
theorem dX10_sell_131 : decode cX10_sell 131 = .ok (.aload_n 0, 1) := by decide +kernel
theorem dX10_sell_132 : decode cX10_sell 132 = .ok (.getfield 7, 3) := by decide +kernel
theorem dX10_sell_135 : decode cX10_sell 135 = .ok (.iload 5, 2) := by decide +kernel
theorem dX10_sell_137 : decode cX10_sell 137 = .ok (.iconst 5, 1) := by decide +kernel
theorem dX10_sell_138 : decode cX10_sell 138 = .ok (.iadd, 1) := by decide +kernel
theorem dX10_sell_139 : decode cX10_sell 139 = .ok (.aload_n 0, 1) := by decide +kernel
theorem dX10_sell_140 : decode cX10_sell 140 = .ok (.getfield 230, 3) := by decide +kernel
theorem dX10_sell_143 : decode cX10_sell 143 = .ok (.iastore, 1) := by decide +kernel
theorem dX10_sell_144 : decode cX10_sell 144 = .ok (.iconst 0, 1) := by decide +kernel
theorem dX10_sell_145 : decode cX10_sell 145 = .ok (.istore 6, 2) := by decide +kernel
theorem dX10_sell_147 : decode cX10_sell 147 = .ok (.iload 6, 2) := by decide +kernel
theorem dX10_sell_149 : decode cX10_sell 149 = .ok (.bipush 7, 2) := by decide +kernel
theorem dX10_sell_151 : decode cX10_sell 151 = .ok (.aload_n 0, 1) := by decide +kernel
theorem dX10_sell_152 : decode cX10_sell 152 = .ok (.getfield 230, 3) := by decide +kernel
theorem dX10_sell_155 : decode cX10_sell 155 = .ok (.imul, 1) := by decide +kernel
theorem dX10_sell_156 : decode cX10_sell 156 = .ok (.if_icmp .ge 29, 3) := by decide +kernel
theorem dX10_sell_159 : decode cX10_sell 159 = .ok (.aload_n 0, 1) := by decide +kernel
theorem dX10_sell_160 : decode cX10_sell 160 = .ok (.getfield 7, 3) := by decide +kernel
theorem dX10_sell_163 : decode cX10_sell 163 = .ok (.iload 5, 2) := by decide +kernel
theorem dX10_sell_165 : decode cX10_sell 165 = .ok (.bipush 6, 2) := by decide +kernel
theorem dX10_sell_167 : decode cX10_sell 167 = .ok (.iadd, 1) := by decide +kernel
theorem dX10_sell_168 : decode cX10_sell 168 = .ok (.iload 6, 2) := by decide +kernel
theorem dX10_sell_170 : decode cX10_sell 170 = .ok (.iadd, 1) := by decide +kernel
theorem dX10_sell_171 : decode cX10_sell 171 = .ok (.aload_n 0, 1) := by decide +kernel
theorem dX10_sell_172 : decode cX10_sell 172 = .ok (.getfield 40, 3) := by decide +kernel
theorem dX10_sell_175 : decode cX10_sell 175 = .ok (.iload 6, 2) := by decide +kernel
theorem dX10_sell_177 : decode cX10_sell 177 = .ok (.iaload, 1) := by decide +kernel
theorem dX10_sell_178 : decode cX10_sell 178 = .ok (.iastore, 1) := by decide +kernel
theorem dX10_sell_179 : decode cX10_sell 179 = .ok (.iinc 6 1, 3) := by decide +kernel
theorem dX10_sell_182 : decode cX10_sell 182 = .ok (.goto (-35), 3) := by decide +kernel
theorem dX10_sell_185 : decode cX10_sell 185 = .ok (.iconst 0, 1) := by decide +kernel
theorem dX10_sell_186 : decode cX10_sell 186 = .ok (.istore 6, 2) := by decide +kernel
theorem dX10_sell_188 : decode cX10_sell 188 = .ok (.iload 6, 2) := by decide +kernel
theorem dX10_sell_190 : decode cX10_sell 190 = .ok (.aload_n 0, 1) := by decide +kernel
theorem dX10_sell_191 : decode cX10_sell 191 = .ok (.getfield 230, 3) := by decide +kernel
theorem dX10_sell_194 : decode cX10_sell 194 = .ok (.if_icmp .ge 46, 3) := by decide +kernel
theorem dX10_sell_197 : decode cX10_sell 197 = .ok (.aload_n 0, 1) := by decide +kernel
theorem dX10_sell_198 : decode cX10_sell 198 = .ok (.iload 4, 2) := by decide +kernel
theorem dX10_sell_200 : decode cX10_sell 200 = .ok (.iload 6, 2) := by decide +kernel
theorem dX10_sell_202 : decode cX10_sell 202 = .ok (.iconst 2, 1) := by decide +kernel
theorem dX10_sell_203 : decode cX10_sell 203 = .ok (.invokevirtual 240, 3) := by decide +kernel
theorem dX10_sell_206 : decode cX10_sell 206 = .ok (.ifCond .le 28, 3) := by decide +kernel
theorem dX10_sell_209 : decode cX10_sell 209 = .ok (.aload_n 0, 1) := by decide +kernel
theorem dX10_sell_210 : decode cX10_sell 210 = .ok (.aload_n 0, 1) := by decide +kernel
theorem dX10_sell_211 : decode cX10_sell 211 = .ok (.iload 4, 2) := by decide +kernel
theorem dX10_sell_213 : decode cX10_sell 213 = .ok (.iload 6, 2) := by decide +kernel
theorem dX10_sell_215 : decode cX10_sell 215 = .ok (.iconst 0, 1) := by decide +kernel
theorem dX10_sell_216 : decode cX10_sell 216 = .ok (.invokevirtual 240, 3) := by decide +kernel
theorem dX10_sell_219 : decode cX10_sell 219 = .ok (.iconst 0, 1) := by decide +kernel
theorem dX10_sell_220 : decode cX10_sell 220 = .ok (.aload_n 0, 1) := by decide +kernel
theorem dX10_sell_221 : decode cX10_sell 221 = .ok (.iload 4, 2) := by decide +kernel
theorem dX10_sell_223 : decode cX10_sell 223 = .ok (.iload 6, 2) := by decide +kernel
theorem dX10_sell_225 : decode cX10_sell 225 = .ok (.iconst 2, 1) := by decide +kernel
theorem dX10_sell_226 : decode cX10_sell 226 = .ok (.invokevirtual 240, 3) := by decide +kernel
theorem dX10_sell_229 : decode cX10_sell 229 = .ok (.iload 4, 2) := by decide +kernel
theorem dX10_sell_231 : decode cX10_sell 231 = .ok (.invokevirtual 275, 3) := by decide +kernel
theorem dX10_sell_234 : decode cX10_sell 234 = .ok (.iinc 6 1, 3) := by decide +kernel
theorem dX10_sell_237 : decode cX10_sell 237 = .ok (.goto (-49), 3) := by decide +kernel
theorem dX10_sell_240 : decode cX10_sell 240 = .ok (.iload 4, 2) := by decide +kernel
theorem dX10_sell_242 : decode cX10_sell 242 = .ok (.ireturn, 1) := by decide +kernel
theorem dX5_has_0 : decode cX5_has 0 = .ok (.iload_n 1, 1) := by decide +kernel
theorem dX5_has_1 : decode cX5_has 1 = .ok (.ifCond .lt 15, 3) := by decide +kernel
theorem dX5_has_4 : decode cX5_has 4 = .ok (.iload_n 1, 1) := by decide +kernel
theorem dX5_has_5 : decode cX5_has 5 = .ok (.aload_n 0, 1) := by decide +kernel
theorem dX5_has_6 : decode cX5_has 6 = .ok (.getfield 9, 3) := by decide +kernel
theorem dX5_has_9 : decode cX5_has 9 = .ok (.if_icmp .ge 7, 3) := by decide +kernel
theorem dX5_has_12 : decode cX5_has 12 = .ok (.iconst 1, 1) := by decide +kernel
theorem dX5_has_13 : decode cX5_has 13 = .ok (.goto 4, 3) := by decide +kernel
theorem dX5_has_16 : decode cX5_has 16 = .ok (.iconst 0, 1) := by decide +kernel
theorem dX5_has_17 : decode cX5_has 17 = .ok (.ireturn, 1) := by decide +kernel
