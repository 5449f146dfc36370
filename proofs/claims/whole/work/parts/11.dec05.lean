theorem dX9_common_0 : decode cX9_common 0 = .ok (.aload_n 0, 1) := by decide +kernel
theorem dX9_common_1 : decode cX9_common 1 = .ok (.getfield 10, 3) := by decide +kernel
theorem dX9_common_4 : decode cX9_common 4 = .ok (.getfield 93, 3) := by decide +kernel
theorem dX9_common_7 : decode cX9_common 7 = .ok (.astore 4, 2) := by decide +kernel
theorem dX9_common_9 : decode cX9_common 9 = .ok (.aload 4, 2) := by decide +kernel
theorem dX9_common_11 : decode cX9_common 11 = .ok (.iload_n 1, 1) := by decide +kernel
theorem dX9_common_12 : decode cX9_common 12 = .ok (.invokevirtual 189, 3) := by decide +kernel
theorem dX9_common_15 : decode cX9_common 15 = .ok (.ifCond .eq 20, 3) := by decide +kernel
theorem dX9_common_18 : decode cX9_common 18 = .ok (.aload 4, 2) := by decide +kernel
theorem dX9_common_20 : decode cX9_common 20 = .ok (.iload_n 2, 1) := by decide +kernel
theorem dX9_common_21 : decode cX9_common 21 = .ok (.invokevirtual 189, 3) := by decide +kernel
theorem dX9_common_24 : decode cX9_common 24 = .ok (.ifCond .eq 11, 3) := by decide +kernel
theorem dX9_common_27 : decode cX9_common 27 = .ok (.iload_n 3, 1) := by decide +kernel
theorem dX9_common_28 : decode cX9_common 28 = .ok (.aload_n 0, 1) := by decide +kernel
theorem dX9_common_29 : decode cX9_common 29 = .ok (.invokevirtual 240, 3) := by decide +kernel
theorem dX9_common_32 : decode cX9_common 32 = .ok (.if_icmp .le 5, 3) := by decide +kernel
theorem dX9_common_35 : decode cX9_common 35 = .ok (.iconst (-1), 1) := by decide +kernel
theorem dX9_common_36 : decode cX9_common 36 = .ok (.ireturn, 1) := by decide +kernel
theorem dX9_common_37 : decode cX9_common 37 = .ok (.iload_n 3, 1) := by decide +kernel
theorem dX9_common_38 : decode cX9_common 38 = .ok (.aload 4, 2) := by decide +kernel
theorem dX9_common_40 : decode cX9_common 40 = .ok (.getfield 147, 3) := by decide +kernel
theorem dX9_common_43 : decode cX9_common 43 = .ok (.iload_n 1, 1) := by decide +kernel
theorem dX9_common_44 : decode cX9_common 44 = .ok (.iaload, 1) := by decide +kernel
theorem dX9_common_45 : decode cX9_common 45 = .ok (.if_icmp .lt 14, 3) := by decide +kernel
theorem dX9_common_48 : decode cX9_common 48 = .ok (.iload_n 3, 1) := by decide +kernel
theorem dX9_common_49 : decode cX9_common 49 = .ok (.aload 4, 2) := by decide +kernel
theorem dX9_common_51 : decode cX9_common 51 = .ok (.getfield 147, 3) := by decide +kernel
theorem dX9_common_54 : decode cX9_common 54 = .ok (.iload_n 2, 1) := by decide +kernel
theorem dX9_common_55 : decode cX9_common 55 = .ok (.iaload, 1) := by decide +kernel
theorem dX9_common_56 : decode cX9_common 56 = .ok (.if_icmp .ge 5, 3) := by decide +kernel
theorem dX9_common_59 : decode cX9_common 59 = .ok (.iconst (-1), 1) := by decide +kernel
theorem dX9_common_60 : decode cX9_common 60 = .ok (.ireturn, 1) := by decide +kernel
theorem dX9_common_61 : decode cX9_common 61 = .ok (.aload_n 0, 1) := by decide +kernel
theorem dX9_common_62 : decode cX9_common 62 = .ok (.getfield 30, 3) := by decide +kernel
theorem dX9_common_65 : decode cX9_common 65 = .ok (.aload_n 0, 1) := by decide +kernel
theorem dX9_common_66 : decode cX9_common 66 = .ok (.getfield 10, 3) := by decide +kernel
theorem dX9_common_69 : decode cX9_common 69 = .ok (.iload_n 3, 1) := by decide +kernel
theorem dX9_common_70 : decode cX9_common 70 = .ok (.invokevirtual 154, 3) := by decide +kernel
theorem dX9_common_73 : decode cX9_common 73 = .ok (.iload_n 1, 1) := by decide +kernel
theorem dX9_common_74 : decode cX9_common 74 = .ok (.istore 5, 2) := by decide +kernel
theorem dX9_common_76 : decode cX9_common 76 = .ok (.iconst 0, 1) := by decide +kernel
theorem dX9_common_77 : decode cX9_common 77 = .ok (.istore 6, 2) := by decide +kernel
theorem dX9_common_79 : decode cX9_common 79 = .ok (.iload 6, 2) := by decide +kernel
theorem dX9_common_81 : decode cX9_common 81 = .ok (.bipush 10, 2) := by decide +kernel
theorem dX9_common_83 : decode cX9_common 83 = .ok (.if_icmp .ge 48, 3) := by decide +kernel
theorem dX9_common_86 : decode cX9_common 86 = .ok (.iload 5, 2) := by decide +kernel
theorem dX9_common_88 : decode cX9_common 88 = .ok (.iconst (-1), 1) := by decide +kernel
theorem dX9_common_89 : decode cX9_common 89 = .ok (.if_icmp .eq 42, 3) := by decide +kernel
theorem dX9_common_92 : decode cX9_common 92 = .ok (.aload_n 0, 1) := by decide +kernel
theorem dX9_common_93 : decode cX9_common 93 = .ok (.getfield 30, 3) := by decide +kernel
theorem dX9_common_96 : decode cX9_common 96 = .ok (.getfield 252, 3) := by decide +kernel
theorem dX9_common_99 : decode cX9_common 99 = .ok (.iload 5, 2) := by decide +kernel
theorem dX9_common_101 : decode cX9_common 101 = .ok (.iaload, 1) := by decide +kernel
theorem dX9_common_102 : decode cX9_common 102 = .ok (.iload_n 2, 1) := by decide +kernel
theorem dX9_common_103 : decode cX9_common 103 = .ok (.ishr, 1) := by decide +kernel
theorem dX9_common_104 : decode cX9_common 104 = .ok (.iconst 1, 1) := by decide +kernel
theorem dX9_common_105 : decode cX9_common 105 = .ok (.iand, 1) := by decide +kernel
theorem dX9_common_106 : decode cX9_common 106 = .ok (.iconst 1, 1) := by decide +kernel
theorem dX9_common_107 : decode cX9_common 107 = .ok (.if_icmp .ne 6, 3) := by decide +kernel
theorem dX9_common_110 : decode cX9_common 110 = .ok (.iload 5, 2) := by decide +kernel
theorem dX9_common_112 : decode cX9_common 112 = .ok (.ireturn, 1) := by decide +kernel
theorem dX9_common_113 : decode cX9_common 113 = .ok (.aload_n 0, 1) := by decide +kernel
theorem dX9_common_114 : decode cX9_common 114 = .ok (.getfield 30, 3) := by decide +kernel
theorem dX9_common_117 : decode cX9_common 117 = .ok (.getfield 246, 3) := by decide +kernel
theorem dX9_common_120 : decode cX9_common 120 = .ok (.iload 5, 2) := by decide +kernel
theorem dX9_common_122 : decode cX9_common 122 = .ok (.iaload, 1) := by decide +kernel
theorem dX9_common_123 : decode cX9_common 123 = .ok (.istore 5, 2) := by decide +kernel
theorem dX9_common_125 : decode cX9_common 125 = .ok (.iinc 6 1, 3) := by decide +kernel
theorem dX9_common_128 : decode cX9_common 128 = .ok (.goto (-49), 3) := by decide +kernel
theorem dX9_common_131 : decode cX9_common 131 = .ok (.iconst (-1), 1) := by decide +kernel
theorem dX9_common_132 : decode cX9_common 132 = .ok (.ireturn, 1) := by decide +kernel
theorem dX10_isAt_0 : decode cX10_isAt 0 = .ok (.aload_n 0, 1) := by decide +kernel
theorem dX10_isAt_1 : decode cX10_isAt 1 = .ok (.iload_n 1, 1) := by decide +kernel
theorem dX10_isAt_2 : decode cX10_isAt 2 = .ok (.invokevirtual 253, 3) := by decide +kernel
theorem dX10_isAt_5 : decode cX10_isAt 5 = .ok (.ifCond .eq 32, 3) := by decide +kernel
theorem dX10_isAt_8 : decode cX10_isAt 8 = .ok (.iload_n 2, 1) := by decide +kernel
theorem dX10_isAt_9 : decode cX10_isAt 9 = .ok (.aload_n 0, 1) := by decide +kernel
theorem dX10_isAt_10 : decode cX10_isAt 10 = .ok (.iload_n 1, 1) := by decide +kernel
theorem dX10_isAt_11 : decode cX10_isAt 11 = .ok (.iconst 0, 1) := by decide +kernel
theorem dX10_isAt_12 : decode cX10_isAt 12 = .ok (.invokevirtual 159, 3) := by decide +kernel
theorem dX10_isAt_15 : decode cX10_isAt 15 = .ok (.bipush 99, 2) := by decide +kernel
theorem dX10_isAt_17 : decode cX10_isAt 17 = .ok (.aload_n 0, 1) := by decide +kernel
theorem dX10_isAt_18 : decode cX10_isAt 18 = .ok (.invokevirtual 218, 3) := by decide +kernel
theorem dX10_isAt_21 : decode cX10_isAt 21 = .ok (.bipush 6, 2) := by decide +kernel
theorem dX10_isAt_23 : decode cX10_isAt 23 = .ok (.iadd, 1) := by decide +kernel
theorem dX10_isAt_24 : decode cX10_isAt 24 = .ok (.invokestatic 127, 3) := by decide +kernel
theorem dX10_isAt_27 : decode cX10_isAt 27 = .ok (.invokestatic 59, 3) := by decide +kernel
theorem dX10_isAt_30 : decode cX10_isAt 30 = .ok (.ifCond .eq 7, 3) := by decide +kernel
theorem dX10_isAt_33 : decode cX10_isAt 33 = .ok (.iconst 1, 1) := by decide +kernel
theorem dX10_isAt_34 : decode cX10_isAt 34 = .ok (.goto 4, 3) := by decide +kernel
theorem dX10_isAt_37 : decode cX10_isAt 37 = .ok (.iconst 0, 1) := by decide +kernel
theorem dX10_isAt_38 : decode cX10_isAt 38 = .ok (.ireturn, 1) := by decide +kernel
theorem dX10_common_0 : decode cX10_common 0 = .ok (.aload_n 0, 1) := by decide +kernel
theorem dX10_common_1 : decode cX10_common 1 = .ok (.iconst 0, 1) := by decide +kernel
theorem dX10_common_2 : decode cX10_common 2 = .ok (.putfield 52, 3) := by decide +kernel
theorem dX10_common_5 : decode cX10_common 5 = .ok (.aload_n 0, 1) := by decide +kernel
theorem dX10_common_6 : decode cX10_common 6 = .ok (.iload_n 1, 1) := by decide +kernel
theorem dX10_common_7 : decode cX10_common 7 = .ok (.iload_n 3, 1) := by decide +kernel
theorem dX10_common_8 : decode cX10_common 8 = .ok (.invokevirtual 317, 3) := by decide +kernel
theorem dX10_common_11 : decode cX10_common 11 = .ok (.ifCond .eq 12, 3) := by decide +kernel
theorem dX10_common_14 : decode cX10_common 14 = .ok (.aload_n 0, 1) := by decide +kernel
theorem dX10_common_15 : decode cX10_common 15 = .ok (.iload_n 2, 1) := by decide +kernel
theorem dX10_common_16 : decode cX10_common 16 = .ok (.iload_n 3, 1) := by decide +kernel
theorem dX10_common_17 : decode cX10_common 17 = .ok (.invokevirtual 317, 3) := by decide +kernel
theorem dX10_common_20 : decode cX10_common 20 = .ok (.ifCond .ne 5, 3) := by decide +kernel
theorem dX10_common_23 : decode cX10_common 23 = .ok (.iconst (-1), 1) := by decide +kernel
theorem dX10_common_24 : decode cX10_common 24 = .ok (.ireturn, 1) := by decide +kernel
theorem dX10_common_25 : decode cX10_common 25 = .ok (.aload_n 0, 1) := by decide +kernel
theorem dX10_common_26 : decode cX10_common 26 = .ok (.iload_n 3, 1) := by decide +kernel
theorem dX10_common_27 : decode cX10_common 27 = .ok (.invokevirtual 256, 3) := by decide +kernel
theorem dX10_common_30 : decode cX10_common 30 = .ok (.iload_n 1, 1) := by decide +kernel
theorem dX10_common_31 : decode cX10_common 31 = .ok (.istore 4, 2) := by decide +kernel
theorem dX10_common_33 : decode cX10_common 33 = .ok (.aload_n 0, 1) := by decide +kernel
theorem dX10_common_34 : decode cX10_common 34 = .ok (.iload_n 2, 1) := by decide +kernel
theorem dX10_common_35 : decode cX10_common 35 = .ok (.iload 4, 2) := by decide +kernel
theorem dX10_common_37 : decode cX10_common 37 = .ok (.invokevirtual 180, 3) := by decide +kernel
theorem dX10_common_40 : decode cX10_common 40 = .ok (.ifCond .ge 15, 3) := by decide +kernel
theorem dX10_common_43 : decode cX10_common 43 = .ok (.aload_n 0, 1) := by decide +kernel
theorem dX10_common_44 : decode cX10_common 44 = .ok (.getfield 27, 3) := by decide +kernel
theorem dX10_common_47 : decode cX10_common 47 = .ok (.iload 4, 2) := by decide +kernel
theorem dX10_common_49 : decode cX10_common 49 = .ok (.iaload, 1) := by decide +kernel
theorem dX10_common_50 : decode cX10_common 50 = .ok (.istore 4, 2) := by decide +kernel
theorem dX10_common_52 : decode cX10_common 52 = .ok (.goto (-19), 3) := by decide +kernel
theorem dX10_common_55 : decode cX10_common 55 = .ok (.iload 4, 2) := by decide +kernel
theorem dX10_common_57 : decode cX10_common 57 = .ok (.ireturn, 1) := by decide +kernel
theorem dX5_together_0 : decode cX5_together 0 = .ok (.iconst 0, 1) := by decide +kernel
theorem dX5_together_1 : decode cX5_together 1 = .ok (.istore_n 3, 1) := by decide +kernel
theorem dX5_together_2 : decode cX5_together 2 = .ok (.iconst 1, 1) := by decide +kernel
theorem dX5_together_3 : decode cX5_together 3 = .ok (.istore 4, 2) := by decide +kernel
theorem dX5_together_5 : decode cX5_together 5 = .ok (.iload 4, 2) := by decide +kernel
theorem dX5_together_7 : decode cX5_together 7 = .ok (.aload_n 0, 1) := by decide +kernel
theorem dX5_together_8 : decode cX5_together 8 = .ok (.getfield 31, 3) := by decide +kernel
theorem dX5_together_11 : decode cX5_together 11 = .ok (.iload_n 1, 1) := by decide +kernel
theorem dX5_together_12 : decode cX5_together 12 = .ok (.iaload, 1) := by decide +kernel
theorem dX5_together_13 : decode cX5_together 13 = .ok (.if_icmp .gt 20, 3) := by decide +kernel
theorem dX5_together_16 : decode cX5_together 16 = .ok (.iload_n 3, 1) := by decide +kernel
theorem dX5_together_17 : decode cX5_together 17 = .ok (.aload_n 0, 1) := by decide +kernel
theorem dX5_together_18 : decode cX5_together 18 = .ok (.iload_n 1, 1) := by decide +kernel
theorem dX5_together_19 : decode cX5_together 19 = .ok (.iload 4, 2) := by decide +kernel
theorem dX5_together_21 : decode cX5_together 21 = .ok (.iload_n 2, 1) := by decide +kernel
theorem dX5_together_22 : decode cX5_together 22 = .ok (.invokevirtual 52, 3) := by decide +kernel
theorem dX5_together_25 : decode cX5_together 25 = .ok (.iadd, 1) := by decide +kernel
theorem dX5_together_26 : decode cX5_together 26 = .ok (.istore_n 3, 1) := by decide +kernel
theorem dX5_together_27 : decode cX5_together 27 = .ok (.iinc 4 1, 3) := by decide +kernel
theorem dX5_together_30 : decode cX5_together 30 = .ok (.goto (-25), 3) := by decide +kernel
theorem dX5_together_33 : decode cX5_together 33 = .ok (.iload_n 3, 1) := by decide +kernel
theorem dX5_together_34 : decode cX5_together 34 = .ok (.ireturn, 1) := by decide +kernel
theorem dX5_netPays_0 : decode cX5_netPays 0 = .ok (.iconst 0, 1) := by decide +kernel
theorem dX5_netPays_1 : decode cX5_netPays 1 = .ok (.istore_n 2, 1) := by decide +kernel
theorem dX5_netPays_2 : decode cX5_netPays 2 = .ok (.iconst 1, 1) := by decide +kernel
theorem dX5_netPays_3 : decode cX5_netPays 3 = .ok (.istore_n 3, 1) := by decide +kernel
theorem dX5_netPays_4 : decode cX5_netPays 4 = .ok (.iload_n 3, 1) := by decide +kernel
theorem dX5_netPays_5 : decode cX5_netPays 5 = .ok (.aload_n 0, 1) := by decide +kernel
theorem dX5_netPays_6 : decode cX5_netPays 6 = .ok (.getfield 31, 3) := by decide +kernel
theorem dX5_netPays_9 : decode cX5_netPays 9 = .ok (.iload_n 1, 1) := by decide +kernel
theorem dX5_netPays_10 : decode cX5_netPays 10 = .ok (.iaload, 1) := by decide +kernel
theorem dX5_netPays_11 : decode cX5_netPays 11 = .ok (.if_icmp .gt 18, 3) := by decide +kernel
theorem dX5_netPays_14 : decode cX5_netPays 14 = .ok (.iload_n 2, 1) := by decide +kernel
theorem dX5_netPays_15 : decode cX5_netPays 15 = .ok (.aload_n 0, 1) := by decide +kernel
theorem dX5_netPays_16 : decode cX5_netPays 16 = .ok (.iload_n 1, 1) := by decide +kernel
theorem dX5_netPays_17 : decode cX5_netPays 17 = .ok (.iload_n 3, 1) := by decide +kernel
theorem dX5_netPays_18 : decode cX5_netPays 18 = .ok (.invokevirtual 56, 3) := by decide +kernel
theorem dX5_netPays_21 : decode cX5_netPays 21 = .ok (.iadd, 1) := by decide +kernel
theorem dX5_netPays_22 : decode cX5_netPays 22 = .ok (.istore_n 2, 1) := by decide +kernel
theorem dX5_netPays_23 : decode cX5_netPays 23 = .ok (.iinc 3 1, 3) := by decide +kernel
theorem dX5_netPays_26 : decode cX5_netPays 26 = .ok (.goto (-22), 3) := by decide +kernel
theorem dX5_netPays_29 : decode cX5_netPays 29 = .ok (.iload_n 2, 1) := by decide +kernel
theorem dX5_netPays_30 : decode cX5_netPays 30 = .ok (.ireturn, 1) := by decide +kernel
theorem dX9_staleInScene_0 : decode cX9_staleInScene 0 = .ok (.aload_n 0, 1) := by decide +kernel
theorem dX9_staleInScene_1 : decode cX9_staleInScene 1 = .ok (.getfield 10, 3) := by decide +kernel
theorem dX9_staleInScene_4 : decode cX9_staleInScene 4 = .ok (.getfield 136, 3) := by decide +kernel
theorem dX9_staleInScene_7 : decode cX9_staleInScene 7 = .ok (.astore_n 2, 1) := by decide +kernel
theorem dX9_staleInScene_8 : decode cX9_staleInScene 8 = .ok (.iconst 0, 1) := by decide +kernel
theorem dX9_staleInScene_9 : decode cX9_staleInScene 9 = .ok (.istore_n 3, 1) := by decide +kernel
theorem dX9_staleInScene_10 : decode cX9_staleInScene 10 = .ok (.aload_n 0, 1) := by decide +kernel
theorem dX9_staleInScene_11 : decode cX9_staleInScene 11 = .ok (.getfield 30, 3) := by decide +kernel
theorem dX9_staleInScene_14 : decode cX9_staleInScene 14 = .ok (.getfield 246, 3) := by decide +kernel
theorem dX9_staleInScene_17 : decode cX9_staleInScene 17 = .ok (.aload_n 2, 1) := by decide +kernel
theorem dX9_staleInScene_18 : decode cX9_staleInScene 18 = .ok (.getfield 282, 3) := by decide +kernel
theorem dX9_staleInScene_21 : decode cX9_staleInScene 21 = .ok (.iload_n 1, 1) := by decide +kernel
theorem dX9_staleInScene_22 : decode cX9_staleInScene 22 = .ok (.iaload, 1) := by decide +kernel
theorem dX9_staleInScene_23 : decode cX9_staleInScene 23 = .ok (.iaload, 1) := by decide +kernel
theorem dX9_staleInScene_24 : decode cX9_staleInScene 24 = .ok (.istore 4, 2) := by decide +kernel
theorem dX9_staleInScene_26 : decode cX9_staleInScene 26 = .ok (.iconst 0, 1) := by decide +kernel
theorem dX9_staleInScene_27 : decode cX9_staleInScene 27 = .ok (.istore 5, 2) := by decide +kernel
theorem dX9_staleInScene_29 : decode cX9_staleInScene 29 = .ok (.iload 5, 2) := by decide +kernel
theorem dX9_staleInScene_31 : decode cX9_staleInScene 31 = .ok (.bipush 10, 2) := by decide +kernel
theorem dX9_staleInScene_33 : decode cX9_staleInScene 33 = .ok (.if_icmp .ge 71, 3) := by decide +kernel
theorem dX9_staleInScene_36 : decode cX9_staleInScene 36 = .ok (.iload 4, 2) := by decide +kernel
theorem dX9_staleInScene_38 : decode cX9_staleInScene 38 = .ok (.iconst (-1), 1) := by decide +kernel
theorem dX9_staleInScene_39 : decode cX9_staleInScene 39 = .ok (.if_icmp .eq 65, 3) := by decide +kernel
theorem dX9_staleInScene_42 : decode cX9_staleInScene 42 = .ok (.iload_n 3, 1) := by decide +kernel
theorem dX9_staleInScene_43 : decode cX9_staleInScene 43 = .ok (.iconst 5, 1) := by decide +kernel
theorem dX9_staleInScene_44 : decode cX9_staleInScene 44 = .ok (.if_icmp .ge 60, 3) := by decide +kernel
theorem dX9_staleInScene_47 : decode cX9_staleInScene 47 = .ok (.aload_n 0, 1) := by decide +kernel
theorem dX9_staleInScene_48 : decode cX9_staleInScene 48 = .ok (.getfield 30, 3) := by decide +kernel
theorem dX9_staleInScene_51 : decode cX9_staleInScene 51 = .ok (.iload 4, 2) := by decide +kernel
theorem dX9_staleInScene_53 : decode cX9_staleInScene 53 = .ok (.invokevirtual 415, 3) := by decide +kernel
theorem dX9_staleInScene_56 : decode cX9_staleInScene 56 = .ok (.ifCond .eq 30, 3) := by decide +kernel
theorem dX9_staleInScene_59 : decode cX9_staleInScene 59 = .ok (.iinc 3 1, 3) := by decide +kernel
theorem dX9_staleInScene_62 : decode cX9_staleInScene 62 = .ok (.iload_n 3, 1) := by decide +kernel
theorem dX9_staleInScene_63 : decode cX9_staleInScene 63 = .ok (.aload_n 2, 1) := by decide +kernel
theorem dX9_staleInScene_64 : decode cX9_staleInScene 64 = .ok (.getfield 182, 3) := by decide +kernel
theorem dX9_staleInScene_67 : decode cX9_staleInScene 67 = .ok (.iload_n 1, 1) := by decide +kernel
theorem dX9_staleInScene_68 : decode cX9_staleInScene 68 = .ok (.iaload, 1) := by decide +kernel
theorem dX9_staleInScene_69 : decode cX9_staleInScene 69 = .ok (.if_icmp .gt 15, 3) := by decide +kernel
theorem dX9_staleInScene_72 : decode cX9_staleInScene 72 = .ok (.aload_n 2, 1) := by decide +kernel
theorem dX9_staleInScene_73 : decode cX9_staleInScene 73 = .ok (.iload_n 1, 1) := by decide +kernel
theorem dX9_staleInScene_74 : decode cX9_staleInScene 74 = .ok (.iload_n 3, 1) := by decide +kernel
theorem dX9_staleInScene_75 : decode cX9_staleInScene 75 = .ok (.iconst 0, 1) := by decide +kernel
theorem dX9_staleInScene_76 : decode cX9_staleInScene 76 = .ok (.invokevirtual 184, 3) := by decide +kernel
theorem dX9_staleInScene_79 : decode cX9_staleInScene 79 = .ok (.iload 4, 2) := by decide +kernel
theorem dX9_staleInScene_81 : decode cX9_staleInScene 81 = .ok (.if_icmp .eq 5, 3) := by decide +kernel
theorem dX9_staleInScene_84 : decode cX9_staleInScene 84 = .ok (.iconst 1, 1) := by decide +kernel
theorem dX9_staleInScene_85 : decode cX9_staleInScene 85 = .ok (.ireturn, 1) := by decide +kernel
theorem dX9_staleInScene_86 : decode cX9_staleInScene 86 = .ok (.aload_n 0, 1) := by decide +kernel
theorem dX9_staleInScene_87 : decode cX9_staleInScene 87 = .ok (.getfield 30, 3) := by decide +kernel
theorem dX9_staleInScene_90 : decode cX9_staleInScene 90 = .ok (.getfield 246, 3) := by decide +kernel
theorem dX9_staleInScene_93 : decode cX9_staleInScene 93 = .ok (.iload 4, 2) := by decide +kernel
theorem dX9_staleInScene_95 : decode cX9_staleInScene 95 = .ok (.iaload, 1) := by decide +kernel
theorem dX9_staleInScene_96 : decode cX9_staleInScene 96 = .ok (.istore 4, 2) := by decide +kernel
theorem dX9_staleInScene_98 : decode cX9_staleInScene 98 = .ok (.iinc 5 1, 3) := by decide +kernel
theorem dX9_staleInScene_101 : decode cX9_staleInScene 101 = .ok (.goto (-72), 3) := by decide +kernel
theorem dX9_staleInScene_104 : decode cX9_staleInScene 104 = .ok (.iload_n 3, 1) := by decide +kernel
theorem dX9_staleInScene_105 : decode cX9_staleInScene 105 = .ok (.aload_n 2, 1) := by decide +kernel
theorem dX9_staleInScene_106 : decode cX9_staleInScene 106 = .ok (.getfield 182, 3) := by decide +kernel
theorem dX9_staleInScene_109 : decode cX9_staleInScene 109 = .ok (.iload_n 1, 1) := by decide +kernel
theorem dX9_staleInScene_110 : decode cX9_staleInScene 110 = .ok (.iaload, 1) := by decide +kernel
theorem dX9_staleInScene_111 : decode cX9_staleInScene 111 = .ok (.if_icmp .eq 7, 3) := by decide +kernel
theorem dX9_staleInScene_114 : decode cX9_staleInScene 114 = .ok (.iconst 1, 1) := by decide +kernel
theorem dX9_staleInScene_115 : decode cX9_staleInScene 115 = .ok (.goto 4, 3) := by decide +kernel
theorem dX9_staleInScene_118 : decode cX9_staleInScene 118 = .ok (.iconst 0, 1) := by decide +kernel
theorem dX9_staleInScene_119 : decode cX9_staleInScene 119 = .ok (.ireturn, 1) := by decide +kernel
theorem dX9_isStale_0 : decode cX9_isStale 0 = .ok (.aload_n 0, 1) := by decide +kernel
theorem dX9_isStale_1 : decode cX9_isStale 1 = .ok (.getfield 30, 3) := by decide +kernel
theorem dX9_isStale_4 : decode cX9_isStale 4 = .ok (.aload_n 0, 1) := by decide +kernel
theorem dX9_isStale_5 : decode cX9_isStale 5 = .ok (.getfield 10, 3) := by decide +kernel
theorem dX9_isStale_8 : decode cX9_isStale 8 = .ok (.aload_n 0, 1) := by decide +kernel
theorem dX9_isStale_9 : decode cX9_isStale 9 = .ok (.getfield 10, 3) := by decide +kernel
theorem dX9_isStale_12 : decode cX9_isStale 12 = .ok (.getfield 90, 3) := by decide +kernel
theorem dX9_isStale_15 : decode cX9_isStale 15 = .ok (.invokevirtual 154, 3) := by decide +kernel
theorem dX9_isStale_18 : decode cX9_isStale 18 = .ok (.aload_n 0, 1) := by decide +kernel
theorem dX9_isStale_19 : decode cX9_isStale 19 = .ok (.iload_n 1, 1) := by decide +kernel
theorem dX9_isStale_20 : decode cX9_isStale 20 = .ok (.invokevirtual 412, 3) := by decide +kernel
theorem dX9_isStale_23 : decode cX9_isStale 23 = .ok (.ireturn, 1) := by decide +kernel
theorem dX7_fillBalances_0 : decode cX7_fillBalances 0 = .ok (.iconst 0, 1) := by decide +kernel
theorem dX7_fillBalances_1 : decode cX7_fillBalances 1 = .ok (.istore_n 2, 1) := by decide +kernel
theorem dX7_fillBalances_2 : decode cX7_fillBalances 2 = .ok (.iload_n 2, 1) := by decide +kernel
theorem dX7_fillBalances_3 : decode cX7_fillBalances 3 = .ok (.aload_n 0, 1) := by decide +kernel
theorem dX7_fillBalances_4 : decode cX7_fillBalances 4 = .ok (.getfield 28, 3) := by decide +kernel
theorem dX7_fillBalances_7 : decode cX7_fillBalances 7 = .ok (.getfield 128, 3) := by decide +kernel
theorem dX7_fillBalances_10 : decode cX7_fillBalances 10 = .ok (.if_icmp .ge 25, 3) := by decide +kernel
theorem dX7_fillBalances_13 : decode cX7_fillBalances 13 = .ok (.aload_n 0, 1) := by decide +kernel
theorem dX7_fillBalances_14 : decode cX7_fillBalances 14 = .ok (.getfield 46, 3) := by decide +kernel
theorem dX7_fillBalances_17 : decode cX7_fillBalances 17 = .ok (.iload_n 2, 1) := by decide +kernel
theorem dX7_fillBalances_18 : decode cX7_fillBalances 18 = .ok (.aload_n 0, 1) := by decide +kernel
theorem dX7_fillBalances_19 : decode cX7_fillBalances 19 = .ok (.getfield 28, 3) := by decide +kernel
theorem dX7_fillBalances_22 : decode cX7_fillBalances 22 = .ok (.getfield 125, 3) := by decide +kernel
theorem dX7_fillBalances_25 : decode cX7_fillBalances 25 = .ok (.iload_n 2, 1) := by decide +kernel
theorem dX7_fillBalances_26 : decode cX7_fillBalances 26 = .ok (.iaload, 1) := by decide +kernel
theorem dX7_fillBalances_27 : decode cX7_fillBalances 27 = .ok (.ineg, 1) := by decide +kernel
theorem dX7_fillBalances_28 : decode cX7_fillBalances 28 = .ok (.iastore, 1) := by decide +kernel
theorem dX7_fillBalances_29 : decode cX7_fillBalances 29 = .ok (.iinc 2 1, 3) := by decide +kernel
theorem dX7_fillBalances_32 : decode cX7_fillBalances 32 = .ok (.goto (-30), 3) := by decide +kernel
theorem dX7_fillBalances_35 : decode cX7_fillBalances 35 = .ok (.iconst 0, 1) := by decide +kernel
theorem dX7_fillBalances_36 : decode cX7_fillBalances 36 = .ok (.istore_n 2, 1) := by decide +kernel
theorem dX7_fillBalances_37 : decode cX7_fillBalances 37 = .ok (.iload_n 2, 1) := by decide +kernel
theorem dX7_fillBalances_38 : decode cX7_fillBalances 38 = .ok (.aload_n 0, 1) := by decide +kernel
theorem dX7_fillBalances_39 : decode cX7_fillBalances 39 = .ok (.getfield 35, 3) := by decide +kernel
theorem dX7_fillBalances_42 : decode cX7_fillBalances 42 = .ok (.getfield 79, 3) := by decide +kernel
theorem dX7_fillBalances_45 : decode cX7_fillBalances 45 = .ok (.if_icmp .ge 73, 3) := by decide +kernel
theorem dX7_fillBalances_48 : decode cX7_fillBalances 48 = .ok (.iload_n 2, 1) := by decide +kernel
theorem dX7_fillBalances_49 : decode cX7_fillBalances 49 = .ok (.iload_n 1, 1) := by decide +kernel
theorem dX7_fillBalances_50 : decode cX7_fillBalances 50 = .ok (.if_icmp .ne 7, 3) := by decide +kernel
theorem dX7_fillBalances_53 : decode cX7_fillBalances 53 = .ok (.iconst 0, 1) := by decide +kernel
theorem dX7_fillBalances_54 : decode cX7_fillBalances 54 = .ok (.goto 12, 3) := by decide +kernel
theorem dX7_fillBalances_57 : decode cX7_fillBalances 57 = .ok (.aload_n 0, 1) := by decide +kernel
theorem dX7_fillBalances_58 : decode cX7_fillBalances 58 = .ok (.getfield 35, 3) := by decide +kernel
theorem dX7_fillBalances_61 : decode cX7_fillBalances 61 = .ok (.getfield 143, 3) := by decide +kernel
theorem dX7_fillBalances_64 : decode cX7_fillBalances 64 = .ok (.iload_n 2, 1) := by decide +kernel
theorem dX7_fillBalances_65 : decode cX7_fillBalances 65 = .ok (.iaload, 1) := by decide +kernel
theorem dX7_fillBalances_66 : decode cX7_fillBalances 66 = .ok (.istore_n 3, 1) := by decide +kernel
theorem dX7_fillBalances_67 : decode cX7_fillBalances 67 = .ok (.iconst 1, 1) := by decide +kernel
theorem dX7_fillBalances_68 : decode cX7_fillBalances 68 = .ok (.istore 4, 2) := by decide +kernel
theorem dX7_fillBalances_70 : decode cX7_fillBalances 70 = .ok (.iload 4, 2) := by decide +kernel
theorem dX7_fillBalances_72 : decode cX7_fillBalances 72 = .ok (.iload_n 3, 1) := by decide +kernel
theorem dX7_fillBalances_73 : decode cX7_fillBalances 73 = .ok (.if_icmp .gt 39, 3) := by decide +kernel
theorem dX7_fillBalances_76 : decode cX7_fillBalances 76 = .ok (.aload_n 0, 1) := by decide +kernel
theorem dX7_fillBalances_77 : decode cX7_fillBalances 77 = .ok (.getfield 46, 3) := by decide +kernel
theorem dX7_fillBalances_80 : decode cX7_fillBalances 80 = .ok (.aload_n 0, 1) := by decide +kernel
theorem dX7_fillBalances_81 : decode cX7_fillBalances 81 = .ok (.getfield 35, 3) := by decide +kernel
theorem dX7_fillBalances_84 : decode cX7_fillBalances 84 = .ok (.iload_n 2, 1) := by decide +kernel
theorem dX7_fillBalances_85 : decode cX7_fillBalances 85 = .ok (.iload 4, 2) := by decide +kernel
theorem dX7_fillBalances_87 : decode cX7_fillBalances 87 = .ok (.iconst 0, 1) := by decide +kernel
theorem dX7_fillBalances_88 : decode cX7_fillBalances 88 = .ok (.invokevirtual 94, 3) := by decide +kernel
theorem dX7_fillBalances_91 : decode cX7_fillBalances 91 = .ok (.dup2, 1) := by decide +kernel
theorem dX7_fillBalances_92 : decode cX7_fillBalances 92 = .ok (.iaload, 1) := by decide +kernel
theorem dX7_fillBalances_93 : decode cX7_fillBalances 93 = .ok (.aload_n 0, 1) := by decide +kernel
theorem dX7_fillBalances_94 : decode cX7_fillBalances 94 = .ok (.iload_n 2, 1) := by decide +kernel
theorem dX7_fillBalances_95 : decode cX7_fillBalances 95 = .ok (.iload 4, 2) := by decide +kernel
theorem dX7_fillBalances_97 : decode cX7_fillBalances 97 = .ok (.aload_n 0, 1) := by decide +kernel
theorem dX7_fillBalances_98 : decode cX7_fillBalances 98 = .ok (.getfield 57, 3) := by decide +kernel
theorem dX7_fillBalances_101 : decode cX7_fillBalances 101 = .ok (.invokevirtual 119, 3) := by decide +kernel
theorem dX7_fillBalances_104 : decode cX7_fillBalances 104 = .ok (.iadd, 1) := by decide +kernel
theorem dX7_fillBalances_105 : decode cX7_fillBalances 105 = .ok (.iastore, 1) := by decide +kernel
theorem dX7_fillBalances_106 : decode cX7_fillBalances 106 = .ok (.iinc 4 1, 3) := by decide +kernel
theorem dX7_fillBalances_109 : decode cX7_fillBalances 109 = .ok (.goto (-39), 3) := by decide +kernel
theorem dX7_fillBalances_112 : decode cX7_fillBalances 112 = .ok (.iinc 2 1, 3) := by decide +kernel
theorem dX7_fillBalances_115 : decode cX7_fillBalances 115 = .ok (.goto (-78), 3) := by decide +kernel
theorem dX7_fillBalances_118 : decode cX7_fillBalances 118 = .ok (.return_, 1) := by decide +kernel
theorem dX7_debtorsWithout_0 : decode cX7_debtorsWithout 0 = .ok (.aload_n 0, 1) := by decide +kernel
theorem dX7_debtorsWithout_1 : decode cX7_debtorsWithout 1 = .ok (.iload_n 1, 1) := by decide +kernel
theorem dX7_debtorsWithout_2 : decode cX7_debtorsWithout 2 = .ok (.invokevirtual 139, 3) := by decide +kernel
theorem dX7_debtorsWithout_5 : decode cX7_debtorsWithout 5 = .ok (.iconst 0, 1) := by decide +kernel
theorem dX7_debtorsWithout_6 : decode cX7_debtorsWithout 6 = .ok (.istore_n 2, 1) := by decide +kernel
theorem dX7_debtorsWithout_7 : decode cX7_debtorsWithout 7 = .ok (.iconst 0, 1) := by decide +kernel
theorem dX7_debtorsWithout_8 : decode cX7_debtorsWithout 8 = .ok (.istore_n 3, 1) := by decide +kernel
theorem dX7_debtorsWithout_9 : decode cX7_debtorsWithout 9 = .ok (.iload_n 3, 1) := by decide +kernel
theorem dX7_debtorsWithout_10 : decode cX7_debtorsWithout 10 = .ok (.aload_n 0, 1) := by decide +kernel
theorem dX7_debtorsWithout_11 : decode cX7_debtorsWithout 11 = .ok (.getfield 28, 3) := by decide +kernel
theorem dX7_debtorsWithout_14 : decode cX7_debtorsWithout 14 = .ok (.getfield 128, 3) := by decide +kernel
theorem dX7_debtorsWithout_17 : decode cX7_debtorsWithout 17 = .ok (.if_icmp .ge 26, 3) := by decide +kernel
theorem dX7_debtorsWithout_20 : decode cX7_debtorsWithout 20 = .ok (.iload_n 2, 1) := by decide +kernel
theorem dX7_debtorsWithout_21 : decode cX7_debtorsWithout 21 = .ok (.aload_n 0, 1) := by decide +kernel
theorem dX7_debtorsWithout_22 : decode cX7_debtorsWithout 22 = .ok (.getfield 46, 3) := by decide +kernel
theorem dX7_debtorsWithout_25 : decode cX7_debtorsWithout 25 = .ok (.iload_n 3, 1) := by decide +kernel
theorem dX7_debtorsWithout_26 : decode cX7_debtorsWithout 26 = .ok (.iaload, 1) := by decide +kernel
theorem dX7_debtorsWithout_27 : decode cX7_debtorsWithout 27 = .ok (.ifCond .ge 7, 3) := by decide +kernel
theorem dX7_debtorsWithout_30 : decode cX7_debtorsWithout 30 = .ok (.iconst 1, 1) := by decide +kernel
theorem dX7_debtorsWithout_31 : decode cX7_debtorsWithout 31 = .ok (.goto 4, 3) := by decide +kernel
theorem dX7_debtorsWithout_34 : decode cX7_debtorsWithout 34 = .ok (.iconst 0, 1) := by decide +kernel
theorem dX7_debtorsWithout_35 : decode cX7_debtorsWithout 35 = .ok (.iadd, 1) := by decide +kernel
theorem dX7_debtorsWithout_36 : decode cX7_debtorsWithout 36 = .ok (.istore_n 2, 1) := by decide +kernel
theorem dX7_debtorsWithout_37 : decode cX7_debtorsWithout 37 = .ok (.iinc 3 1, 3) := by decide +kernel
theorem dX7_debtorsWithout_40 : decode cX7_debtorsWithout 40 = .ok (.goto (-31), 3) := by decide +kernel
theorem dX7_debtorsWithout_43 : decode cX7_debtorsWithout 43 = .ok (.iload_n 2, 1) := by decide +kernel
theorem dX7_debtorsWithout_44 : decode cX7_debtorsWithout 44 = .ok (.ireturn, 1) := by decide +kernel
theorem dX9_sale_0 : decode cX9_sale 0 = .ok (.aload_n 0, 1) := by decide +kernel
theorem dX9_sale_1 : decode cX9_sale 1 = .ok (.getfield 10, 3) := by decide +kernel
theorem dX9_sale_4 : decode cX9_sale 4 = .ok (.getfield 136, 3) := by decide +kernel
theorem dX9_sale_7 : decode cX9_sale 7 = .ok (.astore_n 3, 1) := by decide +kernel
theorem dX9_sale_8 : decode cX9_sale 8 = .ok (.aload_n 3, 1) := by decide +kernel
theorem dX9_sale_9 : decode cX9_sale 9 = .ok (.iload_n 1, 1) := by decide +kernel
theorem dX9_sale_10 : decode cX9_sale 10 = .ok (.invokevirtual 176, 3) := by decide +kernel
theorem dX9_sale_13 : decode cX9_sale 13 = .ok (.ifCond .ne 6, 3) := by decide +kernel
theorem dX9_sale_16 : decode cX9_sale 16 = .ok (.bipush (-2), 2) := by decide +kernel
theorem dX9_sale_18 : decode cX9_sale 18 = .ok (.ireturn, 1) := by decide +kernel
theorem dX9_sale_19 : decode cX9_sale 19 = .ok (.iload_n 2, 1) := by decide +kernel
theorem dX9_sale_20 : decode cX9_sale 20 = .ok (.tableswitch 144 0 10 #[60, 67, 74, 81, 88, 95, 101, 108, 115, 121, 135], 60) := by decide +kernel
theorem dX9_sale_80 : decode cX9_sale 80 = .ok (.aload_n 3, 1) := by decide +kernel
theorem dX9_sale_81 : decode cX9_sale 81 = .ok (.getfield 282, 3) := by decide +kernel
theorem dX9_sale_84 : decode cX9_sale 84 = .ok (.iload_n 1, 1) := by decide +kernel
theorem dX9_sale_85 : decode cX9_sale 85 = .ok (.iaload, 1) := by decide +kernel
theorem dX9_sale_86 : decode cX9_sale 86 = .ok (.ireturn, 1) := by decide +kernel
theorem dX9_sale_87 : decode cX9_sale 87 = .ok (.aload_n 3, 1) := by decide +kernel
theorem dX9_sale_88 : decode cX9_sale 88 = .ok (.getfield 285, 3) := by decide +kernel
theorem dX9_sale_91 : decode cX9_sale 91 = .ok (.iload_n 1, 1) := by decide +kernel
theorem dX9_sale_92 : decode cX9_sale 92 = .ok (.iaload, 1) := by decide +kernel
theorem dX9_sale_93 : decode cX9_sale 93 = .ok (.ireturn, 1) := by decide +kernel
theorem dX9_sale_94 : decode cX9_sale 94 = .ok (.aload_n 3, 1) := by decide +kernel
theorem dX9_sale_95 : decode cX9_sale 95 = .ok (.getfield 288, 3) := by decide +kernel
theorem dX9_sale_98 : decode cX9_sale 98 = .ok (.iload_n 1, 1) := by decide +kernel
theorem dX9_sale_99 : decode cX9_sale 99 = .ok (.iaload, 1) := by decide +kernel
theorem dX9_sale_100 : decode cX9_sale 100 = .ok (.ireturn, 1) := by decide +kernel
theorem dX9_sale_101 : decode cX9_sale 101 = .ok (.aload_n 3, 1) := by decide +kernel
theorem dX9_sale_102 : decode cX9_sale 102 = .ok (.getfield 291, 3) := by decide +kernel
theorem dX9_sale_105 : decode cX9_sale 105 = .ok (.iload_n 1, 1) := by decide +kernel
theorem dX9_sale_106 : decode cX9_sale 106 = .ok (.iaload, 1) := by decide +kernel
theorem dX9_sale_107 : decode cX9_sale 107 = .ok (.ireturn, 1) := by decide +kernel
theorem dX9_sale_108 : decode cX9_sale 108 = .ok (.aload_n 3, 1) := by decide +kernel
theorem dX9_sale_109 : decode cX9_sale 109 = .ok (.getfield 179, 3) := by decide +kernel
theorem dX9_sale_112 : decode cX9_sale 112 = .ok (.iload_n 1, 1) := by decide +kernel
theorem dX9_sale_113 : decode cX9_sale 113 = .ok (.iaload, 1) := by decide +kernel
theorem dX9_sale_114 : decode cX9_sale 114 = .ok (.ireturn, 1) := by decide +kernel
theorem dX9_sale_115 : decode cX9_sale 115 = .ok (.aload_n 3, 1) := by decide +kernel
theorem dX9_sale_116 : decode cX9_sale 116 = .ok (.iload_n 1, 1) := by decide +kernel
theorem dX9_sale_117 : decode cX9_sale 117 = .ok (.invokevirtual 294, 3) := by decide +kernel
theorem dX9_sale_120 : decode cX9_sale 120 = .ok (.ireturn, 1) := by decide +kernel
theorem dX9_sale_121 : decode cX9_sale 121 = .ok (.aload_n 3, 1) := by decide +kernel
theorem dX9_sale_122 : decode cX9_sale 122 = .ok (.getfield 182, 3) := by decide +kernel
theorem dX9_sale_125 : decode cX9_sale 125 = .ok (.iload_n 1, 1) := by decide +kernel
theorem dX9_sale_126 : decode cX9_sale 126 = .ok (.iaload, 1) := by decide +kernel
theorem dX9_sale_127 : decode cX9_sale 127 = .ok (.ireturn, 1) := by decide +kernel
theorem dX9_sale_128 : decode cX9_sale 128 = .ok (.aload_n 3, 1) := by decide +kernel
theorem dX9_sale_129 : decode cX9_sale 129 = .ok (.iload_n 1, 1) := by decide +kernel
theorem dX9_sale_130 : decode cX9_sale 130 = .ok (.iconst 2, 1) := by decide +kernel
theorem dX9_sale_131 : decode cX9_sale 131 = .ok (.invokevirtual 297, 3) := by decide +kernel
theorem dX9_sale_134 : decode cX9_sale 134 = .ok (.ireturn, 1) := by decide +kernel
theorem dX9_sale_135 : decode cX9_sale 135 = .ok (.aload_n 3, 1) := by decide +kernel
theorem dX9_sale_136 : decode cX9_sale 136 = .ok (.iload_n 1, 1) := by decide +kernel
theorem dX9_sale_137 : decode cX9_sale 137 = .ok (.invokevirtual 300, 3) := by decide +kernel
theorem dX9_sale_140 : decode cX9_sale 140 = .ok (.ireturn, 1) := by decide +kernel
theorem dX9_sale_141 : decode cX9_sale 141 = .ok (.aload_n 0, 1) := by decide +kernel
theorem dX9_sale_142 : decode cX9_sale 142 = .ok (.iload_n 1, 1) := by decide +kernel
theorem dX9_sale_143 : decode cX9_sale 143 = .ok (.invokevirtual 303, 3) := by decide +kernel
theorem dX9_sale_146 : decode cX9_sale 146 = .ok (.ifCond .eq 7, 3) := by decide +kernel
theorem dX9_sale_149 : decode cX9_sale 149 = .ok (.iconst 1, 1) := by decide +kernel
theorem dX9_sale_150 : decode cX9_sale 150 = .ok (.goto 4, 3) := by decide +kernel
theorem dX9_sale_153 : decode cX9_sale 153 = .ok (.iconst 0, 1) := by decide +kernel
theorem dX9_sale_154 : decode cX9_sale 154 = .ok (.ireturn, 1) := by decide +kernel
theorem dX9_sale_155 : decode cX9_sale 155 = .ok (.aload_n 0, 1) := by decide +kernel
theorem dX9_sale_156 : decode cX9_sale 156 = .ok (.getfield 10, 3) := by decide +kernel
theorem dX9_sale_159 : decode cX9_sale 159 = .ok (.iload_n 1, 1) := by decide +kernel
theorem dX9_sale_160 : decode cX9_sale 160 = .ok (.invokevirtual 306, 3) := by decide +kernel
theorem dX9_sale_163 : decode cX9_sale 163 = .ok (.ireturn, 1) := by decide +kernel
theorem dX9_sale_164 : decode cX9_sale 164 = .ok (.bipush (-2), 2) := by decide +kernel
theorem dX9_sale_166 : decode cX9_sale 166 = .ok (.ireturn, 1) := by decide +kernel
theorem dX10_paysOf_0 : decode cX10_paysOf 0 = .ok (.iconst 0, 1) := by decide +kernel
theorem dX10_paysOf_1 : decode cX10_paysOf 1 = .ok (.istore_n 3, 1) := by decide +kernel
theorem dX10_paysOf_2 : decode cX10_paysOf 2 = .ok (.iconst 0, 1) := by decide +kernel
theorem dX10_paysOf_3 : decode cX10_paysOf 3 = .ok (.istore 4, 2) := by decide +kernel
theorem dX10_paysOf_5 : decode cX10_paysOf 5 = .ok (.iload 4, 2) := by decide +kernel
theorem dX10_paysOf_7 : decode cX10_paysOf 7 = .ok (.aload_n 0, 1) := by decide +kernel
theorem dX10_paysOf_8 : decode cX10_paysOf 8 = .ok (.iload_n 1, 1) := by decide +kernel
theorem dX10_paysOf_9 : decode cX10_paysOf 9 = .ok (.iconst 5, 1) := by decide +kernel
theorem dX10_paysOf_10 : decode cX10_paysOf 10 = .ok (.invokevirtual 162, 3) := by decide +kernel
theorem dX10_paysOf_13 : decode cX10_paysOf 13 = .ok (.if_icmp .ge 20, 3) := by decide +kernel
theorem dX10_paysOf_16 : decode cX10_paysOf 16 = .ok (.iload_n 3, 1) := by decide +kernel
theorem dX10_paysOf_17 : decode cX10_paysOf 17 = .ok (.aload_n 0, 1) := by decide +kernel
theorem dX10_paysOf_18 : decode cX10_paysOf 18 = .ok (.iload_n 1, 1) := by decide +kernel
theorem dX10_paysOf_19 : decode cX10_paysOf 19 = .ok (.iload 4, 2) := by decide +kernel
theorem dX10_paysOf_21 : decode cX10_paysOf 21 = .ok (.iload_n 2, 1) := by decide +kernel
theorem dX10_paysOf_22 : decode cX10_paysOf 22 = .ok (.invokevirtual 240, 3) := by decide +kernel
theorem dX10_paysOf_25 : decode cX10_paysOf 25 = .ok (.iadd, 1) := by decide +kernel
theorem dX10_paysOf_26 : decode cX10_paysOf 26 = .ok (.istore_n 3, 1) := by decide +kernel
theorem dX10_paysOf_27 : decode cX10_paysOf 27 = .ok (.iinc 4 1, 3) := by decide +kernel
theorem dX10_paysOf_30 : decode cX10_paysOf 30 = .ok (.goto (-25), 3) := by decide +kernel
theorem dX10_paysOf_33 : decode cX10_paysOf 33 = .ok (.iload_n 3, 1) := by decide +kernel
theorem dX10_paysOf_34 : decode cX10_paysOf 34 = .ok (.ireturn, 1) := by decide +kernel
theorem dX10_netPaysOf_0 : decode cX10_netPaysOf 0 = .ok (.iconst 0, 1) := by decide +kernel
theorem dX10_netPaysOf_1 : decode cX10_netPaysOf 1 = .ok (.istore_n 2, 1) := by decide +kernel
theorem dX10_netPaysOf_2 : decode cX10_netPaysOf 2 = .ok (.iconst 0, 1) := by decide +kernel
theorem dX10_netPaysOf_3 : decode cX10_netPaysOf 3 = .ok (.istore_n 3, 1) := by decide +kernel
theorem dX10_netPaysOf_4 : decode cX10_netPaysOf 4 = .ok (.iload_n 3, 1) := by decide +kernel
theorem dX10_netPaysOf_5 : decode cX10_netPaysOf 5 = .ok (.aload_n 0, 1) := by decide +kernel
theorem dX10_netPaysOf_6 : decode cX10_netPaysOf 6 = .ok (.iload_n 1, 1) := by decide +kernel
theorem dX10_netPaysOf_7 : decode cX10_netPaysOf 7 = .ok (.iconst 5, 1) := by decide +kernel
theorem dX10_netPaysOf_8 : decode cX10_netPaysOf 8 = .ok (.invokevirtual 162, 3) := by decide +kernel
theorem dX10_netPaysOf_11 : decode cX10_netPaysOf 11 = .ok (.if_icmp .ge 18, 3) := by decide +kernel
theorem dX10_netPaysOf_14 : decode cX10_netPaysOf 14 = .ok (.iload_n 2, 1) := by decide +kernel
theorem dX10_netPaysOf_15 : decode cX10_netPaysOf 15 = .ok (.aload_n 0, 1) := by decide +kernel
theorem dX10_netPaysOf_16 : decode cX10_netPaysOf 16 = .ok (.iload_n 1, 1) := by decide +kernel
theorem dX10_netPaysOf_17 : decode cX10_netPaysOf 17 = .ok (.iload_n 3, 1) := by decide +kernel
theorem dX10_netPaysOf_18 : decode cX10_netPaysOf 18 = .ok (.invokevirtual 247, 3) := by decide +kernel
theorem dX10_netPaysOf_21 : decode cX10_netPaysOf 21 = .ok (.iadd, 1) := by decide +kernel
theorem dX10_netPaysOf_22 : decode cX10_netPaysOf 22 = .ok (.istore_n 2, 1) := by decide +kernel
theorem dX10_netPaysOf_23 : decode cX10_netPaysOf 23 = .ok (.iinc 3 1, 3) := by decide +kernel
theorem dX10_netPaysOf_26 : decode cX10_netPaysOf 26 = .ok (.goto (-22), 3) := by decide +kernel
theorem dX10_netPaysOf_29 : decode cX10_netPaysOf 29 = .ok (.iload_n 2, 1) := by decide +kernel
theorem dX10_netPaysOf_30 : decode cX10_netPaysOf 30 = .ok (.ireturn, 1) := by decide +kernel
theorem dX10_laysRepaid_0 : decode cX10_laysRepaid 0 = .ok (.aload_n 0, 1) := by decide +kernel
theorem dX10_laysRepaid_1 : decode cX10_laysRepaid 1 = .ok (.invokevirtual 282, 3) := by decide +kernel
theorem dX10_laysRepaid_4 : decode cX10_laysRepaid 4 = .ok (.aload_n 0, 1) := by decide +kernel
theorem dX10_laysRepaid_5 : decode cX10_laysRepaid 5 = .ok (.aload_n 0, 1) := by decide +kernel
theorem dX10_laysRepaid_6 : decode cX10_laysRepaid 6 = .ok (.invokevirtual 218, 3) := by decide +kernel
theorem dX10_laysRepaid_9 : decode cX10_laysRepaid 9 = .ok (.invokevirtual 256, 3) := by decide +kernel
theorem dX10_laysRepaid_12 : decode cX10_laysRepaid 12 = .ok (.aload_n 0, 1) := by decide +kernel
theorem dX10_laysRepaid_13 : decode cX10_laysRepaid 13 = .ok (.aload_n 0, 1) := by decide +kernel
theorem dX10_laysRepaid_14 : decode cX10_laysRepaid 14 = .ok (.iload_n 1, 1) := by decide +kernel
theorem dX10_laysRepaid_15 : decode cX10_laysRepaid 15 = .ok (.iconst 0, 1) := by decide +kernel
theorem dX10_laysRepaid_16 : decode cX10_laysRepaid 16 = .ok (.invokevirtual 162, 3) := by decide +kernel
theorem dX10_laysRepaid_19 : decode cX10_laysRepaid 19 = .ok (.aload_n 0, 1) := by decide +kernel
theorem dX10_laysRepaid_20 : decode cX10_laysRepaid 20 = .ok (.iload_n 1, 1) := by decide +kernel
theorem dX10_laysRepaid_21 : decode cX10_laysRepaid 21 = .ok (.aload_n 0, 1) := by decide +kernel
theorem dX10_laysRepaid_22 : decode cX10_laysRepaid 22 = .ok (.iload_n 1, 1) := by decide +kernel
theorem dX10_laysRepaid_23 : decode cX10_laysRepaid 23 = .ok (.iconst 1, 1) := by decide +kernel
theorem dX10_laysRepaid_24 : decode cX10_laysRepaid 24 = .ok (.invokevirtual 162, 3) := by decide +kernel
theorem dX10_laysRepaid_27 : decode cX10_laysRepaid 27 = .ok (.invokevirtual 187, 3) := by decide +kernel
theorem dX10_laysRepaid_30 : decode cX10_laysRepaid 30 = .ok (.invokevirtual 285, 3) := by decide +kernel
theorem dX10_laysRepaid_33 : decode cX10_laysRepaid 33 = .ok (.iconst 1, 1) := by decide +kernel
theorem dX10_laysRepaid_34 : decode cX10_laysRepaid 34 = .ok (.ireturn, 1) := by decide +kernel
theorem dX10_isStale_0 : decode cX10_isStale 0 = .ok (.aload_n 0, 1) := by decide +kernel
theorem dX10_isStale_1 : decode cX10_isStale 1 = .ok (.iload_n 1, 1) := by decide +kernel
theorem dX10_isStale_2 : decode cX10_isStale 2 = .ok (.invokevirtual 320, 3) := by decide +kernel
theorem dX10_isStale_5 : decode cX10_isStale 5 = .ok (.pop, 1) := by decide +kernel
theorem dX10_isStale_6 : decode cX10_isStale 6 = .ok (.aload_n 0, 1) := by decide +kernel
theorem dX10_isStale_7 : decode cX10_isStale 7 = .ok (.getfield 230, 3) := by decide +kernel
theorem dX10_isStale_10 : decode cX10_isStale 10 = .ok (.aload_n 0, 1) := by decide +kernel
theorem dX10_isStale_11 : decode cX10_isStale 11 = .ok (.iload_n 1, 1) := by decide +kernel
theorem dX10_isStale_12 : decode cX10_isStale 12 = .ok (.iconst 5, 1) := by decide +kernel
theorem dX10_isStale_13 : decode cX10_isStale 13 = .ok (.invokevirtual 162, 3) := by decide +kernel
theorem dX10_isStale_16 : decode cX10_isStale 16 = .ok (.if_icmp .ne 7, 3) := by decide +kernel
theorem dX10_isStale_19 : decode cX10_isStale 19 = .ok (.iconst 1, 1) := by decide +kernel
theorem dX10_isStale_20 : decode cX10_isStale 20 = .ok (.goto 4, 3) := by decide +kernel
theorem dX10_isStale_23 : decode cX10_isStale 23 = .ok (.iconst 0, 1) := by decide +kernel
theorem dX10_isStale_24 : decode cX10_isStale 24 = .ok (.istore_n 2, 1) := by decide +kernel
theorem dX10_isStale_25 : decode cX10_isStale 25 = .ok (.iconst 0, 1) := by decide +kernel
theorem dX10_isStale_26 : decode cX10_isStale 26 = .ok (.istore_n 3, 1) := by decide +kernel
theorem dX10_isStale_27 : decode cX10_isStale 27 = .ok (.iload_n 3, 1) := by decide +kernel
theorem dX10_isStale_28 : decode cX10_isStale 28 = .ok (.aload_n 0, 1) := by decide +kernel
theorem dX10_isStale_29 : decode cX10_isStale 29 = .ok (.getfield 230, 3) := by decide +kernel
theorem dX10_isStale_32 : decode cX10_isStale 32 = .ok (.if_icmp .ge 38, 3) := by decide +kernel
theorem dX10_isStale_35 : decode cX10_isStale 35 = .ok (.iload_n 2, 1) := by decide +kernel
theorem dX10_isStale_36 : decode cX10_isStale 36 = .ok (.ifCond .eq 34, 3) := by decide +kernel
theorem dX10_isStale_39 : decode cX10_isStale 39 = .ok (.aload_n 0, 1) := by decide +kernel
theorem dX10_isStale_40 : decode cX10_isStale 40 = .ok (.getfield 40, 3) := by decide +kernel
theorem dX10_isStale_43 : decode cX10_isStale 43 = .ok (.bipush 7, 2) := by decide +kernel
theorem dX10_isStale_45 : decode cX10_isStale 45 = .ok (.iload_n 3, 1) := by decide +kernel
theorem dX10_isStale_46 : decode cX10_isStale 46 = .ok (.imul, 1) := by decide +kernel
theorem dX10_isStale_47 : decode cX10_isStale 47 = .ok (.iaload, 1) := by decide +kernel
theorem dX10_isStale_48 : decode cX10_isStale 48 = .ok (.aload_n 0, 1) := by decide +kernel
theorem dX10_isStale_49 : decode cX10_isStale 49 = .ok (.iload_n 1, 1) := by decide +kernel
theorem dX10_isStale_50 : decode cX10_isStale 50 = .ok (.iload_n 3, 1) := by decide +kernel
theorem dX10_isStale_51 : decode cX10_isStale 51 = .ok (.iconst 0, 1) := by decide +kernel
theorem dX10_isStale_52 : decode cX10_isStale 52 = .ok (.invokevirtual 240, 3) := by decide +kernel
theorem dX10_isStale_55 : decode cX10_isStale 55 = .ok (.if_icmp .ne 7, 3) := by decide +kernel
theorem dX10_isStale_58 : decode cX10_isStale 58 = .ok (.iconst 1, 1) := by decide +kernel
theorem dX10_isStale_59 : decode cX10_isStale 59 = .ok (.goto 4, 3) := by decide +kernel
theorem dX10_isStale_62 : decode cX10_isStale 62 = .ok (.iconst 0, 1) := by decide +kernel
theorem dX10_isStale_63 : decode cX10_isStale 63 = .ok (.istore_n 2, 1) := by decide +kernel
theorem dX10_isStale_64 : decode cX10_isStale 64 = .ok (.iinc 3 1, 3) := by decide +kernel
theorem dX10_isStale_67 : decode cX10_isStale 67 = .ok (.goto (-40), 3) := by decide +kernel
theorem dX10_isStale_70 : decode cX10_isStale 70 = .ok (.iload_n 2, 1) := by decide +kernel
theorem dX10_isStale_71 : decode cX10_isStale 71 = .ok (.ifCond .ne 7, 3) := by decide +kernel
theorem dX10_isStale_74 : decode cX10_isStale 74 = .ok (.iconst 1, 1) := by decide +kernel
theorem dX10_isStale_75 : decode cX10_isStale 75 = .ok (.goto 4, 3) := by decide +kernel
theorem dX10_isStale_78 : decode cX10_isStale 78 = .ok (.iconst 0, 1) := by decide +kernel
theorem dX10_isStale_79 : decode cX10_isStale 79 = .ok (.ireturn, 1) := by decide +kernel
theorem dX10_spillOf_0 : decode cX10_spillOf 0 = .ok (.iconst 0, 1) := by decide +kernel
theorem dX10_spillOf_1 : decode cX10_spillOf 1 = .ok (.istore_n 2, 1) := by decide +kernel
theorem dX10_spillOf_2 : decode cX10_spillOf 2 = .ok (.iconst 0, 1) := by decide +kernel
theorem dX10_spillOf_3 : decode cX10_spillOf 3 = .ok (.istore_n 3, 1) := by decide +kernel
theorem dX10_spillOf_4 : decode cX10_spillOf 4 = .ok (.iload_n 3, 1) := by decide +kernel
theorem dX10_spillOf_5 : decode cX10_spillOf 5 = .ok (.aload_n 0, 1) := by decide +kernel
theorem dX10_spillOf_6 : decode cX10_spillOf 6 = .ok (.getfield 7, 3) := by decide +kernel
theorem dX10_spillOf_9 : decode cX10_spillOf 9 = .ok (.sipush 145, 3) := by decide +kernel
theorem dX10_spillOf_12 : decode cX10_spillOf 12 = .ok (.iaload, 1) := by decide +kernel
theorem dX10_spillOf_13 : decode cX10_spillOf 13 = .ok (.if_icmp .ge 36, 3) := by decide +kernel
theorem dX10_spillOf_16 : decode cX10_spillOf 16 = .ok (.iload_n 2, 1) := by decide +kernel
theorem dX10_spillOf_17 : decode cX10_spillOf 17 = .ok (.aload_n 0, 1) := by decide +kernel
theorem dX10_spillOf_18 : decode cX10_spillOf 18 = .ok (.iload_n 3, 1) := by decide +kernel
theorem dX10_spillOf_19 : decode cX10_spillOf 19 = .ok (.aload_n 0, 1) := by decide +kernel
theorem dX10_spillOf_20 : decode cX10_spillOf 20 = .ok (.invokevirtual 218, 3) := by decide +kernel
theorem dX10_spillOf_23 : decode cX10_spillOf 23 = .ok (.iload_n 1, 1) := by decide +kernel
theorem dX10_spillOf_24 : decode cX10_spillOf 24 = .ok (.invokevirtual 250, 3) := by decide +kernel
theorem dX10_spillOf_27 : decode cX10_spillOf 27 = .ok (.aload_n 0, 1) := by decide +kernel
theorem dX10_spillOf_28 : decode cX10_spillOf 28 = .ok (.iload_n 3, 1) := by decide +kernel
theorem dX10_spillOf_29 : decode cX10_spillOf 29 = .ok (.iconst 3, 1) := by decide +kernel
theorem dX10_spillOf_30 : decode cX10_spillOf 30 = .ok (.invokevirtual 159, 3) := by decide +kernel
theorem dX10_spillOf_33 : decode cX10_spillOf 33 = .ok (.if_icmp .ge 7, 3) := by decide +kernel
theorem dX10_spillOf_36 : decode cX10_spillOf 36 = .ok (.iconst 1, 1) := by decide +kernel
theorem dX10_spillOf_37 : decode cX10_spillOf 37 = .ok (.goto 4, 3) := by decide +kernel
theorem dX10_spillOf_40 : decode cX10_spillOf 40 = .ok (.iconst 0, 1) := by decide +kernel
theorem dX10_spillOf_41 : decode cX10_spillOf 41 = .ok (.iadd, 1) := by decide +kernel
theorem dX10_spillOf_42 : decode cX10_spillOf 42 = .ok (.istore_n 2, 1) := by decide +kernel
theorem dX10_spillOf_43 : decode cX10_spillOf 43 = .ok (.iinc 3 1, 3) := by decide +kernel
theorem dX10_spillOf_46 : decode cX10_spillOf 46 = .ok (.goto (-42), 3) := by decide +kernel
theorem dX10_spillOf_49 : decode cX10_spillOf 49 = .ok (.iload_n 2, 1) := by decide +kernel
theorem dX10_spillOf_50 : decode cX10_spillOf 50 = .ok (.ireturn, 1) := by decide +kernel
theorem dX10_sale_0 : decode cX10_sale 0 = .ok (.aload_n 0, 1) := by decide +kernel
theorem dX10_sale_1 : decode cX10_sale 1 = .ok (.iconst 0, 1) := by decide +kernel
theorem dX10_sale_2 : decode cX10_sale 2 = .ok (.putfield 52, 3) := by decide +kernel
theorem dX10_sale_5 : decode cX10_sale 5 = .ok (.aload_n 0, 1) := by decide +kernel
theorem dX10_sale_6 : decode cX10_sale 6 = .ok (.iload_n 1, 1) := by decide +kernel
theorem dX10_sale_7 : decode cX10_sale 7 = .ok (.invokevirtual 288, 3) := by decide +kernel
theorem dX10_sale_10 : decode cX10_sale 10 = .ok (.ifCond .ne 6, 3) := by decide +kernel
theorem dX10_sale_13 : decode cX10_sale 13 = .ok (.bipush (-2), 2) := by decide +kernel
theorem dX10_sale_15 : decode cX10_sale 15 = .ok (.ireturn, 1) := by decide +kernel
theorem dX10_sale_16 : decode cX10_sale 16 = .ok (.iload_n 2, 1) := by decide +kernel
theorem dX10_sale_17 : decode cX10_sale 17 = .ok (.tableswitch 118 0 10 #[59, 59, 59, 59, 59, 66, 78, 85, 92, 98, 112], 59) := by decide +kernel
theorem dX10_sale_76 : decode cX10_sale 76 = .ok (.aload_n 0, 1) := by decide +kernel
theorem dX10_sale_77 : decode cX10_sale 77 = .ok (.iload_n 1, 1) := by decide +kernel
theorem dX10_sale_78 : decode cX10_sale 78 = .ok (.iload_n 2, 1) := by decide +kernel
theorem dX10_sale_79 : decode cX10_sale 79 = .ok (.invokevirtual 162, 3) := by decide +kernel
theorem dX10_sale_82 : decode cX10_sale 82 = .ok (.ireturn, 1) := by decide +kernel
theorem dX10_sale_83 : decode cX10_sale 83 = .ok (.aload_n 0, 1) := by decide +kernel
theorem dX10_sale_84 : decode cX10_sale 84 = .ok (.iload_n 1, 1) := by decide +kernel
theorem dX10_sale_85 : decode cX10_sale 85 = .ok (.aload_n 0, 1) := by decide +kernel
theorem dX10_sale_86 : decode cX10_sale 86 = .ok (.iload_n 1, 1) := by decide +kernel
theorem dX10_sale_87 : decode cX10_sale 87 = .ok (.iconst 1, 1) := by decide +kernel
theorem dX10_sale_88 : decode cX10_sale 88 = .ok (.invokevirtual 162, 3) := by decide +kernel
theorem dX10_sale_91 : decode cX10_sale 91 = .ok (.invokevirtual 187, 3) := by decide +kernel
theorem dX10_sale_94 : decode cX10_sale 94 = .ok (.ireturn, 1) := by decide +kernel
theorem dX10_sale_95 : decode cX10_sale 95 = .ok (.aload_n 0, 1) := by decide +kernel
theorem dX10_sale_96 : decode cX10_sale 96 = .ok (.iload_n 1, 1) := by decide +kernel
theorem dX10_sale_97 : decode cX10_sale 97 = .ok (.iconst 5, 1) := by decide +kernel
theorem dX10_sale_98 : decode cX10_sale 98 = .ok (.invokevirtual 162, 3) := by decide +kernel
theorem dX10_sale_101 : decode cX10_sale 101 = .ok (.ireturn, 1) := by decide +kernel
theorem dX10_sale_102 : decode cX10_sale 102 = .ok (.aload_n 0, 1) := by decide +kernel
theorem dX10_sale_103 : decode cX10_sale 103 = .ok (.iload_n 1, 1) := by decide +kernel
theorem dX10_sale_104 : decode cX10_sale 104 = .ok (.iconst 2, 1) := by decide +kernel
theorem dX10_sale_105 : decode cX10_sale 105 = .ok (.invokevirtual 323, 3) := by decide +kernel
theorem dX10_sale_108 : decode cX10_sale 108 = .ok (.ireturn, 1) := by decide +kernel
theorem dX10_sale_109 : decode cX10_sale 109 = .ok (.aload_n 0, 1) := by decide +kernel
theorem dX10_sale_110 : decode cX10_sale 110 = .ok (.iload_n 1, 1) := by decide +kernel
theorem dX10_sale_111 : decode cX10_sale 111 = .ok (.invokevirtual 326, 3) := by decide +kernel
theorem dX10_sale_114 : decode cX10_sale 114 = .ok (.ireturn, 1) := by decide +kernel
theorem dX10_sale_115 : decode cX10_sale 115 = .ok (.aload_n 0, 1) := by decide +kernel
theorem dX10_sale_116 : decode cX10_sale 116 = .ok (.iload_n 1, 1) := by decide +kernel
theorem dX10_sale_117 : decode cX10_sale 117 = .ok (.invokevirtual 329, 3) := by decide +kernel
theorem dX10_sale_120 : decode cX10_sale 120 = .ok (.ifCond .eq 7, 3) := by decide +kernel
theorem dX10_sale_123 : decode cX10_sale 123 = .ok (.iconst 1, 1) := by decide +kernel
theorem dX10_sale_124 : decode cX10_sale 124 = .ok (.goto 4, 3) := by decide +kernel
theorem dX10_sale_127 : decode cX10_sale 127 = .ok (.iconst 0, 1) := by decide +kernel
theorem dX10_sale_128 : decode cX10_sale 128 = .ok (.ireturn, 1) := by decide +kernel
theorem dX10_sale_129 : decode cX10_sale 129 = .ok (.aload_n 0, 1) := by decide +kernel
theorem dX10_sale_130 : decode cX10_sale 130 = .ok (.iload_n 1, 1) := by decide +kernel
theorem dX10_sale_131 : decode cX10_sale 131 = .ok (.invokevirtual 332, 3) := by decide +kernel
theorem dX10_sale_134 : decode cX10_sale 134 = .ok (.ireturn, 1) := by decide +kernel
theorem dX10_sale_135 : decode cX10_sale 135 = .ok (.bipush (-2), 2) := by decide +kernel
theorem dX10_sale_137 : decode cX10_sale 137 = .ok (.ireturn, 1) := by decide +kernel
theorem dX9_pay_0 : decode cX9_pay 0 = .ok (.aload_n 0, 1) := by decide +kernel
theorem dX9_pay_1 : decode cX9_pay 1 = .ok (.getfield 10, 3) := by decide +kernel
theorem dX9_pay_4 : decode cX9_pay 4 = .ok (.getfield 136, 3) := by decide +kernel
theorem dX9_pay_7 : decode cX9_pay 7 = .ok (.astore 4, 2) := by decide +kernel
theorem dX9_pay_9 : decode cX9_pay 9 = .ok (.aload 4, 2) := by decide +kernel
theorem dX9_pay_11 : decode cX9_pay 11 = .ok (.iload_n 1, 1) := by decide +kernel
theorem dX9_pay_12 : decode cX9_pay 12 = .ok (.invokevirtual 176, 3) := by decide +kernel
theorem dX9_pay_15 : decode cX9_pay 15 = .ok (.ifCond .eq 19, 3) := by decide +kernel
theorem dX9_pay_18 : decode cX9_pay 18 = .ok (.iload_n 2, 1) := by decide +kernel
theorem dX9_pay_19 : decode cX9_pay 19 = .ok (.iconst 1, 1) := by decide +kernel
theorem dX9_pay_20 : decode cX9_pay 20 = .ok (.if_icmp .lt 14, 3) := by decide +kernel
theorem dX9_pay_23 : decode cX9_pay 23 = .ok (.iload_n 2, 1) := by decide +kernel
theorem dX9_pay_24 : decode cX9_pay 24 = .ok (.aload 4, 2) := by decide +kernel
theorem dX9_pay_26 : decode cX9_pay 26 = .ok (.getfield 182, 3) := by decide +kernel
theorem dX9_pay_29 : decode cX9_pay 29 = .ok (.iload_n 1, 1) := by decide +kernel
theorem dX9_pay_30 : decode cX9_pay 30 = .ok (.iaload, 1) := by decide +kernel
theorem dX9_pay_31 : decode cX9_pay 31 = .ok (.if_icmp .le 6, 3) := by decide +kernel
theorem dX9_pay_34 : decode cX9_pay 34 = .ok (.bipush (-2), 2) := by decide +kernel
theorem dX9_pay_36 : decode cX9_pay 36 = .ok (.ireturn, 1) := by decide +kernel
theorem dX9_pay_37 : decode cX9_pay 37 = .ok (.iload_n 3, 1) := by decide +kernel
theorem dX9_pay_38 : decode cX9_pay 38 = .ok (.ifCond .lt 18, 3) := by decide +kernel
theorem dX9_pay_41 : decode cX9_pay 41 = .ok (.iload_n 3, 1) := by decide +kernel
theorem dX9_pay_42 : decode cX9_pay 42 = .ok (.bipush 7, 2) := by decide +kernel
theorem dX9_pay_44 : decode cX9_pay 44 = .ok (.if_icmp .ge 12, 3) := by decide +kernel
theorem dX9_pay_47 : decode cX9_pay 47 = .ok (.aload 4, 2) := by decide +kernel
theorem dX9_pay_49 : decode cX9_pay 49 = .ok (.iload_n 1, 1) := by decide +kernel
theorem dX9_pay_50 : decode cX9_pay 50 = .ok (.iload_n 2, 1) := by decide +kernel
theorem dX9_pay_51 : decode cX9_pay 51 = .ok (.iload_n 3, 1) := by decide +kernel
theorem dX9_pay_52 : decode cX9_pay 52 = .ok (.invokevirtual 184, 3) := by decide +kernel
theorem dX9_pay_55 : decode cX9_pay 55 = .ok (.ireturn, 1) := by decide +kernel
theorem dX9_pay_56 : decode cX9_pay 56 = .ok (.iload_n 3, 1) := by decide +kernel
theorem dX9_pay_57 : decode cX9_pay 57 = .ok (.lookupswitch 52 #[(7, 27), (8, 35)], 27) := by decide +kernel
theorem dX9_pay_84 : decode cX9_pay 84 = .ok (.aload 4, 2) := by decide +kernel
theorem dX9_pay_86 : decode cX9_pay 86 = .ok (.iload_n 1, 1) := by decide +kernel
theorem dX9_pay_87 : decode cX9_pay 87 = .ok (.iload_n 2, 1) := by decide +kernel
theorem dX9_pay_88 : decode cX9_pay 88 = .ok (.invokevirtual 309, 3) := by decide +kernel
theorem dX9_pay_91 : decode cX9_pay 91 = .ok (.ireturn, 1) := by decide +kernel
theorem dX9_pay_92 : decode cX9_pay 92 = .ok (.aload_n 0, 1) := by decide +kernel
theorem dX9_pay_93 : decode cX9_pay 93 = .ok (.getfield 10, 3) := by decide +kernel
theorem dX9_pay_96 : decode cX9_pay 96 = .ok (.iload_n 1, 1) := by decide +kernel
theorem dX9_pay_97 : decode cX9_pay 97 = .ok (.iload_n 2, 1) := by decide +kernel
theorem dX9_pay_98 : decode cX9_pay 98 = .ok (.aload_n 0, 1) := by decide +kernel
theorem dX9_pay_99 : decode cX9_pay 99 = .ok (.getfield 10, 3) := by decide +kernel
theorem dX9_pay_102 : decode cX9_pay 102 = .ok (.getfield 90, 3) := by decide +kernel
theorem dX9_pay_105 : decode cX9_pay 105 = .ok (.invokevirtual 312, 3) := by decide +kernel
theorem dX9_pay_108 : decode cX9_pay 108 = .ok (.ireturn, 1) := by decide +kernel
theorem dX9_pay_109 : decode cX9_pay 109 = .ok (.bipush (-2), 2) := by decide +kernel
theorem dX9_pay_111 : decode cX9_pay 111 = .ok (.ireturn, 1) := by decide +kernel
theorem dX10_pay_0 : decode cX10_pay 0 = .ok (.aload_n 0, 1) := by decide +kernel
theorem dX10_pay_1 : decode cX10_pay 1 = .ok (.iconst 0, 1) := by decide +kernel
theorem dX10_pay_2 : decode cX10_pay 2 = .ok (.putfield 52, 3) := by decide +kernel
theorem dX10_pay_5 : decode cX10_pay 5 = .ok (.aload_n 0, 1) := by decide +kernel
theorem dX10_pay_6 : decode cX10_pay 6 = .ok (.iload_n 1, 1) := by decide +kernel
theorem dX10_pay_7 : decode cX10_pay 7 = .ok (.invokevirtual 288, 3) := by decide +kernel
theorem dX10_pay_10 : decode cX10_pay 10 = .ok (.ifCond .eq 17, 3) := by decide +kernel
theorem dX10_pay_13 : decode cX10_pay 13 = .ok (.iload_n 2, 1) := by decide +kernel
theorem dX10_pay_14 : decode cX10_pay 14 = .ok (.iconst 1, 1) := by decide +kernel
theorem dX10_pay_15 : decode cX10_pay 15 = .ok (.aload_n 0, 1) := by decide +kernel
theorem dX10_pay_16 : decode cX10_pay 16 = .ok (.iload_n 1, 1) := by decide +kernel
theorem dX10_pay_17 : decode cX10_pay 17 = .ok (.iconst 5, 1) := by decide +kernel
theorem dX10_pay_18 : decode cX10_pay 18 = .ok (.invokevirtual 162, 3) := by decide +kernel
theorem dX10_pay_21 : decode cX10_pay 21 = .ok (.invokestatic 59, 3) := by decide +kernel
theorem dX10_pay_24 : decode cX10_pay 24 = .ok (.ifCond .ne 6, 3) := by decide +kernel
theorem dX10_pay_27 : decode cX10_pay 27 = .ok (.bipush (-2), 2) := by decide +kernel
theorem dX10_pay_29 : decode cX10_pay 29 = .ok (.ireturn, 1) := by decide +kernel
theorem dX10_pay_30 : decode cX10_pay 30 = .ok (.iload_n 2, 1) := by decide +kernel
theorem dX10_pay_31 : decode cX10_pay 31 = .ok (.iconst 1, 1) := by decide +kernel
theorem dX10_pay_32 : decode cX10_pay 32 = .ok (.isub, 1) := by decide +kernel
theorem dX10_pay_33 : decode cX10_pay 33 = .ok (.istore 4, 2) := by decide +kernel
theorem dX10_pay_35 : decode cX10_pay 35 = .ok (.iload_n 3, 1) := by decide +kernel
theorem dX10_pay_36 : decode cX10_pay 36 = .ok (.iconst 0, 1) := by decide +kernel
theorem dX10_pay_37 : decode cX10_pay 37 = .ok (.bipush 6, 2) := by decide +kernel
theorem dX10_pay_39 : decode cX10_pay 39 = .ok (.invokestatic 59, 3) := by decide +kernel
theorem dX10_pay_42 : decode cX10_pay 42 = .ok (.ifCond .eq 14, 3) := by decide +kernel
theorem dX10_pay_45 : decode cX10_pay 45 = .ok (.aload_n 0, 1) := by decide +kernel
theorem dX10_pay_46 : decode cX10_pay 46 = .ok (.iload_n 1, 1) := by decide +kernel
theorem dX10_pay_47 : decode cX10_pay 47 = .ok (.iload 4, 2) := by decide +kernel
theorem dX10_pay_49 : decode cX10_pay 49 = .ok (.iload_n 3, 1) := by decide +kernel
theorem dX10_pay_50 : decode cX10_pay 50 = .ok (.invokevirtual 240, 3) := by decide +kernel
theorem dX10_pay_53 : decode cX10_pay 53 = .ok (.goto 41, 3) := by decide +kernel
theorem dX10_pay_56 : decode cX10_pay 56 = .ok (.iload_n 3, 1) := by decide +kernel
theorem dX10_pay_57 : decode cX10_pay 57 = .ok (.bipush 7, 2) := by decide +kernel
theorem dX10_pay_59 : decode cX10_pay 59 = .ok (.if_icmp .ne 13, 3) := by decide +kernel
theorem dX10_pay_62 : decode cX10_pay 62 = .ok (.aload_n 0, 1) := by decide +kernel
theorem dX10_pay_63 : decode cX10_pay 63 = .ok (.iload_n 1, 1) := by decide +kernel
theorem dX10_pay_64 : decode cX10_pay 64 = .ok (.iload 4, 2) := by decide +kernel
theorem dX10_pay_66 : decode cX10_pay 66 = .ok (.invokevirtual 247, 3) := by decide +kernel
theorem dX10_pay_69 : decode cX10_pay 69 = .ok (.goto 25, 3) := by decide +kernel
theorem dX10_pay_72 : decode cX10_pay 72 = .ok (.iload_n 3, 1) := by decide +kernel
theorem dX10_pay_73 : decode cX10_pay 73 = .ok (.bipush 8, 2) := by decide +kernel
theorem dX10_pay_75 : decode cX10_pay 75 = .ok (.if_icmp .ne 17, 3) := by decide +kernel
theorem dX10_pay_78 : decode cX10_pay 78 = .ok (.aload_n 0, 1) := by decide +kernel
theorem dX10_pay_79 : decode cX10_pay 79 = .ok (.iload_n 1, 1) := by decide +kernel
theorem dX10_pay_80 : decode cX10_pay 80 = .ok (.iload 4, 2) := by decide +kernel
theorem dX10_pay_82 : decode cX10_pay 82 = .ok (.aload_n 0, 1) := by decide +kernel
theorem dX10_pay_83 : decode cX10_pay 83 = .ok (.invokevirtual 218, 3) := by decide +kernel
theorem dX10_pay_86 : decode cX10_pay 86 = .ok (.invokevirtual 244, 3) := by decide +kernel
theorem dX10_pay_89 : decode cX10_pay 89 = .ok (.goto 5, 3) := by decide +kernel
theorem dX10_pay_92 : decode cX10_pay 92 = .ok (.bipush (-2), 2) := by decide +kernel
theorem dX10_pay_94 : decode cX10_pay 94 = .ok (.ireturn, 1) := by decide +kernel
theorem dX6_addSale_0 : decode cX6_addSale 0 = .ok (.aload_n 0, 1) := by decide +kernel
theorem dX6_addSale_1 : decode cX6_addSale 1 = .ok (.getfield 15, 3) := by decide +kernel
theorem dX6_addSale_4 : decode cX6_addSale 4 = .ok (.iload_n 1, 1) := by decide +kernel
theorem dX6_addSale_5 : decode cX6_addSale 5 = .ok (.dup2, 1) := by decide +kernel
theorem dX6_addSale_6 : decode cX6_addSale 6 = .ok (.iaload, 1) := by decide +kernel
theorem dX6_addSale_7 : decode cX6_addSale 7 = .ok (.iload_n 2, 1) := by decide +kernel
theorem dX6_addSale_8 : decode cX6_addSale 8 = .ok (.iadd, 1) := by decide +kernel
theorem dX6_addSale_9 : decode cX6_addSale 9 = .ok (.iastore, 1) := by decide +kernel
theorem dX6_addSale_10 : decode cX6_addSale 10 = .ok (.aload_n 0, 1) := by decide +kernel
theorem dX6_addSale_11 : decode cX6_addSale 11 = .ok (.getfield 18, 3) := by decide +kernel
theorem dX6_addSale_14 : decode cX6_addSale 14 = .ok (.iload_n 1, 1) := by decide +kernel
theorem dX6_addSale_15 : decode cX6_addSale 15 = .ok (.dup2, 1) := by decide +kernel
theorem dX6_addSale_16 : decode cX6_addSale 16 = .ok (.iaload, 1) := by decide +kernel
theorem dX6_addSale_17 : decode cX6_addSale 17 = .ok (.iload_n 2, 1) := by decide +kernel
theorem dX6_addSale_18 : decode cX6_addSale 18 = .ok (.iadd, 1) := by decide +kernel
theorem dX6_addSale_19 : decode cX6_addSale 19 = .ok (.iastore, 1) := by decide +kernel
theorem dX6_addSale_20 : decode cX6_addSale 20 = .ok (.return_, 1) := by decide +kernel
theorem dX6_lookWithSale_0 : decode cX6_lookWithSale 0 = .ok (.aload_n 0, 1) := by decide +kernel
theorem dX6_lookWithSale_1 : decode cX6_lookWithSale 1 = .ok (.aload_n 1, 1) := by decide +kernel
theorem dX6_lookWithSale_2 : decode cX6_lookWithSale 2 = .ok (.aload_n 1, 1) := by decide +kernel
theorem dX6_lookWithSale_3 : decode cX6_lookWithSale 3 = .ok (.getfield 66, 3) := by decide +kernel
theorem dX6_lookWithSale_6 : decode cX6_lookWithSale 6 = .ok (.invokevirtual 52, 3) := by decide +kernel
theorem dX6_lookWithSale_9 : decode cX6_lookWithSale 9 = .ok (.aload_n 0, 1) := by decide +kernel
theorem dX6_lookWithSale_10 : decode cX6_lookWithSale 10 = .ok (.iload_n 2, 1) := by decide +kernel
theorem dX6_lookWithSale_11 : decode cX6_lookWithSale 11 = .ok (.iload_n 3, 1) := by decide +kernel
theorem dX6_lookWithSale_12 : decode cX6_lookWithSale 12 = .ok (.invokevirtual 69, 3) := by decide +kernel
theorem dX6_lookWithSale_15 : decode cX6_lookWithSale 15 = .ok (.aload_n 0, 1) := by decide +kernel
theorem dX6_lookWithSale_16 : decode cX6_lookWithSale 16 = .ok (.aload_n 1, 1) := by decide +kernel
theorem dX6_lookWithSale_17 : decode cX6_lookWithSale 17 = .ok (.getfield 56, 3) := by decide +kernel
theorem dX6_lookWithSale_20 : decode cX6_lookWithSale 20 = .ok (.invokevirtual 62, 3) := by decide +kernel
theorem dX6_lookWithSale_23 : decode cX6_lookWithSale 23 = .ok (.return_, 1) := by decide +kernel
theorem dX2_answer_0 : decode cX2_answer 0 = .ok (.iload_n 1, 1) := by decide +kernel
theorem dX2_answer_1 : decode cX2_answer 1 = .ok (.ifCond .ne 8, 3) := by decide +kernel
theorem dX2_answer_4 : decode cX2_answer 4 = .ok (.aload_n 0, 1) := by decide +kernel
theorem dX2_answer_5 : decode cX2_answer 5 = .ok (.getfield 9, 3) := by decide +kernel
theorem dX2_answer_8 : decode cX2_answer 8 = .ok (.ireturn, 1) := by decide +kernel
theorem dX2_answer_9 : decode cX2_answer 9 = .ok (.iload_n 1, 1) := by decide +kernel
theorem dX2_answer_10 : decode cX2_answer 10 = .ok (.iconst 1, 1) := by decide +kernel
theorem dX2_answer_11 : decode cX2_answer 11 = .ok (.if_icmp .lt 21, 3) := by decide +kernel
theorem dX2_answer_14 : decode cX2_answer 14 = .ok (.iload_n 1, 1) := by decide +kernel
theorem dX2_answer_15 : decode cX2_answer 15 = .ok (.aload_n 0, 1) := by decide +kernel
theorem dX2_answer_16 : decode cX2_answer 16 = .ok (.getfield 9, 3) := by decide +kernel
theorem dX2_answer_19 : decode cX2_answer 19 = .ok (.if_icmp .gt 13, 3) := by decide +kernel
theorem dX2_answer_22 : decode cX2_answer 22 = .ok (.iload_n 2, 1) := by decide +kernel
theorem dX2_answer_23 : decode cX2_answer 23 = .ok (.ifCond .lt 9, 3) := by decide +kernel
theorem dX2_answer_26 : decode cX2_answer 26 = .ok (.iload_n 2, 1) := by decide +kernel
theorem dX2_answer_27 : decode cX2_answer 27 = .ok (.bipush 7, 2) := by decide +kernel
theorem dX2_answer_29 : decode cX2_answer 29 = .ok (.if_icmp .lt 6, 3) := by decide +kernel
theorem dX2_answer_32 : decode cX2_answer 32 = .ok (.bipush (-2), 2) := by decide +kernel
theorem dX2_answer_34 : decode cX2_answer 34 = .ok (.ireturn, 1) := by decide +kernel
theorem dX2_answer_35 : decode cX2_answer 35 = .ok (.aload_n 0, 1) := by decide +kernel
theorem dX2_answer_36 : decode cX2_answer 36 = .ok (.iload_n 1, 1) := by decide +kernel
theorem dX2_answer_37 : decode cX2_answer 37 = .ok (.iload_n 2, 1) := by decide +kernel
theorem dX2_answer_38 : decode cX2_answer 38 = .ok (.invokevirtual 43, 3) := by decide +kernel
theorem dX2_answer_41 : decode cX2_answer 41 = .ok (.ireturn, 1) := by decide +kernel
theorem dX9_quote_0 : decode cX9_quote 0 = .ok (.aload_n 0, 1) := by decide +kernel
theorem dX9_quote_1 : decode cX9_quote 1 = .ok (.iload_n 1, 1) := by decide +kernel
theorem dX9_quote_2 : decode cX9_quote 2 = .ok (.iload_n 2, 1) := by decide +kernel
theorem dX9_quote_3 : decode cX9_quote 3 = .ok (.invokevirtual 140, 3) := by decide +kernel
theorem dX9_quote_6 : decode cX9_quote 6 = .ok (.ifCond .ne 6, 3) := by decide +kernel
theorem dX9_quote_9 : decode cX9_quote 9 = .ok (.bipush (-2), 2) := by decide +kernel
theorem dX9_quote_11 : decode cX9_quote 11 = .ok (.ireturn, 1) := by decide +kernel
theorem dX9_quote_12 : decode cX9_quote 12 = .ok (.aload_n 0, 1) := by decide +kernel
theorem dX9_quote_13 : decode cX9_quote 13 = .ok (.getfield 30, 3) := by decide +kernel
theorem dX9_quote_16 : decode cX9_quote 16 = .ok (.aload_n 0, 1) := by decide +kernel
theorem dX9_quote_17 : decode cX9_quote 17 = .ok (.getfield 10, 3) := by decide +kernel
theorem dX9_quote_20 : decode cX9_quote 20 = .ok (.iload_n 1, 1) := by decide +kernel
theorem dX9_quote_21 : decode cX9_quote 21 = .ok (.iload_n 2, 1) := by decide +kernel
theorem dX9_quote_22 : decode cX9_quote 22 = .ok (.invokevirtual 315, 3) := by decide +kernel
theorem dX9_quote_25 : decode cX9_quote 25 = .ok (.aload_n 0, 1) := by decide +kernel
theorem dX9_quote_26 : decode cX9_quote 26 = .ok (.getfield 37, 3) := by decide +kernel
theorem dX9_quote_29 : decode cX9_quote 29 = .ok (.aload_n 0, 1) := by decide +kernel
theorem dX9_quote_30 : decode cX9_quote 30 = .ok (.getfield 10, 3) := by decide +kernel
theorem dX9_quote_33 : decode cX9_quote 33 = .ok (.aload_n 0, 1) := by decide +kernel
theorem dX9_quote_34 : decode cX9_quote 34 = .ok (.getfield 30, 3) := by decide +kernel
theorem dX9_quote_37 : decode cX9_quote 37 = .ok (.iload_n 1, 1) := by decide +kernel
theorem dX9_quote_38 : decode cX9_quote 38 = .ok (.iload_n 2, 1) := by decide +kernel
theorem dX9_quote_39 : decode cX9_quote 39 = .ok (.invokevirtual 158, 3) := by decide +kernel
theorem dX9_quote_42 : decode cX9_quote 42 = .ok (.aload_n 0, 1) := by decide +kernel
theorem dX9_quote_43 : decode cX9_quote 43 = .ok (.getfield 37, 3) := by decide +kernel
theorem dX9_quote_46 : decode cX9_quote 46 = .ok (.iload_n 3, 1) := by decide +kernel
theorem dX9_quote_47 : decode cX9_quote 47 = .ok (.iload 4, 2) := by decide +kernel
theorem dX9_quote_49 : decode cX9_quote 49 = .ok (.invokevirtual 319, 3) := by decide +kernel
theorem dX9_quote_52 : decode cX9_quote 52 = .ok (.ireturn, 1) := by decide +kernel
theorem dX10_ofPaid_0 : decode cX10_ofPaid 0 = .ok (.iload_n 1, 1) := by decide +kernel
theorem dX10_ofPaid_1 : decode cX10_ofPaid 1 = .ok (.iconst 1, 1) := by decide +kernel
theorem dX10_ofPaid_2 : decode cX10_ofPaid 2 = .ok (.aload_n 0, 1) := by decide +kernel
theorem dX10_ofPaid_3 : decode cX10_ofPaid 3 = .ok (.getfield 230, 3) := by decide +kernel
theorem dX10_ofPaid_6 : decode cX10_ofPaid 6 = .ok (.invokestatic 59, 3) := by decide +kernel
theorem dX10_ofPaid_9 : decode cX10_ofPaid 9 = .ok (.ifCond .eq 29, 3) := by decide +kernel
theorem dX10_ofPaid_12 : decode cX10_ofPaid 12 = .ok (.iload_n 2, 1) := by decide +kernel
theorem dX10_ofPaid_13 : decode cX10_ofPaid 13 = .ok (.iconst 0, 1) := by decide +kernel
theorem dX10_ofPaid_14 : decode cX10_ofPaid 14 = .ok (.bipush 6, 2) := by decide +kernel
theorem dX10_ofPaid_16 : decode cX10_ofPaid 16 = .ok (.invokestatic 59, 3) := by decide +kernel
theorem dX10_ofPaid_19 : decode cX10_ofPaid 19 = .ok (.ifCond .eq 19, 3) := by decide +kernel
theorem dX10_ofPaid_22 : decode cX10_ofPaid 22 = .ok (.aload_n 0, 1) := by decide +kernel
theorem dX10_ofPaid_23 : decode cX10_ofPaid 23 = .ok (.getfield 40, 3) := by decide +kernel
theorem dX10_ofPaid_26 : decode cX10_ofPaid 26 = .ok (.bipush 7, 2) := by decide +kernel
theorem dX10_ofPaid_28 : decode cX10_ofPaid 28 = .ok (.iload_n 1, 1) := by decide +kernel
theorem dX10_ofPaid_29 : decode cX10_ofPaid 29 = .ok (.iconst 1, 1) := by decide +kernel
theorem dX10_ofPaid_30 : decode cX10_ofPaid 30 = .ok (.isub, 1) := by decide +kernel
theorem dX10_ofPaid_31 : decode cX10_ofPaid 31 = .ok (.imul, 1) := by decide +kernel
theorem dX10_ofPaid_32 : decode cX10_ofPaid 32 = .ok (.iload_n 2, 1) := by decide +kernel
theorem dX10_ofPaid_33 : decode cX10_ofPaid 33 = .ok (.iadd, 1) := by decide +kernel
theorem dX10_ofPaid_34 : decode cX10_ofPaid 34 = .ok (.iaload, 1) := by decide +kernel
theorem dX10_ofPaid_35 : decode cX10_ofPaid 35 = .ok (.goto 5, 3) := by decide +kernel
theorem dX10_ofPaid_38 : decode cX10_ofPaid 38 = .ok (.bipush (-2), 2) := by decide +kernel
theorem dX10_ofPaid_40 : decode cX10_ofPaid 40 = .ok (.ireturn, 1) := by decide +kernel
theorem dX10_quote_0 : decode cX10_quote 0 = .ok (.aload_n 0, 1) := by decide +kernel
theorem dX10_quote_1 : decode cX10_quote 1 = .ok (.iconst 0, 1) := by decide +kernel
theorem dX10_quote_2 : decode cX10_quote 2 = .ok (.putfield 52, 3) := by decide +kernel
theorem dX10_quote_5 : decode cX10_quote 5 = .ok (.aload_n 0, 1) := by decide +kernel
theorem dX10_quote_6 : decode cX10_quote 6 = .ok (.iload_n 1, 1) := by decide +kernel
theorem dX10_quote_7 : decode cX10_quote 7 = .ok (.iload_n 2, 1) := by decide +kernel
theorem dX10_quote_8 : decode cX10_quote 8 = .ok (.aload_n 0, 1) := by decide +kernel
theorem dX10_quote_9 : decode cX10_quote 9 = .ok (.invokevirtual 218, 3) := by decide +kernel
theorem dX10_quote_12 : decode cX10_quote 12 = .ok (.invokevirtual 279, 3) := by decide +kernel
theorem dX10_quote_15 : decode cX10_quote 15 = .ok (.ifCond .ne 6, 3) := by decide +kernel
theorem dX10_quote_18 : decode cX10_quote 18 = .ok (.bipush (-2), 2) := by decide +kernel
theorem dX10_quote_20 : decode cX10_quote 20 = .ok (.ireturn, 1) := by decide +kernel
theorem dX10_quote_21 : decode cX10_quote 21 = .ok (.aload_n 0, 1) := by decide +kernel
theorem dX10_quote_22 : decode cX10_quote 22 = .ok (.invokevirtual 282, 3) := by decide +kernel
theorem dX10_quote_25 : decode cX10_quote 25 = .ok (.aload_n 0, 1) := by decide +kernel
theorem dX10_quote_26 : decode cX10_quote 26 = .ok (.aload_n 0, 1) := by decide +kernel
theorem dX10_quote_27 : decode cX10_quote 27 = .ok (.invokevirtual 218, 3) := by decide +kernel
theorem dX10_quote_30 : decode cX10_quote 30 = .ok (.invokevirtual 256, 3) := by decide +kernel
theorem dX10_quote_33 : decode cX10_quote 33 = .ok (.aload_n 0, 1) := by decide +kernel
theorem dX10_quote_34 : decode cX10_quote 34 = .ok (.getfield 34, 3) := by decide +kernel
theorem dX10_quote_37 : decode cX10_quote 37 = .ok (.bipush 100, 2) := by decide +kernel
theorem dX10_quote_39 : decode cX10_quote 39 = .ok (.iload_n 1, 1) := by decide +kernel
theorem dX10_quote_40 : decode cX10_quote 40 = .ok (.imul, 1) := by decide +kernel
theorem dX10_quote_41 : decode cX10_quote 41 = .ok (.aload_n 0, 1) := by decide +kernel
theorem dX10_quote_42 : decode cX10_quote 42 = .ok (.invokevirtual 218, 3) := by decide +kernel
theorem dX10_quote_45 : decode cX10_quote 45 = .ok (.iadd, 1) := by decide +kernel
theorem dX10_quote_46 : decode cX10_quote 46 = .ok (.dup2, 1) := by decide +kernel
theorem dX10_quote_47 : decode cX10_quote 47 = .ok (.iaload, 1) := by decide +kernel
theorem dX10_quote_48 : decode cX10_quote 48 = .ok (.iload_n 2, 1) := by decide +kernel
theorem dX10_quote_49 : decode cX10_quote 49 = .ok (.iadd, 1) := by decide +kernel
theorem dX10_quote_50 : decode cX10_quote 50 = .ok (.iastore, 1) := by decide +kernel
theorem dX10_quote_51 : decode cX10_quote 51 = .ok (.aload_n 0, 1) := by decide +kernel
theorem dX10_quote_52 : decode cX10_quote 52 = .ok (.iload_n 1, 1) := by decide +kernel
theorem dX10_quote_53 : decode cX10_quote 53 = .ok (.iload_n 2, 1) := by decide +kernel
theorem dX10_quote_54 : decode cX10_quote 54 = .ok (.invokevirtual 285, 3) := by decide +kernel
theorem dX10_quote_57 : decode cX10_quote 57 = .ok (.iload_n 3, 1) := by decide +kernel
theorem dX10_quote_58 : decode cX10_quote 58 = .ok (.ifCond .ne 10, 3) := by decide +kernel
theorem dX10_quote_61 : decode cX10_quote 61 = .ok (.aload_n 0, 1) := by decide +kernel
theorem dX10_quote_62 : decode cX10_quote 62 = .ok (.getfield 230, 3) := by decide +kernel
theorem dX10_quote_65 : decode cX10_quote 65 = .ok (.goto 10, 3) := by decide +kernel
theorem dX10_quote_68 : decode cX10_quote 68 = .ok (.aload_n 0, 1) := by decide +kernel
theorem dX10_quote_69 : decode cX10_quote 69 = .ok (.iload_n 3, 1) := by decide +kernel
theorem dX10_quote_70 : decode cX10_quote 70 = .ok (.iload 4, 2) := by decide +kernel
theorem dX10_quote_72 : decode cX10_quote 72 = .ok (.invokevirtual 335, 3) := by decide +kernel
theorem dX10_quote_75 : decode cX10_quote 75 = .ok (.ireturn, 1) := by decide +kernel
theorem dX9_repaid_0 : decode cX9_repaid 0 = .ok (.aload_n 0, 1) := by decide +kernel
theorem dX9_repaid_1 : decode cX9_repaid 1 = .ok (.getfield 10, 3) := by decide +kernel
theorem dX9_repaid_4 : decode cX9_repaid 4 = .ok (.getfield 136, 3) := by decide +kernel
theorem dX9_repaid_7 : decode cX9_repaid 7 = .ok (.astore 4, 2) := by decide +kernel
theorem dX9_repaid_9 : decode cX9_repaid 9 = .ok (.aload 4, 2) := by decide +kernel
theorem dX9_repaid_11 : decode cX9_repaid 11 = .ok (.iload_n 1, 1) := by decide +kernel
theorem dX9_repaid_12 : decode cX9_repaid 12 = .ok (.invokevirtual 176, 3) := by decide +kernel
theorem dX9_repaid_15 : decode cX9_repaid 15 = .ok (.ifCond .ne 6, 3) := by decide +kernel
theorem dX9_repaid_18 : decode cX9_repaid 18 = .ok (.bipush (-2), 2) := by decide +kernel
theorem dX9_repaid_20 : decode cX9_repaid 20 = .ok (.ireturn, 1) := by decide +kernel
theorem dX9_repaid_21 : decode cX9_repaid 21 = .ok (.aload_n 0, 1) := by decide +kernel
theorem dX9_repaid_22 : decode cX9_repaid 22 = .ok (.getfield 30, 3) := by decide +kernel
theorem dX9_repaid_25 : decode cX9_repaid 25 = .ok (.aload_n 0, 1) := by decide +kernel
theorem dX9_repaid_26 : decode cX9_repaid 26 = .ok (.getfield 10, 3) := by decide +kernel
theorem dX9_repaid_29 : decode cX9_repaid 29 = .ok (.aload_n 0, 1) := by decide +kernel
theorem dX9_repaid_30 : decode cX9_repaid 30 = .ok (.getfield 10, 3) := by decide +kernel
theorem dX9_repaid_33 : decode cX9_repaid 33 = .ok (.getfield 90, 3) := by decide +kernel
theorem dX9_repaid_36 : decode cX9_repaid 36 = .ok (.invokevirtual 154, 3) := by decide +kernel
theorem dX9_repaid_39 : decode cX9_repaid 39 = .ok (.aload_n 0, 1) := by decide +kernel
theorem dX9_repaid_40 : decode cX9_repaid 40 = .ok (.getfield 37, 3) := by decide +kernel
theorem dX9_repaid_43 : decode cX9_repaid 43 = .ok (.aload_n 0, 1) := by decide +kernel
theorem dX9_repaid_44 : decode cX9_repaid 44 = .ok (.getfield 10, 3) := by decide +kernel
theorem dX9_repaid_47 : decode cX9_repaid 47 = .ok (.aload_n 0, 1) := by decide +kernel
theorem dX9_repaid_48 : decode cX9_repaid 48 = .ok (.getfield 30, 3) := by decide +kernel
theorem dX9_repaid_51 : decode cX9_repaid 51 = .ok (.aload 4, 2) := by decide +kernel
theorem dX9_repaid_53 : decode cX9_repaid 53 = .ok (.getfield 282, 3) := by decide +kernel
theorem dX9_repaid_56 : decode cX9_repaid 56 = .ok (.iload_n 1, 1) := by decide +kernel
theorem dX9_repaid_57 : decode cX9_repaid 57 = .ok (.iaload, 1) := by decide +kernel
theorem dX9_repaid_58 : decode cX9_repaid 58 = .ok (.aload 4, 2) := by decide +kernel
theorem dX9_repaid_60 : decode cX9_repaid 60 = .ok (.iload_n 1, 1) := by decide +kernel
theorem dX9_repaid_61 : decode cX9_repaid 61 = .ok (.invokevirtual 294, 3) := by decide +kernel
theorem dX9_repaid_64 : decode cX9_repaid 64 = .ok (.invokevirtual 158, 3) := by decide +kernel
theorem dX9_repaid_67 : decode cX9_repaid 67 = .ok (.aload_n 0, 1) := by decide +kernel
theorem dX9_repaid_68 : decode cX9_repaid 68 = .ok (.getfield 37, 3) := by decide +kernel
theorem dX9_repaid_71 : decode cX9_repaid 71 = .ok (.iload_n 2, 1) := by decide +kernel
theorem dX9_repaid_72 : decode cX9_repaid 72 = .ok (.iload_n 3, 1) := by decide +kernel
theorem dX9_repaid_73 : decode cX9_repaid 73 = .ok (.invokevirtual 319, 3) := by decide +kernel
theorem dX9_repaid_76 : decode cX9_repaid 76 = .ok (.ireturn, 1) := by decide +kernel
theorem dX10_repaid_0 : decode cX10_repaid 0 = .ok (.aload_n 0, 1) := by decide +kernel
theorem dX10_repaid_1 : decode cX10_repaid 1 = .ok (.iconst 0, 1) := by decide +kernel
theorem dX10_repaid_2 : decode cX10_repaid 2 = .ok (.putfield 52, 3) := by decide +kernel
theorem dX10_repaid_5 : decode cX10_repaid 5 = .ok (.aload_n 0, 1) := by decide +kernel
theorem dX10_repaid_6 : decode cX10_repaid 6 = .ok (.iload_n 1, 1) := by decide +kernel
theorem dX10_repaid_7 : decode cX10_repaid 7 = .ok (.invokevirtual 288, 3) := by decide +kernel
theorem dX10_repaid_10 : decode cX10_repaid 10 = .ok (.ifCond .ne 6, 3) := by decide +kernel
theorem dX10_repaid_13 : decode cX10_repaid 13 = .ok (.bipush (-2), 2) := by decide +kernel
theorem dX10_repaid_15 : decode cX10_repaid 15 = .ok (.ireturn, 1) := by decide +kernel
theorem dX10_repaid_16 : decode cX10_repaid 16 = .ok (.aload_n 0, 1) := by decide +kernel
theorem dX10_repaid_17 : decode cX10_repaid 17 = .ok (.iload_n 1, 1) := by decide +kernel
theorem dX10_repaid_18 : decode cX10_repaid 18 = .ok (.invokevirtual 320, 3) := by decide +kernel
theorem dX10_repaid_21 : decode cX10_repaid 21 = .ok (.istore 4, 2) := by decide +kernel
theorem dX10_repaid_23 : decode cX10_repaid 23 = .ok (.iload_n 2, 1) := by decide +kernel
theorem dX10_repaid_24 : decode cX10_repaid 24 = .ok (.ifCond .ne 10, 3) := by decide +kernel
theorem dX10_repaid_27 : decode cX10_repaid 27 = .ok (.aload_n 0, 1) := by decide +kernel
theorem dX10_repaid_28 : decode cX10_repaid 28 = .ok (.getfield 230, 3) := by decide +kernel
theorem dX10_repaid_31 : decode cX10_repaid 31 = .ok (.goto 9, 3) := by decide +kernel
theorem dX10_repaid_34 : decode cX10_repaid 34 = .ok (.aload_n 0, 1) := by decide +kernel
theorem dX10_repaid_35 : decode cX10_repaid 35 = .ok (.iload_n 2, 1) := by decide +kernel
theorem dX10_repaid_36 : decode cX10_repaid 36 = .ok (.iload_n 3, 1) := by decide +kernel
theorem dX10_repaid_37 : decode cX10_repaid 37 = .ok (.invokevirtual 335, 3) := by decide +kernel
theorem dX10_repaid_40 : decode cX10_repaid 40 = .ok (.ireturn, 1) := by decide +kernel
theorem dX9_gap_0 : decode cX9_gap 0 = .ok (.aload_n 0, 1) := by decide +kernel
theorem dX9_gap_1 : decode cX9_gap 1 = .ok (.getfield 10, 3) := by decide +kernel
theorem dX9_gap_4 : decode cX9_gap 4 = .ok (.getfield 93, 3) := by decide +kernel
theorem dX9_gap_7 : decode cX9_gap 7 = .ok (.iload_n 1, 1) := by decide +kernel
theorem dX9_gap_8 : decode cX9_gap 8 = .ok (.invokevirtual 97, 3) := by decide +kernel
theorem dX9_gap_11 : decode cX9_gap 11 = .ok (.ifCond .eq 13, 3) := by decide +kernel
theorem dX9_gap_14 : decode cX9_gap 14 = .ok (.iload_n 2, 1) := by decide +kernel
theorem dX9_gap_15 : decode cX9_gap 15 = .ok (.iconst 1, 1) := by decide +kernel
theorem dX9_gap_16 : decode cX9_gap 16 = .ok (.if_icmp .lt 8, 3) := by decide +kernel
theorem dX9_gap_19 : decode cX9_gap 19 = .ok (.iload_n 2, 1) := by decide +kernel
theorem dX9_gap_20 : decode cX9_gap 20 = .ok (.iconst 3, 1) := by decide +kernel
theorem dX9_gap_21 : decode cX9_gap 21 = .ok (.if_icmp .le 5, 3) := by decide +kernel
theorem dX9_gap_24 : decode cX9_gap 24 = .ok (.iconst (-1), 1) := by decide +kernel
theorem dX9_gap_25 : decode cX9_gap 25 = .ok (.ireturn, 1) := by decide +kernel
theorem dX9_gap_26 : decode cX9_gap 26 = .ok (.aload_n 0, 1) := by decide +kernel
theorem dX9_gap_27 : decode cX9_gap 27 = .ok (.getfield 30, 3) := by decide +kernel
theorem dX9_gap_30 : decode cX9_gap 30 = .ok (.aload_n 0, 1) := by decide +kernel
theorem dX9_gap_31 : decode cX9_gap 31 = .ok (.getfield 10, 3) := by decide +kernel
theorem dX9_gap_34 : decode cX9_gap 34 = .ok (.aload_n 0, 1) := by decide +kernel
theorem dX9_gap_35 : decode cX9_gap 35 = .ok (.getfield 10, 3) := by decide +kernel
theorem dX9_gap_38 : decode cX9_gap 38 = .ok (.getfield 90, 3) := by decide +kernel
theorem dX9_gap_41 : decode cX9_gap 41 = .ok (.invokevirtual 154, 3) := by decide +kernel
theorem dX9_gap_44 : decode cX9_gap 44 = .ok (.aload_n 0, 1) := by decide +kernel
theorem dX9_gap_45 : decode cX9_gap 45 = .ok (.getfield 10, 3) := by decide +kernel
theorem dX9_gap_48 : decode cX9_gap 48 = .ok (.getfield 74, 3) := by decide +kernel
theorem dX9_gap_51 : decode cX9_gap 51 = .ok (.astore_n 3, 1) := by decide +kernel
theorem dX9_gap_52 : decode cX9_gap 52 = .ok (.iconst (-1), 1) := by decide +kernel
theorem dX9_gap_53 : decode cX9_gap 53 = .ok (.istore 4, 2) := by decide +kernel
theorem dX9_gap_55 : decode cX9_gap 55 = .ok (.iload_n 2, 1) := by decide +kernel
theorem dX9_gap_56 : decode cX9_gap 56 = .ok (.istore 5, 2) := by decide +kernel
theorem dX9_gap_58 : decode cX9_gap 58 = .ok (.iload 5, 2) := by decide +kernel
theorem dX9_gap_60 : decode cX9_gap 60 = .ok (.iconst 3, 1) := by decide +kernel
theorem dX9_gap_61 : decode cX9_gap 61 = .ok (.if_icmp .gt 67, 3) := by decide +kernel
theorem dX9_gap_64 : decode cX9_gap 64 = .ok (.iconst 0, 1) := by decide +kernel
theorem dX9_gap_65 : decode cX9_gap 65 = .ok (.aload_n 3, 1) := by decide +kernel
theorem dX9_gap_66 : decode cX9_gap 66 = .ok (.getfield 208, 3) := by decide +kernel
theorem dX9_gap_69 : decode cX9_gap 69 = .ok (.iload 5, 2) := by decide +kernel
theorem dX9_gap_71 : decode cX9_gap 71 = .ok (.iaload, 1) := by decide +kernel
theorem dX9_gap_72 : decode cX9_gap 72 = .ok (.aload_n 0, 1) := by decide +kernel
theorem dX9_gap_73 : decode cX9_gap 73 = .ok (.getfield 30, 3) := by decide +kernel
theorem dX9_gap_76 : decode cX9_gap 76 = .ok (.getfield 264, 3) := by decide +kernel
theorem dX9_gap_79 : decode cX9_gap 79 = .ok (.iload_n 1, 1) := by decide +kernel
theorem dX9_gap_80 : decode cX9_gap 80 = .ok (.iaload, 1) := by decide +kernel
theorem dX9_gap_81 : decode cX9_gap 81 = .ok (.isub, 1) := by decide +kernel
theorem dX9_gap_82 : decode cX9_gap 82 = .ok (.invokestatic 322, 3) := by decide +kernel
theorem dX9_gap_85 : decode cX9_gap 85 = .ok (.istore 6, 2) := by decide +kernel
theorem dX9_gap_87 : decode cX9_gap 87 = .ok (.aload_n 0, 1) := by decide +kernel
theorem dX9_gap_88 : decode cX9_gap 88 = .ok (.getfield 30, 3) := by decide +kernel
theorem dX9_gap_91 : decode cX9_gap 91 = .ok (.iload_n 1, 1) := by decide +kernel
theorem dX9_gap_92 : decode cX9_gap 92 = .ok (.invokevirtual 327, 3) := by decide +kernel
theorem dX9_gap_95 : decode cX9_gap 95 = .ok (.aload_n 3, 1) := by decide +kernel
theorem dX9_gap_96 : decode cX9_gap 96 = .ok (.getfield 211, 3) := by decide +kernel
theorem dX9_gap_99 : decode cX9_gap 99 = .ok (.iload 5, 2) := by decide +kernel
theorem dX9_gap_101 : decode cX9_gap 101 = .ok (.iaload, 1) := by decide +kernel
theorem dX9_gap_102 : decode cX9_gap 102 = .ok (.if_icmp .lt 20, 3) := by decide +kernel
theorem dX9_gap_105 : decode cX9_gap 105 = .ok (.iload 4, 2) := by decide +kernel
theorem dX9_gap_107 : decode cX9_gap 107 = .ok (.iconst (-1), 1) := by decide +kernel
theorem dX9_gap_108 : decode cX9_gap 108 = .ok (.if_icmp .eq 10, 3) := by decide +kernel
theorem dX9_gap_111 : decode cX9_gap 111 = .ok (.iload 6, 2) := by decide +kernel
theorem dX9_gap_113 : decode cX9_gap 113 = .ok (.iload 4, 2) := by decide +kernel
theorem dX9_gap_115 : decode cX9_gap 115 = .ok (.if_icmp .ge 7, 3) := by decide +kernel
theorem dX9_gap_118 : decode cX9_gap 118 = .ok (.iload 6, 2) := by decide +kernel
theorem dX9_gap_120 : decode cX9_gap 120 = .ok (.istore 4, 2) := by decide +kernel
theorem dX9_gap_122 : decode cX9_gap 122 = .ok (.iinc 5 1, 3) := by decide +kernel
theorem dX9_gap_125 : decode cX9_gap 125 = .ok (.goto (-67), 3) := by decide +kernel
theorem dX9_gap_128 : decode cX9_gap 128 = .ok (.iload 4, 2) := by decide +kernel
theorem dX9_gap_130 : decode cX9_gap 130 = .ok (.ireturn, 1) := by decide +kernel
theorem dX10_gap_0 : decode cX10_gap 0 = .ok (.aload_n 0, 1) := by decide +kernel
theorem dX10_gap_1 : decode cX10_gap 1 = .ok (.iconst 0, 1) := by decide +kernel
theorem dX10_gap_2 : decode cX10_gap 2 = .ok (.putfield 52, 3) := by decide +kernel
theorem dX10_gap_5 : decode cX10_gap 5 = .ok (.aload_n 0, 1) := by decide +kernel
theorem dX10_gap_6 : decode cX10_gap 6 = .ok (.iload_n 1, 1) := by decide +kernel
theorem dX10_gap_7 : decode cX10_gap 7 = .ok (.invokevirtual 253, 3) := by decide +kernel
theorem dX10_gap_10 : decode cX10_gap 10 = .ok (.ifCond .eq 20, 3) := by decide +kernel
theorem dX10_gap_13 : decode cX10_gap 13 = .ok (.aload_n 0, 1) := by decide +kernel
theorem dX10_gap_14 : decode cX10_gap 14 = .ok (.iload_n 1, 1) := by decide +kernel
theorem dX10_gap_15 : decode cX10_gap 15 = .ok (.invokevirtual 190, 3) := by decide +kernel
theorem dX10_gap_18 : decode cX10_gap 18 = .ok (.ifCond .ne 12, 3) := by decide +kernel
theorem dX10_gap_21 : decode cX10_gap 21 = .ok (.iload_n 2, 1) := by decide +kernel
theorem dX10_gap_22 : decode cX10_gap 22 = .ok (.iconst 1, 1) := by decide +kernel
theorem dX10_gap_23 : decode cX10_gap 23 = .ok (.iconst 3, 1) := by decide +kernel
theorem dX10_gap_24 : decode cX10_gap 24 = .ok (.invokestatic 59, 3) := by decide +kernel
theorem dX10_gap_27 : decode cX10_gap 27 = .ok (.ifCond .ne 5, 3) := by decide +kernel
theorem dX10_gap_30 : decode cX10_gap 30 = .ok (.iconst (-1), 1) := by decide +kernel
theorem dX10_gap_31 : decode cX10_gap 31 = .ok (.ireturn, 1) := by decide +kernel
theorem dX10_gap_32 : decode cX10_gap 32 = .ok (.aload_n 0, 1) := by decide +kernel
theorem dX10_gap_33 : decode cX10_gap 33 = .ok (.invokevirtual 282, 3) := by decide +kernel
theorem dX10_gap_36 : decode cX10_gap 36 = .ok (.aload_n 0, 1) := by decide +kernel
theorem dX10_gap_37 : decode cX10_gap 37 = .ok (.aload_n 0, 1) := by decide +kernel
theorem dX10_gap_38 : decode cX10_gap 38 = .ok (.invokevirtual 218, 3) := by decide +kernel
theorem dX10_gap_41 : decode cX10_gap 41 = .ok (.invokevirtual 256, 3) := by decide +kernel
theorem dX10_gap_44 : decode cX10_gap 44 = .ok (.aload_n 0, 1) := by decide +kernel
theorem dX10_gap_45 : decode cX10_gap 45 = .ok (.iload_n 1, 1) := by decide +kernel
theorem dX10_gap_46 : decode cX10_gap 46 = .ok (.invokevirtual 209, 3) := by decide +kernel
theorem dX10_gap_49 : decode cX10_gap 49 = .ok (.istore_n 3, 1) := by decide +kernel
theorem dX10_gap_50 : decode cX10_gap 50 = .ok (.aload_n 0, 1) := by decide +kernel
theorem dX10_gap_51 : decode cX10_gap 51 = .ok (.iload_n 1, 1) := by decide +kernel
theorem dX10_gap_52 : decode cX10_gap 52 = .ok (.invokevirtual 212, 3) := by decide +kernel
theorem dX10_gap_55 : decode cX10_gap 55 = .ok (.istore 4, 2) := by decide +kernel
theorem dX10_gap_57 : decode cX10_gap 57 = .ok (.sipush 10000, 3) := by decide +kernel
theorem dX10_gap_60 : decode cX10_gap 60 = .ok (.istore 5, 2) := by decide +kernel
theorem dX10_gap_62 : decode cX10_gap 62 = .ok (.iload_n 2, 1) := by decide +kernel
theorem dX10_gap_63 : decode cX10_gap 63 = .ok (.istore 6, 2) := by decide +kernel
theorem dX10_gap_65 : decode cX10_gap 65 = .ok (.iload 6, 2) := by decide +kernel
theorem dX10_gap_67 : decode cX10_gap 67 = .ok (.iconst 3, 1) := by decide +kernel
theorem dX10_gap_68 : decode cX10_gap 68 = .ok (.if_icmp .gt 52, 3) := by decide +kernel
theorem dX10_gap_71 : decode cX10_gap 71 = .ok (.iload 4, 2) := by decide +kernel
theorem dX10_gap_73 : decode cX10_gap 73 = .ok (.aload_n 0, 1) := by decide +kernel
theorem dX10_gap_74 : decode cX10_gap 74 = .ok (.getfield 7, 3) := by decide +kernel
theorem dX10_gap_77 : decode cX10_gap 77 = .ok (.bipush 11, 2) := by decide +kernel
theorem dX10_gap_79 : decode cX10_gap 79 = .ok (.iload 6, 2) := by decide +kernel
theorem dX10_gap_81 : decode cX10_gap 81 = .ok (.iadd, 1) := by decide +kernel
theorem dX10_gap_82 : decode cX10_gap 82 = .ok (.iaload, 1) := by decide +kernel
theorem dX10_gap_83 : decode cX10_gap 83 = .ok (.if_icmp .lt 27, 3) := by decide +kernel
theorem dX10_gap_86 : decode cX10_gap 86 = .ok (.iload 5, 2) := by decide +kernel
theorem dX10_gap_88 : decode cX10_gap 88 = .ok (.iconst 0, 1) := by decide +kernel
theorem dX10_gap_89 : decode cX10_gap 89 = .ok (.aload_n 0, 1) := by decide +kernel
theorem dX10_gap_90 : decode cX10_gap 90 = .ok (.getfield 7, 3) := by decide +kernel
theorem dX10_gap_93 : decode cX10_gap 93 = .ok (.bipush 7, 2) := by decide +kernel
theorem dX10_gap_95 : decode cX10_gap 95 = .ok (.iload 6, 2) := by decide +kernel
theorem dX10_gap_97 : decode cX10_gap 97 = .ok (.iadd, 1) := by decide +kernel
theorem dX10_gap_98 : decode cX10_gap 98 = .ok (.iaload, 1) := by decide +kernel
theorem dX10_gap_99 : decode cX10_gap 99 = .ok (.iload_n 3, 1) := by decide +kernel
theorem dX10_gap_100 : decode cX10_gap 100 = .ok (.isub, 1) := by decide +kernel
theorem dX10_gap_101 : decode cX10_gap 101 = .ok (.invokestatic 193, 3) := by decide +kernel
theorem dX10_gap_104 : decode cX10_gap 104 = .ok (.invokestatic 127, 3) := by decide +kernel
theorem dX10_gap_107 : decode cX10_gap 107 = .ok (.goto 5, 3) := by decide +kernel
theorem dX10_gap_110 : decode cX10_gap 110 = .ok (.iload 5, 2) := by decide +kernel
theorem dX10_gap_112 : decode cX10_gap 112 = .ok (.istore 5, 2) := by decide +kernel
theorem dX10_gap_114 : decode cX10_gap 114 = .ok (.iinc 6 1, 3) := by decide +kernel
theorem dX10_gap_117 : decode cX10_gap 117 = .ok (.goto (-52), 3) := by decide +kernel
theorem dX10_gap_120 : decode cX10_gap 120 = .ok (.iload 5, 2) := by decide +kernel
theorem dX10_gap_122 : decode cX10_gap 122 = .ok (.sipush 9999, 3) := by decide +kernel
theorem dX10_gap_125 : decode cX10_gap 125 = .ok (.if_icmp .le 7, 3) := by decide +kernel
theorem dX10_gap_128 : decode cX10_gap 128 = .ok (.iconst (-1), 1) := by decide +kernel
theorem dX10_gap_129 : decode cX10_gap 129 = .ok (.goto 5, 3) := by decide +kernel
theorem dX10_gap_132 : decode cX10_gap 132 = .ok (.iload 5, 2) := by decide +kernel
theorem dX10_gap_134 : decode cX10_gap 134 = .ok (.ireturn, 1) := by decide +kernel
theorem dX9_lifts_0 : decode cX9_lifts 0 = .ok (.aload_n 0, 1) := by decide +kernel
theorem dX9_lifts_1 : decode cX9_lifts 1 = .ok (.getfield 30, 3) := by decide +kernel
theorem dX9_lifts_4 : decode cX9_lifts 4 = .ok (.getfield 264, 3) := by decide +kernel
theorem dX9_lifts_7 : decode cX9_lifts 7 = .ok (.iload_n 1, 1) := by decide +kernel
theorem dX9_lifts_8 : decode cX9_lifts 8 = .ok (.iaload, 1) := by decide +kernel
theorem dX9_lifts_9 : decode cX9_lifts 9 = .ok (.istore 4, 2) := by decide +kernel
theorem dX9_lifts_11 : decode cX9_lifts 11 = .ok (.iconst 0, 1) := by decide +kernel
theorem dX9_lifts_12 : decode cX9_lifts 12 = .ok (.istore 5, 2) := by decide +kernel
theorem dX9_lifts_14 : decode cX9_lifts 14 = .ok (.iload 5, 2) := by decide +kernel
theorem dX9_lifts_16 : decode cX9_lifts 16 = .ok (.aload_n 0, 1) := by decide +kernel
theorem dX9_lifts_17 : decode cX9_lifts 17 = .ok (.getfield 10, 3) := by decide +kernel
theorem dX9_lifts_20 : decode cX9_lifts 20 = .ok (.getfield 93, 3) := by decide +kernel
theorem dX9_lifts_23 : decode cX9_lifts 23 = .ok (.getfield 103, 3) := by decide +kernel
theorem dX9_lifts_26 : decode cX9_lifts 26 = .ok (.if_icmp .ge 45, 3) := by decide +kernel
theorem dX9_lifts_29 : decode cX9_lifts 29 = .ok (.iload_n 3, 1) := by decide +kernel
theorem dX9_lifts_30 : decode cX9_lifts 30 = .ok (.iload 5, 2) := by decide +kernel
theorem dX9_lifts_32 : decode cX9_lifts 32 = .ok (.ishr, 1) := by decide +kernel
theorem dX9_lifts_33 : decode cX9_lifts 33 = .ok (.iconst 1, 1) := by decide +kernel
theorem dX9_lifts_34 : decode cX9_lifts 34 = .ok (.iand, 1) := by decide +kernel
theorem dX9_lifts_35 : decode cX9_lifts 35 = .ok (.iconst 1, 1) := by decide +kernel
theorem dX9_lifts_36 : decode cX9_lifts 36 = .ok (.if_icmp .ne 29, 3) := by decide +kernel
theorem dX9_lifts_39 : decode cX9_lifts 39 = .ok (.iload 4, 2) := by decide +kernel
theorem dX9_lifts_41 : decode cX9_lifts 41 = .ok (.aload_n 0, 1) := by decide +kernel
theorem dX9_lifts_42 : decode cX9_lifts 42 = .ok (.getfield 10, 3) := by decide +kernel
theorem dX9_lifts_45 : decode cX9_lifts 45 = .ok (.getfield 74, 3) := by decide +kernel
theorem dX9_lifts_48 : decode cX9_lifts 48 = .ok (.getfield 196, 3) := by decide +kernel
theorem dX9_lifts_51 : decode cX9_lifts 51 = .ok (.aload_n 0, 1) := by decide +kernel
theorem dX9_lifts_52 : decode cX9_lifts 52 = .ok (.getfield 30, 3) := by decide +kernel
theorem dX9_lifts_55 : decode cX9_lifts 55 = .ok (.getfield 258, 3) := by decide +kernel
theorem dX9_lifts_58 : decode cX9_lifts 58 = .ok (.iload 5, 2) := by decide +kernel
theorem dX9_lifts_60 : decode cX9_lifts 60 = .ok (.iaload, 1) := by decide +kernel
theorem dX9_lifts_61 : decode cX9_lifts 61 = .ok (.isub, 1) := by decide +kernel
theorem dX9_lifts_62 : decode cX9_lifts 62 = .ok (.iadd, 1) := by decide +kernel
theorem dX9_lifts_63 : decode cX9_lifts 63 = .ok (.istore 4, 2) := by decide +kernel
theorem dX9_lifts_65 : decode cX9_lifts 65 = .ok (.iinc 5 1, 3) := by decide +kernel
theorem dX9_lifts_68 : decode cX9_lifts 68 = .ok (.goto (-54), 3) := by decide +kernel
theorem dX9_lifts_71 : decode cX9_lifts 71 = .ok (.aload_n 0, 1) := by decide +kernel
theorem dX9_lifts_72 : decode cX9_lifts 72 = .ok (.getfield 30, 3) := by decide +kernel
theorem dX9_lifts_75 : decode cX9_lifts 75 = .ok (.getfield 255, 3) := by decide +kernel
theorem dX9_lifts_78 : decode cX9_lifts 78 = .ok (.iload_n 1, 1) := by decide +kernel
theorem dX9_lifts_79 : decode cX9_lifts 79 = .ok (.iaload, 1) := by decide +kernel
theorem dX9_lifts_80 : decode cX9_lifts 80 = .ok (.aload_n 0, 1) := by decide +kernel
theorem dX9_lifts_81 : decode cX9_lifts 81 = .ok (.getfield 30, 3) := by decide +kernel
theorem dX9_lifts_84 : decode cX9_lifts 84 = .ok (.getfield 267, 3) := by decide +kernel
theorem dX9_lifts_87 : decode cX9_lifts 87 = .ok (.iload_n 3, 1) := by decide +kernel
theorem dX9_lifts_88 : decode cX9_lifts 88 = .ok (.ior, 1) := by decide +kernel
theorem dX9_lifts_89 : decode cX9_lifts 89 = .ok (.iand, 1) := by decide +kernel
theorem dX9_lifts_90 : decode cX9_lifts 90 = .ok (.invokestatic 333, 3) := by decide +kernel
theorem dX9_lifts_93 : decode cX9_lifts 93 = .ok (.istore 5, 2) := by decide +kernel
theorem dX9_lifts_95 : decode cX9_lifts 95 = .ok (.aload_n 0, 1) := by decide +kernel
theorem dX9_lifts_96 : decode cX9_lifts 96 = .ok (.getfield 10, 3) := by decide +kernel
theorem dX9_lifts_99 : decode cX9_lifts 99 = .ok (.getfield 74, 3) := by decide +kernel
theorem dX9_lifts_102 : decode cX9_lifts 102 = .ok (.iload 4, 2) := by decide +kernel
theorem dX9_lifts_104 : decode cX9_lifts 104 = .ok (.iload 5, 2) := by decide +kernel
theorem dX9_lifts_106 : decode cX9_lifts 106 = .ok (.invokevirtual 406, 3) := by decide +kernel
theorem dX9_lifts_109 : decode cX9_lifts 109 = .ok (.iload_n 2, 1) := by decide +kernel
theorem dX9_lifts_110 : decode cX9_lifts 110 = .ok (.if_icmp .lt 7, 3) := by decide +kernel
theorem dX9_lifts_113 : decode cX9_lifts 113 = .ok (.iconst 1, 1) := by decide +kernel
theorem dX9_lifts_114 : decode cX9_lifts 114 = .ok (.goto 4, 3) := by decide +kernel
theorem dX9_lifts_117 : decode cX9_lifts 117 = .ok (.iconst 0, 1) := by decide +kernel
theorem dX9_lifts_118 : decode cX9_lifts 118 = .ok (.ireturn, 1) := by decide +kernel
theorem dX9_leastLift_0 : decode cX9_leastLift 0 = .ok (.aload_n 0, 1) := by decide +kernel
theorem dX9_leastLift_1 : decode cX9_leastLift 1 = .ok (.getfield 30, 3) := by decide +kernel
theorem dX9_leastLift_4 : decode cX9_leastLift 4 = .ok (.getfield 252, 3) := by decide +kernel
theorem dX9_leastLift_7 : decode cX9_leastLift 7 = .ok (.iload_n 1, 1) := by decide +kernel
theorem dX9_leastLift_8 : decode cX9_leastLift 8 = .ok (.iaload, 1) := by decide +kernel
theorem dX9_leastLift_9 : decode cX9_leastLift 9 = .ok (.aload_n 0, 1) := by decide +kernel
theorem dX9_leastLift_10 : decode cX9_leastLift 10 = .ok (.getfield 30, 3) := by decide +kernel
theorem dX9_leastLift_13 : decode cX9_leastLift 13 = .ok (.getfield 267, 3) := by decide +kernel
theorem dX9_leastLift_16 : decode cX9_leastLift 16 = .ok (.iconst (-1), 1) := by decide +kernel
theorem dX9_leastLift_17 : decode cX9_leastLift 17 = .ok (.ixor, 1) := by decide +kernel
theorem dX9_leastLift_18 : decode cX9_leastLift 18 = .ok (.iand, 1) := by decide +kernel
theorem dX9_leastLift_19 : decode cX9_leastLift 19 = .ok (.aload_n 0, 1) := by decide +kernel
theorem dX9_leastLift_20 : decode cX9_leastLift 20 = .ok (.getfield 30, 3) := by decide +kernel
theorem dX9_leastLift_23 : decode cX9_leastLift 23 = .ok (.getfield 401, 3) := by decide +kernel
theorem dX9_leastLift_26 : decode cX9_leastLift 26 = .ok (.iconst (-1), 1) := by decide +kernel
theorem dX9_leastLift_27 : decode cX9_leastLift 27 = .ok (.ixor, 1) := by decide +kernel
theorem dX9_leastLift_28 : decode cX9_leastLift 28 = .ok (.iand, 1) := by decide +kernel
theorem dX9_leastLift_29 : decode cX9_leastLift 29 = .ok (.iconst 1, 1) := by decide +kernel
theorem dX9_leastLift_30 : decode cX9_leastLift 30 = .ok (.iload_n 1, 1) := by decide +kernel
theorem dX9_leastLift_31 : decode cX9_leastLift 31 = .ok (.ishl, 1) := by decide +kernel
theorem dX9_leastLift_32 : decode cX9_leastLift 32 = .ok (.iconst (-1), 1) := by decide +kernel
theorem dX9_leastLift_33 : decode cX9_leastLift 33 = .ok (.ixor, 1) := by decide +kernel
theorem dX9_leastLift_34 : decode cX9_leastLift 34 = .ok (.iand, 1) := by decide +kernel
theorem dX9_leastLift_35 : decode cX9_leastLift 35 = .ok (.istore_n 3, 1) := by decide +kernel
theorem dX9_leastLift_36 : decode cX9_leastLift 36 = .ok (.iconst (-1), 1) := by decide +kernel
theorem dX9_leastLift_37 : decode cX9_leastLift 37 = .ok (.istore 4, 2) := by decide +kernel
theorem dX9_leastLift_39 : decode cX9_leastLift 39 = .ok (.bipush 11, 2) := by decide +kernel
theorem dX9_leastLift_41 : decode cX9_leastLift 41 = .ok (.istore 5, 2) := by decide +kernel
theorem dX9_leastLift_43 : decode cX9_leastLift 43 = .ok (.iconst 0, 1) := by decide +kernel
theorem dX9_leastLift_44 : decode cX9_leastLift 44 = .ok (.istore 6, 2) := by decide +kernel
theorem dX9_leastLift_46 : decode cX9_leastLift 46 = .ok (.iload 6, 2) := by decide +kernel
theorem dX9_leastLift_48 : decode cX9_leastLift 48 = .ok (.sipush 1024, 3) := by decide +kernel
theorem dX9_leastLift_51 : decode cX9_leastLift 51 = .ok (.if_icmp .ge 50, 3) := by decide +kernel
theorem dX9_leastLift_54 : decode cX9_leastLift 54 = .ok (.iload 6, 2) := by decide +kernel
theorem dX9_leastLift_56 : decode cX9_leastLift 56 = .ok (.iload_n 3, 1) := by decide +kernel
theorem dX9_leastLift_57 : decode cX9_leastLift 57 = .ok (.iconst (-1), 1) := by decide +kernel
theorem dX9_leastLift_58 : decode cX9_leastLift 58 = .ok (.ixor, 1) := by decide +kernel
theorem dX9_leastLift_59 : decode cX9_leastLift 59 = .ok (.iand, 1) := by decide +kernel
theorem dX9_leastLift_60 : decode cX9_leastLift 60 = .ok (.ifCond .ne 35, 3) := by decide +kernel
theorem dX9_leastLift_63 : decode cX9_leastLift 63 = .ok (.iload 6, 2) := by decide +kernel
theorem dX9_leastLift_65 : decode cX9_leastLift 65 = .ok (.invokestatic 333, 3) := by decide +kernel
theorem dX9_leastLift_68 : decode cX9_leastLift 68 = .ok (.iload 5, 2) := by decide +kernel
theorem dX9_leastLift_70 : decode cX9_leastLift 70 = .ok (.if_icmp .ge 25, 3) := by decide +kernel
theorem dX9_leastLift_73 : decode cX9_leastLift 73 = .ok (.aload_n 0, 1) := by decide +kernel
theorem dX9_leastLift_74 : decode cX9_leastLift 74 = .ok (.iload_n 1, 1) := by decide +kernel
theorem dX9_leastLift_75 : decode cX9_leastLift 75 = .ok (.iload_n 2, 1) := by decide +kernel
theorem dX9_leastLift_76 : decode cX9_leastLift 76 = .ok (.iload 6, 2) := by decide +kernel
theorem dX9_leastLift_78 : decode cX9_leastLift 78 = .ok (.invokevirtual 403, 3) := by decide +kernel
theorem dX9_leastLift_81 : decode cX9_leastLift 81 = .ok (.ifCond .eq 14, 3) := by decide +kernel
theorem dX9_leastLift_84 : decode cX9_leastLift 84 = .ok (.iload 6, 2) := by decide +kernel
theorem dX9_leastLift_86 : decode cX9_leastLift 86 = .ok (.istore 4, 2) := by decide +kernel
theorem dX9_leastLift_88 : decode cX9_leastLift 88 = .ok (.iload 6, 2) := by decide +kernel
theorem dX9_leastLift_90 : decode cX9_leastLift 90 = .ok (.invokestatic 333, 3) := by decide +kernel
theorem dX9_leastLift_93 : decode cX9_leastLift 93 = .ok (.istore 5, 2) := by decide +kernel
theorem dX9_leastLift_95 : decode cX9_leastLift 95 = .ok (.iinc 6 1, 3) := by decide +kernel
theorem dX9_leastLift_98 : decode cX9_leastLift 98 = .ok (.goto (-52), 3) := by decide +kernel
theorem dX9_leastLift_101 : decode cX9_leastLift 101 = .ok (.iload 4, 2) := by decide +kernel
theorem dX9_leastLift_103 : decode cX9_leastLift 103 = .ok (.ireturn, 1) := by decide +kernel
theorem dX9_lift_0 : decode cX9_lift 0 = .ok (.aload_n 0, 1) := by decide +kernel
theorem dX9_lift_1 : decode cX9_lift 1 = .ok (.getfield 10, 3) := by decide +kernel
theorem dX9_lift_4 : decode cX9_lift 4 = .ok (.getfield 93, 3) := by decide +kernel
theorem dX9_lift_7 : decode cX9_lift 7 = .ok (.iload_n 1, 1) := by decide +kernel
theorem dX9_lift_8 : decode cX9_lift 8 = .ok (.invokevirtual 189, 3) := by decide +kernel
theorem dX9_lift_11 : decode cX9_lift 11 = .ok (.ifCond .eq 13, 3) := by decide +kernel
theorem dX9_lift_14 : decode cX9_lift 14 = .ok (.iload_n 2, 1) := by decide +kernel
theorem dX9_lift_15 : decode cX9_lift 15 = .ok (.iconst 1, 1) := by decide +kernel
theorem dX9_lift_16 : decode cX9_lift 16 = .ok (.if_icmp .lt 8, 3) := by decide +kernel
theorem dX9_lift_19 : decode cX9_lift 19 = .ok (.iload_n 2, 1) := by decide +kernel
theorem dX9_lift_20 : decode cX9_lift 20 = .ok (.iconst 3, 1) := by decide +kernel
theorem dX9_lift_21 : decode cX9_lift 21 = .ok (.if_icmp .le 5, 3) := by decide +kernel
theorem dX9_lift_24 : decode cX9_lift 24 = .ok (.iconst (-1), 1) := by decide +kernel
theorem dX9_lift_25 : decode cX9_lift 25 = .ok (.ireturn, 1) := by decide +kernel
theorem dX9_lift_26 : decode cX9_lift 26 = .ok (.aload_n 0, 1) := by decide +kernel
theorem dX9_lift_27 : decode cX9_lift 27 = .ok (.getfield 30, 3) := by decide +kernel
theorem dX9_lift_30 : decode cX9_lift 30 = .ok (.aload_n 0, 1) := by decide +kernel
theorem dX9_lift_31 : decode cX9_lift 31 = .ok (.getfield 10, 3) := by decide +kernel
theorem dX9_lift_34 : decode cX9_lift 34 = .ok (.aload_n 0, 1) := by decide +kernel
theorem dX9_lift_35 : decode cX9_lift 35 = .ok (.getfield 10, 3) := by decide +kernel
theorem dX9_lift_38 : decode cX9_lift 38 = .ok (.getfield 90, 3) := by decide +kernel
theorem dX9_lift_41 : decode cX9_lift 41 = .ok (.invokevirtual 154, 3) := by decide +kernel
theorem dX9_lift_44 : decode cX9_lift 44 = .ok (.aload_n 0, 1) := by decide +kernel
theorem dX9_lift_45 : decode cX9_lift 45 = .ok (.iload_n 1, 1) := by decide +kernel
theorem dX9_lift_46 : decode cX9_lift 46 = .ok (.iload_n 2, 1) := by decide +kernel
theorem dX9_lift_47 : decode cX9_lift 47 = .ok (.invokevirtual 330, 3) := by decide +kernel
theorem dX9_lift_50 : decode cX9_lift 50 = .ok (.istore 4, 2) := by decide +kernel
theorem dX9_lift_52 : decode cX9_lift 52 = .ok (.iload_n 3, 1) := by decide +kernel
theorem dX9_lift_53 : decode cX9_lift 53 = .ok (.ifCond .ne 9, 3) := by decide +kernel
theorem dX9_lift_56 : decode cX9_lift 56 = .ok (.iload 4, 2) := by decide +kernel
theorem dX9_lift_58 : decode cX9_lift 58 = .ok (.iconst (-1), 1) := by decide +kernel
theorem dX9_lift_59 : decode cX9_lift 59 = .ok (.if_icmp .ne 8, 3) := by decide +kernel
theorem dX9_lift_62 : decode cX9_lift 62 = .ok (.iload 4, 2) := by decide +kernel
theorem dX9_lift_64 : decode cX9_lift 64 = .ok (.goto 8, 3) := by decide +kernel
theorem dX9_lift_67 : decode cX9_lift 67 = .ok (.iload 4, 2) := by decide +kernel
theorem dX9_lift_69 : decode cX9_lift 69 = .ok (.invokestatic 333, 3) := by decide +kernel
theorem dX9_lift_72 : decode cX9_lift 72 = .ok (.ireturn, 1) := by decide +kernel
theorem dX10_lacksOf_0 : decode cX10_lacksOf 0 = .ok (.aload_n 0, 1) := by decide +kernel
theorem dX10_lacksOf_1 : decode cX10_lacksOf 1 = .ok (.getfield 7, 3) := by decide +kernel
theorem dX10_lacksOf_4 : decode cX10_lacksOf 4 = .ok (.iconst 3, 1) := by decide +kernel
theorem dX10_lacksOf_5 : decode cX10_lacksOf 5 = .ok (.iaload, 1) := by decide +kernel
theorem dX10_lacksOf_6 : decode cX10_lacksOf 6 = .ok (.aload_n 0, 1) := by decide +kernel
theorem dX10_lacksOf_7 : decode cX10_lacksOf 7 = .ok (.getfield 34, 3) := by decide +kernel
theorem dX10_lacksOf_10 : decode cX10_lacksOf 10 = .ok (.bipush 100, 2) := by decide +kernel
theorem dX10_lacksOf_12 : decode cX10_lacksOf 12 = .ok (.iload_n 1, 1) := by decide +kernel
theorem dX10_lacksOf_13 : decode cX10_lacksOf 13 = .ok (.imul, 1) := by decide +kernel
theorem dX10_lacksOf_14 : decode cX10_lacksOf 14 = .ok (.aload_n 0, 1) := by decide +kernel
theorem dX10_lacksOf_15 : decode cX10_lacksOf 15 = .ok (.invokevirtual 218, 3) := by decide +kernel
theorem dX10_lacksOf_18 : decode cX10_lacksOf 18 = .ok (.iadd, 1) := by decide +kernel
theorem dX10_lacksOf_19 : decode cX10_lacksOf 19 = .ok (.iaload, 1) := by decide +kernel
theorem dX10_lacksOf_20 : decode cX10_lacksOf 20 = .ok (.isub, 1) := by decide +kernel
theorem dX10_lacksOf_21 : decode cX10_lacksOf 21 = .ok (.ireturn, 1) := by decide +kernel
theorem dX10_lifts_0 : decode cX10_lifts 0 = .ok (.aload_n 0, 1) := by decide +kernel
theorem dX10_lifts_1 : decode cX10_lifts 1 = .ok (.iload_n 1, 1) := by decide +kernel
theorem dX10_lifts_2 : decode cX10_lifts 2 = .ok (.invokevirtual 209, 3) := by decide +kernel
theorem dX10_lifts_5 : decode cX10_lifts 5 = .ok (.istore 4, 2) := by decide +kernel
theorem dX10_lifts_7 : decode cX10_lifts 7 = .ok (.aload_n 0, 1) := by decide +kernel
theorem dX10_lifts_8 : decode cX10_lifts 8 = .ok (.iload_n 1, 1) := by decide +kernel
theorem dX10_lifts_9 : decode cX10_lifts 9 = .ok (.invokevirtual 212, 3) := by decide +kernel
theorem dX10_lifts_12 : decode cX10_lifts 12 = .ok (.istore 5, 2) := by decide +kernel
theorem dX10_lifts_14 : decode cX10_lifts 14 = .ok (.aload_n 0, 1) := by decide +kernel
theorem dX10_lifts_15 : decode cX10_lifts 15 = .ok (.iload_n 1, 1) := by decide +kernel
theorem dX10_lifts_16 : decode cX10_lifts 16 = .ok (.invokevirtual 203, 3) := by decide +kernel
theorem dX10_lifts_19 : decode cX10_lifts 19 = .ok (.istore 6, 2) := by decide +kernel
theorem dX10_lifts_21 : decode cX10_lifts 21 = .ok (.iconst 0, 1) := by decide +kernel
theorem dX10_lifts_22 : decode cX10_lifts 22 = .ok (.istore 7, 2) := by decide +kernel
theorem dX10_lifts_24 : decode cX10_lifts 24 = .ok (.iload 7, 2) := by decide +kernel
theorem dX10_lifts_26 : decode cX10_lifts 26 = .ok (.aload_n 0, 1) := by decide +kernel
theorem dX10_lifts_27 : decode cX10_lifts 27 = .ok (.getfield 174, 3) := by decide +kernel
theorem dX10_lifts_30 : decode cX10_lifts 30 = .ok (.if_icmp .ge 62, 3) := by decide +kernel
theorem dX10_lifts_33 : decode cX10_lifts 33 = .ok (.iload 4, 2) := by decide +kernel
theorem dX10_lifts_35 : decode cX10_lifts 35 = .ok (.iload_n 2, 1) := by decide +kernel
theorem dX10_lifts_36 : decode cX10_lifts 36 = .ok (.iload 7, 2) := by decide +kernel
theorem dX10_lifts_38 : decode cX10_lifts 38 = .ok (.invokestatic 183, 3) := by decide +kernel
theorem dX10_lifts_41 : decode cX10_lifts 41 = .ok (.ifCond .eq 12, 3) := by decide +kernel
theorem dX10_lifts_44 : decode cX10_lifts 44 = .ok (.aload_n 0, 1) := by decide +kernel
theorem dX10_lifts_45 : decode cX10_lifts 45 = .ok (.iload 7, 2) := by decide +kernel
theorem dX10_lifts_47 : decode cX10_lifts 47 = .ok (.invokevirtual 338, 3) := by decide +kernel
theorem dX10_lifts_50 : decode cX10_lifts 50 = .ok (.goto 4, 3) := by decide +kernel
theorem dX10_lifts_53 : decode cX10_lifts 53 = .ok (.iconst 0, 1) := by decide +kernel
theorem dX10_lifts_54 : decode cX10_lifts 54 = .ok (.iadd, 1) := by decide +kernel
theorem dX10_lifts_55 : decode cX10_lifts 55 = .ok (.istore 4, 2) := by decide +kernel
theorem dX10_lifts_57 : decode cX10_lifts 57 = .ok (.iload 5, 2) := by decide +kernel
theorem dX10_lifts_59 : decode cX10_lifts 59 = .ok (.iload_n 2, 1) := by decide +kernel
theorem dX10_lifts_60 : decode cX10_lifts 60 = .ok (.iload 7, 2) := by decide +kernel
theorem dX10_lifts_62 : decode cX10_lifts 62 = .ok (.invokestatic 183, 3) := by decide +kernel
theorem dX10_lifts_65 : decode cX10_lifts 65 = .ok (.ifCond .eq 17, 3) := by decide +kernel
theorem dX10_lifts_68 : decode cX10_lifts 68 = .ok (.iload 6, 2) := by decide +kernel
theorem dX10_lifts_70 : decode cX10_lifts 70 = .ok (.iload 7, 2) := by decide +kernel
theorem dX10_lifts_72 : decode cX10_lifts 72 = .ok (.invokestatic 183, 3) := by decide +kernel
theorem dX10_lifts_75 : decode cX10_lifts 75 = .ok (.ifCond .eq 7, 3) := by decide +kernel
theorem dX10_lifts_78 : decode cX10_lifts 78 = .ok (.iconst 1, 1) := by decide +kernel
theorem dX10_lifts_79 : decode cX10_lifts 79 = .ok (.goto 4, 3) := by decide +kernel
theorem dX10_lifts_82 : decode cX10_lifts 82 = .ok (.iconst 0, 1) := by decide +kernel
theorem dX10_lifts_83 : decode cX10_lifts 83 = .ok (.iadd, 1) := by decide +kernel
theorem dX10_lifts_84 : decode cX10_lifts 84 = .ok (.istore 5, 2) := by decide +kernel
theorem dX10_lifts_86 : decode cX10_lifts 86 = .ok (.iinc 7 1, 3) := by decide +kernel
theorem dX10_lifts_89 : decode cX10_lifts 89 = .ok (.goto (-65), 3) := by decide +kernel
theorem dX10_lifts_92 : decode cX10_lifts 92 = .ok (.aload_n 0, 1) := by decide +kernel
theorem dX10_lifts_93 : decode cX10_lifts 93 = .ok (.iload 4, 2) := by decide +kernel
theorem dX10_lifts_95 : decode cX10_lifts 95 = .ok (.iload 5, 2) := by decide +kernel
theorem dX10_lifts_97 : decode cX10_lifts 97 = .ok (.invokevirtual 215, 3) := by decide +kernel
theorem dX10_lifts_100 : decode cX10_lifts 100 = .ok (.iload_n 3, 1) := by decide +kernel
theorem dX10_lifts_101 : decode cX10_lifts 101 = .ok (.if_icmp .lt 7, 3) := by decide +kernel
theorem dX10_lifts_104 : decode cX10_lifts 104 = .ok (.iconst 1, 1) := by decide +kernel
theorem dX10_lifts_105 : decode cX10_lifts 105 = .ok (.goto 4, 3) := by decide +kernel
theorem dX10_lifts_108 : decode cX10_lifts 108 = .ok (.iconst 0, 1) := by decide +kernel
theorem dX10_lifts_109 : decode cX10_lifts 109 = .ok (.ireturn, 1) := by decide +kernel
theorem dX10_lift_0 : decode cX10_lift 0 = .ok (.aload_n 0, 1) := by decide +kernel
theorem dX10_lift_1 : decode cX10_lift 1 = .ok (.iconst 0, 1) := by decide +kernel
theorem dX10_lift_2 : decode cX10_lift 2 = .ok (.putfield 52, 3) := by decide +kernel
theorem dX10_lift_5 : decode cX10_lift 5 = .ok (.aload_n 0, 1) := by decide +kernel
theorem dX10_lift_6 : decode cX10_lift 6 = .ok (.iload_n 1, 1) := by decide +kernel
theorem dX10_lift_7 : decode cX10_lift 7 = .ok (.invokevirtual 253, 3) := by decide +kernel
theorem dX10_lift_10 : decode cX10_lift 10 = .ok (.ifCond .eq 12, 3) := by decide +kernel
theorem dX10_lift_13 : decode cX10_lift 13 = .ok (.iload_n 2, 1) := by decide +kernel
theorem dX10_lift_14 : decode cX10_lift 14 = .ok (.iconst 1, 1) := by decide +kernel
theorem dX10_lift_15 : decode cX10_lift 15 = .ok (.iconst 3, 1) := by decide +kernel
theorem dX10_lift_16 : decode cX10_lift 16 = .ok (.invokestatic 59, 3) := by decide +kernel
theorem dX10_lift_19 : decode cX10_lift 19 = .ok (.ifCond .ne 5, 3) := by decide +kernel
theorem dX10_lift_22 : decode cX10_lift 22 = .ok (.iconst (-1), 1) := by decide +kernel
theorem dX10_lift_23 : decode cX10_lift 23 = .ok (.ireturn, 1) := by decide +kernel
theorem dX10_lift_24 : decode cX10_lift 24 = .ok (.aload_n 0, 1) := by decide +kernel
theorem dX10_lift_25 : decode cX10_lift 25 = .ok (.invokevirtual 282, 3) := by decide +kernel
theorem dX10_lift_28 : decode cX10_lift 28 = .ok (.aload_n 0, 1) := by decide +kernel
theorem dX10_lift_29 : decode cX10_lift 29 = .ok (.aload_n 0, 1) := by decide +kernel
theorem dX10_lift_30 : decode cX10_lift 30 = .ok (.invokevirtual 218, 3) := by decide +kernel
theorem dX10_lift_33 : decode cX10_lift 33 = .ok (.invokevirtual 256, 3) := by decide +kernel
theorem dX10_lift_36 : decode cX10_lift 36 = .ok (.aload_n 0, 1) := by decide +kernel
theorem dX10_lift_37 : decode cX10_lift 37 = .ok (.iload_n 1, 1) := by decide +kernel
theorem dX10_lift_38 : decode cX10_lift 38 = .ok (.invokevirtual 196, 3) := by decide +kernel
theorem dX10_lift_41 : decode cX10_lift 41 = .ok (.istore 4, 2) := by decide +kernel
theorem dX10_lift_43 : decode cX10_lift 43 = .ok (.iconst 0, 1) := by decide +kernel
theorem dX10_lift_44 : decode cX10_lift 44 = .ok (.istore 5, 2) := by decide +kernel
theorem dX10_lift_46 : decode cX10_lift 46 = .ok (.iload 5, 2) := by decide +kernel
theorem dX10_lift_48 : decode cX10_lift 48 = .ok (.aload_n 0, 1) := by decide +kernel
theorem dX10_lift_49 : decode cX10_lift 49 = .ok (.getfield 174, 3) := by decide +kernel
theorem dX10_lift_52 : decode cX10_lift 52 = .ok (.if_icmp .ge 53, 3) := by decide +kernel
theorem dX10_lift_55 : decode cX10_lift 55 = .ok (.iload 5, 2) := by decide +kernel
theorem dX10_lift_57 : decode cX10_lift 57 = .ok (.iload_n 1, 1) := by decide +kernel
theorem dX10_lift_58 : decode cX10_lift 58 = .ok (.if_icmp .eq 25, 3) := by decide +kernel
theorem dX10_lift_61 : decode cX10_lift 61 = .ok (.aload_n 0, 1) := by decide +kernel
theorem dX10_lift_62 : decode cX10_lift 62 = .ok (.iload 5, 2) := by decide +kernel
theorem dX10_lift_64 : decode cX10_lift 64 = .ok (.invokevirtual 190, 3) := by decide +kernel
theorem dX10_lift_67 : decode cX10_lift 67 = .ok (.ifCond .ne 16, 3) := by decide +kernel
theorem dX10_lift_70 : decode cX10_lift 70 = .ok (.aload_n 0, 1) := by decide +kernel
theorem dX10_lift_71 : decode cX10_lift 71 = .ok (.iload 5, 2) := by decide +kernel
theorem dX10_lift_73 : decode cX10_lift 73 = .ok (.aload_n 0, 1) := by decide +kernel
theorem dX10_lift_74 : decode cX10_lift 74 = .ok (.invokevirtual 218, 3) := by decide +kernel
theorem dX10_lift_77 : decode cX10_lift 77 = .ok (.invokevirtual 206, 3) := by decide +kernel
theorem dX10_lift_80 : decode cX10_lift 80 = .ok (.ifCond .eq 15, 3) := by decide +kernel
theorem dX10_lift_83 : decode cX10_lift 83 = .ok (.iload 4, 2) := by decide +kernel
theorem dX10_lift_85 : decode cX10_lift 85 = .ok (.iconst 1, 1) := by decide +kernel
theorem dX10_lift_86 : decode cX10_lift 86 = .ok (.iload 5, 2) := by decide +kernel
theorem dX10_lift_88 : decode cX10_lift 88 = .ok (.ishl, 1) := by decide +kernel
theorem dX10_lift_89 : decode cX10_lift 89 = .ok (.iconst (-1), 1) := by decide +kernel
theorem dX10_lift_90 : decode cX10_lift 90 = .ok (.ixor, 1) := by decide +kernel
theorem dX10_lift_91 : decode cX10_lift 91 = .ok (.iand, 1) := by decide +kernel
theorem dX10_lift_92 : decode cX10_lift 92 = .ok (.goto 5, 3) := by decide +kernel
theorem dX10_lift_95 : decode cX10_lift 95 = .ok (.iload 4, 2) := by decide +kernel
theorem dX10_lift_97 : decode cX10_lift 97 = .ok (.istore 4, 2) := by decide +kernel
theorem dX10_lift_99 : decode cX10_lift 99 = .ok (.iinc 5 1, 3) := by decide +kernel
theorem dX10_lift_102 : decode cX10_lift 102 = .ok (.goto (-56), 3) := by decide +kernel
theorem dX10_lift_105 : decode cX10_lift 105 = .ok (.iconst (-1), 1) := by decide +kernel
theorem dX10_lift_106 : decode cX10_lift 106 = .ok (.istore 5, 2) := by decide +kernel
theorem dX10_lift_108 : decode cX10_lift 108 = .ok (.iconst 0, 1) := by decide +kernel
theorem dX10_lift_109 : decode cX10_lift 109 = .ok (.istore 6, 2) := by decide +kernel
theorem dX10_lift_111 : decode cX10_lift 111 = .ok (.iload 6, 2) := by decide +kernel
theorem dX10_lift_113 : decode cX10_lift 113 = .ok (.iconst 1, 1) := by decide +kernel
theorem dX10_lift_114 : decode cX10_lift 114 = .ok (.aload_n 0, 1) := by decide +kernel
theorem dX10_lift_115 : decode cX10_lift 115 = .ok (.getfield 174, 3) := by decide +kernel
theorem dX10_lift_118 : decode cX10_lift 118 = .ok (.ishl, 1) := by decide +kernel
theorem dX10_lift_119 : decode cX10_lift 119 = .ok (.if_icmp .ge 53, 3) := by decide +kernel
theorem dX10_lift_122 : decode cX10_lift 122 = .ok (.iload 6, 2) := by decide +kernel
theorem dX10_lift_124 : decode cX10_lift 124 = .ok (.iload 4, 2) := by decide +kernel
theorem dX10_lift_126 : decode cX10_lift 126 = .ok (.iand, 1) := by decide +kernel
theorem dX10_lift_127 : decode cX10_lift 127 = .ok (.iload 6, 2) := by decide +kernel
theorem dX10_lift_129 : decode cX10_lift 129 = .ok (.if_icmp .ne 37, 3) := by decide +kernel
theorem dX10_lift_132 : decode cX10_lift 132 = .ok (.iload 5, 2) := by decide +kernel
theorem dX10_lift_134 : decode cX10_lift 134 = .ok (.iconst (-1), 1) := by decide +kernel
theorem dX10_lift_135 : decode cX10_lift 135 = .ok (.if_icmp .eq 16, 3) := by decide +kernel
theorem dX10_lift_138 : decode cX10_lift 138 = .ok (.iload 6, 2) := by decide +kernel
theorem dX10_lift_140 : decode cX10_lift 140 = .ok (.invokestatic 224, 3) := by decide +kernel
theorem dX10_lift_143 : decode cX10_lift 143 = .ok (.iload 5, 2) := by decide +kernel
theorem dX10_lift_145 : decode cX10_lift 145 = .ok (.invokestatic 224, 3) := by decide +kernel
theorem dX10_lift_148 : decode cX10_lift 148 = .ok (.if_icmp .ge 18, 3) := by decide +kernel
theorem dX10_lift_151 : decode cX10_lift 151 = .ok (.aload_n 0, 1) := by decide +kernel
theorem dX10_lift_152 : decode cX10_lift 152 = .ok (.iload_n 1, 1) := by decide +kernel
theorem dX10_lift_153 : decode cX10_lift 153 = .ok (.iload 6, 2) := by decide +kernel
theorem dX10_lift_155 : decode cX10_lift 155 = .ok (.iload_n 2, 1) := by decide +kernel
theorem dX10_lift_156 : decode cX10_lift 156 = .ok (.invokevirtual 341, 3) := by decide +kernel
theorem dX10_lift_159 : decode cX10_lift 159 = .ok (.ifCond .eq 7, 3) := by decide +kernel
theorem dX10_lift_162 : decode cX10_lift 162 = .ok (.iload 6, 2) := by decide +kernel
theorem dX10_lift_164 : decode cX10_lift 164 = .ok (.istore 5, 2) := by decide +kernel
theorem dX10_lift_166 : decode cX10_lift 166 = .ok (.iinc 6 1, 3) := by decide +kernel
theorem dX10_lift_169 : decode cX10_lift 169 = .ok (.goto (-58), 3) := by decide +kernel
theorem dX10_lift_172 : decode cX10_lift 172 = .ok (.iload_n 3, 1) := by decide +kernel
theorem dX10_lift_173 : decode cX10_lift 173 = .ok (.ifCond .ne 9, 3) := by decide +kernel
theorem dX10_lift_176 : decode cX10_lift 176 = .ok (.iload 5, 2) := by decide +kernel
theorem dX10_lift_178 : decode cX10_lift 178 = .ok (.iconst (-1), 1) := by decide +kernel
theorem dX10_lift_179 : decode cX10_lift 179 = .ok (.if_icmp .ne 8, 3) := by decide +kernel
theorem dX10_lift_182 : decode cX10_lift 182 = .ok (.iload 5, 2) := by decide +kernel
theorem dX10_lift_184 : decode cX10_lift 184 = .ok (.goto 8, 3) := by decide +kernel
theorem dX10_lift_187 : decode cX10_lift 187 = .ok (.iload 5, 2) := by decide +kernel
theorem dX10_lift_189 : decode cX10_lift 189 = .ok (.invokestatic 224, 3) := by decide +kernel
theorem dX10_lift_192 : decode cX10_lift 192 = .ok (.ireturn, 1) := by decide +kernel
