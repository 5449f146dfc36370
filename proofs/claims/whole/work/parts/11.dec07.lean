theorem dX10_copyAll_0 : decode cX10_copyAll 0 = .ok (.iconst 0, 1) := by decide +kernel
theorem dX10_copyAll_1 : decode cX10_copyAll 1 = .ok (.istore_n 3, 1) := by decide +kernel
theorem dX10_copyAll_2 : decode cX10_copyAll 2 = .ok (.iload_n 3, 1) := by decide +kernel
theorem dX10_copyAll_3 : decode cX10_copyAll 3 = .ok (.sipush 2727, 3) := by decide +kernel
theorem dX10_copyAll_6 : decode cX10_copyAll 6 = .ok (.if_icmp .ge 33, 3) := by decide +kernel
theorem dX10_copyAll_9 : decode cX10_copyAll 9 = .ok (.aload_n 0, 1) := by decide +kernel
theorem dX10_copyAll_10 : decode cX10_copyAll 10 = .ok (.getfield 7, 3) := by decide +kernel
theorem dX10_copyAll_13 : decode cX10_copyAll 13 = .ok (.sipush 2727, 3) := by decide +kernel
theorem dX10_copyAll_16 : decode cX10_copyAll 16 = .ok (.iload_n 2, 1) := by decide +kernel
theorem dX10_copyAll_17 : decode cX10_copyAll 17 = .ok (.imul, 1) := by decide +kernel
theorem dX10_copyAll_18 : decode cX10_copyAll 18 = .ok (.iload_n 3, 1) := by decide +kernel
theorem dX10_copyAll_19 : decode cX10_copyAll 19 = .ok (.iadd, 1) := by decide +kernel
theorem dX10_copyAll_20 : decode cX10_copyAll 20 = .ok (.aload_n 0, 1) := by decide +kernel
theorem dX10_copyAll_21 : decode cX10_copyAll 21 = .ok (.getfield 7, 3) := by decide +kernel
theorem dX10_copyAll_24 : decode cX10_copyAll 24 = .ok (.sipush 2727, 3) := by decide +kernel
theorem dX10_copyAll_27 : decode cX10_copyAll 27 = .ok (.iload_n 1, 1) := by decide +kernel
theorem dX10_copyAll_28 : decode cX10_copyAll 28 = .ok (.imul, 1) := by decide +kernel
theorem dX10_copyAll_29 : decode cX10_copyAll 29 = .ok (.iload_n 3, 1) := by decide +kernel
theorem dX10_copyAll_30 : decode cX10_copyAll 30 = .ok (.iadd, 1) := by decide +kernel
theorem dX10_copyAll_31 : decode cX10_copyAll 31 = .ok (.iaload, 1) := by decide +kernel
theorem dX10_copyAll_32 : decode cX10_copyAll 32 = .ok (.iastore, 1) := by decide +kernel
theorem dX10_copyAll_33 : decode cX10_copyAll 33 = .ok (.iinc 3 1, 3) := by decide +kernel
theorem dX10_copyAll_36 : decode cX10_copyAll 36 = .ok (.goto (-34), 3) := by decide +kernel
theorem dX10_copyAll_39 : decode cX10_copyAll 39 = .ok (.iconst 0, 1) := by decide +kernel
theorem dX10_copyAll_40 : decode cX10_copyAll 40 = .ok (.istore_n 3, 1) := by decide +kernel
theorem dX10_copyAll_41 : decode cX10_copyAll 41 = .ok (.iload_n 3, 1) := by decide +kernel
theorem dX10_copyAll_42 : decode cX10_copyAll 42 = .ok (.sipush 600, 3) := by decide +kernel
theorem dX10_copyAll_45 : decode cX10_copyAll 45 = .ok (.if_icmp .ge 33, 3) := by decide +kernel
theorem dX10_copyAll_48 : decode cX10_copyAll 48 = .ok (.aload_n 0, 1) := by decide +kernel
theorem dX10_copyAll_49 : decode cX10_copyAll 49 = .ok (.getfield 13, 3) := by decide +kernel
theorem dX10_copyAll_52 : decode cX10_copyAll 52 = .ok (.sipush 600, 3) := by decide +kernel
theorem dX10_copyAll_55 : decode cX10_copyAll 55 = .ok (.iload_n 2, 1) := by decide +kernel
theorem dX10_copyAll_56 : decode cX10_copyAll 56 = .ok (.imul, 1) := by decide +kernel
theorem dX10_copyAll_57 : decode cX10_copyAll 57 = .ok (.iload_n 3, 1) := by decide +kernel
theorem dX10_copyAll_58 : decode cX10_copyAll 58 = .ok (.iadd, 1) := by decide +kernel
theorem dX10_copyAll_59 : decode cX10_copyAll 59 = .ok (.aload_n 0, 1) := by decide +kernel
theorem dX10_copyAll_60 : decode cX10_copyAll 60 = .ok (.getfield 13, 3) := by decide +kernel
theorem dX10_copyAll_63 : decode cX10_copyAll 63 = .ok (.sipush 600, 3) := by decide +kernel
theorem dX10_copyAll_66 : decode cX10_copyAll 66 = .ok (.iload_n 1, 1) := by decide +kernel
theorem dX10_copyAll_67 : decode cX10_copyAll 67 = .ok (.imul, 1) := by decide +kernel
theorem dX10_copyAll_68 : decode cX10_copyAll 68 = .ok (.iload_n 3, 1) := by decide +kernel
theorem dX10_copyAll_69 : decode cX10_copyAll 69 = .ok (.iadd, 1) := by decide +kernel
theorem dX10_copyAll_70 : decode cX10_copyAll 70 = .ok (.baload, 1) := by decide +kernel
theorem dX10_copyAll_71 : decode cX10_copyAll 71 = .ok (.bastore, 1) := by decide +kernel
theorem dX10_copyAll_72 : decode cX10_copyAll 72 = .ok (.iinc 3 1, 3) := by decide +kernel
theorem dX10_copyAll_75 : decode cX10_copyAll 75 = .ok (.goto (-34), 3) := by decide +kernel
theorem dX10_copyAll_78 : decode cX10_copyAll 78 = .ok (.return_, 1) := by decide +kernel
theorem dX10_image_0 : decode cX10_image 0 = .ok (.aload_n 0, 1) := by decide +kernel
theorem dX10_image_1 : decode cX10_image 1 = .ok (.iconst 0, 1) := by decide +kernel
theorem dX10_image_2 : decode cX10_image 2 = .ok (.putfield 52, 3) := by decide +kernel
theorem dX10_image_5 : decode cX10_image 5 = .ok (.iload_n 1, 1) := by decide +kernel
theorem dX10_image_6 : decode cX10_image 6 = .ok (.iconst 0, 1) := by decide +kernel
theorem dX10_image_7 : decode cX10_image 7 = .ok (.iconst 2, 1) := by decide +kernel
theorem dX10_image_8 : decode cX10_image 8 = .ok (.invokestatic 59, 3) := by decide +kernel
theorem dX10_image_11 : decode cX10_image 11 = .ok (.ifCond .ne 5, 3) := by decide +kernel
theorem dX10_image_14 : decode cX10_image 14 = .ok (.iconst 0, 1) := by decide +kernel
theorem dX10_image_15 : decode cX10_image 15 = .ok (.ireturn, 1) := by decide +kernel
theorem dX10_image_16 : decode cX10_image 16 = .ok (.aload_n 0, 1) := by decide +kernel
theorem dX10_image_17 : decode cX10_image 17 = .ok (.iconst 0, 1) := by decide +kernel
theorem dX10_image_18 : decode cX10_image 18 = .ok (.iload_n 1, 1) := by decide +kernel
theorem dX10_image_19 : decode cX10_image 19 = .ok (.iconst 1, 1) := by decide +kernel
theorem dX10_image_20 : decode cX10_image 20 = .ok (.iadd, 1) := by decide +kernel
theorem dX10_image_21 : decode cX10_image 21 = .ok (.invokevirtual 360, 3) := by decide +kernel
theorem dX10_image_24 : decode cX10_image 24 = .ok (.aload_n 0, 1) := by decide +kernel
theorem dX10_image_25 : decode cX10_image 25 = .ok (.getfield 43, 3) := by decide +kernel
theorem dX10_image_28 : decode cX10_image 28 = .ok (.iload_n 1, 1) := by decide +kernel
theorem dX10_image_29 : decode cX10_image 29 = .ok (.iconst 1, 1) := by decide +kernel
theorem dX10_image_30 : decode cX10_image 30 = .ok (.bastore, 1) := by decide +kernel
theorem dX10_image_31 : decode cX10_image 31 = .ok (.iconst 1, 1) := by decide +kernel
theorem dX10_image_32 : decode cX10_image 32 = .ok (.ireturn, 1) := by decide +kernel
theorem dX9_again_0 : decode cX9_again 0 = .ok (.iload_n 1, 1) := by decide +kernel
theorem dX9_again_1 : decode cX9_again 1 = .ok (.ifCond .lt 17, 3) := by decide +kernel
theorem dX9_again_4 : decode cX9_again 4 = .ok (.iload_n 1, 1) := by decide +kernel
theorem dX9_again_5 : decode cX9_again 5 = .ok (.iconst 3, 1) := by decide +kernel
theorem dX9_again_6 : decode cX9_again 6 = .ok (.if_icmp .ge 12, 3) := by decide +kernel
theorem dX9_again_9 : decode cX9_again 9 = .ok (.aload_n 0, 1) := by decide +kernel
theorem dX9_again_10 : decode cX9_again 10 = .ok (.getfield 16, 3) := by decide +kernel
theorem dX9_again_13 : decode cX9_again 13 = .ok (.iload_n 1, 1) := by decide +kernel
theorem dX9_again_14 : decode cX9_again 14 = .ok (.aaload, 1) := by decide +kernel
theorem dX9_again_15 : decode cX9_again 15 = .ok (.ifnonnull 5, 3) := by decide +kernel
theorem dX9_again_18 : decode cX9_again 18 = .ok (.iconst 0, 1) := by decide +kernel
theorem dX9_again_19 : decode cX9_again 19 = .ok (.ireturn, 1) := by decide +kernel
theorem dX9_again_20 : decode cX9_again 20 = .ok (.aload_n 0, 1) := by decide +kernel
theorem dX9_again_21 : decode cX9_again 21 = .ok (.getfield 10, 3) := by decide +kernel
theorem dX9_again_24 : decode cX9_again 24 = .ok (.aload_n 0, 1) := by decide +kernel
theorem dX9_again_25 : decode cX9_again 25 = .ok (.getfield 16, 3) := by decide +kernel
theorem dX9_again_28 : decode cX9_again 28 = .ok (.iload_n 1, 1) := by decide +kernel
theorem dX9_again_29 : decode cX9_again 29 = .ok (.aaload, 1) := by decide +kernel
theorem dX9_again_30 : decode cX9_again 30 = .ok (.invokevirtual 382, 3) := by decide +kernel
theorem dX9_again_33 : decode cX9_again 33 = .ok (.iconst 1, 1) := by decide +kernel
theorem dX9_again_34 : decode cX9_again 34 = .ok (.ireturn, 1) := by decide +kernel
theorem dX10_again_0 : decode cX10_again 0 = .ok (.aload_n 0, 1) := by decide +kernel
theorem dX10_again_1 : decode cX10_again 1 = .ok (.iconst 0, 1) := by decide +kernel
theorem dX10_again_2 : decode cX10_again 2 = .ok (.putfield 52, 3) := by decide +kernel
theorem dX10_again_5 : decode cX10_again 5 = .ok (.iload_n 1, 1) := by decide +kernel
theorem dX10_again_6 : decode cX10_again 6 = .ok (.iconst 0, 1) := by decide +kernel
theorem dX10_again_7 : decode cX10_again 7 = .ok (.iconst 2, 1) := by decide +kernel
theorem dX10_again_8 : decode cX10_again 8 = .ok (.invokestatic 59, 3) := by decide +kernel
theorem dX10_again_11 : decode cX10_again 11 = .ok (.ifCond .eq 12, 3) := by decide +kernel
theorem dX10_again_14 : decode cX10_again 14 = .ok (.aload_n 0, 1) := by decide +kernel
theorem dX10_again_15 : decode cX10_again 15 = .ok (.getfield 43, 3) := by decide +kernel
theorem dX10_again_18 : decode cX10_again 18 = .ok (.iload_n 1, 1) := by decide +kernel
theorem dX10_again_19 : decode cX10_again 19 = .ok (.baload, 1) := by decide +kernel
theorem dX10_again_20 : decode cX10_again 20 = .ok (.ifCond .ne 5, 3) := by decide +kernel
theorem dX10_again_23 : decode cX10_again 23 = .ok (.iconst 0, 1) := by decide +kernel
theorem dX10_again_24 : decode cX10_again 24 = .ok (.ireturn, 1) := by decide +kernel
theorem dX10_again_25 : decode cX10_again 25 = .ok (.aload_n 0, 1) := by decide +kernel
theorem dX10_again_26 : decode cX10_again 26 = .ok (.iload_n 1, 1) := by decide +kernel
theorem dX10_again_27 : decode cX10_again 27 = .ok (.iconst 1, 1) := by decide +kernel
theorem dX10_again_28 : decode cX10_again 28 = .ok (.iadd, 1) := by decide +kernel
theorem dX10_again_29 : decode cX10_again 29 = .ok (.iconst 0, 1) := by decide +kernel
theorem dX10_again_30 : decode cX10_again 30 = .ok (.invokevirtual 360, 3) := by decide +kernel
theorem dX10_again_33 : decode cX10_again 33 = .ok (.iconst 1, 1) := by decide +kernel
theorem dX10_again_34 : decode cX10_again 34 = .ok (.ireturn, 1) := by decide +kernel
