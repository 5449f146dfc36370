set_option maxHeartbeats 2000000 in
set_option maxRecDepth 20000 in
theorem m_X10_books {G : Z_G} (hG : z_GG G) (h : Z_H) (a : Nat) (x1 : Int32) : z_Met G iX10_books [.ref a, .int x1] h ((f_X10_books h a x1).bind some) := by
  refine z_in (la := [some (.ref a), some (.int x1)]) (by decide) rfl rfl rfl ?_
  unfold f_X10_books
  refine z_gg (fun _ => ?_)
  refine z_aload_n (x := a) (pc := 0) dX10_books_0 rfl rfl ?_
  refine z_iconst (v := 0) (pc := 1) dX10_books_1 (by decide) ?_
  refine z_putI cX10 (pc := 2) dX10_books_2 (j := 0) (by decide) rfl rfl w_1087 (fun h1 => ?_)
  refine z_iload_n (x := x1) (pc := 5) dX10_books_5 rfl rfl ?_
  refine z_iconst (v := 0) (pc := 6) dX10_books_6 (by decide) ?_
  refine z_iconst (v := 2) (pc := 7) dX10_books_7 (by decide) ?_
  refine z_cSP (As := [.int x1, .int 0, .int 2]) (rest := []) hG.1 (m_X10_in hG h1 x1 0 2) oX10_in (pc := 8) dX10_books_8 rfl w_1179 rfl rfl rfl (fun t2 => ?_)
  refine z_if_eq (tgt := 25) (pc := 11) dX10_books_11 (by decide) (fun _ => ?_) (fun _ => ?_)
  · refine z_iload_n (x := x1) (pc := 25) dX10_books_25 rfl rfl ?_
    refine z_iconst (v := 3) (pc := 26) dX10_books_26 (by decide) ?_
    refine z_bipush (v := 8) (pc := 27) dX10_books_27 (by decide) ?_
    refine z_cSP (As := [.int x1, .int 3, .int 8]) (rest := []) hG.1 (m_X10_in hG h1 x1 3 8) oX10_in (pc := 29) dX10_books_29 rfl w_1179 rfl rfl rfl (fun t3 => ?_)
    refine z_jn 41 (fun (_ : Unit) => [some (.ref a), some (.int x1)]) (fun (_ : Unit) => []) (fun (_ : Unit) => h1) ?_ ?_
    · rintro _
      try dsimp only
      refine z_aload_n (x := a) (pc := 41) dX10_books_41 rfl rfl ?_
      refine z_iload_n (x := x1) (pc := 42) dX10_books_42 rfl rfl ?_
      refine z_dVI (As := [.int x1]) (rest := []) hG.1 (m_X10_ofSales hG h1 a x1) (fun _ e => z_gdb e) oX10_ofSales (pc := 43) dX10_books_43 rfl w_1557 rfl rfl rfl (fun t5 h6 => ?_)
      exact z_ireturn (pc := 46) dX10_books_46 rfl rfl rfl
    intro j4 hj4
    refine z_if_ne (tgt := 41) (pc := 32) dX10_books_32 (by decide) (fun _ => ?_) (fun _ => ?_)
    · exact hj4 ()
    refine z_iload_n (x := x1) (pc := 35) dX10_books_35 rfl rfl ?_
    refine z_bipush (v := 17) (pc := 36) dX10_books_36 (by decide) ?_
    refine z_ic_ne (tgt := 47) (pc := 38) dX10_books_38 (by decide) (fun _ => ?_) (fun _ => ?_)
    · refine z_iload_n (x := x1) (pc := 47) dX10_books_47 rfl rfl ?_
      refine z_bipush (v := 9) (pc := 48) dX10_books_48 (by decide) ?_
      refine z_bipush (v := 15) (pc := 50) dX10_books_50 (by decide) ?_
      refine z_cSP (As := [.int x1, .int 9, .int 15]) (rest := []) hG.1 (m_X10_in hG h1 x1 9 15) oX10_in (pc := 52) dX10_books_52 rfl w_1179 rfl rfl rfl (fun t7 => ?_)
      refine z_if_eq (tgt := 64) (pc := 55) dX10_books_55 (by decide) (fun _ => ?_) (fun _ => ?_)
      · refine z_aload_n (x := a) (pc := 64) dX10_books_64 rfl rfl ?_
        refine z_cVV (As := []) (rest := []) hG.1 (m_X10_laysOwn hG h1 a) (fun _ e => z_gdb e) oX10_laysOwn (pc := 65) dX10_books_65 rfl w_1346 rfl rfl rfl (fun h8 => ?_)
        refine z_aload_n (x := a) (pc := 68) dX10_books_68 rfl rfl ?_
        refine z_aload_n (x := a) (pc := 69) dX10_books_69 rfl rfl ?_
        refine z_cVP (As := []) (rest := [.ref a]) hG.1 (m_X10_now hG h8 a) (fun _ e => z_gdb e) oX10_now (pc := 70) dX10_books_70 rfl w_1247 rfl rfl rfl (fun t9 => ?_)
        refine z_cVV (As := [.int t9]) (rest := []) hG.1 (m_X10_laysMonth hG h8 a t9) (fun _ e => z_gdb e) oX10_laysMonth (pc := 73) dX10_books_73 rfl w_1283 rfl rfl rfl (fun h10 => ?_)
        refine z_iload_n (x := x1) (pc := 76) dX10_books_76 rfl rfl ?_
        refine z_bipush (v := 16) (pc := 77) dX10_books_77 (by decide) ?_
        refine z_ic_ne (tgt := 89) (pc := 79) dX10_books_79 (by decide) (fun _ => ?_) (fun _ => ?_)
        · refine z_iload_n (x := x1) (pc := 89) dX10_books_89 rfl rfl ?_
          refine z_bipush (v := 18) (pc := 90) dX10_books_90 (by decide) ?_
          refine z_jn 101 (fun (_ : Unit) => [some (.ref a), some (.int x1)]) (fun (_ : Unit) => []) (fun (_ : Unit) => h10) ?_ ?_
          · rintro _
            try dsimp only
            refine z_aload_n (x := a) (pc := 101) dX10_books_101 rfl rfl ?_
            refine z_iload_n (x := x1) (pc := 102) dX10_books_102 rfl rfl ?_
            refine z_bipush (v := 19) (pc := 103) dX10_books_103 (by decide) ?_
            refine z_jn 113 (fun (y12 : Int32) => [none, none]) (fun (y12 : Int32) => [.int y12, .ref a]) (fun (y12 : Int32) => h10) ?_ ?_
            · rintro y12
              try dsimp only
              refine z_cVP (As := [.int y12]) (rest := []) hG.1 (m_X10_greatest hG h10 a y12) (fun _ e => z_gdb e) oX10_greatest (pc := 113) dX10_books_113 rfl w_1569 rfl rfl rfl (fun t14 => ?_)
              refine z_goto (tgt := 121) (pc := 116) dX10_books_116 (by decide) ?_
              exact z_ireturn (pc := 121) dX10_books_121 rfl rfl rfl
            intro j13 hj13
            refine z_ic_ne (tgt := 112) (pc := 105) dX10_books_105 (by decide) (fun _ => ?_) (fun _ => ?_)
            · refine z_iconst (v := 0) (pc := 112) dX10_books_112 (by decide) ?_
              exact z_wk (hj13 0) trivial
            refine z_iconst (v := 1) (pc := 108) dX10_books_108 (by decide) ?_
            refine z_goto (tgt := 113) (pc := 109) dX10_books_109 (by decide) ?_
            exact z_wk (hj13 1) trivial
          intro j11 hj11
          refine z_ic_eq (tgt := 101) (pc := 92) dX10_books_92 (by decide) (fun _ => ?_) (fun _ => ?_)
          · exact hj11 ()
          refine z_iload_n (x := x1) (pc := 95) dX10_books_95 rfl rfl ?_
          refine z_bipush (v := 19) (pc := 96) dX10_books_96 (by decide) ?_
          refine z_ic_ne (tgt := 119) (pc := 98) dX10_books_98 (by decide) (fun _ => ?_) (fun _ => ?_)
          · refine z_bipush (v := (-2)) (pc := 119) dX10_books_119 (by decide) ?_
            exact z_ireturn (pc := 121) dX10_books_121 rfl rfl rfl
          exact hj11 ()
        refine z_aload_n (x := a) (pc := 82) dX10_books_82 rfl rfl ?_
        refine z_cVP (As := []) (rest := []) hG.1 (m_X10_activeNow hG h10 a) (fun _ e => z_gdb e) oX10_activeNow (pc := 83) dX10_books_83 rfl w_1565 rfl rfl rfl (fun t15 => ?_)
        refine z_goto (tgt := 121) (pc := 86) dX10_books_86 (by decide) ?_
        exact z_ireturn (pc := 121) dX10_books_121 rfl rfl rfl
      refine z_aload_n (x := a) (pc := 58) dX10_books_58 rfl rfl ?_
      refine z_iload_n (x := x1) (pc := 59) dX10_books_59 rfl rfl ?_
      refine z_cVP (As := [.int x1]) (rest := []) hG.1 (m_X10_ofAll hG h1 a x1) (fun _ e => z_gdb e) oX10_ofAll (pc := 60) dX10_books_60 rfl w_1561 rfl rfl rfl (fun t16 => ?_)
      exact z_ireturn (pc := 63) dX10_books_63 rfl rfl rfl
    exact hj4 ()
  refine z_aload_n (x := a) (pc := 14) dX10_books_14 rfl rfl ?_
  refine z_getR cX10 (pc := 15) dX10_books_15 (j := 1) (by decide) rfl w_1088 (fun r17 => ?_)
  refine z_sipush (v := 144) (pc := 18) dX10_books_18 (by decide) ?_
  refine z_iload_n (x := x1) (pc := 21) dX10_books_21 rfl rfl ?_
  refine z_iadd (pc := 22) dX10_books_22 ?_
  refine z_aldI (pc := 23) dX10_books_23 (fun t18 => ?_)
  exact z_ireturn (pc := 24) dX10_books_24 rfl rfl rfl
set_option maxHeartbeats 2000000 in
set_option maxRecDepth 20000 in
theorem m_X0_copyFrom {G : Z_G} (hG : z_GG G) (h : Z_H) (a : Nat) (b1 : Nat) : z_Met G iX0_copyFrom [.ref a, .ref b1] h ((f_X0_copyFrom h a b1).bind fun h1 => some (0, h1)) := by
  refine z_in (la := [some (.ref a), some (.ref b1)]) (by decide) rfl rfl rfl ?_
  unfold f_X0_copyFrom
  refine z_gg (fun _ => ?_)
  refine z_aload_n (x := a) (pc := 0) dX0_copyFrom_0 rfl rfl ?_
  refine z_aload_n (x := b1) (pc := 1) dX0_copyFrom_1 rfl rfl ?_
  refine z_getI cX0 (pc := 2) dX0_copyFrom_2 (j := 0) (by decide) rfl w_138 (fun t1 => ?_)
  refine z_putI cX0 (pc := 5) dX0_copyFrom_5 (j := 0) (by decide) rfl rfl w_138 (fun h2 => ?_)
  refine z_aload_n (x := b1) (pc := 8) dX0_copyFrom_8 rfl rfl ?_
  refine z_getR cX0 (pc := 9) dX0_copyFrom_9 (j := 1) (by decide) rfl w_142 (fun r3 => ?_)
  refine z_iconst (v := 0) (pc := 12) dX0_copyFrom_12 (by decide) ?_
  refine z_aload_n (x := a) (pc := 13) dX0_copyFrom_13 rfl rfl ?_
  refine z_getR cX0 (pc := 14) dX0_copyFrom_14 (j := 1) (by decide) rfl w_142 (fun r4 => ?_)
  refine z_iconst (v := 0) (pc := 17) dX0_copyFrom_17 (by decide) ?_
  refine z_aload_n (x := a) (pc := 18) dX0_copyFrom_18 rfl rfl ?_
  refine z_getI cX0 (pc := 19) dX0_copyFrom_19 (j := 0) (by decide) rfl w_138 (fun t5 => ?_)
  refine z_cp (pc := 22) dX0_copyFrom_22 w_1055 w_445 w_444 w_12 (by decide) (Nat.le_of_ble_eq_true rfl) (fun h6 => ?_)
  refine z_aload_n (x := b1) (pc := 25) dX0_copyFrom_25 rfl rfl ?_
  refine z_getR cX0 (pc := 26) dX0_copyFrom_26 (j := 2) (by decide) rfl w_146 (fun r7 => ?_)
  refine z_iconst (v := 0) (pc := 29) dX0_copyFrom_29 (by decide) ?_
  refine z_aload_n (x := a) (pc := 30) dX0_copyFrom_30 rfl rfl ?_
  refine z_getR cX0 (pc := 31) dX0_copyFrom_31 (j := 2) (by decide) rfl w_146 (fun r8 => ?_)
  refine z_iconst (v := 0) (pc := 34) dX0_copyFrom_34 (by decide) ?_
  refine z_aload_n (x := a) (pc := 35) dX0_copyFrom_35 rfl rfl ?_
  refine z_getI cX0 (pc := 36) dX0_copyFrom_36 (j := 0) (by decide) rfl w_138 (fun t9 => ?_)
  refine z_cp (pc := 39) dX0_copyFrom_39 w_1055 w_445 w_444 w_12 (by decide) (Nat.le_of_ble_eq_true rfl) (fun h10 => ?_)
  refine z_aload_n (x := b1) (pc := 42) dX0_copyFrom_42 rfl rfl ?_
  refine z_getR cX0 (pc := 43) dX0_copyFrom_43 (j := 3) (by decide) rfl w_150 (fun r11 => ?_)
  refine z_iconst (v := 0) (pc := 46) dX0_copyFrom_46 (by decide) ?_
  refine z_aload_n (x := a) (pc := 47) dX0_copyFrom_47 rfl rfl ?_
  refine z_getR cX0 (pc := 48) dX0_copyFrom_48 (j := 3) (by decide) rfl w_150 (fun r12 => ?_)
  refine z_iconst (v := 0) (pc := 51) dX0_copyFrom_51 (by decide) ?_
  refine z_aload_n (x := a) (pc := 52) dX0_copyFrom_52 rfl rfl ?_
  refine z_getI cX0 (pc := 53) dX0_copyFrom_53 (j := 0) (by decide) rfl w_138 (fun t13 => ?_)
  refine z_cp (pc := 56) dX0_copyFrom_56 w_1055 w_445 w_444 w_12 (by decide) (Nat.le_of_ble_eq_true rfl) (fun h14 => ?_)
  refine z_aload_n (x := b1) (pc := 59) dX0_copyFrom_59 rfl rfl ?_
  refine z_getR cX0 (pc := 60) dX0_copyFrom_60 (j := 4) (by decide) rfl w_153 (fun r15 => ?_)
  refine z_iconst (v := 0) (pc := 63) dX0_copyFrom_63 (by decide) ?_
  refine z_aload_n (x := a) (pc := 64) dX0_copyFrom_64 rfl rfl ?_
  refine z_getR cX0 (pc := 65) dX0_copyFrom_65 (j := 4) (by decide) rfl w_153 (fun r16 => ?_)
  refine z_iconst (v := 0) (pc := 68) dX0_copyFrom_68 (by decide) ?_
  refine z_aload_n (x := a) (pc := 69) dX0_copyFrom_69 rfl rfl ?_
  refine z_getI cX0 (pc := 70) dX0_copyFrom_70 (j := 0) (by decide) rfl w_138 (fun t17 => ?_)
  refine z_cp (pc := 73) dX0_copyFrom_73 w_1055 w_445 w_444 w_12 (by decide) (Nat.le_of_ble_eq_true rfl) (fun h18 => ?_)
  refine z_aload_n (x := b1) (pc := 76) dX0_copyFrom_76 rfl rfl ?_
  refine z_getR cX0 (pc := 77) dX0_copyFrom_77 (j := 5) (by decide) rfl w_155 (fun r19 => ?_)
  refine z_iconst (v := 0) (pc := 80) dX0_copyFrom_80 (by decide) ?_
  refine z_aload_n (x := a) (pc := 81) dX0_copyFrom_81 rfl rfl ?_
  refine z_getR cX0 (pc := 82) dX0_copyFrom_82 (j := 5) (by decide) rfl w_155 (fun r20 => ?_)
  refine z_iconst (v := 0) (pc := 85) dX0_copyFrom_85 (by decide) ?_
  refine z_aload_n (x := a) (pc := 86) dX0_copyFrom_86 rfl rfl ?_
  refine z_getI cX0 (pc := 87) dX0_copyFrom_87 (j := 0) (by decide) rfl w_138 (fun t21 => ?_)
  refine z_bipush (v := 12) (pc := 90) dX0_copyFrom_90 (by decide) ?_
  refine z_imul (pc := 92) dX0_copyFrom_92 ?_
  refine z_cp (pc := 93) dX0_copyFrom_93 w_1055 w_445 w_444 w_12 (by decide) (Nat.le_of_ble_eq_true rfl) (fun h22 => ?_)
  refine z_aload_n (x := b1) (pc := 96) dX0_copyFrom_96 rfl rfl ?_
  refine z_getR cX0 (pc := 97) dX0_copyFrom_97 (j := 6) (by decide) rfl w_157 (fun r23 => ?_)
  refine z_iconst (v := 0) (pc := 100) dX0_copyFrom_100 (by decide) ?_
  refine z_aload_n (x := a) (pc := 101) dX0_copyFrom_101 rfl rfl ?_
  refine z_getR cX0 (pc := 102) dX0_copyFrom_102 (j := 6) (by decide) rfl w_157 (fun r24 => ?_)
  refine z_iconst (v := 0) (pc := 105) dX0_copyFrom_105 (by decide) ?_
  refine z_aload_n (x := a) (pc := 106) dX0_copyFrom_106 rfl rfl ?_
  refine z_getI cX0 (pc := 107) dX0_copyFrom_107 (j := 0) (by decide) rfl w_138 (fun t25 => ?_)
  refine z_bipush (v := 12) (pc := 110) dX0_copyFrom_110 (by decide) ?_
  refine z_imul (pc := 112) dX0_copyFrom_112 ?_
  refine z_cp (pc := 113) dX0_copyFrom_113 w_1055 w_445 w_444 w_12 (by decide) (Nat.le_of_ble_eq_true rfl) (fun h26 => ?_)
  refine z_aload_n (x := b1) (pc := 116) dX0_copyFrom_116 rfl rfl ?_
  refine z_getR cX0 (pc := 117) dX0_copyFrom_117 (j := 7) (by decide) rfl w_159 (fun r27 => ?_)
  refine z_iconst (v := 0) (pc := 120) dX0_copyFrom_120 (by decide) ?_
  refine z_aload_n (x := a) (pc := 121) dX0_copyFrom_121 rfl rfl ?_
  refine z_getR cX0 (pc := 122) dX0_copyFrom_122 (j := 7) (by decide) rfl w_159 (fun r28 => ?_)
  refine z_iconst (v := 0) (pc := 125) dX0_copyFrom_125 (by decide) ?_
  refine z_aload_n (x := a) (pc := 126) dX0_copyFrom_126 rfl rfl ?_
  refine z_getI cX0 (pc := 127) dX0_copyFrom_127 (j := 0) (by decide) rfl w_138 (fun t29 => ?_)
  refine z_cp (pc := 130) dX0_copyFrom_130 w_1055 w_445 w_444 w_12 (by decide) (Nat.le_of_ble_eq_true rfl) (fun h30 => ?_)
  exact z_return (pc := 133) dX0_copyFrom_133 rfl rfl
set_option maxHeartbeats 2000000 in
set_option maxRecDepth 20000 in
theorem m_X5_copyFrom {G : Z_G} (hG : z_GG G) (h : Z_H) (a : Nat) (b1 : Nat) : z_Met G iX5_copyFrom [.ref a, .ref b1] h ((f_X5_copyFrom h a b1).bind fun h1 => some (0, h1)) := by
  refine z_in (la := [some (.ref a), some (.ref b1)]) (by decide) rfl rfl rfl ?_
  unfold f_X5_copyFrom
  refine z_gg (fun _ => ?_)
  refine z_aload_n (x := a) (pc := 0) dX5_copyFrom_0 rfl rfl ?_
  refine z_aload_n (x := b1) (pc := 1) dX5_copyFrom_1 rfl rfl ?_
  refine z_getI cX5 (pc := 2) dX5_copyFrom_2 (j := 0) (by decide) rfl w_183 (fun t1 => ?_)
  refine z_putI cX5 (pc := 5) dX5_copyFrom_5 (j := 0) (by decide) rfl rfl w_183 (fun h2 => ?_)
  refine z_aload_n (x := b1) (pc := 8) dX5_copyFrom_8 rfl rfl ?_
  refine z_getR cX5 (pc := 9) dX5_copyFrom_9 (j := 1) (by decide) rfl w_187 (fun r3 => ?_)
  refine z_iconst (v := 0) (pc := 12) dX5_copyFrom_12 (by decide) ?_
  refine z_aload_n (x := a) (pc := 13) dX5_copyFrom_13 rfl rfl ?_
  refine z_getR cX5 (pc := 14) dX5_copyFrom_14 (j := 1) (by decide) rfl w_187 (fun r4 => ?_)
  refine z_iconst (v := 0) (pc := 17) dX5_copyFrom_17 (by decide) ?_
  refine z_aload_n (x := a) (pc := 18) dX5_copyFrom_18 rfl rfl ?_
  refine z_getI cX5 (pc := 19) dX5_copyFrom_19 (j := 0) (by decide) rfl w_183 (fun t5 => ?_)
  refine z_cp (pc := 22) dX5_copyFrom_22 w_801 w_445 w_444 w_12 (by decide) (Nat.le_of_ble_eq_true rfl) (fun h6 => ?_)
  refine z_aload_n (x := b1) (pc := 25) dX5_copyFrom_25 rfl rfl ?_
  refine z_getR cX5 (pc := 26) dX5_copyFrom_26 (j := 2) (by decide) rfl w_191 (fun r7 => ?_)
  refine z_iconst (v := 0) (pc := 29) dX5_copyFrom_29 (by decide) ?_
  refine z_aload_n (x := a) (pc := 30) dX5_copyFrom_30 rfl rfl ?_
  refine z_getR cX5 (pc := 31) dX5_copyFrom_31 (j := 2) (by decide) rfl w_191 (fun r8 => ?_)
  refine z_iconst (v := 0) (pc := 34) dX5_copyFrom_34 (by decide) ?_
  refine z_aload_n (x := a) (pc := 35) dX5_copyFrom_35 rfl rfl ?_
  refine z_getI cX5 (pc := 36) dX5_copyFrom_36 (j := 0) (by decide) rfl w_183 (fun t9 => ?_)
  refine z_cp (pc := 39) dX5_copyFrom_39 w_801 w_445 w_444 w_12 (by decide) (Nat.le_of_ble_eq_true rfl) (fun h10 => ?_)
  refine z_aload_n (x := b1) (pc := 42) dX5_copyFrom_42 rfl rfl ?_
  refine z_getR cX5 (pc := 43) dX5_copyFrom_43 (j := 3) (by decide) rfl w_193 (fun r11 => ?_)
  refine z_iconst (v := 0) (pc := 46) dX5_copyFrom_46 (by decide) ?_
  refine z_aload_n (x := a) (pc := 47) dX5_copyFrom_47 rfl rfl ?_
  refine z_getR cX5 (pc := 48) dX5_copyFrom_48 (j := 3) (by decide) rfl w_193 (fun r12 => ?_)
  refine z_iconst (v := 0) (pc := 51) dX5_copyFrom_51 (by decide) ?_
  refine z_aload_n (x := a) (pc := 52) dX5_copyFrom_52 rfl rfl ?_
  refine z_getI cX5 (pc := 53) dX5_copyFrom_53 (j := 0) (by decide) rfl w_183 (fun t13 => ?_)
  refine z_cp (pc := 56) dX5_copyFrom_56 w_801 w_445 w_444 w_12 (by decide) (Nat.le_of_ble_eq_true rfl) (fun h14 => ?_)
  refine z_aload_n (x := b1) (pc := 59) dX5_copyFrom_59 rfl rfl ?_
  refine z_getR cX5 (pc := 60) dX5_copyFrom_60 (j := 4) (by decide) rfl w_196 (fun r15 => ?_)
  refine z_iconst (v := 0) (pc := 63) dX5_copyFrom_63 (by decide) ?_
  refine z_aload_n (x := a) (pc := 64) dX5_copyFrom_64 rfl rfl ?_
  refine z_getR cX5 (pc := 65) dX5_copyFrom_65 (j := 4) (by decide) rfl w_196 (fun r16 => ?_)
  refine z_iconst (v := 0) (pc := 68) dX5_copyFrom_68 (by decide) ?_
  refine z_aload_n (x := a) (pc := 69) dX5_copyFrom_69 rfl rfl ?_
  refine z_getI cX5 (pc := 70) dX5_copyFrom_70 (j := 0) (by decide) rfl w_183 (fun t17 => ?_)
  refine z_cp (pc := 73) dX5_copyFrom_73 w_801 w_445 w_444 w_12 (by decide) (Nat.le_of_ble_eq_true rfl) (fun h18 => ?_)
  refine z_aload_n (x := b1) (pc := 76) dX5_copyFrom_76 rfl rfl ?_
  refine z_getR cX5 (pc := 77) dX5_copyFrom_77 (j := 5) (by decide) rfl w_199 (fun r19 => ?_)
  refine z_iconst (v := 0) (pc := 80) dX5_copyFrom_80 (by decide) ?_
  refine z_aload_n (x := a) (pc := 81) dX5_copyFrom_81 rfl rfl ?_
  refine z_getR cX5 (pc := 82) dX5_copyFrom_82 (j := 5) (by decide) rfl w_199 (fun r20 => ?_)
  refine z_iconst (v := 0) (pc := 85) dX5_copyFrom_85 (by decide) ?_
  refine z_aload_n (x := a) (pc := 86) dX5_copyFrom_86 rfl rfl ?_
  refine z_getI cX5 (pc := 87) dX5_copyFrom_87 (j := 0) (by decide) rfl w_183 (fun t21 => ?_)
  refine z_cp (pc := 90) dX5_copyFrom_90 w_801 w_445 w_444 w_12 (by decide) (Nat.le_of_ble_eq_true rfl) (fun h22 => ?_)
  refine z_aload_n (x := b1) (pc := 93) dX5_copyFrom_93 rfl rfl ?_
  refine z_getR cX5 (pc := 94) dX5_copyFrom_94 (j := 6) (by decide) rfl w_201 (fun r23 => ?_)
  refine z_iconst (v := 0) (pc := 97) dX5_copyFrom_97 (by decide) ?_
  refine z_aload_n (x := a) (pc := 98) dX5_copyFrom_98 rfl rfl ?_
  refine z_getR cX5 (pc := 99) dX5_copyFrom_99 (j := 6) (by decide) rfl w_201 (fun r24 => ?_)
  refine z_iconst (v := 0) (pc := 102) dX5_copyFrom_102 (by decide) ?_
  refine z_aload_n (x := a) (pc := 103) dX5_copyFrom_103 rfl rfl ?_
  refine z_getI cX5 (pc := 104) dX5_copyFrom_104 (j := 0) (by decide) rfl w_183 (fun t25 => ?_)
  refine z_cp (pc := 107) dX5_copyFrom_107 w_801 w_445 w_444 w_12 (by decide) (Nat.le_of_ble_eq_true rfl) (fun h26 => ?_)
  refine z_aload_n (x := b1) (pc := 110) dX5_copyFrom_110 rfl rfl ?_
  refine z_getR cX5 (pc := 111) dX5_copyFrom_111 (j := 7) (by decide) rfl w_204 (fun r27 => ?_)
  refine z_iconst (v := 0) (pc := 114) dX5_copyFrom_114 (by decide) ?_
  refine z_aload_n (x := a) (pc := 115) dX5_copyFrom_115 rfl rfl ?_
  refine z_getR cX5 (pc := 116) dX5_copyFrom_116 (j := 7) (by decide) rfl w_204 (fun r28 => ?_)
  refine z_iconst (v := 0) (pc := 119) dX5_copyFrom_119 (by decide) ?_
  refine z_aload_n (x := a) (pc := 120) dX5_copyFrom_120 rfl rfl ?_
  refine z_getI cX5 (pc := 121) dX5_copyFrom_121 (j := 0) (by decide) rfl w_183 (fun t29 => ?_)
  refine z_iconst (v := 5) (pc := 124) dX5_copyFrom_124 (by decide) ?_
  refine z_imul (pc := 125) dX5_copyFrom_125 ?_
  refine z_bipush (v := 7) (pc := 126) dX5_copyFrom_126 (by decide) ?_
  refine z_imul (pc := 128) dX5_copyFrom_128 ?_
  refine z_cp (pc := 129) dX5_copyFrom_129 w_801 w_445 w_444 w_12 (by decide) (Nat.le_of_ble_eq_true rfl) (fun h30 => ?_)
  exact z_return (pc := 132) dX5_copyFrom_132 rfl rfl
set_option maxHeartbeats 2000000 in
set_option maxRecDepth 20000 in
theorem m_X1_copyFrom {G : Z_G} (hG : z_GG G) (h : Z_H) (a : Nat) (b1 : Nat) : z_Met G iX1_copyFrom [.ref a, .ref b1] h ((f_X1_copyFrom h a b1).bind fun h1 => some (0, h1)) := by
  refine z_in (la := [some (.ref a), some (.ref b1)]) (by decide) rfl rfl rfl ?_
  unfold f_X1_copyFrom
  refine z_gg (fun _ => ?_)
  refine z_aload_n (x := b1) (pc := 0) dX1_copyFrom_0 rfl rfl ?_
  refine z_getR cX1 (pc := 1) dX1_copyFrom_1 (j := 0) (by decide) rfl w_228 (fun r1 => ?_)
  refine z_iconst (v := 0) (pc := 4) dX1_copyFrom_4 (by decide) ?_
  refine z_aload_n (x := a) (pc := 5) dX1_copyFrom_5 rfl rfl ?_
  refine z_getR cX1 (pc := 6) dX1_copyFrom_6 (j := 0) (by decide) rfl w_228 (fun r2 => ?_)
  refine z_iconst (v := 0) (pc := 9) dX1_copyFrom_9 (by decide) ?_
  refine z_bipush (v := 10) (pc := 10) dX1_copyFrom_10 (by decide) ?_
  refine z_cp (pc := 12) dX1_copyFrom_12 w_1064 w_445 w_444 w_12 (by decide) (Nat.le_of_ble_eq_true rfl) (fun h3 => ?_)
  refine z_aload_n (x := b1) (pc := 15) dX1_copyFrom_15 rfl rfl ?_
  refine z_getR cX1 (pc := 16) dX1_copyFrom_16 (j := 1) (by decide) rfl w_230 (fun r4 => ?_)
  refine z_iconst (v := 0) (pc := 19) dX1_copyFrom_19 (by decide) ?_
  refine z_aload_n (x := a) (pc := 20) dX1_copyFrom_20 rfl rfl ?_
  refine z_getR cX1 (pc := 21) dX1_copyFrom_21 (j := 1) (by decide) rfl w_230 (fun r5 => ?_)
  refine z_iconst (v := 0) (pc := 24) dX1_copyFrom_24 (by decide) ?_
  refine z_bipush (v := 10) (pc := 25) dX1_copyFrom_25 (by decide) ?_
  refine z_cp (pc := 27) dX1_copyFrom_27 w_1064 w_445 w_444 w_12 (by decide) (Nat.le_of_ble_eq_true rfl) (fun h6 => ?_)
  refine z_aload_n (x := b1) (pc := 30) dX1_copyFrom_30 rfl rfl ?_
  refine z_getR cX1 (pc := 31) dX1_copyFrom_31 (j := 2) (by decide) rfl w_231 (fun r7 => ?_)
  refine z_iconst (v := 0) (pc := 34) dX1_copyFrom_34 (by decide) ?_
  refine z_aload_n (x := a) (pc := 35) dX1_copyFrom_35 rfl rfl ?_
  refine z_getR cX1 (pc := 36) dX1_copyFrom_36 (j := 2) (by decide) rfl w_231 (fun r8 => ?_)
  refine z_iconst (v := 0) (pc := 39) dX1_copyFrom_39 (by decide) ?_
  refine z_aload_n (x := a) (pc := 40) dX1_copyFrom_40 rfl rfl ?_
  refine z_getR cX1 (pc := 41) dX1_copyFrom_41 (j := 2) (by decide) rfl w_231 (fun r9 => ?_)
  refine z_alen (pc := 44) dX1_copyFrom_44 (fun t10 => ?_)
  refine z_cp (pc := 45) dX1_copyFrom_45 w_1064 w_445 w_444 w_12 (by decide) (Nat.le_of_ble_eq_true rfl) (fun h11 => ?_)
  exact z_return (pc := 48) dX1_copyFrom_48 rfl rfl
set_option maxHeartbeats 2000000 in
set_option maxRecDepth 20000 in
theorem m_X7_copyFrom {G : Z_G} (hG : z_GG G) (h : Z_H) (a : Nat) (b1 : Nat) : z_Met G iX7_copyFrom [.ref a, .ref b1] h ((f_X7_copyFrom h a b1).bind fun h1 => some (0, h1)) := by
  refine z_in (la := [some (.ref a), some (.ref b1)]) (by decide) rfl rfl rfl ?_
  unfold f_X7_copyFrom
  refine z_gg (fun _ => ?_)
  refine z_aload_n (x := a) (pc := 0) dX7_copyFrom_0 rfl rfl ?_
  refine z_getR cX7 (pc := 1) dX7_copyFrom_1 (j := 0) (by decide) rfl w_239 (fun r1 => ?_)
  refine z_aload_n (x := b1) (pc := 4) dX7_copyFrom_4 rfl rfl ?_
  refine z_getR cX7 (pc := 5) dX7_copyFrom_5 (j := 0) (by decide) rfl w_239 (fun r2 => ?_)
  refine z_cVV (As := [.ref r2]) (rest := []) hG.1 (m_X8_copyFrom hG h r1 r2) (fun _ e => z_gdb e) oX8_copyFrom (pc := 8) dX7_copyFrom_8 rfl w_1049 rfl rfl rfl (fun h3 => ?_)
  refine z_aload_n (x := a) (pc := 11) dX7_copyFrom_11 rfl rfl ?_
  refine z_getR cX7 (pc := 12) dX7_copyFrom_12 (j := 1) (by decide) rfl w_241 (fun r4 => ?_)
  refine z_aload_n (x := b1) (pc := 15) dX7_copyFrom_15 rfl rfl ?_
  refine z_getR cX7 (pc := 16) dX7_copyFrom_16 (j := 1) (by decide) rfl w_241 (fun r5 => ?_)
  refine z_cVV (As := [.ref r5]) (rest := []) hG.1 (m_X3_copyFrom hG h3 r4 r5) (fun _ e => z_gdb e) oX3_copyFrom (pc := 19) dX7_copyFrom_19 rfl w_1050 rfl rfl rfl (fun h6 => ?_)
  refine z_aload_n (x := a) (pc := 22) dX7_copyFrom_22 rfl rfl ?_
  refine z_getR cX7 (pc := 23) dX7_copyFrom_23 (j := 2) (by decide) rfl w_245 (fun r7 => ?_)
  refine z_aload_n (x := b1) (pc := 26) dX7_copyFrom_26 rfl rfl ?_
  refine z_getR cX7 (pc := 27) dX7_copyFrom_27 (j := 2) (by decide) rfl w_245 (fun r8 => ?_)
  refine z_cVV (As := [.ref r8]) (rest := []) hG.1 (m_X0_copyFrom hG h6 r7 r8) (fun _ e => z_gdb e) oX0_copyFrom (pc := 30) dX7_copyFrom_30 rfl w_1051 rfl rfl rfl (fun h9 => ?_)
  refine z_aload_n (x := a) (pc := 33) dX7_copyFrom_33 rfl rfl ?_
  refine z_getR cX7 (pc := 34) dX7_copyFrom_34 (j := 3) (by decide) rfl w_249 (fun r10 => ?_)
  refine z_aload_n (x := b1) (pc := 37) dX7_copyFrom_37 rfl rfl ?_
  refine z_getR cX7 (pc := 38) dX7_copyFrom_38 (j := 3) (by decide) rfl w_249 (fun r11 => ?_)
  refine z_cVV (As := [.ref r11]) (rest := []) hG.1 (m_X5_copyFrom hG h9 r10 r11) (fun _ e => z_gdb e) oX5_copyFrom (pc := 41) dX7_copyFrom_41 rfl w_1056 rfl rfl rfl (fun h12 => ?_)
  refine z_aload_n (x := a) (pc := 44) dX7_copyFrom_44 rfl rfl ?_
  refine z_getR cX7 (pc := 45) dX7_copyFrom_45 (j := 4) (by decide) rfl w_252 (fun r13 => ?_)
  refine z_aload_n (x := b1) (pc := 48) dX7_copyFrom_48 rfl rfl ?_
  refine z_getR cX7 (pc := 49) dX7_copyFrom_49 (j := 4) (by decide) rfl w_252 (fun r14 => ?_)
  refine z_cVV (As := [.ref r14]) (rest := []) hG.1 (m_X1_copyFrom hG h12 r13 r14) (fun _ e => z_gdb e) oX1_copyFrom (pc := 52) dX7_copyFrom_52 rfl w_1060 rfl rfl rfl (fun h15 => ?_)
  refine z_aload_n (x := a) (pc := 55) dX7_copyFrom_55 rfl rfl ?_
  refine z_aload_n (x := b1) (pc := 56) dX7_copyFrom_56 rfl rfl ?_
  refine z_getI cX7 (pc := 57) dX7_copyFrom_57 (j := 6) (by decide) rfl w_255 (fun t16 => ?_)
  refine z_putI cX7 (pc := 60) dX7_copyFrom_60 (j := 6) (by decide) rfl rfl w_255 (fun h17 => ?_)
  refine z_aload_n (x := a) (pc := 63) dX7_copyFrom_63 rfl rfl ?_
  refine z_aload_n (x := b1) (pc := 64) dX7_copyFrom_64 rfl rfl ?_
  refine z_getI cX7 (pc := 65) dX7_copyFrom_65 (j := 7) (by decide) rfl w_257 (fun t18 => ?_)
  refine z_putI cX7 (pc := 68) dX7_copyFrom_68 (j := 7) (by decide) rfl rfl w_257 (fun h19 => ?_)
  refine z_aload_n (x := a) (pc := 71) dX7_copyFrom_71 rfl rfl ?_
  refine z_aload_n (x := b1) (pc := 72) dX7_copyFrom_72 rfl rfl ?_
  refine z_getI cX7 (pc := 73) dX7_copyFrom_73 (j := 8) (by decide) rfl w_259 (fun t20 => ?_)
  refine z_putI cX7 (pc := 76) dX7_copyFrom_76 (j := 8) (by decide) rfl rfl w_259 (fun h21 => ?_)
  exact z_return (pc := 79) dX7_copyFrom_79 rfl rfl
set_option maxHeartbeats 2000000 in
set_option maxRecDepth 20000 in
theorem m_X9_image {G : Z_G} (hG : z_GG G) (h : Z_H) (a : Nat) (x1 : Int32) : z_Met G iX9_image [.ref a, .int x1] h ((f_X9_image h a x1).bind some) := by
  refine z_in (la := [some (.ref a), some (.int x1)]) (by decide) rfl rfl rfl ?_
  unfold f_X9_image
  refine z_gg (fun _ => ?_)
  refine z_iload_n (x := x1) (pc := 0) dX9_image_0 rfl rfl ?_
  refine z_if_lt (tgt := 9) (pc := 1) dX9_image_1 (by decide) (fun _ => ?_) (fun _ => ?_)
  · refine z_iconst (v := 0) (pc := 9) dX9_image_9 (by decide) ?_
    exact z_ireturn (pc := 10) dX9_image_10 rfl (by decide) rfl
  refine z_iload_n (x := x1) (pc := 4) dX9_image_4 rfl rfl ?_
  refine z_iconst (v := 3) (pc := 5) dX9_image_5 (by decide) ?_
  refine z_ic_lt (tgt := 11) (pc := 6) dX9_image_6 (by decide) (fun _ => ?_) (fun _ => ?_)
  · refine z_aload_n (x := a) (pc := 11) dX9_image_11 rfl rfl ?_
    refine z_getR cX9 (pc := 12) dX9_image_12 (j := 1) (by decide) rfl w_404 (fun r1 => ?_)
    refine z_iload_n (x := x1) (pc := 15) dX9_image_15 rfl rfl ?_
    refine z_aldR (pc := 16) dX9_image_16 (fun o2 => ?_)
    refine z_jn 33 (fun (h3 : Z_H) => [some (.ref a), some (.int x1)]) (fun (h3 : Z_H) => []) (fun (h3 : Z_H) => h3) ?_ ?_
    · rintro h3
      try dsimp only
      refine z_aload_n (x := a) (pc := 33) dX9_image_33 rfl rfl ?_
      refine z_getR cX9 (pc := 34) dX9_image_34 (j := 1) (by decide) rfl w_404 (fun r5 => ?_)
      refine z_iload_n (x := x1) (pc := 37) dX9_image_37 rfl rfl ?_
      refine z_aldR (pc := 38) dX9_image_38 (fun o6 => ?_)
      refine z_nn (fun r7 => ?_)
      refine z_aload_n (x := a) (pc := 39) dX9_image_39 rfl rfl ?_
      refine z_getR cX9 (pc := 40) dX9_image_40 (j := 0) (by decide) rfl w_403 (fun r8 => ?_)
      refine z_cVV (As := [.ref r8]) (rest := []) hG.1 (m_X7_copyFrom hG h3 r7 r8) (fun _ e => z_gdb e) oX7_copyFrom (pc := 43) dX9_image_43 rfl w_1045 rfl rfl rfl (fun h9 => ?_)
      refine z_iconst (v := 1) (pc := 46) dX9_image_46 (by decide) ?_
      exact z_ireturn (pc := 47) dX9_image_47 rfl (by decide) rfl
    intro j4 hj4
    refine z_ifnn (tgt := 33) (pc := 17) dX9_image_17 (by decide) ?_ ?_
    · exact hj4 h
    refine z_aload_n (x := a) (pc := 20) dX9_image_20 rfl rfl ?_
    refine z_getR cX9 (pc := 21) dX9_image_21 (j := 1) (by decide) rfl w_404 (fun r10 => ?_)
    refine z_iload_n (x := x1) (pc := 24) dX9_image_24 rfl rfl ?_
    refine z_nwO cX7 (pc := 25) dX9_image_25 w_28 w_29 w_2 (by decide +kernel) (fun r11 h12 => ?_)
    refine z_dup (pc := 28) dX9_image_28 rfl ?_
    refine z_cJV (As := []) (rest := [.ref r11, .int x1, .ref r10]) hG.1 (m_X7_init hG h12 r11) oX7_init (pc := 29) dX9_image_29 rfl (nw_30 hG) rfl rfl rfl rfl (fun h13 => ?_)
    refine z_astR (pc := 32) dX9_image_32 (fun h14 => ?_)
    exact hj4 h14
  refine z_iconst (v := 0) (pc := 9) dX9_image_9 (by decide) ?_
  exact z_ireturn (pc := 10) dX9_image_10 rfl (by decide) rfl
set_option maxHeartbeats 2000000 in
set_option maxRecDepth 20000 in
theorem m_X10_copyAll {G : Z_G} (hG : z_GG G) (h : Z_H) (a : Nat) (x1 : Int32) (x2 : Int32) : z_Met G iX10_copyAll [.ref a, .int x1, .int x2] h ((f_X10_copyAll h a x1 x2).bind fun h1 => some (0, h1)) := by
  refine z_in (la := [some (.ref a), some (.int x1), some (.int x2), none]) (by decide) rfl rfl rfl ?_
  unfold f_X10_copyAll
  refine z_gg (fun _ => ?_)
  refine z_iconst (v := 0) (pc := 0) dX10_copyAll_0 (by decide) ?_
  refine z_istore_n (i := 3) (la' := [some (.ref a), some (.int x1), some (.int x2), some (.int 0)]) (pc := 1) dX10_copyAll_1 rfl (by decide) rfl rfl ?_
  refine z_lp (T := Z_H) (s0 := (0, h)) 2 (fun ((v1, h2) : Int32 × Z_H) => [some (.ref a), some (.int x1), some (.int x2), some (.int v1)]) (fun ((v1, h2) : Int32 × Z_H) => h2) (fun _ => 39) (fun (h3 : Z_H) => [some (.ref a), some (.int x1), some (.int x2), none]) (fun (h3 : Z_H) => h3) ?_ ?_
  · rintro h3
    try dsimp only
    refine z_iconst (v := 0) (pc := 39) dX10_copyAll_39 (by decide) ?_
    refine z_istore_n (i := 3) (la' := [some (.ref a), some (.int x1), some (.int x2), some (.int 0)]) (pc := 40) dX10_copyAll_40 rfl (by decide) rfl rfl ?_
    refine z_lp (T := Z_H) (s0 := (0, h3)) 41 (fun ((v9, h10) : Int32 × Z_H) => [some (.ref a), some (.int x1), some (.int x2), some (.int v9)]) (fun ((v9, h10) : Int32 × Z_H) => h10) (fun _ => 78) (fun (h11 : Z_H) => [none, none, none, none]) (fun (h11 : Z_H) => h11) ?_ ?_
    · rintro h11
      try dsimp only
      exact z_return (pc := 78) dX10_copyAll_78 rfl rfl
    intro k' hx2 rec12 hrec12
    rintro ⟨v9, h10⟩
    unfold f_X10_copyAll_l2
    try dsimp only
    refine z_iload_n (x := v9) (pc := 41) dX10_copyAll_41 rfl rfl ?_
    refine z_sipush (v := 600) (pc := 42) dX10_copyAll_42 (by decide) ?_
    refine z_ic_ge (tgt := 78) (pc := 45) dX10_copyAll_45 (by decide) (fun _ => ?_) (fun _ => ?_)
    · exact z_wk (hx2 h10) trivial
    refine z_aload_n (x := a) (pc := 48) dX10_copyAll_48 rfl rfl ?_
    refine z_getR cX10 (pc := 49) dX10_copyAll_49 (j := 2) (by decide) rfl w_1089 (fun r13 => ?_)
    refine z_sipush (v := 600) (pc := 52) dX10_copyAll_52 (by decide) ?_
    refine z_iload_n (x := x2) (pc := 55) dX10_copyAll_55 rfl rfl ?_
    refine z_imul (pc := 56) dX10_copyAll_56 ?_
    refine z_iload_n (x := v9) (pc := 57) dX10_copyAll_57 rfl rfl ?_
    refine z_iadd (pc := 58) dX10_copyAll_58 ?_
    refine z_aload_n (x := a) (pc := 59) dX10_copyAll_59 rfl rfl ?_
    refine z_getR cX10 (pc := 60) dX10_copyAll_60 (j := 2) (by decide) rfl w_1089 (fun r14 => ?_)
    refine z_sipush (v := 600) (pc := 63) dX10_copyAll_63 (by decide) ?_
    refine z_iload_n (x := x1) (pc := 66) dX10_copyAll_66 rfl rfl ?_
    refine z_imul (pc := 67) dX10_copyAll_67 ?_
    refine z_iload_n (x := v9) (pc := 68) dX10_copyAll_68 rfl rfl ?_
    refine z_iadd (pc := 69) dX10_copyAll_69 ?_
    refine z_aldB (pc := 70) dX10_copyAll_70 (fun t15 => ?_)
    refine z_astB (pc := 71) dX10_copyAll_71 (fun h16 => ?_)
    refine z_iinc (i := 3) (x := v9) (v := (v9 + 1)) (la' := [some (.ref a), some (.int x1), some (.int x2), some (.int (v9 + 1))]) (pc := 72) dX10_copyAll_72 rfl rfl (by decide) rfl rfl ?_
    refine z_goto (tgt := 41) (pc := 75) dX10_copyAll_75 (by decide) ?_
    exact hrec12 ((v9 + 1), h16)
  intro k' hx1 rec4 hrec4
  rintro ⟨v1, h2⟩
  unfold f_X10_copyAll_l1
  try dsimp only
  refine z_iload_n (x := v1) (pc := 2) dX10_copyAll_2 rfl rfl ?_
  refine z_sipush (v := 2727) (pc := 3) dX10_copyAll_3 (by decide) ?_
  refine z_ic_ge (tgt := 39) (pc := 6) dX10_copyAll_6 (by decide) (fun _ => ?_) (fun _ => ?_)
  · exact z_wk (hx1 h2) (And.intro rfl (And.intro rfl (And.intro rfl trivial)))
  refine z_aload_n (x := a) (pc := 9) dX10_copyAll_9 rfl rfl ?_
  refine z_getR cX10 (pc := 10) dX10_copyAll_10 (j := 1) (by decide) rfl w_1088 (fun r5 => ?_)
  refine z_sipush (v := 2727) (pc := 13) dX10_copyAll_13 (by decide) ?_
  refine z_iload_n (x := x2) (pc := 16) dX10_copyAll_16 rfl rfl ?_
  refine z_imul (pc := 17) dX10_copyAll_17 ?_
  refine z_iload_n (x := v1) (pc := 18) dX10_copyAll_18 rfl rfl ?_
  refine z_iadd (pc := 19) dX10_copyAll_19 ?_
  refine z_aload_n (x := a) (pc := 20) dX10_copyAll_20 rfl rfl ?_
  refine z_getR cX10 (pc := 21) dX10_copyAll_21 (j := 1) (by decide) rfl w_1088 (fun r6 => ?_)
  refine z_sipush (v := 2727) (pc := 24) dX10_copyAll_24 (by decide) ?_
  refine z_iload_n (x := x1) (pc := 27) dX10_copyAll_27 rfl rfl ?_
  refine z_imul (pc := 28) dX10_copyAll_28 ?_
  refine z_iload_n (x := v1) (pc := 29) dX10_copyAll_29 rfl rfl ?_
  refine z_iadd (pc := 30) dX10_copyAll_30 ?_
  refine z_aldI (pc := 31) dX10_copyAll_31 (fun t7 => ?_)
  refine z_astI (pc := 32) dX10_copyAll_32 (fun h8 => ?_)
  refine z_iinc (i := 3) (x := v1) (v := (v1 + 1)) (la' := [some (.ref a), some (.int x1), some (.int x2), some (.int (v1 + 1))]) (pc := 33) dX10_copyAll_33 rfl rfl (by decide) rfl rfl ?_
  refine z_goto (tgt := 2) (pc := 36) dX10_copyAll_36 (by decide) ?_
  exact hrec4 ((v1 + 1), h8)
set_option maxHeartbeats 2000000 in
set_option maxRecDepth 20000 in
theorem m_X10_image {G : Z_G} (hG : z_GG G) (h : Z_H) (a : Nat) (x1 : Int32) : z_Met G iX10_image [.ref a, .int x1] h ((f_X10_image h a x1).bind some) := by
  refine z_in (la := [some (.ref a), some (.int x1)]) (by decide) rfl rfl rfl ?_
  unfold f_X10_image
  refine z_gg (fun _ => ?_)
  refine z_aload_n (x := a) (pc := 0) dX10_image_0 rfl rfl ?_
  refine z_iconst (v := 0) (pc := 1) dX10_image_1 (by decide) ?_
  refine z_putI cX10 (pc := 2) dX10_image_2 (j := 0) (by decide) rfl rfl w_1087 (fun h1 => ?_)
  refine z_iload_n (x := x1) (pc := 5) dX10_image_5 rfl rfl ?_
  refine z_iconst (v := 0) (pc := 6) dX10_image_6 (by decide) ?_
  refine z_iconst (v := 2) (pc := 7) dX10_image_7 (by decide) ?_
  refine z_cSP (As := [.int x1, .int 0, .int 2]) (rest := []) hG.1 (m_X10_in hG h1 x1 0 2) oX10_in (pc := 8) dX10_image_8 rfl w_1179 rfl rfl rfl (fun t2 => ?_)
  refine z_if_ne (tgt := 16) (pc := 11) dX10_image_11 (by decide) (fun _ => ?_) (fun _ => ?_)
  · refine z_aload_n (x := a) (pc := 16) dX10_image_16 rfl rfl ?_
    refine z_iconst (v := 0) (pc := 17) dX10_image_17 (by decide) ?_
    refine z_iload_n (x := x1) (pc := 18) dX10_image_18 rfl rfl ?_
    refine z_iconst (v := 1) (pc := 19) dX10_image_19 (by decide) ?_
    refine z_iadd (pc := 20) dX10_image_20 ?_
    refine z_cVV (As := [.int 0, .int (x1 + 1)]) (rest := []) hG.1 (m_X10_copyAll hG h1 a 0 (x1 + 1)) (fun _ e => z_gdb e) oX10_copyAll (pc := 21) dX10_image_21 rfl w_1577 rfl rfl rfl (fun h3 => ?_)
    refine z_aload_n (x := a) (pc := 24) dX10_image_24 rfl rfl ?_
    refine z_getR cX10 (pc := 25) dX10_image_25 (j := 25) (by decide) rfl w_1112 (fun r4 => ?_)
    refine z_iload_n (x := x1) (pc := 28) dX10_image_28 rfl rfl ?_
    refine z_iconst (v := 1) (pc := 29) dX10_image_29 (by decide) ?_
    refine z_astZ (pc := 30) dX10_image_30 (fun h5 => ?_)
    refine z_iconst (v := 1) (pc := 31) dX10_image_31 (by decide) ?_
    exact z_ireturn (pc := 32) dX10_image_32 rfl (by decide) rfl
  refine z_iconst (v := 0) (pc := 14) dX10_image_14 (by decide) ?_
  exact z_ireturn (pc := 15) dX10_image_15 rfl (by decide) rfl
set_option maxHeartbeats 2000000 in
set_option maxRecDepth 20000 in
theorem m_X9_again {G : Z_G} (hG : z_GG G) (h : Z_H) (a : Nat) (x1 : Int32) : z_Met G iX9_again [.ref a, .int x1] h ((f_X9_again h a x1).bind some) := by
  refine z_in (la := [some (.ref a), some (.int x1)]) (by decide) rfl rfl rfl ?_
  unfold f_X9_again
  refine z_gg (fun _ => ?_)
  refine z_iload_n (x := x1) (pc := 0) dX9_again_0 rfl rfl ?_
  refine z_if_lt (tgt := 18) (pc := 1) dX9_again_1 (by decide) (fun _ => ?_) (fun _ => ?_)
  · refine z_iconst (v := 0) (pc := 18) dX9_again_18 (by decide) ?_
    exact z_ireturn (pc := 19) dX9_again_19 rfl (by decide) rfl
  refine z_iload_n (x := x1) (pc := 4) dX9_again_4 rfl rfl ?_
  refine z_iconst (v := 3) (pc := 5) dX9_again_5 (by decide) ?_
  refine z_ic_ge (tgt := 18) (pc := 6) dX9_again_6 (by decide) (fun _ => ?_) (fun _ => ?_)
  · refine z_iconst (v := 0) (pc := 18) dX9_again_18 (by decide) ?_
    exact z_ireturn (pc := 19) dX9_again_19 rfl (by decide) rfl
  refine z_aload_n (x := a) (pc := 9) dX9_again_9 rfl rfl ?_
  refine z_getR cX9 (pc := 10) dX9_again_10 (j := 1) (by decide) rfl w_404 (fun r1 => ?_)
  refine z_iload_n (x := x1) (pc := 13) dX9_again_13 rfl rfl ?_
  refine z_aldR (pc := 14) dX9_again_14 (fun o2 => ?_)
  refine z_ifnn (tgt := 20) (pc := 15) dX9_again_15 (by decide) ?_ ?_
  · refine z_aload_n (x := a) (pc := 20) dX9_again_20 rfl rfl ?_
    refine z_getR cX9 (pc := 21) dX9_again_21 (j := 0) (by decide) rfl w_403 (fun r3 => ?_)
    refine z_aload_n (x := a) (pc := 24) dX9_again_24 rfl rfl ?_
    refine z_getR cX9 (pc := 25) dX9_again_25 (j := 1) (by decide) rfl w_404 (fun r4 => ?_)
    refine z_iload_n (x := x1) (pc := 28) dX9_again_28 rfl rfl ?_
    refine z_aldR (pc := 29) dX9_again_29 (fun o5 => ?_)
    refine z_nn (fun r6 => ?_)
    refine z_cVV (As := [.ref r6]) (rest := []) hG.1 (m_X7_copyFrom hG h r3 r6) (fun _ e => z_gdb e) oX7_copyFrom (pc := 30) dX9_again_30 rfl w_1045 rfl rfl rfl (fun h7 => ?_)
    refine z_iconst (v := 1) (pc := 33) dX9_again_33 (by decide) ?_
    exact z_ireturn (pc := 34) dX9_again_34 rfl (by decide) rfl
  refine z_iconst (v := 0) (pc := 18) dX9_again_18 (by decide) ?_
  exact z_ireturn (pc := 19) dX9_again_19 rfl (by decide) rfl
set_option maxHeartbeats 2000000 in
set_option maxRecDepth 20000 in
theorem m_X10_again {G : Z_G} (hG : z_GG G) (h : Z_H) (a : Nat) (x1 : Int32) : z_Met G iX10_again [.ref a, .int x1] h ((f_X10_again h a x1).bind some) := by
  refine z_in (la := [some (.ref a), some (.int x1)]) (by decide) rfl rfl rfl ?_
  unfold f_X10_again
  refine z_gg (fun _ => ?_)
  refine z_aload_n (x := a) (pc := 0) dX10_again_0 rfl rfl ?_
  refine z_iconst (v := 0) (pc := 1) dX10_again_1 (by decide) ?_
  refine z_putI cX10 (pc := 2) dX10_again_2 (j := 0) (by decide) rfl rfl w_1087 (fun h1 => ?_)
  refine z_iload_n (x := x1) (pc := 5) dX10_again_5 rfl rfl ?_
  refine z_iconst (v := 0) (pc := 6) dX10_again_6 (by decide) ?_
  refine z_iconst (v := 2) (pc := 7) dX10_again_7 (by decide) ?_
  refine z_cSP (As := [.int x1, .int 0, .int 2]) (rest := []) hG.1 (m_X10_in hG h1 x1 0 2) oX10_in (pc := 8) dX10_again_8 rfl w_1179 rfl rfl rfl (fun t2 => ?_)
  refine z_if_eq (tgt := 23) (pc := 11) dX10_again_11 (by decide) (fun _ => ?_) (fun _ => ?_)
  · refine z_iconst (v := 0) (pc := 23) dX10_again_23 (by decide) ?_
    exact z_ireturn (pc := 24) dX10_again_24 rfl (by decide) rfl
  refine z_aload_n (x := a) (pc := 14) dX10_again_14 rfl rfl ?_
  refine z_getR cX10 (pc := 15) dX10_again_15 (j := 25) (by decide) rfl w_1112 (fun r3 => ?_)
  refine z_iload_n (x := x1) (pc := 18) dX10_again_18 rfl rfl ?_
  refine z_aldZ (pc := 19) dX10_again_19 (fun t4 => ?_)
  refine z_if_ne (tgt := 25) (pc := 20) dX10_again_20 (by decide) (fun _ => ?_) (fun _ => ?_)
  · refine z_aload_n (x := a) (pc := 25) dX10_again_25 rfl rfl ?_
    refine z_iload_n (x := x1) (pc := 26) dX10_again_26 rfl rfl ?_
    refine z_iconst (v := 1) (pc := 27) dX10_again_27 (by decide) ?_
    refine z_iadd (pc := 28) dX10_again_28 ?_
    refine z_iconst (v := 0) (pc := 29) dX10_again_29 (by decide) ?_
    refine z_cVV (As := [.int (x1 + 1), .int 0]) (rest := []) hG.1 (m_X10_copyAll hG h1 a (x1 + 1) 0) (fun _ e => z_gdb e) oX10_copyAll (pc := 30) dX10_again_30 rfl w_1577 rfl rfl rfl (fun h5 => ?_)
    refine z_iconst (v := 1) (pc := 33) dX10_again_33 (by decide) ?_
    exact z_ireturn (pc := 34) dX10_again_34 rfl (by decide) rfl
  refine z_iconst (v := 0) (pc := 23) dX10_again_23 (by decide) ?_
  exact z_ireturn (pc := 24) dX10_again_24 rfl (by decide) rfl
