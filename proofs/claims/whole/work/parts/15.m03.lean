set_option maxHeartbeats 2000000 in
set_option maxRecDepth 20000 in
theorem m_X7_vested {G : Z_G} (hG : z_GG G) (h : Z_H) (a : Nat) (x1 : Int32) (x2 : Int32) (x3 : Int32) : z_Met G iX7_vested [.ref a, .int x1, .int x2, .int x3] h ((f_X7_vested h a x1 x2 x3).bind fun r => some (r, h)) := by
  refine z_in (la := [some (.ref a), some (.int x1), some (.int x2), some (.int x3), none, none, none, none]) (by decide) rfl rfl rfl ?_
  unfold f_X7_vested
  refine z_gg (fun _ => ?_)
  refine z_aload_n (x := a) (pc := 0) dX7_vested_0 rfl rfl ?_
  refine z_getR cX7 (pc := 1) dX7_vested_1 (j := 3) (by decide) rfl w_249 (fun r1 => ?_)
  refine z_iload_n (x := x1) (pc := 4) dX7_vested_4 rfl rfl ?_
  refine z_iload_n (x := x2) (pc := 5) dX7_vested_5 rfl rfl ?_
  refine z_cVP (As := [.int x1, .int x2]) (rest := []) hG.1 (m_X5_netPay hG h r1 x1 x2) (fun _ e => z_gdb e) oX5_netPay (pc := 6) dX7_vested_6 rfl w_687 rfl rfl rfl (fun t2 => ?_)
  refine z_istore (i := 4) (la' := [some (.ref a), some (.int x1), some (.int x2), some (.int x3), some (.int t2), none, none, none]) (pc := 9) dX7_vested_9 (by decide) rfl rfl ?_
  refine z_aload_n (x := a) (pc := 11) dX7_vested_11 rfl rfl ?_
  refine z_getR cX7 (pc := 12) dX7_vested_12 (j := 1) (by decide) rfl w_241 (fun r3 => ?_)
  refine z_getI cX3 (pc := 15) dX7_vested_15 (j := 2) (by decide) rfl w_74 (fun t4 => ?_)
  refine z_if_gt (tgt := 24) (pc := 18) dX7_vested_18 (by decide) (fun _ => ?_) (fun _ => ?_)
  · refine z_aload_n (x := a) (pc := 24) dX7_vested_24 rfl rfl ?_
    refine z_getR cX7 (pc := 25) dX7_vested_25 (j := 3) (by decide) rfl w_249 (fun r5 => ?_)
    refine z_iload_n (x := x1) (pc := 28) dX7_vested_28 rfl rfl ?_
    refine z_iload_n (x := x2) (pc := 29) dX7_vested_29 rfl rfl ?_
    refine z_iconst (v := 0) (pc := 30) dX7_vested_30 (by decide) ?_
    refine z_cVP (As := [.int x1, .int x2, .int 0]) (rest := []) hG.1 (m_X5_fact hG h r5 x1 x2 0) (fun _ e => z_gdb e) oX5_fact (pc := 31) dX7_vested_31 rfl w_698 rfl rfl rfl (fun t6 => ?_)
    refine z_istore (i := 5) (la' := [some (.ref a), some (.int x1), some (.int x2), some (.int x3), some (.int t2), some (.int t6), none, none]) (pc := 34) dX7_vested_34 (by decide) rfl rfl ?_
    refine z_aload_n (x := a) (pc := 36) dX7_vested_36 rfl rfl ?_
    refine z_getR cX7 (pc := 37) dX7_vested_37 (j := 2) (by decide) rfl w_245 (fun r7 => ?_)
    refine z_iload (x := t6) (pc := 40) dX7_vested_40 rfl ?_
    refine z_cVP (As := [.int t6]) (rest := []) hG.1 (m_X0_hasLeft hG h r7 t6) (fun _ e => z_gdb e) oX0_hasLeft (pc := 42) dX7_vested_42 rfl w_699 rfl rfl rfl (fun t8 => ?_)
    refine z_jn 62 (fun (y9 : Int32) => [some (.ref a), some (.int x1), none, none, some (.int t2), none, none, none]) (fun (y9 : Int32) => [.int y9]) (fun (y9 : Int32) => h) ?_ ?_
    · rintro y9
      try dsimp only
      refine z_istore (i := 6) (la' := [some (.ref a), some (.int x1), none, none, some (.int t2), none, some (.int y9), none]) (pc := 62) dX7_vested_62 (by decide) rfl rfl ?_
      refine z_iconst (v := 0) (pc := 64) dX7_vested_64 (by decide) ?_
      refine z_aload_n (x := a) (pc := 65) dX7_vested_65 rfl rfl ?_
      refine z_getR cX7 (pc := 66) dX7_vested_66 (j := 1) (by decide) rfl w_241 (fun r11 => ?_)
      refine z_getI cX3 (pc := 69) dX7_vested_69 (j := 2) (by decide) rfl w_74 (fun t12 => ?_)
      refine z_iload (x := y9) (pc := 72) dX7_vested_72 rfl ?_
      refine z_aload_n (x := a) (pc := 74) dX7_vested_74 rfl rfl ?_
      refine z_getR cX7 (pc := 75) dX7_vested_75 (j := 3) (by decide) rfl w_249 (fun r13 => ?_)
      refine z_getR cX5 (pc := 78) dX7_vested_78 (j := 4) (by decide) rfl w_197 (fun r14 => ?_)
      refine z_iload_n (x := x1) (pc := 81) dX7_vested_81 rfl rfl ?_
      refine z_aldI (pc := 82) dX7_vested_82 (fun t15 => ?_)
      refine z_isub (pc := 83) dX7_vested_83 ?_
      refine z_mmin (pc := 84) dX7_vested_84 w_700 w_575 w_17 w_576 (by decide) (Nat.le_of_ble_eq_true rfl) ?_
      refine z_mmax (pc := 87) dX7_vested_87 w_701 w_702 w_17 w_703 (by decide) (Nat.le_of_ble_eq_true rfl) ?_
      refine z_nm (fun v16 => ?_)
      refine z_istore (i := 7) (la' := [some (.ref a), some (.int x1), none, none, some (.int t2), none, some (.int y9), some (.int v16)]) (pc := 90) dX7_vested_90 (by decide) rfl rfl ?_
      refine z_iload (x := t2) (pc := 92) dX7_vested_92 rfl ?_
      refine z_iload (x := v16) (pc := 94) dX7_vested_94 rfl ?_
      refine z_imul (pc := 96) dX7_vested_96 ?_
      refine z_aload_n (x := a) (pc := 97) dX7_vested_97 rfl rfl ?_
      refine z_getR cX7 (pc := 98) dX7_vested_98 (j := 1) (by decide) rfl w_241 (fun r17 => ?_)
      refine z_getI cX3 (pc := 101) dX7_vested_101 (j := 2) (by decide) rfl w_74 (fun t18 => ?_)
      refine z_gg (b := decide (¬ t18 = 0)) (fun hdz => ?_)
      refine z_idiv (pc := 104) (of_decide_eq_true hdz) dX7_vested_104 ?_
      exact z_ireturn (pc := 105) dX7_vested_105 rfl rfl rfl
    intro j10 hj10
    refine z_if_eq (tgt := 61) (pc := 45) dX7_vested_45 (by decide) (fun _ => ?_) (fun _ => ?_)
    · refine z_iload_n (x := x3) (pc := 61) dX7_vested_61 rfl rfl ?_
      exact z_wk (hj10 x3) (And.intro rfl (And.intro rfl (And.intro rfl trivial)))
    refine z_aload_n (x := a) (pc := 48) dX7_vested_48 rfl rfl ?_
    refine z_getR cX7 (pc := 49) dX7_vested_49 (j := 2) (by decide) rfl w_245 (fun r19 => ?_)
    refine z_getR cX0 (pc := 52) dX7_vested_52 (j := 2) (by decide) rfl w_147 (fun r20 => ?_)
    refine z_iload (x := t6) (pc := 55) dX7_vested_55 rfl ?_
    refine z_aldI (pc := 57) dX7_vested_57 (fun t21 => ?_)
    refine z_goto (tgt := 62) (pc := 58) dX7_vested_58 (by decide) ?_
    exact z_wk (hj10 t21) (And.intro rfl (And.intro rfl (And.intro rfl trivial)))
  refine z_iload (x := t2) (pc := 21) dX7_vested_21 rfl ?_
  exact z_ireturn (pc := 23) dX7_vested_23 rfl rfl rfl
set_option maxHeartbeats 2000000 in
set_option maxRecDepth 20000 in
theorem m_X7_notVested {G : Z_G} (hG : z_GG G) (h : Z_H) (a : Nat) (x1 : Int32) : z_Met G iX7_notVested [.ref a, .int x1] h ((f_X7_notVested h a x1).bind fun r => some (r, h)) := by
  refine z_in (la := [some (.ref a), some (.int x1), none, none, none]) (by decide) rfl rfl rfl ?_
  unfold f_X7_notVested
  refine z_gg (fun _ => ?_)
  refine z_iconst (v := 0) (pc := 0) dX7_notVested_0 (by decide) ?_
  refine z_istore_n (i := 2) (la' := [some (.ref a), some (.int x1), some (.int 0), none, none]) (pc := 1) dX7_notVested_1 rfl (by decide) rfl rfl ?_
  refine z_iconst (v := 0) (pc := 2) dX7_notVested_2 (by decide) ?_
  refine z_istore_n (i := 3) (la' := [some (.ref a), some (.int x1), some (.int 0), some (.int 0), none]) (pc := 3) dX7_notVested_3 rfl (by decide) rfl rfl ?_
  refine z_lp (T := Int32) (s0 := (0, 0)) 4 (fun ((v1, v2) : Int32 × Int32) => [some (.ref a), some (.int x1), some (.int v1), some (.int v2), none]) (fun ((v1, v2) : Int32 × Int32) => h) (fun _ => 67) (fun (v3 : Int32) => [none, none, some (.int v3), none, none]) (fun (v3 : Int32) => h) ?_ ?_
  · rintro v3
    try dsimp only
    refine z_iload_n (x := v3) (pc := 67) dX7_notVested_67 rfl rfl ?_
    exact z_ireturn (pc := 68) dX7_notVested_68 rfl rfl rfl
  intro k' hx1 rec4 hrec4
  rintro ⟨v1, v2⟩
  unfold f_X7_notVested_l1
  try dsimp only
  refine z_iload_n (x := v2) (pc := 4) dX7_notVested_4 rfl rfl ?_
  refine z_aload_n (x := a) (pc := 5) dX7_notVested_5 rfl rfl ?_
  refine z_getR cX7 (pc := 6) dX7_notVested_6 (j := 3) (by decide) rfl w_249 (fun r5 => ?_)
  refine z_getI cX5 (pc := 9) dX7_notVested_9 (j := 0) (by decide) rfl w_184 (fun t6 => ?_)
  refine z_ic_ge (tgt := 67) (pc := 12) dX7_notVested_12 (by decide) (fun _ => ?_) (fun _ => ?_)
  · exact z_wk (hx1 v1) (And.intro rfl trivial)
  refine z_aload_n (x := a) (pc := 15) dX7_notVested_15 rfl rfl ?_
  refine z_getR cX7 (pc := 16) dX7_notVested_16 (j := 3) (by decide) rfl w_249 (fun r7 => ?_)
  refine z_iload_n (x := v2) (pc := 19) dX7_notVested_19 rfl rfl ?_
  refine z_iload_n (x := x1) (pc := 20) dX7_notVested_20 rfl rfl ?_
  refine z_cVP (As := [.int v2, .int x1]) (rest := []) hG.1 (m_X5_levelOf hG h r7 v2 x1) (fun _ e => z_gdb e) oX5_levelOf (pc := 21) dX7_notVested_21 rfl w_679 rfl rfl rfl (fun t8 => ?_)
  refine z_istore (i := 4) (la' := [some (.ref a), some (.int x1), some (.int v1), some (.int v2), some (.int t8)]) (pc := 24) dX7_notVested_24 (by decide) rfl rfl ?_
  refine z_iload_n (x := v1) (pc := 26) dX7_notVested_26 rfl rfl ?_
  refine z_iload (x := t8) (pc := 27) dX7_notVested_27 rfl ?_
  refine z_iconst (v := (-1)) (pc := 29) dX7_notVested_29 (by decide) ?_
  refine z_jn 59 (fun (y9 : Int32) => [some (.ref a), some (.int x1), none, some (.int v2), none]) (fun (y9 : Int32) => [.int y9, .int v1]) (fun (y9 : Int32) => h) ?_ ?_
  · rintro y9
    try dsimp only
    refine z_iadd (pc := 59) dX7_notVested_59 ?_
    refine z_nm (fun v11 => ?_)
    refine z_istore_n (i := 2) (la' := [some (.ref a), some (.int x1), some (.int v11), some (.int v2), none]) (pc := 60) dX7_notVested_60 rfl (by decide) rfl rfl ?_
    refine z_iinc (i := 3) (x := v2) (v := (v2 + 1)) (la' := [some (.ref a), some (.int x1), some (.int v11), some (.int (v2 + 1)), none]) (pc := 61) dX7_notVested_61 rfl rfl (by decide) rfl rfl ?_
    refine z_goto (tgt := 4) (pc := 64) dX7_notVested_64 (by decide) ?_
    exact hrec4 (v11, (v2 + 1))
  intro j10 hj10
  refine z_ic_ne (tgt := 37) (pc := 30) dX7_notVested_30 (by decide) (fun _ => ?_) (fun _ => ?_)
  · refine z_aload_n (x := a) (pc := 37) dX7_notVested_37 rfl rfl ?_
    refine z_getR cX7 (pc := 38) dX7_notVested_38 (j := 3) (by decide) rfl w_249 (fun r12 => ?_)
    refine z_iload_n (x := v2) (pc := 41) dX7_notVested_41 rfl rfl ?_
    refine z_iload (x := t8) (pc := 42) dX7_notVested_42 rfl ?_
    refine z_cVP (As := [.int v2, .int t8]) (rest := [.int v1]) hG.1 (m_X5_netPay hG h r12 v2 t8) (fun _ e => z_gdb e) oX5_netPay (pc := 44) dX7_notVested_44 rfl w_687 rfl rfl rfl (fun t13 => ?_)
    refine z_aload_n (x := a) (pc := 47) dX7_notVested_47 rfl rfl ?_
    refine z_iload_n (x := v2) (pc := 48) dX7_notVested_48 rfl rfl ?_
    refine z_iload (x := t8) (pc := 49) dX7_notVested_49 rfl ?_
    refine z_aload_n (x := a) (pc := 51) dX7_notVested_51 rfl rfl ?_
    refine z_getI cX7 (pc := 52) dX7_notVested_52 (j := 8) (by decide) rfl w_259 (fun t14 => ?_)
    refine z_cVP (As := [.int v2, .int t8, .int t14]) (rest := [.int t13, .int v1]) hG.1 (m_X7_vested hG h a v2 t8 t14) (fun _ e => z_gdb e) oX7_vested (pc := 55) dX7_notVested_55 rfl w_694 rfl rfl rfl (fun t15 => ?_)
    refine z_isub (pc := 58) dX7_notVested_58 ?_
    exact z_wk (hj10 (t13 - t15)) (And.intro rfl (And.intro rfl (And.intro rfl trivial)))
  refine z_iconst (v := 0) (pc := 33) dX7_notVested_33 (by decide) ?_
  refine z_goto (tgt := 59) (pc := 34) dX7_notVested_34 (by decide) ?_
  exact z_wk (hj10 0) (And.intro rfl (And.intro rfl (And.intro rfl trivial)))
set_option maxHeartbeats 2000000 in
set_option maxRecDepth 20000 in
theorem m_X1_write {G : Z_G} (hG : z_GG G) (h : Z_H) (a : Nat) (x1 : Int32) (x2 : Int32) (x3 : Int32) (x4 : Int32) (x5 : Int32) : z_Met G iX1_write [.ref a, .int x1, .int x2, .int x3, .int x4, .int x5] h ((f_X1_write h a x1 x2 x3 x4 x5).bind fun h1 => some (0, h1)) := by
  refine z_in (la := [some (.ref a), some (.int x1), some (.int x2), some (.int x3), some (.int x4), some (.int x5), none]) (by decide) rfl rfl rfl ?_
  unfold f_X1_write
  refine z_gg (fun _ => ?_)
  refine z_iload_n (x := x1) (pc := 0) dX1_write_0 rfl rfl ?_
  refine z_bipush (v := 16) (pc := 1) dX1_write_1 (by decide) ?_
  refine z_imul (pc := 3) dX1_write_3 ?_
  refine z_aload_n (x := a) (pc := 4) dX1_write_4 rfl rfl ?_
  refine z_getR cX1 (pc := 5) dX1_write_5 (j := 1) (by decide) rfl w_230 (fun r1 => ?_)
  refine z_iload_n (x := x1) (pc := 8) dX1_write_8 rfl rfl ?_
  refine z_aldI (pc := 9) dX1_write_9 (fun t2 => ?_)
  refine z_iadd (pc := 10) dX1_write_10 ?_
  refine z_iconst (v := 4) (pc := 11) dX1_write_11 (by decide) ?_
  refine z_imul (pc := 12) dX1_write_12 ?_
  refine z_nm (fun v3 => ?_)
  refine z_istore (i := 6) (la' := [some (.ref a), some (.int x1), some (.int x2), some (.int x3), some (.int x4), some (.int x5), some (.int v3)]) (pc := 13) dX1_write_13 (by decide) rfl rfl ?_
  refine z_aload_n (x := a) (pc := 15) dX1_write_15 rfl rfl ?_
  refine z_getR cX1 (pc := 16) dX1_write_16 (j := 2) (by decide) rfl w_231 (fun r4 => ?_)
  refine z_iload (x := v3) (pc := 19) dX1_write_19 rfl ?_
  refine z_iload_n (x := x2) (pc := 21) dX1_write_21 rfl rfl ?_
  refine z_astI (pc := 22) dX1_write_22 (fun h5 => ?_)
  refine z_aload_n (x := a) (pc := 23) dX1_write_23 rfl rfl ?_
  refine z_getR cX1 (pc := 24) dX1_write_24 (j := 2) (by decide) rfl w_231 (fun r6 => ?_)
  refine z_iload (x := v3) (pc := 27) dX1_write_27 rfl ?_
  refine z_iconst (v := 1) (pc := 29) dX1_write_29 (by decide) ?_
  refine z_iadd (pc := 30) dX1_write_30 ?_
  refine z_iload_n (x := x3) (pc := 31) dX1_write_31 rfl rfl ?_
  refine z_astI (pc := 32) dX1_write_32 (fun h7 => ?_)
  refine z_aload_n (x := a) (pc := 33) dX1_write_33 rfl rfl ?_
  refine z_getR cX1 (pc := 34) dX1_write_34 (j := 2) (by decide) rfl w_231 (fun r8 => ?_)
  refine z_iload (x := v3) (pc := 37) dX1_write_37 rfl ?_
  refine z_iconst (v := 2) (pc := 39) dX1_write_39 (by decide) ?_
  refine z_iadd (pc := 40) dX1_write_40 ?_
  refine z_iload (x := x4) (pc := 41) dX1_write_41 rfl ?_
  refine z_astI (pc := 43) dX1_write_43 (fun h9 => ?_)
  refine z_aload_n (x := a) (pc := 44) dX1_write_44 rfl rfl ?_
  refine z_getR cX1 (pc := 45) dX1_write_45 (j := 2) (by decide) rfl w_231 (fun r10 => ?_)
  refine z_iload (x := v3) (pc := 48) dX1_write_48 rfl ?_
  refine z_iconst (v := 3) (pc := 50) dX1_write_50 (by decide) ?_
  refine z_iadd (pc := 51) dX1_write_51 ?_
  refine z_iload (x := x5) (pc := 52) dX1_write_52 rfl ?_
  refine z_astI (pc := 54) dX1_write_54 (fun h11 => ?_)
  refine z_aload_n (x := a) (pc := 55) dX1_write_55 rfl rfl ?_
  refine z_getR cX1 (pc := 56) dX1_write_56 (j := 1) (by decide) rfl w_230 (fun r12 => ?_)
  refine z_iload_n (x := x1) (pc := 59) dX1_write_59 rfl rfl ?_
  refine z_aload_n (x := a) (pc := 60) dX1_write_60 rfl rfl ?_
  refine z_getR cX1 (pc := 61) dX1_write_61 (j := 1) (by decide) rfl w_230 (fun r13 => ?_)
  refine z_iload_n (x := x1) (pc := 64) dX1_write_64 rfl rfl ?_
  refine z_aldI (pc := 65) dX1_write_65 (fun t14 => ?_)
  refine z_iconst (v := 1) (pc := 66) dX1_write_66 (by decide) ?_
  refine z_iadd (pc := 67) dX1_write_67 ?_
  refine z_bipush (v := 16) (pc := 68) dX1_write_68 (by decide) ?_
  refine z_irem (pc := 70) (by decide) dX1_write_70 ?_
  refine z_astI (pc := 71) dX1_write_71 (fun h15 => ?_)
  refine z_aload_n (x := a) (pc := 72) dX1_write_72 rfl rfl ?_
  refine z_getR cX1 (pc := 73) dX1_write_73 (j := 0) (by decide) rfl w_228 (fun r16 => ?_)
  refine z_iload_n (x := x1) (pc := 76) dX1_write_76 rfl rfl ?_
  refine z_bipush (v := 16) (pc := 77) dX1_write_77 (by decide) ?_
  refine z_aload_n (x := a) (pc := 79) dX1_write_79 rfl rfl ?_
  refine z_getR cX1 (pc := 80) dX1_write_80 (j := 0) (by decide) rfl w_228 (fun r17 => ?_)
  refine z_iload_n (x := x1) (pc := 83) dX1_write_83 rfl rfl ?_
  refine z_aldI (pc := 84) dX1_write_84 (fun t18 => ?_)
  refine z_iconst (v := 1) (pc := 85) dX1_write_85 (by decide) ?_
  refine z_iadd (pc := 86) dX1_write_86 ?_
  refine z_mmin (pc := 87) dX1_write_87 w_708 w_575 w_17 w_576 (by decide) (Nat.le_of_ble_eq_true rfl) ?_
  refine z_astI (pc := 90) dX1_write_90 (fun h19 => ?_)
  exact z_return (pc := 91) dX1_write_91 rfl rfl
set_option maxHeartbeats 2000000 in
set_option maxRecDepth 20000 in
theorem m_X9_quit {G : Z_G} (hG : z_GG G) (h : Z_H) (a : Nat) (x1 : Int32) : z_Met G iX9_quit [.ref a, .int x1] h ((f_X9_quit h a x1).bind some) := by
  refine z_in (la := [some (.ref a), some (.int x1), none]) (by decide) rfl rfl rfl ?_
  unfold f_X9_quit
  refine z_gg (fun _ => ?_)
  refine z_iload_n (x := x1) (pc := 0) dX9_quit_0 rfl rfl ?_
  refine z_if_eq (tgt := 18) (pc := 1) dX9_quit_1 (by decide) (fun _ => ?_) (fun _ => ?_)
  · refine z_iconst (v := (-1)) (pc := 18) dX9_quit_18 (by decide) ?_
    exact z_ireturn (pc := 19) dX9_quit_19 rfl rfl rfl
  refine z_aload_n (x := a) (pc := 4) dX9_quit_4 rfl rfl ?_
  refine z_getR cX9 (pc := 5) dX9_quit_5 (j := 0) (by decide) rfl w_403 (fun r1 => ?_)
  refine z_getR cX7 (pc := 8) dX9_quit_8 (j := 2) (by decide) rfl w_247 (fun r2 => ?_)
  refine z_iload_n (x := x1) (pc := 11) dX9_quit_11 rfl rfl ?_
  refine z_cVP (As := [.int x1]) (rest := []) hG.1 (m_X0_works hG h r2 x1) (fun _ e => z_gdb e) oX0_works (pc := 12) dX9_quit_12 rfl w_622 rfl rfl rfl (fun t3 => ?_)
  refine z_if_ne (tgt := 20) (pc := 15) dX9_quit_15 (by decide) (fun _ => ?_) (fun _ => ?_)
  · refine z_aload_n (x := a) (pc := 20) dX9_quit_20 rfl rfl ?_
    refine z_getR cX9 (pc := 21) dX9_quit_21 (j := 0) (by decide) rfl w_403 (fun r4 => ?_)
    refine z_getR cX7 (pc := 24) dX9_quit_24 (j := 2) (by decide) rfl w_247 (fun r5 => ?_)
    refine z_getR cX0 (pc := 27) dX9_quit_27 (j := 2) (by decide) rfl w_149 (fun r6 => ?_)
    refine z_iload_n (x := x1) (pc := 30) dX9_quit_30 rfl rfl ?_
    refine z_aload_n (x := a) (pc := 31) dX9_quit_31 rfl rfl ?_
    refine z_getR cX9 (pc := 32) dX9_quit_32 (j := 0) (by decide) rfl w_403 (fun r7 => ?_)
    refine z_getI cX7 (pc := 35) dX9_quit_35 (j := 8) (by decide) rfl w_261 (fun t8 => ?_)
    refine z_astI (pc := 38) dX9_quit_38 (fun h9 => ?_)
    refine z_aload_n (x := a) (pc := 39) dX9_quit_39 rfl rfl ?_
    refine z_getR cX9 (pc := 40) dX9_quit_40 (j := 0) (by decide) rfl w_403 (fun r10 => ?_)
    refine z_iload_n (x := x1) (pc := 43) dX9_quit_43 rfl rfl ?_
    refine z_cVP (As := [.int x1]) (rest := []) hG.1 (m_X7_notVested hG h9 r10 x1) (fun _ e => z_gdb e) oX7_notVested (pc := 44) dX9_quit_44 rfl w_675 rfl rfl rfl (fun t11 => ?_)
    refine z_istore_n (i := 2) (la' := [some (.ref a), some (.int x1), some (.int t11)]) (pc := 47) dX9_quit_47 rfl (by decide) rfl rfl ?_
    refine z_aload_n (x := a) (pc := 48) dX9_quit_48 rfl rfl ?_
    refine z_getR cX9 (pc := 49) dX9_quit_49 (j := 0) (by decide) rfl w_403 (fun r12 => ?_)
    refine z_getR cX7 (pc := 52) dX9_quit_52 (j := 4) (by decide) rfl w_253 (fun r13 => ?_)
    refine z_iload_n (x := x1) (pc := 55) dX9_quit_55 rfl rfl ?_
    refine z_iconst (v := 3) (pc := 56) dX9_quit_56 (by decide) ?_
    refine z_aload_n (x := a) (pc := 57) dX9_quit_57 rfl rfl ?_
    refine z_getR cX9 (pc := 58) dX9_quit_58 (j := 0) (by decide) rfl w_403 (fun r14 => ?_)
    refine z_getI cX7 (pc := 61) dX9_quit_61 (j := 8) (by decide) rfl w_261 (fun t15 => ?_)
    refine z_iload_n (x := t11) (pc := 64) dX9_quit_64 rfl rfl ?_
    refine z_iconst (v := (-1)) (pc := 65) dX9_quit_65 (by decide) ?_
    refine z_cVV (As := [.int x1, .int 3, .int t15, .int t11, .int (-1)]) (rest := []) hG.1 (m_X1_write hG h9 r13 x1 3 t15 t11 (-1)) (fun _ e => z_gdb e) oX1_write (pc := 66) dX9_quit_66 rfl w_704 rfl rfl rfl (fun h16 => ?_)
    refine z_iload_n (x := t11) (pc := 69) dX9_quit_69 rfl rfl ?_
    exact z_ireturn (pc := 70) dX9_quit_70 rfl rfl rfl
  refine z_iconst (v := (-1)) (pc := 18) dX9_quit_18 (by decide) ?_
  exact z_ireturn (pc := 19) dX9_quit_19 rfl rfl rfl
set_option maxHeartbeats 2000000 in
set_option maxRecDepth 20000 in
theorem m_X10_ofSale {G : Z_G} (hG : z_GG G) (h : Z_H) (a : Nat) (x1 : Int32) (x2 : Int32) : z_Met G iX10_ofSale [.ref a, .int x1, .int x2] h ((f_X10_ofSale h a x1 x2).bind fun r => some (r, h)) := by
  refine z_in (la := [some (.ref a), some (.int x1), some (.int x2)]) (by decide) rfl rfl rfl ?_
  unfold f_X10_ofSale
  refine z_gg (fun _ => ?_)
  refine z_aload_n (x := a) (pc := 0) dX10_ofSale_0 rfl rfl ?_
  refine z_getR cX10 (pc := 1) dX10_ofSale_1 (j := 1) (by decide) rfl w_1088 (fun r1 => ?_)
  refine z_sipush (v := 1087) (pc := 4) dX10_ofSale_4 (by decide) ?_
  refine z_bipush (v := 41) (pc := 7) dX10_ofSale_7 (by decide) ?_
  refine z_iload_n (x := x1) (pc := 9) dX10_ofSale_9 rfl rfl ?_
  refine z_imul (pc := 10) dX10_ofSale_10 ?_
  refine z_iadd (pc := 11) dX10_ofSale_11 ?_
  refine z_iload_n (x := x2) (pc := 12) dX10_ofSale_12 rfl rfl ?_
  refine z_iadd (pc := 13) dX10_ofSale_13 ?_
  refine z_aldI (pc := 14) dX10_ofSale_14 (fun t2 => ?_)
  exact z_ireturn (pc := 15) dX10_ofSale_15 rfl rfl rfl
set_option maxHeartbeats 2000000 in
set_option maxRecDepth 20000 in
theorem m_X10_ofLevel {G : Z_G} (hG : z_GG G) (h : Z_H) (a : Nat) (x1 : Int32) (x2 : Int32) (x3 : Int32) : z_Met G iX10_ofLevel [.ref a, .int x1, .int x2, .int x3] h ((f_X10_ofLevel h a x1 x2 x3).bind fun r => some (r, h)) := by
  refine z_in (la := [some (.ref a), some (.int x1), some (.int x2), some (.int x3)]) (by decide) rfl rfl rfl ?_
  unfold f_X10_ofLevel
  refine z_gg (fun _ => ?_)
  refine z_aload_n (x := a) (pc := 0) dX10_ofLevel_0 rfl rfl ?_
  refine z_iload_n (x := x1) (pc := 1) dX10_ofLevel_1 rfl rfl ?_
  refine z_bipush (v := 6) (pc := 2) dX10_ofLevel_2 (by decide) ?_
  refine z_bipush (v := 7) (pc := 4) dX10_ofLevel_4 (by decide) ?_
  refine z_iload_n (x := x2) (pc := 6) dX10_ofLevel_6 rfl rfl ?_
  refine z_imul (pc := 7) dX10_ofLevel_7 ?_
  refine z_iadd (pc := 8) dX10_ofLevel_8 ?_
  refine z_iload_n (x := x3) (pc := 9) dX10_ofLevel_9 rfl rfl ?_
  refine z_iadd (pc := 10) dX10_ofLevel_10 ?_
  refine z_cVP (As := [.int x1, .int (((6 : Int32) + ((7 : Int32) * x2)) + x3)]) (rest := []) hG.1 (m_X10_ofSale hG h a x1 (((6 : Int32) + ((7 : Int32) * x2)) + x3)) (fun _ e => z_gdb e) oX10_ofSale (pc := 11) dX10_ofLevel_11 rfl w_1311 rfl rfl rfl (fun t1 => ?_)
  exact z_ireturn (pc := 14) dX10_ofLevel_14 rfl rfl rfl
set_option maxHeartbeats 2000000 in
set_option maxRecDepth 20000 in
theorem m_X10_net {G : Z_G} (hG : z_GG G) (h : Z_H) (a : Nat) (x1 : Int32) (x2 : Int32) : z_Met G iX10_net [.ref a, .int x1, .int x2] h ((f_X10_net h a x1 x2).bind fun r => some (r, h)) := by
  refine z_in (la := [some (.ref a), some (.int x1), some (.int x2)]) (by decide) rfl rfl rfl ?_
  unfold f_X10_net
  refine z_gg (fun _ => ?_)
  refine z_iload_n (x := x2) (pc := 0) dX10_net_0 rfl rfl ?_
  refine z_bipush (v := 100) (pc := 1) dX10_net_1 (by decide) ?_
  refine z_aload_n (x := a) (pc := 3) dX10_net_3 rfl rfl ?_
  refine z_iload_n (x := x1) (pc := 4) dX10_net_4 rfl rfl ?_
  refine z_iconst (v := 4) (pc := 5) dX10_net_5 (by decide) ?_
  refine z_cVP (As := [.int x1, .int 4]) (rest := [.int 100, .int x2]) hG.1 (m_X10_ofSale hG h a x1 4) (fun _ e => z_gdb e) oX10_ofSale (pc := 6) dX10_net_6 rfl w_1311 rfl rfl rfl (fun t1 => ?_)
  refine z_isub (pc := 9) dX10_net_9 ?_
  refine z_imul (pc := 10) dX10_net_10 ?_
  refine z_bipush (v := 100) (pc := 11) dX10_net_11 (by decide) ?_
  refine z_idiv (pc := 13) (by decide) dX10_net_13 ?_
  exact z_ireturn (pc := 14) dX10_net_14 rfl rfl rfl
set_option maxHeartbeats 2000000 in
set_option maxRecDepth 20000 in
theorem m_X10_netPay {G : Z_G} (hG : z_GG G) (h : Z_H) (a : Nat) (x1 : Int32) (x2 : Int32) : z_Met G iX10_netPay [.ref a, .int x1, .int x2] h ((f_X10_netPay h a x1 x2).bind fun r => some (r, h)) := by
  refine z_in (la := [some (.ref a), some (.int x1), some (.int x2)]) (by decide) rfl rfl rfl ?_
  unfold f_X10_netPay
  refine z_gg (fun _ => ?_)
  refine z_aload_n (x := a) (pc := 0) dX10_netPay_0 rfl rfl ?_
  refine z_iload_n (x := x1) (pc := 1) dX10_netPay_1 rfl rfl ?_
  refine z_aload_n (x := a) (pc := 2) dX10_netPay_2 rfl rfl ?_
  refine z_iload_n (x := x1) (pc := 3) dX10_netPay_3 rfl rfl ?_
  refine z_iload_n (x := x2) (pc := 4) dX10_netPay_4 rfl rfl ?_
  refine z_iconst (v := 2) (pc := 5) dX10_netPay_5 (by decide) ?_
  refine z_cVP (As := [.int x1, .int x2, .int 2]) (rest := [.int x1, .ref a]) hG.1 (m_X10_ofLevel hG h a x1 x2 2) (fun _ e => z_gdb e) oX10_ofLevel (pc := 6) dX10_netPay_6 rfl w_1315 rfl rfl rfl (fun t1 => ?_)
  refine z_cVP (As := [.int x1, .int t1]) (rest := []) hG.1 (m_X10_net hG h a x1 t1) (fun _ e => z_gdb e) oX10_net (pc := 9) dX10_netPay_9 rfl w_1323 rfl rfl rfl (fun t2 => ?_)
  exact z_ireturn (pc := 12) dX10_netPay_12 rfl rfl rfl
set_option maxHeartbeats 2000000 in
set_option maxRecDepth 20000 in
theorem m_X10_greater {G : Z_G} (hG : z_GG G) (h : Z_H) (x0 : Int32) (x1 : Int32) : z_Met G iX10_greater [.int x0, .int x1] h ((f_X10_greater h x0 x1).bind fun r => some (r, h)) := by
  refine z_in (la := [some (.int x0), some (.int x1)]) (by decide) rfl rfl rfl ?_
  unfold f_X10_greater
  refine z_iload_n (x := x0) (pc := 0) dX10_greater_0 rfl rfl ?_
  refine z_iload_n (x := x1) (pc := 1) dX10_greater_1 rfl rfl ?_
  refine z_ic_le (tgt := 9) (pc := 2) dX10_greater_2 (by decide) (fun _ => ?_) (fun _ => ?_)
  · refine z_iload_n (x := x1) (pc := 9) dX10_greater_9 rfl rfl ?_
    exact z_ireturn (pc := 10) dX10_greater_10 rfl rfl rfl
  refine z_iload_n (x := x0) (pc := 5) dX10_greater_5 rfl rfl ?_
  refine z_goto (tgt := 10) (pc := 6) dX10_greater_6 (by decide) ?_
  exact z_ireturn (pc := 10) dX10_greater_10 rfl rfl rfl
set_option maxHeartbeats 2000000 in
set_option maxRecDepth 20000 in
theorem m_X10_vestedAt {G : Z_G} (hG : z_GG G) (h : Z_H) (a : Nat) (x1 : Int32) (x2 : Int32) (x3 : Int32) : z_Met G iX10_vestedAt [.ref a, .int x1, .int x2, .int x3] h ((f_X10_vestedAt h a x1 x2 x3).bind fun r => some (r, h)) := by
  refine z_in (la := [some (.ref a), some (.int x1), some (.int x2), some (.int x3), none, none, none, none]) (by decide) rfl rfl rfl ?_
  unfold f_X10_vestedAt
  refine z_gg (fun _ => ?_)
  refine z_aload_n (x := a) (pc := 0) dX10_vestedAt_0 rfl rfl ?_
  refine z_iload_n (x := x1) (pc := 1) dX10_vestedAt_1 rfl rfl ?_
  refine z_iload_n (x := x2) (pc := 2) dX10_vestedAt_2 rfl rfl ?_
  refine z_iconst (v := 0) (pc := 3) dX10_vestedAt_3 (by decide) ?_
  refine z_cVP (As := [.int x1, .int x2, .int 0]) (rest := []) hG.1 (m_X10_ofLevel hG h a x1 x2 0) (fun _ e => z_gdb e) oX10_ofLevel (pc := 4) dX10_vestedAt_4 rfl w_1315 rfl rfl rfl (fun t1 => ?_)
  refine z_istore (i := 4) (la' := [some (.ref a), some (.int x1), some (.int x2), some (.int x3), some (.int t1), none, none, none]) (pc := 7) dX10_vestedAt_7 (by decide) rfl rfl ?_
  refine z_aload_n (x := a) (pc := 9) dX10_vestedAt_9 rfl rfl ?_
  refine z_iload (x := t1) (pc := 10) dX10_vestedAt_10 rfl ?_
  refine z_cVP (As := [.int t1]) (rest := []) hG.1 (m_X10_hasQuit hG h a t1) (fun _ e => z_gdb e) oX10_hasQuit (pc := 12) dX10_vestedAt_12 rfl w_1259 rfl rfl rfl (fun t2 => ?_)
  refine z_jn 33 (fun (y3 : Int32) => [some (.ref a), some (.int x1), some (.int x2), none, none, none, none, none]) (fun (y3 : Int32) => [.int y3]) (fun (y3 : Int32) => h) ?_ ?_
  · rintro y3
    try dsimp only
    refine z_istore (i := 5) (la' := [some (.ref a), some (.int x1), some (.int x2), none, none, some (.int y3), none, none]) (pc := 33) dX10_vestedAt_33 (by decide) rfl rfl ?_
    refine z_aload_n (x := a) (pc := 35) dX10_vestedAt_35 rfl rfl ?_
    refine z_iload_n (x := x1) (pc := 36) dX10_vestedAt_36 rfl rfl ?_
    refine z_aload_n (x := a) (pc := 37) dX10_vestedAt_37 rfl rfl ?_
    refine z_iload_n (x := x1) (pc := 38) dX10_vestedAt_38 rfl rfl ?_
    refine z_iload_n (x := x2) (pc := 39) dX10_vestedAt_39 rfl rfl ?_
    refine z_iconst (v := 2) (pc := 40) dX10_vestedAt_40 (by decide) ?_
    refine z_cVP (As := [.int x1, .int x2, .int 2]) (rest := [.int x1, .ref a]) hG.1 (m_X10_ofLevel hG h a x1 x2 2) (fun _ e => z_gdb e) oX10_ofLevel (pc := 41) dX10_vestedAt_41 rfl w_1315 rfl rfl rfl (fun t5 => ?_)
    refine z_cVP (As := [.int x1, .int t5]) (rest := []) hG.1 (m_X10_net hG h a x1 t5) (fun _ e => z_gdb e) oX10_net (pc := 44) dX10_vestedAt_44 rfl w_1323 rfl rfl rfl (fun t6 => ?_)
    refine z_istore (i := 6) (la' := [some (.ref a), some (.int x1), some (.int x2), none, none, some (.int y3), some (.int t6), none]) (pc := 47) dX10_vestedAt_47 (by decide) rfl rfl ?_
    refine z_aload_n (x := a) (pc := 49) dX10_vestedAt_49 rfl rfl ?_
    refine z_getR cX10 (pc := 50) dX10_vestedAt_50 (j := 1) (by decide) rfl w_1088 (fun r7 => ?_)
    refine z_iconst (v := 5) (pc := 53) dX10_vestedAt_53 (by decide) ?_
    refine z_aldI (pc := 54) dX10_vestedAt_54 (fun t8 => ?_)
    refine z_iconst (v := 0) (pc := 55) dX10_vestedAt_55 (by decide) ?_
    refine z_iload (x := y3) (pc := 56) dX10_vestedAt_56 rfl ?_
    refine z_aload_n (x := a) (pc := 58) dX10_vestedAt_58 rfl rfl ?_
    refine z_iload_n (x := x1) (pc := 59) dX10_vestedAt_59 rfl rfl ?_
    refine z_iconst (v := 3) (pc := 60) dX10_vestedAt_60 (by decide) ?_
    refine z_cVP (As := [.int x1, .int 3]) (rest := [.int y3, .int 0, .int t8]) hG.1 (m_X10_ofSale hG h a x1 3) (fun _ e => z_gdb e) oX10_ofSale (pc := 61) dX10_vestedAt_61 rfl w_1311 rfl rfl rfl (fun t9 => ?_)
    refine z_isub (pc := 64) dX10_vestedAt_64 ?_
    refine z_cSP (As := [.int 0, .int (y3 - t9)]) (rest := [.int t8]) hG.1 (m_X10_greater hG h 0 (y3 - t9)) oX10_greater (pc := 65) dX10_vestedAt_65 rfl w_1331 rfl rfl rfl (fun t10 => ?_)
    refine z_cSP (As := [.int t8, .int t10]) (rest := []) hG.1 (m_X10_lesser hG h t8 t10) oX10_lesser (pc := 68) dX10_vestedAt_68 rfl w_1230 rfl rfl rfl (fun t11 => ?_)
    refine z_istore (i := 7) (la' := [some (.ref a), some (.int x1), some (.int x2), none, none, some (.int y3), some (.int t6), some (.int t11)]) (pc := 71) dX10_vestedAt_71 (by decide) rfl rfl ?_
    refine z_aload_n (x := a) (pc := 73) dX10_vestedAt_73 rfl rfl ?_
    refine z_getR cX10 (pc := 74) dX10_vestedAt_74 (j := 1) (by decide) rfl w_1088 (fun r12 => ?_)
    refine z_iconst (v := 5) (pc := 77) dX10_vestedAt_77 (by decide) ?_
    refine z_aldI (pc := 78) dX10_vestedAt_78 (fun t13 => ?_)
    refine z_if_ne (tgt := 87) (pc := 79) dX10_vestedAt_79 (by decide) (fun _ => ?_) (fun _ => ?_)
    · refine z_iload (x := t6) (pc := 87) dX10_vestedAt_87 rfl ?_
      refine z_iload (x := t11) (pc := 89) dX10_vestedAt_89 rfl ?_
      refine z_imul (pc := 91) dX10_vestedAt_91 ?_
      refine z_aload_n (x := a) (pc := 92) dX10_vestedAt_92 rfl rfl ?_
      refine z_getR cX10 (pc := 93) dX10_vestedAt_93 (j := 1) (by decide) rfl w_1088 (fun r14 => ?_)
      refine z_iconst (v := 5) (pc := 96) dX10_vestedAt_96 (by decide) ?_
      refine z_aldI (pc := 97) dX10_vestedAt_97 (fun t15 => ?_)
      refine z_gg (b := decide (¬ t15 = 0)) (fun hdz => ?_)
      refine z_idiv (pc := 98) (of_decide_eq_true hdz) dX10_vestedAt_98 ?_
      exact z_ireturn (pc := 99) dX10_vestedAt_99 rfl rfl rfl
    refine z_iload (x := t6) (pc := 82) dX10_vestedAt_82 rfl ?_
    refine z_goto (tgt := 99) (pc := 84) dX10_vestedAt_84 (by decide) ?_
    exact z_ireturn (pc := 99) dX10_vestedAt_99 rfl rfl rfl
  intro j4 hj4
  refine z_if_eq (tgt := 32) (pc := 15) dX10_vestedAt_15 (by decide) (fun _ => ?_) (fun _ => ?_)
  · refine z_iload_n (x := x3) (pc := 32) dX10_vestedAt_32 rfl rfl ?_
    exact z_wk (hj4 x3) (And.intro rfl (And.intro rfl (And.intro rfl trivial)))
  refine z_iload_n (x := x3) (pc := 18) dX10_vestedAt_18 rfl rfl ?_
  refine z_aload_n (x := a) (pc := 19) dX10_vestedAt_19 rfl rfl ?_
  refine z_iload (x := t1) (pc := 20) dX10_vestedAt_20 rfl ?_
  refine z_iconst (v := 1) (pc := 22) dX10_vestedAt_22 (by decide) ?_
  refine z_cVP (As := [.int t1, .int 1]) (rest := [.int x3]) hG.1 (m_X10_ofSeller hG h a t1 1) (fun _ e => z_gdb e) oX10_ofSeller (pc := 23) dX10_vestedAt_23 rfl w_1263 rfl rfl rfl (fun t16 => ?_)
  refine z_cSP (As := [.int x3, .int t16]) (rest := []) hG.1 (m_X10_lesser hG h x3 t16) oX10_lesser (pc := 26) dX10_vestedAt_26 rfl w_1230 rfl rfl rfl (fun t17 => ?_)
  refine z_goto (tgt := 33) (pc := 29) dX10_vestedAt_29 (by decide) ?_
  exact z_wk (hj4 t17) (And.intro rfl (And.intro rfl (And.intro rfl trivial)))
set_option maxHeartbeats 2000000 in
set_option maxRecDepth 20000 in
theorem m_X10_notVested {G : Z_G} (hG : z_GG G) (h : Z_H) (a : Nat) (x1 : Int32) : z_Met G iX10_notVested [.ref a, .int x1] h ((f_X10_notVested h a x1).bind fun r => some (r, h)) := by
  refine z_in (la := [some (.ref a), some (.int x1), none, none, none]) (by decide) rfl rfl rfl ?_
  unfold f_X10_notVested
  refine z_gg (fun _ => ?_)
  refine z_iconst (v := 0) (pc := 0) dX10_notVested_0 (by decide) ?_
  refine z_istore_n (i := 2) (la' := [some (.ref a), some (.int x1), some (.int 0), none, none]) (pc := 1) dX10_notVested_1 rfl (by decide) rfl rfl ?_
  refine z_iconst (v := 0) (pc := 2) dX10_notVested_2 (by decide) ?_
  refine z_istore_n (i := 3) (la' := [some (.ref a), some (.int x1), some (.int 0), some (.int 0), none]) (pc := 3) dX10_notVested_3 rfl (by decide) rfl rfl ?_
  refine z_lp (T := Int32) (s0 := (0, 0)) 4 (fun ((v1, v2) : Int32 × Int32) => [some (.ref a), some (.int x1), some (.int v1), some (.int v2), none]) (fun ((v1, v2) : Int32 × Int32) => h) (fun _ => 80) (fun (v3 : Int32) => [none, none, some (.int v3), none, none]) (fun (v3 : Int32) => h) ?_ ?_
  · rintro v3
    try dsimp only
    refine z_iload_n (x := v3) (pc := 80) dX10_notVested_80 rfl rfl ?_
    exact z_ireturn (pc := 81) dX10_notVested_81 rfl rfl rfl
  intro k' hx1 rec4 hrec4
  rintro ⟨v1, v2⟩
  unfold f_X10_notVested_l1
  try dsimp only
  refine z_iload_n (x := v2) (pc := 4) dX10_notVested_4 rfl rfl ?_
  refine z_aload_n (x := a) (pc := 5) dX10_notVested_5 rfl rfl ?_
  refine z_getR cX10 (pc := 6) dX10_notVested_6 (j := 1) (by decide) rfl w_1088 (fun r5 => ?_)
  refine z_sipush (v := 146) (pc := 9) dX10_notVested_9 (by decide) ?_
  refine z_aldI (pc := 12) dX10_notVested_12 (fun t6 => ?_)
  refine z_ic_ge (tgt := 80) (pc := 13) dX10_notVested_13 (by decide) (fun _ => ?_) (fun _ => ?_)
  · exact z_wk (hx1 v1) (And.intro rfl trivial)
  refine z_iconst (v := 0) (pc := 16) dX10_notVested_16 (by decide) ?_
  refine z_istore (i := 4) (la' := [some (.ref a), some (.int x1), some (.int v1), some (.int v2), some (.int 0)]) (pc := 17) dX10_notVested_17 (by decide) rfl rfl ?_
  refine z_lp (T := Int32) (s0 := (v1, 0)) 19 (fun ((v7, v8) : Int32 × Int32) => [some (.ref a), some (.int x1), some (.int v7), some (.int v2), some (.int v8)]) (fun ((v7, v8) : Int32 × Int32) => h) (fun _ => 74) (fun (v9 : Int32) => [some (.ref a), some (.int x1), some (.int v9), some (.int v2), none]) (fun (v9 : Int32) => h) ?_ ?_
  · rintro v9
    try dsimp only
    refine z_iinc (i := 3) (x := v2) (v := (v2 + 1)) (la' := [some (.ref a), some (.int x1), some (.int v9), some (.int (v2 + 1)), none]) (pc := 74) dX10_notVested_74 rfl rfl (by decide) rfl rfl ?_
    refine z_goto (tgt := 4) (pc := 77) dX10_notVested_77 (by decide) ?_
    exact hrec4 (v9, (v2 + 1))
  intro k' hx2 rec10 hrec10
  rintro ⟨v7, v8⟩
  unfold f_X10_notVested_l2
  try dsimp only
  refine z_iload (x := v8) (pc := 19) dX10_notVested_19 rfl ?_
  refine z_aload_n (x := a) (pc := 21) dX10_notVested_21 rfl rfl ?_
  refine z_iload_n (x := v2) (pc := 22) dX10_notVested_22 rfl rfl ?_
  refine z_iconst (v := 5) (pc := 23) dX10_notVested_23 (by decide) ?_
  refine z_cVP (As := [.int v2, .int 5]) (rest := [.int v8]) hG.1 (m_X10_ofSale hG h a v2 5) (fun _ e => z_gdb e) oX10_ofSale (pc := 24) dX10_notVested_24 rfl w_1311 rfl rfl rfl (fun t11 => ?_)
  refine z_ic_ge (tgt := 74) (pc := 27) dX10_notVested_27 (by decide) (fun _ => ?_) (fun _ => ?_)
  · exact z_wk (hx2 v7) (And.intro rfl (And.intro rfl (And.intro rfl (And.intro rfl trivial))))
  refine z_iload_n (x := v7) (pc := 30) dX10_notVested_30 rfl rfl ?_
  refine z_aload_n (x := a) (pc := 31) dX10_notVested_31 rfl rfl ?_
  refine z_iload_n (x := v2) (pc := 32) dX10_notVested_32 rfl rfl ?_
  refine z_iload (x := v8) (pc := 33) dX10_notVested_33 rfl ?_
  refine z_iconst (v := 0) (pc := 35) dX10_notVested_35 (by decide) ?_
  refine z_cVP (As := [.int v2, .int v8, .int 0]) (rest := [.int v7]) hG.1 (m_X10_ofLevel hG h a v2 v8 0) (fun _ e => z_gdb e) oX10_ofLevel (pc := 36) dX10_notVested_36 rfl w_1315 rfl rfl rfl (fun t12 => ?_)
  refine z_iload_n (x := x1) (pc := 39) dX10_notVested_39 rfl rfl ?_
  refine z_jn 66 (fun (y13 : Int32) => [some (.ref a), some (.int x1), none, some (.int v2), some (.int v8)]) (fun (y13 : Int32) => [.int y13, .int v7]) (fun (y13 : Int32) => h) ?_ ?_
  · rintro y13
    try dsimp only
    refine z_iadd (pc := 66) dX10_notVested_66 ?_
    refine z_nm (fun v15 => ?_)
    refine z_istore_n (i := 2) (la' := [some (.ref a), some (.int x1), some (.int v15), some (.int v2), some (.int v8)]) (pc := 67) dX10_notVested_67 rfl (by decide) rfl rfl ?_
    refine z_iinc (i := 4) (x := v8) (v := (v8 + 1)) (la' := [some (.ref a), some (.int x1), some (.int v15), some (.int v2), some (.int (v8 + 1))]) (pc := 68) dX10_notVested_68 rfl rfl (by decide) rfl rfl ?_
    refine z_goto (tgt := 19) (pc := 71) dX10_notVested_71 (by decide) ?_
    exact hrec10 (v15, (v8 + 1))
  intro j14 hj14
  refine z_ic_ne (tgt := 65) (pc := 40) dX10_notVested_40 (by decide) (fun _ => ?_) (fun _ => ?_)
  · refine z_iconst (v := 0) (pc := 65) dX10_notVested_65 (by decide) ?_
    exact z_wk (hj14 0) (And.intro rfl (And.intro rfl (And.intro rfl (And.intro rfl trivial))))
  refine z_aload_n (x := a) (pc := 43) dX10_notVested_43 rfl rfl ?_
  refine z_iload_n (x := v2) (pc := 44) dX10_notVested_44 rfl rfl ?_
  refine z_iload (x := v8) (pc := 45) dX10_notVested_45 rfl ?_
  refine z_cVP (As := [.int v2, .int v8]) (rest := [.int v7]) hG.1 (m_X10_netPay hG h a v2 v8) (fun _ e => z_gdb e) oX10_netPay (pc := 47) dX10_notVested_47 rfl w_1319 rfl rfl rfl (fun t16 => ?_)
  refine z_aload_n (x := a) (pc := 50) dX10_notVested_50 rfl rfl ?_
  refine z_iload_n (x := v2) (pc := 51) dX10_notVested_51 rfl rfl ?_
  refine z_iload (x := v8) (pc := 52) dX10_notVested_52 rfl ?_
  refine z_aload_n (x := a) (pc := 54) dX10_notVested_54 rfl rfl ?_
  refine z_cVP (As := []) (rest := [.int v8, .int v2, .ref a, .int t16, .int v7]) hG.1 (m_X10_now hG h a) (fun _ e => z_gdb e) oX10_now (pc := 55) dX10_notVested_55 rfl w_1247 rfl rfl rfl (fun t17 => ?_)
  refine z_cVP (As := [.int v2, .int v8, .int t17]) (rest := [.int t16, .int v7]) hG.1 (m_X10_vestedAt hG h a v2 v8 t17) (fun _ e => z_gdb e) oX10_vestedAt (pc := 58) dX10_notVested_58 rfl w_1327 rfl rfl rfl (fun t18 => ?_)
  refine z_isub (pc := 61) dX10_notVested_61 ?_
  refine z_goto (tgt := 66) (pc := 62) dX10_notVested_62 (by decide) ?_
  exact z_wk (hj14 (t16 - t18)) (And.intro rfl (And.intro rfl (And.intro rfl (And.intro rfl trivial))))
set_option maxHeartbeats 2000000 in
set_option maxRecDepth 20000 in
theorem m_X10_writes {G : Z_G} (hG : z_GG G) (h : Z_H) (a : Nat) (x1 : Int32) (x2 : Int32) (x3 : Int32) (x4 : Int32) : z_Met G iX10_writes [.ref a, .int x1, .int x2, .int x3, .int x4] h ((f_X10_writes h a x1 x2 x3 x4).bind fun h1 => some (0, h1)) := by
  refine z_in (la := [some (.ref a), some (.int x1), some (.int x2), some (.int x3), some (.int x4), none, none]) (by decide) rfl rfl rfl ?_
  unfold f_X10_writes
  refine z_gg (fun _ => ?_)
  refine z_sipush (v := 147) (pc := 0) dX10_writes_0 (by decide) ?_
  refine z_bipush (v := 94) (pc := 3) dX10_writes_3 (by decide) ?_
  refine z_iload_n (x := x1) (pc := 5) dX10_writes_5 rfl rfl ?_
  refine z_imul (pc := 6) dX10_writes_6 ?_
  refine z_iadd (pc := 7) dX10_writes_7 ?_
  refine z_bipush (v := 30) (pc := 8) dX10_writes_8 (by decide) ?_
  refine z_iadd (pc := 10) dX10_writes_10 ?_
  refine z_nm (fun v1 => ?_)
  refine z_istore (i := 5) (la' := [some (.ref a), some (.int x1), some (.int x2), some (.int x3), some (.int x4), some (.int v1), none]) (pc := 11) dX10_writes_11 (by decide) rfl rfl ?_
  refine z_bipush (v := 63) (pc := 13) dX10_writes_13 (by decide) ?_
  refine z_istore (i := 6) (la' := [some (.ref a), some (.int x1), some (.int x2), some (.int x3), some (.int x4), some (.int v1), some (.int 63)]) (pc := 15) dX10_writes_15 (by decide) rfl rfl ?_
  refine z_lp (T := Z_H) (s0 := (63, h)) 17 (fun ((v2, h3) : Int32 × Z_H) => [some (.ref a), some (.int x1), some (.int x2), some (.int x3), some (.int x4), some (.int v1), some (.int v2)]) (fun ((v2, h3) : Int32 × Z_H) => h3) (fun _ => 51) (fun (h4 : Z_H) => [some (.ref a), some (.int x1), some (.int x2), some (.int x3), some (.int x4), some (.int v1), none]) (fun (h4 : Z_H) => h4) ?_ ?_
  · rintro h4
    try dsimp only
    refine z_aload_n (x := a) (pc := 51) dX10_writes_51 rfl rfl ?_
    refine z_getR cX10 (pc := 52) dX10_writes_52 (j := 1) (by decide) rfl w_1088 (fun r10 => ?_)
    refine z_iload (x := v1) (pc := 55) dX10_writes_55 rfl ?_
    refine z_iload_n (x := x2) (pc := 57) dX10_writes_57 rfl rfl ?_
    refine z_astI (pc := 58) dX10_writes_58 (fun h11 => ?_)
    refine z_aload_n (x := a) (pc := 59) dX10_writes_59 rfl rfl ?_
    refine z_getR cX10 (pc := 60) dX10_writes_60 (j := 1) (by decide) rfl w_1088 (fun r12 => ?_)
    refine z_iload (x := v1) (pc := 63) dX10_writes_63 rfl ?_
    refine z_iconst (v := 1) (pc := 65) dX10_writes_65 (by decide) ?_
    refine z_iadd (pc := 66) dX10_writes_66 ?_
    refine z_aload_n (x := a) (pc := 67) dX10_writes_67 rfl rfl ?_
    refine z_cVP (As := []) (rest := [.int (v1 + 1), .ref r12]) hG.1 (m_X10_now hG h11 a) (fun _ e => z_gdb e) oX10_now (pc := 68) dX10_writes_68 rfl w_1247 rfl rfl rfl (fun t13 => ?_)
    refine z_astI (pc := 71) dX10_writes_71 (fun h14 => ?_)
    refine z_aload_n (x := a) (pc := 72) dX10_writes_72 rfl rfl ?_
    refine z_getR cX10 (pc := 73) dX10_writes_73 (j := 1) (by decide) rfl w_1088 (fun r15 => ?_)
    refine z_iload (x := v1) (pc := 76) dX10_writes_76 rfl ?_
    refine z_iconst (v := 2) (pc := 78) dX10_writes_78 (by decide) ?_
    refine z_iadd (pc := 79) dX10_writes_79 ?_
    refine z_iload_n (x := x3) (pc := 80) dX10_writes_80 rfl rfl ?_
    refine z_astI (pc := 81) dX10_writes_81 (fun h16 => ?_)
    refine z_aload_n (x := a) (pc := 82) dX10_writes_82 rfl rfl ?_
    refine z_getR cX10 (pc := 83) dX10_writes_83 (j := 1) (by decide) rfl w_1088 (fun r17 => ?_)
    refine z_iload (x := v1) (pc := 86) dX10_writes_86 rfl ?_
    refine z_iconst (v := 3) (pc := 88) dX10_writes_88 (by decide) ?_
    refine z_iadd (pc := 89) dX10_writes_89 ?_
    refine z_iload (x := x4) (pc := 90) dX10_writes_90 rfl ?_
    refine z_astI (pc := 92) dX10_writes_92 (fun h18 => ?_)
    refine z_aload_n (x := a) (pc := 93) dX10_writes_93 rfl rfl ?_
    refine z_iload_n (x := x1) (pc := 94) dX10_writes_94 rfl rfl ?_
    refine z_bipush (v := 29) (pc := 95) dX10_writes_95 (by decide) ?_
    refine z_bipush (v := 16) (pc := 97) dX10_writes_97 (by decide) ?_
    refine z_aload_n (x := a) (pc := 99) dX10_writes_99 rfl rfl ?_
    refine z_iload_n (x := x1) (pc := 100) dX10_writes_100 rfl rfl ?_
    refine z_bipush (v := 29) (pc := 101) dX10_writes_101 (by decide) ?_
    refine z_cVP (As := [.int x1, .int 29]) (rest := [.int 16, .int 29, .int x1, .ref a]) hG.1 (m_X10_ofSeller hG h18 a x1 29) (fun _ e => z_gdb e) oX10_ofSeller (pc := 103) dX10_writes_103 rfl w_1263 rfl rfl rfl (fun t19 => ?_)
    refine z_iconst (v := 1) (pc := 106) dX10_writes_106 (by decide) ?_
    refine z_iadd (pc := 107) dX10_writes_107 ?_
    refine z_cSP (As := [.int 16, .int (t19 + 1)]) (rest := [.int 29, .int x1, .ref a]) hG.1 (m_X10_lesser hG h18 16 (t19 + 1)) oX10_lesser (pc := 108) dX10_writes_108 rfl w_1230 rfl rfl rfl (fun t20 => ?_)
    refine z_cVV (As := [.int x1, .int 29, .int t20]) (rest := []) hG.1 (m_X10_setSeller hG h18 a x1 29 t20) (fun _ e => z_gdb e) oX10_setSeller (pc := 111) dX10_writes_111 rfl w_1299 rfl rfl rfl (fun h21 => ?_)
    exact z_return (pc := 114) dX10_writes_114 rfl rfl
  intro k' hx1 rec5 hrec5
  rintro ⟨v2, h3⟩
  unfold f_X10_writes_l1
  try dsimp only
  refine z_iload (x := v2) (pc := 17) dX10_writes_17 rfl ?_
  refine z_iconst (v := 4) (pc := 19) dX10_writes_19 (by decide) ?_
  refine z_ic_lt (tgt := 51) (pc := 20) dX10_writes_20 (by decide) (fun _ => ?_) (fun _ => ?_)
  · exact z_wk (hx1 h3) (And.intro rfl (And.intro rfl (And.intro rfl (And.intro rfl (And.intro rfl (And.intro rfl trivial))))))
  refine z_aload_n (x := a) (pc := 23) dX10_writes_23 rfl rfl ?_
  refine z_getR cX10 (pc := 24) dX10_writes_24 (j := 1) (by decide) rfl w_1088 (fun r6 => ?_)
  refine z_iload (x := v1) (pc := 27) dX10_writes_27 rfl ?_
  refine z_iload (x := v2) (pc := 29) dX10_writes_29 rfl ?_
  refine z_iadd (pc := 31) dX10_writes_31 ?_
  refine z_aload_n (x := a) (pc := 32) dX10_writes_32 rfl rfl ?_
  refine z_getR cX10 (pc := 33) dX10_writes_33 (j := 1) (by decide) rfl w_1088 (fun r7 => ?_)
  refine z_iload (x := v1) (pc := 36) dX10_writes_36 rfl ?_
  refine z_iload (x := v2) (pc := 38) dX10_writes_38 rfl ?_
  refine z_iadd (pc := 40) dX10_writes_40 ?_
  refine z_iconst (v := 4) (pc := 41) dX10_writes_41 (by decide) ?_
  refine z_isub (pc := 42) dX10_writes_42 ?_
  refine z_aldI (pc := 43) dX10_writes_43 (fun t8 => ?_)
  refine z_astI (pc := 44) dX10_writes_44 (fun h9 => ?_)
  refine z_iinc (i := 6) (x := v2) (v := (v2 + (-1))) (la' := [some (.ref a), some (.int x1), some (.int x2), some (.int x3), some (.int x4), some (.int v1), some (.int (v2 + (-1)))]) (pc := 45) dX10_writes_45 rfl rfl (by decide) rfl rfl ?_
  refine z_goto (tgt := 17) (pc := 48) dX10_writes_48 (by decide) ?_
  exact hrec5 ((v2 + (-1)), h9)
set_option maxHeartbeats 2000000 in
set_option maxRecDepth 20000 in
theorem m_X10_quit {G : Z_G} (hG : z_GG G) (h : Z_H) (a : Nat) (x1 : Int32) : z_Met G iX10_quit [.ref a, .int x1] h ((f_X10_quit h a x1).bind some) := by
  refine z_in (la := [some (.ref a), some (.int x1), none]) (by decide) rfl rfl rfl ?_
  unfold f_X10_quit
  refine z_gg (fun _ => ?_)
  refine z_aload_n (x := a) (pc := 0) dX10_quit_0 rfl rfl ?_
  refine z_iconst (v := 0) (pc := 1) dX10_quit_1 (by decide) ?_
  refine z_putI cX10 (pc := 2) dX10_quit_2 (j := 0) (by decide) rfl rfl w_1087 (fun h1 => ?_)
  refine z_aload_n (x := a) (pc := 5) dX10_quit_5 rfl rfl ?_
  refine z_iload_n (x := x1) (pc := 6) dX10_quit_6 rfl rfl ?_
  refine z_cVP (As := [.int x1]) (rest := []) hG.1 (m_X10_isSeller hG h1 a x1) (fun _ e => z_gdb e) oX10_isSeller (pc := 7) dX10_quit_7 rfl w_1255 rfl rfl rfl (fun t2 => ?_)
  refine z_if_eq (tgt := 25) (pc := 10) dX10_quit_10 (by decide) (fun _ => ?_) (fun _ => ?_)
  · refine z_iconst (v := (-1)) (pc := 25) dX10_quit_25 (by decide) ?_
    exact z_ireturn (pc := 26) dX10_quit_26 rfl rfl rfl
  refine z_aload_n (x := a) (pc := 13) dX10_quit_13 rfl rfl ?_
  refine z_iload_n (x := x1) (pc := 14) dX10_quit_14 rfl rfl ?_
  refine z_cVP (As := [.int x1]) (rest := []) hG.1 (m_X10_hasQuit hG h1 a x1) (fun _ e => z_gdb e) oX10_hasQuit (pc := 15) dX10_quit_15 rfl w_1259 rfl rfl rfl (fun t3 => ?_)
  refine z_if_ne (tgt := 25) (pc := 18) dX10_quit_18 (by decide) (fun _ => ?_) (fun _ => ?_)
  · refine z_iconst (v := (-1)) (pc := 25) dX10_quit_25 (by decide) ?_
    exact z_ireturn (pc := 26) dX10_quit_26 rfl rfl rfl
  refine z_iload_n (x := x1) (pc := 21) dX10_quit_21 rfl rfl ?_
  refine z_if_ne (tgt := 27) (pc := 22) dX10_quit_22 (by decide) (fun _ => ?_) (fun _ => ?_)
  · refine z_aload_n (x := a) (pc := 27) dX10_quit_27 rfl rfl ?_
    refine z_iload_n (x := x1) (pc := 28) dX10_quit_28 rfl rfl ?_
    refine z_iconst (v := 1) (pc := 29) dX10_quit_29 (by decide) ?_
    refine z_aload_n (x := a) (pc := 30) dX10_quit_30 rfl rfl ?_
    refine z_cVP (As := []) (rest := [.int 1, .int x1, .ref a]) hG.1 (m_X10_now hG h1 a) (fun _ e => z_gdb e) oX10_now (pc := 31) dX10_quit_31 rfl w_1247 rfl rfl rfl (fun t4 => ?_)
    refine z_cVV (As := [.int x1, .int 1, .int t4]) (rest := []) hG.1 (m_X10_setSeller hG h1 a x1 1 t4) (fun _ e => z_gdb e) oX10_setSeller (pc := 34) dX10_quit_34 rfl w_1299 rfl rfl rfl (fun h5 => ?_)
    refine z_aload_n (x := a) (pc := 37) dX10_quit_37 rfl rfl ?_
    refine z_iload_n (x := x1) (pc := 38) dX10_quit_38 rfl rfl ?_
    refine z_cVP (As := [.int x1]) (rest := []) hG.1 (m_X10_notVested hG h5 a x1) (fun _ e => z_gdb e) oX10_notVested (pc := 39) dX10_quit_39 rfl w_1307 rfl rfl rfl (fun t6 => ?_)
    refine z_istore_n (i := 2) (la' := [some (.ref a), some (.int x1), some (.int t6)]) (pc := 42) dX10_quit_42 rfl (by decide) rfl rfl ?_
    refine z_aload_n (x := a) (pc := 43) dX10_quit_43 rfl rfl ?_
    refine z_iload_n (x := x1) (pc := 44) dX10_quit_44 rfl rfl ?_
    refine z_iconst (v := 3) (pc := 45) dX10_quit_45 (by decide) ?_
    refine z_iload_n (x := t6) (pc := 46) dX10_quit_46 rfl rfl ?_
    refine z_iconst (v := (-1)) (pc := 47) dX10_quit_47 (by decide) ?_
    refine z_cVV (As := [.int x1, .int 3, .int t6, .int (-1)]) (rest := []) hG.1 (m_X10_writes hG h5 a x1 3 t6 (-1)) (fun _ e => z_gdb e) oX10_writes (pc := 48) dX10_quit_48 rfl w_1334 rfl rfl rfl (fun h7 => ?_)
    refine z_iload_n (x := t6) (pc := 51) dX10_quit_51 rfl rfl ?_
    exact z_ireturn (pc := 52) dX10_quit_52 rfl rfl rfl
  refine z_iconst (v := (-1)) (pc := 25) dX10_quit_25 (by decide) ?_
  exact z_ireturn (pc := 26) dX10_quit_26 rfl rfl rfl
set_option maxHeartbeats 2000000 in
set_option maxRecDepth 20000 in
theorem m_X9_canSell {G : Z_G} (hG : z_GG G) (h : Z_H) (a : Nat) (x1 : Int32) (x2 : Int32) : z_Met G iX9_canSell [.ref a, .int x1, .int x2] h ((f_X9_canSell h a x1 x2).bind fun r => some (r, h)) := by
  refine z_in (la := [some (.ref a), some (.int x1), some (.int x2)]) (by decide) rfl rfl rfl ?_
  unfold f_X9_canSell
  refine z_gg (fun _ => ?_)
  refine z_aload_n (x := a) (pc := 0) dX9_canSell_0 rfl rfl ?_
  refine z_getR cX9 (pc := 1) dX9_canSell_1 (j := 0) (by decide) rfl w_403 (fun r1 => ?_)
  refine z_getR cX7 (pc := 4) dX9_canSell_4 (j := 2) (by decide) rfl w_247 (fun r2 => ?_)
  refine z_iload_n (x := x1) (pc := 7) dX9_canSell_7 rfl rfl ?_
  refine z_cVP (As := [.int x1]) (rest := []) hG.1 (m_X0_works hG h r2 x1) (fun _ e => z_gdb e) oX0_works (pc := 8) dX9_canSell_8 rfl w_622 rfl rfl rfl (fun t3 => ?_)
  refine z_if_eq (tgt := 30) (pc := 11) dX9_canSell_11 (by decide) (fun _ => ?_) (fun _ => ?_)
  · refine z_iconst (v := 0) (pc := 30) dX9_canSell_30 (by decide) ?_
    exact z_ireturn (pc := 31) dX9_canSell_31 rfl (by decide) rfl
  refine z_iload_n (x := x2) (pc := 14) dX9_canSell_14 rfl rfl ?_
  refine z_iconst (v := 1) (pc := 15) dX9_canSell_15 (by decide) ?_
  refine z_ic_lt (tgt := 30) (pc := 16) dX9_canSell_16 (by decide) (fun _ => ?_) (fun _ => ?_)
  · refine z_iconst (v := 0) (pc := 30) dX9_canSell_30 (by decide) ?_
    exact z_ireturn (pc := 31) dX9_canSell_31 rfl (by decide) rfl
  refine z_iload_n (x := x2) (pc := 19) dX9_canSell_19 rfl rfl ?_
  refine z_sipush (v := 9999) (pc := 20) dX9_canSell_20 (by decide) ?_
  refine z_ic_gt (tgt := 30) (pc := 23) dX9_canSell_23 (by decide) (fun _ => ?_) (fun _ => ?_)
  · refine z_iconst (v := 0) (pc := 30) dX9_canSell_30 (by decide) ?_
    exact z_ireturn (pc := 31) dX9_canSell_31 rfl (by decide) rfl
  refine z_iconst (v := 1) (pc := 26) dX9_canSell_26 (by decide) ?_
  refine z_goto (tgt := 31) (pc := 27) dX9_canSell_27 (by decide) ?_
  exact z_ireturn (pc := 31) dX9_canSell_31 rfl (by decide) rfl
set_option maxHeartbeats 2000000 in
set_option maxRecDepth 20000 in
theorem m_X5_add {G : Z_G} (hG : z_GG G) (h : Z_H) (a : Nat) (x1 : Int32) (x2 : Int32) (x3 : Int32) (x4 : Int32) : z_Met G iX5_add [.ref a, .int x1, .int x2, .int x3, .int x4] h ((f_X5_add h a x1 x2 x3 x4).bind some) := by
  refine z_in (la := [some (.ref a), some (.int x1), some (.int x2), some (.int x3), some (.int x4), none]) (by decide) rfl rfl rfl ?_
  unfold f_X5_add
  refine z_gg (fun _ => ?_)
  refine z_aload_n (x := a) (pc := 0) dX5_add_0 rfl rfl ?_
  refine z_getI cX5 (pc := 1) dX5_add_1 (j := 0) (by decide) rfl w_183 (fun t1 => ?_)
  refine z_istore (i := 5) (la' := [some (.ref a), some (.int x1), some (.int x2), some (.int x3), some (.int x4), some (.int t1)]) (pc := 4) dX5_add_4 (by decide) rfl rfl ?_
  refine z_iload (x := t1) (pc := 6) dX5_add_6 rfl ?_
  refine z_bipush (v := 40) (pc := 8) dX5_add_8 (by decide) ?_
  refine z_ic_lt (tgt := 15) (pc := 10) dX5_add_10 (by decide) (fun _ => ?_) (fun _ => ?_)
  · refine z_aload_n (x := a) (pc := 15) dX5_add_15 rfl rfl ?_
    refine z_getR cX5 (pc := 16) dX5_add_16 (j := 1) (by decide) rfl w_187 (fun r2 => ?_)
    refine z_iload (x := t1) (pc := 19) dX5_add_19 rfl ?_
    refine z_iload_n (x := x1) (pc := 21) dX5_add_21 rfl rfl ?_
    refine z_astI (pc := 22) dX5_add_22 (fun h3 => ?_)
    refine z_aload_n (x := a) (pc := 23) dX5_add_23 rfl rfl ?_
    refine z_getR cX5 (pc := 24) dX5_add_24 (j := 2) (by decide) rfl w_191 (fun r4 => ?_)
    refine z_iload (x := t1) (pc := 27) dX5_add_27 rfl ?_
    refine z_iload_n (x := x2) (pc := 29) dX5_add_29 rfl rfl ?_
    refine z_astI (pc := 30) dX5_add_30 (fun h5 => ?_)
    refine z_aload_n (x := a) (pc := 31) dX5_add_31 rfl rfl ?_
    refine z_getR cX5 (pc := 32) dX5_add_32 (j := 3) (by decide) rfl w_193 (fun r6 => ?_)
    refine z_iload (x := t1) (pc := 35) dX5_add_35 rfl ?_
    refine z_iload_n (x := x3) (pc := 37) dX5_add_37 rfl rfl ?_
    refine z_astI (pc := 38) dX5_add_38 (fun h7 => ?_)
    refine z_aload_n (x := a) (pc := 39) dX5_add_39 rfl rfl ?_
    refine z_getR cX5 (pc := 40) dX5_add_40 (j := 4) (by decide) rfl w_196 (fun r8 => ?_)
    refine z_iload (x := t1) (pc := 43) dX5_add_43 rfl ?_
    refine z_iload (x := x4) (pc := 45) dX5_add_45 rfl ?_
    refine z_astI (pc := 47) dX5_add_47 (fun h9 => ?_)
    refine z_aload_n (x := a) (pc := 48) dX5_add_48 rfl rfl ?_
    refine z_getR cX5 (pc := 49) dX5_add_49 (j := 5) (by decide) rfl w_199 (fun r10 => ?_)
    refine z_iload (x := t1) (pc := 52) dX5_add_52 rfl ?_
    refine z_iconst (v := 0) (pc := 54) dX5_add_54 (by decide) ?_
    refine z_astI (pc := 55) dX5_add_55 (fun h11 => ?_)
    refine z_aload_n (x := a) (pc := 56) dX5_add_56 rfl rfl ?_
    refine z_getR cX5 (pc := 57) dX5_add_57 (j := 6) (by decide) rfl w_201 (fun r12 => ?_)
    refine z_iload (x := t1) (pc := 60) dX5_add_60 rfl ?_
    refine z_iconst (v := 0) (pc := 62) dX5_add_62 (by decide) ?_
    refine z_astI (pc := 63) dX5_add_63 (fun h13 => ?_)
    refine z_aload_n (x := a) (pc := 64) dX5_add_64 rfl rfl ?_
    refine z_dup (pc := 65) dX5_add_65 rfl ?_
    refine z_getI cX5 (pc := 66) dX5_add_66 (j := 0) (by decide) rfl w_183 (fun t14 => ?_)
    refine z_iconst (v := 1) (pc := 69) dX5_add_69 (by decide) ?_
    refine z_iadd (pc := 70) dX5_add_70 ?_
    refine z_putI cX5 (pc := 71) dX5_add_71 (j := 0) (by decide) rfl rfl w_183 (fun h15 => ?_)
    refine z_iload (x := t1) (pc := 74) dX5_add_74 rfl ?_
    exact z_ireturn (pc := 76) dX5_add_76 rfl rfl rfl
  refine z_iconst (v := (-1)) (pc := 13) dX5_add_13 (by decide) ?_
  exact z_ireturn (pc := 14) dX5_add_14 rfl rfl rfl
set_option maxHeartbeats 2000000 in
set_option maxRecDepth 20000 in
theorem m_X6_clearRow {G : Z_G} (hG : z_GG G) (h : Z_H) (a : Nat) (x1 : Int32) : z_Met G iX6_clearRow [.ref a, .int x1] h ((f_X6_clearRow h a x1).bind fun h1 => some (0, h1)) := by
  refine z_in (la := [some (.ref a), some (.int x1)]) (by decide) rfl rfl rfl ?_
  unfold f_X6_clearRow
  refine z_gg (fun _ => ?_)
  refine z_aload_n (x := a) (pc := 0) dX6_clearRow_0 rfl rfl ?_
  refine z_getR cX6 (pc := 1) dX6_clearRow_1 (j := 1) (by decide) rfl w_336 (fun r1 => ?_)
  refine z_iload_n (x := x1) (pc := 4) dX6_clearRow_4 rfl rfl ?_
  refine z_iconst (v := 0) (pc := 5) dX6_clearRow_5 (by decide) ?_
  refine z_astI (pc := 6) dX6_clearRow_6 (fun h2 => ?_)
  refine z_aload_n (x := a) (pc := 7) dX6_clearRow_7 rfl rfl ?_
  refine z_getR cX6 (pc := 8) dX6_clearRow_8 (j := 2) (by decide) rfl w_338 (fun r3 => ?_)
  refine z_iload_n (x := x1) (pc := 11) dX6_clearRow_11 rfl rfl ?_
  refine z_iconst (v := 0) (pc := 12) dX6_clearRow_12 (by decide) ?_
  refine z_astI (pc := 13) dX6_clearRow_13 (fun h4 => ?_)
  refine z_aload_n (x := a) (pc := 14) dX6_clearRow_14 rfl rfl ?_
  refine z_getR cX6 (pc := 15) dX6_clearRow_15 (j := 3) (by decide) rfl w_340 (fun r5 => ?_)
  refine z_iload_n (x := x1) (pc := 18) dX6_clearRow_18 rfl rfl ?_
  refine z_iconst (v := 0) (pc := 19) dX6_clearRow_19 (by decide) ?_
  refine z_astI (pc := 20) dX6_clearRow_20 (fun h6 => ?_)
  refine z_aload_n (x := a) (pc := 21) dX6_clearRow_21 rfl rfl ?_
  refine z_getR cX6 (pc := 22) dX6_clearRow_22 (j := 4) (by decide) rfl w_342 (fun r7 => ?_)
  refine z_iload_n (x := x1) (pc := 25) dX6_clearRow_25 rfl rfl ?_
  refine z_iconst (v := 0) (pc := 26) dX6_clearRow_26 (by decide) ?_
  refine z_astI (pc := 27) dX6_clearRow_27 (fun h8 => ?_)
  refine z_aload_n (x := a) (pc := 28) dX6_clearRow_28 rfl rfl ?_
  refine z_getR cX6 (pc := 29) dX6_clearRow_29 (j := 5) (by decide) rfl w_344 (fun r9 => ?_)
  refine z_iload_n (x := x1) (pc := 32) dX6_clearRow_32 rfl rfl ?_
  refine z_iconst (v := 0) (pc := 33) dX6_clearRow_33 (by decide) ?_
  refine z_astI (pc := 34) dX6_clearRow_34 (fun h10 => ?_)
  refine z_aload_n (x := a) (pc := 35) dX6_clearRow_35 rfl rfl ?_
  refine z_getR cX6 (pc := 36) dX6_clearRow_36 (j := 6) (by decide) rfl w_347 (fun r11 => ?_)
  refine z_iload_n (x := x1) (pc := 39) dX6_clearRow_39 rfl rfl ?_
  refine z_iconst (v := 0) (pc := 40) dX6_clearRow_40 (by decide) ?_
  refine z_astI (pc := 41) dX6_clearRow_41 (fun h12 => ?_)
  exact z_return (pc := 42) dX6_clearRow_42 rfl rfl
set_option maxHeartbeats 2000000 in
set_option maxRecDepth 20000 in
theorem m_X5_netAmount {G : Z_G} (hG : z_GG G) (h : Z_H) (a : Nat) (x1 : Int32) : z_Met G iX5_netAmount [.ref a, .int x1] h ((f_X5_netAmount h a x1).bind fun r => some (r, h)) := by
  refine z_in (la := [some (.ref a), some (.int x1)]) (by decide) rfl rfl rfl ?_
  unfold f_X5_netAmount
  refine z_gg (fun _ => ?_)
  refine z_aload_n (x := a) (pc := 0) dX5_netAmount_0 rfl rfl ?_
  refine z_getR cX5 (pc := 1) dX5_netAmount_1 (j := 2) (by decide) rfl w_191 (fun r1 => ?_)
  refine z_iload_n (x := x1) (pc := 4) dX5_netAmount_4 rfl rfl ?_
  refine z_aldI (pc := 5) dX5_netAmount_5 (fun t2 => ?_)
  refine z_aload_n (x := a) (pc := 6) dX5_netAmount_6 rfl rfl ?_
  refine z_getR cX5 (pc := 7) dX5_netAmount_7 (j := 5) (by decide) rfl w_199 (fun r3 => ?_)
  refine z_iload_n (x := x1) (pc := 10) dX5_netAmount_10 rfl rfl ?_
  refine z_aldI (pc := 11) dX5_netAmount_11 (fun t4 => ?_)
  refine z_cNP (As := [.int t2, .int t4]) (rest := []) hG.1 (m_X9_net hG h t2 t4) oX9_net (pc := 12) dX5_netAmount_12 rfl (nw_691 hG) rfl rfl rfl (fun t5 => ?_)
  exact z_ireturn (pc := 15) dX5_netAmount_15 rfl rfl rfl
set_option maxHeartbeats 2000000 in
set_option maxRecDepth 20000 in
theorem m_X6_laySales {G : Z_G} (hG : z_GG G) (h : Z_H) (a : Nat) (b1 : Nat) (x2 : Int32) : z_Met G iX6_laySales [.ref a, .ref b1, .int x2] h ((f_X6_laySales h a b1 x2).bind fun h1 => some (0, h1)) := by
  refine z_in (la := [some (.ref a), some (.ref b1), some (.int x2), none, none, none, none]) (by decide) rfl rfl rfl ?_
  unfold f_X6_laySales
  refine z_gg (fun _ => ?_)
  refine z_iconst (v := 0) (pc := 0) dX6_laySales_0 (by decide) ?_
  refine z_istore_n (i := 3) (la' := [some (.ref a), some (.ref b1), some (.int x2), some (.int 0), none, none, none]) (pc := 1) dX6_laySales_1 rfl (by decide) rfl rfl ?_
  refine z_lp (T := Z_H) (s0 := (0, h)) 2 (fun ((v1, h2) : Int32 × Z_H) => [some (.ref a), some (.ref b1), some (.int x2), some (.int v1), none, none, none]) (fun ((v1, h2) : Int32 × Z_H) => h2) (fun _ => 88) (fun (h3 : Z_H) => [none, none, none, none, none, none, none]) (fun (h3 : Z_H) => h3) ?_ ?_
  · rintro h3
    try dsimp only
    exact z_return (pc := 88) dX6_laySales_88 rfl rfl
  intro k' hx1 rec4 hrec4
  rintro ⟨v1, h2⟩
  unfold f_X6_laySales_l1
  try dsimp only
  refine z_iload_n (x := v1) (pc := 2) dX6_laySales_2 rfl rfl ?_
  refine z_aload_n (x := b1) (pc := 3) dX6_laySales_3 rfl rfl ?_
  refine z_getI cX5 (pc := 4) dX6_laySales_4 (j := 0) (by decide) rfl w_185 (fun t5 => ?_)
  refine z_ic_ge (tgt := 88) (pc := 7) dX6_laySales_7 (by decide) (fun _ => ?_) (fun _ => ?_)
  · exact z_wk (hx1 h2) trivial
  refine z_aload_n (x := a) (pc := 10) dX6_laySales_10 rfl rfl ?_
  refine z_getI cX6 (pc := 11) dX6_laySales_11 (j := 8) (by decide) rfl w_352 (fun t6 => ?_)
  refine z_aload_n (x := b1) (pc := 14) dX6_laySales_14 rfl rfl ?_
  refine z_getR cX5 (pc := 15) dX6_laySales_15 (j := 3) (by decide) rfl w_194 (fun r7 => ?_)
  refine z_iload_n (x := v1) (pc := 18) dX6_laySales_18 rfl rfl ?_
  refine z_aldI (pc := 19) dX6_laySales_19 (fun t8 => ?_)
  refine z_isub (pc := 20) dX6_laySales_20 ?_
  refine z_nm (fun v9 => ?_)
  refine z_istore (i := 4) (la' := [some (.ref a), some (.ref b1), some (.int x2), some (.int v1), some (.int v9), none, none]) (pc := 21) dX6_laySales_21 (by decide) rfl rfl ?_
  refine z_iload (x := v9) (pc := 23) dX6_laySales_23 rfl ?_
  refine z_jn 82 (fun (h10 : Z_H) => [some (.ref a), some (.ref b1), some (.int x2), some (.int v1), none, none, none]) (fun (h10 : Z_H) => []) (fun (h10 : Z_H) => h10) ?_ ?_
  · rintro h10
    try dsimp only
    refine z_iinc (i := 3) (x := v1) (v := (v1 + 1)) (la' := [some (.ref a), some (.ref b1), some (.int x2), some (.int (v1 + 1)), none, none, none]) (pc := 82) dX6_laySales_82 rfl rfl (by decide) rfl rfl ?_
    refine z_goto (tgt := 2) (pc := 85) dX6_laySales_85 (by decide) ?_
    exact hrec4 ((v1 + 1), h10)
  intro j11 hj11
  refine z_if_lt (tgt := 82) (pc := 25) dX6_laySales_25 (by decide) (fun _ => ?_) (fun _ => ?_)
  · exact z_wk (hj11 h2) (And.intro rfl (And.intro rfl (And.intro rfl (And.intro rfl trivial))))
  refine z_iload (x := v9) (pc := 28) dX6_laySales_28 rfl ?_
  refine z_iload_n (x := x2) (pc := 30) dX6_laySales_30 rfl rfl ?_
  refine z_ic_ge (tgt := 82) (pc := 31) dX6_laySales_31 (by decide) (fun _ => ?_) (fun _ => ?_)
  · exact z_wk (hj11 h2) (And.intro rfl (And.intro rfl (And.intro rfl (And.intro rfl trivial))))
  refine z_aload_n (x := b1) (pc := 34) dX6_laySales_34 rfl rfl ?_
  refine z_getR cX5 (pc := 35) dX6_laySales_35 (j := 1) (by decide) rfl w_189 (fun r12 => ?_)
  refine z_iload_n (x := v1) (pc := 38) dX6_laySales_38 rfl rfl ?_
  refine z_aldI (pc := 39) dX6_laySales_39 (fun t13 => ?_)
  refine z_istore (i := 5) (la' := [some (.ref a), some (.ref b1), some (.int x2), some (.int v1), some (.int v9), some (.int t13), none]) (pc := 40) dX6_laySales_40 (by decide) rfl rfl ?_
  refine z_aload_n (x := b1) (pc := 42) dX6_laySales_42 rfl rfl ?_
  refine z_iload_n (x := v1) (pc := 43) dX6_laySales_43 rfl rfl ?_
  refine z_cVP (As := [.int v1]) (rest := []) hG.1 (m_X5_netAmount hG h2 b1 v1) (fun _ e => z_gdb e) oX5_netAmount (pc := 44) dX6_laySales_44 rfl w_739 rfl rfl rfl (fun t14 => ?_)
  refine z_istore (i := 6) (la' := [some (.ref a), some (.ref b1), some (.int x2), some (.int v1), some (.int v9), some (.int t13), some (.int t14)]) (pc := 47) dX6_laySales_47 (by decide) rfl rfl ?_
  refine z_aload_n (x := a) (pc := 49) dX6_laySales_49 rfl rfl ?_
  refine z_getR cX6 (pc := 50) dX6_laySales_50 (j := 2) (by decide) rfl w_338 (fun r15 => ?_)
  refine z_iload (x := t13) (pc := 53) dX6_laySales_53 rfl ?_
  refine z_dup2 (pc := 55) dX6_laySales_55 rfl rfl ?_
  refine z_aldI (pc := 56) dX6_laySales_56 (fun t16 => ?_)
  refine z_iload (x := t14) (pc := 57) dX6_laySales_57 rfl ?_
  refine z_iadd (pc := 59) dX6_laySales_59 ?_
  refine z_astI (pc := 60) dX6_laySales_60 (fun h17 => ?_)
  refine z_aload_n (x := a) (pc := 61) dX6_laySales_61 rfl rfl ?_
  refine z_getR cX6 (pc := 62) dX6_laySales_62 (j := 1) (by decide) rfl w_336 (fun r18 => ?_)
  refine z_iload (x := t13) (pc := 65) dX6_laySales_65 rfl ?_
  refine z_dup2 (pc := 67) dX6_laySales_67 rfl rfl ?_
  refine z_aldI (pc := 68) dX6_laySales_68 (fun t19 => ?_)
  refine z_iload (x := v9) (pc := 69) dX6_laySales_69 rfl ?_
  refine z_jn 80 (fun (y20 : Int32) => [some (.ref a), some (.ref b1), some (.int x2), some (.int v1), none, none, none]) (fun (y20 : Int32) => [.int y20, .int t19, .int t13, .ref r18]) (fun (y20 : Int32) => h17) ?_ ?_
  · rintro y20
    try dsimp only
    refine z_iadd (pc := 80) dX6_laySales_80 ?_
    refine z_astI (pc := 81) dX6_laySales_81 (fun h22 => ?_)
    exact hj11 h22
  intro j21 hj21
  refine z_if_ne (tgt := 79) (pc := 71) dX6_laySales_71 (by decide) (fun _ => ?_) (fun _ => ?_)
  · refine z_iconst (v := 0) (pc := 79) dX6_laySales_79 (by decide) ?_
    exact z_wk (hj21 0) (And.intro rfl (And.intro rfl (And.intro rfl (And.intro rfl trivial))))
  refine z_iload (x := t14) (pc := 74) dX6_laySales_74 rfl ?_
  refine z_goto (tgt := 80) (pc := 76) dX6_laySales_76 (by decide) ?_
  exact z_wk (hj21 t14) (And.intro rfl (And.intro rfl (And.intro rfl (And.intro rfl trivial))))
set_option maxHeartbeats 2000000 in
set_option maxRecDepth 20000 in
theorem m_X6_lay {G : Z_G} (hG : z_GG G) (h : Z_H) (a : Nat) (b1 : Nat) (x2 : Int32) : z_Met G iX6_lay [.ref a, .ref b1, .int x2] h ((f_X6_lay h a b1 x2).bind fun h1 => some (0, h1)) := by
  refine z_in (la := [some (.ref a), some (.ref b1), some (.int x2), none, none]) (by decide) rfl rfl rfl ?_
  unfold f_X6_lay
  refine z_gg (fun _ => ?_)
  refine z_aload_n (x := b1) (pc := 0) dX6_lay_0 rfl rfl ?_
  refine z_getR cX7 (pc := 1) dX6_lay_1 (j := 2) (by decide) rfl w_248 (fun r1 => ?_)
  refine z_astore_n (i := 3) (la' := [some (.ref a), some (.ref b1), some (.int x2), some (.ref r1), none]) (pc := 4) dX6_lay_4 rfl (by decide) rfl rfl ?_
  refine z_aload_n (x := a) (pc := 5) dX6_lay_5 rfl rfl ?_
  refine z_iload_n (x := x2) (pc := 6) dX6_lay_6 rfl rfl ?_
  refine z_putI cX6 (pc := 7) dX6_lay_7 (j := 8) (by decide) rfl rfl w_352 (fun h2 => ?_)
  refine z_aload_n (x := a) (pc := 10) dX6_lay_10 rfl rfl ?_
  refine z_aload_n (x := r1) (pc := 11) dX6_lay_11 rfl rfl ?_
  refine z_getI cX0 (pc := 12) dX6_lay_12 (j := 0) (by decide) rfl w_140 (fun t3 => ?_)
  refine z_putI cX6 (pc := 15) dX6_lay_15 (j := 12) (by decide) rfl rfl w_359 (fun h4 => ?_)
  refine z_aload_n (x := a) (pc := 18) dX6_lay_18 rfl rfl ?_
  refine z_iconst (v := 0) (pc := 19) dX6_lay_19 (by decide) ?_
  refine z_putI cX6 (pc := 20) dX6_lay_20 (j := 11) (by decide) rfl rfl w_358 (fun h5 => ?_)
  refine z_aload_n (x := a) (pc := 23) dX6_lay_23 rfl rfl ?_
  refine z_iconst (v := 0) (pc := 24) dX6_lay_24 (by decide) ?_
  refine z_putI cX6 (pc := 25) dX6_lay_25 (j := 10) (by decide) rfl rfl w_356 (fun h6 => ?_)
  refine z_iconst (v := 0) (pc := 28) dX6_lay_28 (by decide) ?_
  refine z_istore (i := 4) (la' := [some (.ref a), some (.ref b1), some (.int x2), some (.ref r1), some (.int 0)]) (pc := 29) dX6_lay_29 (by decide) rfl rfl ?_
  refine z_weak (la' := [some (.ref a), some (.ref b1), none, some (.ref r1), some (.int 0)]) (And.intro rfl (And.intro rfl (And.intro rfl (And.intro rfl trivial)))) ?_
  refine z_lp (T := Z_H) (s0 := (0, h6)) 31 (fun ((v7, h8) : Int32 × Z_H) => [some (.ref a), some (.ref b1), none, some (.ref r1), some (.int v7)]) (fun ((v7, h8) : Int32 × Z_H) => h8) (fun _ => 140) (fun (h9 : Z_H) => [some (.ref a), some (.ref b1), none, none, none]) (fun (h9 : Z_H) => h9) ?_ ?_
  · rintro h9
    try dsimp only
    refine z_aload_n (x := a) (pc := 140) dX6_lay_140 rfl rfl ?_
    refine z_aload_n (x := b1) (pc := 141) dX6_lay_141 rfl rfl ?_
    refine z_getR cX7 (pc := 142) dX6_lay_142 (j := 3) (by decide) rfl w_250 (fun r33 => ?_)
    refine z_aload_n (x := b1) (pc := 145) dX6_lay_145 rfl rfl ?_
    refine z_getR cX7 (pc := 146) dX6_lay_146 (j := 1) (by decide) rfl w_242 (fun r34 => ?_)
    refine z_getI cX3 (pc := 149) dX6_lay_149 (j := 3) (by decide) rfl w_79 (fun t35 => ?_)
    refine z_cVV (As := [.ref r33, .int t35]) (rest := []) hG.1 (m_X6_laySales hG h9 a r33 t35) (fun _ e => z_gdb e) oX6_laySales (pc := 152) dX6_lay_152 rfl w_735 rfl rfl rfl (fun h36 => ?_)
    exact z_return (pc := 155) dX6_lay_155 rfl rfl
  intro k' hx1 rec10 hrec10
  rintro ⟨v7, h8⟩
  unfold f_X6_lay_l1
  try dsimp only
  refine z_iload (x := v7) (pc := 31) dX6_lay_31 rfl ?_
  refine z_aload_n (x := a) (pc := 33) dX6_lay_33 rfl rfl ?_
  refine z_getI cX6 (pc := 34) dX6_lay_34 (j := 12) (by decide) rfl w_359 (fun t11 => ?_)
  refine z_ic_ge (tgt := 140) (pc := 37) dX6_lay_37 (by decide) (fun _ => ?_) (fun _ => ?_)
  · exact z_wk (hx1 h8) (And.intro rfl (And.intro rfl trivial))
  refine z_aload_n (x := a) (pc := 40) dX6_lay_40 rfl rfl ?_
  refine z_iload (x := v7) (pc := 41) dX6_lay_41 rfl ?_
  refine z_cVV (As := [.int v7]) (rest := []) hG.1 (m_X6_clearRow hG h8 a v7) (fun _ e => z_gdb e) oX6_clearRow (pc := 43) dX6_lay_43 rfl w_729 rfl rfl rfl (fun h12 => ?_)
  refine z_aload_n (x := a) (pc := 46) dX6_lay_46 rfl rfl ?_
  refine z_getR cX6 (pc := 47) dX6_lay_47 (j := 0) (by decide) rfl w_333 (fun r13 => ?_)
  refine z_iload (x := v7) (pc := 50) dX6_lay_50 rfl ?_
  refine z_aload_n (x := r1) (pc := 52) dX6_lay_52 rfl rfl ?_
  refine z_iload (x := v7) (pc := 53) dX6_lay_53 rfl ?_
  refine z_aload_n (x := a) (pc := 55) dX6_lay_55 rfl rfl ?_
  refine z_getI cX6 (pc := 56) dX6_lay_56 (j := 8) (by decide) rfl w_352 (fun t14 => ?_)
  refine z_cVP (As := [.int v7, .int t14]) (rest := [.int v7, .ref r13]) hG.1 (m_X0_sponsorAt hG h12 r1 v7 t14) (fun _ e => z_gdb e) oX0_sponsorAt (pc := 59) dX6_lay_59 rfl w_733 rfl rfl rfl (fun t15 => ?_)
  refine z_astI (pc := 62) dX6_lay_62 (fun h16 => ?_)
  refine z_aload_n (x := a) (pc := 63) dX6_lay_63 rfl rfl ?_
  refine z_dup (pc := 64) dX6_lay_64 rfl ?_
  refine z_getI cX6 (pc := 65) dX6_lay_65 (j := 11) (by decide) rfl w_358 (fun t17 => ?_)
  refine z_aload_n (x := r1) (pc := 68) dX6_lay_68 rfl rfl ?_
  refine z_getR cX0 (pc := 69) dX6_lay_69 (j := 1) (by decide) rfl w_144 (fun r18 => ?_)
  refine z_iload (x := v7) (pc := 72) dX6_lay_72 rfl ?_
  refine z_aldI (pc := 74) dX6_lay_74 (fun t19 => ?_)
  refine z_aload_n (x := a) (pc := 75) dX6_lay_75 rfl rfl ?_
  refine z_getI cX6 (pc := 76) dX6_lay_76 (j := 8) (by decide) rfl w_352 (fun t20 => ?_)
  refine z_jn 90 (fun (y21 : Int32) => [some (.ref a), some (.ref b1), none, some (.ref r1), some (.int v7)]) (fun (y21 : Int32) => [.int y21, .int t17, .ref a]) (fun (y21 : Int32) => h16) ?_ ?_
  · rintro y21
    try dsimp only
    refine z_ior (pc := 90) dX6_lay_90 ?_
    refine z_putI cX6 (pc := 91) dX6_lay_91 (j := 11) (by decide) rfl rfl w_358 (fun h23 => ?_)
    refine z_aload_n (x := a) (pc := 94) dX6_lay_94 rfl rfl ?_
    refine z_dup (pc := 95) dX6_lay_95 rfl ?_
    refine z_getI cX6 (pc := 96) dX6_lay_96 (j := 10) (by decide) rfl w_356 (fun t24 => ?_)
    refine z_aload_n (x := r1) (pc := 99) dX6_lay_99 rfl rfl ?_
    refine z_iload (x := v7) (pc := 100) dX6_lay_100 rfl ?_
    refine z_cVP (As := [.int v7]) (rest := [.int t24, .ref a]) hG.1 (m_X0_hasLeft hG h23 r1 v7) (fun _ e => z_gdb e) oX0_hasLeft (pc := 102) dX6_lay_102 rfl w_734 rfl rfl rfl (fun t25 => ?_)
    refine z_jn 130 (fun (y26 : Int32) => [some (.ref a), some (.ref b1), none, some (.ref r1), some (.int v7)]) (fun (y26 : Int32) => [.int y26, .int t24, .ref a]) (fun (y26 : Int32) => h23) ?_ ?_
    · rintro y26
      try dsimp only
      refine z_ior (pc := 130) dX6_lay_130 ?_
      refine z_putI cX6 (pc := 131) dX6_lay_131 (j := 10) (by decide) rfl rfl w_356 (fun h28 => ?_)
      refine z_iinc (i := 4) (x := v7) (v := (v7 + 1)) (la' := [some (.ref a), some (.ref b1), none, some (.ref r1), some (.int (v7 + 1))]) (pc := 134) dX6_lay_134 rfl rfl (by decide) rfl rfl ?_
      refine z_goto (tgt := 31) (pc := 137) dX6_lay_137 (by decide) ?_
      exact hrec10 ((v7 + 1), h28)
    intro j27 hj27
    refine z_jn 129 (fun (_ : Unit) => [some (.ref a), some (.ref b1), none, some (.ref r1), some (.int v7)]) (fun (_ : Unit) => [.int t24, .ref a]) (fun (_ : Unit) => h23) ?_ ?_
    · rintro _
      try dsimp only
      refine z_iconst (v := 0) (pc := 129) dX6_lay_129 (by decide) ?_
      exact hj27 0
    intro j29 hj29
    refine z_if_eq (tgt := 129) (pc := 105) dX6_lay_105 (by decide) (fun _ => ?_) (fun _ => ?_)
    · exact hj29 ()
    refine z_aload_n (x := r1) (pc := 108) dX6_lay_108 rfl rfl ?_
    refine z_getR cX0 (pc := 109) dX6_lay_109 (j := 2) (by decide) rfl w_148 (fun r30 => ?_)
    refine z_iload (x := v7) (pc := 112) dX6_lay_112 rfl ?_
    refine z_aldI (pc := 114) dX6_lay_114 (fun t31 => ?_)
    refine z_aload_n (x := a) (pc := 115) dX6_lay_115 rfl rfl ?_
    refine z_getI cX6 (pc := 116) dX6_lay_116 (j := 8) (by decide) rfl w_352 (fun t32 => ?_)
    refine z_ic_gt (tgt := 129) (pc := 119) dX6_lay_119 (by decide) (fun _ => ?_) (fun _ => ?_)
    · exact hj29 ()
    refine z_iconst (v := 1) (pc := 122) dX6_lay_122 (by decide) ?_
    refine z_iload (x := v7) (pc := 123) dX6_lay_123 rfl ?_
    refine z_ishl (pc := 125) dX6_lay_125 ?_
    refine z_goto (tgt := 130) (pc := 126) dX6_lay_126 (by decide) ?_
    exact hj27 ((1 : Int32) <<< (v7 &&& 31))
  intro j22 hj22
  refine z_ic_gt (tgt := 89) (pc := 79) dX6_lay_79 (by decide) (fun _ => ?_) (fun _ => ?_)
  · refine z_iconst (v := 0) (pc := 89) dX6_lay_89 (by decide) ?_
    exact hj22 0
  refine z_iconst (v := 1) (pc := 82) dX6_lay_82 (by decide) ?_
  refine z_iload (x := v7) (pc := 83) dX6_lay_83 rfl ?_
  refine z_ishl (pc := 85) dX6_lay_85 ?_
  refine z_goto (tgt := 90) (pc := 86) dX6_lay_86 (by decide) ?_
  exact hj22 ((1 : Int32) <<< (v7 &&& 31))
set_option maxHeartbeats 2000000 in
set_option maxRecDepth 20000 in
theorem m_X6_countUpwards {G : Z_G} (hG : z_GG G) (h : Z_H) (a : Nat) (x1 : Int32) : z_Met G iX6_countUpwards [.ref a, .int x1] h ((f_X6_countUpwards h a x1).bind fun h1 => some (0, h1)) := by
  refine z_in (la := [some (.ref a), some (.int x1), none, none]) (by decide) rfl rfl rfl ?_
  unfold f_X6_countUpwards
  refine z_gg (fun _ => ?_)
  refine z_aload_n (x := a) (pc := 0) dX6_countUpwards_0 rfl rfl ?_
  refine z_getR cX6 (pc := 1) dX6_countUpwards_1 (j := 0) (by decide) rfl w_333 (fun r1 => ?_)
  refine z_iload_n (x := x1) (pc := 4) dX6_countUpwards_4 rfl rfl ?_
  refine z_aldI (pc := 5) dX6_countUpwards_5 (fun t2 => ?_)
  refine z_iconst (v := (-1)) (pc := 6) dX6_countUpwards_6 (by decide) ?_
  refine z_jn 27 (fun (h3 : Z_H) => [some (.ref a), some (.int x1), none, none]) (fun (h3 : Z_H) => []) (fun (h3 : Z_H) => h3) ?_ ?_
  · rintro h3
    try dsimp only
    refine z_iload_n (x := x1) (pc := 27) dX6_countUpwards_27 rfl rfl ?_
    refine z_istore_n (i := 2) (la' := [some (.ref a), some (.int x1), some (.int x1), none]) (pc := 28) dX6_countUpwards_28 rfl (by decide) rfl rfl ?_
    refine z_iconst (v := 0) (pc := 29) dX6_countUpwards_29 (by decide) ?_
    refine z_istore_n (i := 3) (la' := [some (.ref a), some (.int x1), some (.int x1), some (.int 0)]) (pc := 30) dX6_countUpwards_30 rfl (by decide) rfl rfl ?_
    refine z_lp (T := Z_H) (s0 := (x1, 0, h3)) 31 (fun ((v5, v6, h7) : Int32 × Int32 × Z_H) => [some (.ref a), some (.int x1), some (.int v5), some (.int v6)]) (fun ((v5, v6, h7) : Int32 × Int32 × Z_H) => h7) (fun _ => 98) (fun (h8 : Z_H) => [none, none, none, none]) (fun (h8 : Z_H) => h8) ?_ ?_
    · rintro h8
      try dsimp only
      exact z_return (pc := 98) dX6_countUpwards_98 rfl rfl
    intro k' hx1 rec9 hrec9
    rintro ⟨v5, v6, h7⟩
    unfold f_X6_countUpwards_l1
    try dsimp only
    refine z_iload_n (x := v6) (pc := 31) dX6_countUpwards_31 rfl rfl ?_
    refine z_bipush (v := 10) (pc := 32) dX6_countUpwards_32 (by decide) ?_
    refine z_ic_gt (tgt := 98) (pc := 34) dX6_countUpwards_34 (by decide) (fun _ => ?_) (fun _ => ?_)
    · exact z_wk (hx1 h7) trivial
    refine z_iload_n (x := v5) (pc := 37) dX6_countUpwards_37 rfl rfl ?_
    refine z_iconst (v := (-1)) (pc := 38) dX6_countUpwards_38 (by decide) ?_
    refine z_ic_eq (tgt := 98) (pc := 39) dX6_countUpwards_39 (by decide) (fun _ => ?_) (fun _ => ?_)
    · exact z_wk (hx1 h7) trivial
    refine z_aload_n (x := a) (pc := 42) dX6_countUpwards_42 rfl rfl ?_
    refine z_getR cX6 (pc := 43) dX6_countUpwards_43 (j := 4) (by decide) rfl w_342 (fun r10 => ?_)
    refine z_iload_n (x := v5) (pc := 46) dX6_countUpwards_46 rfl rfl ?_
    refine z_dup2 (pc := 47) dX6_countUpwards_47 rfl rfl ?_
    refine z_aldI (pc := 48) dX6_countUpwards_48 (fun t11 => ?_)
    refine z_iconst (v := 1) (pc := 49) dX6_countUpwards_49 (by decide) ?_
    refine z_iload_n (x := x1) (pc := 50) dX6_countUpwards_50 rfl rfl ?_
    refine z_ishl (pc := 51) dX6_countUpwards_51 ?_
    refine z_ior (pc := 52) dX6_countUpwards_52 ?_
    refine z_astI (pc := 53) dX6_countUpwards_53 (fun h12 => ?_)
    refine z_aload_n (x := a) (pc := 54) dX6_countUpwards_54 rfl rfl ?_
    refine z_getR cX6 (pc := 55) dX6_countUpwards_55 (j := 3) (by decide) rfl w_340 (fun r13 => ?_)
    refine z_iload_n (x := v5) (pc := 58) dX6_countUpwards_58 rfl rfl ?_
    refine z_dup2 (pc := 59) dX6_countUpwards_59 rfl rfl ?_
    refine z_aldI (pc := 60) dX6_countUpwards_60 (fun t14 => ?_)
    refine z_aload_n (x := a) (pc := 61) dX6_countUpwards_61 rfl rfl ?_
    refine z_getR cX6 (pc := 62) dX6_countUpwards_62 (j := 2) (by decide) rfl w_338 (fun r15 => ?_)
    refine z_iload_n (x := x1) (pc := 65) dX6_countUpwards_65 rfl rfl ?_
    refine z_aldI (pc := 66) dX6_countUpwards_66 (fun t16 => ?_)
    refine z_iadd (pc := 67) dX6_countUpwards_67 ?_
    refine z_astI (pc := 68) dX6_countUpwards_68 (fun h17 => ?_)
    refine z_aload_n (x := a) (pc := 69) dX6_countUpwards_69 rfl rfl ?_
    refine z_getR cX6 (pc := 70) dX6_countUpwards_70 (j := 6) (by decide) rfl w_347 (fun r18 => ?_)
    refine z_iload_n (x := v5) (pc := 73) dX6_countUpwards_73 rfl rfl ?_
    refine z_aload_n (x := a) (pc := 74) dX6_countUpwards_74 rfl rfl ?_
    refine z_getR cX6 (pc := 75) dX6_countUpwards_75 (j := 6) (by decide) rfl w_347 (fun r19 => ?_)
    refine z_iload_n (x := v5) (pc := 78) dX6_countUpwards_78 rfl rfl ?_
    refine z_aldI (pc := 79) dX6_countUpwards_79 (fun t20 => ?_)
    refine z_iload_n (x := v6) (pc := 80) dX6_countUpwards_80 rfl rfl ?_
    refine z_mmax (pc := 81) dX6_countUpwards_81 w_751 w_702 w_17 w_703 (by decide) (Nat.le_of_ble_eq_true rfl) ?_
    refine z_astI (pc := 84) dX6_countUpwards_84 (fun h21 => ?_)
    refine z_aload_n (x := a) (pc := 85) dX6_countUpwards_85 rfl rfl ?_
    refine z_getR cX6 (pc := 86) dX6_countUpwards_86 (j := 0) (by decide) rfl w_333 (fun r22 => ?_)
    refine z_iload_n (x := v5) (pc := 89) dX6_countUpwards_89 rfl rfl ?_
    refine z_aldI (pc := 90) dX6_countUpwards_90 (fun t23 => ?_)
    refine z_istore_n (i := 2) (la' := [some (.ref a), some (.int x1), some (.int t23), some (.int v6)]) (pc := 91) dX6_countUpwards_91 rfl (by decide) rfl rfl ?_
    refine z_iinc (i := 3) (x := v6) (v := (v6 + 1)) (la' := [some (.ref a), some (.int x1), some (.int t23), some (.int (v6 + 1))]) (pc := 92) dX6_countUpwards_92 rfl rfl (by decide) rfl rfl ?_
    refine z_goto (tgt := 31) (pc := 95) dX6_countUpwards_95 (by decide) ?_
    exact hrec9 (t23, (v6 + 1), h21)
  intro j4 hj4
  refine z_ic_eq (tgt := 27) (pc := 7) dX6_countUpwards_7 (by decide) (fun _ => ?_) (fun _ => ?_)
  · exact hj4 h
  refine z_aload_n (x := a) (pc := 10) dX6_countUpwards_10 rfl rfl ?_
  refine z_getR cX6 (pc := 11) dX6_countUpwards_11 (j := 5) (by decide) rfl w_344 (fun r24 => ?_)
  refine z_aload_n (x := a) (pc := 14) dX6_countUpwards_14 rfl rfl ?_
  refine z_getR cX6 (pc := 15) dX6_countUpwards_15 (j := 0) (by decide) rfl w_333 (fun r25 => ?_)
  refine z_iload_n (x := x1) (pc := 18) dX6_countUpwards_18 rfl rfl ?_
  refine z_aldI (pc := 19) dX6_countUpwards_19 (fun t26 => ?_)
  refine z_dup2 (pc := 20) dX6_countUpwards_20 rfl rfl ?_
  refine z_aldI (pc := 21) dX6_countUpwards_21 (fun t27 => ?_)
  refine z_iconst (v := 1) (pc := 22) dX6_countUpwards_22 (by decide) ?_
  refine z_iload_n (x := x1) (pc := 23) dX6_countUpwards_23 rfl rfl ?_
  refine z_ishl (pc := 24) dX6_countUpwards_24 ?_
  refine z_ior (pc := 25) dX6_countUpwards_25 ?_
  refine z_astI (pc := 26) dX6_countUpwards_26 (fun h28 => ?_)
  exact hj4 h28
set_option maxHeartbeats 2000000 in
set_option maxRecDepth 20000 in
theorem m_J6_bitCount_0f7a4 {G : Z_G} (hG : z_GG G) (h : Z_H) (x0 : Int32) : z_Met G iJ6_bitCount_0f7a4 [.int x0] h ((f_J6_bitCount_0f7a4 h x0).bind fun r => some (r, h)) := by
  refine z_in (la := [some (.int x0)]) (by decide) rfl rfl rfl ?_
  unfold f_J6_bitCount_0f7a4
  refine z_iload_n (x := x0) (pc := 0) dJ6_bitCount_0f7a4_0 rfl rfl ?_
  refine z_iload_n (x := x0) (pc := 1) dJ6_bitCount_0f7a4_1 rfl rfl ?_
  refine z_iconst (v := 1) (pc := 2) dJ6_bitCount_0f7a4_2 (by decide) ?_
  refine z_iushr (pc := 3) dJ6_bitCount_0f7a4_3 ?_
  refine z_ldcw (v := 1431655765) (pc := 4) dJ6_bitCount_0f7a4_4 w_759 ?_
  refine z_iand (pc := 7) dJ6_bitCount_0f7a4_7 ?_
  refine z_isub (pc := 8) dJ6_bitCount_0f7a4_8 ?_
  refine z_nm (fun v1 => ?_)
  refine z_istore_n (i := 0) (la' := [some (.int v1)]) (pc := 9) dJ6_bitCount_0f7a4_9 rfl (by decide) rfl rfl ?_
  refine z_iload_n (x := v1) (pc := 10) dJ6_bitCount_0f7a4_10 rfl rfl ?_
  refine z_ldcw (v := 858993459) (pc := 11) dJ6_bitCount_0f7a4_11 w_760 ?_
  refine z_iand (pc := 14) dJ6_bitCount_0f7a4_14 ?_
  refine z_iload_n (x := v1) (pc := 15) dJ6_bitCount_0f7a4_15 rfl rfl ?_
  refine z_iconst (v := 2) (pc := 16) dJ6_bitCount_0f7a4_16 (by decide) ?_
  refine z_iushr (pc := 17) dJ6_bitCount_0f7a4_17 ?_
  refine z_ldcw (v := 858993459) (pc := 18) dJ6_bitCount_0f7a4_18 w_760 ?_
  refine z_iand (pc := 21) dJ6_bitCount_0f7a4_21 ?_
  refine z_iadd (pc := 22) dJ6_bitCount_0f7a4_22 ?_
  refine z_nm (fun v2 => ?_)
  refine z_istore_n (i := 0) (la' := [some (.int v2)]) (pc := 23) dJ6_bitCount_0f7a4_23 rfl (by decide) rfl rfl ?_
  refine z_iload_n (x := v2) (pc := 24) dJ6_bitCount_0f7a4_24 rfl rfl ?_
  refine z_iload_n (x := v2) (pc := 25) dJ6_bitCount_0f7a4_25 rfl rfl ?_
  refine z_iconst (v := 4) (pc := 26) dJ6_bitCount_0f7a4_26 (by decide) ?_
  refine z_iushr (pc := 27) dJ6_bitCount_0f7a4_27 ?_
  refine z_iadd (pc := 28) dJ6_bitCount_0f7a4_28 ?_
  refine z_ldcw (v := 252645135) (pc := 29) dJ6_bitCount_0f7a4_29 w_761 ?_
  refine z_iand (pc := 32) dJ6_bitCount_0f7a4_32 ?_
  refine z_nm (fun v3 => ?_)
  refine z_istore_n (i := 0) (la' := [some (.int v3)]) (pc := 33) dJ6_bitCount_0f7a4_33 rfl (by decide) rfl rfl ?_
  refine z_iload_n (x := v3) (pc := 34) dJ6_bitCount_0f7a4_34 rfl rfl ?_
  refine z_iload_n (x := v3) (pc := 35) dJ6_bitCount_0f7a4_35 rfl rfl ?_
  refine z_bipush (v := 8) (pc := 36) dJ6_bitCount_0f7a4_36 (by decide) ?_
  refine z_iushr (pc := 38) dJ6_bitCount_0f7a4_38 ?_
  refine z_iadd (pc := 39) dJ6_bitCount_0f7a4_39 ?_
  refine z_nm (fun v4 => ?_)
  refine z_istore_n (i := 0) (la' := [some (.int v4)]) (pc := 40) dJ6_bitCount_0f7a4_40 rfl (by decide) rfl rfl ?_
  refine z_iload_n (x := v4) (pc := 41) dJ6_bitCount_0f7a4_41 rfl rfl ?_
  refine z_iload_n (x := v4) (pc := 42) dJ6_bitCount_0f7a4_42 rfl rfl ?_
  refine z_bipush (v := 16) (pc := 43) dJ6_bitCount_0f7a4_43 (by decide) ?_
  refine z_iushr (pc := 45) dJ6_bitCount_0f7a4_45 ?_
  refine z_iadd (pc := 46) dJ6_bitCount_0f7a4_46 ?_
  refine z_nm (fun v5 => ?_)
  refine z_istore_n (i := 0) (la' := [some (.int v5)]) (pc := 47) dJ6_bitCount_0f7a4_47 rfl (by decide) rfl rfl ?_
  refine z_iload_n (x := v5) (pc := 48) dJ6_bitCount_0f7a4_48 rfl rfl ?_
  refine z_bipush (v := 63) (pc := 49) dJ6_bitCount_0f7a4_49 (by decide) ?_
  refine z_iand (pc := 51) dJ6_bitCount_0f7a4_51 ?_
  exact z_ireturn (pc := 52) dJ6_bitCount_0f7a4_52 rfl rfl rfl
set_option maxHeartbeats 2000000 in
set_option maxRecDepth 20000 in
theorem m_X6_activeLegs {G : Z_G} (hG : z_GG G) (h : Z_H) (a : Nat) (x1 : Int32) : z_Met G iX6_activeLegs [.ref a, .int x1] h ((f_X6_activeLegs h a x1).bind fun r => some (r, h)) := by
  refine z_in (la := [some (.ref a), some (.int x1)]) (by decide) rfl rfl rfl ?_
  unfold f_X6_activeLegs
  refine z_gg (fun _ => ?_)
  refine z_aload_n (x := a) (pc := 0) dX6_activeLegs_0 rfl rfl ?_
  refine z_getR cX6 (pc := 1) dX6_activeLegs_1 (j := 5) (by decide) rfl w_344 (fun r1 => ?_)
  refine z_iload_n (x := x1) (pc := 4) dX6_activeLegs_4 rfl rfl ?_
  refine z_aldI (pc := 5) dX6_activeLegs_5 (fun t2 => ?_)
  refine z_aload_n (x := a) (pc := 6) dX6_activeLegs_6 rfl rfl ?_
  refine z_getI cX6 (pc := 7) dX6_activeLegs_7 (j := 9) (by decide) rfl w_354 (fun t3 => ?_)
  refine z_iand (pc := 10) dX6_activeLegs_10 ?_
  refine z_cSP (As := [.int (t2 &&& t3)]) (rest := []) hG.1 (m_J6_bitCount_0f7a4 hG h (t2 &&& t3)) oJ6_bitCount_0f7a4 (pc := 11) dX6_activeLegs_11 rfl w_756 rfl rfl rfl (fun t4 => ?_)
  exact z_ireturn (pc := 14) dX6_activeLegs_14 rfl rfl rfl
set_option maxHeartbeats 2000000 in
set_option maxRecDepth 20000 in
theorem m_X3_rankFor {G : Z_G} (hG : z_GG G) (h : Z_H) (a : Nat) (x1 : Int32) (x2 : Int32) : z_Met G iX3_rankFor [.ref a, .int x1, .int x2] h ((f_X3_rankFor h a x1 x2).bind fun r => some (r, h)) := by
  refine z_in (la := [some (.ref a), some (.int x1), some (.int x2), none]) (by decide) rfl rfl rfl ?_
  unfold f_X3_rankFor
  refine z_gg (fun _ => ?_)
  refine z_iconst (v := 3) (pc := 0) dX3_rankFor_0 (by decide) ?_
  refine z_istore_n (i := 3) (la' := [some (.ref a), some (.int x1), some (.int x2), some (.int 3)]) (pc := 1) dX3_rankFor_1 rfl (by decide) rfl rfl ?_
  refine z_lp (T := (Int32) ⊕ (Unit)) (s0 := 3) 2 (fun (v1 : Int32) => [some (.ref a), some (.int x1), some (.int x2), some (.int v1)]) (fun (v1 : Int32) => h) (fun t => match t with | (.inl v2) => 27 | (.inr _) => 35) (fun t => match t with | (.inl v2) => [none, none, none, some (.int v2)] | (.inr _) => [none, none, none, none]) (fun t => match t with | (.inl v2) => h | (.inr _) => h) ?_ ?_
  · rintro (v2 | _)
    · try dsimp only
      refine z_iload_n (x := v2) (pc := 27) dX3_rankFor_27 rfl rfl ?_
      exact z_ireturn (pc := 28) dX3_rankFor_28 rfl rfl rfl
    · try dsimp only
      refine z_iconst (v := 0) (pc := 35) dX3_rankFor_35 (by decide) ?_
      exact z_ireturn (pc := 36) dX3_rankFor_36 rfl rfl rfl
  intro k' hx1 rec3 hrec3
  rintro v1
  unfold f_X3_rankFor_l1
  try dsimp only [lt]
  refine z_iload_n (x := v1) (pc := 2) dX3_rankFor_2 rfl rfl ?_
  refine z_iconst (v := 1) (pc := 3) dX3_rankFor_3 (by decide) ?_
  refine z_ic_lt (tgt := 35) (pc := 4) dX3_rankFor_4 (by decide) (fun _ => ?_) (fun _ => ?_)
  · exact z_wk (hx1 (.inr ())) trivial
  refine z_iload_n (x := x1) (pc := 7) dX3_rankFor_7 rfl rfl ?_
  refine z_aload_n (x := a) (pc := 8) dX3_rankFor_8 rfl rfl ?_
  refine z_getR cX3 (pc := 9) dX3_rankFor_9 (j := 4) (by decide) rfl w_81 (fun r4 => ?_)
  refine z_iload_n (x := v1) (pc := 12) dX3_rankFor_12 rfl rfl ?_
  refine z_aldI (pc := 13) dX3_rankFor_13 (fun t5 => ?_)
  refine z_jn 29 (fun (_ : Unit) => [some (.ref a), some (.int x1), some (.int x2), some (.int v1)]) (fun (_ : Unit) => []) (fun (_ : Unit) => h) ?_ ?_
  · rintro _
    try dsimp only
    refine z_iinc (i := 3) (x := v1) (v := (v1 + (-1))) (la' := [some (.ref a), some (.int x1), some (.int x2), some (.int (v1 + (-1)))]) (pc := 29) dX3_rankFor_29 rfl rfl (by decide) rfl rfl ?_
    refine z_goto (tgt := 2) (pc := 32) dX3_rankFor_32 (by decide) ?_
    exact hrec3 (v1 + (-1))
  intro j6 hj6
  refine z_ic_lt (tgt := 29) (pc := 14) dX3_rankFor_14 (by decide) (fun _ => ?_) (fun _ => ?_)
  · exact hj6 ()
  refine z_iload_n (x := x2) (pc := 17) dX3_rankFor_17 rfl rfl ?_
  refine z_aload_n (x := a) (pc := 18) dX3_rankFor_18 rfl rfl ?_
  refine z_getR cX3 (pc := 19) dX3_rankFor_19 (j := 5) (by decide) rfl w_84 (fun r7 => ?_)
  refine z_iload_n (x := v1) (pc := 22) dX3_rankFor_22 rfl rfl ?_
  refine z_aldI (pc := 23) dX3_rankFor_23 (fun t8 => ?_)
  refine z_ic_lt (tgt := 29) (pc := 24) dX3_rankFor_24 (by decide) (fun _ => ?_) (fun _ => ?_)
  · exact hj6 ()
  exact z_wk (hx1 (.inl v1)) (And.intro rfl trivial)
set_option maxHeartbeats 2000000 in
set_option maxRecDepth 20000 in
theorem m_X6_settle {G : Z_G} (hG : z_GG G) (h : Z_H) (a : Nat) (b1 : Nat) : z_Met G iX6_settle [.ref a, .ref b1] h ((f_X6_settle h a b1).bind fun h1 => some (0, h1)) := by
  refine z_in (la := [some (.ref a), some (.ref b1), none, none]) (by decide) rfl rfl rfl ?_
  unfold f_X6_settle
  refine z_gg (fun _ => ?_)
  refine z_aload_n (x := a) (pc := 0) dX6_settle_0 rfl rfl ?_
  refine z_iconst (v := 0) (pc := 1) dX6_settle_1 (by decide) ?_
  refine z_putI cX6 (pc := 2) dX6_settle_2 (j := 9) (by decide) rfl rfl w_354 (fun h1 => ?_)
  refine z_iconst (v := 0) (pc := 5) dX6_settle_5 (by decide) ?_
  refine z_istore_n (i := 2) (la' := [some (.ref a), some (.ref b1), some (.int 0), none]) (pc := 6) dX6_settle_6 rfl (by decide) rfl rfl ?_
  refine z_lp (T := Z_H) (s0 := (0, h1)) 7 (fun ((v2, h3) : Int32 × Z_H) => [some (.ref a), some (.ref b1), some (.int v2), none]) (fun ((v2, h3) : Int32 × Z_H) => h3) (fun _ => 88) (fun (h4 : Z_H) => [some (.ref a), some (.ref b1), none, none]) (fun (h4 : Z_H) => h4) ?_ ?_
  · rintro h4
    try dsimp only
    refine z_iconst (v := 0) (pc := 88) dX6_settle_88 (by decide) ?_
    refine z_istore_n (i := 2) (la' := [some (.ref a), some (.ref b1), some (.int 0), none]) (pc := 89) dX6_settle_89 rfl (by decide) rfl rfl ?_
    refine z_lp (T := Z_H) (s0 := (0, h4)) 90 (fun ((v22, h23) : Int32 × Z_H) => [some (.ref a), some (.ref b1), some (.int v22), none]) (fun ((v22, h23) : Int32 × Z_H) => h23) (fun _ => 125) (fun (h24 : Z_H) => [none, none, none, none]) (fun (h24 : Z_H) => h24) ?_ ?_
    · rintro h24
      try dsimp only
      exact z_return (pc := 125) dX6_settle_125 rfl rfl
    intro k' hx2 rec25 hrec25
    rintro ⟨v22, h23⟩
    unfold f_X6_settle_l2
    try dsimp only
    refine z_iload_n (x := v22) (pc := 90) dX6_settle_90 rfl rfl ?_
    refine z_aload_n (x := a) (pc := 91) dX6_settle_91 rfl rfl ?_
    refine z_getI cX6 (pc := 92) dX6_settle_92 (j := 12) (by decide) rfl w_359 (fun t26 => ?_)
    refine z_ic_ge (tgt := 125) (pc := 95) dX6_settle_95 (by decide) (fun _ => ?_) (fun _ => ?_)
    · exact z_wk (hx2 h23) trivial
    refine z_aload_n (x := a) (pc := 98) dX6_settle_98 rfl rfl ?_
    refine z_getR cX6 (pc := 99) dX6_settle_99 (j := 7) (by decide) rfl w_349 (fun r27 => ?_)
    refine z_iload_n (x := v22) (pc := 102) dX6_settle_102 rfl rfl ?_
    refine z_aload_n (x := b1) (pc := 103) dX6_settle_103 rfl rfl ?_
    refine z_aload_n (x := a) (pc := 104) dX6_settle_104 rfl rfl ?_
    refine z_getR cX6 (pc := 105) dX6_settle_105 (j := 3) (by decide) rfl w_340 (fun r28 => ?_)
    refine z_iload_n (x := v22) (pc := 108) dX6_settle_108 rfl rfl ?_
    refine z_aldI (pc := 109) dX6_settle_109 (fun t29 => ?_)
    refine z_aload_n (x := a) (pc := 110) dX6_settle_110 rfl rfl ?_
    refine z_iload_n (x := v22) (pc := 111) dX6_settle_111 rfl rfl ?_
    refine z_cVP (As := [.int v22]) (rest := [.int t29, .ref b1, .int v22, .ref r27]) hG.1 (m_X6_activeLegs hG h23 a v22) (fun _ e => z_gdb e) oX6_activeLegs (pc := 112) dX6_settle_112 rfl w_752 rfl rfl rfl (fun t30 => ?_)
    refine z_cVP (As := [.int t29, .int t30]) (rest := [.int v22, .ref r27]) hG.1 (m_X3_rankFor hG h23 b1 t29 t30) (fun _ e => z_gdb e) oX3_rankFor (pc := 115) dX6_settle_115 rfl w_762 rfl rfl rfl (fun t31 => ?_)
    refine z_astI (pc := 118) dX6_settle_118 (fun h32 => ?_)
    refine z_iinc (i := 2) (x := v22) (v := (v22 + 1)) (la' := [some (.ref a), some (.ref b1), some (.int (v22 + 1)), none]) (pc := 119) dX6_settle_119 rfl rfl (by decide) rfl rfl ?_
    refine z_goto (tgt := 90) (pc := 122) dX6_settle_122 (by decide) ?_
    exact hrec25 ((v22 + 1), h32)
  intro k' hx1 rec5 hrec5
  rintro ⟨v2, h3⟩
  unfold f_X6_settle_l1
  try dsimp only
  refine z_iload_n (x := v2) (pc := 7) dX6_settle_7 rfl rfl ?_
  refine z_aload_n (x := a) (pc := 8) dX6_settle_8 rfl rfl ?_
  refine z_getI cX6 (pc := 9) dX6_settle_9 (j := 12) (by decide) rfl w_359 (fun t6 => ?_)
  refine z_ic_ge (tgt := 88) (pc := 12) dX6_settle_12 (by decide) (fun _ => ?_) (fun _ => ?_)
  · exact z_wk (hx1 h3) (And.intro rfl (And.intro rfl trivial))
  refine z_aload_n (x := a) (pc := 15) dX6_settle_15 rfl rfl ?_
  refine z_getI cX6 (pc := 16) dX6_settle_16 (j := 11) (by decide) rfl w_358 (fun t7 => ?_)
  refine z_iload_n (x := v2) (pc := 19) dX6_settle_19 rfl rfl ?_
  refine z_ishr (pc := 20) dX6_settle_20 ?_
  refine z_iconst (v := 1) (pc := 21) dX6_settle_21 (by decide) ?_
  refine z_iand (pc := 22) dX6_settle_22 ?_
  refine z_iconst (v := 1) (pc := 23) dX6_settle_23 (by decide) ?_
  refine z_jn 82 (fun (h8 : Z_H) => [some (.ref a), some (.ref b1), some (.int v2), none]) (fun (h8 : Z_H) => []) (fun (h8 : Z_H) => h8) ?_ ?_
  · rintro h8
    try dsimp only
    refine z_iinc (i := 2) (x := v2) (v := (v2 + 1)) (la' := [some (.ref a), some (.ref b1), some (.int (v2 + 1)), none]) (pc := 82) dX6_settle_82 rfl rfl (by decide) rfl rfl ?_
    refine z_goto (tgt := 7) (pc := 85) dX6_settle_85 (by decide) ?_
    exact hrec5 ((v2 + 1), h8)
  intro j9 hj9
  refine z_ic_ne (tgt := 82) (pc := 24) dX6_settle_24 (by decide) (fun _ => ?_) (fun _ => ?_)
  · exact hj9 h3
  refine z_aload_n (x := a) (pc := 27) dX6_settle_27 rfl rfl ?_
  refine z_iload_n (x := v2) (pc := 28) dX6_settle_28 rfl rfl ?_
  refine z_cVV (As := [.int v2]) (rest := []) hG.1 (m_X6_countUpwards hG h3 a v2) (fun _ e => z_gdb e) oX6_countUpwards (pc := 29) dX6_settle_29 rfl w_747 rfl rfl rfl (fun h10 => ?_)
  refine z_aload_n (x := a) (pc := 32) dX6_settle_32 rfl rfl ?_
  refine z_getI cX6 (pc := 33) dX6_settle_33 (j := 10) (by decide) rfl w_356 (fun t11 => ?_)
  refine z_iload_n (x := v2) (pc := 36) dX6_settle_36 rfl rfl ?_
  refine z_ishr (pc := 37) dX6_settle_37 ?_
  refine z_iconst (v := 1) (pc := 38) dX6_settle_38 (by decide) ?_
  refine z_iand (pc := 39) dX6_settle_39 ?_
  refine z_jn 48 (fun (y12 : Int32) => [some (.ref a), some (.ref b1), some (.int v2), none]) (fun (y12 : Int32) => [.int y12]) (fun (y12 : Int32) => h10) ?_ ?_
  · rintro y12
    try dsimp only
    refine z_istore_n (i := 3) (la' := [some (.ref a), some (.ref b1), some (.int v2), some (.int y12)]) (pc := 48) dX6_settle_48 rfl (by decide) rfl rfl ?_
    refine z_aload_n (x := a) (pc := 49) dX6_settle_49 rfl rfl ?_
    refine z_dup (pc := 50) dX6_settle_50 rfl ?_
    refine z_getI cX6 (pc := 51) dX6_settle_51 (j := 9) (by decide) rfl w_354 (fun t14 => ?_)
    refine z_iload_n (x := y12) (pc := 54) dX6_settle_54 rfl rfl ?_
    refine z_jn 78 (fun (y15 : Int32) => [some (.ref a), some (.ref b1), some (.int v2), none]) (fun (y15 : Int32) => [.int y15, .int t14, .ref a]) (fun (y15 : Int32) => h10) ?_ ?_
    · rintro y15
      try dsimp only
      refine z_ior (pc := 78) dX6_settle_78 ?_
      refine z_putI cX6 (pc := 79) dX6_settle_79 (j := 9) (by decide) rfl rfl w_354 (fun h17 => ?_)
      exact hj9 h17
    intro j16 hj16
    refine z_jn 77 (fun (_ : Unit) => [some (.ref a), some (.ref b1), some (.int v2), none]) (fun (_ : Unit) => [.int t14, .ref a]) (fun (_ : Unit) => h10) ?_ ?_
    · rintro _
      try dsimp only
      refine z_iconst (v := 0) (pc := 77) dX6_settle_77 (by decide) ?_
      exact hj16 0
    intro j18 hj18
    refine z_if_eq (tgt := 77) (pc := 55) dX6_settle_55 (by decide) (fun _ => ?_) (fun _ => ?_)
    · exact z_wk (hj18 ()) (And.intro rfl (And.intro rfl (And.intro rfl trivial)))
    refine z_aload_n (x := a) (pc := 58) dX6_settle_58 rfl rfl ?_
    refine z_getR cX6 (pc := 59) dX6_settle_59 (j := 1) (by decide) rfl w_336 (fun r19 => ?_)
    refine z_iload_n (x := v2) (pc := 62) dX6_settle_62 rfl rfl ?_
    refine z_aldI (pc := 63) dX6_settle_63 (fun t20 => ?_)
    refine z_aload_n (x := b1) (pc := 64) dX6_settle_64 rfl rfl ?_
    refine z_getI cX3 (pc := 65) dX6_settle_65 (j := 0) (by decide) rfl w_67 (fun t21 => ?_)
    refine z_ic_lt (tgt := 77) (pc := 68) dX6_settle_68 (by decide) (fun _ => ?_) (fun _ => ?_)
    · exact z_wk (hj18 ()) (And.intro rfl (And.intro rfl (And.intro rfl trivial)))
    refine z_iconst (v := 1) (pc := 71) dX6_settle_71 (by decide) ?_
    refine z_iload_n (x := v2) (pc := 72) dX6_settle_72 rfl rfl ?_
    refine z_ishl (pc := 73) dX6_settle_73 ?_
    refine z_goto (tgt := 78) (pc := 74) dX6_settle_74 (by decide) ?_
    exact z_wk (hj16 ((1 : Int32) <<< (v2 &&& 31))) (And.intro rfl (And.intro rfl (And.intro rfl trivial)))
  intro j13 hj13
  refine z_if_ne (tgt := 47) (pc := 40) dX6_settle_40 (by decide) (fun _ => ?_) (fun _ => ?_)
  · refine z_iconst (v := 0) (pc := 47) dX6_settle_47 (by decide) ?_
    exact hj13 0
  refine z_iconst (v := 1) (pc := 43) dX6_settle_43 (by decide) ?_
  refine z_goto (tgt := 48) (pc := 44) dX6_settle_44 (by decide) ?_
  exact hj13 1
set_option maxHeartbeats 2000000 in
set_option maxRecDepth 20000 in
theorem m_X6_look {G : Z_G} (hG : z_GG G) (h : Z_H) (a : Nat) (b1 : Nat) (x2 : Int32) : z_Met G iX6_look [.ref a, .ref b1, .int x2] h ((f_X6_look h a b1 x2).bind fun h1 => some (0, h1)) := by
  refine z_in (la := [some (.ref a), some (.ref b1), some (.int x2)]) (by decide) rfl rfl rfl ?_
  unfold f_X6_look
  refine z_gg (fun _ => ?_)
  refine z_aload_n (x := a) (pc := 0) dX6_look_0 rfl rfl ?_
  refine z_aload_n (x := b1) (pc := 1) dX6_look_1 rfl rfl ?_
  refine z_iload_n (x := x2) (pc := 2) dX6_look_2 rfl rfl ?_
  refine z_cVV (As := [.ref b1, .int x2]) (rest := []) hG.1 (m_X6_lay hG h a b1 x2) (fun _ e => z_gdb e) oX6_lay (pc := 3) dX6_look_3 rfl w_725 rfl rfl rfl (fun h1 => ?_)
  refine z_aload_n (x := a) (pc := 6) dX6_look_6 rfl rfl ?_
  refine z_aload_n (x := b1) (pc := 7) dX6_look_7 rfl rfl ?_
  refine z_getR cX7 (pc := 8) dX6_look_8 (j := 1) (by decide) rfl w_242 (fun r2 => ?_)
  refine z_cVV (As := [.ref r2]) (rest := []) hG.1 (m_X6_settle hG h1 a r2) (fun _ e => z_gdb e) oX6_settle (pc := 11) dX6_look_11 rfl w_743 rfl rfl rfl (fun h3 => ?_)
  exact z_return (pc := 14) dX6_look_14 rfl rfl
set_option maxHeartbeats 2000000 in
set_option maxRecDepth 20000 in
theorem m_X6_isActive {G : Z_G} (hG : z_GG G) (h : Z_H) (a : Nat) (x1 : Int32) : z_Met G iX6_isActive [.ref a, .int x1] h ((f_X6_isActive h a x1).bind fun r => some (r, h)) := by
  refine z_in (la := [some (.ref a), some (.int x1)]) (by decide) rfl rfl rfl ?_
  unfold f_X6_isActive
  refine z_gg (fun _ => ?_)
  refine z_aload_n (x := a) (pc := 0) dX6_isActive_0 rfl rfl ?_
  refine z_getI cX6 (pc := 1) dX6_isActive_1 (j := 9) (by decide) rfl w_354 (fun t1 => ?_)
  refine z_iload_n (x := x1) (pc := 4) dX6_isActive_4 rfl rfl ?_
  refine z_ishr (pc := 5) dX6_isActive_5 ?_
  refine z_iconst (v := 1) (pc := 6) dX6_isActive_6 (by decide) ?_
  refine z_iand (pc := 7) dX6_isActive_7 ?_
  refine z_iconst (v := 1) (pc := 8) dX6_isActive_8 (by decide) ?_
  refine z_ic_ne (tgt := 16) (pc := 9) dX6_isActive_9 (by decide) (fun _ => ?_) (fun _ => ?_)
  · refine z_iconst (v := 0) (pc := 16) dX6_isActive_16 (by decide) ?_
    exact z_ireturn (pc := 17) dX6_isActive_17 rfl (by decide) rfl
  refine z_iconst (v := 1) (pc := 12) dX6_isActive_12 (by decide) ?_
  refine z_goto (tgt := 17) (pc := 13) dX6_isActive_13 (by decide) ?_
  exact z_ireturn (pc := 17) dX6_isActive_17 rfl (by decide) rfl
set_option maxHeartbeats 2000000 in
set_option maxRecDepth 20000 in
theorem m_X3_leafPercent {G : Z_G} (hG : z_GG G) (h : Z_H) (a : Nat) (x1 : Int32) (x2 : Int32) (x3 : Int32) (x4 : Int32) : z_Met G iX3_leafPercent [.ref a, .int x1, .int x2, .int x3, .int x4] h ((f_X3_leafPercent h a x1 x2 x3 x4).bind fun r => some (r, h)) := by
  refine z_in (la := [some (.ref a), some (.int x1), some (.int x2), some (.int x3), some (.int x4)]) (by decide) rfl rfl rfl ?_
  unfold f_X3_leafPercent
  refine z_gg (fun _ => ?_)
  refine z_aload_n (x := a) (pc := 0) dX3_leafPercent_0 rfl rfl ?_
  refine z_getR cX3 (pc := 1) dX3_leafPercent_1 (j := 8) (by decide) rfl w_94 (fun r1 => ?_)
  refine z_iload_n (x := x1) (pc := 4) dX3_leafPercent_4 rfl rfl ?_
  refine z_aldI (pc := 5) dX3_leafPercent_5 (fun t2 => ?_)
  refine z_bz (fun hs0 => ?_) (fun hs0 => ?_)
  · refine z_tsw (tgt := 32) (off := 26) (pc := 6) dX3_leafPercent_6 (by rw [hs0]; decide) (by rw [hs0]; decide) (by rw [hs0]; rfl) (by decide) ?_
    refine z_aload_n (x := a) (pc := 32) dX3_leafPercent_32 rfl rfl ?_
    refine z_getR cX3 (pc := 33) dX3_leafPercent_33 (j := 10) (by decide) rfl w_96 (fun r3 => ?_)
    refine z_iload_n (x := x1) (pc := 36) dX3_leafPercent_36 rfl rfl ?_
    refine z_aldI (pc := 37) dX3_leafPercent_37 (fun t4 => ?_)
    refine z_iload_n (x := x2) (pc := 38) dX3_leafPercent_38 rfl rfl ?_
    refine z_imul (pc := 39) dX3_leafPercent_39 ?_
    exact z_ireturn (pc := 40) dX3_leafPercent_40 rfl rfl rfl
  refine z_bz (fun hs1 => ?_) (fun hs1 => ?_)
  · refine z_tsw (tgt := 41) (off := 35) (pc := 6) dX3_leafPercent_6 (by rw [hs1]; decide) (by rw [hs1]; decide) (by rw [hs1]; rfl) (by decide) ?_
    refine z_aload_n (x := a) (pc := 41) dX3_leafPercent_41 rfl rfl ?_
    refine z_getR cX3 (pc := 42) dX3_leafPercent_42 (j := 10) (by decide) rfl w_96 (fun r5 => ?_)
    refine z_iload_n (x := x1) (pc := 45) dX3_leafPercent_45 rfl rfl ?_
    refine z_aldI (pc := 46) dX3_leafPercent_46 (fun t6 => ?_)
    refine z_iconst (v := 5) (pc := 47) dX3_leafPercent_47 (by decide) ?_
    refine z_iload_n (x := x3) (pc := 48) dX3_leafPercent_48 rfl rfl ?_
    refine z_mmin (pc := 49) dX3_leafPercent_49 w_787 w_575 w_17 w_576 (by decide) (Nat.le_of_ble_eq_true rfl) ?_
    refine z_imul (pc := 52) dX3_leafPercent_52 ?_
    exact z_ireturn (pc := 53) dX3_leafPercent_53 rfl rfl rfl
  refine z_bz (fun hs2 => ?_) (fun hs2 => ?_)
  · refine z_tsw (tgt := 54) (off := 48) (pc := 6) dX3_leafPercent_6 (by rw [hs2]; decide) (by rw [hs2]; decide) (by rw [hs2]; rfl) (by decide) ?_
    refine z_iload (x := x4) (pc := 54) dX3_leafPercent_54 rfl ?_
    refine z_aload_n (x := a) (pc := 56) dX3_leafPercent_56 rfl rfl ?_
    refine z_getR cX3 (pc := 57) dX3_leafPercent_57 (j := 9) (by decide) rfl w_95 (fun r7 => ?_)
    refine z_iload_n (x := x1) (pc := 60) dX3_leafPercent_60 rfl rfl ?_
    refine z_aldI (pc := 61) dX3_leafPercent_61 (fun t8 => ?_)
    refine z_ic_lt (tgt := 74) (pc := 62) dX3_leafPercent_62 (by decide) (fun _ => ?_) (fun _ => ?_)
    · refine z_iconst (v := 0) (pc := 74) dX3_leafPercent_74 (by decide) ?_
      exact z_ireturn (pc := 75) dX3_leafPercent_75 rfl rfl rfl
    refine z_aload_n (x := a) (pc := 65) dX3_leafPercent_65 rfl rfl ?_
    refine z_getR cX3 (pc := 66) dX3_leafPercent_66 (j := 10) (by decide) rfl w_96 (fun r9 => ?_)
    refine z_iload_n (x := x1) (pc := 69) dX3_leafPercent_69 rfl rfl ?_
    refine z_aldI (pc := 70) dX3_leafPercent_70 (fun t10 => ?_)
    refine z_goto (tgt := 75) (pc := 71) dX3_leafPercent_71 (by decide) ?_
    exact z_ireturn (pc := 75) dX3_leafPercent_75 rfl rfl rfl
  refine z_tswO (tgt := 76) (pc := 6) dX3_leafPercent_6 (z_out (fun v h1 h2 => by
    have hv : v = 12 ∨ v = 13 ∨ v = 14 := by omega
    rcases hv with rfl | rfl | rfl
    · exact hs0
    · exact hs1
    · exact hs2)) (by decide) ?_
  refine z_aload_n (x := a) (pc := 76) dX3_leafPercent_76 rfl rfl ?_
  refine z_getR cX3 (pc := 77) dX3_leafPercent_77 (j := 10) (by decide) rfl w_96 (fun r11 => ?_)
  refine z_iload_n (x := x1) (pc := 80) dX3_leafPercent_80 rfl rfl ?_
  refine z_aldI (pc := 81) dX3_leafPercent_81 (fun t12 => ?_)
  exact z_ireturn (pc := 82) dX3_leafPercent_82 rfl rfl rfl
set_option maxHeartbeats 2000000 in
set_option maxRecDepth 20000 in
theorem m_X3_joinedPercent {G : Z_G} (hG : z_GG G) (h : Z_H) (x0 : Int32) (x1 : Int32) (x2 : Int32) : z_Met G iX3_joinedPercent [.int x0, .int x1, .int x2] h ((f_X3_joinedPercent h x0 x1 x2).bind fun r => some (r, h)) := by
  refine z_in (la := [some (.int x0), some (.int x1), some (.int x2)]) (by decide) rfl rfl rfl ?_
  unfold f_X3_joinedPercent
  refine z_iload_n (x := x0) (pc := 0) dX3_joinedPercent_0 rfl rfl ?_
  refine z_bz (fun hs0 => ?_) (fun hs0 => ?_)
  · refine z_lsw (tgt := 28) (off := 27) (pc := 1) dX3_joinedPercent_1 rfl (by rw [hs0]; rfl) (by decide) ?_
    refine z_iload_n (x := x1) (pc := 28) dX3_joinedPercent_28 rfl rfl ?_
    refine z_iload_n (x := x2) (pc := 29) dX3_joinedPercent_29 rfl rfl ?_
    refine z_mmax (pc := 30) dX3_joinedPercent_30 w_791 w_702 w_17 w_703 (by decide) (Nat.le_of_ble_eq_true rfl) ?_
    exact z_ireturn (pc := 33) dX3_joinedPercent_33 rfl rfl rfl
  refine z_bz (fun hs1 => ?_) (fun hs1 => ?_)
  · refine z_lsw (tgt := 34) (off := 33) (pc := 1) dX3_joinedPercent_1 rfl (by rw [hs1]; rfl) (by decide) ?_
    refine z_iload_n (x := x1) (pc := 34) dX3_joinedPercent_34 rfl rfl ?_
    refine z_iload_n (x := x2) (pc := 35) dX3_joinedPercent_35 rfl rfl ?_
    refine z_mmin (pc := 36) dX3_joinedPercent_36 w_787 w_575 w_17 w_576 (by decide) (Nat.le_of_ble_eq_true rfl) ?_
    exact z_ireturn (pc := 39) dX3_joinedPercent_39 rfl rfl rfl
  refine z_lsw (tgt := 40) (off := 39) (pc := 1) dX3_joinedPercent_1 rfl ((lv_osw hs0 (by decide)).trans ((lv_osw hs1 (by decide)).trans rfl)) (by decide) ?_
  refine z_bipush (v := 100) (pc := 40) dX3_joinedPercent_40 (by decide) ?_
  refine z_iload_n (x := x1) (pc := 42) dX3_joinedPercent_42 rfl rfl ?_
  refine z_iload_n (x := x2) (pc := 43) dX3_joinedPercent_43 rfl rfl ?_
  refine z_iadd (pc := 44) dX3_joinedPercent_44 ?_
  refine z_mmin (pc := 45) dX3_joinedPercent_45 w_787 w_575 w_17 w_576 (by decide) (Nat.le_of_ble_eq_true rfl) ?_
  exact z_ireturn (pc := 48) dX3_joinedPercent_48 rfl rfl rfl
set_option maxHeartbeats 2000000 in
set_option maxRecDepth 20000 in
theorem m_X3_percentOf {G : Z_G} (hG : z_GG G) (h : Z_H) (a : Nat) (x1 : Int32) (x2 : Int32) (x3 : Int32) (x4 : Int32) : z_Met G iX3_percentOf [.ref a, .int x1, .int x2, .int x3, .int x4] h ((f_X3_percentOf h a x1 x2 x3 x4).bind some) := by
  refine z_in (la := [some (.ref a), some (.int x1), some (.int x2), some (.int x3), some (.int x4), none, none]) (by decide) rfl rfl rfl ?_
  unfold f_X3_percentOf
  refine z_gg (fun _ => ?_)
  refine z_iconst (v := 0) (pc := 0) dX3_percentOf_0 (by decide) ?_
  refine z_istore (i := 5) (la' := [some (.ref a), some (.int x1), some (.int x2), some (.int x3), some (.int x4), some (.int 0), none]) (pc := 1) dX3_percentOf_1 (by decide) rfl rfl ?_
  refine z_iload_n (x := x1) (pc := 3) dX3_percentOf_3 rfl rfl ?_
  refine z_bipush (v := 8) (pc := 4) dX3_percentOf_4 (by decide) ?_
  refine z_imul (pc := 6) dX3_percentOf_6 ?_
  refine z_aload_n (x := a) (pc := 7) dX3_percentOf_7 rfl rfl ?_
  refine z_getR cX3 (pc := 8) dX3_percentOf_8 (j := 7) (by decide) rfl w_91 (fun r1 => ?_)
  refine z_iload_n (x := x1) (pc := 11) dX3_percentOf_11 rfl rfl ?_
  refine z_aldI (pc := 12) dX3_percentOf_12 (fun t2 => ?_)
  refine z_iadd (pc := 13) dX3_percentOf_13 ?_
  refine z_iconst (v := 1) (pc := 14) dX3_percentOf_14 (by decide) ?_
  refine z_isub (pc := 15) dX3_percentOf_15 ?_
  refine z_nm (fun v3 => ?_)
  refine z_istore (i := 6) (la' := [some (.ref a), some (.int x1), some (.int x2), some (.int x3), some (.int x4), some (.int 0), some (.int v3)]) (pc := 16) dX3_percentOf_16 (by decide) rfl rfl ?_
  refine z_lp (T := Z_H) (s0 := (0, v3, h)) 18 (fun ((v4, v5, h6) : Int32 × Int32 × Z_H) => [some (.ref a), some (.int x1), some (.int x2), some (.int x3), some (.int x4), some (.int v4), some (.int v5)]) (fun ((v4, v5, h6) : Int32 × Int32 × Z_H) => h6) (fun _ => 119) (fun (h7 : Z_H) => [some (.ref a), none, none, none, none, none, none]) (fun (h7 : Z_H) => h7) ?_ ?_
  · rintro h7
    try dsimp only
    refine z_aload_n (x := a) (pc := 119) dX3_percentOf_119 rfl rfl ?_
    refine z_getR cX3 (pc := 120) dX3_percentOf_120 (j := 11) (by decide) rfl w_97 (fun r27 => ?_)
    refine z_iconst (v := 0) (pc := 123) dX3_percentOf_123 (by decide) ?_
    refine z_aldI (pc := 124) dX3_percentOf_124 (fun t28 => ?_)
    exact z_ireturn (pc := 125) dX3_percentOf_125 rfl rfl rfl
  intro k' hx1 rec8 hrec8
  rintro ⟨v4, v5, h6⟩
  unfold f_X3_percentOf_l1
  try dsimp only
  refine z_iload (x := v5) (pc := 18) dX3_percentOf_18 rfl ?_
  refine z_iload_n (x := x1) (pc := 20) dX3_percentOf_20 rfl rfl ?_
  refine z_bipush (v := 8) (pc := 21) dX3_percentOf_21 (by decide) ?_
  refine z_imul (pc := 23) dX3_percentOf_23 ?_
  refine z_ic_lt (tgt := 119) (pc := 24) dX3_percentOf_24 (by decide) (fun _ => ?_) (fun _ => ?_)
  · exact z_wk (hx1 h6) (And.intro rfl trivial)
  refine z_aload_n (x := a) (pc := 27) dX3_percentOf_27 rfl rfl ?_
  refine z_getR cX3 (pc := 28) dX3_percentOf_28 (j := 8) (by decide) rfl w_94 (fun r9 => ?_)
  refine z_iload (x := v5) (pc := 31) dX3_percentOf_31 rfl ?_
  refine z_aldI (pc := 33) dX3_percentOf_33 (fun t10 => ?_)
  refine z_bipush (v := 15) (pc := 34) dX3_percentOf_34 (by decide) ?_
  refine z_jn 113 (fun ((v11, h12) : Int32 × Z_H) => [some (.ref a), some (.int x1), some (.int x2), some (.int x3), some (.int x4), some (.int v11), some (.int v5)]) (fun ((v11, h12) : Int32 × Z_H) => []) (fun ((v11, h12) : Int32 × Z_H) => h12) ?_ ?_
  · rintro ⟨v11, h12⟩
    try dsimp only
    refine z_iinc (i := 6) (x := v5) (v := (v5 + (-1))) (la' := [some (.ref a), some (.int x1), some (.int x2), some (.int x3), some (.int x4), some (.int v11), some (.int (v5 + (-1)))]) (pc := 113) dX3_percentOf_113 rfl rfl (by decide) rfl rfl ?_
    refine z_goto (tgt := 18) (pc := 116) dX3_percentOf_116 (by decide) ?_
    exact hrec8 (v11, (v5 + (-1)), h12)
  intro j13 hj13
  refine z_jn 69 (fun (_ : Unit) => [some (.ref a), some (.int x1), some (.int x2), some (.int x3), some (.int x4), some (.int v4), some (.int v5)]) (fun (_ : Unit) => []) (fun (_ : Unit) => h6) ?_ ?_
  · rintro _
    try dsimp only
    refine z_iload (x := v4) (pc := 69) dX3_percentOf_69 rfl ?_
    refine z_iconst (v := 2) (pc := 71) dX3_percentOf_71 (by decide) ?_
    refine z_ic_lt (tgt := 113) (pc := 72) dX3_percentOf_72 (by decide) (fun _ => ?_) (fun _ => ?_)
    · exact hj13 (v4, h6)
    refine z_iinc (i := 5) (x := v4) (v := (v4 + (-1))) (la' := [some (.ref a), some (.int x1), some (.int x2), some (.int x3), some (.int x4), some (.int (v4 + (-1))), some (.int v5)]) (pc := 75) dX3_percentOf_75 rfl rfl (by decide) rfl rfl ?_
    refine z_aload_n (x := a) (pc := 78) dX3_percentOf_78 rfl rfl ?_
    refine z_getR cX3 (pc := 79) dX3_percentOf_79 (j := 11) (by decide) rfl w_97 (fun r15 => ?_)
    refine z_iload (x := (v4 + (-1))) (pc := 82) dX3_percentOf_82 rfl ?_
    refine z_iconst (v := 1) (pc := 84) dX3_percentOf_84 (by decide) ?_
    refine z_isub (pc := 85) dX3_percentOf_85 ?_
    refine z_aload_n (x := a) (pc := 86) dX3_percentOf_86 rfl rfl ?_
    refine z_getR cX3 (pc := 87) dX3_percentOf_87 (j := 8) (by decide) rfl w_94 (fun r16 => ?_)
    refine z_iload (x := v5) (pc := 90) dX3_percentOf_90 rfl ?_
    refine z_aldI (pc := 92) dX3_percentOf_92 (fun t17 => ?_)
    refine z_aload_n (x := a) (pc := 93) dX3_percentOf_93 rfl rfl ?_
    refine z_getR cX3 (pc := 94) dX3_percentOf_94 (j := 11) (by decide) rfl w_97 (fun r18 => ?_)
    refine z_iload (x := (v4 + (-1))) (pc := 97) dX3_percentOf_97 rfl ?_
    refine z_aldI (pc := 99) dX3_percentOf_99 (fun t19 => ?_)
    refine z_aload_n (x := a) (pc := 100) dX3_percentOf_100 rfl rfl ?_
    refine z_getR cX3 (pc := 101) dX3_percentOf_101 (j := 11) (by decide) rfl w_97 (fun r20 => ?_)
    refine z_iload (x := (v4 + (-1))) (pc := 104) dX3_percentOf_104 rfl ?_
    refine z_iconst (v := 1) (pc := 106) dX3_percentOf_106 (by decide) ?_
    refine z_isub (pc := 107) dX3_percentOf_107 ?_
    refine z_aldI (pc := 108) dX3_percentOf_108 (fun t21 => ?_)
    refine z_cSP (As := [.int t17, .int t19, .int t21]) (rest := [.int ((v4 + (-1)) - 1), .ref r15]) hG.1 (m_X3_joinedPercent hG h6 t17 t19 t21) oX3_joinedPercent (pc := 109) dX3_percentOf_109 rfl w_788 rfl rfl rfl (fun t22 => ?_)
    refine z_astI (pc := 112) dX3_percentOf_112 (fun h23 => ?_)
    exact hj13 ((v4 + (-1)), h23)
  intro j14 hj14
  refine z_ic_ge (tgt := 69) (pc := 36) dX3_percentOf_36 (by decide) (fun _ => ?_) (fun _ => ?_)
  · exact hj14 ()
  refine z_iload (x := v4) (pc := 39) dX3_percentOf_39 rfl ?_
  refine z_bipush (v := 8) (pc := 41) dX3_percentOf_41 (by decide) ?_
  refine z_ic_ge (tgt := 69) (pc := 43) dX3_percentOf_43 (by decide) (fun _ => ?_) (fun _ => ?_)
  · exact hj14 ()
  refine z_aload_n (x := a) (pc := 46) dX3_percentOf_46 rfl rfl ?_
  refine z_getR cX3 (pc := 47) dX3_percentOf_47 (j := 11) (by decide) rfl w_97 (fun r24 => ?_)
  refine z_iload (x := v4) (pc := 50) dX3_percentOf_50 rfl ?_
  refine z_aload_n (x := a) (pc := 52) dX3_percentOf_52 rfl rfl ?_
  refine z_iload (x := v5) (pc := 53) dX3_percentOf_53 rfl ?_
  refine z_iload_n (x := x2) (pc := 55) dX3_percentOf_55 rfl rfl ?_
  refine z_iload_n (x := x3) (pc := 56) dX3_percentOf_56 rfl rfl ?_
  refine z_iload (x := x4) (pc := 57) dX3_percentOf_57 rfl ?_
  refine z_cVP (As := [.int v5, .int x2, .int x3, .int x4]) (rest := [.int v4, .ref r24]) hG.1 (m_X3_leafPercent hG h6 a v5 x2 x3 x4) (fun _ e => z_gdb e) oX3_leafPercent (pc := 59) dX3_percentOf_59 rfl w_783 rfl rfl rfl (fun t25 => ?_)
  refine z_astI (pc := 62) dX3_percentOf_62 (fun h26 => ?_)
  refine z_iinc (i := 5) (x := v4) (v := (v4 + 1)) (la' := [some (.ref a), some (.int x1), some (.int x2), some (.int x3), some (.int x4), some (.int (v4 + 1)), some (.int v5)]) (pc := 63) dX3_percentOf_63 rfl rfl (by decide) rfl rfl ?_
  refine z_goto (tgt := 113) (pc := 66) dX3_percentOf_66 (by decide) ?_
  exact hj13 ((v4 + 1), h26)
