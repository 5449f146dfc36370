set_option maxHeartbeats 2000000 in
set_option maxRecDepth 20000 in
theorem m_X4_number {G : Z_G} (hG : z_GG G) (h : Z_H) (a : Nat) (x1 : Int32) (x2 : Int32) : z_Met G iX4_number [.ref a, .int x1, .int x2] h ((f_X4_number h a x1 x2).bind some) := by
  refine z_in (la := [some (.ref a), some (.int x1), some (.int x2), none]) (by decide) rfl rfl rfl ?_
  unfold f_X4_number
  refine z_gg (fun _ => ?_)
  refine z_aload_n (x := a) (pc := 0) dX4_number_0 rfl rfl ?_
  refine z_getR cX4 (pc := 1) dX4_number_1 (j := 2) (by decide) rfl w_295 (fun r1 => ?_)
  refine z_aload_n (x := a) (pc := 4) dX4_number_4 rfl rfl ?_
  refine z_getI cX4 (pc := 5) dX4_number_5 (j := 7) (by decide) rfl w_300 (fun t2 => ?_)
  refine z_aldI (pc := 8) dX4_number_8 (fun t3 => ?_)
  refine z_iconst (v := 3) (pc := 9) dX4_number_9 (by decide) ?_
  refine z_ic_eq (tgt := 19) (pc := 10) dX4_number_10 (by decide) (fun _ => ?_) (fun _ => ?_)
  · refine z_aload_n (x := a) (pc := 19) dX4_number_19 rfl rfl ?_
    refine z_getR cX4 (pc := 20) dX4_number_20 (j := 4) (by decide) rfl w_297 (fun r4 => ?_)
    refine z_aload_n (x := a) (pc := 23) dX4_number_23 rfl rfl ?_
    refine z_getI cX4 (pc := 24) dX4_number_24 (j := 7) (by decide) rfl w_300 (fun t5 => ?_)
    refine z_aldI (pc := 27) dX4_number_27 (fun t6 => ?_)
    refine z_istore_n (i := 3) (la' := [some (.ref a), some (.int x1), some (.int x2), some (.int t6)]) (pc := 28) dX4_number_28 rfl (by decide) rfl rfl ?_
    refine z_iload_n (x := t6) (pc := 29) dX4_number_29 rfl rfl ?_
    refine z_iload_n (x := x1) (pc := 30) dX4_number_30 rfl rfl ?_
    refine z_jn 46 (fun ((v7, h8) : Int32 × Z_H) => [some (.ref a), none, none, some (.int v7)]) (fun ((v7, h8) : Int32 × Z_H) => []) (fun ((v7, h8) : Int32 × Z_H) => h8) ?_ ?_
    · rintro ⟨v7, h8⟩
      try dsimp only
      refine z_aload_n (x := a) (pc := 46) dX4_number_46 rfl rfl ?_
      refine z_cVV (As := []) (rest := []) hG.1 (m_X4_goOn hG h8 a) (fun _ e => z_gdb e) oX4_goOn (pc := 47) dX4_number_47 rfl w_553 rfl rfl rfl (fun h10 => ?_)
      refine z_iload_n (x := v7) (pc := 50) dX4_number_50 rfl rfl ?_
      exact z_ireturn (pc := 51) dX4_number_51 rfl rfl rfl
    intro j9 hj9
    refine z_jn 39 (fun (_ : Unit) => [some (.ref a), some (.int x1), none, none]) (fun (_ : Unit) => []) (fun (_ : Unit) => h) ?_ ?_
    · rintro _
      try dsimp only
      refine z_aload_n (x := a) (pc := 39) dX4_number_39 rfl rfl ?_
      refine z_iconst (v := 2) (pc := 40) dX4_number_40 (by decide) ?_
      refine z_cVV (As := [.int 2]) (rest := []) hG.1 (m_X4_slipHere hG h a 2) (fun _ e => z_gdb e) oX4_slipHere (pc := 41) dX4_number_41 rfl w_565 rfl rfl rfl (fun h12 => ?_)
      refine z_iload_n (x := x1) (pc := 44) dX4_number_44 rfl rfl ?_
      refine z_istore_n (i := 3) (la' := [some (.ref a), some (.int x1), none, some (.int x1)]) (pc := 45) dX4_number_45 rfl (by decide) rfl rfl ?_
      exact z_wk (hj9 (x1, h12)) (And.intro rfl (And.intro rfl trivial))
    intro j11 hj11
    refine z_ic_lt (tgt := 39) (pc := 31) dX4_number_31 (by decide) (fun _ => ?_) (fun _ => ?_)
    · exact z_wk (hj11 ()) (And.intro rfl (And.intro rfl trivial))
    refine z_iload_n (x := t6) (pc := 34) dX4_number_34 rfl rfl ?_
    refine z_iload_n (x := x2) (pc := 35) dX4_number_35 rfl rfl ?_
    refine z_ic_le (tgt := 46) (pc := 36) dX4_number_36 (by decide) (fun _ => ?_) (fun _ => ?_)
    · exact z_wk (hj9 (t6, h)) (And.intro rfl (And.intro rfl trivial))
    exact z_wk (hj11 ()) (And.intro rfl (And.intro rfl trivial))
  refine z_aload_n (x := a) (pc := 13) dX4_number_13 rfl rfl ?_
  refine z_cVV (As := []) (rest := []) hG.1 (m_X4_breakOff hG h a) (fun _ e => z_gdb e) oX4_breakOff (pc := 14) dX4_number_14 rfl w_549 rfl rfl rfl (fun h13 => ?_)
  refine z_iload_n (x := x1) (pc := 17) dX4_number_17 rfl rfl ?_
  exact z_ireturn (pc := 18) dX4_number_18 rfl rfl rfl
set_option maxHeartbeats 2000000 in
set_option maxRecDepth 20000 in
theorem m_X4_readNode {G : Z_G} (hG : z_GG G) (h : Z_H) (a : Nat) (x1 : Int32) (x2 : Int32) : z_Met G iX4_readNode [.ref a, .int x1, .int x2] h ((f_X4_readNode h a x1 x2).bind fun h1 => some (0, h1)) := by
  refine z_in (la := [some (.ref a), some (.int x1), some (.int x2), none, none, none]) (by decide) rfl rfl rfl ?_
  unfold f_X4_readNode
  refine z_gg (fun _ => ?_)
  refine z_aload_n (x := a) (pc := 0) dX4_readNode_0 rfl rfl ?_
  refine z_getR cX4 (pc := 1) dX4_readNode_1 (j := 2) (by decide) rfl w_295 (fun r1 => ?_)
  refine z_aload_n (x := a) (pc := 4) dX4_readNode_4 rfl rfl ?_
  refine z_getI cX4 (pc := 5) dX4_readNode_5 (j := 7) (by decide) rfl w_300 (fun t2 => ?_)
  refine z_aldI (pc := 8) dX4_readNode_8 (fun t3 => ?_)
  refine z_istore_n (i := 3) (la' := [some (.ref a), some (.int x1), some (.int x2), some (.int t3), none, none]) (pc := 9) dX4_readNode_9 rfl (by decide) rfl rfl ?_
  refine z_iload_n (x := t3) (pc := 10) dX4_readNode_10 rfl rfl ?_
  refine z_bipush (v := 11) (pc := 11) dX4_readNode_11 (by decide) ?_
  refine z_ic_ge (tgt := 21) (pc := 13) dX4_readNode_13 (by decide) (fun _ => ?_) (fun _ => ?_)
  · refine z_iload_n (x := x2) (pc := 21) dX4_readNode_21 rfl rfl ?_
    refine z_bipush (v := 8) (pc := 22) dX4_readNode_22 (by decide) ?_
    refine z_jn 32 (fun (h4 : Z_H) => [some (.ref a), some (.int x1), some (.int x2), some (.int t3), none, none]) (fun (h4 : Z_H) => []) (fun (h4 : Z_H) => h4) ?_ ?_
    · rintro h4
      try dsimp only
      refine z_aload_n (x := a) (pc := 32) dX4_readNode_32 rfl rfl ?_
      refine z_cVV (As := []) (rest := []) hG.1 (m_X4_goOn hG h4 a) (fun _ e => z_gdb e) oX4_goOn (pc := 33) dX4_readNode_33 rfl w_553 rfl rfl rfl (fun h6 => ?_)
      refine z_iload_n (x := t3) (pc := 36) dX4_readNode_36 rfl rfl ?_
      refine z_bipush (v := 14) (pc := 37) dX4_readNode_37 (by decide) ?_
      refine z_jn 53 (fun ((y7, h8) : Int32 × Z_H) => [some (.ref a), some (.int x1), some (.int x2), some (.int t3), none, none]) (fun ((y7, h8) : Int32 × Z_H) => [.int y7]) (fun ((y7, h8) : Int32 × Z_H) => h8) ?_ ?_
      · rintro ⟨y7, h8⟩
        try dsimp only
        refine z_istore (i := 4) (la' := [some (.ref a), some (.int x1), some (.int x2), some (.int t3), some (.int y7), none]) (pc := 53) dX4_readNode_53 (by decide) rfl rfl ?_
        refine z_iload_n (x := t3) (pc := 55) dX4_readNode_55 rfl rfl ?_
        refine z_bipush (v := 15) (pc := 56) dX4_readNode_56 (by decide) ?_
        refine z_jn 72 (fun ((y10, h11) : Int32 × Z_H) => [some (.ref a), some (.int x1), some (.int x2), some (.int t3), some (.int y7), none]) (fun ((y10, h11) : Int32 × Z_H) => [.int y10]) (fun ((y10, h11) : Int32 × Z_H) => h11) ?_ ?_
        · rintro ⟨y10, h11⟩
          try dsimp only
          refine z_istore (i := 5) (la' := [some (.ref a), some (.int x1), some (.int x2), some (.int t3), some (.int y7), some (.int y10)]) (pc := 72) dX4_readNode_72 (by decide) rfl rfl ?_
          refine z_aload_n (x := a) (pc := 74) dX4_readNode_74 rfl rfl ?_
          refine z_getR cX4 (pc := 75) dX4_readNode_75 (j := 0) (by decide) rfl w_292 (fun r13 => ?_)
          refine z_iload_n (x := x1) (pc := 78) dX4_readNode_78 rfl rfl ?_
          refine z_iload_n (x := x2) (pc := 79) dX4_readNode_79 rfl rfl ?_
          refine z_iload_n (x := t3) (pc := 80) dX4_readNode_80 rfl rfl ?_
          refine z_iload (x := y7) (pc := 81) dX4_readNode_81 rfl ?_
          refine z_iload (x := y10) (pc := 83) dX4_readNode_83 rfl ?_
          refine z_cVV (As := [.int x1, .int x2, .int t3, .int y7, .int y10]) (rest := []) hG.1 (m_X3_setNode hG h11 r13 x1 x2 t3 y7 y10) (fun _ e => z_gdb e) oX3_setNode (pc := 85) dX4_readNode_85 rfl w_573 rfl rfl rfl (fun h14 => ?_)
          exact z_return (pc := 88) dX4_readNode_88 rfl rfl
        intro j12 hj12
        refine z_ic_ge (tgt := 71) (pc := 58) dX4_readNode_58 (by decide) (fun _ => ?_) (fun _ => ?_)
        · refine z_iconst (v := 0) (pc := 71) dX4_readNode_71 (by decide) ?_
          exact hj12 (0, h8)
        refine z_aload_n (x := a) (pc := 61) dX4_readNode_61 rfl rfl ?_
        refine z_iconst (v := 0) (pc := 62) dX4_readNode_62 (by decide) ?_
        refine z_bipush (v := 20) (pc := 63) dX4_readNode_63 (by decide) ?_
        refine z_dVI (As := [.int 0, .int 20]) (rest := []) hG.1 (m_X4_number hG h8 a 0 20) (fun _ e => z_gdb e) oX4_number (pc := 65) dX4_readNode_65 rfl w_561 rfl rfl rfl (fun t15 h16 => ?_)
        refine z_goto (tgt := 72) (pc := 68) dX4_readNode_68 (by decide) ?_
        exact hj12 (t15, h16)
      intro j9 hj9
      refine z_ic_ne (tgt := 52) (pc := 39) dX4_readNode_39 (by decide) (fun _ => ?_) (fun _ => ?_)
      · refine z_iconst (v := 0) (pc := 52) dX4_readNode_52 (by decide) ?_
        exact hj9 (0, h6)
      refine z_aload_n (x := a) (pc := 42) dX4_readNode_42 rfl rfl ?_
      refine z_iconst (v := 0) (pc := 43) dX4_readNode_43 (by decide) ?_
      refine z_bipush (v := 99) (pc := 44) dX4_readNode_44 (by decide) ?_
      refine z_dVI (As := [.int 0, .int 99]) (rest := []) hG.1 (m_X4_number hG h6 a 0 99) (fun _ e => z_gdb e) oX4_number (pc := 46) dX4_readNode_46 rfl w_561 rfl rfl rfl (fun t17 h18 => ?_)
      refine z_goto (tgt := 53) (pc := 49) dX4_readNode_49 (by decide) ?_
      exact hj9 (t17, h18)
    intro j5 hj5
    refine z_ic_lt (tgt := 32) (pc := 24) dX4_readNode_24 (by decide) (fun _ => ?_) (fun _ => ?_)
    · exact hj5 h
    refine z_aload_n (x := a) (pc := 27) dX4_readNode_27 rfl rfl ?_
    refine z_iconst (v := 3) (pc := 28) dX4_readNode_28 (by decide) ?_
    refine z_cVV (As := [.int 3]) (rest := []) hG.1 (m_X4_slipHere hG h a 3) (fun _ e => z_gdb e) oX4_slipHere (pc := 29) dX4_readNode_29 rfl w_565 rfl rfl rfl (fun h19 => ?_)
    exact hj5 h19
  refine z_aload_n (x := a) (pc := 16) dX4_readNode_16 rfl rfl ?_
  refine z_cVV (As := []) (rest := []) hG.1 (m_X4_breakOff hG h a) (fun _ e => z_gdb e) oX4_breakOff (pc := 17) dX4_readNode_17 rfl w_549 rfl rfl rfl (fun h20 => ?_)
  exact z_return (pc := 20) dX4_readNode_20 rfl rfl
set_option maxHeartbeats 2000000 in
set_option maxRecDepth 20000 in
theorem m_X4_readLevel {G : Z_G} (hG : z_GG G) (h : Z_H) (a : Nat) : z_Met G iX4_readLevel [.ref a] h ((f_X4_readLevel h a).bind fun h1 => some (0, h1)) := by
  refine z_in (la := [some (.ref a), none, none, none, none]) (by decide) rfl rfl rfl ?_
  unfold f_X4_readLevel
  refine z_gg (fun _ => ?_)
  refine z_aload_n (x := a) (pc := 0) dX4_readLevel_0 rfl rfl ?_
  refine z_iconst (v := 1) (pc := 1) dX4_readLevel_1 (by decide) ?_
  refine z_iconst (v := 5) (pc := 2) dX4_readLevel_2 (by decide) ?_
  refine z_dVI (As := [.int 1, .int 5]) (rest := []) hG.1 (m_X4_number hG h a 1 5) (fun _ e => z_gdb e) oX4_number (pc := 3) dX4_readLevel_3 rfl w_561 rfl rfl rfl (fun t1 h2 => ?_)
  refine z_istore_n (i := 1) (la' := [some (.ref a), some (.int t1), none, none, none]) (pc := 6) dX4_readLevel_6 rfl (by decide) rfl rfl ?_
  refine z_iconst (v := 1) (pc := 7) dX4_readLevel_7 (by decide) ?_
  refine z_istore_n (i := 2) (la' := [some (.ref a), some (.int t1), some (.int 1), none, none]) (pc := 8) dX4_readLevel_8 rfl (by decide) rfl rfl ?_
  refine z_iconst (v := 0) (pc := 9) dX4_readLevel_9 (by decide) ?_
  refine z_istore_n (i := 3) (la' := [some (.ref a), some (.int t1), some (.int 1), some (.int 0), none]) (pc := 10) dX4_readLevel_10 rfl (by decide) rfl rfl ?_
  refine z_iconst (v := 0) (pc := 11) dX4_readLevel_11 (by decide) ?_
  refine z_istore (i := 4) (la' := [some (.ref a), some (.int t1), some (.int 1), some (.int 0), some (.int 0)]) (pc := 12) dX4_readLevel_12 (by decide) rfl rfl ?_
  refine z_lp (T := Int32 × Z_H) (s0 := (1, 0, 0, h2)) 14 (fun ((v3, v4, v5, h6) : Int32 × Int32 × Int32 × Z_H) => [some (.ref a), some (.int t1), some (.int v3), some (.int v4), some (.int v5)]) (fun ((v3, v4, v5, h6) : Int32 × Int32 × Int32 × Z_H) => h6) (fun _ => 71) (fun ((v7, h8) : Int32 × Z_H) => [some (.ref a), some (.int t1), none, some (.int v7), none]) (fun ((v7, h8) : Int32 × Z_H) => h8) ?_ ?_
  · rintro ⟨v7, h8⟩
    try dsimp only
    refine z_aload_n (x := a) (pc := 71) dX4_readLevel_71 rfl rfl ?_
    refine z_getR cX4 (pc := 72) dX4_readLevel_72 (j := 0) (by decide) rfl w_292 (fun r18 => ?_)
    refine z_getR cX3 (pc := 75) dX4_readLevel_75 (j := 7) (by decide) rfl w_92 (fun r19 => ?_)
    refine z_iload_n (x := t1) (pc := 78) dX4_readLevel_78 rfl rfl ?_
    refine z_iload_n (x := v7) (pc := 79) dX4_readLevel_79 rfl rfl ?_
    refine z_bipush (v := 8) (pc := 80) dX4_readLevel_80 (by decide) ?_
    refine z_mmin (pc := 82) dX4_readLevel_82 w_574 w_575 w_17 w_576 (by decide) (Nat.le_of_ble_eq_true rfl) ?_
    refine z_astI (pc := 85) dX4_readLevel_85 (fun h20 => ?_)
    exact z_return (pc := 86) dX4_readLevel_86 rfl rfl
  intro k' hx1 rec9 hrec9
  rintro ⟨v3, v4, v5, h6⟩
  unfold f_X4_readLevel_l1
  try dsimp only
  refine z_iload (x := v5) (pc := 14) dX4_readLevel_14 rfl ?_
  refine z_sipush (v := 600) (pc := 16) dX4_readLevel_16 (by decide) ?_
  refine z_ic_gt (tgt := 71) (pc := 19) dX4_readLevel_19 (by decide) (fun _ => ?_) (fun _ => ?_)
  · exact z_wk (hx1 (v4, h6)) (And.intro rfl (And.intro rfl (And.intro rfl trivial)))
  refine z_iload_n (x := v3) (pc := 22) dX4_readLevel_22 rfl rfl ?_
  refine z_if_le (tgt := 71) (pc := 23) dX4_readLevel_23 (by decide) (fun _ => ?_) (fun _ => ?_)
  · exact z_wk (hx1 (v4, h6)) (And.intro rfl (And.intro rfl (And.intro rfl trivial)))
  refine z_aload_n (x := a) (pc := 26) dX4_readLevel_26 rfl rfl ?_
  refine z_getI cX4 (pc := 27) dX4_readLevel_27 (j := 8) (by decide) rfl w_301 (fun t10 => ?_)
  refine z_iconst (v := (-1)) (pc := 30) dX4_readLevel_30 (by decide) ?_
  refine z_ic_ne (tgt := 71) (pc := 31) dX4_readLevel_31 (by decide) (fun _ => ?_) (fun _ => ?_)
  · exact z_wk (hx1 (v4, h6)) (And.intro rfl (And.intro rfl (And.intro rfl trivial)))
  refine z_iload_n (x := v3) (pc := 34) dX4_readLevel_34 rfl rfl ?_
  refine z_aload_n (x := a) (pc := 35) dX4_readLevel_35 rfl rfl ?_
  refine z_getR cX4 (pc := 36) dX4_readLevel_36 (j := 2) (by decide) rfl w_295 (fun r11 => ?_)
  refine z_aload_n (x := a) (pc := 39) dX4_readLevel_39 rfl rfl ?_
  refine z_getI cX4 (pc := 40) dX4_readLevel_40 (j := 7) (by decide) rfl w_300 (fun t12 => ?_)
  refine z_aldI (pc := 43) dX4_readLevel_43 (fun t13 => ?_)
  refine z_bipush (v := 15) (pc := 44) dX4_readLevel_44 (by decide) ?_
  refine z_jn 54 (fun (y14 : Int32) => [some (.ref a), some (.int t1), none, some (.int v4), some (.int v5)]) (fun (y14 : Int32) => [.int y14, .int v3]) (fun (y14 : Int32) => h6) ?_ ?_
  · rintro y14
    try dsimp only
    refine z_iadd (pc := 54) dX4_readLevel_54 ?_
    refine z_nm (fun v16 => ?_)
    refine z_istore_n (i := 2) (la' := [some (.ref a), some (.int t1), some (.int v16), some (.int v4), some (.int v5)]) (pc := 55) dX4_readLevel_55 rfl (by decide) rfl rfl ?_
    refine z_aload_n (x := a) (pc := 56) dX4_readLevel_56 rfl rfl ?_
    refine z_iload_n (x := t1) (pc := 57) dX4_readLevel_57 rfl rfl ?_
    refine z_iload_n (x := v4) (pc := 58) dX4_readLevel_58 rfl rfl ?_
    refine z_cVV (As := [.int t1, .int v4]) (rest := []) hG.1 (m_X4_readNode hG h6 a t1 v4) (fun _ e => z_gdb e) oX4_readNode (pc := 59) dX4_readLevel_59 rfl w_569 rfl rfl rfl (fun h17 => ?_)
    refine z_iinc (i := 3) (x := v4) (v := (v4 + 1)) (la' := [some (.ref a), some (.int t1), some (.int v16), some (.int (v4 + 1)), some (.int v5)]) (pc := 62) dX4_readLevel_62 rfl rfl (by decide) rfl rfl ?_
    refine z_iinc (i := 4) (x := v5) (v := (v5 + 1)) (la' := [some (.ref a), some (.int t1), some (.int v16), some (.int (v4 + 1)), some (.int (v5 + 1))]) (pc := 65) dX4_readLevel_65 rfl rfl (by decide) rfl rfl ?_
    refine z_goto (tgt := 14) (pc := 68) dX4_readLevel_68 (by decide) ?_
    exact hrec9 (v16, (v4 + 1), (v5 + 1), h17)
  intro j15 hj15
  refine z_ic_lt (tgt := 53) (pc := 46) dX4_readLevel_46 (by decide) (fun _ => ?_) (fun _ => ?_)
  · refine z_iconst (v := (-1)) (pc := 53) dX4_readLevel_53 (by decide) ?_
    exact z_wk (hj15 (-1)) (And.intro rfl (And.intro rfl (And.intro rfl (And.intro rfl trivial))))
  refine z_iconst (v := 1) (pc := 49) dX4_readLevel_49 (by decide) ?_
  refine z_goto (tgt := 54) (pc := 50) dX4_readLevel_50 (by decide) ?_
  exact z_wk (hj15 1) (And.intro rfl (And.intro rfl (And.intro rfl (And.intro rfl trivial))))
set_option maxHeartbeats 2000000 in
set_option maxRecDepth 20000 in
theorem m_X4_readRank {G : Z_G} (hG : z_GG G) (h : Z_H) (a : Nat) : z_Met G iX4_readRank [.ref a] h ((f_X4_readRank h a).bind fun h1 => some (0, h1)) := by
  refine z_in (la := [some (.ref a), none]) (by decide) rfl rfl rfl ?_
  unfold f_X4_readRank
  refine z_gg (fun _ => ?_)
  refine z_aload_n (x := a) (pc := 0) dX4_readRank_0 rfl rfl ?_
  refine z_iconst (v := 1) (pc := 1) dX4_readRank_1 (by decide) ?_
  refine z_iconst (v := 3) (pc := 2) dX4_readRank_2 (by decide) ?_
  refine z_dVI (As := [.int 1, .int 3]) (rest := []) hG.1 (m_X4_number hG h a 1 3) (fun _ e => z_gdb e) oX4_number (pc := 3) dX4_readRank_3 rfl w_561 rfl rfl rfl (fun t1 h2 => ?_)
  refine z_istore_n (i := 1) (la' := [some (.ref a), some (.int t1)]) (pc := 6) dX4_readRank_6 rfl (by decide) rfl rfl ?_
  refine z_aload_n (x := a) (pc := 7) dX4_readRank_7 rfl rfl ?_
  refine z_getR cX4 (pc := 8) dX4_readRank_8 (j := 0) (by decide) rfl w_292 (fun r3 => ?_)
  refine z_getR cX3 (pc := 11) dX4_readRank_11 (j := 4) (by decide) rfl w_82 (fun r4 => ?_)
  refine z_iload_n (x := t1) (pc := 14) dX4_readRank_14 rfl rfl ?_
  refine z_aload_n (x := a) (pc := 15) dX4_readRank_15 rfl rfl ?_
  refine z_iconst (v := 0) (pc := 16) dX4_readRank_16 (by decide) ?_
  refine z_sipush (v := 9999) (pc := 17) dX4_readRank_17 (by decide) ?_
  refine z_dVI (As := [.int 0, .int 9999]) (rest := [.int t1, .ref r4]) hG.1 (m_X4_number hG h2 a 0 9999) (fun _ e => z_gdb e) oX4_number (pc := 20) dX4_readRank_20 rfl w_561 rfl rfl rfl (fun t5 h6 => ?_)
  refine z_astI (pc := 23) dX4_readRank_23 (fun h7 => ?_)
  refine z_aload_n (x := a) (pc := 24) dX4_readRank_24 rfl rfl ?_
  refine z_getR cX4 (pc := 25) dX4_readRank_25 (j := 0) (by decide) rfl w_292 (fun r8 => ?_)
  refine z_getR cX3 (pc := 28) dX4_readRank_28 (j := 5) (by decide) rfl w_85 (fun r9 => ?_)
  refine z_iload_n (x := t1) (pc := 31) dX4_readRank_31 rfl rfl ?_
  refine z_aload_n (x := a) (pc := 32) dX4_readRank_32 rfl rfl ?_
  refine z_iconst (v := 0) (pc := 33) dX4_readRank_33 (by decide) ?_
  refine z_iconst (v := 4) (pc := 34) dX4_readRank_34 (by decide) ?_
  refine z_dVI (As := [.int 0, .int 4]) (rest := [.int t1, .ref r9]) hG.1 (m_X4_number hG h7 a 0 4) (fun _ e => z_gdb e) oX4_number (pc := 35) dX4_readRank_35 rfl w_561 rfl rfl rfl (fun t10 h11 => ?_)
  refine z_astI (pc := 38) dX4_readRank_38 (fun h12 => ?_)
  exact z_return (pc := 39) dX4_readRank_39 rfl rfl
set_option maxHeartbeats 2000000 in
set_option maxRecDepth 20000 in
theorem m_X4_readOpens {G : Z_G} (hG : z_GG G) (h : Z_H) (a : Nat) : z_Met G iX4_readOpens [.ref a] h ((f_X4_readOpens h a).bind fun h1 => some (0, h1)) := by
  refine z_in (la := [some (.ref a), none]) (by decide) rfl rfl rfl ?_
  unfold f_X4_readOpens
  refine z_gg (fun _ => ?_)
  refine z_aload_n (x := a) (pc := 0) dX4_readOpens_0 rfl rfl ?_
  refine z_iconst (v := 0) (pc := 1) dX4_readOpens_1 (by decide) ?_
  refine z_iconst (v := 3) (pc := 2) dX4_readOpens_2 (by decide) ?_
  refine z_dVI (As := [.int 0, .int 3]) (rest := []) hG.1 (m_X4_number hG h a 0 3) (fun _ e => z_gdb e) oX4_number (pc := 3) dX4_readOpens_3 rfl w_561 rfl rfl rfl (fun t1 h2 => ?_)
  refine z_istore_n (i := 1) (la' := [some (.ref a), some (.int t1)]) (pc := 6) dX4_readOpens_6 rfl (by decide) rfl rfl ?_
  refine z_aload_n (x := a) (pc := 7) dX4_readOpens_7 rfl rfl ?_
  refine z_getR cX4 (pc := 8) dX4_readOpens_8 (j := 0) (by decide) rfl w_292 (fun r3 => ?_)
  refine z_getR cX3 (pc := 11) dX4_readOpens_11 (j := 6) (by decide) rfl w_89 (fun r4 => ?_)
  refine z_iload_n (x := t1) (pc := 14) dX4_readOpens_14 rfl rfl ?_
  refine z_aload_n (x := a) (pc := 15) dX4_readOpens_15 rfl rfl ?_
  refine z_iconst (v := 0) (pc := 16) dX4_readOpens_16 (by decide) ?_
  refine z_iconst (v := 5) (pc := 17) dX4_readOpens_17 (by decide) ?_
  refine z_dVI (As := [.int 0, .int 5]) (rest := [.int t1, .ref r4]) hG.1 (m_X4_number hG h2 a 0 5) (fun _ e => z_gdb e) oX4_number (pc := 18) dX4_readOpens_18 rfl w_561 rfl rfl rfl (fun t5 h6 => ?_)
  refine z_astI (pc := 21) dX4_readOpens_21 (fun h7 => ?_)
  exact z_return (pc := 22) dX4_readOpens_22 rfl rfl
set_option maxHeartbeats 2000000 in
set_option maxRecDepth 20000 in
theorem m_X4_readClause {G : Z_G} (hG : z_GG G) (h : Z_H) (a : Nat) : z_Met G iX4_readClause [.ref a] h ((f_X4_readClause h a).bind fun h1 => some (0, h1)) := by
  refine z_in (la := [some (.ref a), none]) (by decide) rfl rfl rfl ?_
  unfold f_X4_readClause
  refine z_gg (fun _ => ?_)
  refine z_aload_n (x := a) (pc := 0) dX4_readClause_0 rfl rfl ?_
  refine z_getR cX4 (pc := 1) dX4_readClause_1 (j := 2) (by decide) rfl w_295 (fun r1 => ?_)
  refine z_aload_n (x := a) (pc := 4) dX4_readClause_4 rfl rfl ?_
  refine z_getI cX4 (pc := 5) dX4_readClause_5 (j := 7) (by decide) rfl w_300 (fun t2 => ?_)
  refine z_aldI (pc := 8) dX4_readClause_8 (fun t3 => ?_)
  refine z_istore_n (i := 1) (la' := [some (.ref a), some (.int t3)]) (pc := 9) dX4_readClause_9 rfl (by decide) rfl rfl ?_
  refine z_iload_n (x := t3) (pc := 10) dX4_readClause_10 rfl rfl ?_
  refine z_iconst (v := 4) (pc := 11) dX4_readClause_11 (by decide) ?_
  refine z_jn 21 (fun (_ : Unit) => [some (.ref a), none]) (fun (_ : Unit) => []) (fun (_ : Unit) => h) ?_ ?_
  · rintro _
    try dsimp only
    refine z_aload_n (x := a) (pc := 21) dX4_readClause_21 rfl rfl ?_
    refine z_cVV (As := []) (rest := []) hG.1 (m_X4_breakOff hG h a) (fun _ e => z_gdb e) oX4_breakOff (pc := 22) dX4_readClause_22 rfl w_549 rfl rfl rfl (fun h5 => ?_)
    exact z_return (pc := 25) dX4_readClause_25 rfl rfl
  intro j4 hj4
  refine z_ic_lt (tgt := 21) (pc := 12) dX4_readClause_12 (by decide) (fun _ => ?_) (fun _ => ?_)
  · exact z_wk (hj4 ()) (And.intro rfl trivial)
  refine z_iload_n (x := t3) (pc := 15) dX4_readClause_15 rfl rfl ?_
  refine z_bipush (v := 10) (pc := 16) dX4_readClause_16 (by decide) ?_
  refine z_ic_le (tgt := 26) (pc := 18) dX4_readClause_18 (by decide) (fun _ => ?_) (fun _ => ?_)
  · refine z_aload_n (x := a) (pc := 26) dX4_readClause_26 rfl rfl ?_
    refine z_cVV (As := []) (rest := []) hG.1 (m_X4_goOn hG h a) (fun _ e => z_gdb e) oX4_goOn (pc := 27) dX4_readClause_27 rfl w_553 rfl rfl rfl (fun h6 => ?_)
    refine z_iload_n (x := t3) (pc := 30) dX4_readClause_30 rfl rfl ?_
    refine z_jn 155 (fun (h7 : Z_H) => [some (.ref a), none]) (fun (h7 : Z_H) => []) (fun (h7 : Z_H) => h7) ?_ ?_
    · rintro h7
      try dsimp only
      refine z_aload_n (x := a) (pc := 155) dX4_readClause_155 rfl rfl ?_
      refine z_getR cX4 (pc := 156) dX4_readClause_156 (j := 2) (by decide) rfl w_295 (fun r9 => ?_)
      refine z_aload_n (x := a) (pc := 159) dX4_readClause_159 rfl rfl ?_
      refine z_getI cX4 (pc := 160) dX4_readClause_160 (j := 7) (by decide) rfl w_300 (fun t10 => ?_)
      refine z_aldI (pc := 163) dX4_readClause_163 (fun t11 => ?_)
      refine z_iconst (v := 2) (pc := 164) dX4_readClause_164 (by decide) ?_
      refine z_ic_ne (tgt := 175) (pc := 165) dX4_readClause_165 (by decide) (fun _ => ?_) (fun _ => ?_)
      · refine z_aload_n (x := a) (pc := 175) dX4_readClause_175 rfl rfl ?_
        refine z_cVV (As := []) (rest := []) hG.1 (m_X4_breakOff hG h7 a) (fun _ e => z_gdb e) oX4_breakOff (pc := 176) dX4_readClause_176 rfl w_549 rfl rfl rfl (fun h12 => ?_)
        exact z_return (pc := 179) dX4_readClause_179 rfl rfl
      refine z_aload_n (x := a) (pc := 168) dX4_readClause_168 rfl rfl ?_
      refine z_cVV (As := []) (rest := []) hG.1 (m_X4_goOn hG h7 a) (fun _ e => z_gdb e) oX4_goOn (pc := 169) dX4_readClause_169 rfl w_553 rfl rfl rfl (fun h13 => ?_)
      refine z_goto (tgt := 179) (pc := 172) dX4_readClause_172 (by decide) ?_
      exact z_return (pc := 179) dX4_readClause_179 rfl rfl
    intro j8 hj8
    refine z_bz (fun hs0 => ?_) (fun hs0 => ?_)
    · refine z_tsw (tgt := 68) (off := 37) (pc := 31) dX4_readClause_31 (by rw [hs0]; decide) (by rw [hs0]; decide) (by rw [hs0]; rfl) (by decide) ?_
      refine z_aload_n (x := a) (pc := 68) dX4_readClause_68 rfl rfl ?_
      refine z_cVV (As := []) (rest := []) hG.1 (m_X4_readLevel hG h6 a) (fun _ e => z_gdb e) oX4_readLevel (pc := 69) dX4_readClause_69 rfl w_557 rfl rfl rfl (fun h14 => ?_)
      refine z_goto (tgt := 155) (pc := 72) dX4_readClause_72 (by decide) ?_
      exact z_wk (hj8 h14) (And.intro rfl trivial)
    refine z_bz (fun hs1 => ?_) (fun hs1 => ?_)
    · refine z_tsw (tgt := 75) (off := 44) (pc := 31) dX4_readClause_31 (by rw [hs1]; decide) (by rw [hs1]; decide) (by rw [hs1]; rfl) (by decide) ?_
      refine z_aload_n (x := a) (pc := 75) dX4_readClause_75 rfl rfl ?_
      refine z_cVV (As := []) (rest := []) hG.1 (m_X4_readRank hG h6 a) (fun _ e => z_gdb e) oX4_readRank (pc := 76) dX4_readClause_76 rfl w_577 rfl rfl rfl (fun h15 => ?_)
      refine z_goto (tgt := 155) (pc := 79) dX4_readClause_79 (by decide) ?_
      exact z_wk (hj8 h15) (And.intro rfl trivial)
    refine z_bz (fun hs2 => ?_) (fun hs2 => ?_)
    · refine z_tsw (tgt := 82) (off := 51) (pc := 31) dX4_readClause_31 (by rw [hs2]; decide) (by rw [hs2]; decide) (by rw [hs2]; rfl) (by decide) ?_
      refine z_aload_n (x := a) (pc := 82) dX4_readClause_82 rfl rfl ?_
      refine z_cVV (As := []) (rest := []) hG.1 (m_X4_readOpens hG h6 a) (fun _ e => z_gdb e) oX4_readOpens (pc := 83) dX4_readClause_83 rfl w_581 rfl rfl rfl (fun h16 => ?_)
      refine z_goto (tgt := 155) (pc := 86) dX4_readClause_86 (by decide) ?_
      exact z_wk (hj8 h16) (And.intro rfl trivial)
    refine z_bz (fun hs3 => ?_) (fun hs3 => ?_)
    · refine z_tsw (tgt := 89) (off := 58) (pc := 31) dX4_readClause_31 (by rw [hs3]; decide) (by rw [hs3]; decide) (by rw [hs3]; rfl) (by decide) ?_
      refine z_aload_n (x := a) (pc := 89) dX4_readClause_89 rfl rfl ?_
      refine z_getR cX4 (pc := 90) dX4_readClause_90 (j := 0) (by decide) rfl w_292 (fun r17 => ?_)
      refine z_aload_n (x := a) (pc := 93) dX4_readClause_93 rfl rfl ?_
      refine z_iconst (v := 0) (pc := 94) dX4_readClause_94 (by decide) ?_
      refine z_sipush (v := 9999) (pc := 95) dX4_readClause_95 (by decide) ?_
      refine z_dVI (As := [.int 0, .int 9999]) (rest := [.ref r17]) hG.1 (m_X4_number hG h6 a 0 9999) (fun _ e => z_gdb e) oX4_number (pc := 98) dX4_readClause_98 rfl w_561 rfl rfl rfl (fun t18 h19 => ?_)
      refine z_putI cX3 (pc := 101) dX4_readClause_101 (j := 0) (by decide) rfl rfl w_66 (fun h20 => ?_)
      refine z_goto (tgt := 155) (pc := 104) dX4_readClause_104 (by decide) ?_
      exact z_wk (hj8 h20) (And.intro rfl trivial)
    refine z_bz (fun hs4 => ?_) (fun hs4 => ?_)
    · refine z_tsw (tgt := 107) (off := 76) (pc := 31) dX4_readClause_31 (by rw [hs4]; decide) (by rw [hs4]; decide) (by rw [hs4]; rfl) (by decide) ?_
      refine z_aload_n (x := a) (pc := 107) dX4_readClause_107 rfl rfl ?_
      refine z_getR cX4 (pc := 108) dX4_readClause_108 (j := 0) (by decide) rfl w_292 (fun r21 => ?_)
      refine z_aload_n (x := a) (pc := 111) dX4_readClause_111 rfl rfl ?_
      refine z_iconst (v := 0) (pc := 112) dX4_readClause_112 (by decide) ?_
      refine z_bipush (v := 99) (pc := 113) dX4_readClause_113 (by decide) ?_
      refine z_dVI (As := [.int 0, .int 99]) (rest := [.ref r21]) hG.1 (m_X4_number hG h6 a 0 99) (fun _ e => z_gdb e) oX4_number (pc := 115) dX4_readClause_115 rfl w_561 rfl rfl rfl (fun t22 h23 => ?_)
      refine z_putI cX3 (pc := 118) dX4_readClause_118 (j := 1) (by decide) rfl rfl w_71 (fun h24 => ?_)
      refine z_goto (tgt := 155) (pc := 121) dX4_readClause_121 (by decide) ?_
      exact z_wk (hj8 h24) (And.intro rfl trivial)
    refine z_bz (fun hs5 => ?_) (fun hs5 => ?_)
    · refine z_tsw (tgt := 124) (off := 93) (pc := 31) dX4_readClause_31 (by rw [hs5]; decide) (by rw [hs5]; decide) (by rw [hs5]; rfl) (by decide) ?_
      refine z_aload_n (x := a) (pc := 124) dX4_readClause_124 rfl rfl ?_
      refine z_getR cX4 (pc := 125) dX4_readClause_125 (j := 0) (by decide) rfl w_292 (fun r25 => ?_)
      refine z_aload_n (x := a) (pc := 128) dX4_readClause_128 rfl rfl ?_
      refine z_iconst (v := 0) (pc := 129) dX4_readClause_129 (by decide) ?_
      refine z_bipush (v := 12) (pc := 130) dX4_readClause_130 (by decide) ?_
      refine z_dVI (As := [.int 0, .int 12]) (rest := [.ref r25]) hG.1 (m_X4_number hG h6 a 0 12) (fun _ e => z_gdb e) oX4_number (pc := 132) dX4_readClause_132 rfl w_561 rfl rfl rfl (fun t26 h27 => ?_)
      refine z_putI cX3 (pc := 135) dX4_readClause_135 (j := 2) (by decide) rfl rfl w_75 (fun h28 => ?_)
      refine z_goto (tgt := 155) (pc := 138) dX4_readClause_138 (by decide) ?_
      exact z_wk (hj8 h28) (And.intro rfl trivial)
    refine z_tswO (tgt := 141) (pc := 31) dX4_readClause_31 (z_out (fun v h1 h2 => by
      have hv : v = 4 ∨ v = 5 ∨ v = 6 ∨ v = 7 ∨ v = 8 ∨ v = 9 := by omega
      rcases hv with rfl | rfl | rfl | rfl | rfl | rfl
      · exact hs0
      · exact hs1
      · exact hs2
      · exact hs3
      · exact hs4
      · exact hs5)) (by decide) ?_
    refine z_aload_n (x := a) (pc := 141) dX4_readClause_141 rfl rfl ?_
    refine z_getR cX4 (pc := 142) dX4_readClause_142 (j := 0) (by decide) rfl w_292 (fun r29 => ?_)
    refine z_aload_n (x := a) (pc := 145) dX4_readClause_145 rfl rfl ?_
    refine z_iconst (v := 1) (pc := 146) dX4_readClause_146 (by decide) ?_
    refine z_bipush (v := 6) (pc := 147) dX4_readClause_147 (by decide) ?_
    refine z_dVI (As := [.int 1, .int 6]) (rest := [.ref r29]) hG.1 (m_X4_number hG h6 a 1 6) (fun _ e => z_gdb e) oX4_number (pc := 149) dX4_readClause_149 rfl w_561 rfl rfl rfl (fun t30 h31 => ?_)
    refine z_putI cX3 (pc := 152) dX4_readClause_152 (j := 3) (by decide) rfl rfl w_78 (fun h32 => ?_)
    exact z_wk (hj8 h32) (And.intro rfl trivial)
  exact z_wk (hj4 ()) (And.intro rfl trivial)
set_option maxHeartbeats 2000000 in
set_option maxRecDepth 20000 in
theorem m_X4_read {G : Z_G} (hG : z_GG G) (h : Z_H) (a : Nat) : z_Met G iX4_read [.ref a] h ((f_X4_read h a).bind fun h1 => some (0, h1)) := by
  refine z_in (la := [some (.ref a), none]) (by decide) rfl rfl rfl ?_
  unfold f_X4_read
  refine z_gg (fun _ => ?_)
  refine z_aload_n (x := a) (pc := 0) dX4_read_0 rfl rfl ?_
  refine z_iconst (v := 0) (pc := 1) dX4_read_1 (by decide) ?_
  refine z_putI cX4 (pc := 2) dX4_read_2 (j := 7) (by decide) rfl rfl w_300 (fun h1 => ?_)
  refine z_aload_n (x := a) (pc := 5) dX4_read_5 rfl rfl ?_
  refine z_iconst (v := (-1)) (pc := 6) dX4_read_6 (by decide) ?_
  refine z_putI cX4 (pc := 7) dX4_read_7 (j := 8) (by decide) rfl rfl w_301 (fun h2 => ?_)
  refine z_aload_n (x := a) (pc := 10) dX4_read_10 rfl rfl ?_
  refine z_iconst (v := 0) (pc := 11) dX4_read_11 (by decide) ?_
  refine z_putI cX4 (pc := 12) dX4_read_12 (j := 9) (by decide) rfl rfl w_302 (fun h3 => ?_)
  refine z_aload_n (x := a) (pc := 15) dX4_read_15 rfl rfl ?_
  refine z_iconst (v := (-1)) (pc := 16) dX4_read_16 (by decide) ?_
  refine z_putI cX4 (pc := 17) dX4_read_17 (j := 10) (by decide) rfl rfl w_303 (fun h4 => ?_)
  refine z_aload_n (x := a) (pc := 20) dX4_read_20 rfl rfl ?_
  refine z_getR cX4 (pc := 21) dX4_read_21 (j := 0) (by decide) rfl w_292 (fun r5 => ?_)
  refine z_cVV (As := []) (rest := []) hG.1 (m_X3_setFirst hG h4 r5) (fun _ e => z_gdb e) oX3_setFirst (pc := 24) dX4_read_24 rfl w_544 rfl rfl rfl (fun h6 => ?_)
  refine z_iconst (v := 0) (pc := 27) dX4_read_27 (by decide) ?_
  refine z_istore_n (i := 1) (la' := [some (.ref a), some (.int 0)]) (pc := 28) dX4_read_28 rfl (by decide) rfl rfl ?_
  refine z_lp (T := Z_H) (s0 := (0, h6)) 29 (fun ((v7, h8) : Int32 × Z_H) => [some (.ref a), some (.int v7)]) (fun ((v7, h8) : Int32 × Z_H) => h8) (fun _ => 66) (fun (h9 : Z_H) => [none, none]) (fun (h9 : Z_H) => h9) ?_ ?_
  · rintro h9
    try dsimp only
    exact z_return (pc := 66) dX4_read_66 rfl rfl
  intro k' hx1 rec10 hrec10
  rintro ⟨v7, h8⟩
  unfold f_X4_read_l1
  try dsimp only
  refine z_iload_n (x := v7) (pc := 29) dX4_read_29 rfl rfl ?_
  refine z_sipush (v := 600) (pc := 30) dX4_read_30 (by decide) ?_
  refine z_ic_gt (tgt := 66) (pc := 33) dX4_read_33 (by decide) (fun _ => ?_) (fun _ => ?_)
  · exact z_wk (hx1 h8) trivial
  refine z_aload_n (x := a) (pc := 36) dX4_read_36 rfl rfl ?_
  refine z_getR cX4 (pc := 37) dX4_read_37 (j := 2) (by decide) rfl w_295 (fun r11 => ?_)
  refine z_aload_n (x := a) (pc := 40) dX4_read_40 rfl rfl ?_
  refine z_getI cX4 (pc := 41) dX4_read_41 (j := 7) (by decide) rfl w_300 (fun t12 => ?_)
  refine z_aldI (pc := 44) dX4_read_44 (fun t13 => ?_)
  refine z_if_eq (tgt := 66) (pc := 45) dX4_read_45 (by decide) (fun _ => ?_) (fun _ => ?_)
  · exact z_wk (hx1 h8) trivial
  refine z_aload_n (x := a) (pc := 48) dX4_read_48 rfl rfl ?_
  refine z_getI cX4 (pc := 49) dX4_read_49 (j := 8) (by decide) rfl w_301 (fun t14 => ?_)
  refine z_iconst (v := (-1)) (pc := 52) dX4_read_52 (by decide) ?_
  refine z_ic_ne (tgt := 66) (pc := 53) dX4_read_53 (by decide) (fun _ => ?_) (fun _ => ?_)
  · exact z_wk (hx1 h8) trivial
  refine z_aload_n (x := a) (pc := 56) dX4_read_56 rfl rfl ?_
  refine z_cVV (As := []) (rest := []) hG.1 (m_X4_readClause hG h8 a) (fun _ e => z_gdb e) oX4_readClause (pc := 57) dX4_read_57 rfl w_545 rfl rfl rfl (fun h15 => ?_)
  refine z_iinc (i := 1) (x := v7) (v := (v7 + 1)) (la' := [some (.ref a), some (.int (v7 + 1))]) (pc := 60) dX4_read_60 rfl rfl (by decide) rfl rfl ?_
  refine z_goto (tgt := 29) (pc := 63) dX4_read_63 (by decide) ?_
  exact hrec10 ((v7 + 1), h15)
set_option maxHeartbeats 2000000 in
set_option maxRecDepth 20000 in
theorem m_X4_faultKind {G : Z_G} (hG : z_GG G) (h : Z_H) (a : Nat) : z_Met G iX4_faultKind [.ref a] h ((f_X4_faultKind h a).bind fun r => some (r, h)) := by
  refine z_in (la := [some (.ref a)]) (by decide) rfl rfl rfl ?_
  unfold f_X4_faultKind
  refine z_gg (fun _ => ?_)
  refine z_aload_n (x := a) (pc := 0) dX4_faultKind_0 rfl rfl ?_
  refine z_getI cX4 (pc := 1) dX4_faultKind_1 (j := 8) (by decide) rfl w_301 (fun t1 => ?_)
  refine z_iconst (v := (-1)) (pc := 4) dX4_faultKind_4 (by decide) ?_
  refine z_ic_eq (tgt := 12) (pc := 5) dX4_faultKind_5 (by decide) (fun _ => ?_) (fun _ => ?_)
  · refine z_aload_n (x := a) (pc := 12) dX4_faultKind_12 rfl rfl ?_
    refine z_getI cX4 (pc := 13) dX4_faultKind_13 (j := 9) (by decide) rfl w_302 (fun t2 => ?_)
    exact z_ireturn (pc := 16) dX4_faultKind_16 rfl rfl rfl
  refine z_iconst (v := 1) (pc := 8) dX4_faultKind_8 (by decide) ?_
  refine z_goto (tgt := 16) (pc := 9) dX4_faultKind_9 (by decide) ?_
  exact z_ireturn (pc := 16) dX4_faultKind_16 rfl rfl rfl
set_option maxHeartbeats 2000000 in
set_option maxRecDepth 20000 in
theorem m_X4_faultPlace {G : Z_G} (hG : z_GG G) (h : Z_H) (a : Nat) : z_Met G iX4_faultPlace [.ref a] h ((f_X4_faultPlace h a).bind fun r => some (r, h)) := by
  refine z_in (la := [some (.ref a)]) (by decide) rfl rfl rfl ?_
  unfold f_X4_faultPlace
  refine z_gg (fun _ => ?_)
  refine z_aload_n (x := a) (pc := 0) dX4_faultPlace_0 rfl rfl ?_
  refine z_getI cX4 (pc := 1) dX4_faultPlace_1 (j := 8) (by decide) rfl w_301 (fun t1 => ?_)
  refine z_iconst (v := (-1)) (pc := 4) dX4_faultPlace_4 (by decide) ?_
  refine z_ic_eq (tgt := 15) (pc := 5) dX4_faultPlace_5 (by decide) (fun _ => ?_) (fun _ => ?_)
  · refine z_aload_n (x := a) (pc := 15) dX4_faultPlace_15 rfl rfl ?_
    refine z_getI cX4 (pc := 16) dX4_faultPlace_16 (j := 10) (by decide) rfl w_303 (fun t2 => ?_)
    exact z_ireturn (pc := 19) dX4_faultPlace_19 rfl rfl rfl
  refine z_aload_n (x := a) (pc := 8) dX4_faultPlace_8 rfl rfl ?_
  refine z_getI cX4 (pc := 9) dX4_faultPlace_9 (j := 8) (by decide) rfl w_301 (fun t3 => ?_)
  refine z_goto (tgt := 19) (pc := 12) dX4_faultPlace_12 (by decide) ?_
  exact z_ireturn (pc := 19) dX4_faultPlace_19 rfl rfl rfl
set_option maxHeartbeats 2000000 in
set_option maxRecDepth 20000 in
theorem m_X3_copyFrom {G : Z_G} (hG : z_GG G) (h : Z_H) (a : Nat) (b1 : Nat) : z_Met G iX3_copyFrom [.ref a, .ref b1] h ((f_X3_copyFrom h a b1).bind fun h1 => some (0, h1)) := by
  refine z_in (la := [some (.ref a), some (.ref b1)]) (by decide) rfl rfl rfl ?_
  unfold f_X3_copyFrom
  refine z_gg (fun _ => ?_)
  refine z_aload_n (x := a) (pc := 0) dX3_copyFrom_0 rfl rfl ?_
  refine z_aload_n (x := b1) (pc := 1) dX3_copyFrom_1 rfl rfl ?_
  refine z_getI cX3 (pc := 2) dX3_copyFrom_2 (j := 0) (by decide) rfl w_65 (fun t1 => ?_)
  refine z_putI cX3 (pc := 5) dX3_copyFrom_5 (j := 0) (by decide) rfl rfl w_65 (fun h2 => ?_)
  refine z_aload_n (x := a) (pc := 8) dX3_copyFrom_8 rfl rfl ?_
  refine z_aload_n (x := b1) (pc := 9) dX3_copyFrom_9 rfl rfl ?_
  refine z_getI cX3 (pc := 10) dX3_copyFrom_10 (j := 1) (by decide) rfl w_69 (fun t3 => ?_)
  refine z_putI cX3 (pc := 13) dX3_copyFrom_13 (j := 1) (by decide) rfl rfl w_69 (fun h4 => ?_)
  refine z_aload_n (x := a) (pc := 16) dX3_copyFrom_16 rfl rfl ?_
  refine z_aload_n (x := b1) (pc := 17) dX3_copyFrom_17 rfl rfl ?_
  refine z_getI cX3 (pc := 18) dX3_copyFrom_18 (j := 2) (by decide) rfl w_73 (fun t5 => ?_)
  refine z_putI cX3 (pc := 21) dX3_copyFrom_21 (j := 2) (by decide) rfl rfl w_73 (fun h6 => ?_)
  refine z_aload_n (x := a) (pc := 24) dX3_copyFrom_24 rfl rfl ?_
  refine z_aload_n (x := b1) (pc := 25) dX3_copyFrom_25 rfl rfl ?_
  refine z_getI cX3 (pc := 26) dX3_copyFrom_26 (j := 3) (by decide) rfl w_77 (fun t7 => ?_)
  refine z_putI cX3 (pc := 29) dX3_copyFrom_29 (j := 3) (by decide) rfl rfl w_77 (fun h8 => ?_)
  refine z_aload_n (x := b1) (pc := 32) dX3_copyFrom_32 rfl rfl ?_
  refine z_getR cX3 (pc := 33) dX3_copyFrom_33 (j := 4) (by decide) rfl w_81 (fun r9 => ?_)
  refine z_iconst (v := 0) (pc := 36) dX3_copyFrom_36 (by decide) ?_
  refine z_aload_n (x := a) (pc := 37) dX3_copyFrom_37 rfl rfl ?_
  refine z_getR cX3 (pc := 38) dX3_copyFrom_38 (j := 4) (by decide) rfl w_81 (fun r10 => ?_)
  refine z_iconst (v := 0) (pc := 41) dX3_copyFrom_41 (by decide) ?_
  refine z_aload_n (x := a) (pc := 42) dX3_copyFrom_42 rfl rfl ?_
  refine z_getR cX3 (pc := 43) dX3_copyFrom_43 (j := 4) (by decide) rfl w_81 (fun r11 => ?_)
  refine z_alen (pc := 46) dX3_copyFrom_46 (fun t12 => ?_)
  refine z_cp (pc := 47) dX3_copyFrom_47 w_597 w_445 w_444 w_12 (by decide) (Nat.le_of_ble_eq_true rfl) (fun h13 => ?_)
  refine z_aload_n (x := b1) (pc := 50) dX3_copyFrom_50 rfl rfl ?_
  refine z_getR cX3 (pc := 51) dX3_copyFrom_51 (j := 5) (by decide) rfl w_84 (fun r14 => ?_)
  refine z_iconst (v := 0) (pc := 54) dX3_copyFrom_54 (by decide) ?_
  refine z_aload_n (x := a) (pc := 55) dX3_copyFrom_55 rfl rfl ?_
  refine z_getR cX3 (pc := 56) dX3_copyFrom_56 (j := 5) (by decide) rfl w_84 (fun r15 => ?_)
  refine z_iconst (v := 0) (pc := 59) dX3_copyFrom_59 (by decide) ?_
  refine z_aload_n (x := a) (pc := 60) dX3_copyFrom_60 rfl rfl ?_
  refine z_getR cX3 (pc := 61) dX3_copyFrom_61 (j := 5) (by decide) rfl w_84 (fun r16 => ?_)
  refine z_alen (pc := 64) dX3_copyFrom_64 (fun t17 => ?_)
  refine z_cp (pc := 65) dX3_copyFrom_65 w_597 w_445 w_444 w_12 (by decide) (Nat.le_of_ble_eq_true rfl) (fun h18 => ?_)
  refine z_aload_n (x := b1) (pc := 68) dX3_copyFrom_68 rfl rfl ?_
  refine z_getR cX3 (pc := 69) dX3_copyFrom_69 (j := 6) (by decide) rfl w_87 (fun r19 => ?_)
  refine z_iconst (v := 0) (pc := 72) dX3_copyFrom_72 (by decide) ?_
  refine z_aload_n (x := a) (pc := 73) dX3_copyFrom_73 rfl rfl ?_
  refine z_getR cX3 (pc := 74) dX3_copyFrom_74 (j := 6) (by decide) rfl w_87 (fun r20 => ?_)
  refine z_iconst (v := 0) (pc := 77) dX3_copyFrom_77 (by decide) ?_
  refine z_aload_n (x := a) (pc := 78) dX3_copyFrom_78 rfl rfl ?_
  refine z_getR cX3 (pc := 79) dX3_copyFrom_79 (j := 6) (by decide) rfl w_87 (fun r21 => ?_)
  refine z_alen (pc := 82) dX3_copyFrom_82 (fun t22 => ?_)
  refine z_cp (pc := 83) dX3_copyFrom_83 w_597 w_445 w_444 w_12 (by decide) (Nat.le_of_ble_eq_true rfl) (fun h23 => ?_)
  refine z_aload_n (x := b1) (pc := 86) dX3_copyFrom_86 rfl rfl ?_
  refine z_getR cX3 (pc := 87) dX3_copyFrom_87 (j := 7) (by decide) rfl w_91 (fun r24 => ?_)
  refine z_iconst (v := 0) (pc := 90) dX3_copyFrom_90 (by decide) ?_
  refine z_aload_n (x := a) (pc := 91) dX3_copyFrom_91 rfl rfl ?_
  refine z_getR cX3 (pc := 92) dX3_copyFrom_92 (j := 7) (by decide) rfl w_91 (fun r25 => ?_)
  refine z_iconst (v := 0) (pc := 95) dX3_copyFrom_95 (by decide) ?_
  refine z_aload_n (x := a) (pc := 96) dX3_copyFrom_96 rfl rfl ?_
  refine z_getR cX3 (pc := 97) dX3_copyFrom_97 (j := 7) (by decide) rfl w_91 (fun r26 => ?_)
  refine z_alen (pc := 100) dX3_copyFrom_100 (fun t27 => ?_)
  refine z_cp (pc := 101) dX3_copyFrom_101 w_597 w_445 w_444 w_12 (by decide) (Nat.le_of_ble_eq_true rfl) (fun h28 => ?_)
  refine z_aload_n (x := b1) (pc := 104) dX3_copyFrom_104 rfl rfl ?_
  refine z_getR cX3 (pc := 105) dX3_copyFrom_105 (j := 8) (by decide) rfl w_94 (fun r29 => ?_)
  refine z_iconst (v := 0) (pc := 108) dX3_copyFrom_108 (by decide) ?_
  refine z_aload_n (x := a) (pc := 109) dX3_copyFrom_109 rfl rfl ?_
  refine z_getR cX3 (pc := 110) dX3_copyFrom_110 (j := 8) (by decide) rfl w_94 (fun r30 => ?_)
  refine z_iconst (v := 0) (pc := 113) dX3_copyFrom_113 (by decide) ?_
  refine z_aload_n (x := a) (pc := 114) dX3_copyFrom_114 rfl rfl ?_
  refine z_getR cX3 (pc := 115) dX3_copyFrom_115 (j := 8) (by decide) rfl w_94 (fun r31 => ?_)
  refine z_alen (pc := 118) dX3_copyFrom_118 (fun t32 => ?_)
  refine z_cp (pc := 119) dX3_copyFrom_119 w_597 w_445 w_444 w_12 (by decide) (Nat.le_of_ble_eq_true rfl) (fun h33 => ?_)
  refine z_aload_n (x := b1) (pc := 122) dX3_copyFrom_122 rfl rfl ?_
  refine z_getR cX3 (pc := 123) dX3_copyFrom_123 (j := 9) (by decide) rfl w_95 (fun r34 => ?_)
  refine z_iconst (v := 0) (pc := 126) dX3_copyFrom_126 (by decide) ?_
  refine z_aload_n (x := a) (pc := 127) dX3_copyFrom_127 rfl rfl ?_
  refine z_getR cX3 (pc := 128) dX3_copyFrom_128 (j := 9) (by decide) rfl w_95 (fun r35 => ?_)
  refine z_iconst (v := 0) (pc := 131) dX3_copyFrom_131 (by decide) ?_
  refine z_aload_n (x := a) (pc := 132) dX3_copyFrom_132 rfl rfl ?_
  refine z_getR cX3 (pc := 133) dX3_copyFrom_133 (j := 9) (by decide) rfl w_95 (fun r36 => ?_)
  refine z_alen (pc := 136) dX3_copyFrom_136 (fun t37 => ?_)
  refine z_cp (pc := 137) dX3_copyFrom_137 w_597 w_445 w_444 w_12 (by decide) (Nat.le_of_ble_eq_true rfl) (fun h38 => ?_)
  refine z_aload_n (x := b1) (pc := 140) dX3_copyFrom_140 rfl rfl ?_
  refine z_getR cX3 (pc := 141) dX3_copyFrom_141 (j := 10) (by decide) rfl w_96 (fun r39 => ?_)
  refine z_iconst (v := 0) (pc := 144) dX3_copyFrom_144 (by decide) ?_
  refine z_aload_n (x := a) (pc := 145) dX3_copyFrom_145 rfl rfl ?_
  refine z_getR cX3 (pc := 146) dX3_copyFrom_146 (j := 10) (by decide) rfl w_96 (fun r40 => ?_)
  refine z_iconst (v := 0) (pc := 149) dX3_copyFrom_149 (by decide) ?_
  refine z_aload_n (x := a) (pc := 150) dX3_copyFrom_150 rfl rfl ?_
  refine z_getR cX3 (pc := 151) dX3_copyFrom_151 (j := 10) (by decide) rfl w_96 (fun r41 => ?_)
  refine z_alen (pc := 154) dX3_copyFrom_154 (fun t42 => ?_)
  refine z_cp (pc := 155) dX3_copyFrom_155 w_597 w_445 w_444 w_12 (by decide) (Nat.le_of_ble_eq_true rfl) (fun h43 => ?_)
  exact z_return (pc := 158) dX3_copyFrom_158 rfl rfl
set_option maxHeartbeats 2000000 in
set_option maxRecDepth 20000 in
theorem m_J7_fill_53178 {G : Z_G} (hG : z_GG G) (h : Z_H) (b0 : Nat) (x1 : Int32) : z_Met G iJ7_fill_53178 [.ref b0, .int x1] h ((f_J7_fill_53178 h b0 x1).bind fun h1 => some (0, h1)) := by
  refine z_in (la := [some (.ref b0), some (.int x1), none, none]) (by decide) rfl rfl rfl ?_
  unfold f_J7_fill_53178
  refine z_iconst (v := 0) (pc := 0) dJ7_fill_53178_0 (by decide) ?_
  refine z_istore_n (i := 2) (la' := [some (.ref b0), some (.int x1), some (.int 0), none]) (pc := 1) dJ7_fill_53178_1 rfl (by decide) rfl rfl ?_
  refine z_aload_n (x := b0) (pc := 2) dJ7_fill_53178_2 rfl rfl ?_
  refine z_alen (pc := 3) dJ7_fill_53178_3 (fun t1 => ?_)
  refine z_istore_n (i := 3) (la' := [some (.ref b0), some (.int x1), some (.int 0), some (.int t1)]) (pc := 4) dJ7_fill_53178_4 rfl (by decide) rfl rfl ?_
  refine z_lp (T := Z_H) (s0 := (0, h)) 5 (fun ((v2, h3) : Int32 × Z_H) => [some (.ref b0), some (.int x1), some (.int v2), some (.int t1)]) (fun ((v2, h3) : Int32 × Z_H) => h3) (fun _ => 20) (fun (h4 : Z_H) => [none, none, none, none]) (fun (h4 : Z_H) => h4) ?_ ?_
  · rintro h4
    try dsimp only
    exact z_return (pc := 20) dJ7_fill_53178_20 rfl rfl
  intro k' hx1 rec5 hrec5
  rintro ⟨v2, h3⟩
  unfold f_J7_fill_53178_l1
  try dsimp only
  refine z_iload_n (x := v2) (pc := 5) dJ7_fill_53178_5 rfl rfl ?_
  refine z_iload_n (x := t1) (pc := 6) dJ7_fill_53178_6 rfl rfl ?_
  refine z_ic_ge (tgt := 20) (pc := 7) dJ7_fill_53178_7 (by decide) (fun _ => ?_) (fun _ => ?_)
  · exact z_wk (hx1 h3) trivial
  refine z_aload_n (x := b0) (pc := 10) dJ7_fill_53178_10 rfl rfl ?_
  refine z_iload_n (x := v2) (pc := 11) dJ7_fill_53178_11 rfl rfl ?_
  refine z_iload_n (x := x1) (pc := 12) dJ7_fill_53178_12 rfl rfl ?_
  refine z_astI (pc := 13) dJ7_fill_53178_13 (fun h6 => ?_)
  refine z_iinc (i := 2) (x := v2) (v := (v2 + 1)) (la' := [some (.ref b0), some (.int x1), some (.int (v2 + 1)), some (.int t1)]) (pc := 14) dJ7_fill_53178_14 rfl rfl (by decide) rfl rfl ?_
  refine z_goto (tgt := 5) (pc := 17) dJ7_fill_53178_17 (by decide) ?_
  exact hrec5 ((v2 + 1), h6)
set_option maxHeartbeats 2000000 in
set_option maxRecDepth 20000 in
theorem m_X1_clear {G : Z_G} (hG : z_GG G) (h : Z_H) (a : Nat) : z_Met G iX1_clear [.ref a] h ((f_X1_clear h a).bind fun h1 => some (0, h1)) := by
  refine z_in (la := [some (.ref a)]) (by decide) rfl rfl rfl ?_
  unfold f_X1_clear
  refine z_gg (fun _ => ?_)
  refine z_aload_n (x := a) (pc := 0) dX1_clear_0 rfl rfl ?_
  refine z_getR cX1 (pc := 1) dX1_clear_1 (j := 0) (by decide) rfl w_228 (fun r1 => ?_)
  refine z_iconst (v := 0) (pc := 4) dX1_clear_4 (by decide) ?_
  refine z_cSV (As := [.ref r1, .int 0]) (rest := []) hG.1 (m_J7_fill_53178 hG h r1 0) oJ7_fill_53178 (pc := 5) dX1_clear_5 rfl w_607 rfl rfl rfl (fun h2 => ?_)
  refine z_aload_n (x := a) (pc := 8) dX1_clear_8 rfl rfl ?_
  refine z_getR cX1 (pc := 9) dX1_clear_9 (j := 1) (by decide) rfl w_230 (fun r3 => ?_)
  refine z_iconst (v := 0) (pc := 12) dX1_clear_12 (by decide) ?_
  refine z_cSV (As := [.ref r3, .int 0]) (rest := []) hG.1 (m_J7_fill_53178 hG h2 r3 0) oJ7_fill_53178 (pc := 13) dX1_clear_13 rfl w_607 rfl rfl rfl (fun h4 => ?_)
  exact z_return (pc := 16) dX1_clear_16 rfl rfl
set_option maxHeartbeats 2000000 in
set_option maxRecDepth 20000 in
theorem m_X7_beginAnew {G : Z_G} (hG : z_GG G) (h : Z_H) (a : Nat) : z_Met G iX7_beginAnew [.ref a] h ((f_X7_beginAnew h a).bind fun h1 => some (0, h1)) := by
  refine z_in (la := [some (.ref a)]) (by decide) rfl rfl rfl ?_
  unfold f_X7_beginAnew
  refine z_gg (fun _ => ?_)
  refine z_aload_n (x := a) (pc := 0) dX7_beginAnew_0 rfl rfl ?_
  refine z_iconst (v := 0) (pc := 1) dX7_beginAnew_1 (by decide) ?_
  refine z_putI cX7 (pc := 2) dX7_beginAnew_2 (j := 8) (by decide) rfl rfl w_259 (fun h1 => ?_)
  refine z_aload_n (x := a) (pc := 5) dX7_beginAnew_5 rfl rfl ?_
  refine z_getR cX7 (pc := 6) dX7_beginAnew_6 (j := 2) (by decide) rfl w_245 (fun r2 => ?_)
  refine z_cVV (As := []) (rest := []) hG.1 (m_X0_clear hG h1 r2) (fun _ e => z_gdb e) oX0_clear (pc := 9) dX7_beginAnew_9 rfl w_602 rfl rfl rfl (fun h3 => ?_)
  refine z_aload_n (x := a) (pc := 12) dX7_beginAnew_12 rfl rfl ?_
  refine z_getR cX7 (pc := 13) dX7_beginAnew_13 (j := 3) (by decide) rfl w_249 (fun r4 => ?_)
  refine z_iconst (v := 0) (pc := 16) dX7_beginAnew_16 (by decide) ?_
  refine z_putI cX5 (pc := 17) dX7_beginAnew_17 (j := 0) (by decide) rfl rfl w_184 (fun h5 => ?_)
  refine z_aload_n (x := a) (pc := 20) dX7_beginAnew_20 rfl rfl ?_
  refine z_getR cX7 (pc := 21) dX7_beginAnew_21 (j := 4) (by decide) rfl w_252 (fun r6 => ?_)
  refine z_cVV (As := []) (rest := []) hG.1 (m_X1_clear hG h5 r6) (fun _ e => z_gdb e) oX1_clear (pc := 24) dX7_beginAnew_24 rfl w_603 rfl rfl rfl (fun h7 => ?_)
  exact z_return (pc := 27) dX7_beginAnew_27 rfl rfl
set_option maxHeartbeats 2000000 in
set_option maxRecDepth 20000 in
theorem m_X9_plan {G : Z_G} (hG : z_GG G) (h : Z_H) (a : Nat) : z_Met G iX9_plan [.ref a] h ((f_X9_plan h a).bind some) := by
  refine z_in (la := [some (.ref a)]) (by decide) rfl rfl rfl ?_
  unfold f_X9_plan
  refine z_gg (fun _ => ?_)
  refine z_aload_n (x := a) (pc := 0) dX9_plan_0 rfl rfl ?_
  refine z_getR cX9 (pc := 1) dX9_plan_1 (j := 2) (by decide) rfl w_405 (fun r1 => ?_)
  refine z_aload_n (x := a) (pc := 4) dX9_plan_4 rfl rfl ?_
  refine z_getR cX9 (pc := 5) dX9_plan_5 (j := 0) (by decide) rfl w_403 (fun r2 => ?_)
  refine z_getR cX7 (pc := 8) dX9_plan_8 (j := 0) (by decide) rfl w_240 (fun r3 => ?_)
  refine z_cVV (As := [.ref r3]) (rest := []) hG.1 (m_X4_scan hG h r1 r3) (fun _ e => z_gdb e) oX4_scan (pc := 11) dX9_plan_11 rfl w_435 rfl rfl rfl (fun h4 => ?_)
  refine z_aload_n (x := a) (pc := 14) dX9_plan_14 rfl rfl ?_
  refine z_getR cX9 (pc := 15) dX9_plan_15 (j := 2) (by decide) rfl w_405 (fun r5 => ?_)
  refine z_cVV (As := []) (rest := []) hG.1 (m_X4_read hG h4 r5) (fun _ e => z_gdb e) oX4_read (pc := 18) dX9_plan_18 rfl w_540 rfl rfl rfl (fun h6 => ?_)
  refine z_aload_n (x := a) (pc := 21) dX9_plan_21 rfl rfl ?_
  refine z_getR cX9 (pc := 22) dX9_plan_22 (j := 0) (by decide) rfl w_403 (fun r7 => ?_)
  refine z_getR cX7 (pc := 25) dX9_plan_25 (j := 0) (by decide) rfl w_240 (fun r8 => ?_)
  refine z_iconst (v := 0) (pc := 28) dX9_plan_28 (by decide) ?_
  refine z_putI cX8 (pc := 29) dX9_plan_29 (j := 1) (by decide) rfl rfl w_43 (fun h9 => ?_)
  refine z_aload_n (x := a) (pc := 32) dX9_plan_32 rfl rfl ?_
  refine z_getR cX9 (pc := 33) dX9_plan_33 (j := 0) (by decide) rfl w_403 (fun r10 => ?_)
  refine z_aload_n (x := a) (pc := 36) dX9_plan_36 rfl rfl ?_
  refine z_getR cX9 (pc := 37) dX9_plan_37 (j := 2) (by decide) rfl w_405 (fun r11 => ?_)
  refine z_cVP (As := []) (rest := [.ref r10]) hG.1 (m_X4_faultKind hG h9 r11) (fun _ e => z_gdb e) oX4_faultKind (pc := 40) dX9_plan_40 rfl w_585 rfl rfl rfl (fun t12 => ?_)
  refine z_putI cX7 (pc := 43) dX9_plan_43 (j := 6) (by decide) rfl rfl w_256 (fun h13 => ?_)
  refine z_aload_n (x := a) (pc := 46) dX9_plan_46 rfl rfl ?_
  refine z_getR cX9 (pc := 47) dX9_plan_47 (j := 0) (by decide) rfl w_403 (fun r14 => ?_)
  refine z_aload_n (x := a) (pc := 50) dX9_plan_50 rfl rfl ?_
  refine z_getR cX9 (pc := 51) dX9_plan_51 (j := 2) (by decide) rfl w_405 (fun r15 => ?_)
  refine z_cVP (As := []) (rest := [.ref r14]) hG.1 (m_X4_faultPlace hG h13 r15) (fun _ e => z_gdb e) oX4_faultPlace (pc := 54) dX9_plan_54 rfl w_589 rfl rfl rfl (fun t16 => ?_)
  refine z_putI cX7 (pc := 57) dX9_plan_57 (j := 7) (by decide) rfl rfl w_258 (fun h17 => ?_)
  refine z_aload_n (x := a) (pc := 60) dX9_plan_60 rfl rfl ?_
  refine z_getR cX9 (pc := 61) dX9_plan_61 (j := 0) (by decide) rfl w_403 (fun r18 => ?_)
  refine z_getI cX7 (pc := 64) dX9_plan_64 (j := 6) (by decide) rfl w_256 (fun t19 => ?_)
  refine z_if_eq (tgt := 72) (pc := 67) dX9_plan_67 (by decide) (fun _ => ?_) (fun _ => ?_)
  · refine z_aload_n (x := a) (pc := 72) dX9_plan_72 rfl rfl ?_
    refine z_getR cX9 (pc := 73) dX9_plan_73 (j := 0) (by decide) rfl w_403 (fun r20 => ?_)
    refine z_getR cX7 (pc := 76) dX9_plan_76 (j := 1) (by decide) rfl w_244 (fun r21 => ?_)
    refine z_aload_n (x := a) (pc := 79) dX9_plan_79 rfl rfl ?_
    refine z_getR cX9 (pc := 80) dX9_plan_80 (j := 2) (by decide) rfl w_405 (fun r22 => ?_)
    refine z_getR cX4 (pc := 83) dX9_plan_83 (j := 0) (by decide) rfl w_293 (fun r23 => ?_)
    refine z_cVV (As := [.ref r23]) (rest := []) hG.1 (m_X3_copyFrom hG h17 r21 r23) (fun _ e => z_gdb e) oX3_copyFrom (pc := 86) dX9_plan_86 rfl w_593 rfl rfl rfl (fun h24 => ?_)
    refine z_aload_n (x := a) (pc := 89) dX9_plan_89 rfl rfl ?_
    refine z_getR cX9 (pc := 90) dX9_plan_90 (j := 0) (by decide) rfl w_403 (fun r25 => ?_)
    refine z_cVV (As := []) (rest := []) hG.1 (m_X7_beginAnew hG h24 r25) (fun _ e => z_gdb e) oX7_beginAnew (pc := 93) dX9_plan_93 rfl w_598 rfl rfl rfl (fun h26 => ?_)
    refine z_iconst (v := 0) (pc := 96) dX9_plan_96 (by decide) ?_
    exact z_ireturn (pc := 97) dX9_plan_97 rfl rfl rfl
  refine z_iconst (v := (-1)) (pc := 70) dX9_plan_70 (by decide) ?_
  exact z_ireturn (pc := 71) dX9_plan_71 rfl rfl rfl
set_option maxHeartbeats 2000000 in
set_option maxRecDepth 20000 in
theorem m_X10_see {G : Z_G} (hG : z_GG G) (h : Z_H) (a : Nat) : z_Met G iX10_see [.ref a] h ((f_X10_see h a).bind fun r => some (r, h)) := by
  refine z_in (la := [some (.ref a)]) (by decide) rfl rfl rfl ?_
  unfold f_X10_see
  refine z_gg (fun _ => ?_)
  refine z_aload_n (x := a) (pc := 0) dX10_see_0 rfl rfl ?_
  refine z_getI cX10 (pc := 1) dX10_see_1 (j := 3) (by decide) rfl w_1090 (fun t1 => ?_)
  refine z_aload_n (x := a) (pc := 4) dX10_see_4 rfl rfl ?_
  refine z_getI cX10 (pc := 5) dX10_see_5 (j := 4) (by decide) rfl w_1091 (fun t2 => ?_)
  refine z_ic_ge (tgt := 27) (pc := 8) dX10_see_8 (by decide) (fun _ => ?_) (fun _ => ?_)
  · refine z_iconst (v := (-1)) (pc := 27) dX10_see_27 (by decide) ?_
    exact z_ireturn (pc := 28) dX10_see_28 rfl rfl rfl
  refine z_aload_n (x := a) (pc := 11) dX10_see_11 rfl rfl ?_
  refine z_getR cX10 (pc := 12) dX10_see_12 (j := 2) (by decide) rfl w_1089 (fun r3 => ?_)
  refine z_aload_n (x := a) (pc := 15) dX10_see_15 rfl rfl ?_
  refine z_getI cX10 (pc := 16) dX10_see_16 (j := 3) (by decide) rfl w_1090 (fun t4 => ?_)
  refine z_aldB (pc := 19) dX10_see_19 (fun t5 => ?_)
  refine z_sipush (v := 255) (pc := 20) dX10_see_20 (by decide) ?_
  refine z_iand (pc := 23) dX10_see_23 ?_
  refine z_goto (tgt := 28) (pc := 24) dX10_see_24 (by decide) ?_
  exact z_ireturn (pc := 28) dX10_see_28 rfl rfl rfl
set_option maxHeartbeats 2000000 in
set_option maxRecDepth 20000 in
theorem m_X10_token {G : Z_G} (hG : z_GG G) (h : Z_H) (a : Nat) : z_Met G iX10_token [.ref a] h ((f_X10_token h a).bind fun h1 => some (0, h1)) := by
  refine z_in (la := [some (.ref a), none, none]) (by decide) rfl rfl rfl ?_
  unfold f_X10_token
  refine z_gg (fun _ => ?_)
  refine z_lp (T := Z_H) (s0 := h) 0 (fun (h1 : Z_H) => [some (.ref a), none, none]) (fun (h1 : Z_H) => h1) (fun _ => 31) (fun (h2 : Z_H) => [some (.ref a), none, none]) (fun (h2 : Z_H) => h2) ?_ ?_
  · rintro h2
    try dsimp only
    refine z_aload_n (x := a) (pc := 31) dX10_token_31 rfl rfl ?_
    refine z_aload_n (x := a) (pc := 32) dX10_token_32 rfl rfl ?_
    refine z_getI cX10 (pc := 33) dX10_token_33 (j := 3) (by decide) rfl w_1090 (fun t9 => ?_)
    refine z_putI cX10 (pc := 36) dX10_token_36 (j := 5) (by decide) rfl rfl w_1092 (fun h10 => ?_)
    refine z_aload_n (x := a) (pc := 39) dX10_token_39 rfl rfl ?_
    refine z_cVP (As := []) (rest := []) hG.1 (m_X10_see hG h10 a) (fun _ e => z_gdb e) oX10_see (pc := 40) dX10_token_40 rfl w_1194 rfl rfl rfl (fun t11 => ?_)
    refine z_istore_n (i := 1) (la' := [some (.ref a), some (.int t11), none]) (pc := 43) dX10_token_43 rfl (by decide) rfl rfl ?_
    refine z_aload_n (x := a) (pc := 44) dX10_token_44 rfl rfl ?_
    refine z_lconst (v := 0) (pc := 45) dX10_token_45 (by decide) ?_
    refine z_putL cX10 (pc := 46) dX10_token_46 (j := 8) (by decide) rfl rfl w_1095 (fun h12 => ?_)
    refine z_iconst (v := 0) (pc := 49) dX10_token_49 (by decide) ?_
    refine z_istore_n (i := 2) (la' := [some (.ref a), some (.int t11), some (.int 0)]) (pc := 50) dX10_token_50 rfl (by decide) rfl rfl ?_
    refine z_iload_n (x := t11) (pc := 51) dX10_token_51 rfl rfl ?_
    refine z_if_ge (tgt := 63) (pc := 52) dX10_token_52 (by decide) (fun _ => ?_) (fun _ => ?_)
    · refine z_iload_n (x := t11) (pc := 63) dX10_token_63 rfl rfl ?_
      refine z_bipush (v := 97) (pc := 64) dX10_token_64 (by decide) ?_
      refine z_bipush (v := 122) (pc := 66) dX10_token_66 (by decide) ?_
      refine z_cSP (As := [.int t11, .int 97, .int 122]) (rest := []) hG.1 (m_X10_in hG h12 t11 97 122) oX10_in (pc := 68) dX10_token_68 rfl w_1179 rfl rfl rfl (fun t13 => ?_)
      refine z_if_eq (tgt := 147) (pc := 71) dX10_token_71 (by decide) (fun _ => ?_) (fun _ => ?_)
      · refine z_iload_n (x := t11) (pc := 147) dX10_token_147 rfl rfl ?_
        refine z_bipush (v := 48) (pc := 148) dX10_token_148 (by decide) ?_
        refine z_bipush (v := 57) (pc := 150) dX10_token_150 (by decide) ?_
        refine z_cSP (As := [.int t11, .int 48, .int 57]) (rest := []) hG.1 (m_X10_in hG h12 t11 48 57) oX10_in (pc := 152) dX10_token_152 rfl w_1179 rfl rfl rfl (fun t14 => ?_)
        refine z_if_eq (tgt := 241) (pc := 155) dX10_token_155 (by decide) (fun _ => ?_) (fun _ => ?_)
        · refine z_aload_n (x := a) (pc := 241) dX10_token_241 rfl rfl ?_
          refine z_dup (pc := 242) dX10_token_242 rfl ?_
          refine z_getI cX10 (pc := 243) dX10_token_243 (j := 3) (by decide) rfl w_1090 (fun t15 => ?_)
          refine z_iconst (v := 1) (pc := 246) dX10_token_246 (by decide) ?_
          refine z_iadd (pc := 247) dX10_token_247 ?_
          refine z_putI cX10 (pc := 248) dX10_token_248 (j := 3) (by decide) rfl rfl w_1090 (fun h16 => ?_)
          refine z_aload_n (x := a) (pc := 251) dX10_token_251 rfl rfl ?_
          refine z_iload_n (x := t11) (pc := 252) dX10_token_252 rfl rfl ?_
          refine z_bipush (v := 59) (pc := 253) dX10_token_253 (by decide) ?_
          refine z_jn 263 (fun (y17 : Int32) => [none, none, none]) (fun (y17 : Int32) => [.int y17, .ref a]) (fun (y17 : Int32) => h16) ?_ ?_
          · rintro y17
            try dsimp only
            refine z_putI cX10 (pc := 263) dX10_token_263 (j := 6) (by decide) rfl rfl w_1093 (fun h19 => ?_)
            exact z_return (pc := 266) dX10_token_266 rfl rfl
          intro j18 hj18
          refine z_ic_ne (tgt := 262) (pc := 255) dX10_token_255 (by decide) (fun _ => ?_) (fun _ => ?_)
          · refine z_iconst (v := 1) (pc := 262) dX10_token_262 (by decide) ?_
            exact z_wk (hj18 1) trivial
          refine z_iconst (v := 4) (pc := 258) dX10_token_258 (by decide) ?_
          refine z_goto (tgt := 263) (pc := 259) dX10_token_259 (by decide) ?_
          exact z_wk (hj18 4) trivial
        refine z_aload_n (x := a) (pc := 158) dX10_token_158 rfl rfl ?_
        refine z_iconst (v := 0) (pc := 159) dX10_token_159 (by decide) ?_
        refine z_putI cX10 (pc := 160) dX10_token_160 (j := 7) (by decide) rfl rfl w_1094 (fun h20 => ?_)
        refine z_weak (la' := [some (.ref a), none, some (.int 0)]) (And.intro rfl (And.intro rfl trivial)) ?_
        refine z_lp (T := Int32 × Z_H) (s0 := (0, h20)) 163 (fun ((v21, h22) : Int32 × Z_H) => [some (.ref a), none, some (.int v21)]) (fun ((v21, h22) : Int32 × Z_H) => h22) (fun _ => 224) (fun ((v23, h24) : Int32 × Z_H) => [some (.ref a), none, some (.int v23)]) (fun ((v23, h24) : Int32 × Z_H) => h24) ?_ ?_
        · rintro ⟨v23, h24⟩
          try dsimp only
          refine z_aload_n (x := a) (pc := 224) dX10_token_224 rfl rfl ?_
          refine z_iload_n (x := v23) (pc := 225) dX10_token_225 rfl rfl ?_
          refine z_iconst (v := 4) (pc := 226) dX10_token_226 (by decide) ?_
          refine z_jn 235 (fun (y36 : Int32) => [none, none, none]) (fun (y36 : Int32) => [.int y36, .ref a]) (fun (y36 : Int32) => h24) ?_ ?_
          · rintro y36
            try dsimp only
            refine z_putI cX10 (pc := 235) dX10_token_235 (j := 6) (by decide) rfl rfl w_1093 (fun h38 => ?_)
            refine z_goto (tgt := 266) (pc := 238) dX10_token_238 (by decide) ?_
            exact z_return (pc := 266) dX10_token_266 rfl rfl
          intro j37 hj37
          refine z_ic_le (tgt := 234) (pc := 227) dX10_token_227 (by decide) (fun _ => ?_) (fun _ => ?_)
          · refine z_iconst (v := 3) (pc := 234) dX10_token_234 (by decide) ?_
            exact z_wk (hj37 3) trivial
          refine z_iconst (v := 1) (pc := 230) dX10_token_230 (by decide) ?_
          refine z_goto (tgt := 235) (pc := 231) dX10_token_231 (by decide) ?_
          exact z_wk (hj37 1) trivial
        intro k' hx2 rec25 hrec25
        rintro ⟨v21, h22⟩
        unfold f_X10_token_l2
        try dsimp only
        refine z_aload_n (x := a) (pc := 163) dX10_token_163 rfl rfl ?_
        refine z_cVP (As := []) (rest := []) hG.1 (m_X10_see hG h22 a) (fun _ e => z_gdb e) oX10_see (pc := 164) dX10_token_164 rfl w_1194 rfl rfl rfl (fun t26 => ?_)
        refine z_bipush (v := 48) (pc := 167) dX10_token_167 (by decide) ?_
        refine z_bipush (v := 57) (pc := 169) dX10_token_169 (by decide) ?_
        refine z_cSP (As := [.int t26, .int 48, .int 57]) (rest := []) hG.1 (m_X10_in hG h22 t26 48 57) oX10_in (pc := 171) dX10_token_171 rfl w_1179 rfl rfl rfl (fun t27 => ?_)
        refine z_if_eq (tgt := 224) (pc := 174) dX10_token_174 (by decide) (fun _ => ?_) (fun _ => ?_)
        · exact hx2 (v21, h22)
        refine z_aload_n (x := a) (pc := 177) dX10_token_177 rfl rfl ?_
        refine z_iload_n (x := v21) (pc := 178) dX10_token_178 rfl rfl ?_
        refine z_iconst (v := 4) (pc := 179) dX10_token_179 (by decide) ?_
        refine z_jn 205 (fun (y28 : Int32) => [some (.ref a), none, some (.int v21)]) (fun (y28 : Int32) => [.int y28, .ref a]) (fun (y28 : Int32) => h22) ?_ ?_
        · rintro y28
          try dsimp only
          refine z_putI cX10 (pc := 205) dX10_token_205 (j := 7) (by decide) rfl rfl w_1094 (fun h30 => ?_)
          refine z_aload_n (x := a) (pc := 208) dX10_token_208 rfl rfl ?_
          refine z_dup (pc := 209) dX10_token_209 rfl ?_
          refine z_getI cX10 (pc := 210) dX10_token_210 (j := 3) (by decide) rfl w_1090 (fun t31 => ?_)
          refine z_iconst (v := 1) (pc := 213) dX10_token_213 (by decide) ?_
          refine z_iadd (pc := 214) dX10_token_214 ?_
          refine z_putI cX10 (pc := 215) dX10_token_215 (j := 3) (by decide) rfl rfl w_1090 (fun h32 => ?_)
          refine z_iinc (i := 2) (x := v21) (v := (v21 + 1)) (la' := [some (.ref a), none, some (.int (v21 + 1))]) (pc := 218) dX10_token_218 rfl rfl (by decide) rfl rfl ?_
          refine z_goto (tgt := 163) (pc := 221) dX10_token_221 (by decide) ?_
          exact hrec25 ((v21 + 1), h32)
        intro j29 hj29
        refine z_ic_ge (tgt := 201) (pc := 180) dX10_token_180 (by decide) (fun _ => ?_) (fun _ => ?_)
        · refine z_aload_n (x := a) (pc := 201) dX10_token_201 rfl rfl ?_
          refine z_getI cX10 (pc := 202) dX10_token_202 (j := 7) (by decide) rfl w_1094 (fun t33 => ?_)
          exact hj29 t33
        refine z_bipush (v := 10) (pc := 183) dX10_token_183 (by decide) ?_
        refine z_aload_n (x := a) (pc := 185) dX10_token_185 rfl rfl ?_
        refine z_getI cX10 (pc := 186) dX10_token_186 (j := 7) (by decide) rfl w_1094 (fun t34 => ?_)
        refine z_imul (pc := 189) dX10_token_189 ?_
        refine z_aload_n (x := a) (pc := 190) dX10_token_190 rfl rfl ?_
        refine z_cVP (As := []) (rest := [.int ((10 : Int32) * t34), .ref a]) hG.1 (m_X10_see hG h22 a) (fun _ e => z_gdb e) oX10_see (pc := 191) dX10_token_191 rfl w_1194 rfl rfl rfl (fun t35 => ?_)
        refine z_iadd (pc := 194) dX10_token_194 ?_
        refine z_bipush (v := 48) (pc := 195) dX10_token_195 (by decide) ?_
        refine z_isub (pc := 197) dX10_token_197 ?_
        refine z_goto (tgt := 205) (pc := 198) dX10_token_198 (by decide) ?_
        exact hj29 ((((10 : Int32) * t34) + t35) - 48)
      refine z_weak (la' := [some (.ref a), none, some (.int 0)]) (And.intro rfl (And.intro rfl trivial)) ?_
      refine z_lp (T := Int32 × Z_H) (s0 := (0, h12)) 74 (fun ((v39, h40) : Int32 × Z_H) => [some (.ref a), none, some (.int v39)]) (fun ((v39, h40) : Int32 × Z_H) => h40) (fun _ => 121) (fun ((v41, h42) : Int32 × Z_H) => [some (.ref a), none, some (.int v41)]) (fun ((v41, h42) : Int32 × Z_H) => h42) ?_ ?_
      · rintro ⟨v41, h42⟩
        try dsimp only
        refine z_aload_n (x := a) (pc := 121) dX10_token_121 rfl rfl ?_
        refine z_iload_n (x := v41) (pc := 122) dX10_token_122 rfl rfl ?_
        refine z_bipush (v := 8) (pc := 123) dX10_token_123 (by decide) ?_
        refine z_jn 136 (fun (y51 : Int64) => [some (.ref a), none, none]) (fun (y51 : Int64) => [.long y51, .ref a]) (fun (y51 : Int64) => h42) ?_ ?_
        · rintro y51
          try dsimp only
          refine z_putL cX10 (pc := 136) dX10_token_136 (j := 8) (by decide) rfl rfl w_1095 (fun h53 => ?_)
          refine z_aload_n (x := a) (pc := 139) dX10_token_139 rfl rfl ?_
          refine z_iconst (v := 2) (pc := 140) dX10_token_140 (by decide) ?_
          refine z_putI cX10 (pc := 141) dX10_token_141 (j := 6) (by decide) rfl rfl w_1093 (fun h54 => ?_)
          refine z_goto (tgt := 266) (pc := 144) dX10_token_144 (by decide) ?_
          exact z_return (pc := 266) dX10_token_266 rfl rfl
        intro j52 hj52
        refine z_ic_le (tgt := 132) (pc := 125) dX10_token_125 (by decide) (fun _ => ?_) (fun _ => ?_)
        · refine z_aload_n (x := a) (pc := 132) dX10_token_132 rfl rfl ?_
          refine z_getL cX10 (pc := 133) dX10_token_133 (j := 8) (by decide) rfl w_1095 (fun t55 => ?_)
          exact z_wk (hj52 t55) (And.intro rfl trivial)
        refine z_lconst (v := 0) (pc := 128) dX10_token_128 (by decide) ?_
        refine z_goto (tgt := 136) (pc := 129) dX10_token_129 (by decide) ?_
        exact z_wk (hj52 0) (And.intro rfl trivial)
      intro k' hx3 rec43 hrec43
      rintro ⟨v39, h40⟩
      unfold f_X10_token_l3
      try dsimp only
      refine z_aload_n (x := a) (pc := 74) dX10_token_74 rfl rfl ?_
      refine z_cVP (As := []) (rest := []) hG.1 (m_X10_see hG h40 a) (fun _ e => z_gdb e) oX10_see (pc := 75) dX10_token_75 rfl w_1194 rfl rfl rfl (fun t44 => ?_)
      refine z_bipush (v := 97) (pc := 78) dX10_token_78 (by decide) ?_
      refine z_bipush (v := 122) (pc := 80) dX10_token_80 (by decide) ?_
      refine z_cSP (As := [.int t44, .int 97, .int 122]) (rest := []) hG.1 (m_X10_in hG h40 t44 97 122) oX10_in (pc := 82) dX10_token_82 rfl w_1179 rfl rfl rfl (fun t45 => ?_)
      refine z_if_eq (tgt := 121) (pc := 85) dX10_token_85 (by decide) (fun _ => ?_) (fun _ => ?_)
      · exact hx3 (v39, h40)
      refine z_aload_n (x := a) (pc := 88) dX10_token_88 rfl rfl ?_
      refine z_aload_n (x := a) (pc := 89) dX10_token_89 rfl rfl ?_
      refine z_getL cX10 (pc := 90) dX10_token_90 (j := 8) (by decide) rfl w_1095 (fun t46 => ?_)
      refine z_bipush (v := 8) (pc := 93) dX10_token_93 (by decide) ?_
      refine z_lshl (pc := 95) dX10_token_95 ?_
      refine z_aload_n (x := a) (pc := 96) dX10_token_96 rfl rfl ?_
      refine z_cVP (As := []) (rest := [.long (t46 <<< ((8 : Int32).toInt64 &&& 63)), .ref a]) hG.1 (m_X10_see hG h40 a) (fun _ e => z_gdb e) oX10_see (pc := 97) dX10_token_97 rfl w_1194 rfl rfl rfl (fun t47 => ?_)
      refine z_i2l (pc := 100) dX10_token_100 ?_
      refine z_lor (pc := 101) dX10_token_101 ?_
      refine z_putL cX10 (pc := 102) dX10_token_102 (j := 8) (by decide) rfl rfl w_1095 (fun h48 => ?_)
      refine z_aload_n (x := a) (pc := 105) dX10_token_105 rfl rfl ?_
      refine z_dup (pc := 106) dX10_token_106 rfl ?_
      refine z_getI cX10 (pc := 107) dX10_token_107 (j := 3) (by decide) rfl w_1090 (fun t49 => ?_)
      refine z_iconst (v := 1) (pc := 110) dX10_token_110 (by decide) ?_
      refine z_iadd (pc := 111) dX10_token_111 ?_
      refine z_putI cX10 (pc := 112) dX10_token_112 (j := 3) (by decide) rfl rfl w_1090 (fun h50 => ?_)
      refine z_iinc (i := 2) (x := v39) (v := (v39 + 1)) (la' := [some (.ref a), none, some (.int (v39 + 1))]) (pc := 115) dX10_token_115 rfl rfl (by decide) rfl rfl ?_
      refine z_goto (tgt := 74) (pc := 118) dX10_token_118 (by decide) ?_
      exact hrec43 ((v39 + 1), h50)
    refine z_aload_n (x := a) (pc := 55) dX10_token_55 rfl rfl ?_
    refine z_iconst (v := 0) (pc := 56) dX10_token_56 (by decide) ?_
    refine z_putI cX10 (pc := 57) dX10_token_57 (j := 6) (by decide) rfl rfl w_1093 (fun h56 => ?_)
    refine z_goto (tgt := 266) (pc := 60) dX10_token_60 (by decide) ?_
    exact z_return (pc := 266) dX10_token_266 rfl rfl
  intro k' hx1 rec3 hrec3
  rintro h1
  unfold f_X10_token_l1
  try dsimp only [lt]
  refine z_aload_n (x := a) (pc := 0) dX10_token_0 rfl rfl ?_
  refine z_cVP (As := []) (rest := []) hG.1 (m_X10_see hG h1 a) (fun _ e => z_gdb e) oX10_see (pc := 1) dX10_token_1 rfl w_1194 rfl rfl rfl (fun t4 => ?_)
  refine z_bipush (v := 10) (pc := 4) dX10_token_4 (by decide) ?_
  refine z_jn 18 (fun (_ : Unit) => [some (.ref a), none, none]) (fun (_ : Unit) => []) (fun (_ : Unit) => h1) ?_ ?_
  · rintro _
    try dsimp only
    refine z_aload_n (x := a) (pc := 18) dX10_token_18 rfl rfl ?_
    refine z_dup (pc := 19) dX10_token_19 rfl ?_
    refine z_getI cX10 (pc := 20) dX10_token_20 (j := 3) (by decide) rfl w_1090 (fun t6 => ?_)
    refine z_iconst (v := 1) (pc := 23) dX10_token_23 (by decide) ?_
    refine z_iadd (pc := 24) dX10_token_24 ?_
    refine z_putI cX10 (pc := 25) dX10_token_25 (j := 3) (by decide) rfl rfl w_1090 (fun h7 => ?_)
    refine z_goto (tgt := 0) (pc := 28) dX10_token_28 (by decide) ?_
    exact hrec3 h7
  intro j5 hj5
  refine z_ic_eq (tgt := 18) (pc := 6) dX10_token_6 (by decide) (fun _ => ?_) (fun _ => ?_)
  · exact hj5 ()
  refine z_aload_n (x := a) (pc := 9) dX10_token_9 rfl rfl ?_
  refine z_cVP (As := []) (rest := []) hG.1 (m_X10_see hG h1 a) (fun _ e => z_gdb e) oX10_see (pc := 10) dX10_token_10 rfl w_1194 rfl rfl rfl (fun t8 => ?_)
  refine z_bipush (v := 32) (pc := 13) dX10_token_13 (by decide) ?_
  refine z_ic_ne (tgt := 31) (pc := 15) dX10_token_15 (by decide) (fun _ => ?_) (fun _ => ?_)
  · exact hx1 h1
  exact hj5 ()
set_option maxHeartbeats 2000000 in
set_option maxRecDepth 20000 in
theorem m_X10_fails {G : Z_G} (hG : z_GG G) (h : Z_H) (a : Nat) : z_Met G iX10_fails [.ref a] h ((f_X10_fails h a).bind some) := by
  refine z_in (la := [some (.ref a)]) (by decide) rfl rfl rfl ?_
  unfold f_X10_fails
  refine z_gg (fun _ => ?_)
  refine z_aload_n (x := a) (pc := 0) dX10_fails_0 rfl rfl ?_
  refine z_aload_n (x := a) (pc := 1) dX10_fails_1 rfl rfl ?_
  refine z_getI cX10 (pc := 2) dX10_fails_2 (j := 5) (by decide) rfl w_1092 (fun t1 => ?_)
  refine z_putI cX10 (pc := 5) dX10_fails_5 (j := 9) (by decide) rfl rfl w_1096 (fun h2 => ?_)
  refine z_iconst (v := 0) (pc := 8) dX10_fails_8 (by decide) ?_
  exact z_ireturn (pc := 9) dX10_fails_9 rfl (by decide) rfl
set_option maxHeartbeats 2000000 in
set_option maxRecDepth 20000 in
theorem m_X10_addsFault {G : Z_G} (hG : z_GG G) (h : Z_H) (a : Nat) (x1 : Int32) (x2 : Int32) : z_Met G iX10_addsFault [.ref a, .int x1, .int x2] h ((f_X10_addsFault h a x1 x2).bind fun h1 => some (0, h1)) := by
  refine z_in (la := [some (.ref a), some (.int x1), some (.int x2)]) (by decide) rfl rfl rfl ?_
  unfold f_X10_addsFault
  refine z_gg (fun _ => ?_)
  refine z_aload_n (x := a) (pc := 0) dX10_addsFault_0 rfl rfl ?_
  refine z_getI cX10 (pc := 1) dX10_addsFault_1 (j := 10) (by decide) rfl w_1097 (fun t1 => ?_)
  refine z_jn 31 (fun (_ : Unit) => [some (.ref a), some (.int x1), some (.int x2)]) (fun (_ : Unit) => []) (fun (_ : Unit) => h) ?_ ?_
  · rintro _
    try dsimp only
    refine z_aload_n (x := a) (pc := 31) dX10_addsFault_31 rfl rfl ?_
    refine z_iload_n (x := x1) (pc := 32) dX10_addsFault_32 rfl rfl ?_
    refine z_putI cX10 (pc := 33) dX10_addsFault_33 (j := 10) (by decide) rfl rfl w_1097 (fun h3 => ?_)
    refine z_aload_n (x := a) (pc := 36) dX10_addsFault_36 rfl rfl ?_
    refine z_iload_n (x := x2) (pc := 37) dX10_addsFault_37 rfl rfl ?_
    refine z_putI cX10 (pc := 38) dX10_addsFault_38 (j := 11) (by decide) rfl rfl w_1098 (fun h4 => ?_)
    exact z_return (pc := 41) dX10_addsFault_41 rfl rfl
  intro j2 hj2
  refine z_if_eq (tgt := 31) (pc := 4) dX10_addsFault_4 (by decide) (fun _ => ?_) (fun _ => ?_)
  · exact hj2 ()
  refine z_iload_n (x := x2) (pc := 7) dX10_addsFault_7 rfl rfl ?_
  refine z_aload_n (x := a) (pc := 8) dX10_addsFault_8 rfl rfl ?_
  refine z_getI cX10 (pc := 9) dX10_addsFault_9 (j := 11) (by decide) rfl w_1098 (fun t5 => ?_)
  refine z_ic_lt (tgt := 31) (pc := 12) dX10_addsFault_12 (by decide) (fun _ => ?_) (fun _ => ?_)
  · exact hj2 ()
  refine z_iload_n (x := x2) (pc := 15) dX10_addsFault_15 rfl rfl ?_
  refine z_aload_n (x := a) (pc := 16) dX10_addsFault_16 rfl rfl ?_
  refine z_getI cX10 (pc := 17) dX10_addsFault_17 (j := 11) (by decide) rfl w_1098 (fun t6 => ?_)
  refine z_ic_ne (tgt := 41) (pc := 20) dX10_addsFault_20 (by decide) (fun _ => ?_) (fun _ => ?_)
  · exact z_return (pc := 41) dX10_addsFault_41 rfl rfl
  refine z_iload_n (x := x1) (pc := 23) dX10_addsFault_23 rfl rfl ?_
  refine z_aload_n (x := a) (pc := 24) dX10_addsFault_24 rfl rfl ?_
  refine z_getI cX10 (pc := 25) dX10_addsFault_25 (j := 10) (by decide) rfl w_1097 (fun t7 => ?_)
  refine z_ic_ge (tgt := 41) (pc := 28) dX10_addsFault_28 (by decide) (fun _ => ?_) (fun _ => ?_)
  · exact z_return (pc := 41) dX10_addsFault_41 rfl rfl
  exact hj2 ()
set_option maxHeartbeats 2000000 in
set_option maxRecDepth 20000 in
theorem m_X10_takes {G : Z_G} (hG : z_GG G) (h : Z_H) (a : Nat) (x1 : Int32) (x2 : Int32) (x3 : Int32) : z_Met G iX10_takes [.ref a, .int x1, .int x2, .int x3] h ((f_X10_takes h a x1 x2 x3).bind some) := by
  refine z_in (la := [some (.ref a), some (.int x1), some (.int x2), some (.int x3)]) (by decide) rfl rfl rfl ?_
  unfold f_X10_takes
  refine z_gg (fun _ => ?_)
  refine z_aload_n (x := a) (pc := 0) dX10_takes_0 rfl rfl ?_
  refine z_getI cX10 (pc := 1) dX10_takes_1 (j := 6) (by decide) rfl w_1093 (fun t1 => ?_)
  refine z_iconst (v := 3) (pc := 4) dX10_takes_4 (by decide) ?_
  refine z_ic_eq (tgt := 13) (pc := 5) dX10_takes_5 (by decide) (fun _ => ?_) (fun _ => ?_)
  · refine z_aload_n (x := a) (pc := 13) dX10_takes_13 rfl rfl ?_
    refine z_getR cX10 (pc := 14) dX10_takes_14 (j := 13) (by decide) rfl w_1100 (fun r2 => ?_)
    refine z_iload_n (x := x1) (pc := 17) dX10_takes_17 rfl rfl ?_
    refine z_aload_n (x := a) (pc := 18) dX10_takes_18 rfl rfl ?_
    refine z_getI cX10 (pc := 19) dX10_takes_19 (j := 7) (by decide) rfl w_1094 (fun t3 => ?_)
    refine z_astI (pc := 22) dX10_takes_22 (fun h4 => ?_)
    refine z_aload_n (x := a) (pc := 23) dX10_takes_23 rfl rfl ?_
    refine z_getI cX10 (pc := 24) dX10_takes_24 (j := 7) (by decide) rfl w_1094 (fun t5 => ?_)
    refine z_iload_n (x := x2) (pc := 27) dX10_takes_27 rfl rfl ?_
    refine z_iload_n (x := x3) (pc := 28) dX10_takes_28 rfl rfl ?_
    refine z_cSP (As := [.int t5, .int x2, .int x3]) (rest := []) hG.1 (m_X10_in hG h4 t5 x2 x3) oX10_in (pc := 29) dX10_takes_29 rfl w_1179 rfl rfl rfl (fun t6 => ?_)
    refine z_jn 51 (fun (h7 : Z_H) => [some (.ref a), none, none, none]) (fun (h7 : Z_H) => []) (fun (h7 : Z_H) => h7) ?_ ?_
    · rintro h7
      try dsimp only
      refine z_aload_n (x := a) (pc := 51) dX10_takes_51 rfl rfl ?_
      refine z_cVV (As := []) (rest := []) hG.1 (m_X10_token hG h7 a) (fun _ e => z_gdb e) oX10_token (pc := 52) dX10_takes_52 rfl w_1190 rfl rfl rfl (fun h9 => ?_)
      refine z_iconst (v := 1) (pc := 55) dX10_takes_55 (by decide) ?_
      exact z_ireturn (pc := 56) dX10_takes_56 rfl (by decide) rfl
    intro j8 hj8
    refine z_if_ne (tgt := 51) (pc := 32) dX10_takes_32 (by decide) (fun _ => ?_) (fun _ => ?_)
    · exact z_wk (hj8 h4) (And.intro rfl trivial)
    refine z_aload_n (x := a) (pc := 35) dX10_takes_35 rfl rfl ?_
    refine z_iconst (v := 2) (pc := 36) dX10_takes_36 (by decide) ?_
    refine z_aload_n (x := a) (pc := 37) dX10_takes_37 rfl rfl ?_
    refine z_getI cX10 (pc := 38) dX10_takes_38 (j := 5) (by decide) rfl w_1092 (fun t10 => ?_)
    refine z_cVV (As := [.int 2, .int t10]) (rest := []) hG.1 (m_X10_addsFault hG h4 a 2 t10) (fun _ e => z_gdb e) oX10_addsFault (pc := 41) dX10_takes_41 rfl w_1211 rfl rfl rfl (fun h11 => ?_)
    refine z_aload_n (x := a) (pc := 44) dX10_takes_44 rfl rfl ?_
    refine z_getR cX10 (pc := 45) dX10_takes_45 (j := 13) (by decide) rfl w_1100 (fun r12 => ?_)
    refine z_iload_n (x := x1) (pc := 48) dX10_takes_48 rfl rfl ?_
    refine z_iload_n (x := x2) (pc := 49) dX10_takes_49 rfl rfl ?_
    refine z_astI (pc := 50) dX10_takes_50 (fun h13 => ?_)
    exact z_wk (hj8 h13) (And.intro rfl trivial)
  refine z_aload_n (x := a) (pc := 8) dX10_takes_8 rfl rfl ?_
  refine z_dVI (As := []) (rest := []) hG.1 (m_X10_fails hG h a) (fun _ e => z_gdb e) oX10_fails (pc := 9) dX10_takes_9 rfl w_1207 rfl rfl rfl (fun t14 h15 => ?_)
  refine z_gg (fun hzz => ?_)
  exact z_ireturn (pc := 12) dX10_takes_12 rfl (congrArg Value.int (of_decide_eq_true hzz)) rfl
set_option maxHeartbeats 2000000 in
set_option maxRecDepth 20000 in
theorem m_X10_nodeBy {G : Z_G} (hG : z_GG G) (h : Z_H) (a : Nat) (w1 : Int64) : z_Met G iX10_nodeBy [.ref a, .long w1] h ((f_X10_nodeBy h a w1).bind fun r => some (r, h)) := by
  refine z_in (la := [some (.ref a), some (.long w1), none]) (by decide) rfl rfl rfl ?_
  unfold f_X10_nodeBy
  refine z_gg (fun _ => ?_)
  refine z_lload_n (x := w1) (pc := 0) dX10_nodeBy_0 rfl rfl ?_
  refine z_ldc2 (v := 1718378868) (pc := 1) dX10_nodeBy_1 w_1223 ?_
  refine z_lcmp (pc := 4) dX10_nodeBy_4 ?_
  refine z_if_ne (tgt := 12) (pc := 5) dX10_nodeBy_5 (by decide) (fun _ => ?_) (fun _ => ?_)
  · refine z_lload_n (x := w1) (pc := 12) dX10_nodeBy_12 rfl rfl ?_
    refine z_ldc2 (v := 125762789926244) (pc := 13) dX10_nodeBy_13 w_1224 ?_
    refine z_lcmp (pc := 16) dX10_nodeBy_16 ?_
    refine z_if_ne (tgt := 24) (pc := 17) dX10_nodeBy_17 (by decide) (fun _ => ?_) (fun _ => ?_)
    · refine z_lload_n (x := w1) (pc := 24) dX10_nodeBy_24 rfl rfl ?_
      refine z_ldc2 (v := 2003395685) (pc := 25) dX10_nodeBy_25 w_1225 ?_
      refine z_lcmp (pc := 28) dX10_nodeBy_28 ?_
      refine z_if_ne (tgt := 36) (pc := 29) dX10_nodeBy_29 (by decide) (fun _ => ?_) (fun _ => ?_)
      · refine z_lload_n (x := w1) (pc := 36) dX10_nodeBy_36 rfl rfl ?_
        refine z_ldc2 (v := 465726693740) (pc := 37) dX10_nodeBy_37 w_1226 ?_
        refine z_lcmp (pc := 40) dX10_nodeBy_40 ?_
        refine z_if_ne (tgt := 48) (pc := 41) dX10_nodeBy_41 (by decide) (fun _ => ?_) (fun _ => ?_)
        · refine z_lload_n (x := w1) (pc := 48) dX10_nodeBy_48 rfl rfl ?_
          refine z_ldc2 (v := 1836020325) (pc := 49) dX10_nodeBy_49 w_1227 ?_
          refine z_lcmp (pc := 52) dX10_nodeBy_52 ?_
          refine z_if_ne (tgt := 60) (pc := 53) dX10_nodeBy_53 (by decide) (fun _ => ?_) (fun _ => ?_)
          · refine z_lload_n (x := w1) (pc := 60) dX10_nodeBy_60 rfl rfl ?_
            refine z_ldc2 (v := 1818588019) (pc := 61) dX10_nodeBy_61 w_1228 ?_
            refine z_lcmp (pc := 64) dX10_nodeBy_64 ?_
            refine z_if_ne (tgt := 72) (pc := 65) dX10_nodeBy_65 (by decide) (fun _ => ?_) (fun _ => ?_)
            · refine z_lload_n (x := w1) (pc := 72) dX10_nodeBy_72 rfl rfl ?_
              refine z_ldc2 (v := 7566701) (pc := 73) dX10_nodeBy_73 w_1229 ?_
              refine z_lcmp (pc := 76) dX10_nodeBy_76 ?_
              refine z_if_ne (tgt := 85) (pc := 77) dX10_nodeBy_77 (by decide) (fun _ => ?_) (fun _ => ?_)
              · refine z_iconst (v := (-1)) (pc := 85) dX10_nodeBy_85 (by decide) ?_
                exact z_ireturn (pc := 86) dX10_nodeBy_86 rfl rfl rfl
              refine z_bipush (v := 6) (pc := 80) dX10_nodeBy_80 (by decide) ?_
              refine z_goto (tgt := 86) (pc := 82) dX10_nodeBy_82 (by decide) ?_
              exact z_ireturn (pc := 86) dX10_nodeBy_86 rfl rfl rfl
            refine z_iconst (v := 5) (pc := 68) dX10_nodeBy_68 (by decide) ?_
            refine z_goto (tgt := 86) (pc := 69) dX10_nodeBy_69 (by decide) ?_
            exact z_ireturn (pc := 86) dX10_nodeBy_86 rfl rfl rfl
          refine z_iconst (v := 4) (pc := 56) dX10_nodeBy_56 (by decide) ?_
          refine z_goto (tgt := 86) (pc := 57) dX10_nodeBy_57 (by decide) ?_
          exact z_ireturn (pc := 86) dX10_nodeBy_86 rfl rfl rfl
        refine z_iconst (v := 3) (pc := 44) dX10_nodeBy_44 (by decide) ?_
        refine z_goto (tgt := 86) (pc := 45) dX10_nodeBy_45 (by decide) ?_
        exact z_ireturn (pc := 86) dX10_nodeBy_86 rfl rfl rfl
      refine z_iconst (v := 2) (pc := 32) dX10_nodeBy_32 (by decide) ?_
      refine z_goto (tgt := 86) (pc := 33) dX10_nodeBy_33 (by decide) ?_
      exact z_ireturn (pc := 86) dX10_nodeBy_86 rfl rfl rfl
    refine z_iconst (v := 1) (pc := 20) dX10_nodeBy_20 (by decide) ?_
    refine z_goto (tgt := 86) (pc := 21) dX10_nodeBy_21 (by decide) ?_
    exact z_ireturn (pc := 86) dX10_nodeBy_86 rfl rfl rfl
  refine z_iconst (v := 0) (pc := 8) dX10_nodeBy_8 (by decide) ?_
  refine z_goto (tgt := 86) (pc := 9) dX10_nodeBy_9 (by decide) ?_
  exact z_ireturn (pc := 86) dX10_nodeBy_86 rfl rfl rfl
set_option maxHeartbeats 2000000 in
set_option maxRecDepth 20000 in
theorem m_X10_lesser {G : Z_G} (hG : z_GG G) (h : Z_H) (x0 : Int32) (x1 : Int32) : z_Met G iX10_lesser [.int x0, .int x1] h ((f_X10_lesser h x0 x1).bind fun r => some (r, h)) := by
  refine z_in (la := [some (.int x0), some (.int x1)]) (by decide) rfl rfl rfl ?_
  unfold f_X10_lesser
  refine z_iload_n (x := x0) (pc := 0) dX10_lesser_0 rfl rfl ?_
  refine z_iload_n (x := x1) (pc := 1) dX10_lesser_1 rfl rfl ?_
  refine z_ic_ge (tgt := 9) (pc := 2) dX10_lesser_2 (by decide) (fun _ => ?_) (fun _ => ?_)
  · refine z_iload_n (x := x1) (pc := 9) dX10_lesser_9 rfl rfl ?_
    exact z_ireturn (pc := 10) dX10_lesser_10 rfl rfl rfl
  refine z_iload_n (x := x0) (pc := 5) dX10_lesser_5 rfl rfl ?_
  refine z_goto (tgt := 10) (pc := 6) dX10_lesser_6 (by decide) ?_
  exact z_ireturn (pc := 10) dX10_lesser_10 rfl rfl rfl
set_option maxHeartbeats 2000000 in
set_option maxRecDepth 20000 in
theorem m_X10_formOf {G : Z_G} (hG : z_GG G) (h : Z_H) (a : Nat) (x1 : Int32) : z_Met G iX10_formOf [.ref a, .int x1] h ((f_X10_formOf h a x1).bind some) := by
  refine z_in (la := [some (.ref a), some (.int x1), none, none, none, none]) (by decide) rfl rfl rfl ?_
  unfold f_X10_formOf
  refine z_gg (fun _ => ?_)
  refine z_bipush (v := 19) (pc := 0) dX10_formOf_0 (by decide) ?_
  refine z_bipush (v := 25) (pc := 2) dX10_formOf_2 (by decide) ?_
  refine z_iload_n (x := x1) (pc := 4) dX10_formOf_4 rfl rfl ?_
  refine z_imul (pc := 5) dX10_formOf_5 ?_
  refine z_iadd (pc := 6) dX10_formOf_6 ?_
  refine z_nm (fun v1 => ?_)
  refine z_istore_n (i := 2) (la' := [some (.ref a), some (.int x1), some (.int v1), none, none, none]) (pc := 7) dX10_formOf_7 rfl (by decide) rfl rfl ?_
  refine z_iconst (v := 1) (pc := 8) dX10_formOf_8 (by decide) ?_
  refine z_istore_n (i := 3) (la' := [some (.ref a), some (.int x1), some (.int v1), some (.int 1), none, none]) (pc := 9) dX10_formOf_9 rfl (by decide) rfl rfl ?_
  refine z_iconst (v := 0) (pc := 10) dX10_formOf_10 (by decide) ?_
  refine z_istore (i := 4) (la' := [some (.ref a), some (.int x1), some (.int v1), some (.int 1), some (.int 0), none]) (pc := 11) dX10_formOf_11 (by decide) rfl rfl ?_
  refine z_weak (la' := [some (.ref a), none, some (.int v1), some (.int 1), some (.int 0), none]) (And.intro rfl (And.intro rfl (And.intro rfl (And.intro rfl trivial)))) ?_
  refine z_lp (T := (Z_H) ⊕ (Z_H) ⊕ (Int32 × Z_H)) (s0 := (1, 0, h)) 13 (fun ((v2, v3, h4) : Int32 × Int32 × Z_H) => [some (.ref a), none, some (.int v1), some (.int v2), some (.int v3), none]) (fun ((v2, v3, h4) : Int32 × Int32 × Z_H) => h4) (fun t => match t with | (.inl h5) => 45 | (.inr (.inl h6)) => 118 | (.inr (.inr (v7, h8))) => 196) (fun t => match t with | (.inl h5) => [some (.ref a), none, none, none, none, none] | (.inr (.inl h6)) => [none, none, none, none, none, none] | (.inr (.inr (v7, h8))) => [some (.ref a), none, some (.int v1), none, some (.int v7), none]) (fun t => match t with | (.inl h5) => h5 | (.inr (.inl h6)) => h6 | (.inr (.inr (v7, h8))) => h8) ?_ ?_
  · rintro (h5 | h6 | ⟨v7, h8⟩)
    · try dsimp only
      refine z_aload_n (x := a) (pc := 45) dX10_formOf_45 rfl rfl ?_
      refine z_dVI (As := []) (rest := []) hG.1 (m_X10_fails hG h5 a) (fun _ e => z_gdb e) oX10_fails (pc := 46) dX10_formOf_46 rfl w_1207 rfl rfl rfl (fun t47 h48 => ?_)
      refine z_gg (fun hzz => ?_)
      exact z_ireturn (pc := 49) dX10_formOf_49 rfl (congrArg Value.int (of_decide_eq_true hzz)) rfl
    · try dsimp only
      refine z_iconst (v := 0) (pc := 118) dX10_formOf_118 (by decide) ?_
      exact z_ireturn (pc := 119) dX10_formOf_119 rfl (by decide) rfl
    · try dsimp only
      refine z_aload_n (x := a) (pc := 196) dX10_formOf_196 rfl rfl ?_
      refine z_getR cX10 (pc := 197) dX10_formOf_197 (j := 12) (by decide) rfl w_1099 (fun r49 => ?_)
      refine z_iload_n (x := v1) (pc := 200) dX10_formOf_200 rfl rfl ?_
      refine z_bipush (v := 8) (pc := 201) dX10_formOf_201 (by decide) ?_
      refine z_iload (x := v7) (pc := 203) dX10_formOf_203 rfl ?_
      refine z_cSP (As := [.int 8, .int v7]) (rest := [.int v1, .ref r49]) hG.1 (m_X10_lesser hG h8 8 v7) oX10_lesser (pc := 205) dX10_formOf_205 rfl w_1230 rfl rfl rfl (fun t50 => ?_)
      refine z_astI (pc := 208) dX10_formOf_208 (fun h51 => ?_)
      refine z_iconst (v := 1) (pc := 209) dX10_formOf_209 (by decide) ?_
      exact z_ireturn (pc := 210) dX10_formOf_210 rfl (by decide) rfl
  intro k' hx1 rec9 hrec9
  rintro ⟨v2, v3, h4⟩
  unfold f_X10_formOf_l1
  try dsimp only
  refine z_iload_n (x := v2) (pc := 13) dX10_formOf_13 rfl rfl ?_
  refine z_if_le (tgt := 196) (pc := 14) dX10_formOf_14 (by decide) (fun _ => ?_) (fun _ => ?_)
  · exact z_wk (hx1 (.inr (.inr (v3, h4)))) (And.intro rfl (And.intro rfl (And.intro rfl trivial)))
  refine z_aload_n (x := a) (pc := 17) dX10_formOf_17 rfl rfl ?_
  refine z_getI cX10 (pc := 18) dX10_formOf_18 (j := 6) (by decide) rfl w_1093 (fun t10 => ?_)
  refine z_iconst (v := 2) (pc := 21) dX10_formOf_21 (by decide) ?_
  refine z_jn 37 (fun (y11 : Int32) => [some (.ref a), none, some (.int v1), some (.int v2), some (.int v3), none]) (fun (y11 : Int32) => [.int y11]) (fun (y11 : Int32) => h4) ?_ ?_
  · rintro y11
    try dsimp only
    refine z_istore (i := 5) (la' := [some (.ref a), none, some (.int v1), some (.int v2), some (.int v3), some (.int y11)]) (pc := 37) dX10_formOf_37 (by decide) rfl rfl ?_
    refine z_iload (x := y11) (pc := 39) dX10_formOf_39 rfl ?_
    refine z_iconst (v := (-1)) (pc := 41) dX10_formOf_41 (by decide) ?_
    refine z_ic_ne (tgt := 50) (pc := 42) dX10_formOf_42 (by decide) (fun _ => ?_) (fun _ => ?_)
    · refine z_iload (x := v3) (pc := 50) dX10_formOf_50 rfl ?_
      refine z_bipush (v := 8) (pc := 52) dX10_formOf_52 (by decide) ?_
      refine z_jn 66 (fun (h13 : Z_H) => [some (.ref a), none, some (.int v1), some (.int v2), some (.int v3), some (.int y11)]) (fun (h13 : Z_H) => []) (fun (h13 : Z_H) => h13) ?_ ?_
      · rintro h13
        try dsimp only
        refine z_aload_n (x := a) (pc := 66) dX10_formOf_66 rfl rfl ?_
        refine z_cVV (As := []) (rest := []) hG.1 (m_X10_token hG h13 a) (fun _ e => z_gdb e) oX10_token (pc := 67) dX10_formOf_67 rfl w_1190 rfl rfl rfl (fun h15 => ?_)
        refine z_aload_n (x := a) (pc := 70) dX10_formOf_70 rfl rfl ?_
        refine z_getR cX10 (pc := 71) dX10_formOf_71 (j := 13) (by decide) rfl w_1100 (fun r16 => ?_)
        refine z_iconst (v := 1) (pc := 74) dX10_formOf_74 (by decide) ?_
        refine z_iconst (v := 0) (pc := 75) dX10_formOf_75 (by decide) ?_
        refine z_astI (pc := 76) dX10_formOf_76 (fun h17 => ?_)
        refine z_aload_n (x := a) (pc := 77) dX10_formOf_77 rfl rfl ?_
        refine z_getR cX10 (pc := 78) dX10_formOf_78 (j := 13) (by decide) rfl w_1100 (fun r18 => ?_)
        refine z_iconst (v := 2) (pc := 81) dX10_formOf_81 (by decide) ?_
        refine z_iconst (v := 0) (pc := 82) dX10_formOf_82 (by decide) ?_
        refine z_astI (pc := 83) dX10_formOf_83 (fun h19 => ?_)
        refine z_iload (x := y11) (pc := 84) dX10_formOf_84 rfl ?_
        refine z_iconst (v := 3) (pc := 86) dX10_formOf_86 (by decide) ?_
        refine z_jn 101 (fun (h20 : Z_H) => [some (.ref a), none, some (.int v1), some (.int v2), some (.int v3), some (.int y11)]) (fun (h20 : Z_H) => []) (fun (h20 : Z_H) => h20) ?_ ?_
        · rintro h20
          try dsimp only
          refine z_iload (x := y11) (pc := 101) dX10_formOf_101 rfl ?_
          refine z_iconst (v := 3) (pc := 103) dX10_formOf_103 (by decide) ?_
          refine z_jn 120 (fun (h22 : Z_H) => [some (.ref a), none, some (.int v1), some (.int v2), some (.int v3), some (.int y11)]) (fun (h22 : Z_H) => []) (fun (h22 : Z_H) => h22) ?_ ?_
          · rintro h22
            try dsimp only
            refine z_iload (x := v3) (pc := 120) dX10_formOf_120 rfl ?_
            refine z_bipush (v := 8) (pc := 122) dX10_formOf_122 (by decide) ?_
            refine z_jn 176 (fun (h24 : Z_H) => [some (.ref a), none, some (.int v1), some (.int v2), some (.int v3), some (.int y11)]) (fun (h24 : Z_H) => []) (fun (h24 : Z_H) => h24) ?_ ?_
            · rintro h24
              try dsimp only
              refine z_iinc (i := 4) (x := v3) (v := (v3 + 1)) (la' := [some (.ref a), none, some (.int v1), some (.int v2), some (.int (v3 + 1)), some (.int y11)]) (pc := 176) dX10_formOf_176 rfl rfl (by decide) rfl rfl ?_
              refine z_iload_n (x := v2) (pc := 179) dX10_formOf_179 rfl rfl ?_
              refine z_iload (x := y11) (pc := 180) dX10_formOf_180 rfl ?_
              refine z_iconst (v := 3) (pc := 182) dX10_formOf_182 (by decide) ?_
              refine z_jn 191 (fun (y26 : Int32) => [some (.ref a), none, some (.int v1), none, some (.int (v3 + 1)), none]) (fun (y26 : Int32) => [.int y26, .int v2]) (fun (y26 : Int32) => h24) ?_ ?_
              · rintro y26
                try dsimp only
                refine z_iadd (pc := 191) dX10_formOf_191 ?_
                refine z_nm (fun v28 => ?_)
                refine z_istore_n (i := 3) (la' := [some (.ref a), none, some (.int v1), some (.int v28), some (.int (v3 + 1)), none]) (pc := 192) dX10_formOf_192 rfl (by decide) rfl rfl ?_
                refine z_goto (tgt := 13) (pc := 193) dX10_formOf_193 (by decide) ?_
                exact hrec9 (v28, (v3 + 1), h24)
              intro j27 hj27
              refine z_ic_gt (tgt := 190) (pc := 183) dX10_formOf_183 (by decide) (fun _ => ?_) (fun _ => ?_)
              · refine z_iconst (v := 1) (pc := 190) dX10_formOf_190 (by decide) ?_
                exact z_wk (hj27 1) (And.intro rfl (And.intro rfl (And.intro rfl trivial)))
              refine z_iconst (v := (-1)) (pc := 186) dX10_formOf_186 (by decide) ?_
              refine z_goto (tgt := 191) (pc := 187) dX10_formOf_187 (by decide) ?_
              exact z_wk (hj27 (-1)) (And.intro rfl (And.intro rfl (And.intro rfl trivial)))
            intro j25 hj25
            refine z_ic_ge (tgt := 176) (pc := 124) dX10_formOf_124 (by decide) (fun _ => ?_) (fun _ => ?_)
            · exact hj25 h22
            refine z_aload_n (x := a) (pc := 127) dX10_formOf_127 rfl rfl ?_
            refine z_getR cX10 (pc := 128) dX10_formOf_128 (j := 12) (by decide) rfl w_1099 (fun r29 => ?_)
            refine z_iload_n (x := v1) (pc := 131) dX10_formOf_131 rfl rfl ?_
            refine z_iconst (v := 1) (pc := 132) dX10_formOf_132 (by decide) ?_
            refine z_iadd (pc := 133) dX10_formOf_133 ?_
            refine z_iload (x := v3) (pc := 134) dX10_formOf_134 rfl ?_
            refine z_iadd (pc := 136) dX10_formOf_136 ?_
            refine z_iload (x := y11) (pc := 137) dX10_formOf_137 rfl ?_
            refine z_astI (pc := 139) dX10_formOf_139 (fun h30 => ?_)
            refine z_aload_n (x := a) (pc := 140) dX10_formOf_140 rfl rfl ?_
            refine z_getR cX10 (pc := 141) dX10_formOf_141 (j := 12) (by decide) rfl w_1099 (fun r31 => ?_)
            refine z_iload_n (x := v1) (pc := 144) dX10_formOf_144 rfl rfl ?_
            refine z_bipush (v := 9) (pc := 145) dX10_formOf_145 (by decide) ?_
            refine z_iadd (pc := 147) dX10_formOf_147 ?_
            refine z_iload (x := v3) (pc := 148) dX10_formOf_148 rfl ?_
            refine z_iadd (pc := 150) dX10_formOf_150 ?_
            refine z_aload_n (x := a) (pc := 151) dX10_formOf_151 rfl rfl ?_
            refine z_getR cX10 (pc := 152) dX10_formOf_152 (j := 13) (by decide) rfl w_1100 (fun r32 => ?_)
            refine z_iconst (v := 1) (pc := 155) dX10_formOf_155 (by decide) ?_
            refine z_aldI (pc := 156) dX10_formOf_156 (fun t33 => ?_)
            refine z_astI (pc := 157) dX10_formOf_157 (fun h34 => ?_)
            refine z_aload_n (x := a) (pc := 158) dX10_formOf_158 rfl rfl ?_
            refine z_getR cX10 (pc := 159) dX10_formOf_159 (j := 12) (by decide) rfl w_1099 (fun r35 => ?_)
            refine z_iload_n (x := v1) (pc := 162) dX10_formOf_162 rfl rfl ?_
            refine z_bipush (v := 17) (pc := 163) dX10_formOf_163 (by decide) ?_
            refine z_iadd (pc := 165) dX10_formOf_165 ?_
            refine z_iload (x := v3) (pc := 166) dX10_formOf_166 rfl ?_
            refine z_iadd (pc := 168) dX10_formOf_168 ?_
            refine z_aload_n (x := a) (pc := 169) dX10_formOf_169 rfl rfl ?_
            refine z_getR cX10 (pc := 170) dX10_formOf_170 (j := 13) (by decide) rfl w_1100 (fun r36 => ?_)
            refine z_iconst (v := 2) (pc := 173) dX10_formOf_173 (by decide) ?_
            refine z_aldI (pc := 174) dX10_formOf_174 (fun t37 => ?_)
            refine z_astI (pc := 175) dX10_formOf_175 (fun h38 => ?_)
            exact hj25 h38
          intro j23 hj23
          refine z_ic_gt (tgt := 120) (pc := 104) dX10_formOf_104 (by decide) (fun _ => ?_) (fun _ => ?_)
          · exact hj23 h20
          refine z_aload_n (x := a) (pc := 107) dX10_formOf_107 rfl rfl ?_
          refine z_iconst (v := 2) (pc := 108) dX10_formOf_108 (by decide) ?_
          refine z_iconst (v := 0) (pc := 109) dX10_formOf_109 (by decide) ?_
          refine z_bipush (v := 20) (pc := 110) dX10_formOf_110 (by decide) ?_
          refine z_dVI (As := [.int 2, .int 0, .int 20]) (rest := []) hG.1 (m_X10_takes hG h20 a 2 0 20) (fun _ e => z_gdb e) oX10_takes (pc := 112) dX10_formOf_112 rfl w_1203 rfl rfl rfl (fun t39 h40 => ?_)
          refine z_if_ne (tgt := 120) (pc := 115) dX10_formOf_115 (by decide) (fun _ => ?_) (fun _ => ?_)
          · exact hj23 h40
          exact z_wk (hx1 (.inr (.inl h40))) trivial
        intro j21 hj21
        refine z_ic_ne (tgt := 101) (pc := 87) dX10_formOf_87 (by decide) (fun _ => ?_) (fun _ => ?_)
        · exact hj21 h19
        refine z_aload_n (x := a) (pc := 90) dX10_formOf_90 rfl rfl ?_
        refine z_iconst (v := 1) (pc := 91) dX10_formOf_91 (by decide) ?_
        refine z_iconst (v := 0) (pc := 92) dX10_formOf_92 (by decide) ?_
        refine z_bipush (v := 99) (pc := 93) dX10_formOf_93 (by decide) ?_
        refine z_dVI (As := [.int 1, .int 0, .int 99]) (rest := []) hG.1 (m_X10_takes hG h19 a 1 0 99) (fun _ e => z_gdb e) oX10_takes (pc := 95) dX10_formOf_95 rfl w_1203 rfl rfl rfl (fun t41 h42 => ?_)
        refine z_if_eq (tgt := 118) (pc := 98) dX10_formOf_98 (by decide) (fun _ => ?_) (fun _ => ?_)
        · exact z_wk (hx1 (.inr (.inl h42))) trivial
        exact hj21 h42
      intro j14 hj14
      refine z_ic_ne (tgt := 66) (pc := 54) dX10_formOf_54 (by decide) (fun _ => ?_) (fun _ => ?_)
      · exact hj14 h4
      refine z_aload_n (x := a) (pc := 57) dX10_formOf_57 rfl rfl ?_
      refine z_iconst (v := 3) (pc := 58) dX10_formOf_58 (by decide) ?_
      refine z_aload_n (x := a) (pc := 59) dX10_formOf_59 rfl rfl ?_
      refine z_getI cX10 (pc := 60) dX10_formOf_60 (j := 5) (by decide) rfl w_1092 (fun t43 => ?_)
      refine z_cVV (As := [.int 3, .int t43]) (rest := []) hG.1 (m_X10_addsFault hG h4 a 3 t43) (fun _ e => z_gdb e) oX10_addsFault (pc := 63) dX10_formOf_63 rfl w_1211 rfl rfl rfl (fun h44 => ?_)
      exact hj14 h44
    exact z_wk (hx1 (.inl h4)) (And.intro rfl trivial)
  intro j12 hj12
  refine z_ic_ne (tgt := 36) (pc := 22) dX10_formOf_22 (by decide) (fun _ => ?_) (fun _ => ?_)
  · refine z_iconst (v := (-1)) (pc := 36) dX10_formOf_36 (by decide) ?_
    exact hj12 (-1)
  refine z_aload_n (x := a) (pc := 25) dX10_formOf_25 rfl rfl ?_
  refine z_aload_n (x := a) (pc := 26) dX10_formOf_26 rfl rfl ?_
  refine z_getL cX10 (pc := 27) dX10_formOf_27 (j := 8) (by decide) rfl w_1095 (fun t45 => ?_)
  refine z_cVP (As := [.long t45]) (rest := []) hG.1 (m_X10_nodeBy hG h4 a t45) (fun _ e => z_gdb e) oX10_nodeBy (pc := 30) dX10_formOf_30 rfl w_1219 rfl rfl rfl (fun t46 => ?_)
  refine z_goto (tgt := 37) (pc := 33) dX10_formOf_33 (by decide) ?_
  exact hj12 t46
set_option maxHeartbeats 2000000 in
set_option maxRecDepth 20000 in
theorem m_X10_line {G : Z_G} (hG : z_GG G) (h : Z_H) (a : Nat) (w1 : Int64) : z_Met G iX10_line [.ref a, .long w1] h ((f_X10_line h a w1).bind some) := by
  refine z_in (la := [some (.ref a), some (.long w1), none, none]) (by decide) rfl rfl rfl ?_
  unfold f_X10_line
  refine z_gg (fun _ => ?_)
  refine z_lload_n (x := w1) (pc := 0) dX10_line_0 rfl rfl ?_
  refine z_ldc2 (v := 465558725996) (pc := 1) dX10_line_1 w_1202 ?_
  refine z_lcmp (pc := 4) dX10_line_4 ?_
  refine z_if_ne (tgt := 43) (pc := 5) dX10_line_5 (by decide) (fun _ => ?_) (fun _ => ?_)
  · refine z_lload_n (x := w1) (pc := 43) dX10_line_43 rfl rfl ?_
    refine z_ldc2 (v := 1918987883) (pc := 44) dX10_line_44 w_1233 ?_
    refine z_lcmp (pc := 47) dX10_line_47 ?_
    refine z_jn 59 (fun (_ : Unit) => [some (.ref a), some (.long w1), none, none]) (fun (_ : Unit) => []) (fun (_ : Unit) => h) ?_ ?_
    · rintro _
      try dsimp only
      refine z_aload_n (x := a) (pc := 59) dX10_line_59 rfl rfl ?_
      refine z_cVV (As := []) (rest := []) hG.1 (m_X10_token hG h a) (fun _ e => z_gdb e) oX10_token (pc := 60) dX10_line_60 rfl w_1190 rfl rfl rfl (fun h2 => ?_)
      refine z_aload_n (x := a) (pc := 63) dX10_line_63 rfl rfl ?_
      refine z_iconst (v := 0) (pc := 64) dX10_line_64 (by decide) ?_
      refine z_lload_n (x := w1) (pc := 65) dX10_line_65 rfl rfl ?_
      refine z_ldc2 (v := 1918987883) (pc := 66) dX10_line_66 w_1233 ?_
      refine z_lcmp (pc := 69) dX10_line_69 ?_
      refine z_jn 78 (fun (y3 : Int32) => [some (.ref a), some (.long w1), none, none]) (fun (y3 : Int32) => [.int y3, .int 0, .ref a]) (fun (y3 : Int32) => h2) ?_ ?_
      · rintro y3
        try dsimp only
        refine z_iconst (v := 3) (pc := 78) dX10_line_78 (by decide) ?_
        refine z_dVI (As := [.int 0, .int y3, .int 3]) (rest := []) hG.1 (m_X10_takes hG h2 a 0 y3 3) (fun _ e => z_gdb e) oX10_takes (pc := 79) dX10_line_79 rfl w_1203 rfl rfl rfl (fun t5 h6 => ?_)
        refine z_if_eq (tgt := 127) (pc := 82) dX10_line_82 (by decide) (fun _ => ?_) (fun _ => ?_)
        · refine z_iconst (v := 0) (pc := 127) dX10_line_127 (by decide) ?_
          exact z_ireturn (pc := 128) dX10_line_128 rfl (by decide) rfl
        refine z_aload_n (x := a) (pc := 85) dX10_line_85 rfl rfl ?_
        refine z_iconst (v := 1) (pc := 86) dX10_line_86 (by decide) ?_
        refine z_iconst (v := 0) (pc := 87) dX10_line_87 (by decide) ?_
        refine z_lload_n (x := w1) (pc := 88) dX10_line_88 rfl rfl ?_
        refine z_ldc2 (v := 1918987883) (pc := 89) dX10_line_89 w_1233 ?_
        refine z_lcmp (pc := 92) dX10_line_92 ?_
        refine z_jn 103 (fun (y7 : Int32) => [some (.ref a), some (.long w1), none, none]) (fun (y7 : Int32) => [.int y7, .int 0, .int 1, .ref a]) (fun (y7 : Int32) => h6) ?_ ?_
        · rintro y7
          try dsimp only
          refine z_dVI (As := [.int 1, .int 0, .int y7]) (rest := []) hG.1 (m_X10_takes hG h6 a 1 0 y7) (fun _ e => z_gdb e) oX10_takes (pc := 103) dX10_line_103 rfl w_1203 rfl rfl rfl (fun t9 h10 => ?_)
          refine z_if_eq (tgt := 127) (pc := 106) dX10_line_106 (by decide) (fun _ => ?_) (fun _ => ?_)
          · refine z_iconst (v := 0) (pc := 127) dX10_line_127 (by decide) ?_
            exact z_ireturn (pc := 128) dX10_line_128 rfl (by decide) rfl
          refine z_lload_n (x := w1) (pc := 109) dX10_line_109 rfl rfl ?_
          refine z_ldc2 (v := 1918987883) (pc := 110) dX10_line_110 w_1233 ?_
          refine z_lcmp (pc := 113) dX10_line_113 ?_
          refine z_jn 129 (fun (h11 : Z_H) => [some (.ref a), some (.long w1), none, none]) (fun (h11 : Z_H) => []) (fun (h11 : Z_H) => h11) ?_ ?_
          · rintro h11
            try dsimp only
            refine z_aload_n (x := a) (pc := 129) dX10_line_129 rfl rfl ?_
            refine z_getR cX10 (pc := 130) dX10_line_130 (j := 12) (by decide) rfl w_1099 (fun r13 => ?_)
            refine z_lload_n (x := w1) (pc := 133) dX10_line_133 rfl rfl ?_
            refine z_ldc2 (v := 1918987883) (pc := 134) dX10_line_134 w_1233 ?_
            refine z_lcmp (pc := 137) dX10_line_137 ?_
            refine z_jn 148 (fun (y14 : Int32) => [some (.ref a), some (.long w1), none, none]) (fun (y14 : Int32) => [.int y14, .ref r13]) (fun (y14 : Int32) => h11) ?_ ?_
            · rintro y14
              try dsimp only
              refine z_aload_n (x := a) (pc := 148) dX10_line_148 rfl rfl ?_
              refine z_getR cX10 (pc := 149) dX10_line_149 (j := 13) (by decide) rfl w_1100 (fun r16 => ?_)
              refine z_iconst (v := 0) (pc := 152) dX10_line_152 (by decide) ?_
              refine z_aldI (pc := 153) dX10_line_153 (fun t17 => ?_)
              refine z_iadd (pc := 154) dX10_line_154 ?_
              refine z_aload_n (x := a) (pc := 155) dX10_line_155 rfl rfl ?_
              refine z_getR cX10 (pc := 156) dX10_line_156 (j := 13) (by decide) rfl w_1100 (fun r18 => ?_)
              refine z_iconst (v := 1) (pc := 159) dX10_line_159 (by decide) ?_
              refine z_aldI (pc := 160) dX10_line_160 (fun t19 => ?_)
              refine z_astI (pc := 161) dX10_line_161 (fun h20 => ?_)
              refine z_aload_n (x := a) (pc := 162) dX10_line_162 rfl rfl ?_
              refine z_getR cX10 (pc := 163) dX10_line_163 (j := 12) (by decide) rfl w_1099 (fun r21 => ?_)
              refine z_bipush (v := 11) (pc := 166) dX10_line_166 (by decide) ?_
              refine z_aload_n (x := a) (pc := 168) dX10_line_168 rfl rfl ?_
              refine z_getR cX10 (pc := 169) dX10_line_169 (j := 13) (by decide) rfl w_1100 (fun r22 => ?_)
              refine z_iconst (v := 0) (pc := 172) dX10_line_172 (by decide) ?_
              refine z_aldI (pc := 173) dX10_line_173 (fun t23 => ?_)
              refine z_iadd (pc := 174) dX10_line_174 ?_
              refine z_lload_n (x := w1) (pc := 175) dX10_line_175 rfl rfl ?_
              refine z_ldc2 (v := 1918987883) (pc := 176) dX10_line_176 w_1233 ?_
              refine z_lcmp (pc := 179) dX10_line_179 ?_
              refine z_jn 206 (fun (y24 : Int32) => [none, none, none, none]) (fun (y24 : Int32) => [.int y24, .int ((11 : Int32) + t23), .ref r21]) (fun (y24 : Int32) => h20) ?_ ?_
              · rintro y24
                try dsimp only
                refine z_astI (pc := 206) dX10_line_206 (fun h26 => ?_)
                refine z_iconst (v := 1) (pc := 207) dX10_line_207 (by decide) ?_
                exact z_ireturn (pc := 208) dX10_line_208 rfl (by decide) rfl
              intro j25 hj25
              refine z_if_ne (tgt := 192) (pc := 180) dX10_line_180 (by decide) (fun _ => ?_) (fun _ => ?_)
              · refine z_aload_n (x := a) (pc := 192) dX10_line_192 rfl rfl ?_
                refine z_getR cX10 (pc := 193) dX10_line_193 (j := 12) (by decide) rfl w_1099 (fun r27 => ?_)
                refine z_bipush (v := 11) (pc := 196) dX10_line_196 (by decide) ?_
                refine z_aload_n (x := a) (pc := 198) dX10_line_198 rfl rfl ?_
                refine z_getR cX10 (pc := 199) dX10_line_199 (j := 13) (by decide) rfl w_1100 (fun r28 => ?_)
                refine z_iconst (v := 0) (pc := 202) dX10_line_202 (by decide) ?_
                refine z_aldI (pc := 203) dX10_line_203 (fun t29 => ?_)
                refine z_iadd (pc := 204) dX10_line_204 ?_
                refine z_aldI (pc := 205) dX10_line_205 (fun t30 => ?_)
                exact z_wk (hj25 t30) trivial
              refine z_aload_n (x := a) (pc := 183) dX10_line_183 rfl rfl ?_
              refine z_getR cX10 (pc := 184) dX10_line_184 (j := 13) (by decide) rfl w_1100 (fun r31 => ?_)
              refine z_iconst (v := 2) (pc := 187) dX10_line_187 (by decide) ?_
              refine z_aldI (pc := 188) dX10_line_188 (fun t32 => ?_)
              refine z_goto (tgt := 206) (pc := 189) dX10_line_189 (by decide) ?_
              exact z_wk (hj25 t32) trivial
            intro j15 hj15
            refine z_if_ne (tgt := 146) (pc := 138) dX10_line_138 (by decide) (fun _ => ?_) (fun _ => ?_)
            · refine z_bipush (v := 15) (pc := 146) dX10_line_146 (by decide) ?_
              exact hj15 15
            refine z_bipush (v := 7) (pc := 141) dX10_line_141 (by decide) ?_
            refine z_goto (tgt := 148) (pc := 143) dX10_line_143 (by decide) ?_
            exact hj15 7
          intro j12 hj12
          refine z_if_ne (tgt := 129) (pc := 114) dX10_line_114 (by decide) (fun _ => ?_) (fun _ => ?_)
          · exact hj12 h10
          refine z_aload_n (x := a) (pc := 117) dX10_line_117 rfl rfl ?_
          refine z_iconst (v := 2) (pc := 118) dX10_line_118 (by decide) ?_
          refine z_iconst (v := 0) (pc := 119) dX10_line_119 (by decide) ?_
          refine z_iconst (v := 4) (pc := 120) dX10_line_120 (by decide) ?_
          refine z_dVI (As := [.int 2, .int 0, .int 4]) (rest := []) hG.1 (m_X10_takes hG h10 a 2 0 4) (fun _ e => z_gdb e) oX10_takes (pc := 121) dX10_line_121 rfl w_1203 rfl rfl rfl (fun t33 h34 => ?_)
          refine z_if_ne (tgt := 129) (pc := 124) dX10_line_124 (by decide) (fun _ => ?_) (fun _ => ?_)
          · exact hj12 h34
          refine z_iconst (v := 0) (pc := 127) dX10_line_127 (by decide) ?_
          exact z_ireturn (pc := 128) dX10_line_128 rfl (by decide) rfl
        intro j8 hj8
        refine z_if_ne (tgt := 102) (pc := 93) dX10_line_93 (by decide) (fun _ => ?_) (fun _ => ?_)
        · refine z_iconst (v := 5) (pc := 102) dX10_line_102 (by decide) ?_
          exact hj8 5
        refine z_sipush (v := 9999) (pc := 96) dX10_line_96 (by decide) ?_
        refine z_goto (tgt := 103) (pc := 99) dX10_line_99 (by decide) ?_
        exact hj8 9999
      intro j4 hj4
      refine z_if_ne (tgt := 77) (pc := 70) dX10_line_70 (by decide) (fun _ => ?_) (fun _ => ?_)
      · refine z_iconst (v := 0) (pc := 77) dX10_line_77 (by decide) ?_
        exact hj4 0
      refine z_iconst (v := 1) (pc := 73) dX10_line_73 (by decide) ?_
      refine z_goto (tgt := 78) (pc := 74) dX10_line_74 (by decide) ?_
      exact hj4 1
    intro j1 hj1
    refine z_if_eq (tgt := 59) (pc := 48) dX10_line_48 (by decide) (fun _ => ?_) (fun _ => ?_)
    · exact hj1 ()
    refine z_lload_n (x := w1) (pc := 51) dX10_line_51 rfl rfl ?_
    refine z_ldc2 (v := 478627065459) (pc := 52) dX10_line_52 w_1234 ?_
    refine z_lcmp (pc := 55) dX10_line_55 ?_
    refine z_if_ne (tgt := 209) (pc := 56) dX10_line_56 (by decide) (fun _ => ?_) (fun _ => ?_)
    · refine z_lload_n (x := w1) (pc := 209) dX10_line_209 rfl rfl ?_
      refine z_ldc2 (v := 487301543009) (pc := 210) dX10_line_210 w_1235 ?_
      refine z_lcmp (pc := 213) dX10_line_213 ?_
      refine z_jn 259 (fun (y35 : Int32) => [some (.ref a), none, none, none]) (fun (y35 : Int32) => [.int y35]) (fun (y35 : Int32) => h) ?_ ?_
      · rintro y35
        try dsimp only
        refine z_istore_n (i := 3) (la' := [some (.ref a), none, none, some (.int y35)]) (pc := 259) dX10_line_259 rfl (by decide) rfl rfl ?_
        refine z_iload_n (x := y35) (pc := 260) dX10_line_260 rfl rfl ?_
        refine z_iconst (v := (-1)) (pc := 261) dX10_line_261 (by decide) ?_
        refine z_ic_ne (tgt := 270) (pc := 262) dX10_line_262 (by decide) (fun _ => ?_) (fun _ => ?_)
        · refine z_aload_n (x := a) (pc := 270) dX10_line_270 rfl rfl ?_
          refine z_cVV (As := []) (rest := []) hG.1 (m_X10_token hG h a) (fun _ e => z_gdb e) oX10_token (pc := 271) dX10_line_271 rfl w_1190 rfl rfl rfl (fun h37 => ?_)
          refine z_aload_n (x := a) (pc := 274) dX10_line_274 rfl rfl ?_
          refine z_iconst (v := 0) (pc := 275) dX10_line_275 (by decide) ?_
          refine z_iload_n (x := y35) (pc := 276) dX10_line_276 rfl rfl ?_
          refine z_bipush (v := 6) (pc := 277) dX10_line_277 (by decide) ?_
          refine z_jn 287 (fun (y38 : Int32) => [some (.ref a), none, none, some (.int y35)]) (fun (y38 : Int32) => [.int y38, .int 0, .ref a]) (fun (y38 : Int32) => h37) ?_ ?_
          · rintro y38
            try dsimp only
            refine z_iload_n (x := y35) (pc := 287) dX10_line_287 rfl rfl ?_
            refine z_iconst (v := 3) (pc := 288) dX10_line_288 (by decide) ?_
            refine z_jn 320 (fun (y40 : Int32) => [some (.ref a), none, none, some (.int y35)]) (fun (y40 : Int32) => [.int y40, .int y38, .int 0, .ref a]) (fun (y40 : Int32) => h37) ?_ ?_
            · rintro y40
              try dsimp only
              refine z_dVI (As := [.int 0, .int y38, .int y40]) (rest := []) hG.1 (m_X10_takes hG h37 a 0 y38 y40) (fun _ e => z_gdb e) oX10_takes (pc := 320) dX10_line_320 rfl w_1203 rfl rfl rfl (fun t42 h43 => ?_)
              refine z_if_ne (tgt := 328) (pc := 323) dX10_line_323 (by decide) (fun _ => ?_) (fun _ => ?_)
              · refine z_aload_n (x := a) (pc := 328) dX10_line_328 rfl rfl ?_
                refine z_getR cX10 (pc := 329) dX10_line_329 (j := 12) (by decide) rfl w_1099 (fun r44 => ?_)
                refine z_iload_n (x := y35) (pc := 332) dX10_line_332 rfl rfl ?_
                refine z_aload_n (x := a) (pc := 333) dX10_line_333 rfl rfl ?_
                refine z_getR cX10 (pc := 334) dX10_line_334 (j := 13) (by decide) rfl w_1100 (fun r45 => ?_)
                refine z_iconst (v := 0) (pc := 337) dX10_line_337 (by decide) ?_
                refine z_aldI (pc := 338) dX10_line_338 (fun t46 => ?_)
                refine z_astI (pc := 339) dX10_line_339 (fun h47 => ?_)
                refine z_iconst (v := 1) (pc := 340) dX10_line_340 (by decide) ?_
                exact z_ireturn (pc := 341) dX10_line_341 rfl (by decide) rfl
              refine z_iconst (v := 0) (pc := 326) dX10_line_326 (by decide) ?_
              exact z_ireturn (pc := 327) dX10_line_327 rfl (by decide) rfl
            intro j41 hj41
            refine z_ic_ne (tgt := 298) (pc := 289) dX10_line_289 (by decide) (fun _ => ?_) (fun _ => ?_)
            · refine z_iload_n (x := y35) (pc := 298) dX10_line_298 rfl rfl ?_
              refine z_iconst (v := 4) (pc := 299) dX10_line_299 (by decide) ?_
              refine z_ic_ne (tgt := 308) (pc := 300) dX10_line_300 (by decide) (fun _ => ?_) (fun _ => ?_)
              · refine z_iload_n (x := y35) (pc := 308) dX10_line_308 rfl rfl ?_
                refine z_iconst (v := 5) (pc := 309) dX10_line_309 (by decide) ?_
                refine z_ic_ne (tgt := 318) (pc := 310) dX10_line_310 (by decide) (fun _ => ?_) (fun _ => ?_)
                · refine z_bipush (v := 6) (pc := 318) dX10_line_318 (by decide) ?_
                  exact hj41 6
                refine z_bipush (v := 12) (pc := 313) dX10_line_313 (by decide) ?_
                refine z_goto (tgt := 320) (pc := 315) dX10_line_315 (by decide) ?_
                exact hj41 12
              refine z_bipush (v := 99) (pc := 303) dX10_line_303 (by decide) ?_
              refine z_goto (tgt := 320) (pc := 305) dX10_line_305 (by decide) ?_
              exact hj41 99
            refine z_sipush (v := 9999) (pc := 292) dX10_line_292 (by decide) ?_
            refine z_goto (tgt := 320) (pc := 295) dX10_line_295 (by decide) ?_
            exact hj41 9999
          intro j39 hj39
          refine z_ic_ne (tgt := 286) (pc := 279) dX10_line_279 (by decide) (fun _ => ?_) (fun _ => ?_)
          · refine z_iconst (v := 0) (pc := 286) dX10_line_286 (by decide) ?_
            exact hj39 0
          refine z_iconst (v := 1) (pc := 282) dX10_line_282 (by decide) ?_
          refine z_goto (tgt := 287) (pc := 283) dX10_line_283 (by decide) ?_
          exact hj39 1
        refine z_aload_n (x := a) (pc := 265) dX10_line_265 rfl rfl ?_
        refine z_dVI (As := []) (rest := []) hG.1 (m_X10_fails hG h a) (fun _ e => z_gdb e) oX10_fails (pc := 266) dX10_line_266 rfl w_1207 rfl rfl rfl (fun t48 h49 => ?_)
        refine z_gg (fun hzz => ?_)
        exact z_ireturn (pc := 269) dX10_line_269 rfl (congrArg Value.int (of_decide_eq_true hzz)) rfl
      intro j36 hj36
      refine z_if_ne (tgt := 221) (pc := 214) dX10_line_214 (by decide) (fun _ => ?_) (fun _ => ?_)
      · refine z_lload_n (x := w1) (pc := 221) dX10_line_221 rfl rfl ?_
        refine z_ldc2 (v := 6513008) (pc := 222) dX10_line_222 w_1236 ?_
        refine z_lcmp (pc := 225) dX10_line_225 ?_
        refine z_if_ne (tgt := 233) (pc := 226) dX10_line_226 (by decide) (fun _ => ?_) (fun _ => ?_)
        · refine z_lload_n (x := w1) (pc := 233) dX10_line_233 rfl rfl ?_
          refine z_ldc2 (v := 1986360180) (pc := 234) dX10_line_234 w_1237 ?_
          refine z_lcmp (pc := 237) dX10_line_237 ?_
          refine z_if_ne (tgt := 245) (pc := 238) dX10_line_238 (by decide) (fun _ => ?_) (fun _ => ?_)
          · refine z_lload_n (x := w1) (pc := 245) dX10_line_245 rfl rfl ?_
            refine z_ldc2 (v := 131294707347319) (pc := 246) dX10_line_246 w_1238 ?_
            refine z_lcmp (pc := 249) dX10_line_249 ?_
            refine z_if_ne (tgt := 258) (pc := 250) dX10_line_250 (by decide) (fun _ => ?_) (fun _ => ?_)
            · refine z_iconst (v := (-1)) (pc := 258) dX10_line_258 (by decide) ?_
              exact z_wk (hj36 (-1)) (And.intro rfl trivial)
            refine z_bipush (v := 6) (pc := 253) dX10_line_253 (by decide) ?_
            refine z_goto (tgt := 259) (pc := 255) dX10_line_255 (by decide) ?_
            exact z_wk (hj36 6) (And.intro rfl trivial)
          refine z_iconst (v := 5) (pc := 241) dX10_line_241 (by decide) ?_
          refine z_goto (tgt := 259) (pc := 242) dX10_line_242 (by decide) ?_
          exact z_wk (hj36 5) (And.intro rfl trivial)
        refine z_iconst (v := 4) (pc := 229) dX10_line_229 (by decide) ?_
        refine z_goto (tgt := 259) (pc := 230) dX10_line_230 (by decide) ?_
        exact z_wk (hj36 4) (And.intro rfl trivial)
      refine z_iconst (v := 3) (pc := 217) dX10_line_217 (by decide) ?_
      refine z_goto (tgt := 259) (pc := 218) dX10_line_218 (by decide) ?_
      exact z_wk (hj36 3) (And.intro rfl trivial)
    exact hj1 ()
  refine z_aload_n (x := a) (pc := 8) dX10_line_8 rfl rfl ?_
  refine z_cVV (As := []) (rest := []) hG.1 (m_X10_token hG h a) (fun _ e => z_gdb e) oX10_token (pc := 9) dX10_line_9 rfl w_1190 rfl rfl rfl (fun h50 => ?_)
  refine z_aload_n (x := a) (pc := 12) dX10_line_12 rfl rfl ?_
  refine z_iconst (v := 0) (pc := 13) dX10_line_13 (by decide) ?_
  refine z_iconst (v := 1) (pc := 14) dX10_line_14 (by decide) ?_
  refine z_iconst (v := 5) (pc := 15) dX10_line_15 (by decide) ?_
  refine z_dVI (As := [.int 0, .int 1, .int 5]) (rest := []) hG.1 (m_X10_takes hG h50 a 0 1 5) (fun _ e => z_gdb e) oX10_takes (pc := 16) dX10_line_16 rfl w_1203 rfl rfl rfl (fun t51 h52 => ?_)
  refine z_if_eq (tgt := 41) (pc := 19) dX10_line_19 (by decide) (fun _ => ?_) (fun _ => ?_)
  · refine z_iconst (v := 0) (pc := 41) dX10_line_41 (by decide) ?_
    exact z_ireturn (pc := 42) dX10_line_42 rfl (by decide) rfl
  refine z_aload_n (x := a) (pc := 22) dX10_line_22 rfl rfl ?_
  refine z_aload_n (x := a) (pc := 23) dX10_line_23 rfl rfl ?_
  refine z_getR cX10 (pc := 24) dX10_line_24 (j := 13) (by decide) rfl w_1100 (fun r53 => ?_)
  refine z_iconst (v := 0) (pc := 27) dX10_line_27 (by decide) ?_
  refine z_aldI (pc := 28) dX10_line_28 (fun t54 => ?_)
  refine z_iconst (v := 1) (pc := 29) dX10_line_29 (by decide) ?_
  refine z_isub (pc := 30) dX10_line_30 ?_
  refine z_dVI (As := [.int (t54 - 1)]) (rest := []) hG.1 (m_X10_formOf hG h52 a (t54 - 1)) (fun _ e => z_gdb e) oX10_formOf (pc := 31) dX10_line_31 rfl w_1215 rfl rfl rfl (fun t55 h56 => ?_)
  refine z_if_eq (tgt := 41) (pc := 34) dX10_line_34 (by decide) (fun _ => ?_) (fun _ => ?_)
  · refine z_iconst (v := 0) (pc := 41) dX10_line_41 (by decide) ?_
    exact z_ireturn (pc := 42) dX10_line_42 rfl (by decide) rfl
  refine z_iconst (v := 1) (pc := 37) dX10_line_37 (by decide) ?_
  refine z_goto (tgt := 42) (pc := 38) dX10_line_38 (by decide) ?_
  exact z_ireturn (pc := 42) dX10_line_42 rfl (by decide) rfl
