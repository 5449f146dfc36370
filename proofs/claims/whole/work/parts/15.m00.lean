set_option maxHeartbeats 2000000 in
set_option maxRecDepth 20000 in
theorem m_X8_init {G : Z_G} (hG : z_GG G) (h : Z_H) (a : Nat) : z_Met G iX8_init [.ref a] h ((f_X8_init h a).bind fun h1 => some (0, h1)) := by
  refine z_in (la := [some (.ref a)]) (by decide) rfl rfl rfl ?_
  unfold f_X8_init
  refine z_aload_n (x := a) (pc := 0) dX8_init_0 rfl rfl ?_
  refine z_objInit (pc := 1) dX8_init_1 w_39 w_26 w_27 (by decide) (Nat.le_of_ble_eq_true rfl) ?_
  refine z_aload_n (x := a) (pc := 4) dX8_init_4 rfl rfl ?_
  refine z_sipush (v := 600) (pc := 5) dX8_init_5 (by decide) ?_
  refine z_nwaB (pc := 8) dX8_init_8 w_50 (fun r1 h2 => ?_)
  refine z_putR cX8 (pc := 10) dX8_init_10 (j := 0) (by decide) rfl rfl rfl rfl w_40 (fun h3 => ?_)
  refine z_aload_n (x := a) (pc := 13) dX8_init_13 rfl rfl ?_
  refine z_iconst (v := 0) (pc := 14) dX8_init_14 (by decide) ?_
  refine z_putI cX8 (pc := 15) dX8_init_15 (j := 1) (by decide) rfl rfl w_42 (fun h4 => ?_)
  exact z_return (pc := 18) dX8_init_18 rfl rfl
set_option maxHeartbeats 2000000 in
set_option maxRecDepth 20000 in
theorem m_X3_setNode {G : Z_G} (hG : z_GG G) (h : Z_H) (a : Nat) (x1 : Int32) (x2 : Int32) (x3 : Int32) (x4 : Int32) (x5 : Int32) : z_Met G iX3_setNode [.ref a, .int x1, .int x2, .int x3, .int x4, .int x5] h ((f_X3_setNode h a x1 x2 x3 x4 x5).bind fun h1 => some (0, h1)) := by
  refine z_in (la := [some (.ref a), some (.int x1), some (.int x2), some (.int x3), some (.int x4), some (.int x5), none]) (by decide) rfl rfl rfl ?_
  unfold f_X3_setNode
  refine z_gg (fun _ => ?_)
  refine z_iload_n (x := x2) (pc := 0) dX3_setNode_0 rfl rfl ?_
  refine z_bipush (v := 8) (pc := 1) dX3_setNode_1 (by decide) ?_
  refine z_ic_ge (tgt := 40) (pc := 3) dX3_setNode_3 (by decide) (fun _ => ?_) (fun _ => ?_)
  · exact z_return (pc := 40) dX3_setNode_40 rfl rfl
  refine z_iload_n (x := x1) (pc := 6) dX3_setNode_6 rfl rfl ?_
  refine z_bipush (v := 8) (pc := 7) dX3_setNode_7 (by decide) ?_
  refine z_imul (pc := 9) dX3_setNode_9 ?_
  refine z_iload_n (x := x2) (pc := 10) dX3_setNode_10 rfl rfl ?_
  refine z_iadd (pc := 11) dX3_setNode_11 ?_
  refine z_nm (fun v1 => ?_)
  refine z_istore (i := 6) (la' := [some (.ref a), some (.int x1), some (.int x2), some (.int x3), some (.int x4), some (.int x5), some (.int v1)]) (pc := 12) dX3_setNode_12 (by decide) rfl rfl ?_
  refine z_aload_n (x := a) (pc := 14) dX3_setNode_14 rfl rfl ?_
  refine z_getR cX3 (pc := 15) dX3_setNode_15 (j := 8) (by decide) rfl w_94 (fun r2 => ?_)
  refine z_iload (x := v1) (pc := 18) dX3_setNode_18 rfl ?_
  refine z_iload_n (x := x3) (pc := 20) dX3_setNode_20 rfl rfl ?_
  refine z_astI (pc := 21) dX3_setNode_21 (fun h3 => ?_)
  refine z_aload_n (x := a) (pc := 22) dX3_setNode_22 rfl rfl ?_
  refine z_getR cX3 (pc := 23) dX3_setNode_23 (j := 9) (by decide) rfl w_95 (fun r4 => ?_)
  refine z_iload (x := v1) (pc := 26) dX3_setNode_26 rfl ?_
  refine z_iload (x := x4) (pc := 28) dX3_setNode_28 rfl ?_
  refine z_astI (pc := 30) dX3_setNode_30 (fun h5 => ?_)
  refine z_aload_n (x := a) (pc := 31) dX3_setNode_31 rfl rfl ?_
  refine z_getR cX3 (pc := 32) dX3_setNode_32 (j := 10) (by decide) rfl w_96 (fun r6 => ?_)
  refine z_iload (x := v1) (pc := 35) dX3_setNode_35 rfl ?_
  refine z_iload (x := x5) (pc := 37) dX3_setNode_37 rfl ?_
  refine z_astI (pc := 39) dX3_setNode_39 (fun h7 => ?_)
  exact z_return (pc := 40) dX3_setNode_40 rfl rfl
set_option maxHeartbeats 2000000 in
set_option maxRecDepth 20000 in
theorem m_X3_setFirst {G : Z_G} (hG : z_GG G) (h : Z_H) (a : Nat) : z_Met G iX3_setFirst [.ref a] h ((f_X3_setFirst h a).bind fun h1 => some (0, h1)) := by
  refine z_in (la := [some (.ref a), none]) (by decide) rfl rfl rfl ?_
  unfold f_X3_setFirst
  refine z_gg (fun _ => ?_)
  refine z_aload_n (x := a) (pc := 0) dX3_setFirst_0 rfl rfl ?_
  refine z_bipush (v := 100) (pc := 1) dX3_setFirst_1 (by decide) ?_
  refine z_putI cX3 (pc := 3) dX3_setFirst_3 (j := 0) (by decide) rfl rfl w_65 (fun h1 => ?_)
  refine z_aload_n (x := a) (pc := 6) dX3_setFirst_6 rfl rfl ?_
  refine z_bipush (v := 30) (pc := 7) dX3_setFirst_7 (by decide) ?_
  refine z_putI cX3 (pc := 9) dX3_setFirst_9 (j := 1) (by decide) rfl rfl w_69 (fun h2 => ?_)
  refine z_aload_n (x := a) (pc := 12) dX3_setFirst_12 rfl rfl ?_
  refine z_iconst (v := 3) (pc := 13) dX3_setFirst_13 (by decide) ?_
  refine z_putI cX3 (pc := 14) dX3_setFirst_14 (j := 2) (by decide) rfl rfl w_73 (fun h3 => ?_)
  refine z_aload_n (x := a) (pc := 17) dX3_setFirst_17 rfl rfl ?_
  refine z_iconst (v := 2) (pc := 18) dX3_setFirst_18 (by decide) ?_
  refine z_putI cX3 (pc := 19) dX3_setFirst_19 (j := 3) (by decide) rfl rfl w_77 (fun h4 => ?_)
  refine z_iconst (v := 0) (pc := 22) dX3_setFirst_22 (by decide) ?_
  refine z_istore_n (i := 1) (la' := [some (.ref a), some (.int 0)]) (pc := 23) dX3_setFirst_23 rfl (by decide) rfl rfl ?_
  refine z_lp (T := Z_H) (s0 := (0, h4)) 24 (fun ((v5, h6) : Int32 × Z_H) => [some (.ref a), some (.int v5)]) (fun ((v5, h6) : Int32 × Z_H) => h6) (fun _ => 62) (fun (h7 : Z_H) => [some (.ref a), none]) (fun (h7 : Z_H) => h7) ?_ ?_
  · rintro h7
    try dsimp only
    refine z_iconst (v := 1) (pc := 62) dX3_setFirst_62 (by decide) ?_
    refine z_istore_n (i := 1) (la' := [some (.ref a), some (.int 1)]) (pc := 63) dX3_setFirst_63 rfl (by decide) rfl rfl ?_
    refine z_lp (T := Z_H) (s0 := (1, h7)) 64 (fun ((v15, h16) : Int32 × Z_H) => [some (.ref a), some (.int v15)]) (fun ((v15, h16) : Int32 × Z_H) => h16) (fun _ => 111) (fun (h17 : Z_H) => [none, none]) (fun (h17 : Z_H) => h17) ?_ ?_
    · rintro h17
      try dsimp only
      exact z_return (pc := 111) dX3_setFirst_111 rfl rfl
    intro k' hx2 rec18 hrec18
    rintro ⟨v15, h16⟩
    unfold f_X3_setFirst_l2
    try dsimp only
    refine z_iload_n (x := v15) (pc := 64) dX3_setFirst_64 rfl rfl ?_
    refine z_iconst (v := 5) (pc := 65) dX3_setFirst_65 (by decide) ?_
    refine z_ic_gt (tgt := 111) (pc := 66) dX3_setFirst_66 (by decide) (fun _ => ?_) (fun _ => ?_)
    · exact z_wk (hx2 h16) trivial
    refine z_aload_n (x := a) (pc := 69) dX3_setFirst_69 rfl rfl ?_
    refine z_iload_n (x := v15) (pc := 70) dX3_setFirst_70 rfl rfl ?_
    refine z_iconst (v := 0) (pc := 71) dX3_setFirst_71 (by decide) ?_
    refine z_bipush (v := 11) (pc := 72) dX3_setFirst_72 (by decide) ?_
    refine z_iconst (v := 0) (pc := 74) dX3_setFirst_74 (by decide) ?_
    refine z_iload_n (x := v15) (pc := 75) dX3_setFirst_75 rfl rfl ?_
    refine z_iconst (v := 1) (pc := 76) dX3_setFirst_76 (by decide) ?_
    refine z_jn 95 (fun (y19 : Int32) => [some (.ref a), some (.int v15)]) (fun (y19 : Int32) => [.int y19, .int 0, .int 11, .int 0, .int v15, .ref a]) (fun (y19 : Int32) => h16) ?_ ?_
    · rintro y19
      try dsimp only
      refine z_cVV (As := [.int v15, .int 0, .int 11, .int 0, .int y19]) (rest := []) hG.1 (m_X3_setNode hG h16 a v15 0 11 0 y19) (fun _ e => z_gdb e) oX3_setNode (pc := 95) dX3_setFirst_95 rfl w_61 rfl rfl rfl (fun h21 => ?_)
      refine z_aload_n (x := a) (pc := 98) dX3_setFirst_98 rfl rfl ?_
      refine z_getR cX3 (pc := 99) dX3_setFirst_99 (j := 7) (by decide) rfl w_91 (fun r22 => ?_)
      refine z_iload_n (x := v15) (pc := 102) dX3_setFirst_102 rfl rfl ?_
      refine z_iconst (v := 1) (pc := 103) dX3_setFirst_103 (by decide) ?_
      refine z_astI (pc := 104) dX3_setFirst_104 (fun h23 => ?_)
      refine z_iinc (i := 1) (x := v15) (v := (v15 + 1)) (la' := [some (.ref a), some (.int (v15 + 1))]) (pc := 105) dX3_setFirst_105 rfl rfl (by decide) rfl rfl ?_
      refine z_goto (tgt := 64) (pc := 108) dX3_setFirst_108 (by decide) ?_
      exact hrec18 ((v15 + 1), h23)
    intro j20 hj20
    refine z_ic_ne (tgt := 85) (pc := 77) dX3_setFirst_77 (by decide) (fun _ => ?_) (fun _ => ?_)
    · refine z_iload_n (x := v15) (pc := 85) dX3_setFirst_85 rfl rfl ?_
      refine z_iconst (v := 2) (pc := 86) dX3_setFirst_86 (by decide) ?_
      refine z_ic_ne (tgt := 94) (pc := 87) dX3_setFirst_87 (by decide) (fun _ => ?_) (fun _ => ?_)
      · refine z_iconst (v := 0) (pc := 94) dX3_setFirst_94 (by decide) ?_
        exact hj20 0
      refine z_iconst (v := 5) (pc := 90) dX3_setFirst_90 (by decide) ?_
      refine z_goto (tgt := 95) (pc := 91) dX3_setFirst_91 (by decide) ?_
      exact hj20 5
    refine z_bipush (v := 10) (pc := 80) dX3_setFirst_80 (by decide) ?_
    refine z_goto (tgt := 95) (pc := 82) dX3_setFirst_82 (by decide) ?_
    exact hj20 10
  intro k' hx1 rec8 hrec8
  rintro ⟨v5, h6⟩
  unfold f_X3_setFirst_l1
  try dsimp only
  refine z_iload_n (x := v5) (pc := 24) dX3_setFirst_24 rfl rfl ?_
  refine z_iconst (v := 3) (pc := 25) dX3_setFirst_25 (by decide) ?_
  refine z_ic_gt (tgt := 62) (pc := 26) dX3_setFirst_26 (by decide) (fun _ => ?_) (fun _ => ?_)
  · exact z_wk (hx1 h6) (And.intro rfl trivial)
  refine z_aload_n (x := a) (pc := 29) dX3_setFirst_29 rfl rfl ?_
  refine z_getR cX3 (pc := 30) dX3_setFirst_30 (j := 4) (by decide) rfl w_81 (fun r9 => ?_)
  refine z_iload_n (x := v5) (pc := 33) dX3_setFirst_33 rfl rfl ?_
  refine z_sipush (v := 1000) (pc := 34) dX3_setFirst_34 (by decide) ?_
  refine z_iload_n (x := v5) (pc := 37) dX3_setFirst_37 rfl rfl ?_
  refine z_imul (pc := 38) dX3_setFirst_38 ?_
  refine z_astI (pc := 39) dX3_setFirst_39 (fun h10 => ?_)
  refine z_aload_n (x := a) (pc := 40) dX3_setFirst_40 rfl rfl ?_
  refine z_getR cX3 (pc := 41) dX3_setFirst_41 (j := 5) (by decide) rfl w_84 (fun r11 => ?_)
  refine z_iload_n (x := v5) (pc := 44) dX3_setFirst_44 rfl rfl ?_
  refine z_iload_n (x := v5) (pc := 45) dX3_setFirst_45 rfl rfl ?_
  refine z_astI (pc := 46) dX3_setFirst_46 (fun h12 => ?_)
  refine z_aload_n (x := a) (pc := 47) dX3_setFirst_47 rfl rfl ?_
  refine z_getR cX3 (pc := 48) dX3_setFirst_48 (j := 6) (by decide) rfl w_87 (fun r13 => ?_)
  refine z_iload_n (x := v5) (pc := 51) dX3_setFirst_51 rfl rfl ?_
  refine z_iload_n (x := v5) (pc := 52) dX3_setFirst_52 rfl rfl ?_
  refine z_iconst (v := 1) (pc := 53) dX3_setFirst_53 (by decide) ?_
  refine z_iadd (pc := 54) dX3_setFirst_54 ?_
  refine z_astI (pc := 55) dX3_setFirst_55 (fun h14 => ?_)
  refine z_iinc (i := 1) (x := v5) (v := (v5 + 1)) (la' := [some (.ref a), some (.int (v5 + 1))]) (pc := 56) dX3_setFirst_56 rfl rfl (by decide) rfl rfl ?_
  refine z_goto (tgt := 24) (pc := 59) dX3_setFirst_59 (by decide) ?_
  exact hrec8 ((v5 + 1), h14)
set_option maxHeartbeats 2000000 in
set_option maxRecDepth 20000 in
theorem m_X3_init {G : Z_G} (hG : z_GG G) (h : Z_H) (a : Nat) : z_Met G iX3_init [.ref a] h ((f_X3_init h a).bind fun h1 => some (0, h1)) := by
  refine z_in (la := [some (.ref a)]) (by decide) rfl rfl rfl ?_
  unfold f_X3_init
  refine z_aload_n (x := a) (pc := 0) dX3_init_0 rfl rfl ?_
  refine z_objInit (pc := 1) dX3_init_1 w_56 w_26 w_27 (by decide) (Nat.le_of_ble_eq_true rfl) ?_
  refine z_aload_n (x := a) (pc := 4) dX3_init_4 rfl rfl ?_
  refine z_iconst (v := 4) (pc := 5) dX3_init_5 (by decide) ?_
  refine z_nwaI (pc := 6) dX3_init_6 w_123 (fun r1 h2 => ?_)
  refine z_putR cX3 (pc := 8) dX3_init_8 (j := 4) (by decide) rfl rfl rfl rfl w_81 (fun h3 => ?_)
  refine z_aload_n (x := a) (pc := 11) dX3_init_11 rfl rfl ?_
  refine z_iconst (v := 4) (pc := 12) dX3_init_12 (by decide) ?_
  refine z_nwaI (pc := 13) dX3_init_13 w_123 (fun r4 h5 => ?_)
  refine z_putR cX3 (pc := 15) dX3_init_15 (j := 5) (by decide) rfl rfl rfl rfl w_84 (fun h6 => ?_)
  refine z_aload_n (x := a) (pc := 18) dX3_init_18 rfl rfl ?_
  refine z_iconst (v := 4) (pc := 19) dX3_init_19 (by decide) ?_
  refine z_nwaI (pc := 20) dX3_init_20 w_123 (fun r7 h8 => ?_)
  refine z_putR cX3 (pc := 22) dX3_init_22 (j := 6) (by decide) rfl rfl rfl rfl w_87 (fun h9 => ?_)
  refine z_aload_n (x := a) (pc := 25) dX3_init_25 rfl rfl ?_
  refine z_bipush (v := 6) (pc := 26) dX3_init_26 (by decide) ?_
  refine z_nwaI (pc := 28) dX3_init_28 w_123 (fun r10 h11 => ?_)
  refine z_putR cX3 (pc := 30) dX3_init_30 (j := 7) (by decide) rfl rfl rfl rfl w_91 (fun h12 => ?_)
  refine z_aload_n (x := a) (pc := 33) dX3_init_33 rfl rfl ?_
  refine z_bipush (v := 48) (pc := 34) dX3_init_34 (by decide) ?_
  refine z_nwaI (pc := 36) dX3_init_36 w_123 (fun r13 h14 => ?_)
  refine z_putR cX3 (pc := 38) dX3_init_38 (j := 8) (by decide) rfl rfl rfl rfl w_94 (fun h15 => ?_)
  refine z_aload_n (x := a) (pc := 41) dX3_init_41 rfl rfl ?_
  refine z_bipush (v := 48) (pc := 42) dX3_init_42 (by decide) ?_
  refine z_nwaI (pc := 44) dX3_init_44 w_123 (fun r16 h17 => ?_)
  refine z_putR cX3 (pc := 46) dX3_init_46 (j := 9) (by decide) rfl rfl rfl rfl w_95 (fun h18 => ?_)
  refine z_aload_n (x := a) (pc := 49) dX3_init_49 rfl rfl ?_
  refine z_bipush (v := 48) (pc := 50) dX3_init_50 (by decide) ?_
  refine z_nwaI (pc := 52) dX3_init_52 w_123 (fun r19 h20 => ?_)
  refine z_putR cX3 (pc := 54) dX3_init_54 (j := 10) (by decide) rfl rfl rfl rfl w_96 (fun h21 => ?_)
  refine z_aload_n (x := a) (pc := 57) dX3_init_57 rfl rfl ?_
  refine z_bipush (v := 8) (pc := 58) dX3_init_58 (by decide) ?_
  refine z_nwaI (pc := 60) dX3_init_60 w_123 (fun r22 h23 => ?_)
  refine z_putR cX3 (pc := 62) dX3_init_62 (j := 11) (by decide) rfl rfl rfl rfl w_97 (fun h24 => ?_)
  refine z_aload_n (x := a) (pc := 65) dX3_init_65 rfl rfl ?_
  refine z_cVV (As := []) (rest := []) hG.1 (m_X3_setFirst hG h24 a) (fun _ e => z_gdb e) oX3_setFirst (pc := 66) dX3_init_66 rfl w_57 rfl rfl rfl (fun h25 => ?_)
  exact z_return (pc := 69) dX3_init_69 rfl rfl
set_option maxHeartbeats 2000000 in
set_option maxRecDepth 20000 in
theorem m_X0_admit {G : Z_G} (hG : z_GG G) (h : Z_H) (a : Nat) (x1 : Int32) (x2 : Int32) : z_Met G iX0_admit [.ref a, .int x1, .int x2] h ((f_X0_admit h a x1 x2).bind some) := by
  refine z_in (la := [some (.ref a), some (.int x1), some (.int x2), none]) (by decide) rfl rfl rfl ?_
  unfold f_X0_admit
  refine z_gg (fun _ => ?_)
  refine z_aload_n (x := a) (pc := 0) dX0_admit_0 rfl rfl ?_
  refine z_getI cX0 (pc := 1) dX0_admit_1 (j := 0) (by decide) rfl w_138 (fun t1 => ?_)
  refine z_istore_n (i := 3) (la' := [some (.ref a), some (.int x1), some (.int x2), some (.int t1)]) (pc := 4) dX0_admit_4 rfl (by decide) rfl rfl ?_
  refine z_iload_n (x := t1) (pc := 5) dX0_admit_5 rfl rfl ?_
  refine z_bipush (v := 10) (pc := 6) dX0_admit_6 (by decide) ?_
  refine z_ic_lt (tgt := 13) (pc := 8) dX0_admit_8 (by decide) (fun _ => ?_) (fun _ => ?_)
  · refine z_aload_n (x := a) (pc := 13) dX0_admit_13 rfl rfl ?_
    refine z_getR cX0 (pc := 14) dX0_admit_14 (j := 1) (by decide) rfl w_142 (fun r2 => ?_)
    refine z_iload_n (x := t1) (pc := 17) dX0_admit_17 rfl rfl ?_
    refine z_iload_n (x := x2) (pc := 18) dX0_admit_18 rfl rfl ?_
    refine z_astI (pc := 19) dX0_admit_19 (fun h3 => ?_)
    refine z_aload_n (x := a) (pc := 20) dX0_admit_20 rfl rfl ?_
    refine z_getR cX0 (pc := 21) dX0_admit_21 (j := 2) (by decide) rfl w_146 (fun r4 => ?_)
    refine z_iload_n (x := t1) (pc := 24) dX0_admit_24 rfl rfl ?_
    refine z_iconst (v := (-1)) (pc := 25) dX0_admit_25 (by decide) ?_
    refine z_astI (pc := 26) dX0_admit_26 (fun h5 => ?_)
    refine z_aload_n (x := a) (pc := 27) dX0_admit_27 rfl rfl ?_
    refine z_getR cX0 (pc := 28) dX0_admit_28 (j := 3) (by decide) rfl w_150 (fun r6 => ?_)
    refine z_iload_n (x := t1) (pc := 31) dX0_admit_31 rfl rfl ?_
    refine z_iconst (v := 0) (pc := 32) dX0_admit_32 (by decide) ?_
    refine z_astI (pc := 33) dX0_admit_33 (fun h7 => ?_)
    refine z_aload_n (x := a) (pc := 34) dX0_admit_34 rfl rfl ?_
    refine z_getR cX0 (pc := 35) dX0_admit_35 (j := 4) (by decide) rfl w_153 (fun r8 => ?_)
    refine z_iload_n (x := t1) (pc := 38) dX0_admit_38 rfl rfl ?_
    refine z_iconst (v := 0) (pc := 39) dX0_admit_39 (by decide) ?_
    refine z_astI (pc := 40) dX0_admit_40 (fun h9 => ?_)
    refine z_aload_n (x := a) (pc := 41) dX0_admit_41 rfl rfl ?_
    refine z_getR cX0 (pc := 42) dX0_admit_42 (j := 7) (by decide) rfl w_159 (fun r10 => ?_)
    refine z_iload_n (x := t1) (pc := 45) dX0_admit_45 rfl rfl ?_
    refine z_iload_n (x := x1) (pc := 46) dX0_admit_46 rfl rfl ?_
    refine z_astI (pc := 47) dX0_admit_47 (fun h11 => ?_)
    refine z_aload_n (x := a) (pc := 48) dX0_admit_48 rfl rfl ?_
    refine z_dup (pc := 49) dX0_admit_49 rfl ?_
    refine z_getI cX0 (pc := 50) dX0_admit_50 (j := 0) (by decide) rfl w_138 (fun t12 => ?_)
    refine z_iconst (v := 1) (pc := 53) dX0_admit_53 (by decide) ?_
    refine z_iadd (pc := 54) dX0_admit_54 ?_
    refine z_putI cX0 (pc := 55) dX0_admit_55 (j := 0) (by decide) rfl rfl w_138 (fun h13 => ?_)
    refine z_iload_n (x := t1) (pc := 58) dX0_admit_58 rfl rfl ?_
    exact z_ireturn (pc := 59) dX0_admit_59 rfl rfl rfl
  refine z_iconst (v := (-1)) (pc := 11) dX0_admit_11 (by decide) ?_
  exact z_ireturn (pc := 12) dX0_admit_12 rfl rfl rfl
set_option maxHeartbeats 2000000 in
set_option maxRecDepth 20000 in
theorem m_X0_clear {G : Z_G} (hG : z_GG G) (h : Z_H) (a : Nat) : z_Met G iX0_clear [.ref a] h ((f_X0_clear h a).bind fun h1 => some (0, h1)) := by
  refine z_in (la := [some (.ref a)]) (by decide) rfl rfl rfl ?_
  unfold f_X0_clear
  refine z_gg (fun _ => ?_)
  refine z_aload_n (x := a) (pc := 0) dX0_clear_0 rfl rfl ?_
  refine z_iconst (v := 0) (pc := 1) dX0_clear_1 (by decide) ?_
  refine z_putI cX0 (pc := 2) dX0_clear_2 (j := 0) (by decide) rfl rfl w_138 (fun h1 => ?_)
  refine z_aload_n (x := a) (pc := 5) dX0_clear_5 rfl rfl ?_
  refine z_iconst (v := (-1)) (pc := 6) dX0_clear_6 (by decide) ?_
  refine z_iconst (v := 0) (pc := 7) dX0_clear_7 (by decide) ?_
  refine z_dVI (As := [.int (-1), .int 0]) (rest := []) hG.1 (m_X0_admit hG h1 a (-1) 0) (fun _ e => z_gdb e) oX0_admit (pc := 8) dX0_clear_8 rfl w_134 rfl rfl rfl (fun t2 h3 => ?_)
  refine z_pop (pc := 11) dX0_clear_11 rfl ?_
  exact z_return (pc := 12) dX0_clear_12 rfl rfl
set_option maxHeartbeats 2000000 in
set_option maxRecDepth 20000 in
theorem m_X0_init {G : Z_G} (hG : z_GG G) (h : Z_H) (a : Nat) : z_Met G iX0_init [.ref a] h ((f_X0_init h a).bind fun h1 => some (0, h1)) := by
  refine z_in (la := [some (.ref a)]) (by decide) rfl rfl rfl ?_
  unfold f_X0_init
  refine z_aload_n (x := a) (pc := 0) dX0_init_0 rfl rfl ?_
  refine z_objInit (pc := 1) dX0_init_1 w_129 w_26 w_27 (by decide) (Nat.le_of_ble_eq_true rfl) ?_
  refine z_aload_n (x := a) (pc := 4) dX0_init_4 rfl rfl ?_
  refine z_iconst (v := 1) (pc := 5) dX0_init_5 (by decide) ?_
  refine z_putI cX0 (pc := 6) dX0_init_6 (j := 0) (by decide) rfl rfl w_138 (fun h1 => ?_)
  refine z_aload_n (x := a) (pc := 9) dX0_init_9 rfl rfl ?_
  refine z_bipush (v := 10) (pc := 10) dX0_init_10 (by decide) ?_
  refine z_nwaI (pc := 12) dX0_init_12 w_123 (fun r2 h3 => ?_)
  refine z_putR cX0 (pc := 14) dX0_init_14 (j := 1) (by decide) rfl rfl rfl rfl w_142 (fun h4 => ?_)
  refine z_aload_n (x := a) (pc := 17) dX0_init_17 rfl rfl ?_
  refine z_bipush (v := 10) (pc := 18) dX0_init_18 (by decide) ?_
  refine z_nwaI (pc := 20) dX0_init_20 w_123 (fun r5 h6 => ?_)
  refine z_putR cX0 (pc := 22) dX0_init_22 (j := 2) (by decide) rfl rfl rfl rfl w_146 (fun h7 => ?_)
  refine z_aload_n (x := a) (pc := 25) dX0_init_25 rfl rfl ?_
  refine z_bipush (v := 10) (pc := 26) dX0_init_26 (by decide) ?_
  refine z_nwaI (pc := 28) dX0_init_28 w_123 (fun r8 h9 => ?_)
  refine z_putR cX0 (pc := 30) dX0_init_30 (j := 3) (by decide) rfl rfl rfl rfl w_150 (fun h10 => ?_)
  refine z_aload_n (x := a) (pc := 33) dX0_init_33 rfl rfl ?_
  refine z_bipush (v := 10) (pc := 34) dX0_init_34 (by decide) ?_
  refine z_nwaI (pc := 36) dX0_init_36 w_123 (fun r11 h12 => ?_)
  refine z_putR cX0 (pc := 38) dX0_init_38 (j := 4) (by decide) rfl rfl rfl rfl w_153 (fun h13 => ?_)
  refine z_aload_n (x := a) (pc := 41) dX0_init_41 rfl rfl ?_
  refine z_bipush (v := 120) (pc := 42) dX0_init_42 (by decide) ?_
  refine z_nwaI (pc := 44) dX0_init_44 w_123 (fun r14 h15 => ?_)
  refine z_putR cX0 (pc := 46) dX0_init_46 (j := 5) (by decide) rfl rfl rfl rfl w_155 (fun h16 => ?_)
  refine z_aload_n (x := a) (pc := 49) dX0_init_49 rfl rfl ?_
  refine z_bipush (v := 120) (pc := 50) dX0_init_50 (by decide) ?_
  refine z_nwaI (pc := 52) dX0_init_52 w_123 (fun r17 h18 => ?_)
  refine z_putR cX0 (pc := 54) dX0_init_54 (j := 6) (by decide) rfl rfl rfl rfl w_157 (fun h19 => ?_)
  refine z_aload_n (x := a) (pc := 57) dX0_init_57 rfl rfl ?_
  refine z_bipush (v := 10) (pc := 58) dX0_init_58 (by decide) ?_
  refine z_nwaI (pc := 60) dX0_init_60 w_123 (fun r20 h21 => ?_)
  refine z_putR cX0 (pc := 62) dX0_init_62 (j := 7) (by decide) rfl rfl rfl rfl w_159 (fun h22 => ?_)
  refine z_aload_n (x := a) (pc := 65) dX0_init_65 rfl rfl ?_
  refine z_cVV (As := []) (rest := []) hG.1 (m_X0_clear hG h22 a) (fun _ e => z_gdb e) oX0_clear (pc := 66) dX0_init_66 rfl w_130 rfl rfl rfl (fun h23 => ?_)
  exact z_return (pc := 69) dX0_init_69 rfl rfl
set_option maxHeartbeats 2000000 in
set_option maxRecDepth 20000 in
theorem m_X5_init {G : Z_G} (hG : z_GG G) (h : Z_H) (a : Nat) : z_Met G iX5_init [.ref a] h ((f_X5_init h a).bind fun h1 => some (0, h1)) := by
  refine z_in (la := [some (.ref a)]) (by decide) rfl rfl rfl ?_
  unfold f_X5_init
  refine z_aload_n (x := a) (pc := 0) dX5_init_0 rfl rfl ?_
  refine z_objInit (pc := 1) dX5_init_1 w_182 w_26 w_27 (by decide) (Nat.le_of_ble_eq_true rfl) ?_
  refine z_aload_n (x := a) (pc := 4) dX5_init_4 rfl rfl ?_
  refine z_iconst (v := 0) (pc := 5) dX5_init_5 (by decide) ?_
  refine z_putI cX5 (pc := 6) dX5_init_6 (j := 0) (by decide) rfl rfl w_183 (fun h1 => ?_)
  refine z_aload_n (x := a) (pc := 9) dX5_init_9 rfl rfl ?_
  refine z_bipush (v := 40) (pc := 10) dX5_init_10 (by decide) ?_
  refine z_nwaI (pc := 12) dX5_init_12 w_123 (fun r2 h3 => ?_)
  refine z_putR cX5 (pc := 14) dX5_init_14 (j := 1) (by decide) rfl rfl rfl rfl w_187 (fun h4 => ?_)
  refine z_aload_n (x := a) (pc := 17) dX5_init_17 rfl rfl ?_
  refine z_bipush (v := 40) (pc := 18) dX5_init_18 (by decide) ?_
  refine z_nwaI (pc := 20) dX5_init_20 w_123 (fun r5 h6 => ?_)
  refine z_putR cX5 (pc := 22) dX5_init_22 (j := 2) (by decide) rfl rfl rfl rfl w_191 (fun h7 => ?_)
  refine z_aload_n (x := a) (pc := 25) dX5_init_25 rfl rfl ?_
  refine z_bipush (v := 40) (pc := 26) dX5_init_26 (by decide) ?_
  refine z_nwaI (pc := 28) dX5_init_28 w_123 (fun r8 h9 => ?_)
  refine z_putR cX5 (pc := 30) dX5_init_30 (j := 3) (by decide) rfl rfl rfl rfl w_193 (fun h10 => ?_)
  refine z_aload_n (x := a) (pc := 33) dX5_init_33 rfl rfl ?_
  refine z_bipush (v := 40) (pc := 34) dX5_init_34 (by decide) ?_
  refine z_nwaI (pc := 36) dX5_init_36 w_123 (fun r11 h12 => ?_)
  refine z_putR cX5 (pc := 38) dX5_init_38 (j := 4) (by decide) rfl rfl rfl rfl w_196 (fun h13 => ?_)
  refine z_aload_n (x := a) (pc := 41) dX5_init_41 rfl rfl ?_
  refine z_bipush (v := 40) (pc := 42) dX5_init_42 (by decide) ?_
  refine z_nwaI (pc := 44) dX5_init_44 w_123 (fun r14 h15 => ?_)
  refine z_putR cX5 (pc := 46) dX5_init_46 (j := 5) (by decide) rfl rfl rfl rfl w_199 (fun h16 => ?_)
  refine z_aload_n (x := a) (pc := 49) dX5_init_49 rfl rfl ?_
  refine z_bipush (v := 40) (pc := 50) dX5_init_50 (by decide) ?_
  refine z_nwaI (pc := 52) dX5_init_52 w_123 (fun r17 h18 => ?_)
  refine z_putR cX5 (pc := 54) dX5_init_54 (j := 6) (by decide) rfl rfl rfl rfl w_201 (fun h19 => ?_)
  refine z_aload_n (x := a) (pc := 57) dX5_init_57 rfl rfl ?_
  refine z_sipush (v := 1400) (pc := 58) dX5_init_58 (by decide) ?_
  refine z_nwaI (pc := 61) dX5_init_61 w_123 (fun r20 h21 => ?_)
  refine z_putR cX5 (pc := 63) dX5_init_63 (j := 7) (by decide) rfl rfl rfl rfl w_204 (fun h22 => ?_)
  exact z_return (pc := 66) dX5_init_66 rfl rfl
set_option maxHeartbeats 2000000 in
set_option maxRecDepth 20000 in
theorem m_X1_init {G : Z_G} (hG : z_GG G) (h : Z_H) (a : Nat) : z_Met G iX1_init [.ref a] h ((f_X1_init h a).bind fun h1 => some (0, h1)) := by
  refine z_in (la := [some (.ref a)]) (by decide) rfl rfl rfl ?_
  unfold f_X1_init
  refine z_aload_n (x := a) (pc := 0) dX1_init_0 rfl rfl ?_
  refine z_objInit (pc := 1) dX1_init_1 w_227 w_26 w_27 (by decide) (Nat.le_of_ble_eq_true rfl) ?_
  refine z_aload_n (x := a) (pc := 4) dX1_init_4 rfl rfl ?_
  refine z_bipush (v := 10) (pc := 5) dX1_init_5 (by decide) ?_
  refine z_nwaI (pc := 7) dX1_init_7 w_123 (fun r1 h2 => ?_)
  refine z_putR cX1 (pc := 9) dX1_init_9 (j := 0) (by decide) rfl rfl rfl rfl w_228 (fun h3 => ?_)
  refine z_aload_n (x := a) (pc := 12) dX1_init_12 rfl rfl ?_
  refine z_bipush (v := 10) (pc := 13) dX1_init_13 (by decide) ?_
  refine z_nwaI (pc := 15) dX1_init_15 w_123 (fun r4 h5 => ?_)
  refine z_putR cX1 (pc := 17) dX1_init_17 (j := 1) (by decide) rfl rfl rfl rfl w_230 (fun h6 => ?_)
  refine z_aload_n (x := a) (pc := 20) dX1_init_20 rfl rfl ?_
  refine z_sipush (v := 640) (pc := 21) dX1_init_21 (by decide) ?_
  refine z_nwaI (pc := 24) dX1_init_24 w_123 (fun r7 h8 => ?_)
  refine z_putR cX1 (pc := 26) dX1_init_26 (j := 2) (by decide) rfl rfl rfl rfl w_231 (fun h9 => ?_)
  exact z_return (pc := 29) dX1_init_29 rfl rfl
set_option maxHeartbeats 2000000 in
set_option maxRecDepth 20000 in
theorem m_X7_init {G : Z_G} (hG : z_GG G) (h : Z_H) (a : Nat) : z_Met G iX7_init [.ref a] h ((f_X7_init h a).bind fun h1 => some (0, h1)) := by
  refine z_in (la := [some (.ref a)]) (by decide) rfl rfl rfl ?_
  unfold f_X7_init
  refine z_aload_n (x := a) (pc := 0) dX7_init_0 rfl rfl ?_
  refine z_objInit (pc := 1) dX7_init_1 w_33 w_26 w_27 (by decide) (Nat.le_of_ble_eq_true rfl) ?_
  refine z_aload_n (x := a) (pc := 4) dX7_init_4 rfl rfl ?_
  refine z_nwO cX8 (pc := 5) dX7_init_5 w_34 w_35 w_3 (by decide +kernel) (fun r1 h2 => ?_)
  refine z_dup (pc := 8) dX7_init_8 rfl ?_
  refine z_cJV (As := []) (rest := [.ref r1, .ref a]) hG.1 (m_X8_init hG h2 r1) oX8_init (pc := 9) dX7_init_9 rfl (nw_36 hG) rfl rfl rfl rfl (fun h3 => ?_)
  refine z_putR cX7 (pc := 12) dX7_init_12 (j := 0) (by decide) rfl rfl rfl rfl w_239 (fun h4 => ?_)
  refine z_aload_n (x := a) (pc := 15) dX7_init_15 rfl rfl ?_
  refine z_nwO cX3 (pc := 16) dX7_init_16 w_51 w_52 w_4 (by decide +kernel) (fun r5 h6 => ?_)
  refine z_dup (pc := 19) dX7_init_19 rfl ?_
  refine z_cIV (As := []) (rest := [.ref r5, .ref a]) hG.1 (m_X3_init hG h6 r5) oX3_init (pc := 20) dX7_init_20 rfl w_53 rfl rfl rfl rfl (fun h7 => ?_)
  refine z_putR cX7 (pc := 23) dX7_init_23 (j := 1) (by decide) rfl rfl rfl rfl w_241 (fun h8 => ?_)
  refine z_aload_n (x := a) (pc := 26) dX7_init_26 rfl rfl ?_
  refine z_nwO cX0 (pc := 27) dX7_init_27 w_124 w_125 w_5 (by decide +kernel) (fun r9 h10 => ?_)
  refine z_dup (pc := 30) dX7_init_30 rfl ?_
  refine z_cIV (As := []) (rest := [.ref r9, .ref a]) hG.1 (m_X0_init hG h10 r9) oX0_init (pc := 31) dX7_init_31 rfl w_126 rfl rfl rfl rfl (fun h11 => ?_)
  refine z_putR cX7 (pc := 34) dX7_init_34 (j := 2) (by decide) rfl rfl rfl rfl w_245 (fun h12 => ?_)
  refine z_aload_n (x := a) (pc := 37) dX7_init_37 rfl rfl ?_
  refine z_nwO cX5 (pc := 38) dX7_init_38 w_177 w_178 w_6 (by decide +kernel) (fun r13 h14 => ?_)
  refine z_dup (pc := 41) dX7_init_41 rfl ?_
  refine z_cJV (As := []) (rest := [.ref r13, .ref a]) hG.1 (m_X5_init hG h14 r13) oX5_init (pc := 42) dX7_init_42 rfl (nw_179 hG) rfl rfl rfl rfl (fun h15 => ?_)
  refine z_putR cX7 (pc := 45) dX7_init_45 (j := 3) (by decide) rfl rfl rfl rfl w_249 (fun h16 => ?_)
  refine z_aload_n (x := a) (pc := 48) dX7_init_48 rfl rfl ?_
  refine z_nwO cX1 (pc := 49) dX7_init_49 w_222 w_223 w_7 (by decide +kernel) (fun r17 h18 => ?_)
  refine z_dup (pc := 52) dX7_init_52 rfl ?_
  refine z_cJV (As := []) (rest := [.ref r17, .ref a]) hG.1 (m_X1_init hG h18 r17) oX1_init (pc := 53) dX7_init_53 rfl (nw_224 hG) rfl rfl rfl rfl (fun h19 => ?_)
  refine z_putR cX7 (pc := 56) dX7_init_56 (j := 4) (by decide) rfl rfl rfl rfl w_252 (fun h20 => ?_)
  refine z_aload_n (x := a) (pc := 59) dX7_init_59 rfl rfl ?_
  refine z_bipush (v := 10) (pc := 60) dX7_init_60 (by decide) ?_
  refine z_nwaI (pc := 62) dX7_init_62 w_123 (fun r21 h22 => ?_)
  refine z_putR cX7 (pc := 64) dX7_init_64 (j := 5) (by decide) rfl rfl rfl rfl w_254 (fun h23 => ?_)
  refine z_aload_n (x := a) (pc := 67) dX7_init_67 rfl rfl ?_
  refine z_iconst (v := 0) (pc := 68) dX7_init_68 (by decide) ?_
  refine z_putI cX7 (pc := 69) dX7_init_69 (j := 6) (by decide) rfl rfl w_255 (fun h24 => ?_)
  refine z_aload_n (x := a) (pc := 72) dX7_init_72 rfl rfl ?_
  refine z_iconst (v := (-1)) (pc := 73) dX7_init_73 (by decide) ?_
  refine z_putI cX7 (pc := 74) dX7_init_74 (j := 7) (by decide) rfl rfl w_257 (fun h25 => ?_)
  refine z_aload_n (x := a) (pc := 77) dX7_init_77 rfl rfl ?_
  refine z_iconst (v := 0) (pc := 78) dX7_init_78 (by decide) ?_
  refine z_putI cX7 (pc := 79) dX7_init_79 (j := 8) (by decide) rfl rfl w_259 (fun h26 => ?_)
  exact z_return (pc := 82) dX7_init_82 rfl rfl
set_option maxHeartbeats 2000000 in
set_option maxRecDepth 20000 in
theorem m_X4_init {G : Z_G} (hG : z_GG G) (h : Z_H) (a : Nat) : z_Met G iX4_init [.ref a] h ((f_X4_init h a).bind fun h1 => some (0, h1)) := by
  refine z_in (la := [some (.ref a)]) (by decide) rfl rfl rfl ?_
  unfold f_X4_init
  refine z_aload_n (x := a) (pc := 0) dX4_init_0 rfl rfl ?_
  refine z_objInit (pc := 1) dX4_init_1 w_287 w_26 w_27 (by decide) (Nat.le_of_ble_eq_true rfl) ?_
  refine z_aload_n (x := a) (pc := 4) dX4_init_4 rfl rfl ?_
  refine z_nwO cX3 (pc := 5) dX4_init_5 w_288 w_52 w_4 (by decide +kernel) (fun r1 h2 => ?_)
  refine z_dup (pc := 8) dX4_init_8 rfl ?_
  refine z_cIV (As := []) (rest := [.ref r1, .ref a]) hG.1 (m_X3_init hG h2 r1) oX3_init (pc := 9) dX4_init_9 rfl w_289 rfl rfl rfl rfl (fun h3 => ?_)
  refine z_putR cX4 (pc := 12) dX4_init_12 (j := 0) (by decide) rfl rfl rfl rfl w_292 (fun h4 => ?_)
  refine z_aload_n (x := a) (pc := 15) dX4_init_15 rfl rfl ?_
  refine z_nwO cX8 (pc := 16) dX4_init_16 w_290 w_35 w_3 (by decide +kernel) (fun r5 h6 => ?_)
  refine z_dup (pc := 19) dX4_init_19 rfl ?_
  refine z_cJV (As := []) (rest := [.ref r5, .ref a]) hG.1 (m_X8_init hG h6 r5) oX8_init (pc := 20) dX4_init_20 rfl (nw_291 hG) rfl rfl rfl rfl (fun h7 => ?_)
  refine z_putR cX4 (pc := 23) dX4_init_23 (j := 1) (by decide) rfl rfl rfl rfl w_294 (fun h8 => ?_)
  refine z_aload_n (x := a) (pc := 26) dX4_init_26 rfl rfl ?_
  refine z_sipush (v := 601) (pc := 27) dX4_init_27 (by decide) ?_
  refine z_nwaI (pc := 30) dX4_init_30 w_123 (fun r9 h10 => ?_)
  refine z_putR cX4 (pc := 32) dX4_init_32 (j := 2) (by decide) rfl rfl rfl rfl w_295 (fun h11 => ?_)
  refine z_aload_n (x := a) (pc := 35) dX4_init_35 rfl rfl ?_
  refine z_sipush (v := 601) (pc := 36) dX4_init_36 (by decide) ?_
  refine z_nwaI (pc := 39) dX4_init_39 w_123 (fun r12 h13 => ?_)
  refine z_putR cX4 (pc := 41) dX4_init_41 (j := 3) (by decide) rfl rfl rfl rfl w_296 (fun h14 => ?_)
  refine z_aload_n (x := a) (pc := 44) dX4_init_44 rfl rfl ?_
  refine z_sipush (v := 601) (pc := 45) dX4_init_45 (by decide) ?_
  refine z_nwaI (pc := 48) dX4_init_48 w_123 (fun r15 h16 => ?_)
  refine z_putR cX4 (pc := 50) dX4_init_50 (j := 4) (by decide) rfl rfl rfl rfl w_297 (fun h17 => ?_)
  refine z_aload_n (x := a) (pc := 53) dX4_init_53 rfl rfl ?_
  refine z_iconst (v := 0) (pc := 54) dX4_init_54 (by decide) ?_
  refine z_putI cX4 (pc := 55) dX4_init_55 (j := 5) (by decide) rfl rfl w_298 (fun h18 => ?_)
  refine z_aload_n (x := a) (pc := 58) dX4_init_58 rfl rfl ?_
  refine z_iconst (v := 0) (pc := 59) dX4_init_59 (by decide) ?_
  refine z_putI cX4 (pc := 60) dX4_init_60 (j := 6) (by decide) rfl rfl w_299 (fun h19 => ?_)
  refine z_aload_n (x := a) (pc := 63) dX4_init_63 rfl rfl ?_
  refine z_iconst (v := 0) (pc := 64) dX4_init_64 (by decide) ?_
  refine z_putI cX4 (pc := 65) dX4_init_65 (j := 7) (by decide) rfl rfl w_300 (fun h20 => ?_)
  refine z_aload_n (x := a) (pc := 68) dX4_init_68 rfl rfl ?_
  refine z_iconst (v := (-1)) (pc := 69) dX4_init_69 (by decide) ?_
  refine z_putI cX4 (pc := 70) dX4_init_70 (j := 8) (by decide) rfl rfl w_301 (fun h21 => ?_)
  refine z_aload_n (x := a) (pc := 73) dX4_init_73 rfl rfl ?_
  refine z_iconst (v := 0) (pc := 74) dX4_init_74 (by decide) ?_
  refine z_putI cX4 (pc := 75) dX4_init_75 (j := 9) (by decide) rfl rfl w_302 (fun h22 => ?_)
  refine z_aload_n (x := a) (pc := 78) dX4_init_78 rfl rfl ?_
  refine z_iconst (v := (-1)) (pc := 79) dX4_init_79 (by decide) ?_
  refine z_putI cX4 (pc := 80) dX4_init_80 (j := 10) (by decide) rfl rfl w_303 (fun h23 => ?_)
  exact z_return (pc := 83) dX4_init_83 rfl rfl
set_option maxHeartbeats 2000000 in
set_option maxRecDepth 20000 in
theorem m_X6_init {G : Z_G} (hG : z_GG G) (h : Z_H) (a : Nat) : z_Met G iX6_init [.ref a] h ((f_X6_init h a).bind fun h1 => some (0, h1)) := by
  refine z_in (la := [some (.ref a)]) (by decide) rfl rfl rfl ?_
  unfold f_X6_init
  refine z_aload_n (x := a) (pc := 0) dX6_init_0 rfl rfl ?_
  refine z_objInit (pc := 1) dX6_init_1 w_332 w_26 w_27 (by decide) (Nat.le_of_ble_eq_true rfl) ?_
  refine z_aload_n (x := a) (pc := 4) dX6_init_4 rfl rfl ?_
  refine z_bipush (v := 11) (pc := 5) dX6_init_5 (by decide) ?_
  refine z_nwaI (pc := 7) dX6_init_7 w_123 (fun r1 h2 => ?_)
  refine z_putR cX6 (pc := 9) dX6_init_9 (j := 0) (by decide) rfl rfl rfl rfl w_333 (fun h3 => ?_)
  refine z_aload_n (x := a) (pc := 12) dX6_init_12 rfl rfl ?_
  refine z_bipush (v := 11) (pc := 13) dX6_init_13 (by decide) ?_
  refine z_nwaI (pc := 15) dX6_init_15 w_123 (fun r4 h5 => ?_)
  refine z_putR cX6 (pc := 17) dX6_init_17 (j := 1) (by decide) rfl rfl rfl rfl w_336 (fun h6 => ?_)
  refine z_aload_n (x := a) (pc := 20) dX6_init_20 rfl rfl ?_
  refine z_bipush (v := 11) (pc := 21) dX6_init_21 (by decide) ?_
  refine z_nwaI (pc := 23) dX6_init_23 w_123 (fun r7 h8 => ?_)
  refine z_putR cX6 (pc := 25) dX6_init_25 (j := 2) (by decide) rfl rfl rfl rfl w_338 (fun h9 => ?_)
  refine z_aload_n (x := a) (pc := 28) dX6_init_28 rfl rfl ?_
  refine z_bipush (v := 11) (pc := 29) dX6_init_29 (by decide) ?_
  refine z_nwaI (pc := 31) dX6_init_31 w_123 (fun r10 h11 => ?_)
  refine z_putR cX6 (pc := 33) dX6_init_33 (j := 3) (by decide) rfl rfl rfl rfl w_340 (fun h12 => ?_)
  refine z_aload_n (x := a) (pc := 36) dX6_init_36 rfl rfl ?_
  refine z_bipush (v := 11) (pc := 37) dX6_init_37 (by decide) ?_
  refine z_nwaI (pc := 39) dX6_init_39 w_123 (fun r13 h14 => ?_)
  refine z_putR cX6 (pc := 41) dX6_init_41 (j := 4) (by decide) rfl rfl rfl rfl w_342 (fun h15 => ?_)
  refine z_aload_n (x := a) (pc := 44) dX6_init_44 rfl rfl ?_
  refine z_bipush (v := 11) (pc := 45) dX6_init_45 (by decide) ?_
  refine z_nwaI (pc := 47) dX6_init_47 w_123 (fun r16 h17 => ?_)
  refine z_putR cX6 (pc := 49) dX6_init_49 (j := 5) (by decide) rfl rfl rfl rfl w_344 (fun h18 => ?_)
  refine z_aload_n (x := a) (pc := 52) dX6_init_52 rfl rfl ?_
  refine z_bipush (v := 11) (pc := 53) dX6_init_53 (by decide) ?_
  refine z_nwaI (pc := 55) dX6_init_55 w_123 (fun r19 h20 => ?_)
  refine z_putR cX6 (pc := 57) dX6_init_57 (j := 6) (by decide) rfl rfl rfl rfl w_347 (fun h21 => ?_)
  refine z_aload_n (x := a) (pc := 60) dX6_init_60 rfl rfl ?_
  refine z_bipush (v := 11) (pc := 61) dX6_init_61 (by decide) ?_
  refine z_nwaI (pc := 63) dX6_init_63 w_123 (fun r22 h23 => ?_)
  refine z_putR cX6 (pc := 65) dX6_init_65 (j := 7) (by decide) rfl rfl rfl rfl w_349 (fun h24 => ?_)
  refine z_aload_n (x := a) (pc := 68) dX6_init_68 rfl rfl ?_
  refine z_iconst (v := 0) (pc := 69) dX6_init_69 (by decide) ?_
  refine z_putI cX6 (pc := 70) dX6_init_70 (j := 8) (by decide) rfl rfl w_352 (fun h25 => ?_)
  refine z_aload_n (x := a) (pc := 73) dX6_init_73 rfl rfl ?_
  refine z_iconst (v := 0) (pc := 74) dX6_init_74 (by decide) ?_
  refine z_putI cX6 (pc := 75) dX6_init_75 (j := 9) (by decide) rfl rfl w_354 (fun h26 => ?_)
  refine z_aload_n (x := a) (pc := 78) dX6_init_78 rfl rfl ?_
  refine z_iconst (v := 0) (pc := 79) dX6_init_79 (by decide) ?_
  refine z_putI cX6 (pc := 80) dX6_init_80 (j := 10) (by decide) rfl rfl w_356 (fun h27 => ?_)
  refine z_aload_n (x := a) (pc := 83) dX6_init_83 rfl rfl ?_
  refine z_iconst (v := 0) (pc := 84) dX6_init_84 (by decide) ?_
  refine z_putI cX6 (pc := 85) dX6_init_85 (j := 11) (by decide) rfl rfl w_358 (fun h28 => ?_)
  refine z_aload_n (x := a) (pc := 88) dX6_init_88 rfl rfl ?_
  refine z_iconst (v := 0) (pc := 89) dX6_init_89 (by decide) ?_
  refine z_putI cX6 (pc := 90) dX6_init_90 (j := 12) (by decide) rfl rfl w_359 (fun h29 => ?_)
  exact z_return (pc := 93) dX6_init_93 rfl rfl
set_option maxHeartbeats 2000000 in
set_option maxRecDepth 20000 in
theorem m_X2_init {G : Z_G} (hG : z_GG G) (h : Z_H) (a : Nat) : z_Met G iX2_init [.ref a] h ((f_X2_init h a).bind fun h1 => some (0, h1)) := by
  refine z_in (la := [some (.ref a)]) (by decide) rfl rfl rfl ?_
  unfold f_X2_init
  refine z_aload_n (x := a) (pc := 0) dX2_init_0 rfl rfl ?_
  refine z_objInit (pc := 1) dX2_init_1 w_392 w_26 w_27 (by decide) (Nat.le_of_ble_eq_true rfl) ?_
  refine z_aload_n (x := a) (pc := 4) dX2_init_4 rfl rfl ?_
  refine z_iconst (v := 0) (pc := 5) dX2_init_5 (by decide) ?_
  refine z_putI cX2 (pc := 6) dX2_init_6 (j := 0) (by decide) rfl rfl w_393 (fun h1 => ?_)
  refine z_aload_n (x := a) (pc := 9) dX2_init_9 rfl rfl ?_
  refine z_bipush (v := 35) (pc := 10) dX2_init_10 (by decide) ?_
  refine z_nwaI (pc := 12) dX2_init_12 w_123 (fun r2 h3 => ?_)
  refine z_putR cX2 (pc := 14) dX2_init_14 (j := 1) (by decide) rfl rfl rfl rfl w_396 (fun h4 => ?_)
  exact z_return (pc := 17) dX2_init_17 rfl rfl
set_option maxHeartbeats 2000000 in
set_option maxRecDepth 20000 in
theorem m_X9_init {G : Z_G} (hG : z_GG G) (h : Z_H) (a : Nat) : z_Met G iX9_init [.ref a] h ((f_X9_init h a).bind fun h1 => some (0, h1)) := by
  refine z_in (la := [some (.ref a)]) (by decide) rfl rfl rfl ?_
  unfold f_X9_init
  refine z_aload_n (x := a) (pc := 0) dX9_init_0 rfl rfl ?_
  refine z_objInit (pc := 1) dX9_init_1 w_25 w_26 w_27 (by decide) (Nat.le_of_ble_eq_true rfl) ?_
  refine z_aload_n (x := a) (pc := 4) dX9_init_4 rfl rfl ?_
  refine z_nwO cX7 (pc := 5) dX9_init_5 w_28 w_29 w_2 (by decide +kernel) (fun r1 h2 => ?_)
  refine z_dup (pc := 8) dX9_init_8 rfl ?_
  refine z_cJV (As := []) (rest := [.ref r1, .ref a]) hG.1 (m_X7_init hG h2 r1) oX7_init (pc := 9) dX9_init_9 rfl (nw_30 hG) rfl rfl rfl rfl (fun h3 => ?_)
  refine z_putR cX9 (pc := 12) dX9_init_12 (j := 0) (by decide) rfl rfl rfl rfl w_403 (fun h4 => ?_)
  refine z_aload_n (x := a) (pc := 15) dX9_init_15 rfl rfl ?_
  refine z_iconst (v := 3) (pc := 16) dX9_init_16 (by decide) ?_
  refine z_nwR (pc := 17) dX9_init_17 w_28 hG.2.2.1 (fun r5 h6 => ?_)
  refine z_putR cX9 (pc := 20) dX9_init_20 (j := 1) (by decide) rfl rfl rfl rfl w_404 (fun h7 => ?_)
  refine z_aload_n (x := a) (pc := 23) dX9_init_23 rfl rfl ?_
  refine z_nwO cX4 (pc := 24) dX9_init_24 w_282 w_283 w_8 (by decide +kernel) (fun r8 h9 => ?_)
  refine z_dup (pc := 27) dX9_init_27 rfl ?_
  refine z_cJV (As := []) (rest := [.ref r8, .ref a]) hG.1 (m_X4_init hG h9 r8) oX4_init (pc := 28) dX9_init_28 rfl (nw_284 hG) rfl rfl rfl rfl (fun h10 => ?_)
  refine z_putR cX9 (pc := 31) dX9_init_31 (j := 2) (by decide) rfl rfl rfl rfl w_405 (fun h11 => ?_)
  refine z_aload_n (x := a) (pc := 34) dX9_init_34 rfl rfl ?_
  refine z_nwO cX6 (pc := 35) dX9_init_35 w_327 w_328 w_9 (by decide +kernel) (fun r12 h13 => ?_)
  refine z_dup (pc := 38) dX9_init_38 rfl ?_
  refine z_cJV (As := []) (rest := [.ref r12, .ref a]) hG.1 (m_X6_init hG h13 r12) oX6_init (pc := 39) dX9_init_39 rfl (nw_329 hG) rfl rfl rfl rfl (fun h14 => ?_)
  refine z_putR cX9 (pc := 42) dX9_init_42 (j := 3) (by decide) rfl rfl rfl rfl w_406 (fun h15 => ?_)
  refine z_aload_n (x := a) (pc := 45) dX9_init_45 rfl rfl ?_
  refine z_nwO cX2 (pc := 46) dX9_init_46 w_387 w_388 w_10 (by decide +kernel) (fun r16 h17 => ?_)
  refine z_dup (pc := 49) dX9_init_49 rfl ?_
  refine z_cJV (As := []) (rest := [.ref r16, .ref a]) hG.1 (m_X2_init hG h17 r16) oX2_init (pc := 50) dX9_init_50 rfl (nw_389 hG) rfl rfl rfl rfl (fun h18 => ?_)
  refine z_putR cX9 (pc := 53) dX9_init_53 (j := 4) (by decide) rfl rfl rfl rfl w_407 (fun h19 => ?_)
  exact z_return (pc := 56) dX9_init_56 rfl rfl
set_option maxHeartbeats 2000000 in
set_option maxRecDepth 20000 in
theorem m_X10_atFirst {G : Z_G} (hG : z_GG G) (h : Z_H) (a : Nat) : z_Met G iX10_atFirst [.ref a] h ((f_X10_atFirst h a).bind fun h1 => some (0, h1)) := by
  refine z_in (la := [some (.ref a), none]) (by decide) rfl rfl rfl ?_
  unfold f_X10_atFirst
  refine z_gg (fun _ => ?_)
  refine z_iconst (v := 3) (pc := 0) dX10_atFirst_0 (by decide) ?_
  refine z_istore_n (i := 1) (la' := [some (.ref a), some (.int 3)]) (pc := 1) dX10_atFirst_1 rfl (by decide) rfl rfl ?_
  refine z_lp (T := Z_H) (s0 := (3, h)) 2 (fun ((v1, h2) : Int32 × Z_H) => [some (.ref a), some (.int v1)]) (fun ((v1, h2) : Int32 × Z_H) => h2) (fun _ => 22) (fun (h3 : Z_H) => [some (.ref a), none]) (fun (h3 : Z_H) => h3) ?_ ?_
  · rintro h3
    try dsimp only
    refine z_aload_n (x := a) (pc := 22) dX10_atFirst_22 rfl rfl ?_
    refine z_getR cX10 (pc := 23) dX10_atFirst_23 (j := 12) (by decide) rfl w_1099 (fun r7 => ?_)
    refine z_iconst (v := 3) (pc := 26) dX10_atFirst_26 (by decide) ?_
    refine z_bipush (v := 100) (pc := 27) dX10_atFirst_27 (by decide) ?_
    refine z_astI (pc := 29) dX10_atFirst_29 (fun h8 => ?_)
    refine z_aload_n (x := a) (pc := 30) dX10_atFirst_30 rfl rfl ?_
    refine z_getR cX10 (pc := 31) dX10_atFirst_31 (j := 12) (by decide) rfl w_1099 (fun r9 => ?_)
    refine z_iconst (v := 4) (pc := 34) dX10_atFirst_34 (by decide) ?_
    refine z_bipush (v := 30) (pc := 35) dX10_atFirst_35 (by decide) ?_
    refine z_astI (pc := 37) dX10_atFirst_37 (fun h10 => ?_)
    refine z_aload_n (x := a) (pc := 38) dX10_atFirst_38 rfl rfl ?_
    refine z_getR cX10 (pc := 39) dX10_atFirst_39 (j := 12) (by decide) rfl w_1099 (fun r11 => ?_)
    refine z_iconst (v := 5) (pc := 42) dX10_atFirst_42 (by decide) ?_
    refine z_iconst (v := 3) (pc := 43) dX10_atFirst_43 (by decide) ?_
    refine z_astI (pc := 44) dX10_atFirst_44 (fun h12 => ?_)
    refine z_aload_n (x := a) (pc := 45) dX10_atFirst_45 rfl rfl ?_
    refine z_getR cX10 (pc := 46) dX10_atFirst_46 (j := 12) (by decide) rfl w_1099 (fun r13 => ?_)
    refine z_bipush (v := 6) (pc := 49) dX10_atFirst_49 (by decide) ?_
    refine z_iconst (v := 2) (pc := 51) dX10_atFirst_51 (by decide) ?_
    refine z_astI (pc := 52) dX10_atFirst_52 (fun h14 => ?_)
    refine z_iconst (v := 0) (pc := 53) dX10_atFirst_53 (by decide) ?_
    refine z_istore_n (i := 1) (la' := [some (.ref a), some (.int 0)]) (pc := 54) dX10_atFirst_54 rfl (by decide) rfl rfl ?_
    refine z_lp (T := Z_H) (s0 := (0, h14)) 55 (fun ((v15, h16) : Int32 × Z_H) => [some (.ref a), some (.int v15)]) (fun ((v15, h16) : Int32 × Z_H) => h16) (fun _ => 102) (fun (h17 : Z_H) => [some (.ref a), none]) (fun (h17 : Z_H) => h17) ?_ ?_
    · rintro h17
      try dsimp only
      refine z_iconst (v := 0) (pc := 102) dX10_atFirst_102 (by decide) ?_
      refine z_istore_n (i := 1) (la' := [some (.ref a), some (.int 0)]) (pc := 103) dX10_atFirst_103 rfl (by decide) rfl rfl ?_
      refine z_lp (T := Z_H) (s0 := (0, h17)) 104 (fun ((v25, h26) : Int32 × Z_H) => [some (.ref a), some (.int v25)]) (fun ((v25, h26) : Int32 × Z_H) => h26) (fun _ => 162) (fun (h27 : Z_H) => [none, none]) (fun (h27 : Z_H) => h27) ?_ ?_
      · rintro h27
        try dsimp only
        exact z_return (pc := 162) dX10_atFirst_162 rfl rfl
      intro k' hx3 rec28 hrec28
      rintro ⟨v25, h26⟩
      unfold f_X10_atFirst_l3
      try dsimp only
      refine z_iload_n (x := v25) (pc := 104) dX10_atFirst_104 rfl rfl ?_
      refine z_iconst (v := 5) (pc := 105) dX10_atFirst_105 (by decide) ?_
      refine z_ic_ge (tgt := 162) (pc := 106) dX10_atFirst_106 (by decide) (fun _ => ?_) (fun _ => ?_)
      · exact z_wk (hx3 h26) trivial
      refine z_aload_n (x := a) (pc := 109) dX10_atFirst_109 rfl rfl ?_
      refine z_getR cX10 (pc := 110) dX10_atFirst_110 (j := 12) (by decide) rfl w_1099 (fun r29 => ?_)
      refine z_bipush (v := 19) (pc := 113) dX10_atFirst_113 (by decide) ?_
      refine z_bipush (v := 25) (pc := 115) dX10_atFirst_115 (by decide) ?_
      refine z_iload_n (x := v25) (pc := 117) dX10_atFirst_117 rfl rfl ?_
      refine z_imul (pc := 118) dX10_atFirst_118 ?_
      refine z_iadd (pc := 119) dX10_atFirst_119 ?_
      refine z_iconst (v := 1) (pc := 120) dX10_atFirst_120 (by decide) ?_
      refine z_astI (pc := 121) dX10_atFirst_121 (fun h30 => ?_)
      refine z_aload_n (x := a) (pc := 122) dX10_atFirst_122 rfl rfl ?_
      refine z_getR cX10 (pc := 123) dX10_atFirst_123 (j := 12) (by decide) rfl w_1099 (fun r31 => ?_)
      refine z_bipush (v := 19) (pc := 126) dX10_atFirst_126 (by decide) ?_
      refine z_bipush (v := 25) (pc := 128) dX10_atFirst_128 (by decide) ?_
      refine z_iload_n (x := v25) (pc := 130) dX10_atFirst_130 rfl rfl ?_
      refine z_imul (pc := 131) dX10_atFirst_131 ?_
      refine z_iadd (pc := 132) dX10_atFirst_132 ?_
      refine z_bipush (v := 17) (pc := 133) dX10_atFirst_133 (by decide) ?_
      refine z_iadd (pc := 135) dX10_atFirst_135 ?_
      refine z_iload_n (x := v25) (pc := 136) dX10_atFirst_136 rfl rfl ?_
      refine z_jn 155 (fun (y32 : Int32) => [some (.ref a), some (.int v25)]) (fun (y32 : Int32) => [.int y32, .int (((19 : Int32) + ((25 : Int32) * v25)) + 17), .ref r31]) (fun (y32 : Int32) => h30) ?_ ?_
      · rintro y32
        try dsimp only
        refine z_astI (pc := 155) dX10_atFirst_155 (fun h34 => ?_)
        refine z_iinc (i := 1) (x := v25) (v := (v25 + 1)) (la' := [some (.ref a), some (.int (v25 + 1))]) (pc := 156) dX10_atFirst_156 rfl rfl (by decide) rfl rfl ?_
        refine z_goto (tgt := 104) (pc := 159) dX10_atFirst_159 (by decide) ?_
        exact hrec28 ((v25 + 1), h34)
      intro j33 hj33
      refine z_if_ne (tgt := 145) (pc := 137) dX10_atFirst_137 (by decide) (fun _ => ?_) (fun _ => ?_)
      · refine z_iload_n (x := v25) (pc := 145) dX10_atFirst_145 rfl rfl ?_
        refine z_iconst (v := 1) (pc := 146) dX10_atFirst_146 (by decide) ?_
        refine z_ic_ne (tgt := 154) (pc := 147) dX10_atFirst_147 (by decide) (fun _ => ?_) (fun _ => ?_)
        · refine z_iconst (v := 0) (pc := 154) dX10_atFirst_154 (by decide) ?_
          exact hj33 0
        refine z_iconst (v := 5) (pc := 150) dX10_atFirst_150 (by decide) ?_
        refine z_goto (tgt := 155) (pc := 151) dX10_atFirst_151 (by decide) ?_
        exact hj33 5
      refine z_bipush (v := 10) (pc := 140) dX10_atFirst_140 (by decide) ?_
      refine z_goto (tgt := 155) (pc := 142) dX10_atFirst_142 (by decide) ?_
      exact hj33 10
    intro k' hx2 rec18 hrec18
    rintro ⟨v15, h16⟩
    unfold f_X10_atFirst_l2
    try dsimp only
    refine z_iload_n (x := v15) (pc := 55) dX10_atFirst_55 rfl rfl ?_
    refine z_iconst (v := 3) (pc := 56) dX10_atFirst_56 (by decide) ?_
    refine z_ic_gt (tgt := 102) (pc := 57) dX10_atFirst_57 (by decide) (fun _ => ?_) (fun _ => ?_)
    · exact z_wk (hx2 h16) (And.intro rfl trivial)
    refine z_aload_n (x := a) (pc := 60) dX10_atFirst_60 rfl rfl ?_
    refine z_getR cX10 (pc := 61) dX10_atFirst_61 (j := 12) (by decide) rfl w_1099 (fun r19 => ?_)
    refine z_bipush (v := 7) (pc := 64) dX10_atFirst_64 (by decide) ?_
    refine z_iload_n (x := v15) (pc := 66) dX10_atFirst_66 rfl rfl ?_
    refine z_iadd (pc := 67) dX10_atFirst_67 ?_
    refine z_sipush (v := 1000) (pc := 68) dX10_atFirst_68 (by decide) ?_
    refine z_iload_n (x := v15) (pc := 71) dX10_atFirst_71 rfl rfl ?_
    refine z_imul (pc := 72) dX10_atFirst_72 ?_
    refine z_astI (pc := 73) dX10_atFirst_73 (fun h20 => ?_)
    refine z_aload_n (x := a) (pc := 74) dX10_atFirst_74 rfl rfl ?_
    refine z_getR cX10 (pc := 75) dX10_atFirst_75 (j := 12) (by decide) rfl w_1099 (fun r21 => ?_)
    refine z_bipush (v := 11) (pc := 78) dX10_atFirst_78 (by decide) ?_
    refine z_iload_n (x := v15) (pc := 80) dX10_atFirst_80 rfl rfl ?_
    refine z_iadd (pc := 81) dX10_atFirst_81 ?_
    refine z_iload_n (x := v15) (pc := 82) dX10_atFirst_82 rfl rfl ?_
    refine z_astI (pc := 83) dX10_atFirst_83 (fun h22 => ?_)
    refine z_aload_n (x := a) (pc := 84) dX10_atFirst_84 rfl rfl ?_
    refine z_getR cX10 (pc := 85) dX10_atFirst_85 (j := 12) (by decide) rfl w_1099 (fun r23 => ?_)
    refine z_bipush (v := 15) (pc := 88) dX10_atFirst_88 (by decide) ?_
    refine z_iload_n (x := v15) (pc := 90) dX10_atFirst_90 rfl rfl ?_
    refine z_iadd (pc := 91) dX10_atFirst_91 ?_
    refine z_iload_n (x := v15) (pc := 92) dX10_atFirst_92 rfl rfl ?_
    refine z_iconst (v := 1) (pc := 93) dX10_atFirst_93 (by decide) ?_
    refine z_iadd (pc := 94) dX10_atFirst_94 ?_
    refine z_astI (pc := 95) dX10_atFirst_95 (fun h24 => ?_)
    refine z_iinc (i := 1) (x := v15) (v := (v15 + 1)) (la' := [some (.ref a), some (.int (v15 + 1))]) (pc := 96) dX10_atFirst_96 rfl rfl (by decide) rfl rfl ?_
    refine z_goto (tgt := 55) (pc := 99) dX10_atFirst_99 (by decide) ?_
    exact hrec18 ((v15 + 1), h24)
  intro k' hx1 rec4 hrec4
  rintro ⟨v1, h2⟩
  unfold f_X10_atFirst_l1
  try dsimp only
  refine z_iload_n (x := v1) (pc := 2) dX10_atFirst_2 rfl rfl ?_
  refine z_sipush (v := 147) (pc := 3) dX10_atFirst_3 (by decide) ?_
  refine z_ic_ge (tgt := 22) (pc := 6) dX10_atFirst_6 (by decide) (fun _ => ?_) (fun _ => ?_)
  · exact z_wk (hx1 h2) (And.intro rfl trivial)
  refine z_aload_n (x := a) (pc := 9) dX10_atFirst_9 rfl rfl ?_
  refine z_getR cX10 (pc := 10) dX10_atFirst_10 (j := 12) (by decide) rfl w_1099 (fun r5 => ?_)
  refine z_iload_n (x := v1) (pc := 13) dX10_atFirst_13 rfl rfl ?_
  refine z_iconst (v := 0) (pc := 14) dX10_atFirst_14 (by decide) ?_
  refine z_astI (pc := 15) dX10_atFirst_15 (fun h6 => ?_)
  refine z_iinc (i := 1) (x := v1) (v := (v1 + 1)) (la' := [some (.ref a), some (.int (v1 + 1))]) (pc := 16) dX10_atFirst_16 rfl rfl (by decide) rfl rfl ?_
  refine z_goto (tgt := 2) (pc := 19) dX10_atFirst_19 (by decide) ?_
  exact hrec4 ((v1 + 1), h6)
set_option maxHeartbeats 2000000 in
set_option maxRecDepth 20000 in
theorem m_X10_joins {G : Z_G} (hG : z_GG G) (h : Z_H) (a : Nat) (x1 : Int32) : z_Met G iX10_joins [.ref a, .int x1] h ((f_X10_joins h a x1).bind fun h1 => some (0, h1)) := by
  refine z_in (la := [some (.ref a), some (.int x1), none, none]) (by decide) rfl rfl rfl ?_
  unfold f_X10_joins
  refine z_gg (fun _ => ?_)
  refine z_sipush (v := 147) (pc := 0) dX10_joins_0 (by decide) ?_
  refine z_bipush (v := 94) (pc := 3) dX10_joins_3 (by decide) ?_
  refine z_aload_n (x := a) (pc := 5) dX10_joins_5 rfl rfl ?_
  refine z_getR cX10 (pc := 6) dX10_joins_6 (j := 1) (by decide) rfl w_1088 (fun r1 => ?_)
  refine z_sipush (v := 145) (pc := 9) dX10_joins_9 (by decide) ?_
  refine z_aldI (pc := 12) dX10_joins_12 (fun t2 => ?_)
  refine z_imul (pc := 13) dX10_joins_13 ?_
  refine z_iadd (pc := 14) dX10_joins_14 ?_
  refine z_nm (fun v3 => ?_)
  refine z_istore_n (i := 2) (la' := [some (.ref a), some (.int x1), some (.int v3), none]) (pc := 15) dX10_joins_15 rfl (by decide) rfl rfl ?_
  refine z_iconst (v := 0) (pc := 16) dX10_joins_16 (by decide) ?_
  refine z_istore_n (i := 3) (la' := [some (.ref a), some (.int x1), some (.int v3), some (.int 0)]) (pc := 17) dX10_joins_17 rfl (by decide) rfl rfl ?_
  refine z_lp (T := Z_H) (s0 := (0, h)) 18 (fun ((v4, h5) : Int32 × Z_H) => [some (.ref a), some (.int x1), some (.int v3), some (.int v4)]) (fun ((v4, h5) : Int32 × Z_H) => h5) (fun _ => 39) (fun (h6 : Z_H) => [some (.ref a), some (.int x1), some (.int v3), none]) (fun (h6 : Z_H) => h6) ?_ ?_
  · rintro h6
    try dsimp only
    refine z_aload_n (x := a) (pc := 39) dX10_joins_39 rfl rfl ?_
    refine z_getR cX10 (pc := 40) dX10_joins_40 (j := 1) (by decide) rfl w_1088 (fun r10 => ?_)
    refine z_iload_n (x := v3) (pc := 43) dX10_joins_43 rfl rfl ?_
    refine z_iconst (v := 0) (pc := 44) dX10_joins_44 (by decide) ?_
    refine z_iadd (pc := 45) dX10_joins_45 ?_
    refine z_aload_n (x := a) (pc := 46) dX10_joins_46 rfl rfl ?_
    refine z_getR cX10 (pc := 47) dX10_joins_47 (j := 1) (by decide) rfl w_1088 (fun r11 => ?_)
    refine z_sipush (v := 144) (pc := 50) dX10_joins_50 (by decide) ?_
    refine z_aldI (pc := 53) dX10_joins_53 (fun t12 => ?_)
    refine z_astI (pc := 54) dX10_joins_54 (fun h13 => ?_)
    refine z_aload_n (x := a) (pc := 55) dX10_joins_55 rfl rfl ?_
    refine z_getR cX10 (pc := 56) dX10_joins_56 (j := 1) (by decide) rfl w_1088 (fun r14 => ?_)
    refine z_iload_n (x := v3) (pc := 59) dX10_joins_59 rfl rfl ?_
    refine z_iconst (v := 1) (pc := 60) dX10_joins_60 (by decide) ?_
    refine z_iadd (pc := 61) dX10_joins_61 ?_
    refine z_iconst (v := (-1)) (pc := 62) dX10_joins_62 (by decide) ?_
    refine z_astI (pc := 63) dX10_joins_63 (fun h15 => ?_)
    refine z_aload_n (x := a) (pc := 64) dX10_joins_64 rfl rfl ?_
    refine z_getR cX10 (pc := 65) dX10_joins_65 (j := 1) (by decide) rfl w_1088 (fun r16 => ?_)
    refine z_iload_n (x := v3) (pc := 68) dX10_joins_68 rfl rfl ?_
    refine z_iconst (v := 2) (pc := 69) dX10_joins_69 (by decide) ?_
    refine z_iadd (pc := 70) dX10_joins_70 ?_
    refine z_iload_n (x := x1) (pc := 71) dX10_joins_71 rfl rfl ?_
    refine z_astI (pc := 72) dX10_joins_72 (fun h17 => ?_)
    refine z_aload_n (x := a) (pc := 73) dX10_joins_73 rfl rfl ?_
    refine z_getR cX10 (pc := 74) dX10_joins_74 (j := 1) (by decide) rfl w_1088 (fun r18 => ?_)
    refine z_sipush (v := 145) (pc := 77) dX10_joins_77 (by decide) ?_
    refine z_dup2 (pc := 80) dX10_joins_80 rfl rfl ?_
    refine z_aldI (pc := 81) dX10_joins_81 (fun t19 => ?_)
    refine z_iconst (v := 1) (pc := 82) dX10_joins_82 (by decide) ?_
    refine z_iadd (pc := 83) dX10_joins_83 ?_
    refine z_astI (pc := 84) dX10_joins_84 (fun h20 => ?_)
    exact z_return (pc := 85) dX10_joins_85 rfl rfl
  intro k' hx1 rec7 hrec7
  rintro ⟨v4, h5⟩
  unfold f_X10_joins_l1
  try dsimp only
  refine z_iload_n (x := v4) (pc := 18) dX10_joins_18 rfl rfl ?_
  refine z_bipush (v := 94) (pc := 19) dX10_joins_19 (by decide) ?_
  refine z_ic_ge (tgt := 39) (pc := 21) dX10_joins_21 (by decide) (fun _ => ?_) (fun _ => ?_)
  · exact z_wk (hx1 h5) (And.intro rfl (And.intro rfl (And.intro rfl trivial)))
  refine z_aload_n (x := a) (pc := 24) dX10_joins_24 rfl rfl ?_
  refine z_getR cX10 (pc := 25) dX10_joins_25 (j := 1) (by decide) rfl w_1088 (fun r8 => ?_)
  refine z_iload_n (x := v3) (pc := 28) dX10_joins_28 rfl rfl ?_
  refine z_iload_n (x := v4) (pc := 29) dX10_joins_29 rfl rfl ?_
  refine z_iadd (pc := 30) dX10_joins_30 ?_
  refine z_iconst (v := 0) (pc := 31) dX10_joins_31 (by decide) ?_
  refine z_astI (pc := 32) dX10_joins_32 (fun h9 => ?_)
  refine z_iinc (i := 3) (x := v4) (v := (v4 + 1)) (la' := [some (.ref a), some (.int x1), some (.int v3), some (.int (v4 + 1))]) (pc := 33) dX10_joins_33 rfl rfl (by decide) rfl rfl ?_
  refine z_goto (tgt := 18) (pc := 36) dX10_joins_36 (by decide) ?_
  exact hrec7 ((v4 + 1), h9)
set_option maxHeartbeats 2000000 in
set_option maxRecDepth 20000 in
theorem m_X10_taken {G : Z_G} (hG : z_GG G) (h : Z_H) (a : Nat) : z_Met G iX10_taken [.ref a] h ((f_X10_taken h a).bind fun h1 => some (0, h1)) := by
  refine z_in (la := [some (.ref a), none]) (by decide) rfl rfl rfl ?_
  unfold f_X10_taken
  refine z_gg (fun _ => ?_)
  refine z_iconst (v := 3) (pc := 0) dX10_taken_0 (by decide) ?_
  refine z_istore_n (i := 1) (la' := [some (.ref a), some (.int 3)]) (pc := 1) dX10_taken_1 rfl (by decide) rfl rfl ?_
  refine z_lp (T := Z_H) (s0 := (3, h)) 2 (fun ((v1, h2) : Int32 × Z_H) => [some (.ref a), some (.int v1)]) (fun ((v1, h2) : Int32 × Z_H) => h2) (fun _ => 27) (fun (h3 : Z_H) => [some (.ref a), none]) (fun (h3 : Z_H) => h3) ?_ ?_
  · rintro h3
    try dsimp only
    refine z_aload_n (x := a) (pc := 27) dX10_taken_27 rfl rfl ?_
    refine z_getR cX10 (pc := 28) dX10_taken_28 (j := 1) (by decide) rfl w_1088 (fun r9 => ?_)
    refine z_sipush (v := 145) (pc := 31) dX10_taken_31 (by decide) ?_
    refine z_iconst (v := 0) (pc := 34) dX10_taken_34 (by decide) ?_
    refine z_astI (pc := 35) dX10_taken_35 (fun h10 => ?_)
    refine z_aload_n (x := a) (pc := 36) dX10_taken_36 rfl rfl ?_
    refine z_iconst (v := (-1)) (pc := 37) dX10_taken_37 (by decide) ?_
    refine z_cVV (As := [.int (-1)]) (rest := []) hG.1 (m_X10_joins hG h10 a (-1)) (fun _ e => z_gdb e) oX10_joins (pc := 38) dX10_taken_38 rfl w_1083 rfl rfl rfl (fun h11 => ?_)
    exact z_return (pc := 41) dX10_taken_41 rfl rfl
  intro k' hx1 rec4 hrec4
  rintro ⟨v1, h2⟩
  unfold f_X10_taken_l1
  try dsimp only
  refine z_iload_n (x := v1) (pc := 2) dX10_taken_2 rfl rfl ?_
  refine z_sipush (v := 147) (pc := 3) dX10_taken_3 (by decide) ?_
  refine z_ic_ge (tgt := 27) (pc := 6) dX10_taken_6 (by decide) (fun _ => ?_) (fun _ => ?_)
  · exact z_wk (hx1 h2) (And.intro rfl trivial)
  refine z_aload_n (x := a) (pc := 9) dX10_taken_9 rfl rfl ?_
  refine z_getR cX10 (pc := 10) dX10_taken_10 (j := 1) (by decide) rfl w_1088 (fun r5 => ?_)
  refine z_iload_n (x := v1) (pc := 13) dX10_taken_13 rfl rfl ?_
  refine z_aload_n (x := a) (pc := 14) dX10_taken_14 rfl rfl ?_
  refine z_getR cX10 (pc := 15) dX10_taken_15 (j := 12) (by decide) rfl w_1099 (fun r6 => ?_)
  refine z_iload_n (x := v1) (pc := 18) dX10_taken_18 rfl rfl ?_
  refine z_aldI (pc := 19) dX10_taken_19 (fun t7 => ?_)
  refine z_astI (pc := 20) dX10_taken_20 (fun h8 => ?_)
  refine z_iinc (i := 1) (x := v1) (v := (v1 + 1)) (la' := [some (.ref a), some (.int (v1 + 1))]) (pc := 21) dX10_taken_21 rfl rfl (by decide) rfl rfl ?_
  refine z_goto (tgt := 2) (pc := 24) dX10_taken_24 (by decide) ?_
  exact hrec4 ((v1 + 1), h8)
set_option maxHeartbeats 2000000 in
set_option maxRecDepth 20000 in
theorem m_X10_init {G : Z_G} (hG : z_GG G) (h : Z_H) (a : Nat) : z_Met G iX10_init [.ref a] h ((f_X10_init h a).bind fun h1 => some (0, h1)) := by
  refine z_in (la := [some (.ref a)]) (by decide) rfl rfl rfl ?_
  unfold f_X10_init
  refine z_aload_n (x := a) (pc := 0) dX10_init_0 rfl rfl ?_
  refine z_objInit (pc := 1) dX10_init_1 w_1074 w_26 w_27 (by decide) (Nat.le_of_ble_eq_true rfl) ?_
  refine z_aload_n (x := a) (pc := 4) dX10_init_4 rfl rfl ?_
  refine z_sipush (v := 10908) (pc := 5) dX10_init_5 (by decide) ?_
  refine z_nwaI (pc := 8) dX10_init_8 w_123 (fun r1 h2 => ?_)
  refine z_putR cX10 (pc := 10) dX10_init_10 (j := 1) (by decide) rfl rfl rfl rfl w_1088 (fun h3 => ?_)
  refine z_aload_n (x := a) (pc := 13) dX10_init_13 rfl rfl ?_
  refine z_sipush (v := 2400) (pc := 14) dX10_init_14 (by decide) ?_
  refine z_nwaB (pc := 17) dX10_init_17 w_50 (fun r4 h5 => ?_)
  refine z_putR cX10 (pc := 19) dX10_init_19 (j := 2) (by decide) rfl rfl rfl rfl w_1089 (fun h6 => ?_)
  refine z_aload_n (x := a) (pc := 22) dX10_init_22 rfl rfl ?_
  refine z_sipush (v := 147) (pc := 23) dX10_init_23 (by decide) ?_
  refine z_nwaI (pc := 26) dX10_init_26 w_123 (fun r7 h8 => ?_)
  refine z_putR cX10 (pc := 28) dX10_init_28 (j := 12) (by decide) rfl rfl rfl rfl w_1099 (fun h9 => ?_)
  refine z_aload_n (x := a) (pc := 31) dX10_init_31 rfl rfl ?_
  refine z_iconst (v := 3) (pc := 32) dX10_init_32 (by decide) ?_
  refine z_nwaI (pc := 33) dX10_init_33 w_123 (fun r10 h11 => ?_)
  refine z_putR cX10 (pc := 35) dX10_init_35 (j := 13) (by decide) rfl rfl rfl rfl w_1100 (fun h12 => ?_)
  refine z_aload_n (x := a) (pc := 38) dX10_init_38 rfl rfl ?_
  refine z_iconst (v := (-1)) (pc := 39) dX10_init_39 (by decide) ?_
  refine z_putI cX10 (pc := 40) dX10_init_40 (j := 14) (by decide) rfl rfl w_1101 (fun h13 => ?_)
  refine z_aload_n (x := a) (pc := 43) dX10_init_43 rfl rfl ?_
  refine z_bipush (v := 11) (pc := 44) dX10_init_44 (by decide) ?_
  refine z_nwaI (pc := 46) dX10_init_46 w_123 (fun r14 h15 => ?_)
  refine z_putR cX10 (pc := 48) dX10_init_48 (j := 17) (by decide) rfl rfl rfl rfl w_1104 (fun h16 => ?_)
  refine z_aload_n (x := a) (pc := 51) dX10_init_51 rfl rfl ?_
  refine z_bipush (v := 11) (pc := 52) dX10_init_52 (by decide) ?_
  refine z_nwaZ (pc := 54) dX10_init_54 w_1166 (fun r17 h18 => ?_)
  refine z_putR cX10 (pc := 56) dX10_init_56 (j := 18) (by decide) rfl rfl rfl rfl w_1105 (fun h19 => ?_)
  refine z_aload_n (x := a) (pc := 59) dX10_init_59 rfl rfl ?_
  refine z_sipush (v := 1100) (pc := 60) dX10_init_60 (by decide) ?_
  refine z_nwaI (pc := 63) dX10_init_63 w_123 (fun r20 h21 => ?_)
  refine z_putR cX10 (pc := 65) dX10_init_65 (j := 21) (by decide) rfl rfl rfl rfl w_1108 (fun h22 => ?_)
  refine z_aload_n (x := a) (pc := 68) dX10_init_68 rfl rfl ?_
  refine z_bipush (v := 9) (pc := 69) dX10_init_69 (by decide) ?_
  refine z_nwaI (pc := 71) dX10_init_71 w_123 (fun r23 h24 => ?_)
  refine z_putR cX10 (pc := 73) dX10_init_73 (j := 22) (by decide) rfl rfl rfl rfl w_1109 (fun h25 => ?_)
  refine z_aload_n (x := a) (pc := 76) dX10_init_76 rfl rfl ?_
  refine z_bipush (v := 35) (pc := 77) dX10_init_77 (by decide) ?_
  refine z_nwaI (pc := 79) dX10_init_79 w_123 (fun r26 h27 => ?_)
  refine z_putR cX10 (pc := 81) dX10_init_81 (j := 23) (by decide) rfl rfl rfl rfl w_1110 (fun h28 => ?_)
  refine z_aload_n (x := a) (pc := 84) dX10_init_84 rfl rfl ?_
  refine z_iconst (v := 3) (pc := 85) dX10_init_85 (by decide) ?_
  refine z_nwaZ (pc := 86) dX10_init_86 w_1166 (fun r29 h30 => ?_)
  refine z_putR cX10 (pc := 88) dX10_init_88 (j := 25) (by decide) rfl rfl rfl rfl w_1112 (fun h31 => ?_)
  refine z_aload_n (x := a) (pc := 91) dX10_init_91 rfl rfl ?_
  refine z_getR cX10 (pc := 92) dX10_init_92 (j := 1) (by decide) rfl w_1088 (fun r32 => ?_)
  refine z_iconst (v := 2) (pc := 95) dX10_init_95 (by decide) ?_
  refine z_iconst (v := (-1)) (pc := 96) dX10_init_96 (by decide) ?_
  refine z_astI (pc := 97) dX10_init_97 (fun h33 => ?_)
  refine z_aload_n (x := a) (pc := 98) dX10_init_98 rfl rfl ?_
  refine z_cVV (As := []) (rest := []) hG.1 (m_X10_atFirst hG h33 a) (fun _ e => z_gdb e) oX10_atFirst (pc := 99) dX10_init_99 rfl w_1075 rfl rfl rfl (fun h34 => ?_)
  refine z_aload_n (x := a) (pc := 102) dX10_init_102 rfl rfl ?_
  refine z_cVV (As := []) (rest := []) hG.1 (m_X10_taken hG h34 a) (fun _ e => z_gdb e) oX10_taken (pc := 103) dX10_init_103 rfl w_1079 rfl rfl rfl (fun h35 => ?_)
  exact z_return (pc := 106) dX10_init_106 rfl rfl
set_option maxHeartbeats 2000000 in
set_option maxRecDepth 20000 in
theorem m_X8_append {G : Z_G} (hG : z_GG G) (h : Z_H) (a : Nat) (x1 : Int32) : z_Met G iX8_append [.ref a, .int x1] h ((f_X8_append h a x1).bind fun h1 => some (0, h1)) := by
  refine z_in (la := [some (.ref a), some (.int x1), none]) (by decide) rfl rfl rfl ?_
  unfold f_X8_append
  refine z_gg (fun _ => ?_)
  refine z_bipush (v := 24) (pc := 0) dX8_append_0 (by decide) ?_
  refine z_istore_n (i := 2) (la' := [some (.ref a), some (.int x1), some (.int 24)]) (pc := 2) dX8_append_2 rfl (by decide) rfl rfl ?_
  refine z_lp (T := Z_H) (s0 := (24, h)) 3 (fun ((v1, h2) : Int32 × Z_H) => [some (.ref a), some (.int x1), some (.int v1)]) (fun ((v1, h2) : Int32 × Z_H) => h2) (fun _ => 46) (fun (h3 : Z_H) => [none, none, none]) (fun (h3 : Z_H) => h3) ?_ ?_
  · rintro h3
    try dsimp only
    exact z_return (pc := 46) dX8_append_46 rfl rfl
  intro k' hx1 rec4 hrec4
  rintro ⟨v1, h2⟩
  unfold f_X8_append_l1
  try dsimp only
  refine z_iload_n (x := v1) (pc := 3) dX8_append_3 rfl rfl ?_
  refine z_if_lt (tgt := 46) (pc := 4) dX8_append_4 (by decide) (fun _ => ?_) (fun _ => ?_)
  · exact z_wk (hx1 h2) trivial
  refine z_aload_n (x := a) (pc := 7) dX8_append_7 rfl rfl ?_
  refine z_getI cX8 (pc := 8) dX8_append_8 (j := 1) (by decide) rfl w_42 (fun t5 => ?_)
  refine z_sipush (v := 600) (pc := 11) dX8_append_11 (by decide) ?_
  refine z_ic_ge (tgt := 46) (pc := 14) dX8_append_14 (by decide) (fun _ => ?_) (fun _ => ?_)
  · exact z_wk (hx1 h2) trivial
  refine z_aload_n (x := a) (pc := 17) dX8_append_17 rfl rfl ?_
  refine z_getR cX8 (pc := 18) dX8_append_18 (j := 0) (by decide) rfl w_40 (fun r6 => ?_)
  refine z_aload_n (x := a) (pc := 21) dX8_append_21 rfl rfl ?_
  refine z_getI cX8 (pc := 22) dX8_append_22 (j := 1) (by decide) rfl w_42 (fun t7 => ?_)
  refine z_iload_n (x := x1) (pc := 25) dX8_append_25 rfl rfl ?_
  refine z_iload_n (x := v1) (pc := 26) dX8_append_26 rfl rfl ?_
  refine z_ishr (pc := 27) dX8_append_27 ?_
  refine z_i2b (pc := 28) dX8_append_28 ?_
  refine z_astB (pc := 29) dX8_append_29 (fun h8 => ?_)
  refine z_aload_n (x := a) (pc := 30) dX8_append_30 rfl rfl ?_
  refine z_dup (pc := 31) dX8_append_31 rfl ?_
  refine z_getI cX8 (pc := 32) dX8_append_32 (j := 1) (by decide) rfl w_42 (fun t9 => ?_)
  refine z_iconst (v := 1) (pc := 35) dX8_append_35 (by decide) ?_
  refine z_iadd (pc := 36) dX8_append_36 ?_
  refine z_putI cX8 (pc := 37) dX8_append_37 (j := 1) (by decide) rfl rfl w_42 (fun h10 => ?_)
  refine z_iinc (i := 2) (x := v1) (v := (v1 + (-8))) (la' := [some (.ref a), some (.int x1), some (.int (v1 + (-8)))]) (pc := 40) dX8_append_40 rfl rfl (by decide) rfl rfl ?_
  refine z_goto (tgt := 3) (pc := 43) dX8_append_43 (by decide) ?_
  exact hrec4 ((v1 + (-8)), h10)
set_option maxHeartbeats 2000000 in
set_option maxRecDepth 20000 in
theorem m_X9_feed {G : Z_G} (hG : z_GG G) (h : Z_H) (a : Nat) (x1 : Int32) (x2 : Int32) (x3 : Int32) (x4 : Int32) (x5 : Int32) : z_Met G iX9_feed [.ref a, .int x1, .int x2, .int x3, .int x4, .int x5] h ((f_X9_feed h a x1 x2 x3 x4 x5).bind some) := by
  refine z_in (la := [some (.ref a), some (.int x1), some (.int x2), some (.int x3), some (.int x4), some (.int x5), none]) (by decide) rfl rfl rfl ?_
  unfold f_X9_feed
  refine z_gg (fun _ => ?_)
  refine z_aload_n (x := a) (pc := 0) dX9_feed_0 rfl rfl ?_
  refine z_getR cX9 (pc := 1) dX9_feed_1 (j := 0) (by decide) rfl w_403 (fun r1 => ?_)
  refine z_getR cX7 (pc := 4) dX9_feed_4 (j := 0) (by decide) rfl w_240 (fun r2 => ?_)
  refine z_astore (i := 6) (la' := [some (.ref a), some (.int x1), some (.int x2), some (.int x3), some (.int x4), some (.int x5), some (.ref r2)]) (pc := 7) dX9_feed_7 (by decide) rfl rfl ?_
  refine z_aload (x := r2) (pc := 9) dX9_feed_9 rfl ?_
  refine z_getI cX8 (pc := 11) dX9_feed_11 (j := 1) (by decide) rfl w_43 (fun t3 => ?_)
  refine z_bipush (v := 20) (pc := 14) dX9_feed_14 (by decide) ?_
  refine z_iadd (pc := 16) dX9_feed_16 ?_
  refine z_sipush (v := 600) (pc := 17) dX9_feed_17 (by decide) ?_
  refine z_ic_le (tgt := 25) (pc := 20) dX9_feed_20 (by decide) (fun _ => ?_) (fun _ => ?_)
  · refine z_aload (x := r2) (pc := 25) dX9_feed_25 rfl ?_
    refine z_iload_n (x := x1) (pc := 27) dX9_feed_27 rfl rfl ?_
    refine z_cVV (As := [.int x1]) (rest := []) hG.1 (m_X8_append hG h r2 x1) (fun _ e => z_gdb e) oX8_append (pc := 28) dX9_feed_28 rfl w_423 rfl rfl rfl (fun h4 => ?_)
    refine z_aload (x := r2) (pc := 31) dX9_feed_31 rfl ?_
    refine z_iload_n (x := x2) (pc := 33) dX9_feed_33 rfl rfl ?_
    refine z_cVV (As := [.int x2]) (rest := []) hG.1 (m_X8_append hG h4 r2 x2) (fun _ e => z_gdb e) oX8_append (pc := 34) dX9_feed_34 rfl w_423 rfl rfl rfl (fun h5 => ?_)
    refine z_aload (x := r2) (pc := 37) dX9_feed_37 rfl ?_
    refine z_iload_n (x := x3) (pc := 39) dX9_feed_39 rfl rfl ?_
    refine z_cVV (As := [.int x3]) (rest := []) hG.1 (m_X8_append hG h5 r2 x3) (fun _ e => z_gdb e) oX8_append (pc := 40) dX9_feed_40 rfl w_423 rfl rfl rfl (fun h6 => ?_)
    refine z_aload (x := r2) (pc := 43) dX9_feed_43 rfl ?_
    refine z_iload (x := x4) (pc := 45) dX9_feed_45 rfl ?_
    refine z_cVV (As := [.int x4]) (rest := []) hG.1 (m_X8_append hG h6 r2 x4) (fun _ e => z_gdb e) oX8_append (pc := 47) dX9_feed_47 rfl w_423 rfl rfl rfl (fun h7 => ?_)
    refine z_aload (x := r2) (pc := 50) dX9_feed_50 rfl ?_
    refine z_iload (x := x5) (pc := 52) dX9_feed_52 rfl ?_
    refine z_cVV (As := [.int x5]) (rest := []) hG.1 (m_X8_append hG h7 r2 x5) (fun _ e => z_gdb e) oX8_append (pc := 54) dX9_feed_54 rfl w_423 rfl rfl rfl (fun h8 => ?_)
    refine z_aload (x := r2) (pc := 57) dX9_feed_57 rfl ?_
    refine z_getI cX8 (pc := 59) dX9_feed_59 (j := 1) (by decide) rfl w_43 (fun t9 => ?_)
    exact z_ireturn (pc := 62) dX9_feed_62 rfl rfl rfl
  refine z_iconst (v := (-1)) (pc := 23) dX9_feed_23 (by decide) ?_
  exact z_ireturn (pc := 24) dX9_feed_24 rfl rfl rfl
set_option maxHeartbeats 2000000 in
set_option maxRecDepth 20000 in
theorem m_X10_four {G : Z_G} (hG : z_GG G) (h : Z_H) (a : Nat) (x1 : Int32) : z_Met G iX10_four [.ref a, .int x1] h ((f_X10_four h a x1).bind fun h1 => some (0, h1)) := by
  refine z_in (la := [some (.ref a), some (.int x1), none]) (by decide) rfl rfl rfl ?_
  unfold f_X10_four
  refine z_gg (fun _ => ?_)
  refine z_bipush (v := 24) (pc := 0) dX10_four_0 (by decide) ?_
  refine z_istore_n (i := 2) (la' := [some (.ref a), some (.int x1), some (.int 24)]) (pc := 2) dX10_four_2 rfl (by decide) rfl rfl ?_
  refine z_lp (T := Z_H) (s0 := (24, h)) 3 (fun ((v1, h2) : Int32 × Z_H) => [some (.ref a), some (.int x1), some (.int v1)]) (fun ((v1, h2) : Int32 × Z_H) => h2) (fun _ => 38) (fun (h3 : Z_H) => [none, none, none]) (fun (h3 : Z_H) => h3) ?_ ?_
  · rintro h3
    try dsimp only
    exact z_return (pc := 38) dX10_four_38 rfl rfl
  intro k' hx1 rec4 hrec4
  rintro ⟨v1, h2⟩
  unfold f_X10_four_l1
  try dsimp only
  refine z_iload_n (x := v1) (pc := 3) dX10_four_3 rfl rfl ?_
  refine z_if_lt (tgt := 38) (pc := 4) dX10_four_4 (by decide) (fun _ => ?_) (fun _ => ?_)
  · exact z_wk (hx1 h2) trivial
  refine z_aload_n (x := a) (pc := 7) dX10_four_7 rfl rfl ?_
  refine z_getR cX10 (pc := 8) dX10_four_8 (j := 2) (by decide) rfl w_1089 (fun r5 => ?_)
  refine z_aload_n (x := a) (pc := 11) dX10_four_11 rfl rfl ?_
  refine z_getR cX10 (pc := 12) dX10_four_12 (j := 1) (by decide) rfl w_1088 (fun r6 => ?_)
  refine z_iconst (v := 0) (pc := 15) dX10_four_15 (by decide) ?_
  refine z_aldI (pc := 16) dX10_four_16 (fun t7 => ?_)
  refine z_iload_n (x := x1) (pc := 17) dX10_four_17 rfl rfl ?_
  refine z_iload_n (x := v1) (pc := 18) dX10_four_18 rfl rfl ?_
  refine z_ishr (pc := 19) dX10_four_19 ?_
  refine z_i2b (pc := 20) dX10_four_20 ?_
  refine z_astB (pc := 21) dX10_four_21 (fun h8 => ?_)
  refine z_aload_n (x := a) (pc := 22) dX10_four_22 rfl rfl ?_
  refine z_getR cX10 (pc := 23) dX10_four_23 (j := 1) (by decide) rfl w_1088 (fun r9 => ?_)
  refine z_iconst (v := 0) (pc := 26) dX10_four_26 (by decide) ?_
  refine z_dup2 (pc := 27) dX10_four_27 rfl rfl ?_
  refine z_aldI (pc := 28) dX10_four_28 (fun t10 => ?_)
  refine z_iconst (v := 1) (pc := 29) dX10_four_29 (by decide) ?_
  refine z_iadd (pc := 30) dX10_four_30 ?_
  refine z_astI (pc := 31) dX10_four_31 (fun h11 => ?_)
  refine z_iinc (i := 2) (x := v1) (v := (v1 + (-8))) (la' := [some (.ref a), some (.int x1), some (.int (v1 + (-8)))]) (pc := 32) dX10_four_32 rfl rfl (by decide) rfl rfl ?_
  refine z_goto (tgt := 3) (pc := 35) dX10_four_35 (by decide) ?_
  exact hrec4 ((v1 + (-8)), h11)
set_option maxHeartbeats 2000000 in
set_option maxRecDepth 20000 in
theorem m_X10_feed {G : Z_G} (hG : z_GG G) (h : Z_H) (a : Nat) (x1 : Int32) (x2 : Int32) (x3 : Int32) (x4 : Int32) (x5 : Int32) : z_Met G iX10_feed [.ref a, .int x1, .int x2, .int x3, .int x4, .int x5] h ((f_X10_feed h a x1 x2 x3 x4 x5).bind some) := by
  refine z_in (la := [some (.ref a), some (.int x1), some (.int x2), some (.int x3), some (.int x4), some (.int x5)]) (by decide) rfl rfl rfl ?_
  unfold f_X10_feed
  refine z_gg (fun _ => ?_)
  refine z_aload_n (x := a) (pc := 0) dX10_feed_0 rfl rfl ?_
  refine z_iconst (v := 0) (pc := 1) dX10_feed_1 (by decide) ?_
  refine z_putI cX10 (pc := 2) dX10_feed_2 (j := 0) (by decide) rfl rfl w_1087 (fun h1 => ?_)
  refine z_aload_n (x := a) (pc := 5) dX10_feed_5 rfl rfl ?_
  refine z_getR cX10 (pc := 6) dX10_feed_6 (j := 1) (by decide) rfl w_1088 (fun r2 => ?_)
  refine z_iconst (v := 0) (pc := 9) dX10_feed_9 (by decide) ?_
  refine z_aldI (pc := 10) dX10_feed_10 (fun t3 => ?_)
  refine z_bipush (v := 20) (pc := 11) dX10_feed_11 (by decide) ?_
  refine z_iadd (pc := 13) dX10_feed_13 ?_
  refine z_sipush (v := 600) (pc := 14) dX10_feed_14 (by decide) ?_
  refine z_ic_le (tgt := 22) (pc := 17) dX10_feed_17 (by decide) (fun _ => ?_) (fun _ => ?_)
  · refine z_aload_n (x := a) (pc := 22) dX10_feed_22 rfl rfl ?_
    refine z_iload_n (x := x1) (pc := 23) dX10_feed_23 rfl rfl ?_
    refine z_cVV (As := [.int x1]) (rest := []) hG.1 (m_X10_four hG h1 a x1) (fun _ e => z_gdb e) oX10_four (pc := 24) dX10_feed_24 rfl w_1171 rfl rfl rfl (fun h4 => ?_)
    refine z_aload_n (x := a) (pc := 27) dX10_feed_27 rfl rfl ?_
    refine z_iload_n (x := x2) (pc := 28) dX10_feed_28 rfl rfl ?_
    refine z_cVV (As := [.int x2]) (rest := []) hG.1 (m_X10_four hG h4 a x2) (fun _ e => z_gdb e) oX10_four (pc := 29) dX10_feed_29 rfl w_1171 rfl rfl rfl (fun h5 => ?_)
    refine z_aload_n (x := a) (pc := 32) dX10_feed_32 rfl rfl ?_
    refine z_iload_n (x := x3) (pc := 33) dX10_feed_33 rfl rfl ?_
    refine z_cVV (As := [.int x3]) (rest := []) hG.1 (m_X10_four hG h5 a x3) (fun _ e => z_gdb e) oX10_four (pc := 34) dX10_feed_34 rfl w_1171 rfl rfl rfl (fun h6 => ?_)
    refine z_aload_n (x := a) (pc := 37) dX10_feed_37 rfl rfl ?_
    refine z_iload (x := x4) (pc := 38) dX10_feed_38 rfl ?_
    refine z_cVV (As := [.int x4]) (rest := []) hG.1 (m_X10_four hG h6 a x4) (fun _ e => z_gdb e) oX10_four (pc := 40) dX10_feed_40 rfl w_1171 rfl rfl rfl (fun h7 => ?_)
    refine z_aload_n (x := a) (pc := 43) dX10_feed_43 rfl rfl ?_
    refine z_iload (x := x5) (pc := 44) dX10_feed_44 rfl ?_
    refine z_cVV (As := [.int x5]) (rest := []) hG.1 (m_X10_four hG h7 a x5) (fun _ e => z_gdb e) oX10_four (pc := 46) dX10_feed_46 rfl w_1171 rfl rfl rfl (fun h8 => ?_)
    refine z_aload_n (x := a) (pc := 49) dX10_feed_49 rfl rfl ?_
    refine z_getR cX10 (pc := 50) dX10_feed_50 (j := 1) (by decide) rfl w_1088 (fun r9 => ?_)
    refine z_iconst (v := 0) (pc := 53) dX10_feed_53 (by decide) ?_
    refine z_aldI (pc := 54) dX10_feed_54 (fun t10 => ?_)
    exact z_ireturn (pc := 55) dX10_feed_55 rfl rfl rfl
  refine z_iconst (v := (-1)) (pc := 20) dX10_feed_20 (by decide) ?_
  exact z_ireturn (pc := 21) dX10_feed_21 rfl rfl rfl
set_option maxHeartbeats 2000000 in
set_option maxRecDepth 20000 in
theorem m_X9_end {G : Z_G} (hG : z_GG G) (h : Z_H) (a : Nat) (x1 : Int32) : z_Met G iX9_end [.ref a, .int x1] h ((f_X9_end h a x1).bind some) := by
  refine z_in (la := [some (.ref a), some (.int x1)]) (by decide) rfl rfl rfl ?_
  unfold f_X9_end
  refine z_gg (fun _ => ?_)
  refine z_iload_n (x := x1) (pc := 0) dX9_end_0 rfl rfl ?_
  refine z_if_lt (tgt := 18) (pc := 1) dX9_end_1 (by decide) (fun _ => ?_) (fun _ => ?_)
  · refine z_iconst (v := (-1)) (pc := 18) dX9_end_18 (by decide) ?_
    exact z_ireturn (pc := 19) dX9_end_19 rfl rfl rfl
  refine z_iload_n (x := x1) (pc := 4) dX9_end_4 rfl rfl ?_
  refine z_aload_n (x := a) (pc := 5) dX9_end_5 rfl rfl ?_
  refine z_getR cX9 (pc := 6) dX9_end_6 (j := 0) (by decide) rfl w_403 (fun r1 => ?_)
  refine z_getR cX7 (pc := 9) dX9_end_9 (j := 0) (by decide) rfl w_240 (fun r2 => ?_)
  refine z_getI cX8 (pc := 12) dX9_end_12 (j := 1) (by decide) rfl w_43 (fun t3 => ?_)
  refine z_ic_le (tgt := 20) (pc := 15) dX9_end_15 (by decide) (fun _ => ?_) (fun _ => ?_)
  · refine z_aload_n (x := a) (pc := 20) dX9_end_20 rfl rfl ?_
    refine z_getR cX9 (pc := 21) dX9_end_21 (j := 0) (by decide) rfl w_403 (fun r4 => ?_)
    refine z_getR cX7 (pc := 24) dX9_end_24 (j := 0) (by decide) rfl w_240 (fun r5 => ?_)
    refine z_iload_n (x := x1) (pc := 27) dX9_end_27 rfl rfl ?_
    refine z_putI cX8 (pc := 28) dX9_end_28 (j := 1) (by decide) rfl rfl w_43 (fun h6 => ?_)
    refine z_iload_n (x := x1) (pc := 31) dX9_end_31 rfl rfl ?_
    exact z_ireturn (pc := 32) dX9_end_32 rfl rfl rfl
  refine z_iconst (v := (-1)) (pc := 18) dX9_end_18 (by decide) ?_
  exact z_ireturn (pc := 19) dX9_end_19 rfl rfl rfl
set_option maxHeartbeats 2000000 in
set_option maxRecDepth 20000 in
theorem m_X10_in {G : Z_G} (hG : z_GG G) (h : Z_H) (x0 : Int32) (x1 : Int32) (x2 : Int32) : z_Met G iX10_in [.int x0, .int x1, .int x2] h ((f_X10_in h x0 x1 x2).bind fun r => some (r, h)) := by
  refine z_in (la := [some (.int x0), some (.int x1), some (.int x2)]) (by decide) rfl rfl rfl ?_
  unfold f_X10_in
  refine z_iload_n (x := x0) (pc := 0) dX10_in_0 rfl rfl ?_
  refine z_iload_n (x := x1) (pc := 1) dX10_in_1 rfl rfl ?_
  refine z_ic_lt (tgt := 14) (pc := 2) dX10_in_2 (by decide) (fun _ => ?_) (fun _ => ?_)
  · refine z_iconst (v := 0) (pc := 14) dX10_in_14 (by decide) ?_
    exact z_ireturn (pc := 15) dX10_in_15 rfl (by decide) rfl
  refine z_iload_n (x := x0) (pc := 5) dX10_in_5 rfl rfl ?_
  refine z_iload_n (x := x2) (pc := 6) dX10_in_6 rfl rfl ?_
  refine z_ic_gt (tgt := 14) (pc := 7) dX10_in_7 (by decide) (fun _ => ?_) (fun _ => ?_)
  · refine z_iconst (v := 0) (pc := 14) dX10_in_14 (by decide) ?_
    exact z_ireturn (pc := 15) dX10_in_15 rfl (by decide) rfl
  refine z_iconst (v := 1) (pc := 10) dX10_in_10 (by decide) ?_
  refine z_goto (tgt := 15) (pc := 11) dX10_in_11 (by decide) ?_
  exact z_ireturn (pc := 15) dX10_in_15 rfl (by decide) rfl
set_option maxHeartbeats 2000000 in
set_option maxRecDepth 20000 in
theorem m_X10_end {G : Z_G} (hG : z_GG G) (h : Z_H) (a : Nat) (x1 : Int32) : z_Met G iX10_end [.ref a, .int x1] h ((f_X10_end h a x1).bind some) := by
  refine z_in (la := [some (.ref a), some (.int x1)]) (by decide) rfl rfl rfl ?_
  unfold f_X10_end
  refine z_gg (fun _ => ?_)
  refine z_aload_n (x := a) (pc := 0) dX10_end_0 rfl rfl ?_
  refine z_iconst (v := 0) (pc := 1) dX10_end_1 (by decide) ?_
  refine z_putI cX10 (pc := 2) dX10_end_2 (j := 0) (by decide) rfl rfl w_1087 (fun h1 => ?_)
  refine z_iload_n (x := x1) (pc := 5) dX10_end_5 rfl rfl ?_
  refine z_iconst (v := 0) (pc := 6) dX10_end_6 (by decide) ?_
  refine z_aload_n (x := a) (pc := 7) dX10_end_7 rfl rfl ?_
  refine z_getR cX10 (pc := 8) dX10_end_8 (j := 1) (by decide) rfl w_1088 (fun r2 => ?_)
  refine z_iconst (v := 0) (pc := 11) dX10_end_11 (by decide) ?_
  refine z_aldI (pc := 12) dX10_end_12 (fun t3 => ?_)
  refine z_cSP (As := [.int x1, .int 0, .int t3]) (rest := []) hG.1 (m_X10_in hG h1 x1 0 t3) oX10_in (pc := 13) dX10_end_13 rfl w_1179 rfl rfl rfl (fun t4 => ?_)
  refine z_if_ne (tgt := 21) (pc := 16) dX10_end_16 (by decide) (fun _ => ?_) (fun _ => ?_)
  · refine z_aload_n (x := a) (pc := 21) dX10_end_21 rfl rfl ?_
    refine z_getR cX10 (pc := 22) dX10_end_22 (j := 1) (by decide) rfl w_1088 (fun r5 => ?_)
    refine z_iconst (v := 0) (pc := 25) dX10_end_25 (by decide) ?_
    refine z_iload_n (x := x1) (pc := 26) dX10_end_26 rfl rfl ?_
    refine z_astI (pc := 27) dX10_end_27 (fun h6 => ?_)
    refine z_iload_n (x := x1) (pc := 28) dX10_end_28 rfl rfl ?_
    exact z_ireturn (pc := 29) dX10_end_29 rfl rfl rfl
  refine z_iconst (v := (-1)) (pc := 19) dX10_end_19 (by decide) ?_
  exact z_ireturn (pc := 20) dX10_end_20 rfl rfl rfl
set_option maxHeartbeats 2000000 in
set_option maxRecDepth 20000 in
theorem m_X8_copyFrom {G : Z_G} (hG : z_GG G) (h : Z_H) (a : Nat) (b1 : Nat) : z_Met G iX8_copyFrom [.ref a, .ref b1] h ((f_X8_copyFrom h a b1).bind fun h1 => some (0, h1)) := by
  refine z_in (la := [some (.ref a), some (.ref b1)]) (by decide) rfl rfl rfl ?_
  unfold f_X8_copyFrom
  refine z_gg (fun _ => ?_)
  refine z_aload_n (x := a) (pc := 0) dX8_copyFrom_0 rfl rfl ?_
  refine z_aload_n (x := b1) (pc := 1) dX8_copyFrom_1 rfl rfl ?_
  refine z_getI cX8 (pc := 2) dX8_copyFrom_2 (j := 1) (by decide) rfl w_42 (fun t1 => ?_)
  refine z_putI cX8 (pc := 5) dX8_copyFrom_5 (j := 1) (by decide) rfl rfl w_42 (fun h2 => ?_)
  refine z_aload_n (x := b1) (pc := 8) dX8_copyFrom_8 rfl rfl ?_
  refine z_getR cX8 (pc := 9) dX8_copyFrom_9 (j := 0) (by decide) rfl w_40 (fun r3 => ?_)
  refine z_iconst (v := 0) (pc := 12) dX8_copyFrom_12 (by decide) ?_
  refine z_aload_n (x := a) (pc := 13) dX8_copyFrom_13 rfl rfl ?_
  refine z_getR cX8 (pc := 14) dX8_copyFrom_14 (j := 0) (by decide) rfl w_40 (fun r4 => ?_)
  refine z_iconst (v := 0) (pc := 17) dX8_copyFrom_17 (by decide) ?_
  refine z_aload_n (x := b1) (pc := 18) dX8_copyFrom_18 rfl rfl ?_
  refine z_getI cX8 (pc := 19) dX8_copyFrom_19 (j := 1) (by decide) rfl w_42 (fun t5 => ?_)
  refine z_cp (pc := 22) dX8_copyFrom_22 w_443 w_445 w_444 w_12 (by decide) (Nat.le_of_ble_eq_true rfl) (fun h6 => ?_)
  exact z_return (pc := 25) dX8_copyFrom_25 rfl rfl
set_option maxHeartbeats 2000000 in
set_option maxRecDepth 20000 in
theorem m_X4_skipBlanks {G : Z_G} (hG : z_GG G) (h : Z_H) (a : Nat) : z_Met G iX4_skipBlanks [.ref a] h ((f_X4_skipBlanks h a).bind fun h1 => some (0, h1)) := by
  refine z_in (la := [some (.ref a)]) (by decide) rfl rfl rfl ?_
  unfold f_X4_skipBlanks
  refine z_gg (fun _ => ?_)
  refine z_lp (T := Z_H) (s0 := h) 0 (fun (h1 : Z_H) => [some (.ref a)]) (fun (h1 : Z_H) => h1) (fun _ => 61) (fun (h2 : Z_H) => [none]) (fun (h2 : Z_H) => h2) ?_ ?_
  · rintro h2
    try dsimp only
    exact z_return (pc := 61) dX4_skipBlanks_61 rfl rfl
  intro k' hx1 rec3 hrec3
  rintro h1
  unfold f_X4_skipBlanks_l1
  try dsimp only [lt]
  refine z_aload_n (x := a) (pc := 0) dX4_skipBlanks_0 rfl rfl ?_
  refine z_getI cX4 (pc := 1) dX4_skipBlanks_1 (j := 6) (by decide) rfl w_299 (fun t4 => ?_)
  refine z_aload_n (x := a) (pc := 4) dX4_skipBlanks_4 rfl rfl ?_
  refine z_getR cX4 (pc := 5) dX4_skipBlanks_5 (j := 1) (by decide) rfl w_294 (fun r5 => ?_)
  refine z_getI cX8 (pc := 8) dX4_skipBlanks_8 (j := 1) (by decide) rfl w_44 (fun t6 => ?_)
  refine z_ic_ge (tgt := 61) (pc := 11) dX4_skipBlanks_11 (by decide) (fun _ => ?_) (fun _ => ?_)
  · exact z_wk (hx1 h1) trivial
  refine z_aload_n (x := a) (pc := 14) dX4_skipBlanks_14 rfl rfl ?_
  refine z_getR cX4 (pc := 15) dX4_skipBlanks_15 (j := 1) (by decide) rfl w_294 (fun r7 => ?_)
  refine z_getR cX8 (pc := 18) dX4_skipBlanks_18 (j := 0) (by decide) rfl w_41 (fun r8 => ?_)
  refine z_aload_n (x := a) (pc := 21) dX4_skipBlanks_21 rfl rfl ?_
  refine z_getI cX4 (pc := 22) dX4_skipBlanks_22 (j := 6) (by decide) rfl w_299 (fun t9 => ?_)
  refine z_aldB (pc := 25) dX4_skipBlanks_25 (fun t10 => ?_)
  refine z_bipush (v := 10) (pc := 26) dX4_skipBlanks_26 (by decide) ?_
  refine z_jn 48 (fun (_ : Unit) => [some (.ref a)]) (fun (_ : Unit) => []) (fun (_ : Unit) => h1) ?_ ?_
  · rintro _
    try dsimp only
    refine z_aload_n (x := a) (pc := 48) dX4_skipBlanks_48 rfl rfl ?_
    refine z_dup (pc := 49) dX4_skipBlanks_49 rfl ?_
    refine z_getI cX4 (pc := 50) dX4_skipBlanks_50 (j := 6) (by decide) rfl w_299 (fun t12 => ?_)
    refine z_iconst (v := 1) (pc := 53) dX4_skipBlanks_53 (by decide) ?_
    refine z_iadd (pc := 54) dX4_skipBlanks_54 ?_
    refine z_putI cX4 (pc := 55) dX4_skipBlanks_55 (j := 6) (by decide) rfl rfl w_299 (fun h13 => ?_)
    refine z_goto (tgt := 0) (pc := 58) dX4_skipBlanks_58 (by decide) ?_
    exact hrec3 h13
  intro j11 hj11
  refine z_ic_eq (tgt := 48) (pc := 28) dX4_skipBlanks_28 (by decide) (fun _ => ?_) (fun _ => ?_)
  · exact hj11 ()
  refine z_aload_n (x := a) (pc := 31) dX4_skipBlanks_31 rfl rfl ?_
  refine z_getR cX4 (pc := 32) dX4_skipBlanks_32 (j := 1) (by decide) rfl w_294 (fun r14 => ?_)
  refine z_getR cX8 (pc := 35) dX4_skipBlanks_35 (j := 0) (by decide) rfl w_41 (fun r15 => ?_)
  refine z_aload_n (x := a) (pc := 38) dX4_skipBlanks_38 rfl rfl ?_
  refine z_getI cX4 (pc := 39) dX4_skipBlanks_39 (j := 6) (by decide) rfl w_299 (fun t16 => ?_)
  refine z_aldB (pc := 42) dX4_skipBlanks_42 (fun t17 => ?_)
  refine z_bipush (v := 32) (pc := 43) dX4_skipBlanks_43 (by decide) ?_
  refine z_ic_ne (tgt := 61) (pc := 45) dX4_skipBlanks_45 (by decide) (fun _ => ?_) (fun _ => ?_)
  · exact z_wk (hx1 h1) trivial
  exact hj11 ()
set_option maxHeartbeats 2000000 in
set_option maxRecDepth 20000 in
theorem m_X4_isDigit {G : Z_G} (hG : z_GG G) (h : Z_H) (a : Nat) : z_Met G iX4_isDigit [.ref a] h ((f_X4_isDigit h a).bind fun r => some (r, h)) := by
  refine z_in (la := [some (.ref a)]) (by decide) rfl rfl rfl ?_
  unfold f_X4_isDigit
  refine z_gg (fun _ => ?_)
  refine z_aload_n (x := a) (pc := 0) dX4_isDigit_0 rfl rfl ?_
  refine z_getR cX4 (pc := 1) dX4_isDigit_1 (j := 1) (by decide) rfl w_294 (fun r1 => ?_)
  refine z_getR cX8 (pc := 4) dX4_isDigit_4 (j := 0) (by decide) rfl w_41 (fun r2 => ?_)
  refine z_aload_n (x := a) (pc := 7) dX4_isDigit_7 rfl rfl ?_
  refine z_getI cX4 (pc := 8) dX4_isDigit_8 (j := 6) (by decide) rfl w_299 (fun t3 => ?_)
  refine z_aldB (pc := 11) dX4_isDigit_11 (fun t4 => ?_)
  refine z_bipush (v := 48) (pc := 12) dX4_isDigit_12 (by decide) ?_
  refine z_ic_lt (tgt := 38) (pc := 14) dX4_isDigit_14 (by decide) (fun _ => ?_) (fun _ => ?_)
  · refine z_iconst (v := 0) (pc := 38) dX4_isDigit_38 (by decide) ?_
    exact z_ireturn (pc := 39) dX4_isDigit_39 rfl (by decide) rfl
  refine z_aload_n (x := a) (pc := 17) dX4_isDigit_17 rfl rfl ?_
  refine z_getR cX4 (pc := 18) dX4_isDigit_18 (j := 1) (by decide) rfl w_294 (fun r5 => ?_)
  refine z_getR cX8 (pc := 21) dX4_isDigit_21 (j := 0) (by decide) rfl w_41 (fun r6 => ?_)
  refine z_aload_n (x := a) (pc := 24) dX4_isDigit_24 rfl rfl ?_
  refine z_getI cX4 (pc := 25) dX4_isDigit_25 (j := 6) (by decide) rfl w_299 (fun t7 => ?_)
  refine z_aldB (pc := 28) dX4_isDigit_28 (fun t8 => ?_)
  refine z_bipush (v := 57) (pc := 29) dX4_isDigit_29 (by decide) ?_
  refine z_ic_gt (tgt := 38) (pc := 31) dX4_isDigit_31 (by decide) (fun _ => ?_) (fun _ => ?_)
  · refine z_iconst (v := 0) (pc := 38) dX4_isDigit_38 (by decide) ?_
    exact z_ireturn (pc := 39) dX4_isDigit_39 rfl (by decide) rfl
  refine z_iconst (v := 1) (pc := 34) dX4_isDigit_34 (by decide) ?_
  refine z_goto (tgt := 39) (pc := 35) dX4_isDigit_35 (by decide) ?_
  exact z_ireturn (pc := 39) dX4_isDigit_39 rfl (by decide) rfl
set_option maxHeartbeats 2000000 in
set_option maxRecDepth 20000 in
theorem m_X4_digits {G : Z_G} (hG : z_GG G) (h : Z_H) (a : Nat) : z_Met G iX4_digits [.ref a] h ((f_X4_digits h a).bind some) := by
  refine z_in (la := [some (.ref a), none]) (by decide) rfl rfl rfl ?_
  unfold f_X4_digits
  refine z_gg (fun _ => ?_)
  refine z_aload_n (x := a) (pc := 0) dX4_digits_0 rfl rfl ?_
  refine z_getI cX4 (pc := 1) dX4_digits_1 (j := 6) (by decide) rfl w_299 (fun t1 => ?_)
  refine z_istore_n (i := 1) (la' := [some (.ref a), some (.int t1)]) (pc := 4) dX4_digits_4 rfl (by decide) rfl rfl ?_
  refine z_lp (T := Z_H) (s0 := h) 5 (fun (h2 : Z_H) => [some (.ref a), some (.int t1)]) (fun (h2 : Z_H) => h2) (fun _ => 90) (fun (h3 : Z_H) => [some (.ref a), some (.int t1)]) (fun (h3 : Z_H) => h3) ?_ ?_
  · rintro h3
    try dsimp only
    refine z_aload_n (x := a) (pc := 90) dX4_digits_90 rfl rfl ?_
    refine z_getI cX4 (pc := 91) dX4_digits_91 (j := 6) (by decide) rfl w_299 (fun t24 => ?_)
    refine z_iload_n (x := t1) (pc := 94) dX4_digits_94 rfl rfl ?_
    refine z_isub (pc := 95) dX4_digits_95 ?_
    refine z_iconst (v := 4) (pc := 96) dX4_digits_96 (by decide) ?_
    refine z_ic_gt (tgt := 104) (pc := 97) dX4_digits_97 (by decide) (fun _ => ?_) (fun _ => ?_)
    · refine z_iconst (v := 1) (pc := 104) dX4_digits_104 (by decide) ?_
      exact z_ireturn (pc := 105) dX4_digits_105 rfl rfl rfl
    refine z_iconst (v := 3) (pc := 100) dX4_digits_100 (by decide) ?_
    refine z_goto (tgt := 105) (pc := 101) dX4_digits_101 (by decide) ?_
    exact z_ireturn (pc := 105) dX4_digits_105 rfl rfl rfl
  intro k' hx1 rec4 hrec4
  rintro h2
  unfold f_X4_digits_l1
  try dsimp only [lt]
  refine z_aload_n (x := a) (pc := 5) dX4_digits_5 rfl rfl ?_
  refine z_getI cX4 (pc := 6) dX4_digits_6 (j := 6) (by decide) rfl w_299 (fun t5 => ?_)
  refine z_aload_n (x := a) (pc := 9) dX4_digits_9 rfl rfl ?_
  refine z_getR cX4 (pc := 10) dX4_digits_10 (j := 1) (by decide) rfl w_294 (fun r6 => ?_)
  refine z_getI cX8 (pc := 13) dX4_digits_13 (j := 1) (by decide) rfl w_44 (fun t7 => ?_)
  refine z_ic_ge (tgt := 90) (pc := 16) dX4_digits_16 (by decide) (fun _ => ?_) (fun _ => ?_)
  · exact hx1 h2
  refine z_aload_n (x := a) (pc := 19) dX4_digits_19 rfl rfl ?_
  refine z_cVP (As := []) (rest := []) hG.1 (m_X4_isDigit hG h2 a) (fun _ e => z_gdb e) oX4_isDigit (pc := 20) dX4_digits_20 rfl w_450 rfl rfl rfl (fun t8 => ?_)
  refine z_if_eq (tgt := 90) (pc := 23) dX4_digits_23 (by decide) (fun _ => ?_) (fun _ => ?_)
  · exact hx1 h2
  refine z_aload_n (x := a) (pc := 26) dX4_digits_26 rfl rfl ?_
  refine z_getR cX4 (pc := 27) dX4_digits_27 (j := 4) (by decide) rfl w_297 (fun r9 => ?_)
  refine z_aload_n (x := a) (pc := 30) dX4_digits_30 rfl rfl ?_
  refine z_getI cX4 (pc := 31) dX4_digits_31 (j := 5) (by decide) rfl w_298 (fun t10 => ?_)
  refine z_aload_n (x := a) (pc := 34) dX4_digits_34 rfl rfl ?_
  refine z_getI cX4 (pc := 35) dX4_digits_35 (j := 6) (by decide) rfl w_299 (fun t11 => ?_)
  refine z_iload_n (x := t1) (pc := 38) dX4_digits_38 rfl rfl ?_
  refine z_isub (pc := 39) dX4_digits_39 ?_
  refine z_iconst (v := 4) (pc := 40) dX4_digits_40 (by decide) ?_
  refine z_jn 76 (fun (y12 : Int32) => [some (.ref a), some (.int t1)]) (fun (y12 : Int32) => [.int y12, .int t10, .ref r9]) (fun (y12 : Int32) => h2) ?_ ?_
  · rintro y12
    try dsimp only
    refine z_astI (pc := 76) dX4_digits_76 (fun h14 => ?_)
    refine z_aload_n (x := a) (pc := 77) dX4_digits_77 rfl rfl ?_
    refine z_dup (pc := 78) dX4_digits_78 rfl ?_
    refine z_getI cX4 (pc := 79) dX4_digits_79 (j := 6) (by decide) rfl w_299 (fun t15 => ?_)
    refine z_iconst (v := 1) (pc := 82) dX4_digits_82 (by decide) ?_
    refine z_iadd (pc := 83) dX4_digits_83 ?_
    refine z_putI cX4 (pc := 84) dX4_digits_84 (j := 6) (by decide) rfl rfl w_299 (fun h16 => ?_)
    refine z_goto (tgt := 5) (pc := 87) dX4_digits_87 (by decide) ?_
    exact hrec4 h16
  intro j13 hj13
  refine z_ic_ge (tgt := 75) (pc := 41) dX4_digits_41 (by decide) (fun _ => ?_) (fun _ => ?_)
  · refine z_iconst (v := 0) (pc := 75) dX4_digits_75 (by decide) ?_
    exact hj13 0
  refine z_aload_n (x := a) (pc := 44) dX4_digits_44 rfl rfl ?_
  refine z_getR cX4 (pc := 45) dX4_digits_45 (j := 4) (by decide) rfl w_297 (fun r17 => ?_)
  refine z_aload_n (x := a) (pc := 48) dX4_digits_48 rfl rfl ?_
  refine z_getI cX4 (pc := 49) dX4_digits_49 (j := 5) (by decide) rfl w_298 (fun t18 => ?_)
  refine z_aldI (pc := 52) dX4_digits_52 (fun t19 => ?_)
  refine z_bipush (v := 10) (pc := 53) dX4_digits_53 (by decide) ?_
  refine z_imul (pc := 55) dX4_digits_55 ?_
  refine z_aload_n (x := a) (pc := 56) dX4_digits_56 rfl rfl ?_
  refine z_getR cX4 (pc := 57) dX4_digits_57 (j := 1) (by decide) rfl w_294 (fun r20 => ?_)
  refine z_getR cX8 (pc := 60) dX4_digits_60 (j := 0) (by decide) rfl w_41 (fun r21 => ?_)
  refine z_aload_n (x := a) (pc := 63) dX4_digits_63 rfl rfl ?_
  refine z_getI cX4 (pc := 64) dX4_digits_64 (j := 6) (by decide) rfl w_299 (fun t22 => ?_)
  refine z_aldB (pc := 67) dX4_digits_67 (fun t23 => ?_)
  refine z_iadd (pc := 68) dX4_digits_68 ?_
  refine z_bipush (v := 48) (pc := 69) dX4_digits_69 (by decide) ?_
  refine z_isub (pc := 71) dX4_digits_71 ?_
  refine z_goto (tgt := 76) (pc := 72) dX4_digits_72 (by decide) ?_
  exact hj13 (((t19 * 10) + t23) - 48)
set_option maxHeartbeats 2000000 in
set_option maxRecDepth 20000 in
theorem m_X4_isLetter {G : Z_G} (hG : z_GG G) (h : Z_H) (a : Nat) : z_Met G iX4_isLetter [.ref a] h ((f_X4_isLetter h a).bind fun r => some (r, h)) := by
  refine z_in (la := [some (.ref a)]) (by decide) rfl rfl rfl ?_
  unfold f_X4_isLetter
  refine z_gg (fun _ => ?_)
  refine z_aload_n (x := a) (pc := 0) dX4_isLetter_0 rfl rfl ?_
  refine z_getR cX4 (pc := 1) dX4_isLetter_1 (j := 1) (by decide) rfl w_294 (fun r1 => ?_)
  refine z_getR cX8 (pc := 4) dX4_isLetter_4 (j := 0) (by decide) rfl w_41 (fun r2 => ?_)
  refine z_aload_n (x := a) (pc := 7) dX4_isLetter_7 rfl rfl ?_
  refine z_getI cX4 (pc := 8) dX4_isLetter_8 (j := 6) (by decide) rfl w_299 (fun t3 => ?_)
  refine z_aldB (pc := 11) dX4_isLetter_11 (fun t4 => ?_)
  refine z_bipush (v := 97) (pc := 12) dX4_isLetter_12 (by decide) ?_
  refine z_ic_lt (tgt := 38) (pc := 14) dX4_isLetter_14 (by decide) (fun _ => ?_) (fun _ => ?_)
  · refine z_iconst (v := 0) (pc := 38) dX4_isLetter_38 (by decide) ?_
    exact z_ireturn (pc := 39) dX4_isLetter_39 rfl (by decide) rfl
  refine z_aload_n (x := a) (pc := 17) dX4_isLetter_17 rfl rfl ?_
  refine z_getR cX4 (pc := 18) dX4_isLetter_18 (j := 1) (by decide) rfl w_294 (fun r5 => ?_)
  refine z_getR cX8 (pc := 21) dX4_isLetter_21 (j := 0) (by decide) rfl w_41 (fun r6 => ?_)
  refine z_aload_n (x := a) (pc := 24) dX4_isLetter_24 rfl rfl ?_
  refine z_getI cX4 (pc := 25) dX4_isLetter_25 (j := 6) (by decide) rfl w_299 (fun t7 => ?_)
  refine z_aldB (pc := 28) dX4_isLetter_28 (fun t8 => ?_)
  refine z_bipush (v := 122) (pc := 29) dX4_isLetter_29 (by decide) ?_
  refine z_ic_gt (tgt := 38) (pc := 31) dX4_isLetter_31 (by decide) (fun _ => ?_) (fun _ => ?_)
  · refine z_iconst (v := 0) (pc := 38) dX4_isLetter_38 (by decide) ?_
    exact z_ireturn (pc := 39) dX4_isLetter_39 rfl (by decide) rfl
  refine z_iconst (v := 1) (pc := 34) dX4_isLetter_34 (by decide) ?_
  refine z_goto (tgt := 39) (pc := 35) dX4_isLetter_35 (by decide) ?_
  exact z_ireturn (pc := 39) dX4_isLetter_39 rfl (by decide) rfl
set_option maxHeartbeats 2000000 in
set_option maxRecDepth 20000 in
theorem m_X4_letters {G : Z_G} (hG : z_GG G) (h : Z_H) (a : Nat) : z_Met G iX4_letters [.ref a] h ((f_X4_letters h a).bind some) := by
  refine z_in (la := [some (.ref a), none]) (by decide) rfl rfl rfl ?_
  unfold f_X4_letters
  refine z_gg (fun _ => ?_)
  refine z_aload_n (x := a) (pc := 0) dX4_letters_0 rfl rfl ?_
  refine z_getI cX4 (pc := 1) dX4_letters_1 (j := 6) (by decide) rfl w_299 (fun t1 => ?_)
  refine z_istore_n (i := 1) (la' := [some (.ref a), some (.int t1)]) (pc := 4) dX4_letters_4 rfl (by decide) rfl rfl ?_
  refine z_lp (T := Z_H) (s0 := h) 5 (fun (h2 : Z_H) => [some (.ref a), some (.int t1)]) (fun (h2 : Z_H) => h2) (fun _ => 39) (fun (h3 : Z_H) => [some (.ref a), some (.int t1)]) (fun (h3 : Z_H) => h3) ?_ ?_
  · rintro h3
    try dsimp only
    refine z_aload_n (x := a) (pc := 39) dX4_letters_39 rfl rfl ?_
    refine z_iload_n (x := t1) (pc := 40) dX4_letters_40 rfl rfl ?_
    refine z_cVP (As := [.int t1]) (rest := []) hG.1 (m_X4_wordFrom hG h3 a t1) (fun _ e => z_gdb e) oX4_wordFrom (pc := 41) dX4_letters_41 rfl w_466 rfl rfl rfl (fun t11 => ?_)
    exact z_ireturn (pc := 44) dX4_letters_44 rfl rfl rfl
  intro k' hx1 rec4 hrec4
  rintro h2
  unfold f_X4_letters_l1
  try dsimp only [lt]
  refine z_aload_n (x := a) (pc := 5) dX4_letters_5 rfl rfl ?_
  refine z_getI cX4 (pc := 6) dX4_letters_6 (j := 6) (by decide) rfl w_299 (fun t5 => ?_)
  refine z_aload_n (x := a) (pc := 9) dX4_letters_9 rfl rfl ?_
  refine z_getR cX4 (pc := 10) dX4_letters_10 (j := 1) (by decide) rfl w_294 (fun r6 => ?_)
  refine z_getI cX8 (pc := 13) dX4_letters_13 (j := 1) (by decide) rfl w_44 (fun t7 => ?_)
  refine z_ic_ge (tgt := 39) (pc := 16) dX4_letters_16 (by decide) (fun _ => ?_) (fun _ => ?_)
  · exact hx1 h2
  refine z_aload_n (x := a) (pc := 19) dX4_letters_19 rfl rfl ?_
  refine z_cVP (As := []) (rest := []) hG.1 (m_X4_isLetter hG h2 a) (fun _ e => z_gdb e) oX4_isLetter (pc := 20) dX4_letters_20 rfl w_458 rfl rfl rfl (fun t8 => ?_)
  refine z_if_eq (tgt := 39) (pc := 23) dX4_letters_23 (by decide) (fun _ => ?_) (fun _ => ?_)
  · exact hx1 h2
  refine z_aload_n (x := a) (pc := 26) dX4_letters_26 rfl rfl ?_
  refine z_dup (pc := 27) dX4_letters_27 rfl ?_
  refine z_getI cX4 (pc := 28) dX4_letters_28 (j := 6) (by decide) rfl w_299 (fun t9 => ?_)
  refine z_iconst (v := 1) (pc := 31) dX4_letters_31 (by decide) ?_
  refine z_iadd (pc := 32) dX4_letters_32 ?_
  refine z_putI cX4 (pc := 33) dX4_letters_33 (j := 6) (by decide) rfl rfl w_299 (fun h10 => ?_)
  refine z_goto (tgt := 5) (pc := 36) dX4_letters_36 (by decide) ?_
  exact hrec4 h10
set_option maxHeartbeats 2000000 in
set_option maxRecDepth 20000 in
theorem m_X4_sign {G : Z_G} (hG : z_GG G) (h : Z_H) (a : Nat) : z_Met G iX4_sign [.ref a] h ((f_X4_sign h a).bind some) := by
  refine z_in (la := [some (.ref a), none]) (by decide) rfl rfl rfl ?_
  unfold f_X4_sign
  refine z_gg (fun _ => ?_)
  refine z_aload_n (x := a) (pc := 0) dX4_sign_0 rfl rfl ?_
  refine z_getR cX4 (pc := 1) dX4_sign_1 (j := 1) (by decide) rfl w_294 (fun r1 => ?_)
  refine z_getR cX8 (pc := 4) dX4_sign_4 (j := 0) (by decide) rfl w_41 (fun r2 => ?_)
  refine z_aload_n (x := a) (pc := 7) dX4_sign_7 rfl rfl ?_
  refine z_getI cX4 (pc := 8) dX4_sign_8 (j := 6) (by decide) rfl w_299 (fun t3 => ?_)
  refine z_aldB (pc := 11) dX4_sign_11 (fun t4 => ?_)
  refine z_bipush (v := 59) (pc := 12) dX4_sign_12 (by decide) ?_
  refine z_jn 22 (fun (y5 : Int32) => [some (.ref a), none]) (fun (y5 : Int32) => [.int y5]) (fun (y5 : Int32) => h) ?_ ?_
  · rintro y5
    try dsimp only
    refine z_istore_n (i := 1) (la' := [some (.ref a), some (.int y5)]) (pc := 22) dX4_sign_22 rfl (by decide) rfl rfl ?_
    refine z_aload_n (x := a) (pc := 23) dX4_sign_23 rfl rfl ?_
    refine z_dup (pc := 24) dX4_sign_24 rfl ?_
    refine z_getI cX4 (pc := 25) dX4_sign_25 (j := 6) (by decide) rfl w_299 (fun t7 => ?_)
    refine z_iconst (v := 1) (pc := 28) dX4_sign_28 (by decide) ?_
    refine z_iadd (pc := 29) dX4_sign_29 ?_
    refine z_putI cX4 (pc := 30) dX4_sign_30 (j := 6) (by decide) rfl rfl w_299 (fun h8 => ?_)
    refine z_iload_n (x := y5) (pc := 33) dX4_sign_33 rfl rfl ?_
    exact z_ireturn (pc := 34) dX4_sign_34 rfl rfl rfl
  intro j6 hj6
  refine z_ic_ne (tgt := 21) (pc := 14) dX4_sign_14 (by decide) (fun _ => ?_) (fun _ => ?_)
  · refine z_iconst (v := 1) (pc := 21) dX4_sign_21 (by decide) ?_
    exact hj6 1
  refine z_iconst (v := 2) (pc := 17) dX4_sign_17 (by decide) ?_
  refine z_goto (tgt := 22) (pc := 18) dX4_sign_18 (by decide) ?_
  exact hj6 2
set_option maxHeartbeats 2000000 in
set_option maxRecDepth 20000 in
theorem m_X4_scan {G : Z_G} (hG : z_GG G) (h : Z_H) (a : Nat) (b1 : Nat) : z_Met G iX4_scan [.ref a, .ref b1] h ((f_X4_scan h a b1).bind fun h1 => some (0, h1)) := by
  refine z_in (la := [some (.ref a), some (.ref b1)]) (by decide) rfl rfl rfl ?_
  unfold f_X4_scan
  refine z_gg (fun _ => ?_)
  refine z_aload_n (x := a) (pc := 0) dX4_scan_0 rfl rfl ?_
  refine z_getR cX4 (pc := 1) dX4_scan_1 (j := 1) (by decide) rfl w_294 (fun r1 => ?_)
  refine z_aload_n (x := b1) (pc := 4) dX4_scan_4 rfl rfl ?_
  refine z_cVV (As := [.ref b1]) (rest := []) hG.1 (m_X8_copyFrom hG h r1 b1) (fun _ e => z_gdb e) oX8_copyFrom (pc := 5) dX4_scan_5 rfl w_439 rfl rfl rfl (fun h2 => ?_)
  refine z_aload_n (x := a) (pc := 8) dX4_scan_8 rfl rfl ?_
  refine z_iconst (v := 0) (pc := 9) dX4_scan_9 (by decide) ?_
  refine z_putI cX4 (pc := 10) dX4_scan_10 (j := 5) (by decide) rfl rfl w_298 (fun h3 => ?_)
  refine z_aload_n (x := a) (pc := 13) dX4_scan_13 rfl rfl ?_
  refine z_iconst (v := 0) (pc := 14) dX4_scan_14 (by decide) ?_
  refine z_putI cX4 (pc := 15) dX4_scan_15 (j := 6) (by decide) rfl rfl w_299 (fun h4 => ?_)
  refine z_aload_n (x := a) (pc := 18) dX4_scan_18 rfl rfl ?_
  refine z_cVV (As := []) (rest := []) hG.1 (m_X4_skipBlanks hG h4 a) (fun _ e => z_gdb e) oX4_skipBlanks (pc := 19) dX4_scan_19 rfl w_446 rfl rfl rfl (fun h5 => ?_)
  refine z_weak (la' := [some (.ref a), none]) (And.intro rfl trivial) ?_
  refine z_lp (T := Z_H) (s0 := h5) 22 (fun (h6 : Z_H) => [some (.ref a), none]) (fun (h6 : Z_H) => h6) (fun _ => 127) (fun (h7 : Z_H) => [some (.ref a), none]) (fun (h7 : Z_H) => h7) ?_ ?_
  · rintro h7
    try dsimp only
    refine z_aload_n (x := a) (pc := 127) dX4_scan_127 rfl rfl ?_
    refine z_getR cX4 (pc := 128) dX4_scan_128 (j := 3) (by decide) rfl w_296 (fun r37 => ?_)
    refine z_aload_n (x := a) (pc := 131) dX4_scan_131 rfl rfl ?_
    refine z_getI cX4 (pc := 132) dX4_scan_132 (j := 5) (by decide) rfl w_298 (fun t38 => ?_)
    refine z_aload_n (x := a) (pc := 135) dX4_scan_135 rfl rfl ?_
    refine z_getI cX4 (pc := 136) dX4_scan_136 (j := 6) (by decide) rfl w_299 (fun t39 => ?_)
    refine z_astI (pc := 139) dX4_scan_139 (fun h40 => ?_)
    refine z_aload_n (x := a) (pc := 140) dX4_scan_140 rfl rfl ?_
    refine z_getR cX4 (pc := 141) dX4_scan_141 (j := 2) (by decide) rfl w_295 (fun r41 => ?_)
    refine z_aload_n (x := a) (pc := 144) dX4_scan_144 rfl rfl ?_
    refine z_getI cX4 (pc := 145) dX4_scan_145 (j := 5) (by decide) rfl w_298 (fun t42 => ?_)
    refine z_iconst (v := 0) (pc := 148) dX4_scan_148 (by decide) ?_
    refine z_astI (pc := 149) dX4_scan_149 (fun h43 => ?_)
    exact z_return (pc := 150) dX4_scan_150 rfl rfl
  intro k' hx1 rec8 hrec8
  rintro h6
  unfold f_X4_scan_l1
  try dsimp only [lt]
  refine z_aload_n (x := a) (pc := 22) dX4_scan_22 rfl rfl ?_
  refine z_getI cX4 (pc := 23) dX4_scan_23 (j := 6) (by decide) rfl w_299 (fun t9 => ?_)
  refine z_aload_n (x := a) (pc := 26) dX4_scan_26 rfl rfl ?_
  refine z_getR cX4 (pc := 27) dX4_scan_27 (j := 1) (by decide) rfl w_294 (fun r10 => ?_)
  refine z_getI cX8 (pc := 30) dX4_scan_30 (j := 1) (by decide) rfl w_44 (fun t11 => ?_)
  refine z_ic_ge (tgt := 127) (pc := 33) dX4_scan_33 (by decide) (fun _ => ?_) (fun _ => ?_)
  · exact hx1 h6
  refine z_aload_n (x := a) (pc := 36) dX4_scan_36 rfl rfl ?_
  refine z_getI cX4 (pc := 37) dX4_scan_37 (j := 5) (by decide) rfl w_298 (fun t12 => ?_)
  refine z_sipush (v := 600) (pc := 40) dX4_scan_40 (by decide) ?_
  refine z_ic_ge (tgt := 127) (pc := 43) dX4_scan_43 (by decide) (fun _ => ?_) (fun _ => ?_)
  · exact hx1 h6
  refine z_aload_n (x := a) (pc := 46) dX4_scan_46 rfl rfl ?_
  refine z_getR cX4 (pc := 47) dX4_scan_47 (j := 3) (by decide) rfl w_296 (fun r13 => ?_)
  refine z_aload_n (x := a) (pc := 50) dX4_scan_50 rfl rfl ?_
  refine z_getI cX4 (pc := 51) dX4_scan_51 (j := 5) (by decide) rfl w_298 (fun t14 => ?_)
  refine z_aload_n (x := a) (pc := 54) dX4_scan_54 rfl rfl ?_
  refine z_getI cX4 (pc := 55) dX4_scan_55 (j := 6) (by decide) rfl w_299 (fun t15 => ?_)
  refine z_astI (pc := 58) dX4_scan_58 (fun h16 => ?_)
  refine z_aload_n (x := a) (pc := 59) dX4_scan_59 rfl rfl ?_
  refine z_getR cX4 (pc := 60) dX4_scan_60 (j := 4) (by decide) rfl w_297 (fun r17 => ?_)
  refine z_aload_n (x := a) (pc := 63) dX4_scan_63 rfl rfl ?_
  refine z_getI cX4 (pc := 64) dX4_scan_64 (j := 5) (by decide) rfl w_298 (fun t18 => ?_)
  refine z_iconst (v := 0) (pc := 67) dX4_scan_67 (by decide) ?_
  refine z_astI (pc := 68) dX4_scan_68 (fun h19 => ?_)
  refine z_aload_n (x := a) (pc := 69) dX4_scan_69 rfl rfl ?_
  refine z_getR cX4 (pc := 70) dX4_scan_70 (j := 2) (by decide) rfl w_295 (fun r20 => ?_)
  refine z_aload_n (x := a) (pc := 73) dX4_scan_73 rfl rfl ?_
  refine z_getI cX4 (pc := 74) dX4_scan_74 (j := 5) (by decide) rfl w_298 (fun t21 => ?_)
  refine z_aload_n (x := a) (pc := 77) dX4_scan_77 rfl rfl ?_
  refine z_cVP (As := []) (rest := [.int t21, .ref r20]) hG.1 (m_X4_isDigit hG h19 a) (fun _ e => z_gdb e) oX4_isDigit (pc := 78) dX4_scan_78 rfl w_450 rfl rfl rfl (fun t22 => ?_)
  refine z_jn 109 (fun ((y23, h24) : Int32 × Z_H) => [some (.ref a), none]) (fun ((y23, h24) : Int32 × Z_H) => [.int y23, .int t21, .ref r20]) (fun ((y23, h24) : Int32 × Z_H) => h24) ?_ ?_
  · rintro ⟨y23, h24⟩
    try dsimp only
    refine z_astI (pc := 109) dX4_scan_109 (fun h26 => ?_)
    refine z_aload_n (x := a) (pc := 110) dX4_scan_110 rfl rfl ?_
    refine z_dup (pc := 111) dX4_scan_111 rfl ?_
    refine z_getI cX4 (pc := 112) dX4_scan_112 (j := 5) (by decide) rfl w_298 (fun t27 => ?_)
    refine z_iconst (v := 1) (pc := 115) dX4_scan_115 (by decide) ?_
    refine z_iadd (pc := 116) dX4_scan_116 ?_
    refine z_putI cX4 (pc := 117) dX4_scan_117 (j := 5) (by decide) rfl rfl w_298 (fun h28 => ?_)
    refine z_aload_n (x := a) (pc := 120) dX4_scan_120 rfl rfl ?_
    refine z_cVV (As := []) (rest := []) hG.1 (m_X4_skipBlanks hG h28 a) (fun _ e => z_gdb e) oX4_skipBlanks (pc := 121) dX4_scan_121 rfl w_446 rfl rfl rfl (fun h29 => ?_)
    refine z_goto (tgt := 22) (pc := 124) dX4_scan_124 (by decide) ?_
    exact hrec8 h29
  intro j25 hj25
  refine z_if_eq (tgt := 91) (pc := 81) dX4_scan_81 (by decide) (fun _ => ?_) (fun _ => ?_)
  · refine z_aload_n (x := a) (pc := 91) dX4_scan_91 rfl rfl ?_
    refine z_cVP (As := []) (rest := [.int t21, .ref r20]) hG.1 (m_X4_isLetter hG h19 a) (fun _ e => z_gdb e) oX4_isLetter (pc := 92) dX4_scan_92 rfl w_458 rfl rfl rfl (fun t30 => ?_)
    refine z_if_eq (tgt := 105) (pc := 95) dX4_scan_95 (by decide) (fun _ => ?_) (fun _ => ?_)
    · refine z_aload_n (x := a) (pc := 105) dX4_scan_105 rfl rfl ?_
      refine z_dVI (As := []) (rest := [.int t21, .ref r20]) hG.1 (m_X4_sign hG h19 a) (fun _ e => z_gdb e) oX4_sign (pc := 106) dX4_scan_106 rfl w_536 rfl rfl rfl (fun t31 h32 => ?_)
      exact hj25 (t31, h32)
    refine z_aload_n (x := a) (pc := 98) dX4_scan_98 rfl rfl ?_
    refine z_dVI (As := []) (rest := [.int t21, .ref r20]) hG.1 (m_X4_letters hG h19 a) (fun _ e => z_gdb e) oX4_letters (pc := 99) dX4_scan_99 rfl w_462 rfl rfl rfl (fun t33 h34 => ?_)
    refine z_goto (tgt := 109) (pc := 102) dX4_scan_102 (by decide) ?_
    exact hj25 (t33, h34)
  refine z_aload_n (x := a) (pc := 84) dX4_scan_84 rfl rfl ?_
  refine z_dVI (As := []) (rest := [.int t21, .ref r20]) hG.1 (m_X4_digits hG h19 a) (fun _ e => z_gdb e) oX4_digits (pc := 85) dX4_scan_85 rfl w_454 rfl rfl rfl (fun t35 h36 => ?_)
  refine z_goto (tgt := 109) (pc := 88) dX4_scan_88 (by decide) ?_
  exact hj25 (t35, h36)
set_option maxHeartbeats 2000000 in
set_option maxRecDepth 20000 in
theorem m_X4_breakOff {G : Z_G} (hG : z_GG G) (h : Z_H) (a : Nat) : z_Met G iX4_breakOff [.ref a] h ((f_X4_breakOff h a).bind fun h1 => some (0, h1)) := by
  refine z_in (la := [some (.ref a)]) (by decide) rfl rfl rfl ?_
  unfold f_X4_breakOff
  refine z_gg (fun _ => ?_)
  refine z_aload_n (x := a) (pc := 0) dX4_breakOff_0 rfl rfl ?_
  refine z_getI cX4 (pc := 1) dX4_breakOff_1 (j := 8) (by decide) rfl w_301 (fun t1 => ?_)
  refine z_iconst (v := (-1)) (pc := 4) dX4_breakOff_4 (by decide) ?_
  refine z_ic_ne (tgt := 21) (pc := 5) dX4_breakOff_5 (by decide) (fun _ => ?_) (fun _ => ?_)
  · exact z_return (pc := 21) dX4_breakOff_21 rfl rfl
  refine z_aload_n (x := a) (pc := 8) dX4_breakOff_8 rfl rfl ?_
  refine z_aload_n (x := a) (pc := 9) dX4_breakOff_9 rfl rfl ?_
  refine z_getR cX4 (pc := 10) dX4_breakOff_10 (j := 3) (by decide) rfl w_296 (fun r2 => ?_)
  refine z_aload_n (x := a) (pc := 13) dX4_breakOff_13 rfl rfl ?_
  refine z_getI cX4 (pc := 14) dX4_breakOff_14 (j := 7) (by decide) rfl w_300 (fun t3 => ?_)
  refine z_aldI (pc := 17) dX4_breakOff_17 (fun t4 => ?_)
  refine z_putI cX4 (pc := 18) dX4_breakOff_18 (j := 8) (by decide) rfl rfl w_301 (fun h5 => ?_)
  exact z_return (pc := 21) dX4_breakOff_21 rfl rfl
set_option maxHeartbeats 2000000 in
set_option maxRecDepth 20000 in
theorem m_X4_goOn {G : Z_G} (hG : z_GG G) (h : Z_H) (a : Nat) : z_Met G iX4_goOn [.ref a] h ((f_X4_goOn h a).bind fun h1 => some (0, h1)) := by
  refine z_in (la := [some (.ref a)]) (by decide) rfl rfl rfl ?_
  unfold f_X4_goOn
  refine z_gg (fun _ => ?_)
  refine z_aload_n (x := a) (pc := 0) dX4_goOn_0 rfl rfl ?_
  refine z_getI cX4 (pc := 1) dX4_goOn_1 (j := 7) (by decide) rfl w_300 (fun t1 => ?_)
  refine z_aload_n (x := a) (pc := 4) dX4_goOn_4 rfl rfl ?_
  refine z_getI cX4 (pc := 5) dX4_goOn_5 (j := 5) (by decide) rfl w_298 (fun t2 => ?_)
  refine z_ic_ge (tgt := 21) (pc := 8) dX4_goOn_8 (by decide) (fun _ => ?_) (fun _ => ?_)
  · exact z_return (pc := 21) dX4_goOn_21 rfl rfl
  refine z_aload_n (x := a) (pc := 11) dX4_goOn_11 rfl rfl ?_
  refine z_dup (pc := 12) dX4_goOn_12 rfl ?_
  refine z_getI cX4 (pc := 13) dX4_goOn_13 (j := 7) (by decide) rfl w_300 (fun t3 => ?_)
  refine z_iconst (v := 1) (pc := 16) dX4_goOn_16 (by decide) ?_
  refine z_iadd (pc := 17) dX4_goOn_17 ?_
  refine z_putI cX4 (pc := 18) dX4_goOn_18 (j := 7) (by decide) rfl rfl w_300 (fun h4 => ?_)
  exact z_return (pc := 21) dX4_goOn_21 rfl rfl
set_option maxHeartbeats 2000000 in
set_option maxRecDepth 20000 in
theorem m_X4_slipHere {G : Z_G} (hG : z_GG G) (h : Z_H) (a : Nat) (x1 : Int32) : z_Met G iX4_slipHere [.ref a, .int x1] h ((f_X4_slipHere h a x1).bind fun h1 => some (0, h1)) := by
  refine z_in (la := [some (.ref a), some (.int x1)]) (by decide) rfl rfl rfl ?_
  unfold f_X4_slipHere
  refine z_gg (fun _ => ?_)
  refine z_aload_n (x := a) (pc := 0) dX4_slipHere_0 rfl rfl ?_
  refine z_getI cX4 (pc := 1) dX4_slipHere_1 (j := 9) (by decide) rfl w_302 (fun t1 => ?_)
  refine z_if_ne (tgt := 25) (pc := 4) dX4_slipHere_4 (by decide) (fun _ => ?_) (fun _ => ?_)
  · exact z_return (pc := 25) dX4_slipHere_25 rfl rfl
  refine z_aload_n (x := a) (pc := 7) dX4_slipHere_7 rfl rfl ?_
  refine z_iload_n (x := x1) (pc := 8) dX4_slipHere_8 rfl rfl ?_
  refine z_putI cX4 (pc := 9) dX4_slipHere_9 (j := 9) (by decide) rfl rfl w_302 (fun h2 => ?_)
  refine z_aload_n (x := a) (pc := 12) dX4_slipHere_12 rfl rfl ?_
  refine z_aload_n (x := a) (pc := 13) dX4_slipHere_13 rfl rfl ?_
  refine z_getR cX4 (pc := 14) dX4_slipHere_14 (j := 3) (by decide) rfl w_296 (fun r3 => ?_)
  refine z_aload_n (x := a) (pc := 17) dX4_slipHere_17 rfl rfl ?_
  refine z_getI cX4 (pc := 18) dX4_slipHere_18 (j := 7) (by decide) rfl w_300 (fun t4 => ?_)
  refine z_aldI (pc := 21) dX4_slipHere_21 (fun t5 => ?_)
  refine z_putI cX4 (pc := 22) dX4_slipHere_22 (j := 10) (by decide) rfl rfl w_303 (fun h6 => ?_)
  exact z_return (pc := 25) dX4_slipHere_25 rfl rfl
