set_option maxHeartbeats 2000000 in
set_option maxRecDepth 20000 in
theorem m_X10_readText {G : Z_G} (hG : z_GG G) (h : Z_H) (a : Nat) : z_Met G iX10_readText [.ref a] h ((f_X10_readText h a).bind some) := by
  refine z_in (la := [some (.ref a), none]) (by decide) rfl rfl rfl ?_
  unfold f_X10_readText
  refine z_gg (fun _ => ?_)
  refine z_aload_n (x := a) (pc := 0) dX10_readText_0 rfl rfl ?_
  refine z_cVV (As := []) (rest := []) hG.1 (m_X10_atFirst hG h a) (fun _ e => z_gdb e) oX10_atFirst (pc := 1) dX10_readText_1 rfl w_1075 rfl rfl rfl (fun h1 => ?_)
  refine z_aload_n (x := a) (pc := 4) dX10_readText_4 rfl rfl ?_
  refine z_aload_n (x := a) (pc := 5) dX10_readText_5 rfl rfl ?_
  refine z_getR cX10 (pc := 6) dX10_readText_6 (j := 1) (by decide) rfl w_1088 (fun r2 => ?_)
  refine z_iconst (v := 0) (pc := 9) dX10_readText_9 (by decide) ?_
  refine z_aldI (pc := 10) dX10_readText_10 (fun t3 => ?_)
  refine z_putI cX10 (pc := 11) dX10_readText_11 (j := 4) (by decide) rfl rfl w_1091 (fun h4 => ?_)
  refine z_aload_n (x := a) (pc := 14) dX10_readText_14 rfl rfl ?_
  refine z_getR cX10 (pc := 15) dX10_readText_15 (j := 1) (by decide) rfl w_1088 (fun r5 => ?_)
  refine z_iconst (v := 0) (pc := 18) dX10_readText_18 (by decide) ?_
  refine z_iconst (v := 0) (pc := 19) dX10_readText_19 (by decide) ?_
  refine z_astI (pc := 20) dX10_readText_20 (fun h6 => ?_)
  refine z_aload_n (x := a) (pc := 21) dX10_readText_21 rfl rfl ?_
  refine z_iconst (v := 0) (pc := 22) dX10_readText_22 (by decide) ?_
  refine z_putI cX10 (pc := 23) dX10_readText_23 (j := 3) (by decide) rfl rfl w_1090 (fun h7 => ?_)
  refine z_aload_n (x := a) (pc := 26) dX10_readText_26 rfl rfl ?_
  refine z_iconst (v := 0) (pc := 27) dX10_readText_27 (by decide) ?_
  refine z_putI cX10 (pc := 28) dX10_readText_28 (j := 10) (by decide) rfl rfl w_1097 (fun h8 => ?_)
  refine z_aload_n (x := a) (pc := 31) dX10_readText_31 rfl rfl ?_
  refine z_cVV (As := []) (rest := []) hG.1 (m_X10_token hG h8 a) (fun _ e => z_gdb e) oX10_token (pc := 32) dX10_readText_32 rfl w_1190 rfl rfl rfl (fun h9 => ?_)
  refine z_iconst (v := 1) (pc := 35) dX10_readText_35 (by decide) ?_
  refine z_istore_n (i := 1) (la' := [some (.ref a), some (.int 1)]) (pc := 36) dX10_readText_36 rfl (by decide) rfl rfl ?_
  refine z_lp (T := Int32 × Z_H) (s0 := (1, h9)) 37 (fun ((v10, h11) : Int32 × Z_H) => [some (.ref a), some (.int v10)]) (fun ((v10, h11) : Int32 × Z_H) => h11) (fun _ => 97) (fun ((v12, h13) : Int32 × Z_H) => [some (.ref a), some (.int v12)]) (fun ((v12, h13) : Int32 × Z_H) => h13) ?_ ?_
  · rintro ⟨v12, h13⟩
    try dsimp only
    refine z_aload_n (x := a) (pc := 97) dX10_readText_97 rfl rfl ?_
    refine z_getR cX10 (pc := 98) dX10_readText_98 (j := 1) (by decide) rfl w_1088 (fun r29 => ?_)
    refine z_iconst (v := 1) (pc := 101) dX10_readText_101 (by decide) ?_
    refine z_iload_n (x := v12) (pc := 102) dX10_readText_102 rfl rfl ?_
    refine z_jn 114 (fun (y30 : Int32) => [some (.ref a), some (.int v12)]) (fun (y30 : Int32) => [.int y30, .int 1, .ref r29]) (fun (y30 : Int32) => h13) ?_ ?_
    · rintro y30
      try dsimp only
      refine z_astI (pc := 114) dX10_readText_114 (fun h32 => ?_)
      refine z_aload_n (x := a) (pc := 115) dX10_readText_115 rfl rfl ?_
      refine z_getR cX10 (pc := 116) dX10_readText_116 (j := 1) (by decide) rfl w_1088 (fun r33 => ?_)
      refine z_iconst (v := 2) (pc := 119) dX10_readText_119 (by decide) ?_
      refine z_iload_n (x := v12) (pc := 120) dX10_readText_120 rfl rfl ?_
      refine z_jn 146 (fun (y34 : Int32) => [some (.ref a), none]) (fun (y34 : Int32) => [.int y34, .int 2, .ref r33]) (fun (y34 : Int32) => h32) ?_ ?_
      · rintro y34
        try dsimp only
        refine z_astI (pc := 146) dX10_readText_146 (fun h36 => ?_)
        refine z_aload_n (x := a) (pc := 147) dX10_readText_147 rfl rfl ?_
        refine z_getR cX10 (pc := 148) dX10_readText_148 (j := 1) (by decide) rfl w_1088 (fun r37 => ?_)
        refine z_iconst (v := 1) (pc := 151) dX10_readText_151 (by decide) ?_
        refine z_aldI (pc := 152) dX10_readText_152 (fun t38 => ?_)
        refine z_if_ne (tgt := 160) (pc := 153) dX10_readText_153 (by decide) (fun _ => ?_) (fun _ => ?_)
        · refine z_iconst (v := 0) (pc := 160) dX10_readText_160 (by decide) ?_
          exact z_ireturn (pc := 161) dX10_readText_161 rfl (by decide) rfl
        refine z_iconst (v := 1) (pc := 156) dX10_readText_156 (by decide) ?_
        refine z_goto (tgt := 161) (pc := 157) dX10_readText_157 (by decide) ?_
        exact z_ireturn (pc := 161) dX10_readText_161 rfl (by decide) rfl
      intro j35 hj35
      refine z_if_ne (tgt := 131) (pc := 121) dX10_readText_121 (by decide) (fun _ => ?_) (fun _ => ?_)
      · refine z_aload_n (x := a) (pc := 131) dX10_readText_131 rfl rfl ?_
        refine z_getI cX10 (pc := 132) dX10_readText_132 (j := 10) (by decide) rfl w_1097 (fun t39 => ?_)
        refine z_if_le (tgt := 145) (pc := 135) dX10_readText_135 (by decide) (fun _ => ?_) (fun _ => ?_)
        · refine z_iconst (v := (-1)) (pc := 145) dX10_readText_145 (by decide) ?_
          exact z_wk (hj35 (-1)) (And.intro rfl trivial)
        refine z_aload_n (x := a) (pc := 138) dX10_readText_138 rfl rfl ?_
        refine z_getI cX10 (pc := 139) dX10_readText_139 (j := 11) (by decide) rfl w_1098 (fun t40 => ?_)
        refine z_goto (tgt := 146) (pc := 142) dX10_readText_142 (by decide) ?_
        exact z_wk (hj35 t40) (And.intro rfl trivial)
      refine z_aload_n (x := a) (pc := 124) dX10_readText_124 rfl rfl ?_
      refine z_getI cX10 (pc := 125) dX10_readText_125 (j := 9) (by decide) rfl w_1096 (fun t41 => ?_)
      refine z_goto (tgt := 146) (pc := 128) dX10_readText_128 (by decide) ?_
      exact z_wk (hj35 t41) (And.intro rfl trivial)
    intro j31 hj31
    refine z_if_eq (tgt := 113) (pc := 103) dX10_readText_103 (by decide) (fun _ => ?_) (fun _ => ?_)
    · refine z_iconst (v := 1) (pc := 113) dX10_readText_113 (by decide) ?_
      exact hj31 1
    refine z_aload_n (x := a) (pc := 106) dX10_readText_106 rfl rfl ?_
    refine z_getI cX10 (pc := 107) dX10_readText_107 (j := 10) (by decide) rfl w_1097 (fun t42 => ?_)
    refine z_goto (tgt := 114) (pc := 110) dX10_readText_110 (by decide) ?_
    exact hj31 t42
  intro k' hx1 rec14 hrec14
  rintro ⟨v10, h11⟩
  unfold f_X10_readText_l1
  try dsimp only
  refine z_iload_n (x := v10) (pc := 37) dX10_readText_37 rfl rfl ?_
  refine z_if_eq (tgt := 97) (pc := 38) dX10_readText_38 (by decide) (fun _ => ?_) (fun _ => ?_)
  · exact hx1 (v10, h11)
  refine z_aload_n (x := a) (pc := 41) dX10_readText_41 rfl rfl ?_
  refine z_getI cX10 (pc := 42) dX10_readText_42 (j := 6) (by decide) rfl w_1093 (fun t15 => ?_)
  refine z_if_eq (tgt := 97) (pc := 45) dX10_readText_45 (by decide) (fun _ => ?_) (fun _ => ?_)
  · exact hx1 (v10, h11)
  refine z_aload_n (x := a) (pc := 48) dX10_readText_48 rfl rfl ?_
  refine z_aload_n (x := a) (pc := 49) dX10_readText_49 rfl rfl ?_
  refine z_getI cX10 (pc := 50) dX10_readText_50 (j := 6) (by decide) rfl w_1093 (fun t16 => ?_)
  refine z_iconst (v := 2) (pc := 53) dX10_readText_53 (by decide) ?_
  refine z_jn 65 (fun (y17 : Int64) => [some (.ref a), none]) (fun (y17 : Int64) => [.long y17, .ref a]) (fun (y17 : Int64) => h11) ?_ ?_
  · rintro y17
    try dsimp only
    refine z_dVI (As := [.long y17]) (rest := []) hG.1 (m_X10_line hG h11 a y17) (fun _ e => z_gdb e) oX10_line (pc := 65) dX10_readText_65 rfl w_1198 rfl rfl rfl (fun t19 h20 => ?_)
    refine z_istore_n (i := 1) (la' := [some (.ref a), some (.int t19)]) (pc := 68) dX10_readText_68 rfl (by decide) rfl rfl ?_
    refine z_iload_n (x := t19) (pc := 69) dX10_readText_69 rfl rfl ?_
    refine z_jn 86 (fun ((v21, h22) : Int32 × Z_H) => [some (.ref a), some (.int v21)]) (fun ((v21, h22) : Int32 × Z_H) => []) (fun ((v21, h22) : Int32 × Z_H) => h22) ?_ ?_
    · rintro ⟨v21, h22⟩
      try dsimp only
      refine z_iload_n (x := v21) (pc := 86) dX10_readText_86 rfl rfl ?_
      refine z_if_eq (tgt := 37) (pc := 87) dX10_readText_87 (by decide) (fun _ => ?_) (fun _ => ?_)
      · exact hrec14 (v21, h22)
      refine z_aload_n (x := a) (pc := 90) dX10_readText_90 rfl rfl ?_
      refine z_cVV (As := []) (rest := []) hG.1 (m_X10_token hG h22 a) (fun _ e => z_gdb e) oX10_token (pc := 91) dX10_readText_91 rfl w_1190 rfl rfl rfl (fun h24 => ?_)
      refine z_goto (tgt := 37) (pc := 94) dX10_readText_94 (by decide) ?_
      exact hrec14 (v21, h24)
    intro j23 hj23
    refine z_if_eq (tgt := 86) (pc := 70) dX10_readText_70 (by decide) (fun _ => ?_) (fun _ => ?_)
    · exact hj23 (t19, h20)
    refine z_aload_n (x := a) (pc := 73) dX10_readText_73 rfl rfl ?_
    refine z_getI cX10 (pc := 74) dX10_readText_74 (j := 6) (by decide) rfl w_1093 (fun t25 => ?_)
    refine z_iconst (v := 4) (pc := 77) dX10_readText_77 (by decide) ?_
    refine z_ic_eq (tgt := 86) (pc := 78) dX10_readText_78 (by decide) (fun _ => ?_) (fun _ => ?_)
    · exact hj23 (t19, h20)
    refine z_aload_n (x := a) (pc := 81) dX10_readText_81 rfl rfl ?_
    refine z_dVI (As := []) (rest := []) hG.1 (m_X10_fails hG h20 a) (fun _ e => z_gdb e) oX10_fails (pc := 82) dX10_readText_82 rfl w_1207 rfl rfl rfl (fun t26 h27 => ?_)
    refine z_istore_n (i := 1) (la' := [some (.ref a), some (.int t26)]) (pc := 85) dX10_readText_85 rfl (by decide) rfl rfl ?_
    exact hj23 (t26, h27)
  intro j18 hj18
  refine z_ic_ne (tgt := 64) (pc := 54) dX10_readText_54 (by decide) (fun _ => ?_) (fun _ => ?_)
  · refine z_lconst (v := 0) (pc := 64) dX10_readText_64 (by decide) ?_
    exact z_wk (hj18 0) (And.intro rfl trivial)
  refine z_aload_n (x := a) (pc := 57) dX10_readText_57 rfl rfl ?_
  refine z_getL cX10 (pc := 58) dX10_readText_58 (j := 8) (by decide) rfl w_1095 (fun t28 => ?_)
  refine z_goto (tgt := 65) (pc := 61) dX10_readText_61 (by decide) ?_
  exact z_wk (hj18 t28) (And.intro rfl trivial)
set_option maxHeartbeats 2000000 in
set_option maxRecDepth 20000 in
theorem m_X10_plan {G : Z_G} (hG : z_GG G) (h : Z_H) (a : Nat) : z_Met G iX10_plan [.ref a] h ((f_X10_plan h a).bind some) := by
  refine z_in (la := [some (.ref a)]) (by decide) rfl rfl rfl ?_
  unfold f_X10_plan
  refine z_gg (fun _ => ?_)
  refine z_aload_n (x := a) (pc := 0) dX10_plan_0 rfl rfl ?_
  refine z_iconst (v := 0) (pc := 1) dX10_plan_1 (by decide) ?_
  refine z_putI cX10 (pc := 2) dX10_plan_2 (j := 0) (by decide) rfl rfl w_1087 (fun h1 => ?_)
  refine z_aload_n (x := a) (pc := 5) dX10_plan_5 rfl rfl ?_
  refine z_dVI (As := []) (rest := []) hG.1 (m_X10_readText hG h1 a) (fun _ e => z_gdb e) oX10_readText (pc := 6) dX10_plan_6 rfl w_1186 rfl rfl rfl (fun t2 h3 => ?_)
  refine z_if_ne (tgt := 14) (pc := 9) dX10_plan_9 (by decide) (fun _ => ?_) (fun _ => ?_)
  · refine z_aload_n (x := a) (pc := 14) dX10_plan_14 rfl rfl ?_
    refine z_cVV (As := []) (rest := []) hG.1 (m_X10_taken hG h3 a) (fun _ e => z_gdb e) oX10_taken (pc := 15) dX10_plan_15 rfl w_1079 rfl rfl rfl (fun h4 => ?_)
    refine z_iconst (v := 0) (pc := 18) dX10_plan_18 (by decide) ?_
    exact z_ireturn (pc := 19) dX10_plan_19 rfl rfl rfl
  refine z_iconst (v := (-1)) (pc := 12) dX10_plan_12 (by decide) ?_
  exact z_ireturn (pc := 13) dX10_plan_13 rfl rfl rfl
set_option maxHeartbeats 2000000 in
set_option maxRecDepth 20000 in
theorem m_X9_fault {G : Z_G} (hG : z_GG G) (h : Z_H) (a : Nat) (x1 : Int32) : z_Met G iX9_fault [.ref a, .int x1] h ((f_X9_fault h a x1).bind fun r => some (r, h)) := by
  refine z_in (la := [some (.ref a), some (.int x1)]) (by decide) rfl rfl rfl ?_
  unfold f_X9_fault
  refine z_gg (fun _ => ?_)
  refine z_iload_n (x := x1) (pc := 0) dX9_fault_0 rfl rfl ?_
  refine z_bz (fun hs0 => ?_) (fun hs0 => ?_)
  · refine z_lsw (tgt := 28) (off := 27) (pc := 1) dX9_fault_1 rfl (by rw [hs0]; rfl) (by decide) ?_
    refine z_aload_n (x := a) (pc := 28) dX9_fault_28 rfl rfl ?_
    refine z_getR cX9 (pc := 29) dX9_fault_29 (j := 0) (by decide) rfl w_403 (fun r1 => ?_)
    refine z_getI cX7 (pc := 32) dX9_fault_32 (j := 6) (by decide) rfl w_256 (fun t2 => ?_)
    exact z_ireturn (pc := 35) dX9_fault_35 rfl rfl rfl
  refine z_bz (fun hs1 => ?_) (fun hs1 => ?_)
  · refine z_lsw (tgt := 36) (off := 35) (pc := 1) dX9_fault_1 rfl (by rw [hs1]; rfl) (by decide) ?_
    refine z_aload_n (x := a) (pc := 36) dX9_fault_36 rfl rfl ?_
    refine z_getR cX9 (pc := 37) dX9_fault_37 (j := 0) (by decide) rfl w_403 (fun r3 => ?_)
    refine z_getI cX7 (pc := 40) dX9_fault_40 (j := 7) (by decide) rfl w_258 (fun t4 => ?_)
    exact z_ireturn (pc := 43) dX9_fault_43 rfl rfl rfl
  refine z_lsw (tgt := 44) (off := 43) (pc := 1) dX9_fault_1 rfl ((lv_osw hs0 (by decide)).trans ((lv_osw hs1 (by decide)).trans rfl)) (by decide) ?_
  refine z_iconst (v := (-1)) (pc := 44) dX9_fault_44 (by decide) ?_
  exact z_ireturn (pc := 45) dX9_fault_45 rfl rfl rfl
set_option maxHeartbeats 2000000 in
set_option maxRecDepth 20000 in
theorem m_X10_fault {G : Z_G} (hG : z_GG G) (h : Z_H) (a : Nat) (x1 : Int32) : z_Met G iX10_fault [.ref a, .int x1] h ((f_X10_fault h a x1).bind some) := by
  refine z_in (la := [some (.ref a), some (.int x1)]) (by decide) rfl rfl rfl ?_
  unfold f_X10_fault
  refine z_gg (fun _ => ?_)
  refine z_aload_n (x := a) (pc := 0) dX10_fault_0 rfl rfl ?_
  refine z_iconst (v := 0) (pc := 1) dX10_fault_1 (by decide) ?_
  refine z_putI cX10 (pc := 2) dX10_fault_2 (j := 0) (by decide) rfl rfl w_1087 (fun h1 => ?_)
  refine z_iload_n (x := x1) (pc := 5) dX10_fault_5 rfl rfl ?_
  refine z_if_ne (tgt := 18) (pc := 6) dX10_fault_6 (by decide) (fun _ => ?_) (fun _ => ?_)
  · refine z_iload_n (x := x1) (pc := 18) dX10_fault_18 rfl rfl ?_
    refine z_iconst (v := 1) (pc := 19) dX10_fault_19 (by decide) ?_
    refine z_ic_ne (tgt := 32) (pc := 20) dX10_fault_20 (by decide) (fun _ => ?_) (fun _ => ?_)
    · refine z_iconst (v := (-1)) (pc := 32) dX10_fault_32 (by decide) ?_
      exact z_ireturn (pc := 33) dX10_fault_33 rfl rfl rfl
    refine z_aload_n (x := a) (pc := 23) dX10_fault_23 rfl rfl ?_
    refine z_getR cX10 (pc := 24) dX10_fault_24 (j := 1) (by decide) rfl w_1088 (fun r2 => ?_)
    refine z_iconst (v := 2) (pc := 27) dX10_fault_27 (by decide) ?_
    refine z_aldI (pc := 28) dX10_fault_28 (fun t3 => ?_)
    refine z_goto (tgt := 33) (pc := 29) dX10_fault_29 (by decide) ?_
    exact z_ireturn (pc := 33) dX10_fault_33 rfl rfl rfl
  refine z_aload_n (x := a) (pc := 9) dX10_fault_9 rfl rfl ?_
  refine z_getR cX10 (pc := 10) dX10_fault_10 (j := 1) (by decide) rfl w_1088 (fun r4 => ?_)
  refine z_iconst (v := 1) (pc := 13) dX10_fault_13 (by decide) ?_
  refine z_aldI (pc := 14) dX10_fault_14 (fun t5 => ?_)
  refine z_goto (tgt := 33) (pc := 15) dX10_fault_15 (by decide) ?_
  exact z_ireturn (pc := 33) dX10_fault_33 rfl rfl rfl
set_option maxHeartbeats 2000000 in
set_option maxRecDepth 20000 in
theorem m_X9_months {G : Z_G} (hG : z_GG G) (h : Z_H) (a : Nat) (x1 : Int32) : z_Met G iX9_months [.ref a, .int x1] h ((f_X9_months h a x1).bind some) := by
  refine z_in (la := [some (.ref a), some (.int x1)]) (by decide) rfl rfl rfl ?_
  unfold f_X9_months
  refine z_gg (fun _ => ?_)
  refine z_iload_n (x := x1) (pc := 0) dX9_months_0 rfl rfl ?_
  refine z_iconst (v := 1) (pc := 1) dX9_months_1 (by decide) ?_
  refine z_ic_lt (tgt := 25) (pc := 2) dX9_months_2 (by decide) (fun _ => ?_) (fun _ => ?_)
  · refine z_iconst (v := (-1)) (pc := 25) dX9_months_25 (by decide) ?_
    exact z_ireturn (pc := 26) dX9_months_26 rfl rfl rfl
  refine z_iload_n (x := x1) (pc := 5) dX9_months_5 rfl rfl ?_
  refine z_bipush (v := 12) (pc := 6) dX9_months_6 (by decide) ?_
  refine z_ic_gt (tgt := 25) (pc := 8) dX9_months_8 (by decide) (fun _ => ?_) (fun _ => ?_)
  · refine z_iconst (v := (-1)) (pc := 25) dX9_months_25 (by decide) ?_
    exact z_ireturn (pc := 26) dX9_months_26 rfl rfl rfl
  refine z_aload_n (x := a) (pc := 11) dX9_months_11 rfl rfl ?_
  refine z_getR cX9 (pc := 12) dX9_months_12 (j := 0) (by decide) rfl w_403 (fun r1 => ?_)
  refine z_getI cX7 (pc := 15) dX9_months_15 (j := 8) (by decide) rfl w_261 (fun t2 => ?_)
  refine z_iload_n (x := x1) (pc := 18) dX9_months_18 rfl rfl ?_
  refine z_iadd (pc := 19) dX9_months_19 ?_
  refine z_bipush (v := 99) (pc := 20) dX9_months_20 (by decide) ?_
  refine z_ic_le (tgt := 27) (pc := 22) dX9_months_22 (by decide) (fun _ => ?_) (fun _ => ?_)
  · refine z_aload_n (x := a) (pc := 27) dX9_months_27 rfl rfl ?_
    refine z_getR cX9 (pc := 28) dX9_months_28 (j := 0) (by decide) rfl w_403 (fun r3 => ?_)
    refine z_dup (pc := 31) dX9_months_31 rfl ?_
    refine z_getI cX7 (pc := 32) dX9_months_32 (j := 8) (by decide) rfl w_261 (fun t4 => ?_)
    refine z_iload_n (x := x1) (pc := 35) dX9_months_35 rfl rfl ?_
    refine z_iadd (pc := 36) dX9_months_36 ?_
    refine z_putI cX7 (pc := 37) dX9_months_37 (j := 8) (by decide) rfl rfl w_261 (fun h5 => ?_)
    refine z_aload_n (x := a) (pc := 40) dX9_months_40 rfl rfl ?_
    refine z_getR cX9 (pc := 41) dX9_months_41 (j := 0) (by decide) rfl w_403 (fun r6 => ?_)
    refine z_getI cX7 (pc := 44) dX9_months_44 (j := 8) (by decide) rfl w_261 (fun t7 => ?_)
    exact z_ireturn (pc := 47) dX9_months_47 rfl rfl rfl
  refine z_iconst (v := (-1)) (pc := 25) dX9_months_25 (by decide) ?_
  exact z_ireturn (pc := 26) dX9_months_26 rfl rfl rfl
set_option maxHeartbeats 2000000 in
set_option maxRecDepth 20000 in
theorem m_X10_now {G : Z_G} (hG : z_GG G) (h : Z_H) (a : Nat) : z_Met G iX10_now [.ref a] h ((f_X10_now h a).bind fun r => some (r, h)) := by
  refine z_in (la := [some (.ref a)]) (by decide) rfl rfl rfl ?_
  unfold f_X10_now
  refine z_gg (fun _ => ?_)
  refine z_aload_n (x := a) (pc := 0) dX10_now_0 rfl rfl ?_
  refine z_getR cX10 (pc := 1) dX10_now_1 (j := 1) (by decide) rfl w_1088 (fun r1 => ?_)
  refine z_sipush (v := 144) (pc := 4) dX10_now_4 (by decide) ?_
  refine z_aldI (pc := 7) dX10_now_7 (fun t2 => ?_)
  exact z_ireturn (pc := 8) dX10_now_8 rfl rfl rfl
set_option maxHeartbeats 2000000 in
set_option maxRecDepth 20000 in
theorem m_X10_months {G : Z_G} (hG : z_GG G) (h : Z_H) (a : Nat) (x1 : Int32) : z_Met G iX10_months [.ref a, .int x1] h ((f_X10_months h a x1).bind some) := by
  refine z_in (la := [some (.ref a), some (.int x1)]) (by decide) rfl rfl rfl ?_
  unfold f_X10_months
  refine z_gg (fun _ => ?_)
  refine z_aload_n (x := a) (pc := 0) dX10_months_0 rfl rfl ?_
  refine z_iconst (v := 0) (pc := 1) dX10_months_1 (by decide) ?_
  refine z_putI cX10 (pc := 2) dX10_months_2 (j := 0) (by decide) rfl rfl w_1087 (fun h1 => ?_)
  refine z_iload_n (x := x1) (pc := 5) dX10_months_5 rfl rfl ?_
  refine z_iconst (v := 1) (pc := 6) dX10_months_6 (by decide) ?_
  refine z_bipush (v := 12) (pc := 7) dX10_months_7 (by decide) ?_
  refine z_cSP (As := [.int x1, .int 1, .int 12]) (rest := []) hG.1 (m_X10_in hG h1 x1 1 12) oX10_in (pc := 9) dX10_months_9 rfl w_1179 rfl rfl rfl (fun t2 => ?_)
  refine z_if_eq (tgt := 26) (pc := 12) dX10_months_12 (by decide) (fun _ => ?_) (fun _ => ?_)
  · refine z_iconst (v := (-1)) (pc := 26) dX10_months_26 (by decide) ?_
    exact z_ireturn (pc := 27) dX10_months_27 rfl rfl rfl
  refine z_aload_n (x := a) (pc := 15) dX10_months_15 rfl rfl ?_
  refine z_cVP (As := []) (rest := []) hG.1 (m_X10_now hG h1 a) (fun _ e => z_gdb e) oX10_now (pc := 16) dX10_months_16 rfl w_1247 rfl rfl rfl (fun t3 => ?_)
  refine z_iload_n (x := x1) (pc := 19) dX10_months_19 rfl rfl ?_
  refine z_iadd (pc := 20) dX10_months_20 ?_
  refine z_bipush (v := 99) (pc := 21) dX10_months_21 (by decide) ?_
  refine z_ic_le (tgt := 28) (pc := 23) dX10_months_23 (by decide) (fun _ => ?_) (fun _ => ?_)
  · refine z_aload_n (x := a) (pc := 28) dX10_months_28 rfl rfl ?_
    refine z_getR cX10 (pc := 29) dX10_months_29 (j := 1) (by decide) rfl w_1088 (fun r4 => ?_)
    refine z_sipush (v := 144) (pc := 32) dX10_months_32 (by decide) ?_
    refine z_dup2 (pc := 35) dX10_months_35 rfl rfl ?_
    refine z_aldI (pc := 36) dX10_months_36 (fun t5 => ?_)
    refine z_iload_n (x := x1) (pc := 37) dX10_months_37 rfl rfl ?_
    refine z_iadd (pc := 38) dX10_months_38 ?_
    refine z_astI (pc := 39) dX10_months_39 (fun h6 => ?_)
    refine z_aload_n (x := a) (pc := 40) dX10_months_40 rfl rfl ?_
    refine z_cVP (As := []) (rest := []) hG.1 (m_X10_now hG h6 a) (fun _ e => z_gdb e) oX10_now (pc := 41) dX10_months_41 rfl w_1247 rfl rfl rfl (fun t7 => ?_)
    exact z_ireturn (pc := 44) dX10_months_44 rfl rfl rfl
  refine z_iconst (v := (-1)) (pc := 26) dX10_months_26 (by decide) ?_
  exact z_ireturn (pc := 27) dX10_months_27 rfl rfl rfl
set_option maxHeartbeats 2000000 in
set_option maxRecDepth 20000 in
theorem m_X0_has {G : Z_G} (hG : z_GG G) (h : Z_H) (a : Nat) (x1 : Int32) : z_Met G iX0_has [.ref a, .int x1] h ((f_X0_has h a x1).bind fun r => some (r, h)) := by
  refine z_in (la := [some (.ref a), some (.int x1)]) (by decide) rfl rfl rfl ?_
  unfold f_X0_has
  refine z_gg (fun _ => ?_)
  refine z_iload_n (x := x1) (pc := 0) dX0_has_0 rfl rfl ?_
  refine z_if_lt (tgt := 16) (pc := 1) dX0_has_1 (by decide) (fun _ => ?_) (fun _ => ?_)
  · refine z_iconst (v := 0) (pc := 16) dX0_has_16 (by decide) ?_
    exact z_ireturn (pc := 17) dX0_has_17 rfl (by decide) rfl
  refine z_iload_n (x := x1) (pc := 4) dX0_has_4 rfl rfl ?_
  refine z_aload_n (x := a) (pc := 5) dX0_has_5 rfl rfl ?_
  refine z_getI cX0 (pc := 6) dX0_has_6 (j := 0) (by decide) rfl w_138 (fun t1 => ?_)
  refine z_ic_ge (tgt := 16) (pc := 9) dX0_has_9 (by decide) (fun _ => ?_) (fun _ => ?_)
  · refine z_iconst (v := 0) (pc := 16) dX0_has_16 (by decide) ?_
    exact z_ireturn (pc := 17) dX0_has_17 rfl (by decide) rfl
  refine z_iconst (v := 1) (pc := 12) dX0_has_12 (by decide) ?_
  refine z_goto (tgt := 17) (pc := 13) dX0_has_13 (by decide) ?_
  exact z_ireturn (pc := 17) dX0_has_17 rfl (by decide) rfl
set_option maxHeartbeats 2000000 in
set_option maxRecDepth 20000 in
theorem m_X0_hasLeft {G : Z_G} (hG : z_GG G) (h : Z_H) (a : Nat) (x1 : Int32) : z_Met G iX0_hasLeft [.ref a, .int x1] h ((f_X0_hasLeft h a x1).bind fun r => some (r, h)) := by
  refine z_in (la := [some (.ref a), some (.int x1)]) (by decide) rfl rfl rfl ?_
  unfold f_X0_hasLeft
  refine z_gg (fun _ => ?_)
  refine z_aload_n (x := a) (pc := 0) dX0_hasLeft_0 rfl rfl ?_
  refine z_getR cX0 (pc := 1) dX0_hasLeft_1 (j := 2) (by decide) rfl w_146 (fun r1 => ?_)
  refine z_iload_n (x := x1) (pc := 4) dX0_hasLeft_4 rfl rfl ?_
  refine z_aldI (pc := 5) dX0_hasLeft_5 (fun t2 => ?_)
  refine z_iconst (v := (-1)) (pc := 6) dX0_hasLeft_6 (by decide) ?_
  refine z_ic_eq (tgt := 14) (pc := 7) dX0_hasLeft_7 (by decide) (fun _ => ?_) (fun _ => ?_)
  · refine z_iconst (v := 0) (pc := 14) dX0_hasLeft_14 (by decide) ?_
    exact z_ireturn (pc := 15) dX0_hasLeft_15 rfl (by decide) rfl
  refine z_iconst (v := 1) (pc := 10) dX0_hasLeft_10 (by decide) ?_
  refine z_goto (tgt := 15) (pc := 11) dX0_hasLeft_11 (by decide) ?_
  exact z_ireturn (pc := 15) dX0_hasLeft_15 rfl (by decide) rfl
set_option maxHeartbeats 2000000 in
set_option maxRecDepth 20000 in
theorem m_X0_works {G : Z_G} (hG : z_GG G) (h : Z_H) (a : Nat) (x1 : Int32) : z_Met G iX0_works [.ref a, .int x1] h ((f_X0_works h a x1).bind fun r => some (r, h)) := by
  refine z_in (la := [some (.ref a), some (.int x1)]) (by decide) rfl rfl rfl ?_
  unfold f_X0_works
  refine z_gg (fun _ => ?_)
  refine z_aload_n (x := a) (pc := 0) dX0_works_0 rfl rfl ?_
  refine z_iload_n (x := x1) (pc := 1) dX0_works_1 rfl rfl ?_
  refine z_cVP (As := [.int x1]) (rest := []) hG.1 (m_X0_has hG h a x1) (fun _ e => z_gdb e) oX0_has (pc := 2) dX0_works_2 rfl w_626 rfl rfl rfl (fun t1 => ?_)
  refine z_if_eq (tgt := 20) (pc := 5) dX0_works_5 (by decide) (fun _ => ?_) (fun _ => ?_)
  · refine z_iconst (v := 0) (pc := 20) dX0_works_20 (by decide) ?_
    exact z_ireturn (pc := 21) dX0_works_21 rfl (by decide) rfl
  refine z_aload_n (x := a) (pc := 8) dX0_works_8 rfl rfl ?_
  refine z_iload_n (x := x1) (pc := 9) dX0_works_9 rfl rfl ?_
  refine z_cVP (As := [.int x1]) (rest := []) hG.1 (m_X0_hasLeft hG h a x1) (fun _ e => z_gdb e) oX0_hasLeft (pc := 10) dX0_works_10 rfl w_630 rfl rfl rfl (fun t2 => ?_)
  refine z_if_ne (tgt := 20) (pc := 13) dX0_works_13 (by decide) (fun _ => ?_) (fun _ => ?_)
  · refine z_iconst (v := 0) (pc := 20) dX0_works_20 (by decide) ?_
    exact z_ireturn (pc := 21) dX0_works_21 rfl (by decide) rfl
  refine z_iconst (v := 1) (pc := 16) dX0_works_16 (by decide) ?_
  refine z_goto (tgt := 21) (pc := 17) dX0_works_17 (by decide) ?_
  exact z_ireturn (pc := 21) dX0_works_21 rfl (by decide) rfl
set_option maxHeartbeats 2000000 in
set_option maxRecDepth 20000 in
theorem m_X9_join {G : Z_G} (hG : z_GG G) (h : Z_H) (a : Nat) (x1 : Int32) : z_Met G iX9_join [.ref a, .int x1] h ((f_X9_join h a x1).bind some) := by
  refine z_in (la := [some (.ref a), some (.int x1), none]) (by decide) rfl rfl rfl ?_
  unfold f_X9_join
  refine z_gg (fun _ => ?_)
  refine z_aload_n (x := a) (pc := 0) dX9_join_0 rfl rfl ?_
  refine z_getR cX9 (pc := 1) dX9_join_1 (j := 0) (by decide) rfl w_403 (fun r1 => ?_)
  refine z_getR cX7 (pc := 4) dX9_join_4 (j := 2) (by decide) rfl w_247 (fun r2 => ?_)
  refine z_astore_n (i := 2) (la' := [some (.ref a), some (.int x1), some (.ref r2)]) (pc := 7) dX9_join_7 rfl (by decide) rfl rfl ?_
  refine z_aload_n (x := r2) (pc := 8) dX9_join_8 rfl rfl ?_
  refine z_iload_n (x := x1) (pc := 9) dX9_join_9 rfl rfl ?_
  refine z_cVP (As := [.int x1]) (rest := []) hG.1 (m_X0_works hG h r2 x1) (fun _ e => z_gdb e) oX0_works (pc := 10) dX9_join_10 rfl w_622 rfl rfl rfl (fun t3 => ?_)
  refine z_if_eq (tgt := 25) (pc := 13) dX9_join_13 (by decide) (fun _ => ?_) (fun _ => ?_)
  · refine z_iconst (v := (-1)) (pc := 25) dX9_join_25 (by decide) ?_
    exact z_ireturn (pc := 26) dX9_join_26 rfl rfl rfl
  refine z_aload_n (x := r2) (pc := 16) dX9_join_16 rfl rfl ?_
  refine z_getI cX0 (pc := 17) dX9_join_17 (j := 0) (by decide) rfl w_139 (fun t4 => ?_)
  refine z_bipush (v := 10) (pc := 20) dX9_join_20 (by decide) ?_
  refine z_ic_lt (tgt := 27) (pc := 22) dX9_join_22 (by decide) (fun _ => ?_) (fun _ => ?_)
  · refine z_aload_n (x := r2) (pc := 27) dX9_join_27 rfl rfl ?_
    refine z_iload_n (x := x1) (pc := 28) dX9_join_28 rfl rfl ?_
    refine z_aload_n (x := a) (pc := 29) dX9_join_29 rfl rfl ?_
    refine z_getR cX9 (pc := 30) dX9_join_30 (j := 0) (by decide) rfl w_403 (fun r5 => ?_)
    refine z_getI cX7 (pc := 33) dX9_join_33 (j := 8) (by decide) rfl w_261 (fun t6 => ?_)
    refine z_dVI (As := [.int x1, .int t6]) (rest := []) hG.1 (m_X0_admit hG h r2 x1 t6) (fun _ e => z_gdb e) oX0_admit (pc := 36) dX9_join_36 rfl w_634 rfl rfl rfl (fun t7 h8 => ?_)
    exact z_ireturn (pc := 39) dX9_join_39 rfl rfl rfl
  refine z_iconst (v := (-1)) (pc := 25) dX9_join_25 (by decide) ?_
  exact z_ireturn (pc := 26) dX9_join_26 rfl rfl rfl
set_option maxHeartbeats 2000000 in
set_option maxRecDepth 20000 in
theorem m_X10_isSeller {G : Z_G} (hG : z_GG G) (h : Z_H) (a : Nat) (x1 : Int32) : z_Met G iX10_isSeller [.ref a, .int x1] h ((f_X10_isSeller h a x1).bind fun r => some (r, h)) := by
  refine z_in (la := [some (.ref a), some (.int x1)]) (by decide) rfl rfl rfl ?_
  unfold f_X10_isSeller
  refine z_gg (fun _ => ?_)
  refine z_iload_n (x := x1) (pc := 0) dX10_isSeller_0 rfl rfl ?_
  refine z_iconst (v := 0) (pc := 1) dX10_isSeller_1 (by decide) ?_
  refine z_aload_n (x := a) (pc := 2) dX10_isSeller_2 rfl rfl ?_
  refine z_getR cX10 (pc := 3) dX10_isSeller_3 (j := 1) (by decide) rfl w_1088 (fun r1 => ?_)
  refine z_sipush (v := 145) (pc := 6) dX10_isSeller_6 (by decide) ?_
  refine z_aldI (pc := 9) dX10_isSeller_9 (fun t2 => ?_)
  refine z_iconst (v := 1) (pc := 10) dX10_isSeller_10 (by decide) ?_
  refine z_isub (pc := 11) dX10_isSeller_11 ?_
  refine z_cSP (As := [.int x1, .int 0, .int (t2 - 1)]) (rest := []) hG.1 (m_X10_in hG h x1 0 (t2 - 1)) oX10_in (pc := 12) dX10_isSeller_12 rfl w_1179 rfl rfl rfl (fun t3 => ?_)
  refine z_gg (fun hzz => ?_)
  exact z_ireturn (pc := 15) dX10_isSeller_15 rfl (congrArg Value.int (of_decide_eq_true hzz)) rfl
set_option maxHeartbeats 2000000 in
set_option maxRecDepth 20000 in
theorem m_X10_ofSeller {G : Z_G} (hG : z_GG G) (h : Z_H) (a : Nat) (x1 : Int32) (x2 : Int32) : z_Met G iX10_ofSeller [.ref a, .int x1, .int x2] h ((f_X10_ofSeller h a x1 x2).bind fun r => some (r, h)) := by
  refine z_in (la := [some (.ref a), some (.int x1), some (.int x2)]) (by decide) rfl rfl rfl ?_
  unfold f_X10_ofSeller
  refine z_gg (fun _ => ?_)
  refine z_aload_n (x := a) (pc := 0) dX10_ofSeller_0 rfl rfl ?_
  refine z_getR cX10 (pc := 1) dX10_ofSeller_1 (j := 1) (by decide) rfl w_1088 (fun r1 => ?_)
  refine z_sipush (v := 147) (pc := 4) dX10_ofSeller_4 (by decide) ?_
  refine z_bipush (v := 94) (pc := 7) dX10_ofSeller_7 (by decide) ?_
  refine z_iload_n (x := x1) (pc := 9) dX10_ofSeller_9 rfl rfl ?_
  refine z_imul (pc := 10) dX10_ofSeller_10 ?_
  refine z_iadd (pc := 11) dX10_ofSeller_11 ?_
  refine z_iload_n (x := x2) (pc := 12) dX10_ofSeller_12 rfl rfl ?_
  refine z_iadd (pc := 13) dX10_ofSeller_13 ?_
  refine z_aldI (pc := 14) dX10_ofSeller_14 (fun t2 => ?_)
  exact z_ireturn (pc := 15) dX10_ofSeller_15 rfl rfl rfl
set_option maxHeartbeats 2000000 in
set_option maxRecDepth 20000 in
theorem m_X10_hasQuit {G : Z_G} (hG : z_GG G) (h : Z_H) (a : Nat) (x1 : Int32) : z_Met G iX10_hasQuit [.ref a, .int x1] h ((f_X10_hasQuit h a x1).bind fun r => some (r, h)) := by
  refine z_in (la := [some (.ref a), some (.int x1)]) (by decide) rfl rfl rfl ?_
  unfold f_X10_hasQuit
  refine z_gg (fun _ => ?_)
  refine z_aload_n (x := a) (pc := 0) dX10_hasQuit_0 rfl rfl ?_
  refine z_iload_n (x := x1) (pc := 1) dX10_hasQuit_1 rfl rfl ?_
  refine z_iconst (v := 1) (pc := 2) dX10_hasQuit_2 (by decide) ?_
  refine z_cVP (As := [.int x1, .int 1]) (rest := []) hG.1 (m_X10_ofSeller hG h a x1 1) (fun _ e => z_gdb e) oX10_ofSeller (pc := 3) dX10_hasQuit_3 rfl w_1263 rfl rfl rfl (fun t1 => ?_)
  refine z_iconst (v := (-1)) (pc := 6) dX10_hasQuit_6 (by decide) ?_
  refine z_ic_eq (tgt := 14) (pc := 7) dX10_hasQuit_7 (by decide) (fun _ => ?_) (fun _ => ?_)
  · refine z_iconst (v := 0) (pc := 14) dX10_hasQuit_14 (by decide) ?_
    exact z_ireturn (pc := 15) dX10_hasQuit_15 rfl (by decide) rfl
  refine z_iconst (v := 1) (pc := 10) dX10_hasQuit_10 (by decide) ?_
  refine z_goto (tgt := 15) (pc := 11) dX10_hasQuit_11 (by decide) ?_
  exact z_ireturn (pc := 15) dX10_hasQuit_15 rfl (by decide) rfl
set_option maxHeartbeats 2000000 in
set_option maxRecDepth 20000 in
theorem m_X10_join {G : Z_G} (hG : z_GG G) (h : Z_H) (a : Nat) (x1 : Int32) : z_Met G iX10_join [.ref a, .int x1] h ((f_X10_join h a x1).bind some) := by
  refine z_in (la := [some (.ref a), some (.int x1)]) (by decide) rfl rfl rfl ?_
  unfold f_X10_join
  refine z_gg (fun _ => ?_)
  refine z_aload_n (x := a) (pc := 0) dX10_join_0 rfl rfl ?_
  refine z_iconst (v := 0) (pc := 1) dX10_join_1 (by decide) ?_
  refine z_putI cX10 (pc := 2) dX10_join_2 (j := 0) (by decide) rfl rfl w_1087 (fun h1 => ?_)
  refine z_aload_n (x := a) (pc := 5) dX10_join_5 rfl rfl ?_
  refine z_iload_n (x := x1) (pc := 6) dX10_join_6 rfl rfl ?_
  refine z_cVP (As := [.int x1]) (rest := []) hG.1 (m_X10_isSeller hG h1 a x1) (fun _ e => z_gdb e) oX10_isSeller (pc := 7) dX10_join_7 rfl w_1255 rfl rfl rfl (fun t2 => ?_)
  refine z_if_eq (tgt := 34) (pc := 10) dX10_join_10 (by decide) (fun _ => ?_) (fun _ => ?_)
  · refine z_iconst (v := (-1)) (pc := 34) dX10_join_34 (by decide) ?_
    exact z_ireturn (pc := 35) dX10_join_35 rfl rfl rfl
  refine z_aload_n (x := a) (pc := 13) dX10_join_13 rfl rfl ?_
  refine z_iload_n (x := x1) (pc := 14) dX10_join_14 rfl rfl ?_
  refine z_cVP (As := [.int x1]) (rest := []) hG.1 (m_X10_hasQuit hG h1 a x1) (fun _ e => z_gdb e) oX10_hasQuit (pc := 15) dX10_join_15 rfl w_1259 rfl rfl rfl (fun t3 => ?_)
  refine z_if_ne (tgt := 34) (pc := 18) dX10_join_18 (by decide) (fun _ => ?_) (fun _ => ?_)
  · refine z_iconst (v := (-1)) (pc := 34) dX10_join_34 (by decide) ?_
    exact z_ireturn (pc := 35) dX10_join_35 rfl rfl rfl
  refine z_aload_n (x := a) (pc := 21) dX10_join_21 rfl rfl ?_
  refine z_getR cX10 (pc := 22) dX10_join_22 (j := 1) (by decide) rfl w_1088 (fun r4 => ?_)
  refine z_sipush (v := 145) (pc := 25) dX10_join_25 (by decide) ?_
  refine z_aldI (pc := 28) dX10_join_28 (fun t5 => ?_)
  refine z_bipush (v := 10) (pc := 29) dX10_join_29 (by decide) ?_
  refine z_ic_ne (tgt := 36) (pc := 31) dX10_join_31 (by decide) (fun _ => ?_) (fun _ => ?_)
  · refine z_aload_n (x := a) (pc := 36) dX10_join_36 rfl rfl ?_
    refine z_iload_n (x := x1) (pc := 37) dX10_join_37 rfl rfl ?_
    refine z_cVV (As := [.int x1]) (rest := []) hG.1 (m_X10_joins hG h1 a x1) (fun _ e => z_gdb e) oX10_joins (pc := 38) dX10_join_38 rfl w_1083 rfl rfl rfl (fun h6 => ?_)
    refine z_aload_n (x := a) (pc := 41) dX10_join_41 rfl rfl ?_
    refine z_getR cX10 (pc := 42) dX10_join_42 (j := 1) (by decide) rfl w_1088 (fun r7 => ?_)
    refine z_sipush (v := 145) (pc := 45) dX10_join_45 (by decide) ?_
    refine z_aldI (pc := 48) dX10_join_48 (fun t8 => ?_)
    refine z_iconst (v := 1) (pc := 49) dX10_join_49 (by decide) ?_
    refine z_isub (pc := 50) dX10_join_50 ?_
    exact z_ireturn (pc := 51) dX10_join_51 rfl rfl rfl
  refine z_iconst (v := (-1)) (pc := 34) dX10_join_34 (by decide) ?_
  exact z_ireturn (pc := 35) dX10_join_35 rfl rfl rfl
set_option maxHeartbeats 2000000 in
set_option maxRecDepth 20000 in
theorem m_X9_lastTreeMonth {G : Z_G} (hG : z_GG G) (h : Z_H) (a : Nat) : z_Met G iX9_lastTreeMonth [.ref a] h ((f_X9_lastTreeMonth h a).bind fun r => some (r, h)) := by
  refine z_in (la := [some (.ref a)]) (by decide) rfl rfl rfl ?_
  unfold f_X9_lastTreeMonth
  refine z_gg (fun _ => ?_)
  refine z_aload_n (x := a) (pc := 0) dX9_lastTreeMonth_0 rfl rfl ?_
  refine z_getR cX9 (pc := 1) dX9_lastTreeMonth_1 (j := 0) (by decide) rfl w_403 (fun r1 => ?_)
  refine z_getI cX7 (pc := 4) dX9_lastTreeMonth_4 (j := 8) (by decide) rfl w_261 (fun t2 => ?_)
  refine z_bipush (v := 6) (pc := 7) dX9_lastTreeMonth_7 (by decide) ?_
  refine z_iadd (pc := 9) dX9_lastTreeMonth_9 ?_
  refine z_bipush (v := 99) (pc := 10) dX9_lastTreeMonth_10 (by decide) ?_
  refine z_mmin (pc := 12) dX9_lastTreeMonth_12 w_648 w_575 w_17 w_576 (by decide) (Nat.le_of_ble_eq_true rfl) ?_
  exact z_ireturn (pc := 15) dX9_lastTreeMonth_15 rfl rfl rfl
set_option maxHeartbeats 2000000 in
set_option maxRecDepth 20000 in
theorem m_X0_sponsorAt {G : Z_G} (hG : z_GG G) (h : Z_H) (a : Nat) (x1 : Int32) (x2 : Int32) : z_Met G iX0_sponsorAt [.ref a, .int x1, .int x2] h ((f_X0_sponsorAt h a x1 x2).bind fun r => some (r, h)) := by
  refine z_in (la := [some (.ref a), some (.int x1), some (.int x2), none, none]) (by decide) rfl rfl rfl ?_
  unfold f_X0_sponsorAt
  refine z_gg (fun _ => ?_)
  refine z_aload_n (x := a) (pc := 0) dX0_sponsorAt_0 rfl rfl ?_
  refine z_getR cX0 (pc := 1) dX0_sponsorAt_1 (j := 7) (by decide) rfl w_159 (fun r1 => ?_)
  refine z_iload_n (x := x1) (pc := 4) dX0_sponsorAt_4 rfl rfl ?_
  refine z_aldI (pc := 5) dX0_sponsorAt_5 (fun t2 => ?_)
  refine z_istore_n (i := 3) (la' := [some (.ref a), some (.int x1), some (.int x2), some (.int t2), none]) (pc := 6) dX0_sponsorAt_6 rfl (by decide) rfl rfl ?_
  refine z_iconst (v := 0) (pc := 7) dX0_sponsorAt_7 (by decide) ?_
  refine z_istore (i := 4) (la' := [some (.ref a), some (.int x1), some (.int x2), some (.int t2), some (.int 0)]) (pc := 8) dX0_sponsorAt_8 (by decide) rfl rfl ?_
  refine z_lp (T := Int32) (s0 := (t2, 0)) 10 (fun ((v3, v4) : Int32 × Int32) => [some (.ref a), some (.int x1), some (.int x2), some (.int v3), some (.int v4)]) (fun ((v3, v4) : Int32 × Int32) => h) (fun _ => 56) (fun (v5 : Int32) => [none, none, none, some (.int v5), none]) (fun (v5 : Int32) => h) ?_ ?_
  · rintro v5
    try dsimp only
    refine z_iload_n (x := v5) (pc := 56) dX0_sponsorAt_56 rfl rfl ?_
    exact z_ireturn (pc := 57) dX0_sponsorAt_57 rfl rfl rfl
  intro k' hx1 rec6 hrec6
  rintro ⟨v3, v4⟩
  unfold f_X0_sponsorAt_l1
  try dsimp only
  refine z_iload (x := v4) (pc := 10) dX0_sponsorAt_10 rfl ?_
  refine z_aload_n (x := a) (pc := 12) dX0_sponsorAt_12 rfl rfl ?_
  refine z_getR cX0 (pc := 13) dX0_sponsorAt_13 (j := 4) (by decide) rfl w_153 (fun r7 => ?_)
  refine z_iload_n (x := x1) (pc := 16) dX0_sponsorAt_16 rfl rfl ?_
  refine z_aldI (pc := 17) dX0_sponsorAt_17 (fun t8 => ?_)
  refine z_ic_ge (tgt := 56) (pc := 18) dX0_sponsorAt_18 (by decide) (fun _ => ?_) (fun _ => ?_)
  · exact z_wk (hx1 v3) (And.intro rfl trivial)
  refine z_aload_n (x := a) (pc := 21) dX0_sponsorAt_21 rfl rfl ?_
  refine z_getR cX0 (pc := 22) dX0_sponsorAt_22 (j := 5) (by decide) rfl w_155 (fun r9 => ?_)
  refine z_iload_n (x := x1) (pc := 25) dX0_sponsorAt_25 rfl rfl ?_
  refine z_bipush (v := 12) (pc := 26) dX0_sponsorAt_26 (by decide) ?_
  refine z_imul (pc := 28) dX0_sponsorAt_28 ?_
  refine z_iload (x := v4) (pc := 29) dX0_sponsorAt_29 rfl ?_
  refine z_iadd (pc := 31) dX0_sponsorAt_31 ?_
  refine z_aldI (pc := 32) dX0_sponsorAt_32 (fun t10 => ?_)
  refine z_iload_n (x := x2) (pc := 33) dX0_sponsorAt_33 rfl rfl ?_
  refine z_ic_gt (tgt := 56) (pc := 34) dX0_sponsorAt_34 (by decide) (fun _ => ?_) (fun _ => ?_)
  · exact z_wk (hx1 v3) (And.intro rfl trivial)
  refine z_aload_n (x := a) (pc := 37) dX0_sponsorAt_37 rfl rfl ?_
  refine z_getR cX0 (pc := 38) dX0_sponsorAt_38 (j := 6) (by decide) rfl w_157 (fun r11 => ?_)
  refine z_iload_n (x := x1) (pc := 41) dX0_sponsorAt_41 rfl rfl ?_
  refine z_bipush (v := 12) (pc := 42) dX0_sponsorAt_42 (by decide) ?_
  refine z_imul (pc := 44) dX0_sponsorAt_44 ?_
  refine z_iload (x := v4) (pc := 45) dX0_sponsorAt_45 rfl ?_
  refine z_iadd (pc := 47) dX0_sponsorAt_47 ?_
  refine z_aldI (pc := 48) dX0_sponsorAt_48 (fun t12 => ?_)
  refine z_istore_n (i := 3) (la' := [some (.ref a), some (.int x1), some (.int x2), some (.int t12), some (.int v4)]) (pc := 49) dX0_sponsorAt_49 rfl (by decide) rfl rfl ?_
  refine z_iinc (i := 4) (x := v4) (v := (v4 + 1)) (la' := [some (.ref a), some (.int x1), some (.int x2), some (.int t12), some (.int (v4 + 1))]) (pc := 50) dX0_sponsorAt_50 rfl rfl (by decide) rfl rfl ?_
  refine z_goto (tgt := 10) (pc := 53) dX0_sponsorAt_53 (by decide) ?_
  exact hrec6 (t12, (v4 + 1))
set_option maxHeartbeats 2000000 in
set_option maxRecDepth 20000 in
theorem m_X0_hasMoveOf {G : Z_G} (hG : z_GG G) (h : Z_H) (a : Nat) (x1 : Int32) (x2 : Int32) : z_Met G iX0_hasMoveOf [.ref a, .int x1, .int x2] h ((f_X0_hasMoveOf h a x1 x2).bind fun r => some (r, h)) := by
  refine z_in (la := [some (.ref a), some (.int x1), some (.int x2), none]) (by decide) rfl rfl rfl ?_
  unfold f_X0_hasMoveOf
  refine z_gg (fun _ => ?_)
  refine z_iconst (v := 0) (pc := 0) dX0_hasMoveOf_0 (by decide) ?_
  refine z_istore_n (i := 3) (la' := [some (.ref a), some (.int x1), some (.int x2), some (.int 0)]) (pc := 1) dX0_hasMoveOf_1 rfl (by decide) rfl rfl ?_
  refine z_lp (T := (Unit) ⊕ (Unit)) (s0 := 0) 2 (fun (v1 : Int32) => [some (.ref a), some (.int x1), some (.int x2), some (.int v1)]) (fun (v1 : Int32) => h) (fun t => match t with | (.inl _) => 27 | (.inr _) => 35) (fun t => match t with | (.inl _) => [none, none, none, none] | (.inr _) => [none, none, none, none]) (fun t => match t with | (.inl _) => h | (.inr _) => h) ?_ ?_
  · rintro (_ | _)
    · try dsimp only
      refine z_iconst (v := 1) (pc := 27) dX0_hasMoveOf_27 (by decide) ?_
      exact z_ireturn (pc := 28) dX0_hasMoveOf_28 rfl (by decide) rfl
    · try dsimp only
      refine z_iconst (v := 0) (pc := 35) dX0_hasMoveOf_35 (by decide) ?_
      exact z_ireturn (pc := 36) dX0_hasMoveOf_36 rfl (by decide) rfl
  intro k' hx1 rec2 hrec2
  rintro v1
  unfold f_X0_hasMoveOf_l1
  try dsimp only [lt]
  refine z_iload_n (x := v1) (pc := 2) dX0_hasMoveOf_2 rfl rfl ?_
  refine z_aload_n (x := a) (pc := 3) dX0_hasMoveOf_3 rfl rfl ?_
  refine z_getR cX0 (pc := 4) dX0_hasMoveOf_4 (j := 4) (by decide) rfl w_153 (fun r3 => ?_)
  refine z_iload_n (x := x1) (pc := 7) dX0_hasMoveOf_7 rfl rfl ?_
  refine z_aldI (pc := 8) dX0_hasMoveOf_8 (fun t4 => ?_)
  refine z_ic_ge (tgt := 35) (pc := 9) dX0_hasMoveOf_9 (by decide) (fun _ => ?_) (fun _ => ?_)
  · exact z_wk (hx1 (.inr ())) trivial
  refine z_aload_n (x := a) (pc := 12) dX0_hasMoveOf_12 rfl rfl ?_
  refine z_getR cX0 (pc := 13) dX0_hasMoveOf_13 (j := 5) (by decide) rfl w_155 (fun r5 => ?_)
  refine z_iload_n (x := x1) (pc := 16) dX0_hasMoveOf_16 rfl rfl ?_
  refine z_bipush (v := 12) (pc := 17) dX0_hasMoveOf_17 (by decide) ?_
  refine z_imul (pc := 19) dX0_hasMoveOf_19 ?_
  refine z_iload_n (x := v1) (pc := 20) dX0_hasMoveOf_20 rfl rfl ?_
  refine z_iadd (pc := 21) dX0_hasMoveOf_21 ?_
  refine z_aldI (pc := 22) dX0_hasMoveOf_22 (fun t6 => ?_)
  refine z_iload_n (x := x2) (pc := 23) dX0_hasMoveOf_23 rfl rfl ?_
  refine z_ic_ne (tgt := 29) (pc := 24) dX0_hasMoveOf_24 (by decide) (fun _ => ?_) (fun _ => ?_)
  · refine z_iinc (i := 3) (x := v1) (v := (v1 + 1)) (la' := [some (.ref a), some (.int x1), some (.int x2), some (.int (v1 + 1))]) (pc := 29) dX0_hasMoveOf_29 rfl rfl (by decide) rfl rfl ?_
    refine z_goto (tgt := 2) (pc := 32) dX0_hasMoveOf_32 (by decide) ?_
    exact hrec2 (v1 + 1)
  exact z_wk (hx1 (.inl ())) trivial
set_option maxHeartbeats 2000000 in
set_option maxRecDepth 20000 in
theorem m_X0_isUpFrom {G : Z_G} (hG : z_GG G) (h : Z_H) (a : Nat) (x1 : Int32) (x2 : Int32) (x3 : Int32) : z_Met G iX0_isUpFrom [.ref a, .int x1, .int x2, .int x3] h ((f_X0_isUpFrom h a x1 x2 x3).bind fun r => some (r, h)) := by
  refine z_in (la := [some (.ref a), some (.int x1), some (.int x2), some (.int x3), none, none]) (by decide) rfl rfl rfl ?_
  unfold f_X0_isUpFrom
  refine z_gg (fun _ => ?_)
  refine z_iload_n (x := x1) (pc := 0) dX0_isUpFrom_0 rfl rfl ?_
  refine z_istore (i := 4) (la' := [some (.ref a), some (.int x1), some (.int x2), some (.int x3), some (.int x1), none]) (pc := 1) dX0_isUpFrom_1 (by decide) rfl rfl ?_
  refine z_iconst (v := 0) (pc := 3) dX0_isUpFrom_3 (by decide) ?_
  refine z_istore (i := 5) (la' := [some (.ref a), some (.int x1), some (.int x2), some (.int x3), some (.int x1), some (.int 0)]) (pc := 4) dX0_isUpFrom_4 (by decide) rfl rfl ?_
  refine z_weak (la' := [some (.ref a), none, some (.int x2), some (.int x3), some (.int x1), some (.int 0)]) (And.intro rfl (And.intro rfl (And.intro rfl (And.intro rfl (And.intro rfl trivial))))) ?_
  refine z_lp (T := (Unit) ⊕ (Unit)) (s0 := (x1, 0)) 6 (fun ((v1, v2) : Int32 × Int32) => [some (.ref a), none, some (.int x2), some (.int x3), some (.int v1), some (.int v2)]) (fun ((v1, v2) : Int32 × Int32) => h) (fun t => match t with | (.inl _) => 25 | (.inr _) => 42) (fun t => match t with | (.inl _) => [none, none, none, none, none, none] | (.inr _) => [none, none, none, none, none, none]) (fun t => match t with | (.inl _) => h | (.inr _) => h) ?_ ?_
  · rintro (_ | _)
    · try dsimp only
      refine z_iconst (v := 1) (pc := 25) dX0_isUpFrom_25 (by decide) ?_
      exact z_ireturn (pc := 26) dX0_isUpFrom_26 rfl (by decide) rfl
    · try dsimp only
      refine z_iconst (v := 0) (pc := 42) dX0_isUpFrom_42 (by decide) ?_
      exact z_ireturn (pc := 43) dX0_isUpFrom_43 rfl (by decide) rfl
  intro k' hx1 rec3 hrec3
  rintro ⟨v1, v2⟩
  unfold f_X0_isUpFrom_l1
  try dsimp only
  refine z_iload (x := v2) (pc := 6) dX0_isUpFrom_6 rfl ?_
  refine z_bipush (v := 10) (pc := 8) dX0_isUpFrom_8 (by decide) ?_
  refine z_ic_ge (tgt := 42) (pc := 10) dX0_isUpFrom_10 (by decide) (fun _ => ?_) (fun _ => ?_)
  · exact z_wk (hx1 (.inr ())) trivial
  refine z_iload (x := v1) (pc := 13) dX0_isUpFrom_13 rfl ?_
  refine z_iconst (v := (-1)) (pc := 15) dX0_isUpFrom_15 (by decide) ?_
  refine z_ic_eq (tgt := 42) (pc := 16) dX0_isUpFrom_16 (by decide) (fun _ => ?_) (fun _ => ?_)
  · exact z_wk (hx1 (.inr ())) trivial
  refine z_iload (x := v1) (pc := 19) dX0_isUpFrom_19 rfl ?_
  refine z_iload_n (x := x2) (pc := 21) dX0_isUpFrom_21 rfl rfl ?_
  refine z_ic_ne (tgt := 27) (pc := 22) dX0_isUpFrom_22 (by decide) (fun _ => ?_) (fun _ => ?_)
  · refine z_aload_n (x := a) (pc := 27) dX0_isUpFrom_27 rfl rfl ?_
    refine z_iload (x := v1) (pc := 28) dX0_isUpFrom_28 rfl ?_
    refine z_iload_n (x := x3) (pc := 30) dX0_isUpFrom_30 rfl rfl ?_
    refine z_cVP (As := [.int v1, .int x3]) (rest := []) hG.1 (m_X0_sponsorAt hG h a v1 x3) (fun _ e => z_gdb e) oX0_sponsorAt (pc := 31) dX0_isUpFrom_31 rfl w_666 rfl rfl rfl (fun t4 => ?_)
    refine z_istore (i := 4) (la' := [some (.ref a), none, some (.int x2), some (.int x3), some (.int t4), some (.int v2)]) (pc := 34) dX0_isUpFrom_34 (by decide) rfl rfl ?_
    refine z_iinc (i := 5) (x := v2) (v := (v2 + 1)) (la' := [some (.ref a), none, some (.int x2), some (.int x3), some (.int t4), some (.int (v2 + 1))]) (pc := 36) dX0_isUpFrom_36 rfl rfl (by decide) rfl rfl ?_
    refine z_goto (tgt := 6) (pc := 39) dX0_isUpFrom_39 (by decide) ?_
    exact hrec3 (t4, (v2 + 1))
  exact z_wk (hx1 (.inl ())) trivial
set_option maxHeartbeats 2000000 in
set_option maxRecDepth 20000 in
theorem m_X9_makesRing {G : Z_G} (hG : z_GG G) (h : Z_H) (a : Nat) (x1 : Int32) (x2 : Int32) (x3 : Int32) : z_Met G iX9_makesRing [.ref a, .int x1, .int x2, .int x3] h ((f_X9_makesRing h a x1 x2 x3).bind fun r => some (r, h)) := by
  refine z_in (la := [some (.ref a), some (.int x1), some (.int x2), some (.int x3), none, none]) (by decide) rfl rfl rfl ?_
  unfold f_X9_makesRing
  refine z_gg (fun _ => ?_)
  refine z_aload_n (x := a) (pc := 0) dX9_makesRing_0 rfl rfl ?_
  refine z_getR cX9 (pc := 1) dX9_makesRing_1 (j := 0) (by decide) rfl w_403 (fun r1 => ?_)
  refine z_getR cX7 (pc := 4) dX9_makesRing_4 (j := 2) (by decide) rfl w_247 (fun r2 => ?_)
  refine z_astore (i := 4) (la' := [some (.ref a), some (.int x1), some (.int x2), some (.int x3), some (.ref r2), none]) (pc := 7) dX9_makesRing_7 (by decide) rfl rfl ?_
  refine z_iload_n (x := x3) (pc := 9) dX9_makesRing_9 rfl rfl ?_
  refine z_istore (i := 5) (la' := [some (.ref a), some (.int x1), some (.int x2), some (.int x3), some (.ref r2), some (.int x3)]) (pc := 10) dX9_makesRing_10 (by decide) rfl rfl ?_
  refine z_lp (T := (Unit) ⊕ (Unit) ⊕ (Unit)) (s0 := x3) 12 (fun (v3 : Int32) => [some (.ref a), some (.int x1), some (.int x2), some (.int x3), some (.ref r2), some (.int v3)]) (fun (v3 : Int32) => h) (fun t => match t with | (.inl _) => 38 | (.inr (.inl _)) => 52 | (.inr (.inr _)) => 60) (fun t => match t with | (.inl _) => [none, none, none, none, none, none] | (.inr (.inl _)) => [none, none, none, none, none, none] | (.inr (.inr _)) => [none, none, none, none, none, none]) (fun t => match t with | (.inl _) => h | (.inr (.inl _)) => h | (.inr (.inr _)) => h) ?_ ?_
  · rintro (_ | _ | _)
    · try dsimp only
      refine z_iconst (v := 0) (pc := 38) dX9_makesRing_38 (by decide) ?_
      exact z_ireturn (pc := 39) dX9_makesRing_39 rfl (by decide) rfl
    · try dsimp only
      refine z_iconst (v := 1) (pc := 52) dX9_makesRing_52 (by decide) ?_
      exact z_ireturn (pc := 53) dX9_makesRing_53 rfl (by decide) rfl
    · try dsimp only
      refine z_iconst (v := 0) (pc := 60) dX9_makesRing_60 (by decide) ?_
      exact z_ireturn (pc := 61) dX9_makesRing_61 rfl (by decide) rfl
  intro k' hx1 rec4 hrec4
  rintro v3
  unfold f_X9_makesRing_l1
  try dsimp only [lt]
  refine z_iload (x := v3) (pc := 12) dX9_makesRing_12 rfl ?_
  refine z_aload_n (x := a) (pc := 14) dX9_makesRing_14 rfl rfl ?_
  refine z_cVP (As := []) (rest := [.int v3]) hG.1 (m_X9_lastTreeMonth hG h a) (fun _ e => z_gdb e) oX9_lastTreeMonth (pc := 15) dX9_makesRing_15 rfl w_644 rfl rfl rfl (fun t5 => ?_)
  refine z_ic_gt (tgt := 60) (pc := 18) dX9_makesRing_18 (by decide) (fun _ => ?_) (fun _ => ?_)
  · exact z_wk (hx1 (.inr (.inr ()))) trivial
  refine z_iload (x := v3) (pc := 21) dX9_makesRing_21 rfl ?_
  refine z_iload_n (x := x3) (pc := 23) dX9_makesRing_23 rfl rfl ?_
  refine z_jn 40 (fun (_ : Unit) => [some (.ref a), some (.int x1), some (.int x2), some (.int x3), some (.ref r2), some (.int v3)]) (fun (_ : Unit) => []) (fun (_ : Unit) => h) ?_ ?_
  · rintro _
    try dsimp only
    refine z_aload (x := r2) (pc := 40) dX9_makesRing_40 rfl ?_
    refine z_iload_n (x := x2) (pc := 42) dX9_makesRing_42 rfl rfl ?_
    refine z_iload_n (x := x1) (pc := 43) dX9_makesRing_43 rfl rfl ?_
    refine z_iload (x := v3) (pc := 44) dX9_makesRing_44 rfl ?_
    refine z_cVP (As := [.int x2, .int x1, .int v3]) (rest := []) hG.1 (m_X0_isUpFrom hG h r2 x2 x1 v3) (fun _ e => z_gdb e) oX0_isUpFrom (pc := 46) dX9_makesRing_46 rfl w_662 rfl rfl rfl (fun t7 => ?_)
    refine z_if_eq (tgt := 54) (pc := 49) dX9_makesRing_49 (by decide) (fun _ => ?_) (fun _ => ?_)
    · refine z_iinc (i := 5) (x := v3) (v := (v3 + 1)) (la' := [some (.ref a), some (.int x1), some (.int x2), some (.int x3), some (.ref r2), some (.int (v3 + 1))]) (pc := 54) dX9_makesRing_54 rfl rfl (by decide) rfl rfl ?_
      refine z_goto (tgt := 12) (pc := 57) dX9_makesRing_57 (by decide) ?_
      exact hrec4 (v3 + 1)
    exact z_wk (hx1 (.inr (.inl ()))) trivial
  intro j6 hj6
  refine z_ic_le (tgt := 40) (pc := 24) dX9_makesRing_24 (by decide) (fun _ => ?_) (fun _ => ?_)
  · exact hj6 ()
  refine z_aload (x := r2) (pc := 27) dX9_makesRing_27 rfl ?_
  refine z_iload_n (x := x1) (pc := 29) dX9_makesRing_29 rfl rfl ?_
  refine z_iload (x := v3) (pc := 30) dX9_makesRing_30 rfl ?_
  refine z_cVP (As := [.int x1, .int v3]) (rest := []) hG.1 (m_X0_hasMoveOf hG h r2 x1 v3) (fun _ e => z_gdb e) oX0_hasMoveOf (pc := 32) dX9_makesRing_32 rfl w_658 rfl rfl rfl (fun t8 => ?_)
  refine z_if_eq (tgt := 40) (pc := 35) dX9_makesRing_35 (by decide) (fun _ => ?_) (fun _ => ?_)
  · exact hj6 ()
  exact z_wk (hx1 (.inl ())) trivial
set_option maxHeartbeats 2000000 in
set_option maxRecDepth 20000 in
theorem m_X9_reasonAgainst {G : Z_G} (hG : z_GG G) (h : Z_H) (a : Nat) (x1 : Int32) (x2 : Int32) (x3 : Int32) : z_Met G iX9_reasonAgainst [.ref a, .int x1, .int x2, .int x3] h ((f_X9_reasonAgainst h a x1 x2 x3).bind fun r => some (r, h)) := by
  refine z_in (la := [some (.ref a), some (.int x1), some (.int x2), some (.int x3), none]) (by decide) rfl rfl rfl ?_
  unfold f_X9_reasonAgainst
  refine z_gg (fun _ => ?_)
  refine z_aload_n (x := a) (pc := 0) dX9_reasonAgainst_0 rfl rfl ?_
  refine z_getR cX9 (pc := 1) dX9_reasonAgainst_1 (j := 0) (by decide) rfl w_403 (fun r1 => ?_)
  refine z_getR cX7 (pc := 4) dX9_reasonAgainst_4 (j := 2) (by decide) rfl w_247 (fun r2 => ?_)
  refine z_astore (i := 4) (la' := [some (.ref a), some (.int x1), some (.int x2), some (.int x3), some (.ref r2)]) (pc := 7) dX9_reasonAgainst_7 (by decide) rfl rfl ?_
  refine z_aload (x := r2) (pc := 9) dX9_reasonAgainst_9 rfl ?_
  refine z_iload_n (x := x1) (pc := 11) dX9_reasonAgainst_11 rfl rfl ?_
  refine z_cVP (As := [.int x1]) (rest := []) hG.1 (m_X0_has hG h r2 x1) (fun _ e => z_gdb e) oX0_has (pc := 12) dX9_reasonAgainst_12 rfl w_643 rfl rfl rfl (fun t3 => ?_)
  refine z_if_eq (tgt := 31) (pc := 15) dX9_reasonAgainst_15 (by decide) (fun _ => ?_) (fun _ => ?_)
  · refine z_iconst (v := 1) (pc := 31) dX9_reasonAgainst_31 (by decide) ?_
    exact z_ireturn (pc := 32) dX9_reasonAgainst_32 rfl rfl rfl
  refine z_aload (x := r2) (pc := 18) dX9_reasonAgainst_18 rfl ?_
  refine z_iload_n (x := x2) (pc := 20) dX9_reasonAgainst_20 rfl rfl ?_
  refine z_cVP (As := [.int x2]) (rest := []) hG.1 (m_X0_has hG h r2 x2) (fun _ e => z_gdb e) oX0_has (pc := 21) dX9_reasonAgainst_21 rfl w_643 rfl rfl rfl (fun t4 => ?_)
  refine z_if_eq (tgt := 31) (pc := 24) dX9_reasonAgainst_24 (by decide) (fun _ => ?_) (fun _ => ?_)
  · refine z_iconst (v := 1) (pc := 31) dX9_reasonAgainst_31 (by decide) ?_
    exact z_ireturn (pc := 32) dX9_reasonAgainst_32 rfl rfl rfl
  refine z_iload_n (x := x1) (pc := 27) dX9_reasonAgainst_27 rfl rfl ?_
  refine z_if_ne (tgt := 33) (pc := 28) dX9_reasonAgainst_28 (by decide) (fun _ => ?_) (fun _ => ?_)
  · refine z_iload_n (x := x3) (pc := 33) dX9_reasonAgainst_33 rfl rfl ?_
    refine z_aload_n (x := a) (pc := 34) dX9_reasonAgainst_34 rfl rfl ?_
    refine z_getR cX9 (pc := 35) dX9_reasonAgainst_35 (j := 0) (by decide) rfl w_403 (fun r5 => ?_)
    refine z_getI cX7 (pc := 38) dX9_reasonAgainst_38 (j := 8) (by decide) rfl w_261 (fun t6 => ?_)
    refine z_ic_lt (tgt := 52) (pc := 41) dX9_reasonAgainst_41 (by decide) (fun _ => ?_) (fun _ => ?_)
    · refine z_iconst (v := 2) (pc := 52) dX9_reasonAgainst_52 (by decide) ?_
      exact z_ireturn (pc := 53) dX9_reasonAgainst_53 rfl rfl rfl
    refine z_iload_n (x := x3) (pc := 44) dX9_reasonAgainst_44 rfl rfl ?_
    refine z_aload_n (x := a) (pc := 45) dX9_reasonAgainst_45 rfl rfl ?_
    refine z_cVP (As := []) (rest := [.int x3]) hG.1 (m_X9_lastTreeMonth hG h a) (fun _ e => z_gdb e) oX9_lastTreeMonth (pc := 46) dX9_reasonAgainst_46 rfl w_644 rfl rfl rfl (fun t7 => ?_)
    refine z_ic_le (tgt := 54) (pc := 49) dX9_reasonAgainst_49 (by decide) (fun _ => ?_) (fun _ => ?_)
    · refine z_aload (x := r2) (pc := 54) dX9_reasonAgainst_54 rfl ?_
      refine z_iload_n (x := x1) (pc := 56) dX9_reasonAgainst_56 rfl rfl ?_
      refine z_cVP (As := [.int x1]) (rest := []) hG.1 (m_X0_hasLeft hG h r2 x1) (fun _ e => z_gdb e) oX0_hasLeft (pc := 57) dX9_reasonAgainst_57 rfl w_649 rfl rfl rfl (fun t8 => ?_)
      refine z_if_ne (tgt := 72) (pc := 60) dX9_reasonAgainst_60 (by decide) (fun _ => ?_) (fun _ => ?_)
      · refine z_iconst (v := 3) (pc := 72) dX9_reasonAgainst_72 (by decide) ?_
        exact z_ireturn (pc := 73) dX9_reasonAgainst_73 rfl rfl rfl
      refine z_aload (x := r2) (pc := 63) dX9_reasonAgainst_63 rfl ?_
      refine z_iload_n (x := x2) (pc := 65) dX9_reasonAgainst_65 rfl rfl ?_
      refine z_cVP (As := [.int x2]) (rest := []) hG.1 (m_X0_hasLeft hG h r2 x2) (fun _ e => z_gdb e) oX0_hasLeft (pc := 66) dX9_reasonAgainst_66 rfl w_649 rfl rfl rfl (fun t9 => ?_)
      refine z_if_eq (tgt := 74) (pc := 69) dX9_reasonAgainst_69 (by decide) (fun _ => ?_) (fun _ => ?_)
      · refine z_aload (x := r2) (pc := 74) dX9_reasonAgainst_74 rfl ?_
        refine z_iload_n (x := x1) (pc := 76) dX9_reasonAgainst_76 rfl rfl ?_
        refine z_iload_n (x := x3) (pc := 77) dX9_reasonAgainst_77 rfl rfl ?_
        refine z_cVP (As := [.int x1, .int x3]) (rest := []) hG.1 (m_X0_sponsorAt hG h r2 x1 x3) (fun _ e => z_gdb e) oX0_sponsorAt (pc := 78) dX9_reasonAgainst_78 rfl w_650 rfl rfl rfl (fun t10 => ?_)
        refine z_iload_n (x := x2) (pc := 81) dX9_reasonAgainst_81 rfl rfl ?_
        refine z_ic_ne (tgt := 87) (pc := 82) dX9_reasonAgainst_82 (by decide) (fun _ => ?_) (fun _ => ?_)
        · refine z_aload_n (x := a) (pc := 87) dX9_reasonAgainst_87 rfl rfl ?_
          refine z_iload_n (x := x1) (pc := 88) dX9_reasonAgainst_88 rfl rfl ?_
          refine z_iload_n (x := x2) (pc := 89) dX9_reasonAgainst_89 rfl rfl ?_
          refine z_iload_n (x := x3) (pc := 90) dX9_reasonAgainst_90 rfl rfl ?_
          refine z_cVP (As := [.int x1, .int x2, .int x3]) (rest := []) hG.1 (m_X9_makesRing hG h a x1 x2 x3) (fun _ e => z_gdb e) oX9_makesRing (pc := 91) dX9_reasonAgainst_91 rfl w_654 rfl rfl rfl (fun t11 => ?_)
          refine z_if_eq (tgt := 99) (pc := 94) dX9_reasonAgainst_94 (by decide) (fun _ => ?_) (fun _ => ?_)
          · refine z_aload (x := r2) (pc := 99) dX9_reasonAgainst_99 rfl ?_
            refine z_getR cX0 (pc := 101) dX9_reasonAgainst_101 (j := 4) (by decide) rfl w_154 (fun r12 => ?_)
            refine z_iload_n (x := x1) (pc := 104) dX9_reasonAgainst_104 rfl rfl ?_
            refine z_aldI (pc := 105) dX9_reasonAgainst_105 (fun t13 => ?_)
            refine z_bipush (v := 12) (pc := 106) dX9_reasonAgainst_106 (by decide) ?_
            refine z_ic_lt (tgt := 126) (pc := 108) dX9_reasonAgainst_108 (by decide) (fun _ => ?_) (fun _ => ?_)
            · refine z_iconst (v := 0) (pc := 126) dX9_reasonAgainst_126 (by decide) ?_
              exact z_ireturn (pc := 127) dX9_reasonAgainst_127 rfl rfl rfl
            refine z_aload (x := r2) (pc := 111) dX9_reasonAgainst_111 rfl ?_
            refine z_iload_n (x := x1) (pc := 113) dX9_reasonAgainst_113 rfl rfl ?_
            refine z_iload_n (x := x3) (pc := 114) dX9_reasonAgainst_114 rfl rfl ?_
            refine z_cVP (As := [.int x1, .int x3]) (rest := []) hG.1 (m_X0_hasMoveOf hG h r2 x1 x3) (fun _ e => z_gdb e) oX0_hasMoveOf (pc := 115) dX9_reasonAgainst_115 rfl w_658 rfl rfl rfl (fun t14 => ?_)
            refine z_if_ne (tgt := 126) (pc := 118) dX9_reasonAgainst_118 (by decide) (fun _ => ?_) (fun _ => ?_)
            · refine z_iconst (v := 0) (pc := 126) dX9_reasonAgainst_126 (by decide) ?_
              exact z_ireturn (pc := 127) dX9_reasonAgainst_127 rfl rfl rfl
            refine z_bipush (v := 6) (pc := 121) dX9_reasonAgainst_121 (by decide) ?_
            refine z_goto (tgt := 127) (pc := 123) dX9_reasonAgainst_123 (by decide) ?_
            exact z_ireturn (pc := 127) dX9_reasonAgainst_127 rfl rfl rfl
          refine z_iconst (v := 5) (pc := 97) dX9_reasonAgainst_97 (by decide) ?_
          exact z_ireturn (pc := 98) dX9_reasonAgainst_98 rfl rfl rfl
        refine z_iconst (v := 4) (pc := 85) dX9_reasonAgainst_85 (by decide) ?_
        exact z_ireturn (pc := 86) dX9_reasonAgainst_86 rfl rfl rfl
      refine z_iconst (v := 3) (pc := 72) dX9_reasonAgainst_72 (by decide) ?_
      exact z_ireturn (pc := 73) dX9_reasonAgainst_73 rfl rfl rfl
    refine z_iconst (v := 2) (pc := 52) dX9_reasonAgainst_52 (by decide) ?_
    exact z_ireturn (pc := 53) dX9_reasonAgainst_53 rfl rfl rfl
  refine z_iconst (v := 1) (pc := 31) dX9_reasonAgainst_31 (by decide) ?_
  exact z_ireturn (pc := 32) dX9_reasonAgainst_32 rfl rfl rfl
set_option maxHeartbeats 2000000 in
set_option maxRecDepth 20000 in
theorem m_X0_putMove {G : Z_G} (hG : z_GG G) (h : Z_H) (a : Nat) (x1 : Int32) (x2 : Int32) (x3 : Int32) : z_Met G iX0_putMove [.ref a, .int x1, .int x2, .int x3] h ((f_X0_putMove h a x1 x2 x3).bind fun h1 => some (0, h1)) := by
  refine z_in (la := [some (.ref a), some (.int x1), some (.int x2), some (.int x3), none, none, none, none]) (by decide) rfl rfl rfl ?_
  unfold f_X0_putMove
  refine z_gg (fun _ => ?_)
  refine z_iload_n (x := x1) (pc := 0) dX0_putMove_0 rfl rfl ?_
  refine z_bipush (v := 12) (pc := 1) dX0_putMove_1 (by decide) ?_
  refine z_imul (pc := 3) dX0_putMove_3 ?_
  refine z_nm (fun v1 => ?_)
  refine z_istore (i := 4) (la' := [some (.ref a), some (.int x1), some (.int x2), some (.int x3), some (.int v1), none, none, none]) (pc := 4) dX0_putMove_4 (by decide) rfl rfl ?_
  refine z_iconst (v := 0) (pc := 6) dX0_putMove_6 (by decide) ?_
  refine z_istore (i := 5) (la' := [some (.ref a), some (.int x1), some (.int x2), some (.int x3), some (.int v1), some (.int 0), none, none]) (pc := 7) dX0_putMove_7 (by decide) rfl rfl ?_
  refine z_lp (T := Int32) (s0 := 0) 9 (fun (v2 : Int32) => [some (.ref a), some (.int x1), some (.int x2), some (.int x3), some (.int v1), some (.int v2), none, none]) (fun (v2 : Int32) => h) (fun _ => 40) (fun (v3 : Int32) => [some (.ref a), some (.int x1), some (.int x2), some (.int x3), some (.int v1), some (.int v3), none, none]) (fun (v3 : Int32) => h) ?_ ?_
  · rintro v3
    try dsimp only
    refine z_iload (x := v3) (pc := 40) dX0_putMove_40 rfl ?_
    refine z_aload_n (x := a) (pc := 42) dX0_putMove_42 rfl rfl ?_
    refine z_getR cX0 (pc := 43) dX0_putMove_43 (j := 4) (by decide) rfl w_153 (fun r9 => ?_)
    refine z_iload_n (x := x1) (pc := 46) dX0_putMove_46 rfl rfl ?_
    refine z_aldI (pc := 47) dX0_putMove_47 (fun t10 => ?_)
    refine z_jn 70 (fun (y11 : Int32) => [some (.ref a), some (.int x1), some (.int x2), some (.int x3), some (.int v1), some (.int v3), none, none]) (fun (y11 : Int32) => [.int y11]) (fun (y11 : Int32) => h) ?_ ?_
    · rintro y11
      try dsimp only
      refine z_istore (i := 6) (la' := [some (.ref a), some (.int x1), some (.int x2), some (.int x3), some (.int v1), some (.int v3), some (.int y11), none]) (pc := 70) dX0_putMove_70 (by decide) rfl rfl ?_
      refine z_iload (x := y11) (pc := 72) dX0_putMove_72 rfl ?_
      refine z_jn 164 (fun (h13 : Z_H) => [some (.ref a), none, some (.int x2), some (.int x3), some (.int v1), some (.int v3), none, none]) (fun (h13 : Z_H) => []) (fun (h13 : Z_H) => h13) ?_ ?_
      · rintro h13
        try dsimp only
        refine z_aload_n (x := a) (pc := 164) dX0_putMove_164 rfl rfl ?_
        refine z_getR cX0 (pc := 165) dX0_putMove_165 (j := 5) (by decide) rfl w_155 (fun r15 => ?_)
        refine z_iload (x := v1) (pc := 168) dX0_putMove_168 rfl ?_
        refine z_iload (x := v3) (pc := 170) dX0_putMove_170 rfl ?_
        refine z_iadd (pc := 172) dX0_putMove_172 ?_
        refine z_iload_n (x := x3) (pc := 173) dX0_putMove_173 rfl rfl ?_
        refine z_astI (pc := 174) dX0_putMove_174 (fun h16 => ?_)
        refine z_aload_n (x := a) (pc := 175) dX0_putMove_175 rfl rfl ?_
        refine z_getR cX0 (pc := 176) dX0_putMove_176 (j := 6) (by decide) rfl w_157 (fun r17 => ?_)
        refine z_iload (x := v1) (pc := 179) dX0_putMove_179 rfl ?_
        refine z_iload (x := v3) (pc := 181) dX0_putMove_181 rfl ?_
        refine z_iadd (pc := 183) dX0_putMove_183 ?_
        refine z_iload_n (x := x2) (pc := 184) dX0_putMove_184 rfl rfl ?_
        refine z_astI (pc := 185) dX0_putMove_185 (fun h18 => ?_)
        exact z_return (pc := 186) dX0_putMove_186 rfl rfl
      intro j14 hj14
      refine z_if_ne (tgt := 164) (pc := 74) dX0_putMove_74 (by decide) (fun _ => ?_) (fun _ => ?_)
      · exact z_wk (hj14 h) (And.intro rfl (And.intro rfl (And.intro rfl (And.intro rfl (And.intro rfl trivial)))))
      refine z_aload_n (x := a) (pc := 77) dX0_putMove_77 rfl rfl ?_
      refine z_getR cX0 (pc := 78) dX0_putMove_78 (j := 4) (by decide) rfl w_153 (fun r19 => ?_)
      refine z_iload_n (x := x1) (pc := 81) dX0_putMove_81 rfl rfl ?_
      refine z_aldI (pc := 82) dX0_putMove_82 (fun t20 => ?_)
      refine z_bipush (v := 12) (pc := 83) dX0_putMove_83 (by decide) ?_
      refine z_ic_lt (tgt := 89) (pc := 85) dX0_putMove_85 (by decide) (fun _ => ?_) (fun _ => ?_)
      · refine z_aload_n (x := a) (pc := 89) dX0_putMove_89 rfl rfl ?_
        refine z_getR cX0 (pc := 90) dX0_putMove_90 (j := 4) (by decide) rfl w_153 (fun r21 => ?_)
        refine z_iload_n (x := x1) (pc := 93) dX0_putMove_93 rfl rfl ?_
        refine z_aldI (pc := 94) dX0_putMove_94 (fun t22 => ?_)
        refine z_istore (i := 7) (la' := [some (.ref a), some (.int x1), some (.int x2), some (.int x3), some (.int v1), some (.int v3), some (.int y11), some (.int t22)]) (pc := 95) dX0_putMove_95 (by decide) rfl rfl ?_
        refine z_weak (la' := [some (.ref a), some (.int x1), some (.int x2), some (.int x3), some (.int v1), some (.int v3), none, some (.int t22)]) (And.intro rfl (And.intro rfl (And.intro rfl (And.intro rfl (And.intro rfl (And.intro rfl (And.intro rfl trivial))))))) ?_
        refine z_lp (T := Z_H) (s0 := (t22, h)) 97 (fun ((v23, h24) : Int32 × Z_H) => [some (.ref a), some (.int x1), some (.int x2), some (.int x3), some (.int v1), some (.int v3), none, some (.int v23)]) (fun ((v23, h24) : Int32 × Z_H) => h24) (fun _ => 154) (fun (h25 : Z_H) => [some (.ref a), some (.int x1), some (.int x2), some (.int x3), some (.int v1), some (.int v3), none, none]) (fun (h25 : Z_H) => h25) ?_ ?_
        · rintro h25
          try dsimp only
          refine z_aload_n (x := a) (pc := 154) dX0_putMove_154 rfl rfl ?_
          refine z_getR cX0 (pc := 155) dX0_putMove_155 (j := 4) (by decide) rfl w_153 (fun r35 => ?_)
          refine z_iload_n (x := x1) (pc := 158) dX0_putMove_158 rfl rfl ?_
          refine z_dup2 (pc := 159) dX0_putMove_159 rfl rfl ?_
          refine z_aldI (pc := 160) dX0_putMove_160 (fun t36 => ?_)
          refine z_iconst (v := 1) (pc := 161) dX0_putMove_161 (by decide) ?_
          refine z_iadd (pc := 162) dX0_putMove_162 ?_
          refine z_astI (pc := 163) dX0_putMove_163 (fun h37 => ?_)
          exact z_wk (hj14 h37) (And.intro rfl (And.intro rfl (And.intro rfl (And.intro rfl (And.intro rfl trivial)))))
        intro k' hx2 rec26 hrec26
        rintro ⟨v23, h24⟩
        unfold f_X0_putMove_l2
        try dsimp only
        refine z_iload (x := v23) (pc := 97) dX0_putMove_97 rfl ?_
        refine z_iload (x := v3) (pc := 99) dX0_putMove_99 rfl ?_
        refine z_ic_le (tgt := 154) (pc := 101) dX0_putMove_101 (by decide) (fun _ => ?_) (fun _ => ?_)
        · exact z_wk (hx2 h24) (And.intro rfl (And.intro rfl (And.intro rfl (And.intro rfl (And.intro rfl (And.intro rfl trivial))))))
        refine z_aload_n (x := a) (pc := 104) dX0_putMove_104 rfl rfl ?_
        refine z_getR cX0 (pc := 105) dX0_putMove_105 (j := 5) (by decide) rfl w_155 (fun r27 => ?_)
        refine z_iload (x := v1) (pc := 108) dX0_putMove_108 rfl ?_
        refine z_iload (x := v23) (pc := 110) dX0_putMove_110 rfl ?_
        refine z_iadd (pc := 112) dX0_putMove_112 ?_
        refine z_aload_n (x := a) (pc := 113) dX0_putMove_113 rfl rfl ?_
        refine z_getR cX0 (pc := 114) dX0_putMove_114 (j := 5) (by decide) rfl w_155 (fun r28 => ?_)
        refine z_iload (x := v1) (pc := 117) dX0_putMove_117 rfl ?_
        refine z_iload (x := v23) (pc := 119) dX0_putMove_119 rfl ?_
        refine z_iadd (pc := 121) dX0_putMove_121 ?_
        refine z_iconst (v := 1) (pc := 122) dX0_putMove_122 (by decide) ?_
        refine z_isub (pc := 123) dX0_putMove_123 ?_
        refine z_aldI (pc := 124) dX0_putMove_124 (fun t29 => ?_)
        refine z_astI (pc := 125) dX0_putMove_125 (fun h30 => ?_)
        refine z_aload_n (x := a) (pc := 126) dX0_putMove_126 rfl rfl ?_
        refine z_getR cX0 (pc := 127) dX0_putMove_127 (j := 6) (by decide) rfl w_157 (fun r31 => ?_)
        refine z_iload (x := v1) (pc := 130) dX0_putMove_130 rfl ?_
        refine z_iload (x := v23) (pc := 132) dX0_putMove_132 rfl ?_
        refine z_iadd (pc := 134) dX0_putMove_134 ?_
        refine z_aload_n (x := a) (pc := 135) dX0_putMove_135 rfl rfl ?_
        refine z_getR cX0 (pc := 136) dX0_putMove_136 (j := 6) (by decide) rfl w_157 (fun r32 => ?_)
        refine z_iload (x := v1) (pc := 139) dX0_putMove_139 rfl ?_
        refine z_iload (x := v23) (pc := 141) dX0_putMove_141 rfl ?_
        refine z_iadd (pc := 143) dX0_putMove_143 ?_
        refine z_iconst (v := 1) (pc := 144) dX0_putMove_144 (by decide) ?_
        refine z_isub (pc := 145) dX0_putMove_145 ?_
        refine z_aldI (pc := 146) dX0_putMove_146 (fun t33 => ?_)
        refine z_astI (pc := 147) dX0_putMove_147 (fun h34 => ?_)
        refine z_iinc (i := 7) (x := v23) (v := (v23 + (-1))) (la' := [some (.ref a), some (.int x1), some (.int x2), some (.int x3), some (.int v1), some (.int v3), none, some (.int (v23 + (-1)))]) (pc := 148) dX0_putMove_148 rfl rfl (by decide) rfl rfl ?_
        refine z_goto (tgt := 97) (pc := 151) dX0_putMove_151 (by decide) ?_
        exact hrec26 ((v23 + (-1)), h34)
      exact z_return (pc := 88) dX0_putMove_88 rfl rfl
    intro j12 hj12
    refine z_jn 69 (fun (_ : Unit) => [some (.ref a), some (.int x1), some (.int x2), some (.int x3), some (.int v1), some (.int v3), none, none]) (fun (_ : Unit) => []) (fun (_ : Unit) => h) ?_ ?_
    · rintro _
      try dsimp only
      refine z_iconst (v := 0) (pc := 69) dX0_putMove_69 (by decide) ?_
      exact hj12 0
    intro j38 hj38
    refine z_ic_ge (tgt := 69) (pc := 48) dX0_putMove_48 (by decide) (fun _ => ?_) (fun _ => ?_)
    · exact hj38 ()
    refine z_aload_n (x := a) (pc := 51) dX0_putMove_51 rfl rfl ?_
    refine z_getR cX0 (pc := 52) dX0_putMove_52 (j := 5) (by decide) rfl w_155 (fun r39 => ?_)
    refine z_iload (x := v1) (pc := 55) dX0_putMove_55 rfl ?_
    refine z_iload (x := v3) (pc := 57) dX0_putMove_57 rfl ?_
    refine z_iadd (pc := 59) dX0_putMove_59 ?_
    refine z_aldI (pc := 60) dX0_putMove_60 (fun t40 => ?_)
    refine z_iload_n (x := x3) (pc := 61) dX0_putMove_61 rfl rfl ?_
    refine z_ic_ne (tgt := 69) (pc := 62) dX0_putMove_62 (by decide) (fun _ => ?_) (fun _ => ?_)
    · exact hj38 ()
    refine z_iconst (v := 1) (pc := 65) dX0_putMove_65 (by decide) ?_
    refine z_goto (tgt := 70) (pc := 66) dX0_putMove_66 (by decide) ?_
    exact hj12 1
  intro k' hx1 rec4 hrec4
  rintro v2
  unfold f_X0_putMove_l1
  try dsimp only [lt]
  refine z_iload (x := v2) (pc := 9) dX0_putMove_9 rfl ?_
  refine z_aload_n (x := a) (pc := 11) dX0_putMove_11 rfl rfl ?_
  refine z_getR cX0 (pc := 12) dX0_putMove_12 (j := 4) (by decide) rfl w_153 (fun r5 => ?_)
  refine z_iload_n (x := x1) (pc := 15) dX0_putMove_15 rfl rfl ?_
  refine z_aldI (pc := 16) dX0_putMove_16 (fun t6 => ?_)
  refine z_ic_ge (tgt := 40) (pc := 17) dX0_putMove_17 (by decide) (fun _ => ?_) (fun _ => ?_)
  · exact hx1 v2
  refine z_aload_n (x := a) (pc := 20) dX0_putMove_20 rfl rfl ?_
  refine z_getR cX0 (pc := 21) dX0_putMove_21 (j := 5) (by decide) rfl w_155 (fun r7 => ?_)
  refine z_iload (x := v1) (pc := 24) dX0_putMove_24 rfl ?_
  refine z_iload (x := v2) (pc := 26) dX0_putMove_26 rfl ?_
  refine z_iadd (pc := 28) dX0_putMove_28 ?_
  refine z_aldI (pc := 29) dX0_putMove_29 (fun t8 => ?_)
  refine z_iload_n (x := x3) (pc := 30) dX0_putMove_30 rfl rfl ?_
  refine z_ic_ge (tgt := 40) (pc := 31) dX0_putMove_31 (by decide) (fun _ => ?_) (fun _ => ?_)
  · exact hx1 v2
  refine z_iinc (i := 5) (x := v2) (v := (v2 + 1)) (la' := [some (.ref a), some (.int x1), some (.int x2), some (.int x3), some (.int v1), some (.int (v2 + 1)), none, none]) (pc := 34) dX0_putMove_34 rfl rfl (by decide) rfl rfl ?_
  refine z_goto (tgt := 9) (pc := 37) dX0_putMove_37 (by decide) ?_
  exact hrec4 (v2 + 1)
set_option maxHeartbeats 2000000 in
set_option maxRecDepth 20000 in
theorem m_X9_move {G : Z_G} (hG : z_GG G) (h : Z_H) (a : Nat) (x1 : Int32) (x2 : Int32) (x3 : Int32) : z_Met G iX9_move [.ref a, .int x1, .int x2, .int x3] h ((f_X9_move h a x1 x2 x3).bind some) := by
  refine z_in (la := [some (.ref a), some (.int x1), some (.int x2), some (.int x3), none]) (by decide) rfl rfl rfl ?_
  unfold f_X9_move
  refine z_gg (fun _ => ?_)
  refine z_aload_n (x := a) (pc := 0) dX9_move_0 rfl rfl ?_
  refine z_iload_n (x := x1) (pc := 1) dX9_move_1 rfl rfl ?_
  refine z_iload_n (x := x2) (pc := 2) dX9_move_2 rfl rfl ?_
  refine z_iload_n (x := x3) (pc := 3) dX9_move_3 rfl rfl ?_
  refine z_cVP (As := [.int x1, .int x2, .int x3]) (rest := []) hG.1 (m_X9_reasonAgainst hG h a x1 x2 x3) (fun _ e => z_gdb e) oX9_reasonAgainst (pc := 4) dX9_move_4 rfl w_639 rfl rfl rfl (fun t1 => ?_)
  refine z_istore (i := 4) (la' := [some (.ref a), some (.int x1), some (.int x2), some (.int x3), some (.int t1)]) (pc := 7) dX9_move_7 (by decide) rfl rfl ?_
  refine z_iload (x := t1) (pc := 9) dX9_move_9 rfl ?_
  refine z_if_ne (tgt := 27) (pc := 11) dX9_move_11 (by decide) (fun _ => ?_) (fun _ => ?_)
  · refine z_iload (x := t1) (pc := 27) dX9_move_27 rfl ?_
    exact z_ireturn (pc := 29) dX9_move_29 rfl rfl rfl
  refine z_aload_n (x := a) (pc := 14) dX9_move_14 rfl rfl ?_
  refine z_getR cX9 (pc := 15) dX9_move_15 (j := 0) (by decide) rfl w_403 (fun r2 => ?_)
  refine z_getR cX7 (pc := 18) dX9_move_18 (j := 2) (by decide) rfl w_247 (fun r3 => ?_)
  refine z_iload_n (x := x1) (pc := 21) dX9_move_21 rfl rfl ?_
  refine z_iload_n (x := x2) (pc := 22) dX9_move_22 rfl rfl ?_
  refine z_iload_n (x := x3) (pc := 23) dX9_move_23 rfl rfl ?_
  refine z_cVV (As := [.int x1, .int x2, .int x3]) (rest := []) hG.1 (m_X0_putMove hG h r3 x1 x2 x3) (fun _ e => z_gdb e) oX0_putMove (pc := 24) dX9_move_24 rfl w_667 rfl rfl rfl (fun h4 => ?_)
  refine z_iload (x := t1) (pc := 27) dX9_move_27 rfl ?_
  exact z_ireturn (pc := 29) dX9_move_29 rfl rfl rfl
set_option maxHeartbeats 2000000 in
set_option maxRecDepth 20000 in
theorem m_X10_sponsorAt {G : Z_G} (hG : z_GG G) (h : Z_H) (a : Nat) (x1 : Int32) (x2 : Int32) : z_Met G iX10_sponsorAt [.ref a, .int x1, .int x2] h ((f_X10_sponsorAt h a x1 x2).bind fun r => some (r, h)) := by
  refine z_in (la := [some (.ref a), some (.int x1), some (.int x2), none, none, none, none, none]) (by decide) rfl rfl rfl ?_
  unfold f_X10_sponsorAt
  refine z_gg (fun _ => ?_)
  refine z_aload_n (x := a) (pc := 0) dX10_sponsorAt_0 rfl rfl ?_
  refine z_iload_n (x := x1) (pc := 1) dX10_sponsorAt_1 rfl rfl ?_
  refine z_iconst (v := 2) (pc := 2) dX10_sponsorAt_2 (by decide) ?_
  refine z_cVP (As := [.int x1, .int 2]) (rest := []) hG.1 (m_X10_ofSeller hG h a x1 2) (fun _ e => z_gdb e) oX10_ofSeller (pc := 3) dX10_sponsorAt_3 rfl w_1263 rfl rfl rfl (fun t1 => ?_)
  refine z_istore_n (i := 3) (la' := [some (.ref a), some (.int x1), some (.int x2), some (.int t1), none, none, none, none]) (pc := 6) dX10_sponsorAt_6 rfl (by decide) rfl rfl ?_
  refine z_iconst (v := (-1)) (pc := 7) dX10_sponsorAt_7 (by decide) ?_
  refine z_istore (i := 4) (la' := [some (.ref a), some (.int x1), some (.int x2), some (.int t1), some (.int (-1)), none, none, none]) (pc := 8) dX10_sponsorAt_8 (by decide) rfl rfl ?_
  refine z_iload_n (x := x1) (pc := 10) dX10_sponsorAt_10 rfl rfl ?_
  refine z_aload_n (x := a) (pc := 11) dX10_sponsorAt_11 rfl rfl ?_
  refine z_getI cX10 (pc := 12) dX10_sponsorAt_12 (j := 14) (by decide) rfl w_1101 (fun t2 => ?_)
  refine z_jn 23 (fun (y3 : Int32) => [some (.ref a), some (.int x1), some (.int x2), some (.int t1), some (.int (-1)), none, none, none]) (fun (y3 : Int32) => [.int y3]) (fun (y3 : Int32) => h) ?_ ?_
  · rintro y3
    try dsimp only
    refine z_istore (i := 5) (la' := [some (.ref a), some (.int x1), some (.int x2), some (.int t1), some (.int (-1)), some (.int y3), none, none]) (pc := 23) dX10_sponsorAt_23 (by decide) rfl rfl ?_
    refine z_iconst (v := 0) (pc := 25) dX10_sponsorAt_25 (by decide) ?_
    refine z_istore (i := 6) (la' := [some (.ref a), some (.int x1), some (.int x2), some (.int t1), some (.int (-1)), some (.int y3), some (.int 0), none]) (pc := 26) dX10_sponsorAt_26 (by decide) rfl rfl ?_
    refine z_lp (T := Int32 × Int32) (s0 := (t1, (-1), 0)) 28 (fun ((v5, v6, v7) : Int32 × Int32 × Int32) => [some (.ref a), some (.int x1), some (.int x2), some (.int v5), some (.int v6), some (.int y3), some (.int v7), none]) (fun ((v5, v6, v7) : Int32 × Int32 × Int32) => h) (fun _ => 98) (fun ((v8, v9) : Int32 × Int32) => [some (.ref a), none, some (.int x2), some (.int v8), some (.int v9), some (.int y3), none, none]) (fun ((v8, v9) : Int32 × Int32) => h) ?_ ?_
    · rintro ⟨v8, v9⟩
      try dsimp only
      refine z_iload (x := y3) (pc := 98) dX10_sponsorAt_98 rfl ?_
      refine z_if_eq (tgt := 127) (pc := 100) dX10_sponsorAt_100 (by decide) (fun _ => ?_) (fun _ => ?_)
      · refine z_iload_n (x := v8) (pc := 127) dX10_sponsorAt_127 rfl rfl ?_
        exact z_ireturn (pc := 128) dX10_sponsorAt_128 rfl rfl rfl
      refine z_aload_n (x := a) (pc := 103) dX10_sponsorAt_103 rfl rfl ?_
      refine z_getI cX10 (pc := 104) dX10_sponsorAt_104 (j := 16) (by decide) rfl w_1103 (fun t19 => ?_)
      refine z_iload_n (x := x2) (pc := 107) dX10_sponsorAt_107 rfl rfl ?_
      refine z_ic_gt (tgt := 127) (pc := 108) dX10_sponsorAt_108 (by decide) (fun _ => ?_) (fun _ => ?_)
      · refine z_iload_n (x := v8) (pc := 127) dX10_sponsorAt_127 rfl rfl ?_
        exact z_ireturn (pc := 128) dX10_sponsorAt_128 rfl rfl rfl
      refine z_aload_n (x := a) (pc := 111) dX10_sponsorAt_111 rfl rfl ?_
      refine z_getI cX10 (pc := 112) dX10_sponsorAt_112 (j := 16) (by decide) rfl w_1103 (fun t20 => ?_)
      refine z_iload (x := v9) (pc := 115) dX10_sponsorAt_115 rfl ?_
      refine z_ic_le (tgt := 127) (pc := 117) dX10_sponsorAt_117 (by decide) (fun _ => ?_) (fun _ => ?_)
      · refine z_iload_n (x := v8) (pc := 127) dX10_sponsorAt_127 rfl rfl ?_
        exact z_ireturn (pc := 128) dX10_sponsorAt_128 rfl rfl rfl
      refine z_aload_n (x := a) (pc := 120) dX10_sponsorAt_120 rfl rfl ?_
      refine z_getI cX10 (pc := 121) dX10_sponsorAt_121 (j := 15) (by decide) rfl w_1102 (fun t21 => ?_)
      refine z_goto (tgt := 128) (pc := 124) dX10_sponsorAt_124 (by decide) ?_
      exact z_ireturn (pc := 128) dX10_sponsorAt_128 rfl rfl rfl
    intro k' hx1 rec10 hrec10
    rintro ⟨v5, v6, v7⟩
    unfold f_X10_sponsorAt_l1
    try dsimp only
    refine z_iload (x := v7) (pc := 28) dX10_sponsorAt_28 rfl ?_
    refine z_aload_n (x := a) (pc := 30) dX10_sponsorAt_30 rfl rfl ?_
    refine z_iload_n (x := x1) (pc := 31) dX10_sponsorAt_31 rfl rfl ?_
    refine z_iconst (v := 4) (pc := 32) dX10_sponsorAt_32 (by decide) ?_
    refine z_cVP (As := [.int x1, .int 4]) (rest := [.int v7]) hG.1 (m_X10_ofSeller hG h a x1 4) (fun _ e => z_gdb e) oX10_ofSeller (pc := 33) dX10_sponsorAt_33 rfl w_1263 rfl rfl rfl (fun t11 => ?_)
    refine z_ic_ge (tgt := 98) (pc := 36) dX10_sponsorAt_36 (by decide) (fun _ => ?_) (fun _ => ?_)
    · exact z_wk (hx1 (v5, v6)) (And.intro rfl (And.intro rfl (And.intro rfl (And.intro rfl (And.intro rfl trivial)))))
    refine z_aload_n (x := a) (pc := 39) dX10_sponsorAt_39 rfl rfl ?_
    refine z_iload_n (x := x1) (pc := 40) dX10_sponsorAt_40 rfl rfl ?_
    refine z_iconst (v := 5) (pc := 41) dX10_sponsorAt_41 (by decide) ?_
    refine z_iload (x := v7) (pc := 42) dX10_sponsorAt_42 rfl ?_
    refine z_iadd (pc := 44) dX10_sponsorAt_44 ?_
    refine z_cVP (As := [.int x1, .int ((5 : Int32) + v7)]) (rest := []) hG.1 (m_X10_ofSeller hG h a x1 ((5 : Int32) + v7)) (fun _ e => z_gdb e) oX10_ofSeller (pc := 45) dX10_sponsorAt_45 rfl w_1263 rfl rfl rfl (fun t12 => ?_)
    refine z_istore (i := 7) (la' := [some (.ref a), some (.int x1), some (.int x2), some (.int v5), some (.int v6), some (.int y3), some (.int v7), some (.int t12)]) (pc := 48) dX10_sponsorAt_48 (by decide) rfl rfl ?_
    refine z_iload (x := t12) (pc := 50) dX10_sponsorAt_50 rfl ?_
    refine z_iload_n (x := x2) (pc := 52) dX10_sponsorAt_52 rfl rfl ?_
    refine z_jn 92 (fun ((v13, v14) : Int32 × Int32) => [some (.ref a), some (.int x1), some (.int x2), some (.int v13), some (.int v14), some (.int y3), some (.int v7), none]) (fun ((v13, v14) : Int32 × Int32) => []) (fun ((v13, v14) : Int32 × Int32) => h) ?_ ?_
    · rintro ⟨v13, v14⟩
      try dsimp only
      refine z_iinc (i := 6) (x := v7) (v := (v7 + 1)) (la' := [some (.ref a), some (.int x1), some (.int x2), some (.int v13), some (.int v14), some (.int y3), some (.int (v7 + 1)), none]) (pc := 92) dX10_sponsorAt_92 rfl rfl (by decide) rfl rfl ?_
      refine z_goto (tgt := 28) (pc := 95) dX10_sponsorAt_95 (by decide) ?_
      exact hrec10 (v13, v14, (v7 + 1))
    intro j15 hj15
    refine z_ic_gt (tgt := 92) (pc := 53) dX10_sponsorAt_53 (by decide) (fun _ => ?_) (fun _ => ?_)
    · exact z_wk (hj15 (v5, v6)) (And.intro rfl (And.intro rfl (And.intro rfl (And.intro rfl (And.intro rfl (And.intro rfl (And.intro rfl trivial)))))))
    refine z_iload (x := t12) (pc := 56) dX10_sponsorAt_56 rfl ?_
    refine z_iload (x := v6) (pc := 58) dX10_sponsorAt_58 rfl ?_
    refine z_ic_le (tgt := 92) (pc := 60) dX10_sponsorAt_60 (by decide) (fun _ => ?_) (fun _ => ?_)
    · exact z_wk (hj15 (v5, v6)) (And.intro rfl (And.intro rfl (And.intro rfl (And.intro rfl (And.intro rfl (And.intro rfl (And.intro rfl trivial)))))))
    refine z_iload (x := y3) (pc := 63) dX10_sponsorAt_63 rfl ?_
    refine z_jn 77 (fun (_ : Unit) => [some (.ref a), some (.int x1), some (.int x2), none, none, some (.int y3), some (.int v7), some (.int t12)]) (fun (_ : Unit) => []) (fun (_ : Unit) => h) ?_ ?_
    · rintro _
      try dsimp only
      refine z_aload_n (x := a) (pc := 77) dX10_sponsorAt_77 rfl rfl ?_
      refine z_iload_n (x := x1) (pc := 78) dX10_sponsorAt_78 rfl rfl ?_
      refine z_bipush (v := 17) (pc := 79) dX10_sponsorAt_79 (by decide) ?_
      refine z_iload (x := v7) (pc := 81) dX10_sponsorAt_81 rfl ?_
      refine z_iadd (pc := 83) dX10_sponsorAt_83 ?_
      refine z_cVP (As := [.int x1, .int ((17 : Int32) + v7)]) (rest := []) hG.1 (m_X10_ofSeller hG h a x1 ((17 : Int32) + v7)) (fun _ e => z_gdb e) oX10_ofSeller (pc := 84) dX10_sponsorAt_84 rfl w_1263 rfl rfl rfl (fun t17 => ?_)
      refine z_istore_n (i := 3) (la' := [some (.ref a), some (.int x1), some (.int x2), some (.int t17), none, some (.int y3), some (.int v7), some (.int t12)]) (pc := 87) dX10_sponsorAt_87 rfl (by decide) rfl rfl ?_
      refine z_iload (x := t12) (pc := 88) dX10_sponsorAt_88 rfl ?_
      refine z_istore (i := 4) (la' := [some (.ref a), some (.int x1), some (.int x2), some (.int t17), some (.int t12), some (.int y3), some (.int v7), some (.int t12)]) (pc := 90) dX10_sponsorAt_90 (by decide) rfl rfl ?_
      exact z_wk (hj15 (t17, t12)) (And.intro rfl (And.intro rfl (And.intro rfl (And.intro rfl (And.intro rfl (And.intro rfl (And.intro rfl trivial)))))))
    intro j16 hj16
    refine z_if_eq (tgt := 77) (pc := 65) dX10_sponsorAt_65 (by decide) (fun _ => ?_) (fun _ => ?_)
    · exact z_wk (hj16 ()) (And.intro rfl (And.intro rfl (And.intro rfl (And.intro rfl (And.intro rfl (And.intro rfl trivial))))))
    refine z_iload (x := t12) (pc := 68) dX10_sponsorAt_68 rfl ?_
    refine z_aload_n (x := a) (pc := 70) dX10_sponsorAt_70 rfl rfl ?_
    refine z_getI cX10 (pc := 71) dX10_sponsorAt_71 (j := 16) (by decide) rfl w_1103 (fun t18 => ?_)
    refine z_ic_eq (tgt := 92) (pc := 74) dX10_sponsorAt_74 (by decide) (fun _ => ?_) (fun _ => ?_)
    · exact z_wk (hj15 (v5, v6)) (And.intro rfl (And.intro rfl (And.intro rfl (And.intro rfl (And.intro rfl (And.intro rfl (And.intro rfl trivial)))))))
    exact z_wk (hj16 ()) (And.intro rfl (And.intro rfl (And.intro rfl (And.intro rfl (And.intro rfl (And.intro rfl trivial))))))
  intro j4 hj4
  refine z_ic_ne (tgt := 22) (pc := 15) dX10_sponsorAt_15 (by decide) (fun _ => ?_) (fun _ => ?_)
  · refine z_iconst (v := 0) (pc := 22) dX10_sponsorAt_22 (by decide) ?_
    exact hj4 0
  refine z_iconst (v := 1) (pc := 18) dX10_sponsorAt_18 (by decide) ?_
  refine z_goto (tgt := 23) (pc := 19) dX10_sponsorAt_19 (by decide) ?_
  exact hj4 1
set_option maxHeartbeats 2000000 in
set_option maxRecDepth 20000 in
theorem m_X10_laysMonth {G : Z_G} (hG : z_GG G) (h : Z_H) (a : Nat) (x1 : Int32) : z_Met G iX10_laysMonth [.ref a, .int x1] h ((f_X10_laysMonth h a x1).bind fun h1 => some (0, h1)) := by
  refine z_in (la := [some (.ref a), some (.int x1), none]) (by decide) rfl rfl rfl ?_
  unfold f_X10_laysMonth
  refine z_gg (fun _ => ?_)
  refine z_aload_n (x := a) (pc := 0) dX10_laysMonth_0 rfl rfl ?_
  refine z_iload_n (x := x1) (pc := 1) dX10_laysMonth_1 rfl rfl ?_
  refine z_putI cX10 (pc := 2) dX10_laysMonth_2 (j := 20) (by decide) rfl rfl w_1107 (fun h1 => ?_)
  refine z_aload_n (x := a) (pc := 5) dX10_laysMonth_5 rfl rfl ?_
  refine z_aload_n (x := a) (pc := 6) dX10_laysMonth_6 rfl rfl ?_
  refine z_getR cX10 (pc := 7) dX10_laysMonth_7 (j := 1) (by decide) rfl w_1088 (fun r2 => ?_)
  refine z_sipush (v := 145) (pc := 10) dX10_laysMonth_10 (by decide) ?_
  refine z_aldI (pc := 13) dX10_laysMonth_13 (fun t3 => ?_)
  refine z_putI cX10 (pc := 14) dX10_laysMonth_14 (j := 19) (by decide) rfl rfl w_1106 (fun h4 => ?_)
  refine z_iconst (v := 0) (pc := 17) dX10_laysMonth_17 (by decide) ?_
  refine z_istore_n (i := 2) (la' := [some (.ref a), some (.int x1), some (.int 0)]) (pc := 18) dX10_laysMonth_18 rfl (by decide) rfl rfl ?_
  refine z_lp (T := Z_H) (s0 := (0, h4)) 19 (fun ((v5, h6) : Int32 × Z_H) => [some (.ref a), some (.int x1), some (.int v5)]) (fun ((v5, h6) : Int32 × Z_H) => h6) (fun _ => 66) (fun (h7 : Z_H) => [none, none, none]) (fun (h7 : Z_H) => h7) ?_ ?_
  · rintro h7
    try dsimp only
    exact z_return (pc := 66) dX10_laysMonth_66 rfl rfl
  intro k' hx1 rec8 hrec8
  rintro ⟨v5, h6⟩
  unfold f_X10_laysMonth_l1
  try dsimp only
  refine z_iload_n (x := v5) (pc := 19) dX10_laysMonth_19 rfl rfl ?_
  refine z_aload_n (x := a) (pc := 20) dX10_laysMonth_20 rfl rfl ?_
  refine z_getI cX10 (pc := 21) dX10_laysMonth_21 (j := 19) (by decide) rfl w_1106 (fun t9 => ?_)
  refine z_ic_ge (tgt := 66) (pc := 24) dX10_laysMonth_24 (by decide) (fun _ => ?_) (fun _ => ?_)
  · exact z_wk (hx1 h6) trivial
  refine z_aload_n (x := a) (pc := 27) dX10_laysMonth_27 rfl rfl ?_
  refine z_getR cX10 (pc := 28) dX10_laysMonth_28 (j := 17) (by decide) rfl w_1104 (fun r10 => ?_)
  refine z_iload_n (x := v5) (pc := 31) dX10_laysMonth_31 rfl rfl ?_
  refine z_aload_n (x := a) (pc := 32) dX10_laysMonth_32 rfl rfl ?_
  refine z_iload_n (x := v5) (pc := 33) dX10_laysMonth_33 rfl rfl ?_
  refine z_iload_n (x := x1) (pc := 34) dX10_laysMonth_34 rfl rfl ?_
  refine z_cVP (As := [.int v5, .int x1]) (rest := [.int v5, .ref r10]) hG.1 (m_X10_sponsorAt hG h6 a v5 x1) (fun _ e => z_gdb e) oX10_sponsorAt (pc := 35) dX10_laysMonth_35 rfl w_1275 rfl rfl rfl (fun t11 => ?_)
  refine z_astI (pc := 38) dX10_laysMonth_38 (fun h12 => ?_)
  refine z_aload_n (x := a) (pc := 39) dX10_laysMonth_39 rfl rfl ?_
  refine z_getR cX10 (pc := 40) dX10_laysMonth_40 (j := 18) (by decide) rfl w_1105 (fun r13 => ?_)
  refine z_iload_n (x := v5) (pc := 43) dX10_laysMonth_43 rfl rfl ?_
  refine z_aload_n (x := a) (pc := 44) dX10_laysMonth_44 rfl rfl ?_
  refine z_iload_n (x := v5) (pc := 45) dX10_laysMonth_45 rfl rfl ?_
  refine z_iconst (v := 0) (pc := 46) dX10_laysMonth_46 (by decide) ?_
  refine z_cVP (As := [.int v5, .int 0]) (rest := [.int v5, .ref r13]) hG.1 (m_X10_ofSeller hG h12 a v5 0) (fun _ e => z_gdb e) oX10_ofSeller (pc := 47) dX10_laysMonth_47 rfl w_1263 rfl rfl rfl (fun t14 => ?_)
  refine z_iload_n (x := x1) (pc := 50) dX10_laysMonth_50 rfl rfl ?_
  refine z_jn 59 (fun (y15 : Int32) => [some (.ref a), some (.int x1), some (.int v5)]) (fun (y15 : Int32) => [.int y15, .int v5, .ref r13]) (fun (y15 : Int32) => h12) ?_ ?_
  · rintro y15
    try dsimp only
    refine z_astZ (pc := 59) dX10_laysMonth_59 (fun h17 => ?_)
    refine z_iinc (i := 2) (x := v5) (v := (v5 + 1)) (la' := [some (.ref a), some (.int x1), some (.int (v5 + 1))]) (pc := 60) dX10_laysMonth_60 rfl rfl (by decide) rfl rfl ?_
    refine z_goto (tgt := 19) (pc := 63) dX10_laysMonth_63 (by decide) ?_
    exact hrec8 ((v5 + 1), h17)
  intro j16 hj16
  refine z_ic_gt (tgt := 58) (pc := 51) dX10_laysMonth_51 (by decide) (fun _ => ?_) (fun _ => ?_)
  · refine z_iconst (v := 0) (pc := 58) dX10_laysMonth_58 (by decide) ?_
    exact hj16 0
  refine z_iconst (v := 1) (pc := 54) dX10_laysMonth_54 (by decide) ?_
  refine z_goto (tgt := 59) (pc := 55) dX10_laysMonth_55 (by decide) ?_
  exact hj16 1
set_option maxHeartbeats 2000000 in
set_option maxRecDepth 20000 in
theorem m_X10_stepsUp {G : Z_G} (hG : z_GG G) (h : Z_H) (a : Nat) (x1 : Int32) (x2 : Int32) : z_Met G iX10_stepsUp [.ref a, .int x1, .int x2] h ((f_X10_stepsUp h a x1 x2).bind fun r => some (r, h)) := by
  refine z_in (la := [some (.ref a), some (.int x1), some (.int x2), none, none]) (by decide) rfl rfl rfl ?_
  unfold f_X10_stepsUp
  refine z_gg (fun _ => ?_)
  refine z_iload_n (x := x1) (pc := 0) dX10_stepsUp_0 rfl rfl ?_
  refine z_istore_n (i := 3) (la' := [some (.ref a), some (.int x1), some (.int x2), some (.int x1), none]) (pc := 1) dX10_stepsUp_1 rfl (by decide) rfl rfl ?_
  refine z_iconst (v := 0) (pc := 2) dX10_stepsUp_2 (by decide) ?_
  refine z_istore (i := 4) (la' := [some (.ref a), some (.int x1), some (.int x2), some (.int x1), some (.int 0)]) (pc := 3) dX10_stepsUp_3 (by decide) rfl rfl ?_
  refine z_weak (la' := [some (.ref a), none, some (.int x2), some (.int x1), some (.int 0)]) (And.intro rfl (And.intro rfl (And.intro rfl (And.intro rfl trivial)))) ?_
  refine z_lp (T := Int32 × Int32) (s0 := (x1, 0)) 5 (fun ((v1, v2) : Int32 × Int32) => [some (.ref a), none, some (.int x2), some (.int v1), some (.int v2)]) (fun ((v1, v2) : Int32 × Int32) => h) (fun _ => 37) (fun ((v3, v4) : Int32 × Int32) => [some (.ref a), none, some (.int x2), some (.int v3), some (.int v4)]) (fun ((v3, v4) : Int32 × Int32) => h) ?_ ?_
  · rintro ⟨v3, v4⟩
    try dsimp only
    refine z_iload_n (x := v3) (pc := 37) dX10_stepsUp_37 rfl rfl ?_
    refine z_iload_n (x := x2) (pc := 38) dX10_stepsUp_38 rfl rfl ?_
    refine z_ic_ne (tgt := 56) (pc := 39) dX10_stepsUp_39 (by decide) (fun _ => ?_) (fun _ => ?_)
    · refine z_iconst (v := (-1)) (pc := 56) dX10_stepsUp_56 (by decide) ?_
      exact z_ireturn (pc := 57) dX10_stepsUp_57 rfl rfl rfl
    refine z_iload (x := v4) (pc := 42) dX10_stepsUp_42 rfl ?_
    refine z_aload_n (x := a) (pc := 44) dX10_stepsUp_44 rfl rfl ?_
    refine z_getI cX10 (pc := 45) dX10_stepsUp_45 (j := 19) (by decide) rfl w_1106 (fun t9 => ?_)
    refine z_ic_gt (tgt := 56) (pc := 48) dX10_stepsUp_48 (by decide) (fun _ => ?_) (fun _ => ?_)
    · refine z_iconst (v := (-1)) (pc := 56) dX10_stepsUp_56 (by decide) ?_
      exact z_ireturn (pc := 57) dX10_stepsUp_57 rfl rfl rfl
    refine z_iload (x := v4) (pc := 51) dX10_stepsUp_51 rfl ?_
    refine z_goto (tgt := 57) (pc := 53) dX10_stepsUp_53 (by decide) ?_
    exact z_ireturn (pc := 57) dX10_stepsUp_57 rfl rfl rfl
  intro k' hx1 rec5 hrec5
  rintro ⟨v1, v2⟩
  unfold f_X10_stepsUp_l1
  try dsimp only
  refine z_iload_n (x := v1) (pc := 5) dX10_stepsUp_5 rfl rfl ?_
  refine z_iload_n (x := x2) (pc := 6) dX10_stepsUp_6 rfl rfl ?_
  refine z_ic_eq (tgt := 37) (pc := 7) dX10_stepsUp_7 (by decide) (fun _ => ?_) (fun _ => ?_)
  · exact hx1 (v1, v2)
  refine z_iload_n (x := v1) (pc := 10) dX10_stepsUp_10 rfl rfl ?_
  refine z_iconst (v := (-1)) (pc := 11) dX10_stepsUp_11 (by decide) ?_
  refine z_ic_eq (tgt := 37) (pc := 12) dX10_stepsUp_12 (by decide) (fun _ => ?_) (fun _ => ?_)
  · exact hx1 (v1, v2)
  refine z_iload (x := v2) (pc := 15) dX10_stepsUp_15 rfl ?_
  refine z_aload_n (x := a) (pc := 17) dX10_stepsUp_17 rfl rfl ?_
  refine z_getI cX10 (pc := 18) dX10_stepsUp_18 (j := 19) (by decide) rfl w_1106 (fun t6 => ?_)
  refine z_ic_gt (tgt := 37) (pc := 21) dX10_stepsUp_21 (by decide) (fun _ => ?_) (fun _ => ?_)
  · exact hx1 (v1, v2)
  refine z_aload_n (x := a) (pc := 24) dX10_stepsUp_24 rfl rfl ?_
  refine z_getR cX10 (pc := 25) dX10_stepsUp_25 (j := 17) (by decide) rfl w_1104 (fun r7 => ?_)
  refine z_iload_n (x := v1) (pc := 28) dX10_stepsUp_28 rfl rfl ?_
  refine z_aldI (pc := 29) dX10_stepsUp_29 (fun t8 => ?_)
  refine z_istore_n (i := 3) (la' := [some (.ref a), none, some (.int x2), some (.int t8), some (.int v2)]) (pc := 30) dX10_stepsUp_30 rfl (by decide) rfl rfl ?_
  refine z_iinc (i := 4) (x := v2) (v := (v2 + 1)) (la' := [some (.ref a), none, some (.int x2), some (.int t8), some (.int (v2 + 1))]) (pc := 31) dX10_stepsUp_31 rfl rfl (by decide) rfl rfl ?_
  refine z_goto (tgt := 5) (pc := 34) dX10_stepsUp_34 (by decide) ?_
  exact hrec5 (t8, (v2 + 1))
set_option maxHeartbeats 2000000 in
set_option maxRecDepth 20000 in
theorem m_X10_turnsRound {G : Z_G} (hG : z_GG G) (h : Z_H) (a : Nat) (x1 : Int32) : z_Met G iX10_turnsRound [.ref a, .int x1] h ((f_X10_turnsRound h a x1).bind some) := by
  refine z_in (la := [some (.ref a), some (.int x1), none, none]) (by decide) rfl rfl rfl ?_
  unfold f_X10_turnsRound
  refine z_gg (fun _ => ?_)
  refine z_iload_n (x := x1) (pc := 0) dX10_turnsRound_0 rfl rfl ?_
  refine z_istore_n (i := 2) (la' := [some (.ref a), some (.int x1), some (.int x1), none]) (pc := 1) dX10_turnsRound_1 rfl (by decide) rfl rfl ?_
  refine z_weak (la' := [some (.ref a), none, some (.int x1), none]) (And.intro rfl (And.intro rfl trivial)) ?_
  refine z_lp (T := (Z_H) ⊕ (Z_H)) (s0 := (x1, h)) 2 (fun ((v1, h2) : Int32 × Z_H) => [some (.ref a), none, some (.int v1), none]) (fun ((v1, h2) : Int32 × Z_H) => h2) (fun t => match t with | (.inl h3) => 42 | (.inr h4) => 56) (fun t => match t with | (.inl h3) => [none, none, none, none] | (.inr h4) => [none, none, none, none]) (fun t => match t with | (.inl h3) => h3 | (.inr h4) => h4) ?_ ?_
  · rintro (h3 | h4)
    · try dsimp only
      refine z_iconst (v := 1) (pc := 42) dX10_turnsRound_42 (by decide) ?_
      exact z_ireturn (pc := 43) dX10_turnsRound_43 rfl (by decide) rfl
    · try dsimp only
      refine z_iconst (v := 0) (pc := 56) dX10_turnsRound_56 (by decide) ?_
      exact z_ireturn (pc := 57) dX10_turnsRound_57 rfl (by decide) rfl
  intro k' hx1 rec5 hrec5
  rintro ⟨v1, h2⟩
  unfold f_X10_turnsRound_l1
  try dsimp only
  refine z_iload_n (x := v1) (pc := 2) dX10_turnsRound_2 rfl rfl ?_
  refine z_bipush (v := 99) (pc := 3) dX10_turnsRound_3 (by decide) ?_
  refine z_aload_n (x := a) (pc := 5) dX10_turnsRound_5 rfl rfl ?_
  refine z_cVP (As := []) (rest := [.int 99, .int v1]) hG.1 (m_X10_now hG h2 a) (fun _ e => z_gdb e) oX10_now (pc := 6) dX10_turnsRound_6 rfl w_1247 rfl rfl rfl (fun t6 => ?_)
  refine z_bipush (v := 6) (pc := 9) dX10_turnsRound_9 (by decide) ?_
  refine z_iadd (pc := 11) dX10_turnsRound_11 ?_
  refine z_cSP (As := [.int 99, .int (t6 + 6)]) (rest := [.int v1]) hG.1 (m_X10_lesser hG h2 99 (t6 + 6)) oX10_lesser (pc := 12) dX10_turnsRound_12 rfl w_1230 rfl rfl rfl (fun t7 => ?_)
  refine z_ic_gt (tgt := 56) (pc := 15) dX10_turnsRound_15 (by decide) (fun _ => ?_) (fun _ => ?_)
  · exact z_wk (hx1 (.inr h2)) trivial
  refine z_aload_n (x := a) (pc := 18) dX10_turnsRound_18 rfl rfl ?_
  refine z_iload_n (x := v1) (pc := 19) dX10_turnsRound_19 rfl rfl ?_
  refine z_cVV (As := [.int v1]) (rest := []) hG.1 (m_X10_laysMonth hG h2 a v1) (fun _ e => z_gdb e) oX10_laysMonth (pc := 20) dX10_turnsRound_20 rfl w_1283 rfl rfl rfl (fun h8 => ?_)
  refine z_iconst (v := 0) (pc := 23) dX10_turnsRound_23 (by decide) ?_
  refine z_istore_n (i := 3) (la' := [some (.ref a), none, some (.int v1), some (.int 0)]) (pc := 24) dX10_turnsRound_24 rfl (by decide) rfl rfl ?_
  refine z_lp (T := (Unit) ⊕ (Unit)) (s0 := 0) 25 (fun (v9 : Int32) => [some (.ref a), none, some (.int v1), some (.int v9)]) (fun (v9 : Int32) => h8) (fun t => match t with | (.inl _) => 42 | (.inr _) => 50) (fun t => match t with | (.inl _) => [none, none, none, none] | (.inr _) => [some (.ref a), none, some (.int v1), none]) (fun t => match t with | (.inl _) => h8 | (.inr _) => h8) ?_ ?_
  · rintro (_ | _)
    · try dsimp only
      exact hx1 (.inl h8)
    · try dsimp only
      refine z_iinc (i := 2) (x := v1) (v := (v1 + 1)) (la' := [some (.ref a), none, some (.int (v1 + 1)), none]) (pc := 50) dX10_turnsRound_50 rfl rfl (by decide) rfl rfl ?_
      refine z_goto (tgt := 2) (pc := 53) dX10_turnsRound_53 (by decide) ?_
      exact hrec5 ((v1 + 1), h8)
  intro k' hx2 rec10 hrec10
  rintro v9
  unfold f_X10_turnsRound_l2
  try dsimp only [lt]
  refine z_iload_n (x := v9) (pc := 25) dX10_turnsRound_25 rfl rfl ?_
  refine z_aload_n (x := a) (pc := 26) dX10_turnsRound_26 rfl rfl ?_
  refine z_getI cX10 (pc := 27) dX10_turnsRound_27 (j := 19) (by decide) rfl w_1106 (fun t11 => ?_)
  refine z_ic_ge (tgt := 50) (pc := 30) dX10_turnsRound_30 (by decide) (fun _ => ?_) (fun _ => ?_)
  · exact z_wk (hx2 (.inr ())) (And.intro rfl (And.intro rfl trivial))
  refine z_aload_n (x := a) (pc := 33) dX10_turnsRound_33 rfl rfl ?_
  refine z_iload_n (x := v9) (pc := 34) dX10_turnsRound_34 rfl rfl ?_
  refine z_iconst (v := (-1)) (pc := 35) dX10_turnsRound_35 (by decide) ?_
  refine z_cVP (As := [.int v9, .int (-1)]) (rest := []) hG.1 (m_X10_stepsUp hG h8 a v9 (-1)) (fun _ e => z_gdb e) oX10_stepsUp (pc := 36) dX10_turnsRound_36 rfl w_1287 rfl rfl rfl (fun t12 => ?_)
  refine z_if_ge (tgt := 44) (pc := 39) dX10_turnsRound_39 (by decide) (fun _ => ?_) (fun _ => ?_)
  · refine z_iinc (i := 3) (x := v9) (v := (v9 + 1)) (la' := [some (.ref a), none, some (.int v1), some (.int (v9 + 1))]) (pc := 44) dX10_turnsRound_44 rfl rfl (by decide) rfl rfl ?_
    refine z_goto (tgt := 25) (pc := 47) dX10_turnsRound_47 (by decide) ?_
    exact hrec10 (v9 + 1)
  exact z_wk (hx2 (.inl ())) trivial
set_option maxHeartbeats 2000000 in
set_option maxRecDepth 20000 in
theorem m_X10_moveAt {G : Z_G} (hG : z_GG G) (h : Z_H) (a : Nat) (x1 : Int32) (x2 : Int32) : z_Met G iX10_moveAt [.ref a, .int x1, .int x2] h ((f_X10_moveAt h a x1 x2).bind fun r => some (r, h)) := by
  refine z_in (la := [some (.ref a), some (.int x1), some (.int x2), none]) (by decide) rfl rfl rfl ?_
  unfold f_X10_moveAt
  refine z_gg (fun _ => ?_)
  refine z_iconst (v := 0) (pc := 0) dX10_moveAt_0 (by decide) ?_
  refine z_istore_n (i := 3) (la' := [some (.ref a), some (.int x1), some (.int x2), some (.int 0)]) (pc := 1) dX10_moveAt_1 rfl (by decide) rfl rfl ?_
  refine z_lp (T := (Int32) ⊕ (Unit)) (s0 := 0) 2 (fun (v1 : Int32) => [some (.ref a), some (.int x1), some (.int x2), some (.int v1)]) (fun (v1 : Int32) => h) (fun t => match t with | (.inl v2) => 24 | (.inr _) => 32) (fun t => match t with | (.inl v2) => [none, none, none, some (.int v2)] | (.inr _) => [none, none, none, none]) (fun t => match t with | (.inl v2) => h | (.inr _) => h) ?_ ?_
  · rintro (v2 | _)
    · try dsimp only
      refine z_iload_n (x := v2) (pc := 24) dX10_moveAt_24 rfl rfl ?_
      exact z_ireturn (pc := 25) dX10_moveAt_25 rfl rfl rfl
    · try dsimp only
      refine z_iconst (v := (-1)) (pc := 32) dX10_moveAt_32 (by decide) ?_
      exact z_ireturn (pc := 33) dX10_moveAt_33 rfl rfl rfl
  intro k' hx1 rec3 hrec3
  rintro v1
  unfold f_X10_moveAt_l1
  try dsimp only [lt]
  refine z_iload_n (x := v1) (pc := 2) dX10_moveAt_2 rfl rfl ?_
  refine z_aload_n (x := a) (pc := 3) dX10_moveAt_3 rfl rfl ?_
  refine z_iload_n (x := x1) (pc := 4) dX10_moveAt_4 rfl rfl ?_
  refine z_iconst (v := 4) (pc := 5) dX10_moveAt_5 (by decide) ?_
  refine z_cVP (As := [.int x1, .int 4]) (rest := [.int v1]) hG.1 (m_X10_ofSeller hG h a x1 4) (fun _ e => z_gdb e) oX10_ofSeller (pc := 6) dX10_moveAt_6 rfl w_1263 rfl rfl rfl (fun t4 => ?_)
  refine z_ic_ge (tgt := 32) (pc := 9) dX10_moveAt_9 (by decide) (fun _ => ?_) (fun _ => ?_)
  · exact z_wk (hx1 (.inr ())) trivial
  refine z_aload_n (x := a) (pc := 12) dX10_moveAt_12 rfl rfl ?_
  refine z_iload_n (x := x1) (pc := 13) dX10_moveAt_13 rfl rfl ?_
  refine z_iconst (v := 5) (pc := 14) dX10_moveAt_14 (by decide) ?_
  refine z_iload_n (x := v1) (pc := 15) dX10_moveAt_15 rfl rfl ?_
  refine z_iadd (pc := 16) dX10_moveAt_16 ?_
  refine z_cVP (As := [.int x1, .int ((5 : Int32) + v1)]) (rest := []) hG.1 (m_X10_ofSeller hG h a x1 ((5 : Int32) + v1)) (fun _ e => z_gdb e) oX10_ofSeller (pc := 17) dX10_moveAt_17 rfl w_1263 rfl rfl rfl (fun t5 => ?_)
  refine z_iload_n (x := x2) (pc := 20) dX10_moveAt_20 rfl rfl ?_
  refine z_ic_ne (tgt := 26) (pc := 21) dX10_moveAt_21 (by decide) (fun _ => ?_) (fun _ => ?_)
  · refine z_iinc (i := 3) (x := v1) (v := (v1 + 1)) (la' := [some (.ref a), some (.int x1), some (.int x2), some (.int (v1 + 1))]) (pc := 26) dX10_moveAt_26 rfl rfl (by decide) rfl rfl ?_
    refine z_goto (tgt := 2) (pc := 29) dX10_moveAt_29 (by decide) ?_
    exact hrec3 (v1 + 1)
  exact z_wk (hx1 (.inl v1)) (And.intro rfl trivial)
set_option maxHeartbeats 2000000 in
set_option maxRecDepth 20000 in
theorem m_X10_reason {G : Z_G} (hG : z_GG G) (h : Z_H) (a : Nat) (x1 : Int32) (x2 : Int32) (x3 : Int32) : z_Met G iX10_reason [.ref a, .int x1, .int x2, .int x3] h ((f_X10_reason h a x1 x2 x3).bind some) := by
  refine z_in (la := [some (.ref a), some (.int x1), some (.int x2), some (.int x3), none]) (by decide) rfl rfl rfl ?_
  unfold f_X10_reason
  refine z_gg (fun _ => ?_)
  refine z_aload_n (x := a) (pc := 0) dX10_reason_0 rfl rfl ?_
  refine z_iload_n (x := x1) (pc := 1) dX10_reason_1 rfl rfl ?_
  refine z_cVP (As := [.int x1]) (rest := []) hG.1 (m_X10_isSeller hG h a x1) (fun _ e => z_gdb e) oX10_isSeller (pc := 2) dX10_reason_2 rfl w_1255 rfl rfl rfl (fun t1 => ?_)
  refine z_if_eq (tgt := 20) (pc := 5) dX10_reason_5 (by decide) (fun _ => ?_) (fun _ => ?_)
  · refine z_iconst (v := 1) (pc := 20) dX10_reason_20 (by decide) ?_
    exact z_ireturn (pc := 21) dX10_reason_21 rfl rfl rfl
  refine z_aload_n (x := a) (pc := 8) dX10_reason_8 rfl rfl ?_
  refine z_iload_n (x := x2) (pc := 9) dX10_reason_9 rfl rfl ?_
  refine z_cVP (As := [.int x2]) (rest := []) hG.1 (m_X10_isSeller hG h a x2) (fun _ e => z_gdb e) oX10_isSeller (pc := 10) dX10_reason_10 rfl w_1255 rfl rfl rfl (fun t2 => ?_)
  refine z_if_eq (tgt := 20) (pc := 13) dX10_reason_13 (by decide) (fun _ => ?_) (fun _ => ?_)
  · refine z_iconst (v := 1) (pc := 20) dX10_reason_20 (by decide) ?_
    exact z_ireturn (pc := 21) dX10_reason_21 rfl rfl rfl
  refine z_iload_n (x := x1) (pc := 16) dX10_reason_16 rfl rfl ?_
  refine z_if_ne (tgt := 22) (pc := 17) dX10_reason_17 (by decide) (fun _ => ?_) (fun _ => ?_)
  · refine z_iload_n (x := x3) (pc := 22) dX10_reason_22 rfl rfl ?_
    refine z_aload_n (x := a) (pc := 23) dX10_reason_23 rfl rfl ?_
    refine z_cVP (As := []) (rest := [.int x3]) hG.1 (m_X10_now hG h a) (fun _ e => z_gdb e) oX10_now (pc := 24) dX10_reason_24 rfl w_1247 rfl rfl rfl (fun t3 => ?_)
    refine z_ic_lt (tgt := 46) (pc := 27) dX10_reason_27 (by decide) (fun _ => ?_) (fun _ => ?_)
    · refine z_iconst (v := 2) (pc := 46) dX10_reason_46 (by decide) ?_
      exact z_ireturn (pc := 47) dX10_reason_47 rfl rfl rfl
    refine z_iload_n (x := x3) (pc := 30) dX10_reason_30 rfl rfl ?_
    refine z_bipush (v := 99) (pc := 31) dX10_reason_31 (by decide) ?_
    refine z_aload_n (x := a) (pc := 33) dX10_reason_33 rfl rfl ?_
    refine z_cVP (As := []) (rest := [.int 99, .int x3]) hG.1 (m_X10_now hG h a) (fun _ e => z_gdb e) oX10_now (pc := 34) dX10_reason_34 rfl w_1247 rfl rfl rfl (fun t4 => ?_)
    refine z_bipush (v := 6) (pc := 37) dX10_reason_37 (by decide) ?_
    refine z_iadd (pc := 39) dX10_reason_39 ?_
    refine z_cSP (As := [.int 99, .int (t4 + 6)]) (rest := [.int x3]) hG.1 (m_X10_lesser hG h 99 (t4 + 6)) oX10_lesser (pc := 40) dX10_reason_40 rfl w_1230 rfl rfl rfl (fun t5 => ?_)
    refine z_ic_le (tgt := 48) (pc := 43) dX10_reason_43 (by decide) (fun _ => ?_) (fun _ => ?_)
    · refine z_aload_n (x := a) (pc := 48) dX10_reason_48 rfl rfl ?_
      refine z_iload_n (x := x1) (pc := 49) dX10_reason_49 rfl rfl ?_
      refine z_cVP (As := [.int x1]) (rest := []) hG.1 (m_X10_hasQuit hG h a x1) (fun _ e => z_gdb e) oX10_hasQuit (pc := 50) dX10_reason_50 rfl w_1259 rfl rfl rfl (fun t6 => ?_)
      refine z_if_ne (tgt := 64) (pc := 53) dX10_reason_53 (by decide) (fun _ => ?_) (fun _ => ?_)
      · refine z_iconst (v := 3) (pc := 64) dX10_reason_64 (by decide) ?_
        exact z_ireturn (pc := 65) dX10_reason_65 rfl rfl rfl
      refine z_aload_n (x := a) (pc := 56) dX10_reason_56 rfl rfl ?_
      refine z_iload_n (x := x2) (pc := 57) dX10_reason_57 rfl rfl ?_
      refine z_cVP (As := [.int x2]) (rest := []) hG.1 (m_X10_hasQuit hG h a x2) (fun _ e => z_gdb e) oX10_hasQuit (pc := 58) dX10_reason_58 rfl w_1259 rfl rfl rfl (fun t7 => ?_)
      refine z_if_eq (tgt := 66) (pc := 61) dX10_reason_61 (by decide) (fun _ => ?_) (fun _ => ?_)
      · refine z_aload_n (x := a) (pc := 66) dX10_reason_66 rfl rfl ?_
        refine z_iload_n (x := x1) (pc := 67) dX10_reason_67 rfl rfl ?_
        refine z_iload_n (x := x3) (pc := 68) dX10_reason_68 rfl rfl ?_
        refine z_cVP (As := [.int x1, .int x3]) (rest := []) hG.1 (m_X10_sponsorAt hG h a x1 x3) (fun _ e => z_gdb e) oX10_sponsorAt (pc := 69) dX10_reason_69 rfl w_1275 rfl rfl rfl (fun t8 => ?_)
        refine z_iload_n (x := x2) (pc := 72) dX10_reason_72 rfl rfl ?_
        refine z_ic_ne (tgt := 78) (pc := 73) dX10_reason_73 (by decide) (fun _ => ?_) (fun _ => ?_)
        · refine z_aload_n (x := a) (pc := 78) dX10_reason_78 rfl rfl ?_
          refine z_iload_n (x := x1) (pc := 79) dX10_reason_79 rfl rfl ?_
          refine z_putI cX10 (pc := 80) dX10_reason_80 (j := 14) (by decide) rfl rfl w_1101 (fun h9 => ?_)
          refine z_aload_n (x := a) (pc := 83) dX10_reason_83 rfl rfl ?_
          refine z_iload_n (x := x2) (pc := 84) dX10_reason_84 rfl rfl ?_
          refine z_putI cX10 (pc := 85) dX10_reason_85 (j := 15) (by decide) rfl rfl w_1102 (fun h10 => ?_)
          refine z_aload_n (x := a) (pc := 88) dX10_reason_88 rfl rfl ?_
          refine z_iload_n (x := x3) (pc := 89) dX10_reason_89 rfl rfl ?_
          refine z_putI cX10 (pc := 90) dX10_reason_90 (j := 16) (by decide) rfl rfl w_1103 (fun h11 => ?_)
          refine z_aload_n (x := a) (pc := 93) dX10_reason_93 rfl rfl ?_
          refine z_iload_n (x := x3) (pc := 94) dX10_reason_94 rfl rfl ?_
          refine z_dVI (As := [.int x3]) (rest := []) hG.1 (m_X10_turnsRound hG h11 a x3) (fun _ e => z_gdb e) oX10_turnsRound (pc := 95) dX10_reason_95 rfl w_1279 rfl rfl rfl (fun t12 h13 => ?_)
          refine z_istore (i := 4) (la' := [some (.ref a), some (.int x1), some (.int x2), some (.int x3), some (.int t12)]) (pc := 98) dX10_reason_98 (by decide) rfl rfl ?_
          refine z_aload_n (x := a) (pc := 100) dX10_reason_100 rfl rfl ?_
          refine z_iconst (v := (-1)) (pc := 101) dX10_reason_101 (by decide) ?_
          refine z_putI cX10 (pc := 102) dX10_reason_102 (j := 14) (by decide) rfl rfl w_1101 (fun h14 => ?_)
          refine z_iload (x := t12) (pc := 105) dX10_reason_105 rfl ?_
          refine z_if_eq (tgt := 114) (pc := 107) dX10_reason_107 (by decide) (fun _ => ?_) (fun _ => ?_)
          · refine z_aload_n (x := a) (pc := 114) dX10_reason_114 rfl rfl ?_
            refine z_iload_n (x := x1) (pc := 115) dX10_reason_115 rfl rfl ?_
            refine z_iconst (v := 4) (pc := 116) dX10_reason_116 (by decide) ?_
            refine z_cVP (As := [.int x1, .int 4]) (rest := []) hG.1 (m_X10_ofSeller hG h14 a x1 4) (fun _ e => z_gdb e) oX10_ofSeller (pc := 117) dX10_reason_117 rfl w_1263 rfl rfl rfl (fun t15 => ?_)
            refine z_bipush (v := 12) (pc := 120) dX10_reason_120 (by decide) ?_
            refine z_ic_ne (tgt := 140) (pc := 122) dX10_reason_122 (by decide) (fun _ => ?_) (fun _ => ?_)
            · refine z_iconst (v := 0) (pc := 140) dX10_reason_140 (by decide) ?_
              exact z_ireturn (pc := 141) dX10_reason_141 rfl rfl rfl
            refine z_aload_n (x := a) (pc := 125) dX10_reason_125 rfl rfl ?_
            refine z_iload_n (x := x1) (pc := 126) dX10_reason_126 rfl rfl ?_
            refine z_iload_n (x := x3) (pc := 127) dX10_reason_127 rfl rfl ?_
            refine z_cVP (As := [.int x1, .int x3]) (rest := []) hG.1 (m_X10_moveAt hG h14 a x1 x3) (fun _ e => z_gdb e) oX10_moveAt (pc := 128) dX10_reason_128 rfl w_1291 rfl rfl rfl (fun t16 => ?_)
            refine z_iconst (v := (-1)) (pc := 131) dX10_reason_131 (by decide) ?_
            refine z_ic_ne (tgt := 140) (pc := 132) dX10_reason_132 (by decide) (fun _ => ?_) (fun _ => ?_)
            · refine z_iconst (v := 0) (pc := 140) dX10_reason_140 (by decide) ?_
              exact z_ireturn (pc := 141) dX10_reason_141 rfl rfl rfl
            refine z_bipush (v := 6) (pc := 135) dX10_reason_135 (by decide) ?_
            refine z_goto (tgt := 141) (pc := 137) dX10_reason_137 (by decide) ?_
            exact z_ireturn (pc := 141) dX10_reason_141 rfl rfl rfl
          refine z_iconst (v := 5) (pc := 110) dX10_reason_110 (by decide) ?_
          refine z_goto (tgt := 141) (pc := 111) dX10_reason_111 (by decide) ?_
          exact z_ireturn (pc := 141) dX10_reason_141 rfl rfl rfl
        refine z_iconst (v := 4) (pc := 76) dX10_reason_76 (by decide) ?_
        exact z_ireturn (pc := 77) dX10_reason_77 rfl rfl rfl
      refine z_iconst (v := 3) (pc := 64) dX10_reason_64 (by decide) ?_
      exact z_ireturn (pc := 65) dX10_reason_65 rfl rfl rfl
    refine z_iconst (v := 2) (pc := 46) dX10_reason_46 (by decide) ?_
    exact z_ireturn (pc := 47) dX10_reason_47 rfl rfl rfl
  refine z_iconst (v := 1) (pc := 20) dX10_reason_20 (by decide) ?_
  exact z_ireturn (pc := 21) dX10_reason_21 rfl rfl rfl
set_option maxHeartbeats 2000000 in
set_option maxRecDepth 20000 in
theorem m_X10_setSeller {G : Z_G} (hG : z_GG G) (h : Z_H) (a : Nat) (x1 : Int32) (x2 : Int32) (x3 : Int32) : z_Met G iX10_setSeller [.ref a, .int x1, .int x2, .int x3] h ((f_X10_setSeller h a x1 x2 x3).bind fun h1 => some (0, h1)) := by
  refine z_in (la := [some (.ref a), some (.int x1), some (.int x2), some (.int x3)]) (by decide) rfl rfl rfl ?_
  unfold f_X10_setSeller
  refine z_gg (fun _ => ?_)
  refine z_aload_n (x := a) (pc := 0) dX10_setSeller_0 rfl rfl ?_
  refine z_getR cX10 (pc := 1) dX10_setSeller_1 (j := 1) (by decide) rfl w_1088 (fun r1 => ?_)
  refine z_sipush (v := 147) (pc := 4) dX10_setSeller_4 (by decide) ?_
  refine z_bipush (v := 94) (pc := 7) dX10_setSeller_7 (by decide) ?_
  refine z_iload_n (x := x1) (pc := 9) dX10_setSeller_9 rfl rfl ?_
  refine z_imul (pc := 10) dX10_setSeller_10 ?_
  refine z_iadd (pc := 11) dX10_setSeller_11 ?_
  refine z_iload_n (x := x2) (pc := 12) dX10_setSeller_12 rfl rfl ?_
  refine z_iadd (pc := 13) dX10_setSeller_13 ?_
  refine z_iload_n (x := x3) (pc := 14) dX10_setSeller_14 rfl rfl ?_
  refine z_astI (pc := 15) dX10_setSeller_15 (fun h2 => ?_)
  exact z_return (pc := 16) dX10_setSeller_16 rfl rfl
set_option maxHeartbeats 2000000 in
set_option maxRecDepth 20000 in
theorem m_X10_move {G : Z_G} (hG : z_GG G) (h : Z_H) (a : Nat) (x1 : Int32) (x2 : Int32) (x3 : Int32) : z_Met G iX10_move [.ref a, .int x1, .int x2, .int x3] h ((f_X10_move h a x1 x2 x3).bind some) := by
  refine z_in (la := [some (.ref a), some (.int x1), some (.int x2), some (.int x3), none, none]) (by decide) rfl rfl rfl ?_
  unfold f_X10_move
  refine z_gg (fun _ => ?_)
  refine z_aload_n (x := a) (pc := 0) dX10_move_0 rfl rfl ?_
  refine z_iconst (v := 0) (pc := 1) dX10_move_1 (by decide) ?_
  refine z_putI cX10 (pc := 2) dX10_move_2 (j := 0) (by decide) rfl rfl w_1087 (fun h1 => ?_)
  refine z_aload_n (x := a) (pc := 5) dX10_move_5 rfl rfl ?_
  refine z_iload_n (x := x1) (pc := 6) dX10_move_6 rfl rfl ?_
  refine z_iload_n (x := x2) (pc := 7) dX10_move_7 rfl rfl ?_
  refine z_iload_n (x := x3) (pc := 8) dX10_move_8 rfl rfl ?_
  refine z_dVI (As := [.int x1, .int x2, .int x3]) (rest := []) hG.1 (m_X10_reason hG h1 a x1 x2 x3) (fun _ e => z_gdb e) oX10_reason (pc := 9) dX10_move_9 rfl w_1271 rfl rfl rfl (fun t2 h3 => ?_)
  refine z_istore (i := 4) (la' := [some (.ref a), some (.int x1), some (.int x2), some (.int x3), some (.int t2), none]) (pc := 12) dX10_move_12 (by decide) rfl rfl ?_
  refine z_iload (x := t2) (pc := 14) dX10_move_14 rfl ?_
  refine z_if_eq (tgt := 22) (pc := 16) dX10_move_16 (by decide) (fun _ => ?_) (fun _ => ?_)
  · refine z_aload_n (x := a) (pc := 22) dX10_move_22 rfl rfl ?_
    refine z_iload_n (x := x1) (pc := 23) dX10_move_23 rfl rfl ?_
    refine z_iload_n (x := x3) (pc := 24) dX10_move_24 rfl rfl ?_
    refine z_cVP (As := [.int x1, .int x3]) (rest := []) hG.1 (m_X10_moveAt hG h3 a x1 x3) (fun _ e => z_gdb e) oX10_moveAt (pc := 25) dX10_move_25 rfl w_1291 rfl rfl rfl (fun t4 => ?_)
    refine z_istore (i := 5) (la' := [some (.ref a), some (.int x1), some (.int x2), some (.int x3), some (.int t2), some (.int t4)]) (pc := 28) dX10_move_28 (by decide) rfl rfl ?_
    refine z_iload (x := t4) (pc := 30) dX10_move_30 rfl ?_
    refine z_iconst (v := (-1)) (pc := 32) dX10_move_32 (by decide) ?_
    refine z_jn 54 (fun ((v5, h6) : Int32 × Z_H) => [some (.ref a), some (.int x1), some (.int x2), some (.int x3), none, some (.int v5)]) (fun ((v5, h6) : Int32 × Z_H) => []) (fun ((v5, h6) : Int32 × Z_H) => h6) ?_ ?_
    · rintro ⟨v5, h6⟩
      try dsimp only
      refine z_aload_n (x := a) (pc := 54) dX10_move_54 rfl rfl ?_
      refine z_iload_n (x := x1) (pc := 55) dX10_move_55 rfl rfl ?_
      refine z_iconst (v := 5) (pc := 56) dX10_move_56 (by decide) ?_
      refine z_iload (x := v5) (pc := 57) dX10_move_57 rfl ?_
      refine z_iadd (pc := 59) dX10_move_59 ?_
      refine z_iload_n (x := x3) (pc := 60) dX10_move_60 rfl rfl ?_
      refine z_cVV (As := [.int x1, .int ((5 : Int32) + v5), .int x3]) (rest := []) hG.1 (m_X10_setSeller hG h6 a x1 ((5 : Int32) + v5) x3) (fun _ e => z_gdb e) oX10_setSeller (pc := 61) dX10_move_61 rfl w_1299 rfl rfl rfl (fun h8 => ?_)
      refine z_aload_n (x := a) (pc := 64) dX10_move_64 rfl rfl ?_
      refine z_iload_n (x := x1) (pc := 65) dX10_move_65 rfl rfl ?_
      refine z_bipush (v := 17) (pc := 66) dX10_move_66 (by decide) ?_
      refine z_iload (x := v5) (pc := 68) dX10_move_68 rfl ?_
      refine z_iadd (pc := 70) dX10_move_70 ?_
      refine z_iload_n (x := x2) (pc := 71) dX10_move_71 rfl rfl ?_
      refine z_cVV (As := [.int x1, .int ((17 : Int32) + v5), .int x2]) (rest := []) hG.1 (m_X10_setSeller hG h8 a x1 ((17 : Int32) + v5) x2) (fun _ e => z_gdb e) oX10_setSeller (pc := 72) dX10_move_72 rfl w_1299 rfl rfl rfl (fun h9 => ?_)
      refine z_iconst (v := 0) (pc := 75) dX10_move_75 (by decide) ?_
      exact z_ireturn (pc := 76) dX10_move_76 rfl rfl rfl
    intro j7 hj7
    refine z_ic_ne (tgt := 54) (pc := 33) dX10_move_33 (by decide) (fun _ => ?_) (fun _ => ?_)
    · exact z_wk (hj7 (t4, h3)) (And.intro rfl (And.intro rfl (And.intro rfl (And.intro rfl (And.intro rfl trivial)))))
    refine z_aload_n (x := a) (pc := 36) dX10_move_36 rfl rfl ?_
    refine z_iload_n (x := x1) (pc := 37) dX10_move_37 rfl rfl ?_
    refine z_iconst (v := 4) (pc := 38) dX10_move_38 (by decide) ?_
    refine z_cVP (As := [.int x1, .int 4]) (rest := []) hG.1 (m_X10_ofSeller hG h3 a x1 4) (fun _ e => z_gdb e) oX10_ofSeller (pc := 39) dX10_move_39 rfl w_1263 rfl rfl rfl (fun t10 => ?_)
    refine z_istore (i := 5) (la' := [some (.ref a), some (.int x1), some (.int x2), some (.int x3), some (.int t2), some (.int t10)]) (pc := 42) dX10_move_42 (by decide) rfl rfl ?_
    refine z_aload_n (x := a) (pc := 44) dX10_move_44 rfl rfl ?_
    refine z_iload_n (x := x1) (pc := 45) dX10_move_45 rfl rfl ?_
    refine z_iconst (v := 4) (pc := 46) dX10_move_46 (by decide) ?_
    refine z_iload (x := t10) (pc := 47) dX10_move_47 rfl ?_
    refine z_iconst (v := 1) (pc := 49) dX10_move_49 (by decide) ?_
    refine z_iadd (pc := 50) dX10_move_50 ?_
    refine z_cVV (As := [.int x1, .int 4, .int (t10 + 1)]) (rest := []) hG.1 (m_X10_setSeller hG h3 a x1 4 (t10 + 1)) (fun _ e => z_gdb e) oX10_setSeller (pc := 51) dX10_move_51 rfl w_1299 rfl rfl rfl (fun h11 => ?_)
    exact z_wk (hj7 (t10, h11)) (And.intro rfl (And.intro rfl (And.intro rfl (And.intro rfl (And.intro rfl trivial)))))
  refine z_iload (x := t2) (pc := 19) dX10_move_19 rfl ?_
  exact z_ireturn (pc := 21) dX10_move_21 rfl rfl rfl
set_option maxHeartbeats 2000000 in
set_option maxRecDepth 20000 in
theorem m_X5_fact {G : Z_G} (hG : z_GG G) (h : Z_H) (a : Nat) (x1 : Int32) (x2 : Int32) (x3 : Int32) : z_Met G iX5_fact [.ref a, .int x1, .int x2, .int x3] h ((f_X5_fact h a x1 x2 x3).bind fun r => some (r, h)) := by
  refine z_in (la := [some (.ref a), some (.int x1), some (.int x2), some (.int x3)]) (by decide) rfl rfl rfl ?_
  unfold f_X5_fact
  refine z_gg (fun _ => ?_)
  refine z_aload_n (x := a) (pc := 0) dX5_fact_0 rfl rfl ?_
  refine z_getR cX5 (pc := 1) dX5_fact_1 (j := 7) (by decide) rfl w_204 (fun r1 => ?_)
  refine z_iload_n (x := x1) (pc := 4) dX5_fact_4 rfl rfl ?_
  refine z_iconst (v := 5) (pc := 5) dX5_fact_5 (by decide) ?_
  refine z_imul (pc := 6) dX5_fact_6 ?_
  refine z_iload_n (x := x2) (pc := 7) dX5_fact_7 rfl rfl ?_
  refine z_iadd (pc := 8) dX5_fact_8 ?_
  refine z_iconst (v := 1) (pc := 9) dX5_fact_9 (by decide) ?_
  refine z_isub (pc := 10) dX5_fact_10 ?_
  refine z_bipush (v := 7) (pc := 11) dX5_fact_11 (by decide) ?_
  refine z_imul (pc := 13) dX5_fact_13 ?_
  refine z_iload_n (x := x3) (pc := 14) dX5_fact_14 rfl rfl ?_
  refine z_iadd (pc := 15) dX5_fact_15 ?_
  refine z_aldI (pc := 16) dX5_fact_16 (fun t2 => ?_)
  exact z_ireturn (pc := 17) dX5_fact_17 rfl rfl rfl
set_option maxHeartbeats 2000000 in
set_option maxRecDepth 20000 in
theorem m_X5_levelOf {G : Z_G} (hG : z_GG G) (h : Z_H) (a : Nat) (x1 : Int32) (x2 : Int32) : z_Met G iX5_levelOf [.ref a, .int x1, .int x2] h ((f_X5_levelOf h a x1 x2).bind fun r => some (r, h)) := by
  refine z_in (la := [some (.ref a), some (.int x1), some (.int x2), none]) (by decide) rfl rfl rfl ?_
  unfold f_X5_levelOf
  refine z_gg (fun _ => ?_)
  refine z_iconst (v := 1) (pc := 0) dX5_levelOf_0 (by decide) ?_
  refine z_istore_n (i := 3) (la' := [some (.ref a), some (.int x1), some (.int x2), some (.int 1)]) (pc := 1) dX5_levelOf_1 rfl (by decide) rfl rfl ?_
  refine z_lp (T := (Int32) ⊕ (Unit)) (s0 := 1) 2 (fun (v1 : Int32) => [some (.ref a), some (.int x1), some (.int x2), some (.int v1)]) (fun (v1 : Int32) => h) (fun t => match t with | (.inl v2) => 23 | (.inr _) => 31) (fun t => match t with | (.inl v2) => [none, none, none, some (.int v2)] | (.inr _) => [none, none, none, none]) (fun t => match t with | (.inl v2) => h | (.inr _) => h) ?_ ?_
  · rintro (v2 | _)
    · try dsimp only
      refine z_iload_n (x := v2) (pc := 23) dX5_levelOf_23 rfl rfl ?_
      exact z_ireturn (pc := 24) dX5_levelOf_24 rfl rfl rfl
    · try dsimp only
      refine z_iconst (v := (-1)) (pc := 31) dX5_levelOf_31 (by decide) ?_
      exact z_ireturn (pc := 32) dX5_levelOf_32 rfl rfl rfl
  intro k' hx1 rec3 hrec3
  rintro v1
  unfold f_X5_levelOf_l1
  try dsimp only [lt]
  refine z_iload_n (x := v1) (pc := 2) dX5_levelOf_2 rfl rfl ?_
  refine z_aload_n (x := a) (pc := 3) dX5_levelOf_3 rfl rfl ?_
  refine z_getR cX5 (pc := 4) dX5_levelOf_4 (j := 6) (by decide) rfl w_201 (fun r4 => ?_)
  refine z_iload_n (x := x1) (pc := 7) dX5_levelOf_7 rfl rfl ?_
  refine z_aldI (pc := 8) dX5_levelOf_8 (fun t5 => ?_)
  refine z_ic_gt (tgt := 31) (pc := 9) dX5_levelOf_9 (by decide) (fun _ => ?_) (fun _ => ?_)
  · exact z_wk (hx1 (.inr ())) trivial
  refine z_aload_n (x := a) (pc := 12) dX5_levelOf_12 rfl rfl ?_
  refine z_iload_n (x := x1) (pc := 13) dX5_levelOf_13 rfl rfl ?_
  refine z_iload_n (x := v1) (pc := 14) dX5_levelOf_14 rfl rfl ?_
  refine z_iconst (v := 0) (pc := 15) dX5_levelOf_15 (by decide) ?_
  refine z_cVP (As := [.int x1, .int v1, .int 0]) (rest := []) hG.1 (m_X5_fact hG h a x1 v1 0) (fun _ e => z_gdb e) oX5_fact (pc := 16) dX5_levelOf_16 rfl w_683 rfl rfl rfl (fun t6 => ?_)
  refine z_iload_n (x := x2) (pc := 19) dX5_levelOf_19 rfl rfl ?_
  refine z_ic_ne (tgt := 25) (pc := 20) dX5_levelOf_20 (by decide) (fun _ => ?_) (fun _ => ?_)
  · refine z_iinc (i := 3) (x := v1) (v := (v1 + 1)) (la' := [some (.ref a), some (.int x1), some (.int x2), some (.int (v1 + 1))]) (pc := 25) dX5_levelOf_25 rfl rfl (by decide) rfl rfl ?_
    refine z_goto (tgt := 2) (pc := 28) dX5_levelOf_28 (by decide) ?_
    exact hrec3 (v1 + 1)
  exact z_wk (hx1 (.inl v1)) (And.intro rfl trivial)
set_option maxHeartbeats 2000000 in
set_option maxRecDepth 20000 in
theorem m_X9_net {G : Z_G} (hG : z_GG G) (h : Z_H) (x0 : Int32) (x1 : Int32) : z_Met G iX9_net [.int x0, .int x1] h ((f_X9_net h x0 x1).bind fun r => some (r, h)) := by
  refine z_in (la := [some (.int x0), some (.int x1)]) (by decide) rfl rfl rfl ?_
  unfold f_X9_net
  refine z_iload_n (x := x0) (pc := 0) dX9_net_0 rfl rfl ?_
  refine z_bipush (v := 100) (pc := 1) dX9_net_1 (by decide) ?_
  refine z_iload_n (x := x1) (pc := 3) dX9_net_3 rfl rfl ?_
  refine z_isub (pc := 4) dX9_net_4 ?_
  refine z_imul (pc := 5) dX9_net_5 ?_
  refine z_bipush (v := 100) (pc := 6) dX9_net_6 (by decide) ?_
  refine z_idiv (pc := 8) (by decide) dX9_net_8 ?_
  exact z_ireturn (pc := 9) dX9_net_9 rfl rfl rfl
set_option maxHeartbeats 2000000 in
set_option maxRecDepth 20000 in
theorem m_X5_netPay {G : Z_G} (hG : z_GG G) (h : Z_H) (a : Nat) (x1 : Int32) (x2 : Int32) : z_Met G iX5_netPay [.ref a, .int x1, .int x2] h ((f_X5_netPay h a x1 x2).bind fun r => some (r, h)) := by
  refine z_in (la := [some (.ref a), some (.int x1), some (.int x2)]) (by decide) rfl rfl rfl ?_
  unfold f_X5_netPay
  refine z_gg (fun _ => ?_)
  refine z_aload_n (x := a) (pc := 0) dX5_netPay_0 rfl rfl ?_
  refine z_iload_n (x := x1) (pc := 1) dX5_netPay_1 rfl rfl ?_
  refine z_iload_n (x := x2) (pc := 2) dX5_netPay_2 rfl rfl ?_
  refine z_iconst (v := 2) (pc := 3) dX5_netPay_3 (by decide) ?_
  refine z_cVP (As := [.int x1, .int x2, .int 2]) (rest := []) hG.1 (m_X5_fact hG h a x1 x2 2) (fun _ e => z_gdb e) oX5_fact (pc := 4) dX5_netPay_4 rfl w_683 rfl rfl rfl (fun t1 => ?_)
  refine z_aload_n (x := a) (pc := 7) dX5_netPay_7 rfl rfl ?_
  refine z_getR cX5 (pc := 8) dX5_netPay_8 (j := 5) (by decide) rfl w_199 (fun r2 => ?_)
  refine z_iload_n (x := x1) (pc := 11) dX5_netPay_11 rfl rfl ?_
  refine z_aldI (pc := 12) dX5_netPay_12 (fun t3 => ?_)
  refine z_cNP (As := [.int t1, .int t3]) (rest := []) hG.1 (m_X9_net hG h t1 t3) oX9_net (pc := 13) dX5_netPay_13 rfl (nw_691 hG) rfl rfl rfl (fun t4 => ?_)
  exact z_ireturn (pc := 16) dX5_netPay_16 rfl rfl rfl
