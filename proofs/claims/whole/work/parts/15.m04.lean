set_option maxHeartbeats 2000000 in
set_option maxRecDepth 20000 in
theorem m_X2_takeLevel {G : Z_G} (hG : z_GG G) (h : Z_H) (a : Nat) (b1 : Nat) (b2 : Nat) (x3 : Int32) (x4 : Int32) (x5 : Int32) : z_Met G iX2_takeLevel [.ref a, .ref b1, .ref b2, .int x3, .int x4, .int x5] h ((f_X2_takeLevel h a b1 b2 x3 x4 x5).bind fun h1 => some (0, h1)) := by
  refine z_in (la := [some (.ref a), some (.ref b1), some (.ref b2), some (.int x3), some (.int x4), some (.int x5), none, none, none, none, none, none, none, none, none]) (by decide) rfl rfl rfl ?_
  unfold f_X2_takeLevel
  refine z_gg (fun _ => ?_)
  refine z_aload_n (x := b1) (pc := 0) dX2_takeLevel_0 rfl rfl ?_
  refine z_getR cX7 (pc := 1) dX2_takeLevel_1 (j := 1) (by decide) rfl w_243 (fun r1 => ?_)
  refine z_astore (i := 6) (la' := [some (.ref a), some (.ref b1), some (.ref b2), some (.int x3), some (.int x4), some (.int x5), some (.ref r1), none, none, none, none, none, none, none, none]) (pc := 4) dX2_takeLevel_4 (by decide) rfl rfl ?_
  refine z_aload_n (x := b2) (pc := 6) dX2_takeLevel_6 rfl rfl ?_
  refine z_getR cX6 (pc := 7) dX2_takeLevel_7 (j := 7) (by decide) rfl w_350 (fun r2 => ?_)
  refine z_iload_n (x := x3) (pc := 10) dX2_takeLevel_10 rfl rfl ?_
  refine z_aldI (pc := 11) dX2_takeLevel_11 (fun t3 => ?_)
  refine z_istore (i := 7) (la' := [some (.ref a), some (.ref b1), some (.ref b2), some (.int x3), some (.int x4), some (.int x5), some (.ref r1), some (.int t3), none, none, none, none, none, none, none]) (pc := 12) dX2_takeLevel_12 (by decide) rfl rfl ?_
  refine z_aload_n (x := b2) (pc := 14) dX2_takeLevel_14 rfl rfl ?_
  refine z_getR cX6 (pc := 15) dX2_takeLevel_15 (j := 5) (by decide) rfl w_345 (fun r4 => ?_)
  refine z_iload_n (x := x3) (pc := 18) dX2_takeLevel_18 rfl rfl ?_
  refine z_aldI (pc := 19) dX2_takeLevel_19 (fun t5 => ?_)
  refine z_cSP (As := [.int t5]) (rest := []) hG.1 (m_J6_bitCount_0f7a4 hG h t5) oJ6_bitCount_0f7a4 (pc := 20) dX2_takeLevel_20 rfl w_778 rfl rfl rfl (fun t6 => ?_)
  refine z_istore (i := 8) (la' := [some (.ref a), some (.ref b1), some (.ref b2), some (.int x3), some (.int x4), some (.int x5), some (.ref r1), some (.int t3), some (.int t6), none, none, none, none, none, none]) (pc := 23) dX2_takeLevel_23 (by decide) rfl rfl ?_
  refine z_aload_n (x := b2) (pc := 25) dX2_takeLevel_25 rfl rfl ?_
  refine z_getI cX6 (pc := 26) dX2_takeLevel_26 (j := 8) (by decide) rfl w_353 (fun t7 => ?_)
  refine z_aload_n (x := b1) (pc := 29) dX2_takeLevel_29 rfl rfl ?_
  refine z_getR cX7 (pc := 30) dX2_takeLevel_30 (j := 2) (by decide) rfl w_246 (fun r8 => ?_)
  refine z_getR cX0 (pc := 33) dX2_takeLevel_33 (j := 1) (by decide) rfl w_143 (fun r9 => ?_)
  refine z_iload_n (x := x3) (pc := 36) dX2_takeLevel_36 rfl rfl ?_
  refine z_aldI (pc := 37) dX2_takeLevel_37 (fun t10 => ?_)
  refine z_isub (pc := 38) dX2_takeLevel_38 ?_
  refine z_nm (fun v11 => ?_)
  refine z_istore (i := 9) (la' := [some (.ref a), some (.ref b1), some (.ref b2), some (.int x3), some (.int x4), some (.int x5), some (.ref r1), some (.int t3), some (.int t6), some (.int v11), none, none, none, none, none]) (pc := 39) dX2_takeLevel_39 (by decide) rfl rfl ?_
  refine z_aload (x := r1) (pc := 41) dX2_takeLevel_41 rfl ?_
  refine z_aload_n (x := a) (pc := 43) dX2_takeLevel_43 rfl rfl ?_
  refine z_getI cX2 (pc := 44) dX2_takeLevel_44 (j := 0) (by decide) rfl w_393 (fun t12 => ?_)
  refine z_iload (x := t3) (pc := 47) dX2_takeLevel_47 rfl ?_
  refine z_iload (x := t6) (pc := 49) dX2_takeLevel_49 rfl ?_
  refine z_iload (x := v11) (pc := 51) dX2_takeLevel_51 rfl ?_
  refine z_dVI (As := [.int t12, .int t3, .int t6, .int v11]) (rest := []) hG.1 (m_X3_percentOf hG h r1 t12 t3 t6 v11) (fun _ e => z_gdb e) oX3_percentOf (pc := 53) dX2_takeLevel_53 rfl w_779 rfl rfl rfl (fun t13 h14 => ?_)
  refine z_istore (i := 10) (la' := [some (.ref a), some (.ref b1), some (.ref b2), some (.int x3), some (.int x4), some (.int x5), some (.ref r1), some (.int t3), some (.int t6), some (.int v11), some (.int t13), none, none, none, none]) (pc := 56) dX2_takeLevel_56 (by decide) rfl rfl ?_
  refine z_iload (x := x4) (pc := 58) dX2_takeLevel_58 rfl ?_
  refine z_iload (x := t13) (pc := 60) dX2_takeLevel_60 rfl ?_
  refine z_imul (pc := 62) dX2_takeLevel_62 ?_
  refine z_bipush (v := 100) (pc := 63) dX2_takeLevel_63 (by decide) ?_
  refine z_idiv (pc := 65) (by decide) dX2_takeLevel_65 ?_
  refine z_nm (fun v15 => ?_)
  refine z_istore (i := 11) (la' := [some (.ref a), some (.ref b1), some (.ref b2), some (.int x3), some (.int x4), some (.int x5), some (.ref r1), some (.int t3), some (.int t6), some (.int v11), some (.int t13), some (.int v15), none, none, none]) (pc := 66) dX2_takeLevel_66 (by decide) rfl rfl ?_
  refine z_aload (x := r1) (pc := 68) dX2_takeLevel_68 rfl ?_
  refine z_getR cX3 (pc := 70) dX2_takeLevel_70 (j := 6) (by decide) rfl w_88 (fun r16 => ?_)
  refine z_iload (x := t3) (pc := 73) dX2_takeLevel_73 rfl ?_
  refine z_aldI (pc := 75) dX2_takeLevel_75 (fun t17 => ?_)
  refine z_aload_n (x := a) (pc := 76) dX2_takeLevel_76 rfl rfl ?_
  refine z_getI cX2 (pc := 77) dX2_takeLevel_77 (j := 0) (by decide) rfl w_393 (fun t18 => ?_)
  refine z_jn 88 (fun (y19 : Int32) => [some (.ref a), none, none, some (.int x3), none, some (.int x5), none, some (.int t3), none, none, some (.int t13), some (.int v15), none, none, none]) (fun (y19 : Int32) => [.int y19]) (fun (y19 : Int32) => h14) ?_ ?_
  · rintro y19
    try dsimp only
    refine z_istore (i := 12) (la' := [some (.ref a), none, none, some (.int x3), none, some (.int x5), none, some (.int t3), none, none, some (.int t13), some (.int v15), some (.int y19), none, none]) (pc := 88) dX2_takeLevel_88 (by decide) rfl rfl ?_
    refine z_iload (x := y19) (pc := 90) dX2_takeLevel_90 rfl ?_
    refine z_jn 106 (fun (y21 : Int32) => [some (.ref a), none, none, some (.int x3), none, none, none, some (.int t3), none, none, some (.int t13), some (.int v15), some (.int y19), none, none]) (fun (y21 : Int32) => [.int y21]) (fun (y21 : Int32) => h14) ?_ ?_
    · rintro y21
      try dsimp only
      refine z_istore (i := 13) (la' := [some (.ref a), none, none, some (.int x3), none, none, none, some (.int t3), none, none, some (.int t13), some (.int v15), some (.int y19), some (.int y21), none]) (pc := 106) dX2_takeLevel_106 (by decide) rfl rfl ?_
      refine z_aload_n (x := a) (pc := 108) dX2_takeLevel_108 rfl rfl ?_
      refine z_getI cX2 (pc := 109) dX2_takeLevel_109 (j := 0) (by decide) rfl w_393 (fun t23 => ?_)
      refine z_iconst (v := 1) (pc := 112) dX2_takeLevel_112 (by decide) ?_
      refine z_isub (pc := 113) dX2_takeLevel_113 ?_
      refine z_bipush (v := 7) (pc := 114) dX2_takeLevel_114 (by decide) ?_
      refine z_imul (pc := 116) dX2_takeLevel_116 ?_
      refine z_nm (fun v24 => ?_)
      refine z_istore (i := 14) (la' := [some (.ref a), none, none, some (.int x3), none, none, none, some (.int t3), none, none, some (.int t13), some (.int v15), some (.int y19), some (.int y21), some (.int v24)]) (pc := 117) dX2_takeLevel_117 (by decide) rfl rfl ?_
      refine z_aload_n (x := a) (pc := 119) dX2_takeLevel_119 rfl rfl ?_
      refine z_getR cX2 (pc := 120) dX2_takeLevel_120 (j := 1) (by decide) rfl w_396 (fun r25 => ?_)
      refine z_iload (x := v24) (pc := 123) dX2_takeLevel_123 rfl ?_
      refine z_iconst (v := 0) (pc := 125) dX2_takeLevel_125 (by decide) ?_
      refine z_iadd (pc := 126) dX2_takeLevel_126 ?_
      refine z_iload_n (x := x3) (pc := 127) dX2_takeLevel_127 rfl rfl ?_
      refine z_astI (pc := 128) dX2_takeLevel_128 (fun h26 => ?_)
      refine z_aload_n (x := a) (pc := 129) dX2_takeLevel_129 rfl rfl ?_
      refine z_getR cX2 (pc := 130) dX2_takeLevel_130 (j := 1) (by decide) rfl w_396 (fun r27 => ?_)
      refine z_iload (x := v24) (pc := 133) dX2_takeLevel_133 rfl ?_
      refine z_iconst (v := 1) (pc := 135) dX2_takeLevel_135 (by decide) ?_
      refine z_iadd (pc := 136) dX2_takeLevel_136 ?_
      refine z_iload (x := t13) (pc := 137) dX2_takeLevel_137 rfl ?_
      refine z_astI (pc := 139) dX2_takeLevel_139 (fun h28 => ?_)
      refine z_aload_n (x := a) (pc := 140) dX2_takeLevel_140 rfl rfl ?_
      refine z_getR cX2 (pc := 141) dX2_takeLevel_141 (j := 1) (by decide) rfl w_396 (fun r29 => ?_)
      refine z_iload (x := v24) (pc := 144) dX2_takeLevel_144 rfl ?_
      refine z_iconst (v := 2) (pc := 146) dX2_takeLevel_146 (by decide) ?_
      refine z_iadd (pc := 147) dX2_takeLevel_147 ?_
      refine z_iload (x := y21) (pc := 148) dX2_takeLevel_148 rfl ?_
      refine z_astI (pc := 150) dX2_takeLevel_150 (fun h30 => ?_)
      refine z_aload_n (x := a) (pc := 151) dX2_takeLevel_151 rfl rfl ?_
      refine z_getR cX2 (pc := 152) dX2_takeLevel_152 (j := 1) (by decide) rfl w_396 (fun r31 => ?_)
      refine z_iload (x := v24) (pc := 155) dX2_takeLevel_155 rfl ?_
      refine z_iconst (v := 3) (pc := 157) dX2_takeLevel_157 (by decide) ?_
      refine z_iadd (pc := 158) dX2_takeLevel_158 ?_
      refine z_iload (x := y19) (pc := 159) dX2_takeLevel_159 rfl ?_
      refine z_jn 170 (fun (y32 : Int32) => [some (.ref a), none, none, none, none, none, none, some (.int t3), none, none, none, some (.int v15), some (.int y19), some (.int y21), some (.int v24)]) (fun (y32 : Int32) => [.int y32, .int (v24 + 3), .ref r31]) (fun (y32 : Int32) => h30) ?_ ?_
      · rintro y32
        try dsimp only
        refine z_astI (pc := 170) dX2_takeLevel_170 (fun h34 => ?_)
        refine z_aload_n (x := a) (pc := 171) dX2_takeLevel_171 rfl rfl ?_
        refine z_getR cX2 (pc := 172) dX2_takeLevel_172 (j := 1) (by decide) rfl w_396 (fun r35 => ?_)
        refine z_iload (x := v24) (pc := 175) dX2_takeLevel_175 rfl ?_
        refine z_iconst (v := 4) (pc := 177) dX2_takeLevel_177 (by decide) ?_
        refine z_iadd (pc := 178) dX2_takeLevel_178 ?_
        refine z_iload (x := y19) (pc := 179) dX2_takeLevel_179 rfl ?_
        refine z_jn 193 (fun (y36 : Int32) => [some (.ref a), none, none, none, none, none, none, some (.int t3), none, none, none, none, none, none, some (.int v24)]) (fun (y36 : Int32) => [.int y36, .int (v24 + 4), .ref r35]) (fun (y36 : Int32) => h34) ?_ ?_
        · rintro y36
          try dsimp only
          refine z_astI (pc := 193) dX2_takeLevel_193 (fun h38 => ?_)
          refine z_aload_n (x := a) (pc := 194) dX2_takeLevel_194 rfl rfl ?_
          refine z_getR cX2 (pc := 195) dX2_takeLevel_195 (j := 1) (by decide) rfl w_396 (fun r39 => ?_)
          refine z_iload (x := v24) (pc := 198) dX2_takeLevel_198 rfl ?_
          refine z_iconst (v := 5) (pc := 200) dX2_takeLevel_200 (by decide) ?_
          refine z_iadd (pc := 201) dX2_takeLevel_201 ?_
          refine z_iload (x := t3) (pc := 202) dX2_takeLevel_202 rfl ?_
          refine z_astI (pc := 204) dX2_takeLevel_204 (fun h40 => ?_)
          exact z_return (pc := 205) dX2_takeLevel_205 rfl rfl
        intro j37 hj37
        refine z_if_eq (tgt := 192) (pc := 181) dX2_takeLevel_181 (by decide) (fun _ => ?_) (fun _ => ?_)
        · refine z_iconst (v := 0) (pc := 192) dX2_takeLevel_192 (by decide) ?_
          exact z_wk (hj37 0) (And.intro rfl (And.intro rfl (And.intro rfl trivial)))
        refine z_iload (x := v15) (pc := 184) dX2_takeLevel_184 rfl ?_
        refine z_iload (x := y21) (pc := 186) dX2_takeLevel_186 rfl ?_
        refine z_isub (pc := 188) dX2_takeLevel_188 ?_
        refine z_goto (tgt := 193) (pc := 189) dX2_takeLevel_189 (by decide) ?_
        exact z_wk (hj37 (v15 - y21)) (And.intro rfl (And.intro rfl (And.intro rfl trivial)))
      intro j33 hj33
      refine z_if_eq (tgt := 168) (pc := 161) dX2_takeLevel_161 (by decide) (fun _ => ?_) (fun _ => ?_)
      · refine z_iload (x := v15) (pc := 168) dX2_takeLevel_168 rfl ?_
        exact z_wk (hj33 v15) (And.intro rfl (And.intro rfl (And.intro rfl (And.intro rfl (And.intro rfl (And.intro rfl trivial))))))
      refine z_iconst (v := 0) (pc := 164) dX2_takeLevel_164 (by decide) ?_
      refine z_goto (tgt := 170) (pc := 165) dX2_takeLevel_165 (by decide) ?_
      exact z_wk (hj33 0) (And.intro rfl (And.intro rfl (And.intro rfl (And.intro rfl (And.intro rfl (And.intro rfl trivial))))))
    intro j22 hj22
    refine z_if_eq (tgt := 105) (pc := 92) dX2_takeLevel_92 (by decide) (fun _ => ?_) (fun _ => ?_)
    · refine z_iconst (v := 0) (pc := 105) dX2_takeLevel_105 (by decide) ?_
      exact z_wk (hj22 0) (And.intro rfl (And.intro rfl (And.intro rfl (And.intro rfl (And.intro rfl (And.intro rfl trivial))))))
    refine z_iload (x := v15) (pc := 95) dX2_takeLevel_95 rfl ?_
    refine z_iload (x := x5) (pc := 97) dX2_takeLevel_97 rfl ?_
    refine z_mmin (pc := 99) dX2_takeLevel_99 w_792 w_575 w_17 w_576 (by decide) (Nat.le_of_ble_eq_true rfl) ?_
    refine z_goto (tgt := 106) (pc := 102) dX2_takeLevel_102 (by decide) ?_
    exact z_wk (hj22 (mn v15 x5)) (And.intro rfl (And.intro rfl (And.intro rfl (And.intro rfl (And.intro rfl (And.intro rfl trivial))))))
  intro j20 hj20
  refine z_ic_lt (tgt := 87) (pc := 80) dX2_takeLevel_80 (by decide) (fun _ => ?_) (fun _ => ?_)
  · refine z_iconst (v := 0) (pc := 87) dX2_takeLevel_87 (by decide) ?_
    exact z_wk (hj20 0) (And.intro rfl (And.intro rfl (And.intro rfl (And.intro rfl (And.intro rfl (And.intro rfl trivial))))))
  refine z_iconst (v := 1) (pc := 83) dX2_takeLevel_83 (by decide) ?_
  refine z_goto (tgt := 88) (pc := 84) dX2_takeLevel_84 (by decide) ?_
  exact z_wk (hj20 1) (And.intro rfl (And.intro rfl (And.intro rfl (And.intro rfl (And.intro rfl (And.intro rfl trivial))))))
set_option maxHeartbeats 2000000 in
set_option maxRecDepth 20000 in
theorem m_X2_fact {G : Z_G} (hG : z_GG G) (h : Z_H) (a : Nat) (x1 : Int32) (x2 : Int32) : z_Met G iX2_fact [.ref a, .int x1, .int x2] h ((f_X2_fact h a x1 x2).bind fun r => some (r, h)) := by
  refine z_in (la := [some (.ref a), some (.int x1), some (.int x2)]) (by decide) rfl rfl rfl ?_
  unfold f_X2_fact
  refine z_gg (fun _ => ?_)
  refine z_aload_n (x := a) (pc := 0) dX2_fact_0 rfl rfl ?_
  refine z_getR cX2 (pc := 1) dX2_fact_1 (j := 1) (by decide) rfl w_396 (fun r1 => ?_)
  refine z_iload_n (x := x1) (pc := 4) dX2_fact_4 rfl rfl ?_
  refine z_iconst (v := 1) (pc := 5) dX2_fact_5 (by decide) ?_
  refine z_isub (pc := 6) dX2_fact_6 ?_
  refine z_bipush (v := 7) (pc := 7) dX2_fact_7 (by decide) ?_
  refine z_imul (pc := 9) dX2_fact_9 ?_
  refine z_iload_n (x := x2) (pc := 10) dX2_fact_10 rfl rfl ?_
  refine z_iadd (pc := 11) dX2_fact_11 ?_
  refine z_aldI (pc := 12) dX2_fact_12 (fun t2 => ?_)
  exact z_ireturn (pc := 13) dX2_fact_13 rfl rfl rfl
set_option maxHeartbeats 2000000 in
set_option maxRecDepth 20000 in
theorem m_X2_payUp {G : Z_G} (hG : z_GG G) (h : Z_H) (a : Nat) (b1 : Nat) (b2 : Nat) (x3 : Int32) (x4 : Int32) : z_Met G iX2_payUp [.ref a, .ref b1, .ref b2, .int x3, .int x4] h ((f_X2_payUp h a b1 b2 x3 x4).bind fun h1 => some (0, h1)) := by
  refine z_in (la := [some (.ref a), some (.ref b1), some (.ref b2), some (.int x3), some (.int x4), none, none, none]) (by decide) rfl rfl rfl ?_
  unfold f_X2_payUp
  refine z_gg (fun _ => ?_)
  refine z_aload_n (x := a) (pc := 0) dX2_payUp_0 rfl rfl ?_
  refine z_iconst (v := 0) (pc := 1) dX2_payUp_1 (by decide) ?_
  refine z_putI cX2 (pc := 2) dX2_payUp_2 (j := 0) (by decide) rfl rfl w_393 (fun h1 => ?_)
  refine z_iload (x := x4) (pc := 5) dX2_payUp_5 rfl ?_
  refine z_aload_n (x := b1) (pc := 7) dX2_payUp_7 rfl rfl ?_
  refine z_getR cX7 (pc := 8) dX2_payUp_8 (j := 1) (by decide) rfl w_243 (fun r2 => ?_)
  refine z_getI cX3 (pc := 11) dX2_payUp_11 (j := 1) (by decide) rfl w_70 (fun t3 => ?_)
  refine z_imul (pc := 14) dX2_payUp_14 ?_
  refine z_bipush (v := 100) (pc := 15) dX2_payUp_15 (by decide) ?_
  refine z_idiv (pc := 17) (by decide) dX2_payUp_17 ?_
  refine z_nm (fun v4 => ?_)
  refine z_istore (i := 5) (la' := [some (.ref a), some (.ref b1), some (.ref b2), some (.int x3), some (.int x4), some (.int v4), none, none]) (pc := 18) dX2_payUp_18 (by decide) rfl rfl ?_
  refine z_aload_n (x := b2) (pc := 20) dX2_payUp_20 rfl rfl ?_
  refine z_getR cX6 (pc := 21) dX2_payUp_21 (j := 0) (by decide) rfl w_334 (fun r5 => ?_)
  refine z_iload_n (x := x3) (pc := 24) dX2_payUp_24 rfl rfl ?_
  refine z_aldI (pc := 25) dX2_payUp_25 (fun t6 => ?_)
  refine z_istore (i := 6) (la' := [some (.ref a), some (.ref b1), some (.ref b2), some (.int x3), some (.int x4), some (.int v4), some (.int t6), none]) (pc := 26) dX2_payUp_26 (by decide) rfl rfl ?_
  refine z_iconst (v := 1) (pc := 28) dX2_payUp_28 (by decide) ?_
  refine z_istore (i := 7) (la' := [some (.ref a), some (.ref b1), some (.ref b2), some (.int x3), some (.int x4), some (.int v4), some (.int t6), some (.int 1)]) (pc := 29) dX2_payUp_29 (by decide) rfl rfl ?_
  refine z_weak (la' := [some (.ref a), some (.ref b1), some (.ref b2), none, some (.int x4), some (.int v4), some (.int t6), some (.int 1)]) (And.intro rfl (And.intro rfl (And.intro rfl (And.intro rfl (And.intro rfl (And.intro rfl (And.intro rfl trivial))))))) ?_
  refine z_lp (T := Z_H) (s0 := (v4, t6, 1, h1)) 31 (fun ((v7, v8, v9, h10) : Int32 × Int32 × Int32 × Z_H) => [some (.ref a), some (.ref b1), some (.ref b2), none, some (.int x4), some (.int v7), some (.int v8), some (.int v9)]) (fun ((v7, v8, v9, h10) : Int32 × Int32 × Int32 × Z_H) => h10) (fun _ => 131) (fun (h11 : Z_H) => [none, none, none, none, none, none, none, none]) (fun (h11 : Z_H) => h11) ?_ ?_
  · rintro h11
    try dsimp only
    exact z_return (pc := 131) dX2_payUp_131 rfl rfl
  intro k' hx1 rec12 hrec12
  rintro ⟨v7, v8, v9, h10⟩
  unfold f_X2_payUp_l1
  try dsimp only
  refine z_iload (x := v9) (pc := 31) dX2_payUp_31 rfl ?_
  refine z_bipush (v := 10) (pc := 33) dX2_payUp_33 (by decide) ?_
  refine z_ic_gt (tgt := 131) (pc := 35) dX2_payUp_35 (by decide) (fun _ => ?_) (fun _ => ?_)
  · exact z_wk (hx1 h10) trivial
  refine z_iload (x := v8) (pc := 38) dX2_payUp_38 rfl ?_
  refine z_iconst (v := (-1)) (pc := 40) dX2_payUp_40 (by decide) ?_
  refine z_ic_eq (tgt := 131) (pc := 41) dX2_payUp_41 (by decide) (fun _ => ?_) (fun _ => ?_)
  · exact z_wk (hx1 h10) trivial
  refine z_aload_n (x := a) (pc := 44) dX2_payUp_44 rfl rfl ?_
  refine z_getI cX2 (pc := 45) dX2_payUp_45 (j := 0) (by decide) rfl w_393 (fun t13 => ?_)
  refine z_iconst (v := 5) (pc := 48) dX2_payUp_48 (by decide) ?_
  refine z_ic_ge (tgt := 131) (pc := 49) dX2_payUp_49 (by decide) (fun _ => ?_) (fun _ => ?_)
  · exact z_wk (hx1 h10) trivial
  refine z_aload_n (x := b2) (pc := 52) dX2_payUp_52 rfl rfl ?_
  refine z_iload (x := v8) (pc := 53) dX2_payUp_53 rfl ?_
  refine z_cVP (As := [.int v8]) (rest := []) hG.1 (m_X6_isActive hG h10 b2 v8) (fun _ e => z_gdb e) oX6_isActive (pc := 55) dX2_payUp_55 rfl w_770 rfl rfl rfl (fun t14 => ?_)
  refine z_jn 116 (fun ((v15, h16) : Int32 × Z_H) => [some (.ref a), some (.ref b1), some (.ref b2), none, some (.int x4), some (.int v15), some (.int v8), some (.int v9)]) (fun ((v15, h16) : Int32 × Z_H) => []) (fun ((v15, h16) : Int32 × Z_H) => h16) ?_ ?_
  · rintro ⟨v15, h16⟩
    try dsimp only
    refine z_aload_n (x := b2) (pc := 116) dX2_payUp_116 rfl rfl ?_
    refine z_getR cX6 (pc := 117) dX2_payUp_117 (j := 0) (by decide) rfl w_334 (fun r18 => ?_)
    refine z_iload (x := v8) (pc := 120) dX2_payUp_120 rfl ?_
    refine z_aldI (pc := 122) dX2_payUp_122 (fun t19 => ?_)
    refine z_istore (i := 6) (la' := [some (.ref a), some (.ref b1), some (.ref b2), none, some (.int x4), some (.int v15), some (.int t19), some (.int v9)]) (pc := 123) dX2_payUp_123 (by decide) rfl rfl ?_
    refine z_iinc (i := 7) (x := v9) (v := (v9 + 1)) (la' := [some (.ref a), some (.ref b1), some (.ref b2), none, some (.int x4), some (.int v15), some (.int t19), some (.int (v9 + 1))]) (pc := 125) dX2_payUp_125 rfl rfl (by decide) rfl rfl ?_
    refine z_goto (tgt := 31) (pc := 128) dX2_payUp_128 (by decide) ?_
    exact hrec12 (v15, t19, (v9 + 1), h16)
  intro j17 hj17
  refine z_if_eq (tgt := 116) (pc := 58) dX2_payUp_58 (by decide) (fun _ => ?_) (fun _ => ?_)
  · exact hj17 (v7, h10)
  refine z_aload_n (x := a) (pc := 61) dX2_payUp_61 rfl rfl ?_
  refine z_dup (pc := 62) dX2_payUp_62 rfl ?_
  refine z_getI cX2 (pc := 63) dX2_payUp_63 (j := 0) (by decide) rfl w_393 (fun t20 => ?_)
  refine z_iconst (v := 1) (pc := 66) dX2_payUp_66 (by decide) ?_
  refine z_iadd (pc := 67) dX2_payUp_67 ?_
  refine z_putI cX2 (pc := 68) dX2_payUp_68 (j := 0) (by decide) rfl rfl w_393 (fun h21 => ?_)
  refine z_aload_n (x := a) (pc := 71) dX2_payUp_71 rfl rfl ?_
  refine z_aload_n (x := b1) (pc := 72) dX2_payUp_72 rfl rfl ?_
  refine z_aload_n (x := b2) (pc := 73) dX2_payUp_73 rfl rfl ?_
  refine z_iload (x := v8) (pc := 74) dX2_payUp_74 rfl ?_
  refine z_iload (x := x4) (pc := 76) dX2_payUp_76 rfl ?_
  refine z_iload (x := v7) (pc := 78) dX2_payUp_78 rfl ?_
  refine z_cVV (As := [.ref b1, .ref b2, .int v8, .int x4, .int v7]) (rest := []) hG.1 (m_X2_takeLevel hG h21 a b1 b2 v8 x4 v7) (fun _ e => z_gdb e) oX2_takeLevel (pc := 80) dX2_payUp_80 rfl w_774 rfl rfl rfl (fun h22 => ?_)
  refine z_aload_n (x := a) (pc := 83) dX2_payUp_83 rfl rfl ?_
  refine z_getR cX2 (pc := 84) dX2_payUp_84 (j := 1) (by decide) rfl w_396 (fun r23 => ?_)
  refine z_aload_n (x := a) (pc := 87) dX2_payUp_87 rfl rfl ?_
  refine z_getI cX2 (pc := 88) dX2_payUp_88 (j := 0) (by decide) rfl w_393 (fun t24 => ?_)
  refine z_iconst (v := 1) (pc := 91) dX2_payUp_91 (by decide) ?_
  refine z_isub (pc := 92) dX2_payUp_92 ?_
  refine z_bipush (v := 7) (pc := 93) dX2_payUp_93 (by decide) ?_
  refine z_imul (pc := 95) dX2_payUp_95 ?_
  refine z_bipush (v := 6) (pc := 96) dX2_payUp_96 (by decide) ?_
  refine z_iadd (pc := 98) dX2_payUp_98 ?_
  refine z_iload (x := v9) (pc := 99) dX2_payUp_99 rfl ?_
  refine z_astI (pc := 101) dX2_payUp_101 (fun h25 => ?_)
  refine z_iload (x := v7) (pc := 102) dX2_payUp_102 rfl ?_
  refine z_aload_n (x := a) (pc := 104) dX2_payUp_104 rfl rfl ?_
  refine z_aload_n (x := a) (pc := 105) dX2_payUp_105 rfl rfl ?_
  refine z_getI cX2 (pc := 106) dX2_payUp_106 (j := 0) (by decide) rfl w_393 (fun t26 => ?_)
  refine z_iconst (v := 2) (pc := 109) dX2_payUp_109 (by decide) ?_
  refine z_cVP (As := [.int t26, .int 2]) (rest := [.int v7]) hG.1 (m_X2_fact hG h25 a t26 2) (fun _ e => z_gdb e) oX2_fact (pc := 110) dX2_payUp_110 rfl w_793 rfl rfl rfl (fun t27 => ?_)
  refine z_isub (pc := 113) dX2_payUp_113 ?_
  refine z_nm (fun v28 => ?_)
  refine z_istore (i := 5) (la' := [some (.ref a), some (.ref b1), some (.ref b2), none, some (.int x4), some (.int v28), some (.int v8), some (.int v9)]) (pc := 114) dX2_payUp_114 (by decide) rfl rfl ?_
  exact hj17 (v28, h25)
set_option maxHeartbeats 2000000 in
set_option maxRecDepth 20000 in
theorem m_X5_keep {G : Z_G} (hG : z_GG G) (h : Z_H) (a : Nat) (x1 : Int32) (b2 : Nat) : z_Met G iX5_keep [.ref a, .int x1, .ref b2] h ((f_X5_keep h a x1 b2).bind fun h1 => some (0, h1)) := by
  refine z_in (la := [some (.ref a), some (.int x1), some (.ref b2)]) (by decide) rfl rfl rfl ?_
  unfold f_X5_keep
  refine z_gg (fun _ => ?_)
  refine z_aload_n (x := a) (pc := 0) dX5_keep_0 rfl rfl ?_
  refine z_getR cX5 (pc := 1) dX5_keep_1 (j := 6) (by decide) rfl w_201 (fun r1 => ?_)
  refine z_iload_n (x := x1) (pc := 4) dX5_keep_4 rfl rfl ?_
  refine z_aload_n (x := b2) (pc := 5) dX5_keep_5 rfl rfl ?_
  refine z_getI cX2 (pc := 6) dX5_keep_6 (j := 0) (by decide) rfl w_394 (fun t2 => ?_)
  refine z_astI (pc := 9) dX5_keep_9 (fun h3 => ?_)
  refine z_aload_n (x := b2) (pc := 10) dX5_keep_10 rfl rfl ?_
  refine z_getR cX2 (pc := 11) dX5_keep_11 (j := 1) (by decide) rfl w_397 (fun r4 => ?_)
  refine z_iconst (v := 0) (pc := 14) dX5_keep_14 (by decide) ?_
  refine z_aload_n (x := a) (pc := 15) dX5_keep_15 rfl rfl ?_
  refine z_getR cX5 (pc := 16) dX5_keep_16 (j := 7) (by decide) rfl w_204 (fun r5 => ?_)
  refine z_iload_n (x := x1) (pc := 19) dX5_keep_19 rfl rfl ?_
  refine z_iconst (v := 5) (pc := 20) dX5_keep_20 (by decide) ?_
  refine z_imul (pc := 21) dX5_keep_21 ?_
  refine z_bipush (v := 7) (pc := 22) dX5_keep_22 (by decide) ?_
  refine z_imul (pc := 24) dX5_keep_24 ?_
  refine z_aload_n (x := b2) (pc := 25) dX5_keep_25 rfl rfl ?_
  refine z_getI cX2 (pc := 26) dX5_keep_26 (j := 0) (by decide) rfl w_394 (fun t6 => ?_)
  refine z_bipush (v := 7) (pc := 29) dX5_keep_29 (by decide) ?_
  refine z_imul (pc := 31) dX5_keep_31 ?_
  refine z_cp (pc := 32) dX5_keep_32 w_801 w_445 w_444 w_12 (by decide) (Nat.le_of_ble_eq_true rfl) (fun h7 => ?_)
  exact z_return (pc := 35) dX5_keep_35 rfl rfl
set_option maxHeartbeats 2000000 in
set_option maxRecDepth 20000 in
theorem m_X7_note {G : Z_G} (hG : z_GG G) (h : Z_H) (a : Nat) (x1 : Int32) (x2 : Int32) (x3 : Int32) (x4 : Int32) : z_Met G iX7_note [.ref a, .int x1, .int x2, .int x3, .int x4] h ((f_X7_note h a x1 x2 x3 x4).bind fun h1 => some (0, h1)) := by
  refine z_in (la := [some (.ref a), some (.int x1), some (.int x2), some (.int x3), some (.int x4)]) (by decide) rfl rfl rfl ?_
  unfold f_X7_note
  refine z_gg (fun _ => ?_)
  refine z_iload_n (x := x3) (pc := 0) dX7_note_0 rfl rfl ?_
  refine z_if_le (tgt := 20) (pc := 1) dX7_note_1 (by decide) (fun _ => ?_) (fun _ => ?_)
  · exact z_return (pc := 20) dX7_note_20 rfl rfl
  refine z_aload_n (x := a) (pc := 4) dX7_note_4 rfl rfl ?_
  refine z_getR cX7 (pc := 5) dX7_note_5 (j := 4) (by decide) rfl w_252 (fun r1 => ?_)
  refine z_iload_n (x := x1) (pc := 8) dX7_note_8 rfl rfl ?_
  refine z_iload_n (x := x2) (pc := 9) dX7_note_9 rfl rfl ?_
  refine z_aload_n (x := a) (pc := 10) dX7_note_10 rfl rfl ?_
  refine z_getI cX7 (pc := 11) dX7_note_11 (j := 8) (by decide) rfl w_259 (fun t2 => ?_)
  refine z_iload_n (x := x3) (pc := 14) dX7_note_14 rfl rfl ?_
  refine z_iload (x := x4) (pc := 15) dX7_note_15 rfl ?_
  refine z_cVV (As := [.int x1, .int x2, .int t2, .int x3, .int x4]) (rest := []) hG.1 (m_X1_write hG h r1 x1 x2 t2 x3 x4) (fun _ e => z_gdb e) oX1_write (pc := 17) dX7_note_17 rfl w_807 rfl rfl rfl (fun h3 => ?_)
  exact z_return (pc := 20) dX7_note_20 rfl rfl
set_option maxHeartbeats 2000000 in
set_option maxRecDepth 20000 in
theorem m_X9_sell {G : Z_G} (hG : z_GG G) (h : Z_H) (a : Nat) (x1 : Int32) (x2 : Int32) (x3 : Int32) : z_Met G iX9_sell [.ref a, .int x1, .int x2, .int x3] h ((f_X9_sell h a x1 x2 x3).bind some) := by
  refine z_in (la := [some (.ref a), some (.int x1), some (.int x2), some (.int x3), none, none, none]) (by decide) rfl rfl rfl ?_
  unfold f_X9_sell
  refine z_gg (fun _ => ?_)
  refine z_aload_n (x := a) (pc := 0) dX9_sell_0 rfl rfl ?_
  refine z_getR cX9 (pc := 1) dX9_sell_1 (j := 0) (by decide) rfl w_403 (fun r1 => ?_)
  refine z_getR cX7 (pc := 4) dX9_sell_4 (j := 3) (by decide) rfl w_251 (fun r2 => ?_)
  refine z_astore (i := 4) (la' := [some (.ref a), some (.int x1), some (.int x2), some (.int x3), some (.ref r2), none, none]) (pc := 7) dX9_sell_7 (by decide) rfl rfl ?_
  refine z_aload_n (x := a) (pc := 9) dX9_sell_9 rfl rfl ?_
  refine z_iload_n (x := x1) (pc := 10) dX9_sell_10 rfl rfl ?_
  refine z_iload_n (x := x2) (pc := 11) dX9_sell_11 rfl rfl ?_
  refine z_cVP (As := [.int x1, .int x2]) (rest := []) hG.1 (m_X9_canSell hG h a x1 x2) (fun _ e => z_gdb e) oX9_canSell (pc := 12) dX9_sell_12 rfl w_713 rfl rfl rfl (fun t3 => ?_)
  refine z_if_eq (tgt := 28) (pc := 15) dX9_sell_15 (by decide) (fun _ => ?_) (fun _ => ?_)
  · refine z_iconst (v := (-1)) (pc := 28) dX9_sell_28 (by decide) ?_
    exact z_ireturn (pc := 29) dX9_sell_29 rfl rfl rfl
  refine z_aload (x := r2) (pc := 18) dX9_sell_18 rfl ?_
  refine z_getI cX5 (pc := 20) dX9_sell_20 (j := 0) (by decide) rfl w_186 (fun t4 => ?_)
  refine z_bipush (v := 40) (pc := 23) dX9_sell_23 (by decide) ?_
  refine z_ic_lt (tgt := 30) (pc := 25) dX9_sell_25 (by decide) (fun _ => ?_) (fun _ => ?_)
  · refine z_iload_n (x := x3) (pc := 30) dX9_sell_30 rfl rfl ?_
    refine z_aload_n (x := a) (pc := 31) dX9_sell_31 rfl rfl ?_
    refine z_getR cX9 (pc := 32) dX9_sell_32 (j := 0) (by decide) rfl w_403 (fun r5 => ?_)
    refine z_getI cX7 (pc := 35) dX9_sell_35 (j := 8) (by decide) rfl w_261 (fun t6 => ?_)
    refine z_iconst (v := 2) (pc := 38) dX9_sell_38 (by decide) ?_
    refine z_isub (pc := 39) dX9_sell_39 ?_
    refine z_ic_lt (tgt := 70) (pc := 40) dX9_sell_40 (by decide) (fun _ => ?_) (fun _ => ?_)
    · refine z_iconst (v := (-1)) (pc := 70) dX9_sell_70 (by decide) ?_
      exact z_ireturn (pc := 71) dX9_sell_71 rfl rfl rfl
    refine z_iload_n (x := x3) (pc := 43) dX9_sell_43 rfl rfl ?_
    refine z_aload_n (x := a) (pc := 44) dX9_sell_44 rfl rfl ?_
    refine z_getR cX9 (pc := 45) dX9_sell_45 (j := 0) (by decide) rfl w_403 (fun r7 => ?_)
    refine z_getI cX7 (pc := 48) dX9_sell_48 (j := 8) (by decide) rfl w_261 (fun t8 => ?_)
    refine z_ic_gt (tgt := 70) (pc := 51) dX9_sell_51 (by decide) (fun _ => ?_) (fun _ => ?_)
    · refine z_iconst (v := (-1)) (pc := 70) dX9_sell_70 (by decide) ?_
      exact z_ireturn (pc := 71) dX9_sell_71 rfl rfl rfl
    refine z_iload_n (x := x3) (pc := 54) dX9_sell_54 rfl rfl ?_
    refine z_aload_n (x := a) (pc := 55) dX9_sell_55 rfl rfl ?_
    refine z_getR cX9 (pc := 56) dX9_sell_56 (j := 0) (by decide) rfl w_403 (fun r9 => ?_)
    refine z_getR cX7 (pc := 59) dX9_sell_59 (j := 2) (by decide) rfl w_247 (fun r10 => ?_)
    refine z_getR cX0 (pc := 62) dX9_sell_62 (j := 1) (by decide) rfl w_145 (fun r11 => ?_)
    refine z_iload_n (x := x1) (pc := 65) dX9_sell_65 rfl rfl ?_
    refine z_aldI (pc := 66) dX9_sell_66 (fun t12 => ?_)
    refine z_ic_ge (tgt := 72) (pc := 67) dX9_sell_67 (by decide) (fun _ => ?_) (fun _ => ?_)
    · refine z_aload (x := r2) (pc := 72) dX9_sell_72 rfl ?_
      refine z_iload_n (x := x1) (pc := 74) dX9_sell_74 rfl rfl ?_
      refine z_iload_n (x := x2) (pc := 75) dX9_sell_75 rfl rfl ?_
      refine z_iload_n (x := x3) (pc := 76) dX9_sell_76 rfl rfl ?_
      refine z_aload_n (x := a) (pc := 77) dX9_sell_77 rfl rfl ?_
      refine z_getR cX9 (pc := 78) dX9_sell_78 (j := 0) (by decide) rfl w_403 (fun r13 => ?_)
      refine z_getI cX7 (pc := 81) dX9_sell_81 (j := 8) (by decide) rfl w_261 (fun t14 => ?_)
      refine z_dVI (As := [.int x1, .int x2, .int x3, .int t14]) (rest := []) hG.1 (m_X5_add hG h r2 x1 x2 x3 t14) (fun _ e => z_gdb e) oX5_add (pc := 84) dX9_sell_84 rfl w_717 rfl rfl rfl (fun t15 h16 => ?_)
      refine z_istore (i := 5) (la' := [some (.ref a), some (.int x1), some (.int x2), some (.int x3), some (.ref r2), some (.int t15), none]) (pc := 87) dX9_sell_87 (by decide) rfl rfl ?_
      refine z_aload_n (x := a) (pc := 89) dX9_sell_89 rfl rfl ?_
      refine z_getR cX9 (pc := 90) dX9_sell_90 (j := 3) (by decide) rfl w_406 (fun r17 => ?_)
      refine z_aload_n (x := a) (pc := 93) dX9_sell_93 rfl rfl ?_
      refine z_getR cX9 (pc := 94) dX9_sell_94 (j := 0) (by decide) rfl w_403 (fun r18 => ?_)
      refine z_iload_n (x := x3) (pc := 97) dX9_sell_97 rfl rfl ?_
      refine z_cVV (As := [.ref r18, .int x3]) (rest := []) hG.1 (m_X6_look hG h16 r17 r18 x3) (fun _ e => z_gdb e) oX6_look (pc := 98) dX9_sell_98 rfl w_721 rfl rfl rfl (fun h19 => ?_)
      refine z_aload_n (x := a) (pc := 101) dX9_sell_101 rfl rfl ?_
      refine z_getR cX9 (pc := 102) dX9_sell_102 (j := 4) (by decide) rfl w_407 (fun r20 => ?_)
      refine z_aload_n (x := a) (pc := 105) dX9_sell_105 rfl rfl ?_
      refine z_getR cX9 (pc := 106) dX9_sell_106 (j := 0) (by decide) rfl w_403 (fun r21 => ?_)
      refine z_aload_n (x := a) (pc := 109) dX9_sell_109 rfl rfl ?_
      refine z_getR cX9 (pc := 110) dX9_sell_110 (j := 3) (by decide) rfl w_406 (fun r22 => ?_)
      refine z_iload_n (x := x1) (pc := 113) dX9_sell_113 rfl rfl ?_
      refine z_iload_n (x := x2) (pc := 114) dX9_sell_114 rfl rfl ?_
      refine z_cVV (As := [.ref r21, .ref r22, .int x1, .int x2]) (rest := []) hG.1 (m_X2_payUp hG h19 r20 r21 r22 x1 x2) (fun _ e => z_gdb e) oX2_payUp (pc := 115) dX9_sell_115 rfl w_766 rfl rfl rfl (fun h23 => ?_)
      refine z_aload (x := r2) (pc := 118) dX9_sell_118 rfl ?_
      refine z_iload (x := t15) (pc := 120) dX9_sell_120 rfl ?_
      refine z_aload_n (x := a) (pc := 122) dX9_sell_122 rfl rfl ?_
      refine z_getR cX9 (pc := 123) dX9_sell_123 (j := 4) (by decide) rfl w_407 (fun r24 => ?_)
      refine z_cVV (As := [.int t15, .ref r24]) (rest := []) hG.1 (m_X5_keep hG h23 r2 t15 r24) (fun _ e => z_gdb e) oX5_keep (pc := 126) dX9_sell_126 rfl w_797 rfl rfl rfl (fun h25 => ?_)
      refine z_iconst (v := 1) (pc := 129) dX9_sell_129 (by decide) ?_
      refine z_istore (i := 6) (la' := [some (.ref a), some (.int x1), some (.int x2), some (.int x3), some (.ref r2), some (.int t15), some (.int 1)]) (pc := 130) dX9_sell_130 (by decide) rfl rfl ?_
      refine z_weak (la' := [some (.ref a), none, none, none, none, some (.int t15), some (.int 1)]) (And.intro rfl (And.intro rfl (And.intro rfl trivial))) ?_
      refine z_lp (T := Z_H) (s0 := (1, h25)) 132 (fun ((v26, h27) : Int32 × Z_H) => [some (.ref a), none, none, none, none, some (.int t15), some (.int v26)]) (fun ((v26, h27) : Int32 × Z_H) => h27) (fun _ => 180) (fun (h28 : Z_H) => [none, none, none, none, none, some (.int t15), none]) (fun (h28 : Z_H) => h28) ?_ ?_
      · rintro h28
        try dsimp only
        refine z_iload (x := t15) (pc := 180) dX9_sell_180 rfl ?_
        exact z_ireturn (pc := 182) dX9_sell_182 rfl rfl rfl
      intro k' hx1 rec29 hrec29
      rintro ⟨v26, h27⟩
      unfold f_X9_sell_l1
      try dsimp only
      refine z_iload (x := v26) (pc := 132) dX9_sell_132 rfl ?_
      refine z_aload_n (x := a) (pc := 134) dX9_sell_134 rfl rfl ?_
      refine z_getR cX9 (pc := 135) dX9_sell_135 (j := 4) (by decide) rfl w_407 (fun r30 => ?_)
      refine z_getI cX2 (pc := 138) dX9_sell_138 (j := 0) (by decide) rfl w_395 (fun t31 => ?_)
      refine z_ic_gt (tgt := 180) (pc := 141) dX9_sell_141 (by decide) (fun _ => ?_) (fun _ => ?_)
      · exact z_wk (hx1 h27) (And.intro rfl trivial)
      refine z_aload_n (x := a) (pc := 144) dX9_sell_144 rfl rfl ?_
      refine z_getR cX9 (pc := 145) dX9_sell_145 (j := 0) (by decide) rfl w_403 (fun r32 => ?_)
      refine z_aload_n (x := a) (pc := 148) dX9_sell_148 rfl rfl ?_
      refine z_getR cX9 (pc := 149) dX9_sell_149 (j := 4) (by decide) rfl w_407 (fun r33 => ?_)
      refine z_iload (x := v26) (pc := 152) dX9_sell_152 rfl ?_
      refine z_iconst (v := 0) (pc := 154) dX9_sell_154 (by decide) ?_
      refine z_cVP (As := [.int v26, .int 0]) (rest := [.ref r32]) hG.1 (m_X2_fact hG h27 r33 v26 0) (fun _ e => z_gdb e) oX2_fact (pc := 155) dX9_sell_155 rfl w_802 rfl rfl rfl (fun t34 => ?_)
      refine z_iconst (v := 0) (pc := 158) dX9_sell_158 (by decide) ?_
      refine z_aload_n (x := a) (pc := 159) dX9_sell_159 rfl rfl ?_
      refine z_getR cX9 (pc := 160) dX9_sell_160 (j := 4) (by decide) rfl w_407 (fun r35 => ?_)
      refine z_iload (x := v26) (pc := 163) dX9_sell_163 rfl ?_
      refine z_iconst (v := 2) (pc := 165) dX9_sell_165 (by decide) ?_
      refine z_cVP (As := [.int v26, .int 2]) (rest := [.int 0, .int t34, .ref r32]) hG.1 (m_X2_fact hG h27 r35 v26 2) (fun _ e => z_gdb e) oX2_fact (pc := 166) dX9_sell_166 rfl w_802 rfl rfl rfl (fun t36 => ?_)
      refine z_iload (x := t15) (pc := 169) dX9_sell_169 rfl ?_
      refine z_cVV (As := [.int t34, .int 0, .int t36, .int t15]) (rest := []) hG.1 (m_X7_note hG h27 r32 t34 0 t36 t15) (fun _ e => z_gdb e) oX7_note (pc := 171) dX9_sell_171 rfl w_803 rfl rfl rfl (fun h37 => ?_)
      refine z_iinc (i := 6) (x := v26) (v := (v26 + 1)) (la' := [some (.ref a), none, none, none, none, some (.int t15), some (.int (v26 + 1))]) (pc := 174) dX9_sell_174 rfl rfl (by decide) rfl rfl ?_
      refine z_goto (tgt := 132) (pc := 177) dX9_sell_177 (by decide) ?_
      exact hrec29 ((v26 + 1), h37)
    refine z_iconst (v := (-1)) (pc := 70) dX9_sell_70 (by decide) ?_
    exact z_ireturn (pc := 71) dX9_sell_71 rfl rfl rfl
  refine z_iconst (v := (-1)) (pc := 28) dX9_sell_28 (by decide) ?_
  exact z_ireturn (pc := 29) dX9_sell_29 rfl rfl rfl
set_option maxHeartbeats 2000000 in
set_option maxRecDepth 20000 in
theorem m_X10_canSell {G : Z_G} (hG : z_GG G) (h : Z_H) (a : Nat) (x1 : Int32) (x2 : Int32) (x3 : Int32) : z_Met G iX10_canSell [.ref a, .int x1, .int x2, .int x3] h ((f_X10_canSell h a x1 x2 x3).bind fun r => some (r, h)) := by
  refine z_in (la := [some (.ref a), some (.int x1), some (.int x2), some (.int x3)]) (by decide) rfl rfl rfl ?_
  unfold f_X10_canSell
  refine z_gg (fun _ => ?_)
  refine z_aload_n (x := a) (pc := 0) dX10_canSell_0 rfl rfl ?_
  refine z_iload_n (x := x1) (pc := 1) dX10_canSell_1 rfl rfl ?_
  refine z_cVP (As := [.int x1]) (rest := []) hG.1 (m_X10_isSeller hG h a x1) (fun _ e => z_gdb e) oX10_isSeller (pc := 2) dX10_canSell_2 rfl w_1255 rfl rfl rfl (fun t1 => ?_)
  refine z_if_eq (tgt := 57) (pc := 5) dX10_canSell_5 (by decide) (fun _ => ?_) (fun _ => ?_)
  · refine z_iconst (v := 0) (pc := 57) dX10_canSell_57 (by decide) ?_
    exact z_ireturn (pc := 58) dX10_canSell_58 rfl (by decide) rfl
  refine z_aload_n (x := a) (pc := 8) dX10_canSell_8 rfl rfl ?_
  refine z_iload_n (x := x1) (pc := 9) dX10_canSell_9 rfl rfl ?_
  refine z_cVP (As := [.int x1]) (rest := []) hG.1 (m_X10_hasQuit hG h a x1) (fun _ e => z_gdb e) oX10_hasQuit (pc := 10) dX10_canSell_10 rfl w_1259 rfl rfl rfl (fun t2 => ?_)
  refine z_if_ne (tgt := 57) (pc := 13) dX10_canSell_13 (by decide) (fun _ => ?_) (fun _ => ?_)
  · refine z_iconst (v := 0) (pc := 57) dX10_canSell_57 (by decide) ?_
    exact z_ireturn (pc := 58) dX10_canSell_58 rfl (by decide) rfl
  refine z_iload_n (x := x2) (pc := 16) dX10_canSell_16 rfl rfl ?_
  refine z_iconst (v := 1) (pc := 17) dX10_canSell_17 (by decide) ?_
  refine z_sipush (v := 9999) (pc := 18) dX10_canSell_18 (by decide) ?_
  refine z_cSP (As := [.int x2, .int 1, .int 9999]) (rest := []) hG.1 (m_X10_in hG h x2 1 9999) oX10_in (pc := 21) dX10_canSell_21 rfl w_1179 rfl rfl rfl (fun t3 => ?_)
  refine z_if_eq (tgt := 57) (pc := 24) dX10_canSell_24 (by decide) (fun _ => ?_) (fun _ => ?_)
  · refine z_iconst (v := 0) (pc := 57) dX10_canSell_57 (by decide) ?_
    exact z_ireturn (pc := 58) dX10_canSell_58 rfl (by decide) rfl
  refine z_iload_n (x := x3) (pc := 27) dX10_canSell_27 rfl rfl ?_
  refine z_aload_n (x := a) (pc := 28) dX10_canSell_28 rfl rfl ?_
  refine z_iload_n (x := x1) (pc := 29) dX10_canSell_29 rfl rfl ?_
  refine z_iconst (v := 0) (pc := 30) dX10_canSell_30 (by decide) ?_
  refine z_cVP (As := [.int x1, .int 0]) (rest := [.int x3]) hG.1 (m_X10_ofSeller hG h a x1 0) (fun _ e => z_gdb e) oX10_ofSeller (pc := 31) dX10_canSell_31 rfl w_1263 rfl rfl rfl (fun t4 => ?_)
  refine z_aload_n (x := a) (pc := 34) dX10_canSell_34 rfl rfl ?_
  refine z_cVP (As := []) (rest := [.int t4, .int x3]) hG.1 (m_X10_now hG h a) (fun _ e => z_gdb e) oX10_now (pc := 35) dX10_canSell_35 rfl w_1247 rfl rfl rfl (fun t5 => ?_)
  refine z_iconst (v := 2) (pc := 38) dX10_canSell_38 (by decide) ?_
  refine z_isub (pc := 39) dX10_canSell_39 ?_
  refine z_cSP (As := [.int t4, .int (t5 - 2)]) (rest := [.int x3]) hG.1 (m_X10_greater hG h t4 (t5 - 2)) oX10_greater (pc := 40) dX10_canSell_40 rfl w_1331 rfl rfl rfl (fun t6 => ?_)
  refine z_aload_n (x := a) (pc := 43) dX10_canSell_43 rfl rfl ?_
  refine z_cVP (As := []) (rest := [.int t6, .int x3]) hG.1 (m_X10_now hG h a) (fun _ e => z_gdb e) oX10_now (pc := 44) dX10_canSell_44 rfl w_1247 rfl rfl rfl (fun t7 => ?_)
  refine z_cSP (As := [.int x3, .int t6, .int t7]) (rest := []) hG.1 (m_X10_in hG h x3 t6 t7) oX10_in (pc := 47) dX10_canSell_47 rfl w_1179 rfl rfl rfl (fun t8 => ?_)
  refine z_if_eq (tgt := 57) (pc := 50) dX10_canSell_50 (by decide) (fun _ => ?_) (fun _ => ?_)
  · refine z_iconst (v := 0) (pc := 57) dX10_canSell_57 (by decide) ?_
    exact z_ireturn (pc := 58) dX10_canSell_58 rfl (by decide) rfl
  refine z_iconst (v := 1) (pc := 53) dX10_canSell_53 (by decide) ?_
  refine z_goto (tgt := 58) (pc := 54) dX10_canSell_54 (by decide) ?_
  exact z_ireturn (pc := 58) dX10_canSell_58 rfl (by decide) rfl
set_option maxHeartbeats 2000000 in
set_option maxRecDepth 20000 in
theorem m_X10_laysOwn {G : Z_G} (hG : z_GG G) (h : Z_H) (a : Nat) : z_Met G iX10_laysOwn [.ref a] h ((f_X10_laysOwn h a).bind fun h1 => some (0, h1)) := by
  refine z_in (la := [some (.ref a), none]) (by decide) rfl rfl rfl ?_
  unfold f_X10_laysOwn
  refine z_gg (fun _ => ?_)
  refine z_iconst (v := 0) (pc := 0) dX10_laysOwn_0 (by decide) ?_
  refine z_istore_n (i := 1) (la' := [some (.ref a), some (.int 0)]) (pc := 1) dX10_laysOwn_1 rfl (by decide) rfl rfl ?_
  refine z_lp (T := Z_H) (s0 := (0, h)) 2 (fun ((v1, h2) : Int32 × Z_H) => [some (.ref a), some (.int v1)]) (fun ((v1, h2) : Int32 × Z_H) => h2) (fun _ => 22) (fun (h3 : Z_H) => [some (.ref a), none]) (fun (h3 : Z_H) => h3) ?_ ?_
  · rintro h3
    try dsimp only
    refine z_iconst (v := 0) (pc := 22) dX10_laysOwn_22 (by decide) ?_
    refine z_istore_n (i := 1) (la' := [some (.ref a), some (.int 0)]) (pc := 23) dX10_laysOwn_23 rfl (by decide) rfl rfl ?_
    refine z_lp (T := Z_H) (s0 := (0, h3)) 24 (fun ((v7, h8) : Int32 × Z_H) => [some (.ref a), some (.int v7)]) (fun ((v7, h8) : Int32 × Z_H) => h8) (fun _ => 77) (fun (h9 : Z_H) => [none, none]) (fun (h9 : Z_H) => h9) ?_ ?_
    · rintro h9
      try dsimp only
      exact z_return (pc := 77) dX10_laysOwn_77 rfl rfl
    intro k' hx2 rec10 hrec10
    rintro ⟨v7, h8⟩
    unfold f_X10_laysOwn_l2
    try dsimp only
    refine z_iload_n (x := v7) (pc := 24) dX10_laysOwn_24 rfl rfl ?_
    refine z_aload_n (x := a) (pc := 25) dX10_laysOwn_25 rfl rfl ?_
    refine z_getR cX10 (pc := 26) dX10_laysOwn_26 (j := 1) (by decide) rfl w_1088 (fun r11 => ?_)
    refine z_sipush (v := 146) (pc := 29) dX10_laysOwn_29 (by decide) ?_
    refine z_aldI (pc := 32) dX10_laysOwn_32 (fun t12 => ?_)
    refine z_ic_ge (tgt := 77) (pc := 33) dX10_laysOwn_33 (by decide) (fun _ => ?_) (fun _ => ?_)
    · exact z_wk (hx2 h8) trivial
    refine z_aload_n (x := a) (pc := 36) dX10_laysOwn_36 rfl rfl ?_
    refine z_getR cX10 (pc := 37) dX10_laysOwn_37 (j := 21) (by decide) rfl w_1108 (fun r13 => ?_)
    refine z_bipush (v := 100) (pc := 40) dX10_laysOwn_40 (by decide) ?_
    refine z_aload_n (x := a) (pc := 42) dX10_laysOwn_42 rfl rfl ?_
    refine z_iload_n (x := v7) (pc := 43) dX10_laysOwn_43 rfl rfl ?_
    refine z_iconst (v := 0) (pc := 44) dX10_laysOwn_44 (by decide) ?_
    refine z_cVP (As := [.int v7, .int 0]) (rest := [.int 100, .ref r13]) hG.1 (m_X10_ofSale hG h8 a v7 0) (fun _ e => z_gdb e) oX10_ofSale (pc := 45) dX10_laysOwn_45 rfl w_1311 rfl rfl rfl (fun t14 => ?_)
    refine z_imul (pc := 48) dX10_laysOwn_48 ?_
    refine z_aload_n (x := a) (pc := 49) dX10_laysOwn_49 rfl rfl ?_
    refine z_iload_n (x := v7) (pc := 50) dX10_laysOwn_50 rfl rfl ?_
    refine z_iconst (v := 2) (pc := 51) dX10_laysOwn_51 (by decide) ?_
    refine z_cVP (As := [.int v7, .int 2]) (rest := [.int ((100 : Int32) * t14), .ref r13]) hG.1 (m_X10_ofSale hG h8 a v7 2) (fun _ e => z_gdb e) oX10_ofSale (pc := 52) dX10_laysOwn_52 rfl w_1311 rfl rfl rfl (fun t15 => ?_)
    refine z_iadd (pc := 55) dX10_laysOwn_55 ?_
    refine z_nm (fun y16 => ?_)
    refine z_dup2 (pc := 56) dX10_laysOwn_56 rfl rfl ?_
    refine z_aldI (pc := 57) dX10_laysOwn_57 (fun t17 => ?_)
    refine z_aload_n (x := a) (pc := 58) dX10_laysOwn_58 rfl rfl ?_
    refine z_iload_n (x := v7) (pc := 59) dX10_laysOwn_59 rfl rfl ?_
    refine z_aload_n (x := a) (pc := 60) dX10_laysOwn_60 rfl rfl ?_
    refine z_iload_n (x := v7) (pc := 61) dX10_laysOwn_61 rfl rfl ?_
    refine z_iconst (v := 1) (pc := 62) dX10_laysOwn_62 (by decide) ?_
    refine z_cVP (As := [.int v7, .int 1]) (rest := [.int v7, .ref a, .int t17, .int y16, .ref r13]) hG.1 (m_X10_ofSale hG h8 a v7 1) (fun _ e => z_gdb e) oX10_ofSale (pc := 63) dX10_laysOwn_63 rfl w_1311 rfl rfl rfl (fun t18 => ?_)
    refine z_cVP (As := [.int v7, .int t18]) (rest := [.int t17, .int y16, .ref r13]) hG.1 (m_X10_net hG h8 a v7 t18) (fun _ e => z_gdb e) oX10_net (pc := 66) dX10_laysOwn_66 rfl w_1323 rfl rfl rfl (fun t19 => ?_)
    refine z_iadd (pc := 69) dX10_laysOwn_69 ?_
    refine z_astI (pc := 70) dX10_laysOwn_70 (fun h20 => ?_)
    refine z_iinc (i := 1) (x := v7) (v := (v7 + 1)) (la' := [some (.ref a), some (.int (v7 + 1))]) (pc := 71) dX10_laysOwn_71 rfl rfl (by decide) rfl rfl ?_
    refine z_goto (tgt := 24) (pc := 74) dX10_laysOwn_74 (by decide) ?_
    exact hrec10 ((v7 + 1), h20)
  intro k' hx1 rec4 hrec4
  rintro ⟨v1, h2⟩
  unfold f_X10_laysOwn_l1
  try dsimp only
  refine z_iload_n (x := v1) (pc := 2) dX10_laysOwn_2 rfl rfl ?_
  refine z_sipush (v := 1100) (pc := 3) dX10_laysOwn_3 (by decide) ?_
  refine z_ic_ge (tgt := 22) (pc := 6) dX10_laysOwn_6 (by decide) (fun _ => ?_) (fun _ => ?_)
  · exact z_wk (hx1 h2) (And.intro rfl trivial)
  refine z_aload_n (x := a) (pc := 9) dX10_laysOwn_9 rfl rfl ?_
  refine z_getR cX10 (pc := 10) dX10_laysOwn_10 (j := 21) (by decide) rfl w_1108 (fun r5 => ?_)
  refine z_iload_n (x := v1) (pc := 13) dX10_laysOwn_13 rfl rfl ?_
  refine z_iconst (v := 0) (pc := 14) dX10_laysOwn_14 (by decide) ?_
  refine z_astI (pc := 15) dX10_laysOwn_15 (fun h6 => ?_)
  refine z_iinc (i := 1) (x := v1) (v := (v1 + 1)) (la' := [some (.ref a), some (.int (v1 + 1))]) (pc := 16) dX10_laysOwn_16 rfl rfl (by decide) rfl rfl ?_
  refine z_goto (tgt := 2) (pc := 19) dX10_laysOwn_19 (by decide) ?_
  exact hrec4 ((v1 + 1), h6)
set_option maxHeartbeats 2000000 in
set_option maxRecDepth 20000 in
theorem m_X10_isActive {G : Z_G} (hG : z_GG G) (h : Z_H) (a : Nat) (x1 : Int32) (x2 : Int32) : z_Met G iX10_isActive [.ref a, .int x1, .int x2] h ((f_X10_isActive h a x1 x2).bind fun r => some (r, h)) := by
  refine z_in (la := [some (.ref a), some (.int x1), some (.int x2), none]) (by decide) rfl rfl rfl ?_
  unfold f_X10_isActive
  refine z_gg (fun _ => ?_)
  refine z_iload_n (x := x1) (pc := 0) dX10_isActive_0 rfl rfl ?_
  refine z_aload_n (x := a) (pc := 1) dX10_isActive_1 rfl rfl ?_
  refine z_getR cX10 (pc := 2) dX10_isActive_2 (j := 1) (by decide) rfl w_1088 (fun r1 => ?_)
  refine z_sipush (v := 145) (pc := 5) dX10_isActive_5 (by decide) ?_
  refine z_aldI (pc := 8) dX10_isActive_8 (fun t2 => ?_)
  refine z_jn 35 (fun (y3 : Int32) => [some (.ref a), some (.int x1), some (.int x2), none]) (fun (y3 : Int32) => [.int y3]) (fun (y3 : Int32) => h) ?_ ?_
  · rintro y3
    try dsimp only
    refine z_istore_n (i := 3) (la' := [some (.ref a), some (.int x1), some (.int x2), some (.int y3)]) (pc := 35) dX10_isActive_35 rfl (by decide) rfl rfl ?_
    refine z_iload_n (x := y3) (pc := 36) dX10_isActive_36 rfl rfl ?_
    refine z_if_ne (tgt := 64) (pc := 37) dX10_isActive_37 (by decide) (fun _ => ?_) (fun _ => ?_)
    · refine z_iconst (v := 0) (pc := 64) dX10_isActive_64 (by decide) ?_
      exact z_ireturn (pc := 65) dX10_isActive_65 rfl (by decide) rfl
    refine z_aload_n (x := a) (pc := 40) dX10_isActive_40 rfl rfl ?_
    refine z_getR cX10 (pc := 41) dX10_isActive_41 (j := 21) (by decide) rfl w_1108 (fun r5 => ?_)
    refine z_bipush (v := 100) (pc := 44) dX10_isActive_44 (by decide) ?_
    refine z_iload_n (x := x1) (pc := 46) dX10_isActive_46 rfl rfl ?_
    refine z_imul (pc := 47) dX10_isActive_47 ?_
    refine z_iload_n (x := x2) (pc := 48) dX10_isActive_48 rfl rfl ?_
    refine z_iadd (pc := 49) dX10_isActive_49 ?_
    refine z_aldI (pc := 50) dX10_isActive_50 (fun t6 => ?_)
    refine z_aload_n (x := a) (pc := 51) dX10_isActive_51 rfl rfl ?_
    refine z_getR cX10 (pc := 52) dX10_isActive_52 (j := 1) (by decide) rfl w_1088 (fun r7 => ?_)
    refine z_iconst (v := 3) (pc := 55) dX10_isActive_55 (by decide) ?_
    refine z_aldI (pc := 56) dX10_isActive_56 (fun t8 => ?_)
    refine z_ic_lt (tgt := 64) (pc := 57) dX10_isActive_57 (by decide) (fun _ => ?_) (fun _ => ?_)
    · refine z_iconst (v := 0) (pc := 64) dX10_isActive_64 (by decide) ?_
      exact z_ireturn (pc := 65) dX10_isActive_65 rfl (by decide) rfl
    refine z_iconst (v := 1) (pc := 60) dX10_isActive_60 (by decide) ?_
    refine z_goto (tgt := 65) (pc := 61) dX10_isActive_61 (by decide) ?_
    exact z_ireturn (pc := 65) dX10_isActive_65 rfl (by decide) rfl
  intro j4 hj4
  refine z_jn 34 (fun (_ : Unit) => [some (.ref a), some (.int x1), some (.int x2), none]) (fun (_ : Unit) => []) (fun (_ : Unit) => h) ?_ ?_
  · rintro _
    try dsimp only
    refine z_iconst (v := 0) (pc := 34) dX10_isActive_34 (by decide) ?_
    exact hj4 0
  intro j9 hj9
  refine z_ic_ge (tgt := 34) (pc := 9) dX10_isActive_9 (by decide) (fun _ => ?_) (fun _ => ?_)
  · exact hj9 ()
  refine z_aload_n (x := a) (pc := 12) dX10_isActive_12 rfl rfl ?_
  refine z_iload_n (x := x1) (pc := 13) dX10_isActive_13 rfl rfl ?_
  refine z_cVP (As := [.int x1]) (rest := []) hG.1 (m_X10_hasQuit hG h a x1) (fun _ e => z_gdb e) oX10_hasQuit (pc := 14) dX10_isActive_14 rfl w_1259 rfl rfl rfl (fun t10 => ?_)
  refine z_if_eq (tgt := 34) (pc := 17) dX10_isActive_17 (by decide) (fun _ => ?_) (fun _ => ?_)
  · exact hj9 ()
  refine z_aload_n (x := a) (pc := 20) dX10_isActive_20 rfl rfl ?_
  refine z_iload_n (x := x1) (pc := 21) dX10_isActive_21 rfl rfl ?_
  refine z_iconst (v := 1) (pc := 22) dX10_isActive_22 (by decide) ?_
  refine z_cVP (As := [.int x1, .int 1]) (rest := []) hG.1 (m_X10_ofSeller hG h a x1 1) (fun _ e => z_gdb e) oX10_ofSeller (pc := 23) dX10_isActive_23 rfl w_1263 rfl rfl rfl (fun t11 => ?_)
  refine z_iload_n (x := x2) (pc := 26) dX10_isActive_26 rfl rfl ?_
  refine z_ic_gt (tgt := 34) (pc := 27) dX10_isActive_27 (by decide) (fun _ => ?_) (fun _ => ?_)
  · exact hj9 ()
  refine z_iconst (v := 1) (pc := 30) dX10_isActive_30 (by decide) ?_
  refine z_goto (tgt := 35) (pc := 31) dX10_isActive_31 (by decide) ?_
  exact hj4 1
set_option maxHeartbeats 2000000 in
set_option maxRecDepth 20000 in
theorem m_X10_belowOf {G : Z_G} (hG : z_GG G) (h : Z_H) (a : Nat) (x1 : Int32) : z_Met G iX10_belowOf [.ref a, .int x1] h ((f_X10_belowOf h a x1).bind fun r => some (r, h)) := by
  refine z_in (la := [some (.ref a), some (.int x1), none, none]) (by decide) rfl rfl rfl ?_
  unfold f_X10_belowOf
  refine z_gg (fun _ => ?_)
  refine z_iconst (v := 0) (pc := 0) dX10_belowOf_0 (by decide) ?_
  refine z_istore_n (i := 2) (la' := [some (.ref a), some (.int x1), some (.int 0), none]) (pc := 1) dX10_belowOf_1 rfl (by decide) rfl rfl ?_
  refine z_iconst (v := 0) (pc := 2) dX10_belowOf_2 (by decide) ?_
  refine z_istore_n (i := 3) (la' := [some (.ref a), some (.int x1), some (.int 0), some (.int 0)]) (pc := 3) dX10_belowOf_3 rfl (by decide) rfl rfl ?_
  refine z_lp (T := Int32) (s0 := (0, 0)) 4 (fun ((v1, v2) : Int32 × Int32) => [some (.ref a), some (.int x1), some (.int v1), some (.int v2)]) (fun ((v1, v2) : Int32 × Int32) => h) (fun _ => 46) (fun (v3 : Int32) => [none, none, some (.int v3), none]) (fun (v3 : Int32) => h) ?_ ?_
  · rintro v3
    try dsimp only
    refine z_iload_n (x := v3) (pc := 46) dX10_belowOf_46 rfl rfl ?_
    exact z_ireturn (pc := 47) dX10_belowOf_47 rfl rfl rfl
  intro k' hx1 rec4 hrec4
  rintro ⟨v1, v2⟩
  unfold f_X10_belowOf_l1
  try dsimp only
  refine z_iload_n (x := v2) (pc := 4) dX10_belowOf_4 rfl rfl ?_
  refine z_aload_n (x := a) (pc := 5) dX10_belowOf_5 rfl rfl ?_
  refine z_getI cX10 (pc := 6) dX10_belowOf_6 (j := 19) (by decide) rfl w_1106 (fun t5 => ?_)
  refine z_ic_ge (tgt := 46) (pc := 9) dX10_belowOf_9 (by decide) (fun _ => ?_) (fun _ => ?_)
  · exact z_wk (hx1 v1) (And.intro rfl trivial)
  refine z_iload_n (x := v1) (pc := 12) dX10_belowOf_12 rfl rfl ?_
  refine z_aload_n (x := a) (pc := 13) dX10_belowOf_13 rfl rfl ?_
  refine z_getR cX10 (pc := 14) dX10_belowOf_14 (j := 18) (by decide) rfl w_1105 (fun r6 => ?_)
  refine z_iload_n (x := v2) (pc := 17) dX10_belowOf_17 rfl rfl ?_
  refine z_aldZ (pc := 18) dX10_belowOf_18 (fun t7 => ?_)
  refine z_jn 38 (fun (y8 : Int32) => [some (.ref a), some (.int x1), none, some (.int v2)]) (fun (y8 : Int32) => [.int y8, .int v1]) (fun (y8 : Int32) => h) ?_ ?_
  · rintro y8
    try dsimp only
    refine z_ior (pc := 38) dX10_belowOf_38 ?_
    refine z_nm (fun v10 => ?_)
    refine z_istore_n (i := 2) (la' := [some (.ref a), some (.int x1), some (.int v10), some (.int v2)]) (pc := 39) dX10_belowOf_39 rfl (by decide) rfl rfl ?_
    refine z_iinc (i := 3) (x := v2) (v := (v2 + 1)) (la' := [some (.ref a), some (.int x1), some (.int v10), some (.int (v2 + 1))]) (pc := 40) dX10_belowOf_40 rfl rfl (by decide) rfl rfl ?_
    refine z_goto (tgt := 4) (pc := 43) dX10_belowOf_43 (by decide) ?_
    exact hrec4 (v10, (v2 + 1))
  intro j9 hj9
  refine z_jn 37 (fun (_ : Unit) => [some (.ref a), some (.int x1), none, some (.int v2)]) (fun (_ : Unit) => [.int v1]) (fun (_ : Unit) => h) ?_ ?_
  · rintro _
    try dsimp only
    refine z_iconst (v := 0) (pc := 37) dX10_belowOf_37 (by decide) ?_
    exact hj9 0
  intro j11 hj11
  refine z_if_eq (tgt := 37) (pc := 19) dX10_belowOf_19 (by decide) (fun _ => ?_) (fun _ => ?_)
  · exact z_wk (hj11 ()) (And.intro rfl (And.intro rfl (And.intro rfl trivial)))
  refine z_aload_n (x := a) (pc := 22) dX10_belowOf_22 rfl rfl ?_
  refine z_iload_n (x := v2) (pc := 23) dX10_belowOf_23 rfl rfl ?_
  refine z_iload_n (x := x1) (pc := 24) dX10_belowOf_24 rfl rfl ?_
  refine z_cVP (As := [.int v2, .int x1]) (rest := [.int v1]) hG.1 (m_X10_stepsUp hG h a v2 x1) (fun _ e => z_gdb e) oX10_stepsUp (pc := 25) dX10_belowOf_25 rfl w_1287 rfl rfl rfl (fun t12 => ?_)
  refine z_if_lt (tgt := 37) (pc := 28) dX10_belowOf_28 (by decide) (fun _ => ?_) (fun _ => ?_)
  · exact z_wk (hj11 ()) (And.intro rfl (And.intro rfl (And.intro rfl trivial)))
  refine z_iconst (v := 1) (pc := 31) dX10_belowOf_31 (by decide) ?_
  refine z_iload_n (x := v2) (pc := 32) dX10_belowOf_32 rfl rfl ?_
  refine z_ishl (pc := 33) dX10_belowOf_33 ?_
  refine z_goto (tgt := 38) (pc := 34) dX10_belowOf_34 (by decide) ?_
  exact z_wk (hj9 ((1 : Int32) <<< (v2 &&& 31))) (And.intro rfl (And.intro rfl (And.intro rfl trivial)))
set_option maxHeartbeats 2000000 in
set_option maxRecDepth 20000 in
theorem m_X10_has {G : Z_G} (hG : z_GG G) (h : Z_H) (x0 : Int32) (x1 : Int32) : z_Met G iX10_has [.int x0, .int x1] h ((f_X10_has h x0 x1).bind fun r => some (r, h)) := by
  refine z_in (la := [some (.int x0), some (.int x1)]) (by decide) rfl rfl rfl ?_
  unfold f_X10_has
  refine z_iload_n (x := x0) (pc := 0) dX10_has_0 rfl rfl ?_
  refine z_iload_n (x := x1) (pc := 1) dX10_has_1 rfl rfl ?_
  refine z_ishr (pc := 2) dX10_has_2 ?_
  refine z_iconst (v := 1) (pc := 3) dX10_has_3 (by decide) ?_
  refine z_iand (pc := 4) dX10_has_4 ?_
  refine z_iconst (v := 1) (pc := 5) dX10_has_5 (by decide) ?_
  refine z_ic_ne (tgt := 13) (pc := 6) dX10_has_6 (by decide) (fun _ => ?_) (fun _ => ?_)
  · refine z_iconst (v := 0) (pc := 13) dX10_has_13 (by decide) ?_
    exact z_ireturn (pc := 14) dX10_has_14 rfl (by decide) rfl
  refine z_iconst (v := 1) (pc := 9) dX10_has_9 (by decide) ?_
  refine z_goto (tgt := 14) (pc := 10) dX10_has_10 (by decide) ?_
  exact z_ireturn (pc := 14) dX10_has_14 rfl (by decide) rfl
set_option maxHeartbeats 2000000 in
set_option maxRecDepth 20000 in
theorem m_X10_volumeOf {G : Z_G} (hG : z_GG G) (h : Z_H) (a : Nat) (x1 : Int32) : z_Met G iX10_volumeOf [.ref a, .int x1] h ((f_X10_volumeOf h a x1).bind fun r => some (r, h)) := by
  refine z_in (la := [some (.ref a), some (.int x1), none, none]) (by decide) rfl rfl rfl ?_
  unfold f_X10_volumeOf
  refine z_gg (fun _ => ?_)
  refine z_iconst (v := 0) (pc := 0) dX10_volumeOf_0 (by decide) ?_
  refine z_istore_n (i := 2) (la' := [some (.ref a), some (.int x1), some (.int 0), none]) (pc := 1) dX10_volumeOf_1 rfl (by decide) rfl rfl ?_
  refine z_iconst (v := 0) (pc := 2) dX10_volumeOf_2 (by decide) ?_
  refine z_aload_n (x := a) (pc := 3) dX10_volumeOf_3 rfl rfl ?_
  refine z_getI cX10 (pc := 4) dX10_volumeOf_4 (j := 20) (by decide) rfl w_1107 (fun t1 => ?_)
  refine z_aload_n (x := a) (pc := 7) dX10_volumeOf_7 rfl rfl ?_
  refine z_getR cX10 (pc := 8) dX10_volumeOf_8 (j := 1) (by decide) rfl w_1088 (fun r2 => ?_)
  refine z_bipush (v := 6) (pc := 11) dX10_volumeOf_11 (by decide) ?_
  refine z_aldI (pc := 13) dX10_volumeOf_13 (fun t3 => ?_)
  refine z_isub (pc := 14) dX10_volumeOf_14 ?_
  refine z_iconst (v := 1) (pc := 15) dX10_volumeOf_15 (by decide) ?_
  refine z_iadd (pc := 16) dX10_volumeOf_16 ?_
  refine z_cSP (As := [.int 0, .int ((t1 - t3) + 1)]) (rest := []) hG.1 (m_X10_greater hG h 0 ((t1 - t3) + 1)) oX10_greater (pc := 17) dX10_volumeOf_17 rfl w_1331 rfl rfl rfl (fun t4 => ?_)
  refine z_istore_n (i := 3) (la' := [some (.ref a), some (.int x1), some (.int 0), some (.int t4)]) (pc := 20) dX10_volumeOf_20 rfl (by decide) rfl rfl ?_
  refine z_lp (T := Int32) (s0 := (0, t4)) 21 (fun ((v5, v6) : Int32 × Int32) => [some (.ref a), some (.int x1), some (.int v5), some (.int v6)]) (fun ((v5, v6) : Int32 × Int32) => h) (fun _ => 49) (fun (v7 : Int32) => [none, none, some (.int v7), none]) (fun (v7 : Int32) => h) ?_ ?_
  · rintro v7
    try dsimp only
    refine z_iload_n (x := v7) (pc := 49) dX10_volumeOf_49 rfl rfl ?_
    exact z_ireturn (pc := 50) dX10_volumeOf_50 rfl rfl rfl
  intro k' hx1 rec8 hrec8
  rintro ⟨v5, v6⟩
  unfold f_X10_volumeOf_l1
  try dsimp only
  refine z_iload_n (x := v6) (pc := 21) dX10_volumeOf_21 rfl rfl ?_
  refine z_aload_n (x := a) (pc := 22) dX10_volumeOf_22 rfl rfl ?_
  refine z_getI cX10 (pc := 23) dX10_volumeOf_23 (j := 20) (by decide) rfl w_1107 (fun t9 => ?_)
  refine z_ic_gt (tgt := 49) (pc := 26) dX10_volumeOf_26 (by decide) (fun _ => ?_) (fun _ => ?_)
  · exact z_wk (hx1 v5) (And.intro rfl trivial)
  refine z_iload_n (x := v5) (pc := 29) dX10_volumeOf_29 rfl rfl ?_
  refine z_aload_n (x := a) (pc := 30) dX10_volumeOf_30 rfl rfl ?_
  refine z_getR cX10 (pc := 31) dX10_volumeOf_31 (j := 21) (by decide) rfl w_1108 (fun r10 => ?_)
  refine z_bipush (v := 100) (pc := 34) dX10_volumeOf_34 (by decide) ?_
  refine z_iload_n (x := x1) (pc := 36) dX10_volumeOf_36 rfl rfl ?_
  refine z_imul (pc := 37) dX10_volumeOf_37 ?_
  refine z_iload_n (x := v6) (pc := 38) dX10_volumeOf_38 rfl rfl ?_
  refine z_iadd (pc := 39) dX10_volumeOf_39 ?_
  refine z_aldI (pc := 40) dX10_volumeOf_40 (fun t11 => ?_)
  refine z_iadd (pc := 41) dX10_volumeOf_41 ?_
  refine z_nm (fun v12 => ?_)
  refine z_istore_n (i := 2) (la' := [some (.ref a), some (.int x1), some (.int v12), some (.int v6)]) (pc := 42) dX10_volumeOf_42 rfl (by decide) rfl rfl ?_
  refine z_iinc (i := 3) (x := v6) (v := (v6 + 1)) (la' := [some (.ref a), some (.int x1), some (.int v12), some (.int (v6 + 1))]) (pc := 43) dX10_volumeOf_43 rfl rfl (by decide) rfl rfl ?_
  refine z_goto (tgt := 21) (pc := 46) dX10_volumeOf_46 (by decide) ?_
  exact hrec8 (v12, (v6 + 1))
set_option maxHeartbeats 2000000 in
set_option maxRecDepth 20000 in
theorem m_X10_groupOf {G : Z_G} (hG : z_GG G) (h : Z_H) (a : Nat) (x1 : Int32) : z_Met G iX10_groupOf [.ref a, .int x1] h ((f_X10_groupOf h a x1).bind fun r => some (r, h)) := by
  refine z_in (la := [some (.ref a), some (.int x1), none, none, none]) (by decide) rfl rfl rfl ?_
  unfold f_X10_groupOf
  refine z_gg (fun _ => ?_)
  refine z_aload_n (x := a) (pc := 0) dX10_groupOf_0 rfl rfl ?_
  refine z_iload_n (x := x1) (pc := 1) dX10_groupOf_1 rfl rfl ?_
  refine z_cVP (As := [.int x1]) (rest := []) hG.1 (m_X10_belowOf hG h a x1) (fun _ e => z_gdb e) oX10_belowOf (pc := 2) dX10_groupOf_2 rfl w_1370 rfl rfl rfl (fun t1 => ?_)
  refine z_istore_n (i := 2) (la' := [some (.ref a), some (.int x1), some (.int t1), none, none]) (pc := 5) dX10_groupOf_5 rfl (by decide) rfl rfl ?_
  refine z_iconst (v := 0) (pc := 6) dX10_groupOf_6 (by decide) ?_
  refine z_istore_n (i := 3) (la' := [some (.ref a), some (.int x1), some (.int t1), some (.int 0), none]) (pc := 7) dX10_groupOf_7 rfl (by decide) rfl rfl ?_
  refine z_iconst (v := 0) (pc := 8) dX10_groupOf_8 (by decide) ?_
  refine z_istore (i := 4) (la' := [some (.ref a), some (.int x1), some (.int t1), some (.int 0), some (.int 0)]) (pc := 9) dX10_groupOf_9 (by decide) rfl rfl ?_
  refine z_weak (la' := [some (.ref a), none, some (.int t1), some (.int 0), some (.int 0)]) (And.intro rfl (And.intro rfl (And.intro rfl (And.intro rfl trivial)))) ?_
  refine z_lp (T := Int32) (s0 := (0, 0)) 11 (fun ((v2, v3) : Int32 × Int32) => [some (.ref a), none, some (.int t1), some (.int v2), some (.int v3)]) (fun ((v2, v3) : Int32 × Int32) => h) (fun _ => 48) (fun (v4 : Int32) => [none, none, none, some (.int v4), none]) (fun (v4 : Int32) => h) ?_ ?_
  · rintro v4
    try dsimp only
    refine z_iload_n (x := v4) (pc := 48) dX10_groupOf_48 rfl rfl ?_
    exact z_ireturn (pc := 49) dX10_groupOf_49 rfl rfl rfl
  intro k' hx1 rec5 hrec5
  rintro ⟨v2, v3⟩
  unfold f_X10_groupOf_l1
  try dsimp only
  refine z_iload (x := v3) (pc := 11) dX10_groupOf_11 rfl ?_
  refine z_aload_n (x := a) (pc := 13) dX10_groupOf_13 rfl rfl ?_
  refine z_getI cX10 (pc := 14) dX10_groupOf_14 (j := 19) (by decide) rfl w_1106 (fun t6 => ?_)
  refine z_ic_ge (tgt := 48) (pc := 17) dX10_groupOf_17 (by decide) (fun _ => ?_) (fun _ => ?_)
  · exact z_wk (hx1 v2) (And.intro rfl trivial)
  refine z_iload_n (x := v2) (pc := 20) dX10_groupOf_20 rfl rfl ?_
  refine z_iload_n (x := t1) (pc := 21) dX10_groupOf_21 rfl rfl ?_
  refine z_iload (x := v3) (pc := 22) dX10_groupOf_22 rfl ?_
  refine z_cSP (As := [.int t1, .int v3]) (rest := [.int v2]) hG.1 (m_X10_has hG h t1 v3) oX10_has (pc := 24) dX10_groupOf_24 rfl w_1374 rfl rfl rfl (fun t7 => ?_)
  refine z_jn 40 (fun (y8 : Int32) => [some (.ref a), none, some (.int t1), none, some (.int v3)]) (fun (y8 : Int32) => [.int y8, .int v2]) (fun (y8 : Int32) => h) ?_ ?_
  · rintro y8
    try dsimp only
    refine z_iadd (pc := 40) dX10_groupOf_40 ?_
    refine z_nm (fun v10 => ?_)
    refine z_istore_n (i := 3) (la' := [some (.ref a), none, some (.int t1), some (.int v10), some (.int v3)]) (pc := 41) dX10_groupOf_41 rfl (by decide) rfl rfl ?_
    refine z_iinc (i := 4) (x := v3) (v := (v3 + 1)) (la' := [some (.ref a), none, some (.int t1), some (.int v10), some (.int (v3 + 1))]) (pc := 42) dX10_groupOf_42 rfl rfl (by decide) rfl rfl ?_
    refine z_goto (tgt := 11) (pc := 45) dX10_groupOf_45 (by decide) ?_
    exact hrec5 (v10, (v3 + 1))
  intro j9 hj9
  refine z_if_eq (tgt := 39) (pc := 27) dX10_groupOf_27 (by decide) (fun _ => ?_) (fun _ => ?_)
  · refine z_iconst (v := 0) (pc := 39) dX10_groupOf_39 (by decide) ?_
    exact z_wk (hj9 0) (And.intro rfl (And.intro rfl (And.intro rfl trivial)))
  refine z_aload_n (x := a) (pc := 30) dX10_groupOf_30 rfl rfl ?_
  refine z_iload (x := v3) (pc := 31) dX10_groupOf_31 rfl ?_
  refine z_cVP (As := [.int v3]) (rest := [.int v2]) hG.1 (m_X10_volumeOf hG h a v3) (fun _ e => z_gdb e) oX10_volumeOf (pc := 33) dX10_groupOf_33 rfl w_1377 rfl rfl rfl (fun t11 => ?_)
  refine z_goto (tgt := 40) (pc := 36) dX10_groupOf_36 (by decide) ?_
  exact z_wk (hj9 t11) (And.intro rfl (And.intro rfl (And.intro rfl trivial)))
set_option maxHeartbeats 2000000 in
set_option maxRecDepth 20000 in
theorem m_X10_directOf {G : Z_G} (hG : z_GG G) (h : Z_H) (a : Nat) (x1 : Int32) : z_Met G iX10_directOf [.ref a, .int x1] h ((f_X10_directOf h a x1).bind fun r => some (r, h)) := by
  refine z_in (la := [some (.ref a), some (.int x1), none, none]) (by decide) rfl rfl rfl ?_
  unfold f_X10_directOf
  refine z_gg (fun _ => ?_)
  refine z_iconst (v := 0) (pc := 0) dX10_directOf_0 (by decide) ?_
  refine z_istore_n (i := 2) (la' := [some (.ref a), some (.int x1), some (.int 0), none]) (pc := 1) dX10_directOf_1 rfl (by decide) rfl rfl ?_
  refine z_iconst (v := 0) (pc := 2) dX10_directOf_2 (by decide) ?_
  refine z_istore_n (i := 3) (la' := [some (.ref a), some (.int x1), some (.int 0), some (.int 0)]) (pc := 3) dX10_directOf_3 rfl (by decide) rfl rfl ?_
  refine z_lp (T := Int32) (s0 := (0, 0)) 4 (fun ((v1, v2) : Int32 × Int32) => [some (.ref a), some (.int x1), some (.int v1), some (.int v2)]) (fun ((v1, v2) : Int32 × Int32) => h) (fun _ => 47) (fun (v3 : Int32) => [none, none, some (.int v3), none]) (fun (v3 : Int32) => h) ?_ ?_
  · rintro v3
    try dsimp only
    refine z_iload_n (x := v3) (pc := 47) dX10_directOf_47 rfl rfl ?_
    exact z_ireturn (pc := 48) dX10_directOf_48 rfl rfl rfl
  intro k' hx1 rec4 hrec4
  rintro ⟨v1, v2⟩
  unfold f_X10_directOf_l1
  try dsimp only
  refine z_iload_n (x := v2) (pc := 4) dX10_directOf_4 rfl rfl ?_
  refine z_aload_n (x := a) (pc := 5) dX10_directOf_5 rfl rfl ?_
  refine z_getI cX10 (pc := 6) dX10_directOf_6 (j := 19) (by decide) rfl w_1106 (fun t5 => ?_)
  refine z_ic_ge (tgt := 47) (pc := 9) dX10_directOf_9 (by decide) (fun _ => ?_) (fun _ => ?_)
  · exact z_wk (hx1 v1) (And.intro rfl trivial)
  refine z_iload_n (x := v1) (pc := 12) dX10_directOf_12 rfl rfl ?_
  refine z_aload_n (x := a) (pc := 13) dX10_directOf_13 rfl rfl ?_
  refine z_getR cX10 (pc := 14) dX10_directOf_14 (j := 18) (by decide) rfl w_1105 (fun r6 => ?_)
  refine z_iload_n (x := v2) (pc := 17) dX10_directOf_17 rfl rfl ?_
  refine z_aldZ (pc := 18) dX10_directOf_18 (fun t7 => ?_)
  refine z_jn 39 (fun (y8 : Int32) => [some (.ref a), some (.int x1), none, some (.int v2)]) (fun (y8 : Int32) => [.int y8, .int v1]) (fun (y8 : Int32) => h) ?_ ?_
  · rintro y8
    try dsimp only
    refine z_ior (pc := 39) dX10_directOf_39 ?_
    refine z_nm (fun v10 => ?_)
    refine z_istore_n (i := 2) (la' := [some (.ref a), some (.int x1), some (.int v10), some (.int v2)]) (pc := 40) dX10_directOf_40 rfl (by decide) rfl rfl ?_
    refine z_iinc (i := 3) (x := v2) (v := (v2 + 1)) (la' := [some (.ref a), some (.int x1), some (.int v10), some (.int (v2 + 1))]) (pc := 41) dX10_directOf_41 rfl rfl (by decide) rfl rfl ?_
    refine z_goto (tgt := 4) (pc := 44) dX10_directOf_44 (by decide) ?_
    exact hrec4 (v10, (v2 + 1))
  intro j9 hj9
  refine z_jn 38 (fun (_ : Unit) => [some (.ref a), some (.int x1), none, some (.int v2)]) (fun (_ : Unit) => [.int v1]) (fun (_ : Unit) => h) ?_ ?_
  · rintro _
    try dsimp only
    refine z_iconst (v := 0) (pc := 38) dX10_directOf_38 (by decide) ?_
    exact hj9 0
  intro j11 hj11
  refine z_if_eq (tgt := 38) (pc := 19) dX10_directOf_19 (by decide) (fun _ => ?_) (fun _ => ?_)
  · exact z_wk (hj11 ()) (And.intro rfl (And.intro rfl (And.intro rfl trivial)))
  refine z_aload_n (x := a) (pc := 22) dX10_directOf_22 rfl rfl ?_
  refine z_getR cX10 (pc := 23) dX10_directOf_23 (j := 17) (by decide) rfl w_1104 (fun r12 => ?_)
  refine z_iload_n (x := v2) (pc := 26) dX10_directOf_26 rfl rfl ?_
  refine z_aldI (pc := 27) dX10_directOf_27 (fun t13 => ?_)
  refine z_iload_n (x := x1) (pc := 28) dX10_directOf_28 rfl rfl ?_
  refine z_ic_ne (tgt := 38) (pc := 29) dX10_directOf_29 (by decide) (fun _ => ?_) (fun _ => ?_)
  · exact z_wk (hj11 ()) (And.intro rfl (And.intro rfl (And.intro rfl trivial)))
  refine z_iconst (v := 1) (pc := 32) dX10_directOf_32 (by decide) ?_
  refine z_iload_n (x := v2) (pc := 33) dX10_directOf_33 rfl rfl ?_
  refine z_ishl (pc := 34) dX10_directOf_34 ?_
  refine z_goto (tgt := 39) (pc := 35) dX10_directOf_35 (by decide) ?_
  exact z_wk (hj9 ((1 : Int32) <<< (v2 &&& 31))) (And.intro rfl (And.intro rfl (And.intro rfl trivial)))
set_option maxHeartbeats 2000000 in
set_option maxRecDepth 20000 in
theorem m_X10_legsOf {G : Z_G} (hG : z_GG G) (h : Z_H) (a : Nat) (x1 : Int32) : z_Met G iX10_legsOf [.ref a, .int x1] h ((f_X10_legsOf h a x1).bind fun r => some (r, h)) := by
  refine z_in (la := [some (.ref a), some (.int x1), none, none, none]) (by decide) rfl rfl rfl ?_
  unfold f_X10_legsOf
  refine z_gg (fun _ => ?_)
  refine z_aload_n (x := a) (pc := 0) dX10_legsOf_0 rfl rfl ?_
  refine z_iload_n (x := x1) (pc := 1) dX10_legsOf_1 rfl rfl ?_
  refine z_cVP (As := [.int x1]) (rest := []) hG.1 (m_X10_directOf hG h a x1) (fun _ e => z_gdb e) oX10_directOf (pc := 2) dX10_legsOf_2 rfl w_1385 rfl rfl rfl (fun t1 => ?_)
  refine z_istore_n (i := 2) (la' := [some (.ref a), some (.int x1), some (.int t1), none, none]) (pc := 5) dX10_legsOf_5 rfl (by decide) rfl rfl ?_
  refine z_iconst (v := 0) (pc := 6) dX10_legsOf_6 (by decide) ?_
  refine z_istore_n (i := 3) (la' := [some (.ref a), some (.int x1), some (.int t1), some (.int 0), none]) (pc := 7) dX10_legsOf_7 rfl (by decide) rfl rfl ?_
  refine z_iconst (v := 0) (pc := 8) dX10_legsOf_8 (by decide) ?_
  refine z_istore (i := 4) (la' := [some (.ref a), some (.int x1), some (.int t1), some (.int 0), some (.int 0)]) (pc := 9) dX10_legsOf_9 (by decide) rfl rfl ?_
  refine z_weak (la' := [some (.ref a), none, some (.int t1), some (.int 0), some (.int 0)]) (And.intro rfl (And.intro rfl (And.intro rfl (And.intro rfl trivial)))) ?_
  refine z_lp (T := Int32) (s0 := (0, 0)) 11 (fun ((v2, v3) : Int32 × Int32) => [some (.ref a), none, some (.int t1), some (.int v2), some (.int v3)]) (fun ((v2, v3) : Int32 × Int32) => h) (fun _ => 56) (fun (v4 : Int32) => [none, none, none, some (.int v4), none]) (fun (v4 : Int32) => h) ?_ ?_
  · rintro v4
    try dsimp only
    refine z_iload_n (x := v4) (pc := 56) dX10_legsOf_56 rfl rfl ?_
    exact z_ireturn (pc := 57) dX10_legsOf_57 rfl rfl rfl
  intro k' hx1 rec5 hrec5
  rintro ⟨v2, v3⟩
  unfold f_X10_legsOf_l1
  try dsimp only
  refine z_iload (x := v3) (pc := 11) dX10_legsOf_11 rfl ?_
  refine z_aload_n (x := a) (pc := 13) dX10_legsOf_13 rfl rfl ?_
  refine z_getI cX10 (pc := 14) dX10_legsOf_14 (j := 19) (by decide) rfl w_1106 (fun t6 => ?_)
  refine z_ic_ge (tgt := 56) (pc := 17) dX10_legsOf_17 (by decide) (fun _ => ?_) (fun _ => ?_)
  · exact z_wk (hx1 v2) (And.intro rfl trivial)
  refine z_iload_n (x := v2) (pc := 20) dX10_legsOf_20 rfl rfl ?_
  refine z_iload_n (x := t1) (pc := 21) dX10_legsOf_21 rfl rfl ?_
  refine z_iload (x := v3) (pc := 22) dX10_legsOf_22 rfl ?_
  refine z_cSP (As := [.int t1, .int v3]) (rest := [.int v2]) hG.1 (m_X10_has hG h t1 v3) oX10_has (pc := 24) dX10_legsOf_24 rfl w_1374 rfl rfl rfl (fun t7 => ?_)
  refine z_jn 48 (fun (y8 : Int32) => [some (.ref a), none, some (.int t1), none, some (.int v3)]) (fun (y8 : Int32) => [.int y8, .int v2]) (fun (y8 : Int32) => h) ?_ ?_
  · rintro y8
    try dsimp only
    refine z_iadd (pc := 48) dX10_legsOf_48 ?_
    refine z_nm (fun v10 => ?_)
    refine z_istore_n (i := 3) (la' := [some (.ref a), none, some (.int t1), some (.int v10), some (.int v3)]) (pc := 49) dX10_legsOf_49 rfl (by decide) rfl rfl ?_
    refine z_iinc (i := 4) (x := v3) (v := (v3 + 1)) (la' := [some (.ref a), none, some (.int t1), some (.int v10), some (.int (v3 + 1))]) (pc := 50) dX10_legsOf_50 rfl rfl (by decide) rfl rfl ?_
    refine z_goto (tgt := 11) (pc := 53) dX10_legsOf_53 (by decide) ?_
    exact hrec5 (v10, (v3 + 1))
  intro j9 hj9
  refine z_jn 47 (fun (_ : Unit) => [some (.ref a), none, some (.int t1), none, some (.int v3)]) (fun (_ : Unit) => [.int v2]) (fun (_ : Unit) => h) ?_ ?_
  · rintro _
    try dsimp only
    refine z_iconst (v := 0) (pc := 47) dX10_legsOf_47 (by decide) ?_
    exact hj9 0
  intro j11 hj11
  refine z_if_eq (tgt := 47) (pc := 27) dX10_legsOf_27 (by decide) (fun _ => ?_) (fun _ => ?_)
  · exact z_wk (hj11 ()) (And.intro rfl (And.intro rfl (And.intro rfl trivial)))
  refine z_aload_n (x := a) (pc := 30) dX10_legsOf_30 rfl rfl ?_
  refine z_iload (x := v3) (pc := 31) dX10_legsOf_31 rfl ?_
  refine z_aload_n (x := a) (pc := 33) dX10_legsOf_33 rfl rfl ?_
  refine z_getI cX10 (pc := 34) dX10_legsOf_34 (j := 20) (by decide) rfl w_1107 (fun t12 => ?_)
  refine z_cVP (As := [.int v3, .int t12]) (rest := [.int v2]) hG.1 (m_X10_isActive hG h a v3 t12) (fun _ e => z_gdb e) oX10_isActive (pc := 37) dX10_legsOf_37 rfl w_1354 rfl rfl rfl (fun t13 => ?_)
  refine z_if_eq (tgt := 47) (pc := 40) dX10_legsOf_40 (by decide) (fun _ => ?_) (fun _ => ?_)
  · exact z_wk (hj11 ()) (And.intro rfl (And.intro rfl (And.intro rfl trivial)))
  refine z_iconst (v := 1) (pc := 43) dX10_legsOf_43 (by decide) ?_
  refine z_goto (tgt := 48) (pc := 44) dX10_legsOf_44 (by decide) ?_
  exact z_wk (hj9 1) (And.intro rfl (And.intro rfl (And.intro rfl trivial)))
set_option maxHeartbeats 2000000 in
set_option maxRecDepth 20000 in
theorem m_X10_rankBy {G : Z_G} (hG : z_GG G) (h : Z_H) (a : Nat) (x1 : Int32) (x2 : Int32) : z_Met G iX10_rankBy [.ref a, .int x1, .int x2] h ((f_X10_rankBy h a x1 x2).bind fun r => some (r, h)) := by
  refine z_in (la := [some (.ref a), some (.int x1), some (.int x2), none, none]) (by decide) rfl rfl rfl ?_
  unfold f_X10_rankBy
  refine z_gg (fun _ => ?_)
  refine z_iconst (v := 0) (pc := 0) dX10_rankBy_0 (by decide) ?_
  refine z_istore_n (i := 3) (la' := [some (.ref a), some (.int x1), some (.int x2), some (.int 0), none]) (pc := 1) dX10_rankBy_1 rfl (by decide) rfl rfl ?_
  refine z_iconst (v := 1) (pc := 2) dX10_rankBy_2 (by decide) ?_
  refine z_istore (i := 4) (la' := [some (.ref a), some (.int x1), some (.int x2), some (.int 0), some (.int 1)]) (pc := 3) dX10_rankBy_3 (by decide) rfl rfl ?_
  refine z_lp (T := Int32) (s0 := (0, 1)) 5 (fun ((v1, v2) : Int32 × Int32) => [some (.ref a), some (.int x1), some (.int x2), some (.int v1), some (.int v2)]) (fun ((v1, v2) : Int32 × Int32) => h) (fun _ => 52) (fun (v3 : Int32) => [none, none, none, some (.int v3), none]) (fun (v3 : Int32) => h) ?_ ?_
  · rintro v3
    try dsimp only
    refine z_iload_n (x := v3) (pc := 52) dX10_rankBy_52 rfl rfl ?_
    exact z_ireturn (pc := 53) dX10_rankBy_53 rfl rfl rfl
  intro k' hx1 rec4 hrec4
  rintro ⟨v1, v2⟩
  unfold f_X10_rankBy_l1
  try dsimp only
  refine z_iload (x := v2) (pc := 5) dX10_rankBy_5 rfl ?_
  refine z_iconst (v := 3) (pc := 7) dX10_rankBy_7 (by decide) ?_
  refine z_ic_gt (tgt := 52) (pc := 8) dX10_rankBy_8 (by decide) (fun _ => ?_) (fun _ => ?_)
  · exact z_wk (hx1 v1) (And.intro rfl trivial)
  refine z_iload_n (x := x1) (pc := 11) dX10_rankBy_11 rfl rfl ?_
  refine z_aload_n (x := a) (pc := 12) dX10_rankBy_12 rfl rfl ?_
  refine z_getR cX10 (pc := 13) dX10_rankBy_13 (j := 1) (by decide) rfl w_1088 (fun r5 => ?_)
  refine z_bipush (v := 7) (pc := 16) dX10_rankBy_16 (by decide) ?_
  refine z_iload (x := v2) (pc := 18) dX10_rankBy_18 rfl ?_
  refine z_iadd (pc := 20) dX10_rankBy_20 ?_
  refine z_aldI (pc := 21) dX10_rankBy_21 (fun t6 => ?_)
  refine z_jn 45 (fun (y7 : Int32) => [some (.ref a), some (.int x1), some (.int x2), none, some (.int v2)]) (fun (y7 : Int32) => [.int y7]) (fun (y7 : Int32) => h) ?_ ?_
  · rintro y7
    try dsimp only
    refine z_istore_n (i := 3) (la' := [some (.ref a), some (.int x1), some (.int x2), some (.int y7), some (.int v2)]) (pc := 45) dX10_rankBy_45 rfl (by decide) rfl rfl ?_
    refine z_iinc (i := 4) (x := v2) (v := (v2 + 1)) (la' := [some (.ref a), some (.int x1), some (.int x2), some (.int y7), some (.int (v2 + 1))]) (pc := 46) dX10_rankBy_46 rfl rfl (by decide) rfl rfl ?_
    refine z_goto (tgt := 5) (pc := 49) dX10_rankBy_49 (by decide) ?_
    exact hrec4 (y7, (v2 + 1))
  intro j8 hj8
  refine z_jn 44 (fun (_ : Unit) => [some (.ref a), some (.int x1), some (.int x2), some (.int v1), some (.int v2)]) (fun (_ : Unit) => []) (fun (_ : Unit) => h) ?_ ?_
  · rintro _
    try dsimp only
    refine z_iload_n (x := v1) (pc := 44) dX10_rankBy_44 rfl rfl ?_
    exact z_wk (hj8 v1) (And.intro rfl (And.intro rfl (And.intro rfl (And.intro rfl trivial))))
  intro j9 hj9
  refine z_ic_lt (tgt := 44) (pc := 22) dX10_rankBy_22 (by decide) (fun _ => ?_) (fun _ => ?_)
  · exact hj9 ()
  refine z_iload_n (x := x2) (pc := 25) dX10_rankBy_25 rfl rfl ?_
  refine z_aload_n (x := a) (pc := 26) dX10_rankBy_26 rfl rfl ?_
  refine z_getR cX10 (pc := 27) dX10_rankBy_27 (j := 1) (by decide) rfl w_1088 (fun r10 => ?_)
  refine z_bipush (v := 11) (pc := 30) dX10_rankBy_30 (by decide) ?_
  refine z_iload (x := v2) (pc := 32) dX10_rankBy_32 rfl ?_
  refine z_iadd (pc := 34) dX10_rankBy_34 ?_
  refine z_aldI (pc := 35) dX10_rankBy_35 (fun t11 => ?_)
  refine z_ic_lt (tgt := 44) (pc := 36) dX10_rankBy_36 (by decide) (fun _ => ?_) (fun _ => ?_)
  · exact hj9 ()
  refine z_iload (x := v2) (pc := 39) dX10_rankBy_39 rfl ?_
  refine z_goto (tgt := 45) (pc := 41) dX10_rankBy_41 (by decide) ?_
  exact z_wk (hj8 v2) (And.intro rfl (And.intro rfl (And.intro rfl (And.intro rfl trivial))))
set_option maxHeartbeats 2000000 in
set_option maxRecDepth 20000 in
theorem m_X10_rankOf {G : Z_G} (hG : z_GG G) (h : Z_H) (a : Nat) (x1 : Int32) : z_Met G iX10_rankOf [.ref a, .int x1] h ((f_X10_rankOf h a x1).bind fun r => some (r, h)) := by
  refine z_in (la := [some (.ref a), some (.int x1)]) (by decide) rfl rfl rfl ?_
  unfold f_X10_rankOf
  refine z_gg (fun _ => ?_)
  refine z_aload_n (x := a) (pc := 0) dX10_rankOf_0 rfl rfl ?_
  refine z_aload_n (x := a) (pc := 1) dX10_rankOf_1 rfl rfl ?_
  refine z_iload_n (x := x1) (pc := 2) dX10_rankOf_2 rfl rfl ?_
  refine z_cVP (As := [.int x1]) (rest := [.ref a]) hG.1 (m_X10_groupOf hG h a x1) (fun _ e => z_gdb e) oX10_groupOf (pc := 3) dX10_rankOf_3 rfl w_1366 rfl rfl rfl (fun t1 => ?_)
  refine z_aload_n (x := a) (pc := 6) dX10_rankOf_6 rfl rfl ?_
  refine z_iload_n (x := x1) (pc := 7) dX10_rankOf_7 rfl rfl ?_
  refine z_cVP (As := [.int x1]) (rest := [.int t1, .ref a]) hG.1 (m_X10_legsOf hG h a x1) (fun _ e => z_gdb e) oX10_legsOf (pc := 8) dX10_rankOf_8 rfl w_1381 rfl rfl rfl (fun t2 => ?_)
  refine z_cVP (As := [.int t1, .int t2]) (rest := []) hG.1 (m_X10_rankBy hG h a t1 t2) (fun _ e => z_gdb e) oX10_rankBy (pc := 11) dX10_rankOf_11 rfl w_1389 rfl rfl rfl (fun t3 => ?_)
  exact z_ireturn (pc := 14) dX10_rankOf_14 rfl rfl rfl
set_option maxHeartbeats 2000000 in
set_option maxRecDepth 20000 in
theorem m_X10_ones {G : Z_G} (hG : z_GG G) (h : Z_H) (x0 : Int32) : z_Met G iX10_ones [.int x0] h ((f_X10_ones h x0).bind fun r => some (r, h)) := by
  refine z_in (la := [some (.int x0), none, none]) (by decide) rfl rfl rfl ?_
  unfold f_X10_ones
  refine z_iconst (v := 0) (pc := 0) dX10_ones_0 (by decide) ?_
  refine z_istore_n (i := 1) (la' := [some (.int x0), some (.int 0), none]) (pc := 1) dX10_ones_1 rfl (by decide) rfl rfl ?_
  refine z_iconst (v := 0) (pc := 2) dX10_ones_2 (by decide) ?_
  refine z_istore_n (i := 2) (la' := [some (.int x0), some (.int 0), some (.int 0)]) (pc := 3) dX10_ones_3 rfl (by decide) rfl rfl ?_
  refine z_lp (T := Int32) (s0 := (0, 0)) 4 (fun ((v1, v2) : Int32 × Int32) => [some (.int x0), some (.int v1), some (.int v2)]) (fun ((v1, v2) : Int32 × Int32) => h) (fun _ => 32) (fun (v3 : Int32) => [none, some (.int v3), none]) (fun (v3 : Int32) => h) ?_ ?_
  · rintro v3
    try dsimp only
    refine z_iload_n (x := v3) (pc := 32) dX10_ones_32 rfl rfl ?_
    exact z_ireturn (pc := 33) dX10_ones_33 rfl rfl rfl
  intro k' hx1 rec4 hrec4
  rintro ⟨v1, v2⟩
  unfold f_X10_ones_l1
  try dsimp only
  refine z_iload_n (x := v2) (pc := 4) dX10_ones_4 rfl rfl ?_
  refine z_bipush (v := 10) (pc := 5) dX10_ones_5 (by decide) ?_
  refine z_ic_gt (tgt := 32) (pc := 7) dX10_ones_7 (by decide) (fun _ => ?_) (fun _ => ?_)
  · exact z_wk (hx1 v1) (And.intro rfl trivial)
  refine z_iload_n (x := v1) (pc := 10) dX10_ones_10 rfl rfl ?_
  refine z_iload_n (x := x0) (pc := 11) dX10_ones_11 rfl rfl ?_
  refine z_iload_n (x := v2) (pc := 12) dX10_ones_12 rfl rfl ?_
  refine z_cSP (As := [.int x0, .int v2]) (rest := [.int v1]) hG.1 (m_X10_has hG h x0 v2) oX10_has (pc := 13) dX10_ones_13 rfl w_1374 rfl rfl rfl (fun t5 => ?_)
  refine z_jn 24 (fun (y6 : Int32) => [some (.int x0), none, some (.int v2)]) (fun (y6 : Int32) => [.int y6, .int v1]) (fun (y6 : Int32) => h) ?_ ?_
  · rintro y6
    try dsimp only
    refine z_iadd (pc := 24) dX10_ones_24 ?_
    refine z_nm (fun v8 => ?_)
    refine z_istore_n (i := 1) (la' := [some (.int x0), some (.int v8), some (.int v2)]) (pc := 25) dX10_ones_25 rfl (by decide) rfl rfl ?_
    refine z_iinc (i := 2) (x := v2) (v := (v2 + 1)) (la' := [some (.int x0), some (.int v8), some (.int (v2 + 1))]) (pc := 26) dX10_ones_26 rfl rfl (by decide) rfl rfl ?_
    refine z_goto (tgt := 4) (pc := 29) dX10_ones_29 (by decide) ?_
    exact hrec4 (v8, (v2 + 1))
  intro j7 hj7
  refine z_if_eq (tgt := 23) (pc := 16) dX10_ones_16 (by decide) (fun _ => ?_) (fun _ => ?_)
  · refine z_iconst (v := 0) (pc := 23) dX10_ones_23 (by decide) ?_
    exact z_wk (hj7 0) (And.intro rfl (And.intro rfl trivial))
  refine z_iconst (v := 1) (pc := 19) dX10_ones_19 (by decide) ?_
  refine z_goto (tgt := 24) (pc := 20) dX10_ones_20 (by decide) ?_
  exact z_wk (hj7 1) (And.intro rfl (And.intro rfl trivial))
set_option maxHeartbeats 2000000 in
set_option maxRecDepth 20000 in
theorem m_X10_leaf {G : Z_G} (hG : z_GG G) (h : Z_H) (a : Nat) (x1 : Int32) (x2 : Int32) : z_Met G iX10_leaf [.ref a, .int x1, .int x2] h ((f_X10_leaf h a x1 x2).bind fun r => some (r, h)) := by
  refine z_in (la := [some (.ref a), some (.int x1), some (.int x2), none, none]) (by decide) rfl rfl rfl ?_
  unfold f_X10_leaf
  refine z_gg (fun _ => ?_)
  refine z_aload_n (x := a) (pc := 0) dX10_leaf_0 rfl rfl ?_
  refine z_getR cX10 (pc := 1) dX10_leaf_1 (j := 1) (by decide) rfl w_1088 (fun r1 => ?_)
  refine z_iload_n (x := x1) (pc := 4) dX10_leaf_4 rfl rfl ?_
  refine z_bipush (v := 16) (pc := 5) dX10_leaf_5 (by decide) ?_
  refine z_iadd (pc := 7) dX10_leaf_7 ?_
  refine z_aldI (pc := 8) dX10_leaf_8 (fun t2 => ?_)
  refine z_istore_n (i := 3) (la' := [some (.ref a), some (.int x1), some (.int x2), some (.int t2), none]) (pc := 9) dX10_leaf_9 rfl (by decide) rfl rfl ?_
  refine z_iload_n (x := x2) (pc := 10) dX10_leaf_10 rfl rfl ?_
  refine z_aload_n (x := a) (pc := 11) dX10_leaf_11 rfl rfl ?_
  refine z_getR cX10 (pc := 12) dX10_leaf_12 (j := 1) (by decide) rfl w_1088 (fun r3 => ?_)
  refine z_sipush (v := 145) (pc := 15) dX10_leaf_15 (by decide) ?_
  refine z_aldI (pc := 18) dX10_leaf_18 (fun t4 => ?_)
  refine z_jn 35 (fun (y5 : Int32) => [some (.ref a), some (.int x1), some (.int x2), some (.int t2), none]) (fun (y5 : Int32) => [.int y5]) (fun (y5 : Int32) => h) ?_ ?_
  · rintro y5
    try dsimp only
    refine z_istore (i := 4) (la' := [some (.ref a), some (.int x1), some (.int x2), some (.int t2), some (.int y5)]) (pc := 35) dX10_leaf_35 (by decide) rfl rfl ?_
    refine z_aload_n (x := a) (pc := 37) dX10_leaf_37 rfl rfl ?_
    refine z_getR cX10 (pc := 38) dX10_leaf_38 (j := 1) (by decide) rfl w_1088 (fun r7 => ?_)
    refine z_iload_n (x := x1) (pc := 41) dX10_leaf_41 rfl rfl ?_
    refine z_aldI (pc := 42) dX10_leaf_42 (fun t8 => ?_)
    refine z_bz (fun hs0 => ?_) (fun hs0 => ?_)
    · refine z_tsw (tgt := 68) (off := 25) (pc := 43) dX10_leaf_43 (by rw [hs0]; decide) (by rw [hs0]; decide) (by rw [hs0]; rfl) (by decide) ?_
      refine z_iload_n (x := t2) (pc := 68) dX10_leaf_68 rfl rfl ?_
      exact z_ireturn (pc := 69) dX10_leaf_69 rfl rfl rfl
    refine z_bz (fun hs1 => ?_) (fun hs1 => ?_)
    · refine z_tsw (tgt := 70) (off := 27) (pc := 43) dX10_leaf_43 (by rw [hs1]; decide) (by rw [hs1]; decide) (by rw [hs1]; rfl) (by decide) ?_
      refine z_iload_n (x := t2) (pc := 70) dX10_leaf_70 rfl rfl ?_
      refine z_aload_n (x := a) (pc := 71) dX10_leaf_71 rfl rfl ?_
      refine z_iload_n (x := x2) (pc := 72) dX10_leaf_72 rfl rfl ?_
      refine z_cVP (As := [.int x2]) (rest := [.int t2]) hG.1 (m_X10_rankOf hG h a x2) (fun _ e => z_gdb e) oX10_rankOf (pc := 73) dX10_leaf_73 rfl w_1362 rfl rfl rfl (fun t9 => ?_)
      refine z_imul (pc := 76) dX10_leaf_76 ?_
      exact z_ireturn (pc := 77) dX10_leaf_77 rfl rfl rfl
    refine z_bz (fun hs2 => ?_) (fun hs2 => ?_)
    · refine z_tsw (tgt := 78) (off := 35) (pc := 43) dX10_leaf_43 (by rw [hs2]; decide) (by rw [hs2]; decide) (by rw [hs2]; rfl) (by decide) ?_
      refine z_iload_n (x := t2) (pc := 78) dX10_leaf_78 rfl rfl ?_
      refine z_iconst (v := 5) (pc := 79) dX10_leaf_79 (by decide) ?_
      refine z_aload_n (x := a) (pc := 80) dX10_leaf_80 rfl rfl ?_
      refine z_iload_n (x := x2) (pc := 81) dX10_leaf_81 rfl rfl ?_
      refine z_cVP (As := [.int x2]) (rest := [.int 5, .int t2]) hG.1 (m_X10_directOf hG h a x2) (fun _ e => z_gdb e) oX10_directOf (pc := 82) dX10_leaf_82 rfl w_1385 rfl rfl rfl (fun t10 => ?_)
      refine z_cSP (As := [.int t10]) (rest := [.int 5, .int t2]) hG.1 (m_X10_ones hG h t10) oX10_ones (pc := 85) dX10_leaf_85 rfl w_1401 rfl rfl rfl (fun t11 => ?_)
      refine z_cSP (As := [.int 5, .int t11]) (rest := [.int t2]) hG.1 (m_X10_lesser hG h 5 t11) oX10_lesser (pc := 88) dX10_leaf_88 rfl w_1230 rfl rfl rfl (fun t12 => ?_)
      refine z_imul (pc := 91) dX10_leaf_91 ?_
      exact z_ireturn (pc := 92) dX10_leaf_92 rfl rfl rfl
    refine z_tswO (tgt := 93) (pc := 43) dX10_leaf_43 (z_out (fun v h1 h2 => by
      have hv : v = 0 ∨ v = 1 ∨ v = 2 := by omega
      rcases hv with rfl | rfl | rfl
      · exact hs0
      · exact hs1
      · exact hs2)) (by decide) ?_
    refine z_aload_n (x := a) (pc := 93) dX10_leaf_93 rfl rfl ?_
    refine z_getI cX10 (pc := 94) dX10_leaf_94 (j := 20) (by decide) rfl w_1107 (fun t13 => ?_)
    refine z_iload (x := y5) (pc := 97) dX10_leaf_97 rfl ?_
    refine z_isub (pc := 99) dX10_leaf_99 ?_
    refine z_aload_n (x := a) (pc := 100) dX10_leaf_100 rfl rfl ?_
    refine z_getR cX10 (pc := 101) dX10_leaf_101 (j := 1) (by decide) rfl w_1088 (fun r14 => ?_)
    refine z_iload_n (x := x1) (pc := 104) dX10_leaf_104 rfl rfl ?_
    refine z_bipush (v := 8) (pc := 105) dX10_leaf_105 (by decide) ?_
    refine z_iadd (pc := 107) dX10_leaf_107 ?_
    refine z_aldI (pc := 108) dX10_leaf_108 (fun t15 => ?_)
    refine z_ic_lt (tgt := 116) (pc := 109) dX10_leaf_109 (by decide) (fun _ => ?_) (fun _ => ?_)
    · refine z_iconst (v := 0) (pc := 116) dX10_leaf_116 (by decide) ?_
      exact z_ireturn (pc := 117) dX10_leaf_117 rfl rfl rfl
    refine z_iload_n (x := t2) (pc := 112) dX10_leaf_112 rfl rfl ?_
    refine z_goto (tgt := 117) (pc := 113) dX10_leaf_113 (by decide) ?_
    exact z_ireturn (pc := 117) dX10_leaf_117 rfl rfl rfl
  intro j6 hj6
  refine z_ic_ge (tgt := 31) (pc := 19) dX10_leaf_19 (by decide) (fun _ => ?_) (fun _ => ?_)
  · refine z_aload_n (x := a) (pc := 31) dX10_leaf_31 rfl rfl ?_
    refine z_cVP (As := []) (rest := []) hG.1 (m_X10_now hG h a) (fun _ e => z_gdb e) oX10_now (pc := 32) dX10_leaf_32 rfl w_1247 rfl rfl rfl (fun t16 => ?_)
    exact hj6 t16
  refine z_aload_n (x := a) (pc := 22) dX10_leaf_22 rfl rfl ?_
  refine z_iload_n (x := x2) (pc := 23) dX10_leaf_23 rfl rfl ?_
  refine z_iconst (v := 0) (pc := 24) dX10_leaf_24 (by decide) ?_
  refine z_cVP (As := [.int x2, .int 0]) (rest := []) hG.1 (m_X10_ofSeller hG h a x2 0) (fun _ e => z_gdb e) oX10_ofSeller (pc := 25) dX10_leaf_25 rfl w_1263 rfl rfl rfl (fun t17 => ?_)
  refine z_goto (tgt := 35) (pc := 28) dX10_leaf_28 (by decide) ?_
  exact hj6 t17
set_option maxHeartbeats 2000000 in
set_option maxRecDepth 20000 in
theorem m_X10_percentOf {G : Z_G} (hG : z_GG G) (h : Z_H) (a : Nat) (x1 : Int32) (x2 : Int32) : z_Met G iX10_percentOf [.ref a, .int x1, .int x2] h ((f_X10_percentOf h a x1 x2).bind some) := by
  refine z_in (la := [some (.ref a), some (.int x1), some (.int x2), none, none, none, none, none, none]) (by decide) rfl rfl rfl ?_
  unfold f_X10_percentOf
  refine z_gg (fun _ => ?_)
  refine z_bipush (v := 19) (pc := 0) dX10_percentOf_0 (by decide) ?_
  refine z_bipush (v := 25) (pc := 2) dX10_percentOf_2 (by decide) ?_
  refine z_iload_n (x := x1) (pc := 4) dX10_percentOf_4 rfl rfl ?_
  refine z_iconst (v := 1) (pc := 5) dX10_percentOf_5 (by decide) ?_
  refine z_isub (pc := 6) dX10_percentOf_6 ?_
  refine z_imul (pc := 7) dX10_percentOf_7 ?_
  refine z_iadd (pc := 8) dX10_percentOf_8 ?_
  refine z_nm (fun v1 => ?_)
  refine z_istore_n (i := 3) (la' := [some (.ref a), some (.int x1), some (.int x2), some (.int v1), none, none, none, none, none]) (pc := 9) dX10_percentOf_9 rfl (by decide) rfl rfl ?_
  refine z_iconst (v := 0) (pc := 10) dX10_percentOf_10 (by decide) ?_
  refine z_istore (i := 4) (la' := [some (.ref a), some (.int x1), some (.int x2), some (.int v1), some (.int 0), none, none, none, none]) (pc := 11) dX10_percentOf_11 (by decide) rfl rfl ?_
  refine z_aload_n (x := a) (pc := 13) dX10_percentOf_13 rfl rfl ?_
  refine z_getR cX10 (pc := 14) dX10_percentOf_14 (j := 1) (by decide) rfl w_1088 (fun r2 => ?_)
  refine z_iload_n (x := v1) (pc := 17) dX10_percentOf_17 rfl rfl ?_
  refine z_aldI (pc := 18) dX10_percentOf_18 (fun t3 => ?_)
  refine z_iconst (v := 1) (pc := 19) dX10_percentOf_19 (by decide) ?_
  refine z_isub (pc := 20) dX10_percentOf_20 ?_
  refine z_nm (fun v4 => ?_)
  refine z_istore (i := 5) (la' := [some (.ref a), some (.int x1), some (.int x2), some (.int v1), some (.int 0), some (.int v4), none, none, none]) (pc := 21) dX10_percentOf_21 (by decide) rfl rfl ?_
  refine z_weak (la' := [some (.ref a), none, some (.int x2), some (.int v1), some (.int 0), some (.int v4), none, none, none]) (And.intro rfl (And.intro rfl (And.intro rfl (And.intro rfl (And.intro rfl trivial))))) ?_
  refine z_lp (T := Z_H) (s0 := (0, v4, h)) 23 (fun ((v5, v6, h7) : Int32 × Int32 × Z_H) => [some (.ref a), none, some (.int x2), some (.int v1), some (.int v5), some (.int v6), none, none, none]) (fun ((v5, v6, h7) : Int32 × Int32 × Z_H) => h7) (fun _ => 151) (fun (h8 : Z_H) => [some (.ref a), none, none, none, none, none, none, none, none]) (fun (h8 : Z_H) => h8) ?_ ?_
  · rintro h8
    try dsimp only
    refine z_aload_n (x := a) (pc := 151) dX10_percentOf_151 rfl rfl ?_
    refine z_getR cX10 (pc := 152) dX10_percentOf_152 (j := 22) (by decide) rfl w_1109 (fun r29 => ?_)
    refine z_iconst (v := 0) (pc := 155) dX10_percentOf_155 (by decide) ?_
    refine z_aldI (pc := 156) dX10_percentOf_156 (fun t30 => ?_)
    exact z_ireturn (pc := 157) dX10_percentOf_157 rfl rfl rfl
  intro k' hx1 rec9 hrec9
  rintro ⟨v5, v6, h7⟩
  unfold f_X10_percentOf_l1
  try dsimp only
  refine z_iload (x := v6) (pc := 23) dX10_percentOf_23 rfl ?_
  refine z_if_lt (tgt := 151) (pc := 25) dX10_percentOf_25 (by decide) (fun _ => ?_) (fun _ => ?_)
  · exact z_wk (hx1 h7) (And.intro rfl trivial)
  refine z_aload_n (x := a) (pc := 28) dX10_percentOf_28 rfl rfl ?_
  refine z_getR cX10 (pc := 29) dX10_percentOf_29 (j := 1) (by decide) rfl w_1088 (fun r10 => ?_)
  refine z_iload_n (x := v1) (pc := 32) dX10_percentOf_32 rfl rfl ?_
  refine z_iconst (v := 1) (pc := 33) dX10_percentOf_33 (by decide) ?_
  refine z_iadd (pc := 34) dX10_percentOf_34 ?_
  refine z_iload (x := v6) (pc := 35) dX10_percentOf_35 rfl ?_
  refine z_iadd (pc := 37) dX10_percentOf_37 ?_
  refine z_aldI (pc := 38) dX10_percentOf_38 (fun t11 => ?_)
  refine z_istore (i := 6) (la' := [some (.ref a), none, some (.int x2), some (.int v1), some (.int v5), some (.int v6), some (.int t11), none, none]) (pc := 39) dX10_percentOf_39 (by decide) rfl rfl ?_
  refine z_iload (x := t11) (pc := 41) dX10_percentOf_41 rfl ?_
  refine z_iconst (v := 3) (pc := 43) dX10_percentOf_43 (by decide) ?_
  refine z_jn 145 (fun ((v12, h13) : Int32 × Z_H) => [some (.ref a), none, some (.int x2), some (.int v1), some (.int v12), some (.int v6), none, none, none]) (fun ((v12, h13) : Int32 × Z_H) => []) (fun ((v12, h13) : Int32 × Z_H) => h13) ?_ ?_
  · rintro ⟨v12, h13⟩
    try dsimp only
    refine z_iinc (i := 5) (x := v6) (v := (v6 + (-1))) (la' := [some (.ref a), none, some (.int x2), some (.int v1), some (.int v12), some (.int (v6 + (-1))), none, none, none]) (pc := 145) dX10_percentOf_145 rfl rfl (by decide) rfl rfl ?_
    refine z_goto (tgt := 23) (pc := 148) dX10_percentOf_148 (by decide) ?_
    exact hrec9 (v12, (v6 + (-1)), h13)
  intro j14 hj14
  refine z_ic_gt (tgt := 71) (pc := 44) dX10_percentOf_44 (by decide) (fun _ => ?_) (fun _ => ?_)
  · refine z_iinc (i := 4) (x := v5) (v := (v5 + (-1))) (la' := [some (.ref a), none, some (.int x2), some (.int v1), some (.int (v5 + (-1))), some (.int v6), some (.int t11), none, none]) (pc := 71) dX10_percentOf_71 rfl rfl (by decide) rfl rfl ?_
    refine z_aload_n (x := a) (pc := 74) dX10_percentOf_74 rfl rfl ?_
    refine z_getR cX10 (pc := 75) dX10_percentOf_75 (j := 22) (by decide) rfl w_1109 (fun r15 => ?_)
    refine z_iload (x := (v5 + (-1))) (pc := 78) dX10_percentOf_78 rfl ?_
    refine z_aldI (pc := 80) dX10_percentOf_80 (fun t16 => ?_)
    refine z_istore (i := 7) (la' := [some (.ref a), none, some (.int x2), some (.int v1), some (.int (v5 + (-1))), some (.int v6), some (.int t11), some (.int t16), none]) (pc := 81) dX10_percentOf_81 (by decide) rfl rfl ?_
    refine z_aload_n (x := a) (pc := 83) dX10_percentOf_83 rfl rfl ?_
    refine z_getR cX10 (pc := 84) dX10_percentOf_84 (j := 22) (by decide) rfl w_1109 (fun r17 => ?_)
    refine z_iload (x := (v5 + (-1))) (pc := 87) dX10_percentOf_87 rfl ?_
    refine z_iconst (v := 1) (pc := 89) dX10_percentOf_89 (by decide) ?_
    refine z_isub (pc := 90) dX10_percentOf_90 ?_
    refine z_aldI (pc := 91) dX10_percentOf_91 (fun t18 => ?_)
    refine z_istore (i := 8) (la' := [some (.ref a), none, some (.int x2), some (.int v1), some (.int (v5 + (-1))), some (.int v6), some (.int t11), some (.int t16), some (.int t18)]) (pc := 92) dX10_percentOf_92 (by decide) rfl rfl ?_
    refine z_aload_n (x := a) (pc := 94) dX10_percentOf_94 rfl rfl ?_
    refine z_getR cX10 (pc := 95) dX10_percentOf_95 (j := 22) (by decide) rfl w_1109 (fun r19 => ?_)
    refine z_iload (x := (v5 + (-1))) (pc := 98) dX10_percentOf_98 rfl ?_
    refine z_iconst (v := 1) (pc := 100) dX10_percentOf_100 (by decide) ?_
    refine z_isub (pc := 101) dX10_percentOf_101 ?_
    refine z_iload (x := t11) (pc := 102) dX10_percentOf_102 rfl ?_
    refine z_iconst (v := 4) (pc := 104) dX10_percentOf_104 (by decide) ?_
    refine z_jn 144 (fun (y20 : Int32) => [some (.ref a), none, some (.int x2), some (.int v1), some (.int (v5 + (-1))), some (.int v6), none, none, none]) (fun (y20 : Int32) => [.int y20, .int ((v5 + (-1)) - 1), .ref r19]) (fun (y20 : Int32) => h7) ?_ ?_
    · rintro y20
      try dsimp only
      refine z_astI (pc := 144) dX10_percentOf_144 (fun h22 => ?_)
      exact hj14 ((v5 + (-1)), h22)
    intro j21 hj21
    refine z_ic_ne (tgt := 118) (pc := 105) dX10_percentOf_105 (by decide) (fun _ => ?_) (fun _ => ?_)
    · refine z_iload (x := t11) (pc := 118) dX10_percentOf_118 rfl ?_
      refine z_iconst (v := 5) (pc := 120) dX10_percentOf_120 (by decide) ?_
      refine z_ic_ne (tgt := 134) (pc := 121) dX10_percentOf_121 (by decide) (fun _ => ?_) (fun _ => ?_)
      · refine z_bipush (v := 100) (pc := 134) dX10_percentOf_134 (by decide) ?_
        refine z_iload (x := t16) (pc := 136) dX10_percentOf_136 rfl ?_
        refine z_iload (x := t18) (pc := 138) dX10_percentOf_138 rfl ?_
        refine z_iadd (pc := 140) dX10_percentOf_140 ?_
        refine z_cSP (As := [.int 100, .int (t16 + t18)]) (rest := [.int ((v5 + (-1)) - 1), .ref r19]) hG.1 (m_X10_lesser hG h7 100 (t16 + t18)) oX10_lesser (pc := 141) dX10_percentOf_141 rfl w_1230 rfl rfl rfl (fun t23 => ?_)
        exact z_wk (hj21 t23) (And.intro rfl (And.intro rfl (And.intro rfl (And.intro rfl (And.intro rfl trivial)))))
      refine z_iload (x := t16) (pc := 124) dX10_percentOf_124 rfl ?_
      refine z_iload (x := t18) (pc := 126) dX10_percentOf_126 rfl ?_
      refine z_cSP (As := [.int t16, .int t18]) (rest := [.int ((v5 + (-1)) - 1), .ref r19]) hG.1 (m_X10_lesser hG h7 t16 t18) oX10_lesser (pc := 128) dX10_percentOf_128 rfl w_1230 rfl rfl rfl (fun t24 => ?_)
      refine z_goto (tgt := 144) (pc := 131) dX10_percentOf_131 (by decide) ?_
      exact z_wk (hj21 t24) (And.intro rfl (And.intro rfl (And.intro rfl (And.intro rfl (And.intro rfl trivial)))))
    refine z_iload (x := t16) (pc := 108) dX10_percentOf_108 rfl ?_
    refine z_iload (x := t18) (pc := 110) dX10_percentOf_110 rfl ?_
    refine z_cSP (As := [.int t16, .int t18]) (rest := [.int ((v5 + (-1)) - 1), .ref r19]) hG.1 (m_X10_greater hG h7 t16 t18) oX10_greater (pc := 112) dX10_percentOf_112 rfl w_1331 rfl rfl rfl (fun t25 => ?_)
    refine z_goto (tgt := 144) (pc := 115) dX10_percentOf_115 (by decide) ?_
    exact z_wk (hj21 t25) (And.intro rfl (And.intro rfl (And.intro rfl (And.intro rfl (And.intro rfl trivial)))))
  refine z_aload_n (x := a) (pc := 47) dX10_percentOf_47 rfl rfl ?_
  refine z_getR cX10 (pc := 48) dX10_percentOf_48 (j := 22) (by decide) rfl w_1109 (fun r26 => ?_)
  refine z_iload (x := v5) (pc := 51) dX10_percentOf_51 rfl ?_
  refine z_aload_n (x := a) (pc := 53) dX10_percentOf_53 rfl rfl ?_
  refine z_iload_n (x := v1) (pc := 54) dX10_percentOf_54 rfl rfl ?_
  refine z_iconst (v := 1) (pc := 55) dX10_percentOf_55 (by decide) ?_
  refine z_iadd (pc := 56) dX10_percentOf_56 ?_
  refine z_iload (x := v6) (pc := 57) dX10_percentOf_57 rfl ?_
  refine z_iadd (pc := 59) dX10_percentOf_59 ?_
  refine z_iload_n (x := x2) (pc := 60) dX10_percentOf_60 rfl rfl ?_
  refine z_cVP (As := [.int ((v1 + 1) + v6), .int x2]) (rest := [.int v5, .ref r26]) hG.1 (m_X10_leaf hG h7 a ((v1 + 1) + v6) x2) (fun _ e => z_gdb e) oX10_leaf (pc := 61) dX10_percentOf_61 rfl w_1397 rfl rfl rfl (fun t27 => ?_)
  refine z_astI (pc := 64) dX10_percentOf_64 (fun h28 => ?_)
  refine z_iinc (i := 4) (x := v5) (v := (v5 + 1)) (la' := [some (.ref a), none, some (.int x2), some (.int v1), some (.int (v5 + 1)), some (.int v6), some (.int t11), none, none]) (pc := 65) dX10_percentOf_65 rfl rfl (by decide) rfl rfl ?_
  refine z_goto (tgt := 145) (pc := 68) dX10_percentOf_68 (by decide) ?_
  exact z_wk (hj14 ((v5 + 1), h28)) (And.intro rfl (And.intro rfl (And.intro rfl (And.intro rfl (And.intro rfl trivial)))))
set_option maxHeartbeats 2000000 in
set_option maxRecDepth 20000 in
theorem m_X10_takesLevel {G : Z_G} (hG : z_GG G) (h : Z_H) (a : Nat) (x1 : Int32) (x2 : Int32) (x3 : Int32) (x4 : Int32) : z_Met G iX10_takesLevel [.ref a, .int x1, .int x2, .int x3, .int x4] h ((f_X10_takesLevel h a x1 x2 x3 x4).bind some) := by
  refine z_in (la := [some (.ref a), some (.int x1), some (.int x2), some (.int x3), some (.int x4), none, none, none, none, none, none]) (by decide) rfl rfl rfl ?_
  unfold f_X10_takesLevel
  refine z_gg (fun _ => ?_)
  refine z_bipush (v := 7) (pc := 0) dX10_takesLevel_0 (by decide) ?_
  refine z_aload_n (x := a) (pc := 2) dX10_takesLevel_2 rfl rfl ?_
  refine z_getI cX10 (pc := 3) dX10_takesLevel_3 (j := 24) (by decide) rfl w_1111 (fun t1 => ?_)
  refine z_imul (pc := 6) dX10_takesLevel_6 ?_
  refine z_nm (fun v2 => ?_)
  refine z_istore (i := 5) (la' := [some (.ref a), some (.int x1), some (.int x2), some (.int x3), some (.int x4), some (.int v2), none, none, none, none, none]) (pc := 7) dX10_takesLevel_7 (by decide) rfl rfl ?_
  refine z_aload_n (x := a) (pc := 9) dX10_takesLevel_9 rfl rfl ?_
  refine z_dup (pc := 10) dX10_takesLevel_10 rfl ?_
  refine z_getI cX10 (pc := 11) dX10_takesLevel_11 (j := 24) (by decide) rfl w_1111 (fun t3 => ?_)
  refine z_iconst (v := 1) (pc := 14) dX10_takesLevel_14 (by decide) ?_
  refine z_iadd (pc := 15) dX10_takesLevel_15 ?_
  refine z_putI cX10 (pc := 16) dX10_takesLevel_16 (j := 24) (by decide) rfl rfl w_1111 (fun h4 => ?_)
  refine z_aload_n (x := a) (pc := 19) dX10_takesLevel_19 rfl rfl ?_
  refine z_iload_n (x := x1) (pc := 20) dX10_takesLevel_20 rfl rfl ?_
  refine z_cVP (As := [.int x1]) (rest := []) hG.1 (m_X10_rankOf hG h4 a x1) (fun _ e => z_gdb e) oX10_rankOf (pc := 21) dX10_takesLevel_21 rfl w_1362 rfl rfl rfl (fun t5 => ?_)
  refine z_istore (i := 6) (la' := [some (.ref a), some (.int x1), some (.int x2), some (.int x3), some (.int x4), some (.int v2), some (.int t5), none, none, none, none]) (pc := 24) dX10_takesLevel_24 (by decide) rfl rfl ?_
  refine z_aload_n (x := a) (pc := 26) dX10_takesLevel_26 rfl rfl ?_
  refine z_aload_n (x := a) (pc := 27) dX10_takesLevel_27 rfl rfl ?_
  refine z_getI cX10 (pc := 28) dX10_takesLevel_28 (j := 24) (by decide) rfl w_1111 (fun t6 => ?_)
  refine z_iload_n (x := x1) (pc := 31) dX10_takesLevel_31 rfl rfl ?_
  refine z_dVI (As := [.int t6, .int x1]) (rest := []) hG.1 (m_X10_percentOf hG h4 a t6 x1) (fun _ e => z_gdb e) oX10_percentOf (pc := 32) dX10_takesLevel_32 rfl w_1393 rfl rfl rfl (fun t7 h8 => ?_)
  refine z_istore (i := 7) (la' := [some (.ref a), some (.int x1), some (.int x2), some (.int x3), some (.int x4), some (.int v2), some (.int t5), some (.int t7), none, none, none]) (pc := 35) dX10_takesLevel_35 (by decide) rfl rfl ?_
  refine z_iload_n (x := x2) (pc := 37) dX10_takesLevel_37 rfl rfl ?_
  refine z_iload (x := t7) (pc := 38) dX10_takesLevel_38 rfl ?_
  refine z_imul (pc := 40) dX10_takesLevel_40 ?_
  refine z_bipush (v := 100) (pc := 41) dX10_takesLevel_41 (by decide) ?_
  refine z_idiv (pc := 43) (by decide) dX10_takesLevel_43 ?_
  refine z_nm (fun v9 => ?_)
  refine z_istore (i := 8) (la' := [some (.ref a), some (.int x1), some (.int x2), some (.int x3), some (.int x4), some (.int v2), some (.int t5), some (.int t7), some (.int v9), none, none]) (pc := 44) dX10_takesLevel_44 (by decide) rfl rfl ?_
  refine z_aload_n (x := a) (pc := 46) dX10_takesLevel_46 rfl rfl ?_
  refine z_getR cX10 (pc := 47) dX10_takesLevel_47 (j := 1) (by decide) rfl w_1088 (fun r10 => ?_)
  refine z_bipush (v := 15) (pc := 50) dX10_takesLevel_50 (by decide) ?_
  refine z_iload (x := t5) (pc := 52) dX10_takesLevel_52 rfl ?_
  refine z_iadd (pc := 54) dX10_takesLevel_54 ?_
  refine z_aldI (pc := 55) dX10_takesLevel_55 (fun t11 => ?_)
  refine z_aload_n (x := a) (pc := 56) dX10_takesLevel_56 rfl rfl ?_
  refine z_getI cX10 (pc := 57) dX10_takesLevel_57 (j := 24) (by decide) rfl w_1111 (fun t12 => ?_)
  refine z_jn 68 (fun (y13 : Int32) => [some (.ref a), some (.int x1), none, some (.int x3), some (.int x4), some (.int v2), some (.int t5), some (.int t7), some (.int v9), none, none]) (fun (y13 : Int32) => [.int y13]) (fun (y13 : Int32) => h8) ?_ ?_
  · rintro y13
    try dsimp only
    refine z_istore (i := 9) (la' := [some (.ref a), some (.int x1), none, some (.int x3), some (.int x4), some (.int v2), some (.int t5), some (.int t7), some (.int v9), some (.int y13), none]) (pc := 68) dX10_takesLevel_68 (by decide) rfl rfl ?_
    refine z_iload (x := y13) (pc := 70) dX10_takesLevel_70 rfl ?_
    refine z_jn 85 (fun (y15 : Int32) => [some (.ref a), some (.int x1), none, none, some (.int x4), some (.int v2), some (.int t5), some (.int t7), some (.int v9), some (.int y13), none]) (fun (y15 : Int32) => [.int y15]) (fun (y15 : Int32) => h8) ?_ ?_
    · rintro y15
      try dsimp only
      refine z_istore (i := 10) (la' := [some (.ref a), some (.int x1), none, none, some (.int x4), some (.int v2), some (.int t5), some (.int t7), some (.int v9), some (.int y13), some (.int y15)]) (pc := 85) dX10_takesLevel_85 (by decide) rfl rfl ?_
      refine z_aload_n (x := a) (pc := 87) dX10_takesLevel_87 rfl rfl ?_
      refine z_getR cX10 (pc := 88) dX10_takesLevel_88 (j := 23) (by decide) rfl w_1110 (fun r17 => ?_)
      refine z_iload (x := v2) (pc := 91) dX10_takesLevel_91 rfl ?_
      refine z_iconst (v := 0) (pc := 93) dX10_takesLevel_93 (by decide) ?_
      refine z_iadd (pc := 94) dX10_takesLevel_94 ?_
      refine z_iload_n (x := x1) (pc := 95) dX10_takesLevel_95 rfl rfl ?_
      refine z_astI (pc := 96) dX10_takesLevel_96 (fun h18 => ?_)
      refine z_aload_n (x := a) (pc := 97) dX10_takesLevel_97 rfl rfl ?_
      refine z_getR cX10 (pc := 98) dX10_takesLevel_98 (j := 23) (by decide) rfl w_1110 (fun r19 => ?_)
      refine z_iload (x := v2) (pc := 101) dX10_takesLevel_101 rfl ?_
      refine z_iconst (v := 1) (pc := 103) dX10_takesLevel_103 (by decide) ?_
      refine z_iadd (pc := 104) dX10_takesLevel_104 ?_
      refine z_iload (x := t7) (pc := 105) dX10_takesLevel_105 rfl ?_
      refine z_astI (pc := 107) dX10_takesLevel_107 (fun h20 => ?_)
      refine z_aload_n (x := a) (pc := 108) dX10_takesLevel_108 rfl rfl ?_
      refine z_getR cX10 (pc := 109) dX10_takesLevel_109 (j := 23) (by decide) rfl w_1110 (fun r21 => ?_)
      refine z_iload (x := v2) (pc := 112) dX10_takesLevel_112 rfl ?_
      refine z_iconst (v := 2) (pc := 114) dX10_takesLevel_114 (by decide) ?_
      refine z_iadd (pc := 115) dX10_takesLevel_115 ?_
      refine z_iload (x := y15) (pc := 116) dX10_takesLevel_116 rfl ?_
      refine z_astI (pc := 118) dX10_takesLevel_118 (fun h22 => ?_)
      refine z_aload_n (x := a) (pc := 119) dX10_takesLevel_119 rfl rfl ?_
      refine z_getR cX10 (pc := 120) dX10_takesLevel_120 (j := 23) (by decide) rfl w_1110 (fun r23 => ?_)
      refine z_iload (x := v2) (pc := 123) dX10_takesLevel_123 rfl ?_
      refine z_iconst (v := 3) (pc := 125) dX10_takesLevel_125 (by decide) ?_
      refine z_iadd (pc := 126) dX10_takesLevel_126 ?_
      refine z_iload (x := y13) (pc := 127) dX10_takesLevel_127 rfl ?_
      refine z_jn 138 (fun (y24 : Int32) => [some (.ref a), none, none, none, some (.int x4), some (.int v2), some (.int t5), none, some (.int v9), some (.int y13), some (.int y15)]) (fun (y24 : Int32) => [.int y24, .int (v2 + 3), .ref r23]) (fun (y24 : Int32) => h22) ?_ ?_
      · rintro y24
        try dsimp only
        refine z_astI (pc := 138) dX10_takesLevel_138 (fun h26 => ?_)
        refine z_aload_n (x := a) (pc := 139) dX10_takesLevel_139 rfl rfl ?_
        refine z_getR cX10 (pc := 140) dX10_takesLevel_140 (j := 23) (by decide) rfl w_1110 (fun r27 => ?_)
        refine z_iload (x := v2) (pc := 143) dX10_takesLevel_143 rfl ?_
        refine z_iconst (v := 4) (pc := 145) dX10_takesLevel_145 (by decide) ?_
        refine z_iadd (pc := 146) dX10_takesLevel_146 ?_
        refine z_iload (x := y13) (pc := 147) dX10_takesLevel_147 rfl ?_
        refine z_jn 161 (fun (y28 : Int32) => [some (.ref a), none, none, none, some (.int x4), some (.int v2), some (.int t5), none, none, none, some (.int y15)]) (fun (y28 : Int32) => [.int y28, .int (v2 + 4), .ref r27]) (fun (y28 : Int32) => h26) ?_ ?_
        · rintro y28
          try dsimp only
          refine z_astI (pc := 161) dX10_takesLevel_161 (fun h30 => ?_)
          refine z_aload_n (x := a) (pc := 162) dX10_takesLevel_162 rfl rfl ?_
          refine z_getR cX10 (pc := 163) dX10_takesLevel_163 (j := 23) (by decide) rfl w_1110 (fun r31 => ?_)
          refine z_iload (x := v2) (pc := 166) dX10_takesLevel_166 rfl ?_
          refine z_iconst (v := 5) (pc := 168) dX10_takesLevel_168 (by decide) ?_
          refine z_iadd (pc := 169) dX10_takesLevel_169 ?_
          refine z_iload (x := t5) (pc := 170) dX10_takesLevel_170 rfl ?_
          refine z_astI (pc := 172) dX10_takesLevel_172 (fun h32 => ?_)
          refine z_aload_n (x := a) (pc := 173) dX10_takesLevel_173 rfl rfl ?_
          refine z_getR cX10 (pc := 174) dX10_takesLevel_174 (j := 23) (by decide) rfl w_1110 (fun r33 => ?_)
          refine z_iload (x := v2) (pc := 177) dX10_takesLevel_177 rfl ?_
          refine z_bipush (v := 6) (pc := 179) dX10_takesLevel_179 (by decide) ?_
          refine z_iadd (pc := 181) dX10_takesLevel_181 ?_
          refine z_iload (x := x4) (pc := 182) dX10_takesLevel_182 rfl ?_
          refine z_astI (pc := 184) dX10_takesLevel_184 (fun h34 => ?_)
          refine z_iload (x := y15) (pc := 185) dX10_takesLevel_185 rfl ?_
          exact z_ireturn (pc := 187) dX10_takesLevel_187 rfl rfl rfl
        intro j29 hj29
        refine z_if_eq (tgt := 160) (pc := 149) dX10_takesLevel_149 (by decide) (fun _ => ?_) (fun _ => ?_)
        · refine z_iconst (v := 0) (pc := 160) dX10_takesLevel_160 (by decide) ?_
          exact z_wk (hj29 0) (And.intro rfl (And.intro rfl (And.intro rfl (And.intro rfl (And.intro rfl trivial)))))
        refine z_iload (x := v9) (pc := 152) dX10_takesLevel_152 rfl ?_
        refine z_iload (x := y15) (pc := 154) dX10_takesLevel_154 rfl ?_
        refine z_isub (pc := 156) dX10_takesLevel_156 ?_
        refine z_goto (tgt := 161) (pc := 157) dX10_takesLevel_157 (by decide) ?_
        exact z_wk (hj29 (v9 - y15)) (And.intro rfl (And.intro rfl (And.intro rfl (And.intro rfl (And.intro rfl trivial)))))
      intro j25 hj25
      refine z_if_eq (tgt := 136) (pc := 129) dX10_takesLevel_129 (by decide) (fun _ => ?_) (fun _ => ?_)
      · refine z_iload (x := v9) (pc := 136) dX10_takesLevel_136 rfl ?_
        exact z_wk (hj25 v9) (And.intro rfl (And.intro rfl (And.intro rfl (And.intro rfl (And.intro rfl (And.intro rfl (And.intro rfl trivial)))))))
      refine z_iconst (v := 0) (pc := 132) dX10_takesLevel_132 (by decide) ?_
      refine z_goto (tgt := 138) (pc := 133) dX10_takesLevel_133 (by decide) ?_
      exact z_wk (hj25 0) (And.intro rfl (And.intro rfl (And.intro rfl (And.intro rfl (And.intro rfl (And.intro rfl (And.intro rfl trivial)))))))
    intro j16 hj16
    refine z_if_eq (tgt := 84) (pc := 72) dX10_takesLevel_72 (by decide) (fun _ => ?_) (fun _ => ?_)
    · refine z_iconst (v := 0) (pc := 84) dX10_takesLevel_84 (by decide) ?_
      exact z_wk (hj16 0) (And.intro rfl (And.intro rfl (And.intro rfl (And.intro rfl (And.intro rfl (And.intro rfl (And.intro rfl (And.intro rfl trivial))))))))
    refine z_iload (x := v9) (pc := 75) dX10_takesLevel_75 rfl ?_
    refine z_iload_n (x := x3) (pc := 77) dX10_takesLevel_77 rfl rfl ?_
    refine z_cSP (As := [.int v9, .int x3]) (rest := []) hG.1 (m_X10_lesser hG h8 v9 x3) oX10_lesser (pc := 78) dX10_takesLevel_78 rfl w_1230 rfl rfl rfl (fun t35 => ?_)
    refine z_goto (tgt := 85) (pc := 81) dX10_takesLevel_81 (by decide) ?_
    exact z_wk (hj16 t35) (And.intro rfl (And.intro rfl (And.intro rfl (And.intro rfl (And.intro rfl (And.intro rfl (And.intro rfl (And.intro rfl trivial))))))))
  intro j14 hj14
  refine z_ic_lt (tgt := 67) (pc := 60) dX10_takesLevel_60 (by decide) (fun _ => ?_) (fun _ => ?_)
  · refine z_iconst (v := 0) (pc := 67) dX10_takesLevel_67 (by decide) ?_
    exact z_wk (hj14 0) (And.intro rfl (And.intro rfl (And.intro rfl (And.intro rfl (And.intro rfl (And.intro rfl (And.intro rfl (And.intro rfl trivial))))))))
  refine z_iconst (v := 1) (pc := 63) dX10_takesLevel_63 (by decide) ?_
  refine z_goto (tgt := 68) (pc := 64) dX10_takesLevel_64 (by decide) ?_
  exact z_wk (hj14 1) (And.intro rfl (And.intro rfl (And.intro rfl (And.intro rfl (And.intro rfl (And.intro rfl (And.intro rfl (And.intro rfl trivial))))))))
set_option maxHeartbeats 2000000 in
set_option maxRecDepth 20000 in
theorem m_X10_pays {G : Z_G} (hG : z_GG G) (h : Z_H) (a : Nat) (x1 : Int32) (x2 : Int32) : z_Met G iX10_pays [.ref a, .int x1, .int x2] h ((f_X10_pays h a x1 x2).bind fun h1 => some (0, h1)) := by
  refine z_in (la := [some (.ref a), some (.int x1), some (.int x2), none, none, none]) (by decide) rfl rfl rfl ?_
  unfold f_X10_pays
  refine z_gg (fun _ => ?_)
  refine z_aload_n (x := a) (pc := 0) dX10_pays_0 rfl rfl ?_
  refine z_iconst (v := 0) (pc := 1) dX10_pays_1 (by decide) ?_
  refine z_putI cX10 (pc := 2) dX10_pays_2 (j := 24) (by decide) rfl rfl w_1111 (fun h1 => ?_)
  refine z_iload_n (x := x2) (pc := 5) dX10_pays_5 rfl rfl ?_
  refine z_aload_n (x := a) (pc := 6) dX10_pays_6 rfl rfl ?_
  refine z_getR cX10 (pc := 7) dX10_pays_7 (j := 1) (by decide) rfl w_1088 (fun r2 => ?_)
  refine z_iconst (v := 4) (pc := 10) dX10_pays_10 (by decide) ?_
  refine z_aldI (pc := 11) dX10_pays_11 (fun t3 => ?_)
  refine z_imul (pc := 12) dX10_pays_12 ?_
  refine z_bipush (v := 100) (pc := 13) dX10_pays_13 (by decide) ?_
  refine z_idiv (pc := 15) (by decide) dX10_pays_15 ?_
  refine z_nm (fun v4 => ?_)
  refine z_istore_n (i := 3) (la' := [some (.ref a), some (.int x1), some (.int x2), some (.int v4), none, none]) (pc := 16) dX10_pays_16 rfl (by decide) rfl rfl ?_
  refine z_iconst (v := 1) (pc := 17) dX10_pays_17 (by decide) ?_
  refine z_istore (i := 4) (la' := [some (.ref a), some (.int x1), some (.int x2), some (.int v4), some (.int 1), none]) (pc := 18) dX10_pays_18 (by decide) rfl rfl ?_
  refine z_aload_n (x := a) (pc := 20) dX10_pays_20 rfl rfl ?_
  refine z_getR cX10 (pc := 21) dX10_pays_21 (j := 17) (by decide) rfl w_1104 (fun r5 => ?_)
  refine z_iload_n (x := x1) (pc := 24) dX10_pays_24 rfl rfl ?_
  refine z_aldI (pc := 25) dX10_pays_25 (fun t6 => ?_)
  refine z_istore (i := 5) (la' := [some (.ref a), some (.int x1), some (.int x2), some (.int v4), some (.int 1), some (.int t6)]) (pc := 26) dX10_pays_26 (by decide) rfl rfl ?_
  refine z_weak (la' := [some (.ref a), none, some (.int x2), some (.int v4), some (.int 1), some (.int t6)]) (And.intro rfl (And.intro rfl (And.intro rfl (And.intro rfl (And.intro rfl trivial))))) ?_
  refine z_lp (T := Z_H) (s0 := (v4, 1, t6, h1)) 28 (fun ((v7, v8, v9, h10) : Int32 × Int32 × Int32 × Z_H) => [some (.ref a), none, some (.int x2), some (.int v7), some (.int v8), some (.int v9)]) (fun ((v7, v8, v9, h10) : Int32 × Int32 × Int32 × Z_H) => h10) (fun _ => 83) (fun (h11 : Z_H) => [none, none, none, none, none, none]) (fun (h11 : Z_H) => h11) ?_ ?_
  · rintro h11
    try dsimp only
    exact z_return (pc := 83) dX10_pays_83 rfl rfl
  intro k' hx1 rec12 hrec12
  rintro ⟨v7, v8, v9, h10⟩
  unfold f_X10_pays_l1
  try dsimp only
  refine z_iload (x := v9) (pc := 28) dX10_pays_28 rfl ?_
  refine z_iconst (v := (-1)) (pc := 30) dX10_pays_30 (by decide) ?_
  refine z_ic_eq (tgt := 83) (pc := 31) dX10_pays_31 (by decide) (fun _ => ?_) (fun _ => ?_)
  · exact z_wk (hx1 h10) trivial
  refine z_aload_n (x := a) (pc := 34) dX10_pays_34 rfl rfl ?_
  refine z_getI cX10 (pc := 35) dX10_pays_35 (j := 24) (by decide) rfl w_1111 (fun t13 => ?_)
  refine z_iconst (v := 5) (pc := 38) dX10_pays_38 (by decide) ?_
  refine z_ic_ge (tgt := 83) (pc := 39) dX10_pays_39 (by decide) (fun _ => ?_) (fun _ => ?_)
  · exact z_wk (hx1 h10) trivial
  refine z_aload_n (x := a) (pc := 42) dX10_pays_42 rfl rfl ?_
  refine z_iload (x := v9) (pc := 43) dX10_pays_43 rfl ?_
  refine z_aload_n (x := a) (pc := 45) dX10_pays_45 rfl rfl ?_
  refine z_getI cX10 (pc := 46) dX10_pays_46 (j := 20) (by decide) rfl w_1107 (fun t14 => ?_)
  refine z_cVP (As := [.int v9, .int t14]) (rest := []) hG.1 (m_X10_isActive hG h10 a v9 t14) (fun _ e => z_gdb e) oX10_isActive (pc := 49) dX10_pays_49 rfl w_1354 rfl rfl rfl (fun t15 => ?_)
  refine z_jn 68 (fun ((v16, h17) : Int32 × Z_H) => [some (.ref a), none, some (.int x2), some (.int v16), some (.int v8), some (.int v9)]) (fun ((v16, h17) : Int32 × Z_H) => []) (fun ((v16, h17) : Int32 × Z_H) => h17) ?_ ?_
  · rintro ⟨v16, h17⟩
    try dsimp only
    refine z_iinc (i := 4) (x := v8) (v := (v8 + 1)) (la' := [some (.ref a), none, some (.int x2), some (.int v16), some (.int (v8 + 1)), some (.int v9)]) (pc := 68) dX10_pays_68 rfl rfl (by decide) rfl rfl ?_
    refine z_aload_n (x := a) (pc := 71) dX10_pays_71 rfl rfl ?_
    refine z_getR cX10 (pc := 72) dX10_pays_72 (j := 17) (by decide) rfl w_1104 (fun r19 => ?_)
    refine z_iload (x := v9) (pc := 75) dX10_pays_75 rfl ?_
    refine z_aldI (pc := 77) dX10_pays_77 (fun t20 => ?_)
    refine z_istore (i := 5) (la' := [some (.ref a), none, some (.int x2), some (.int v16), some (.int (v8 + 1)), some (.int t20)]) (pc := 78) dX10_pays_78 (by decide) rfl rfl ?_
    refine z_goto (tgt := 28) (pc := 80) dX10_pays_80 (by decide) ?_
    exact hrec12 (v16, (v8 + 1), t20, h17)
  intro j18 hj18
  refine z_if_eq (tgt := 68) (pc := 52) dX10_pays_52 (by decide) (fun _ => ?_) (fun _ => ?_)
  · exact hj18 (v7, h10)
  refine z_iload_n (x := v7) (pc := 55) dX10_pays_55 rfl rfl ?_
  refine z_aload_n (x := a) (pc := 56) dX10_pays_56 rfl rfl ?_
  refine z_iload (x := v9) (pc := 57) dX10_pays_57 rfl ?_
  refine z_iload_n (x := x2) (pc := 59) dX10_pays_59 rfl rfl ?_
  refine z_iload_n (x := v7) (pc := 60) dX10_pays_60 rfl rfl ?_
  refine z_iload (x := v8) (pc := 61) dX10_pays_61 rfl ?_
  refine z_dVI (As := [.int v9, .int x2, .int v7, .int v8]) (rest := [.int v7]) hG.1 (m_X10_takesLevel hG h10 a v9 x2 v7 v8) (fun _ e => z_gdb e) oX10_takesLevel (pc := 63) dX10_pays_63 rfl w_1358 rfl rfl rfl (fun t21 h22 => ?_)
  refine z_isub (pc := 66) dX10_pays_66 ?_
  refine z_nm (fun v23 => ?_)
  refine z_istore_n (i := 3) (la' := [some (.ref a), none, some (.int x2), some (.int v23), some (.int v8), some (.int v9)]) (pc := 67) dX10_pays_67 rfl (by decide) rfl rfl ?_
  exact hj18 (v23, h22)
