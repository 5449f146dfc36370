set_option maxHeartbeats 2000000 in
set_option maxRecDepth 20000 in
theorem m_X10_sell {G : Z_G} (hG : z_GG G) (h : Z_H) (a : Nat) (x1 : Int32) (x2 : Int32) (x3 : Int32) : z_Met G iX10_sell [.ref a, .int x1, .int x2, .int x3] h ((f_X10_sell h a x1 x2 x3).bind some) := by
  refine z_in (la := [some (.ref a), some (.int x1), some (.int x2), some (.int x3), none, none, none]) (by decide) rfl rfl rfl ?_
  unfold f_X10_sell
  refine z_gg (fun _ => ?_)
  refine z_aload_n (x := a) (pc := 0) dX10_sell_0 rfl rfl ?_
  refine z_iconst (v := 0) (pc := 1) dX10_sell_1 (by decide) ?_
  refine z_putI cX10 (pc := 2) dX10_sell_2 (j := 0) (by decide) rfl rfl w_1087 (fun h1 => ?_)
  refine z_aload_n (x := a) (pc := 5) dX10_sell_5 rfl rfl ?_
  refine z_iload_n (x := x1) (pc := 6) dX10_sell_6 rfl rfl ?_
  refine z_iload_n (x := x2) (pc := 7) dX10_sell_7 rfl rfl ?_
  refine z_iload_n (x := x3) (pc := 8) dX10_sell_8 rfl rfl ?_
  refine z_cVP (As := [.int x1, .int x2, .int x3]) (rest := []) hG.1 (m_X10_canSell hG h1 a x1 x2 x3) (fun _ e => z_gdb e) oX10_canSell (pc := 9) dX10_sell_9 rfl w_1342 rfl rfl rfl (fun t2 => ?_)
  refine z_if_eq (tgt := 28) (pc := 12) dX10_sell_12 (by decide) (fun _ => ?_) (fun _ => ?_)
  · refine z_iconst (v := (-1)) (pc := 28) dX10_sell_28 (by decide) ?_
    exact z_ireturn (pc := 29) dX10_sell_29 rfl rfl rfl
  refine z_aload_n (x := a) (pc := 15) dX10_sell_15 rfl rfl ?_
  refine z_getR cX10 (pc := 16) dX10_sell_16 (j := 1) (by decide) rfl w_1088 (fun r3 => ?_)
  refine z_sipush (v := 146) (pc := 19) dX10_sell_19 (by decide) ?_
  refine z_aldI (pc := 22) dX10_sell_22 (fun t4 => ?_)
  refine z_bipush (v := 40) (pc := 23) dX10_sell_23 (by decide) ?_
  refine z_ic_ne (tgt := 30) (pc := 25) dX10_sell_25 (by decide) (fun _ => ?_) (fun _ => ?_)
  · refine z_aload_n (x := a) (pc := 30) dX10_sell_30 rfl rfl ?_
    refine z_getR cX10 (pc := 31) dX10_sell_31 (j := 1) (by decide) rfl w_1088 (fun r5 => ?_)
    refine z_sipush (v := 146) (pc := 34) dX10_sell_34 (by decide) ?_
    refine z_aldI (pc := 37) dX10_sell_37 (fun t6 => ?_)
    refine z_istore (i := 4) (la' := [some (.ref a), some (.int x1), some (.int x2), some (.int x3), some (.int t6), none, none]) (pc := 38) dX10_sell_38 (by decide) rfl rfl ?_
    refine z_sipush (v := 1087) (pc := 40) dX10_sell_40 (by decide) ?_
    refine z_bipush (v := 41) (pc := 43) dX10_sell_43 (by decide) ?_
    refine z_iload (x := t6) (pc := 45) dX10_sell_45 rfl ?_
    refine z_imul (pc := 47) dX10_sell_47 ?_
    refine z_iadd (pc := 48) dX10_sell_48 ?_
    refine z_nm (fun v7 => ?_)
    refine z_istore (i := 5) (la' := [some (.ref a), some (.int x1), some (.int x2), some (.int x3), some (.int t6), some (.int v7), none]) (pc := 49) dX10_sell_49 (by decide) rfl rfl ?_
    refine z_aload_n (x := a) (pc := 51) dX10_sell_51 rfl rfl ?_
    refine z_getR cX10 (pc := 52) dX10_sell_52 (j := 1) (by decide) rfl w_1088 (fun r8 => ?_)
    refine z_sipush (v := 146) (pc := 55) dX10_sell_55 (by decide) ?_
    refine z_dup2 (pc := 58) dX10_sell_58 rfl rfl ?_
    refine z_aldI (pc := 59) dX10_sell_59 (fun t9 => ?_)
    refine z_iconst (v := 1) (pc := 60) dX10_sell_60 (by decide) ?_
    refine z_iadd (pc := 61) dX10_sell_61 ?_
    refine z_astI (pc := 62) dX10_sell_62 (fun h10 => ?_)
    refine z_aload_n (x := a) (pc := 63) dX10_sell_63 rfl rfl ?_
    refine z_getR cX10 (pc := 64) dX10_sell_64 (j := 1) (by decide) rfl w_1088 (fun r11 => ?_)
    refine z_iload (x := v7) (pc := 67) dX10_sell_67 rfl ?_
    refine z_iconst (v := 0) (pc := 69) dX10_sell_69 (by decide) ?_
    refine z_iadd (pc := 70) dX10_sell_70 ?_
    refine z_iload_n (x := x1) (pc := 71) dX10_sell_71 rfl rfl ?_
    refine z_astI (pc := 72) dX10_sell_72 (fun h12 => ?_)
    refine z_aload_n (x := a) (pc := 73) dX10_sell_73 rfl rfl ?_
    refine z_getR cX10 (pc := 74) dX10_sell_74 (j := 1) (by decide) rfl w_1088 (fun r13 => ?_)
    refine z_iload (x := v7) (pc := 77) dX10_sell_77 rfl ?_
    refine z_iconst (v := 1) (pc := 79) dX10_sell_79 (by decide) ?_
    refine z_iadd (pc := 80) dX10_sell_80 ?_
    refine z_iload_n (x := x2) (pc := 81) dX10_sell_81 rfl rfl ?_
    refine z_astI (pc := 82) dX10_sell_82 (fun h14 => ?_)
    refine z_aload_n (x := a) (pc := 83) dX10_sell_83 rfl rfl ?_
    refine z_getR cX10 (pc := 84) dX10_sell_84 (j := 1) (by decide) rfl w_1088 (fun r15 => ?_)
    refine z_iload (x := v7) (pc := 87) dX10_sell_87 rfl ?_
    refine z_iconst (v := 2) (pc := 89) dX10_sell_89 (by decide) ?_
    refine z_iadd (pc := 90) dX10_sell_90 ?_
    refine z_iload_n (x := x3) (pc := 91) dX10_sell_91 rfl rfl ?_
    refine z_astI (pc := 92) dX10_sell_92 (fun h16 => ?_)
    refine z_aload_n (x := a) (pc := 93) dX10_sell_93 rfl rfl ?_
    refine z_getR cX10 (pc := 94) dX10_sell_94 (j := 1) (by decide) rfl w_1088 (fun r17 => ?_)
    refine z_iload (x := v7) (pc := 97) dX10_sell_97 rfl ?_
    refine z_iconst (v := 3) (pc := 99) dX10_sell_99 (by decide) ?_
    refine z_iadd (pc := 100) dX10_sell_100 ?_
    refine z_aload_n (x := a) (pc := 101) dX10_sell_101 rfl rfl ?_
    refine z_cVP (As := []) (rest := [.int (v7 + 3), .ref r17]) hG.1 (m_X10_now hG h16 a) (fun _ e => z_gdb e) oX10_now (pc := 102) dX10_sell_102 rfl w_1247 rfl rfl rfl (fun t18 => ?_)
    refine z_astI (pc := 105) dX10_sell_105 (fun h19 => ?_)
    refine z_aload_n (x := a) (pc := 106) dX10_sell_106 rfl rfl ?_
    refine z_getR cX10 (pc := 107) dX10_sell_107 (j := 1) (by decide) rfl w_1088 (fun r20 => ?_)
    refine z_iload (x := v7) (pc := 110) dX10_sell_110 rfl ?_
    refine z_iconst (v := 4) (pc := 112) dX10_sell_112 (by decide) ?_
    refine z_iadd (pc := 113) dX10_sell_113 ?_
    refine z_iconst (v := 0) (pc := 114) dX10_sell_114 (by decide) ?_
    refine z_astI (pc := 115) dX10_sell_115 (fun h21 => ?_)
    refine z_aload_n (x := a) (pc := 116) dX10_sell_116 rfl rfl ?_
    refine z_cVV (As := []) (rest := []) hG.1 (m_X10_laysOwn hG h21 a) (fun _ e => z_gdb e) oX10_laysOwn (pc := 117) dX10_sell_117 rfl w_1346 rfl rfl rfl (fun h22 => ?_)
    refine z_aload_n (x := a) (pc := 120) dX10_sell_120 rfl rfl ?_
    refine z_iload_n (x := x3) (pc := 121) dX10_sell_121 rfl rfl ?_
    refine z_cVV (As := [.int x3]) (rest := []) hG.1 (m_X10_laysMonth hG h22 a x3) (fun _ e => z_gdb e) oX10_laysMonth (pc := 122) dX10_sell_122 rfl w_1283 rfl rfl rfl (fun h23 => ?_)
    refine z_aload_n (x := a) (pc := 125) dX10_sell_125 rfl rfl ?_
    refine z_iload_n (x := x1) (pc := 126) dX10_sell_126 rfl rfl ?_
    refine z_iload_n (x := x2) (pc := 127) dX10_sell_127 rfl rfl ?_
    refine z_cVV (As := [.int x1, .int x2]) (rest := []) hG.1 (m_X10_pays hG h23 a x1 x2) (fun _ e => z_gdb e) oX10_pays (pc := 128) dX10_sell_128 rfl w_1350 rfl rfl rfl (fun h24 => ?_)
    refine z_aload_n (x := a) (pc := 131) dX10_sell_131 rfl rfl ?_
    refine z_getR cX10 (pc := 132) dX10_sell_132 (j := 1) (by decide) rfl w_1088 (fun r25 => ?_)
    refine z_iload (x := v7) (pc := 135) dX10_sell_135 rfl ?_
    refine z_iconst (v := 5) (pc := 137) dX10_sell_137 (by decide) ?_
    refine z_iadd (pc := 138) dX10_sell_138 ?_
    refine z_aload_n (x := a) (pc := 139) dX10_sell_139 rfl rfl ?_
    refine z_getI cX10 (pc := 140) dX10_sell_140 (j := 24) (by decide) rfl w_1111 (fun t26 => ?_)
    refine z_astI (pc := 143) dX10_sell_143 (fun h27 => ?_)
    refine z_iconst (v := 0) (pc := 144) dX10_sell_144 (by decide) ?_
    refine z_istore (i := 6) (la' := [some (.ref a), some (.int x1), some (.int x2), some (.int x3), some (.int t6), some (.int v7), some (.int 0)]) (pc := 145) dX10_sell_145 (by decide) rfl rfl ?_
    refine z_weak (la' := [some (.ref a), none, none, none, some (.int t6), some (.int v7), some (.int 0)]) (And.intro rfl (And.intro rfl (And.intro rfl (And.intro rfl trivial)))) ?_
    refine z_lp (T := Z_H) (s0 := (0, h27)) 147 (fun ((v28, h29) : Int32 × Z_H) => [some (.ref a), none, none, none, some (.int t6), some (.int v7), some (.int v28)]) (fun ((v28, h29) : Int32 × Z_H) => h29) (fun _ => 185) (fun (h30 : Z_H) => [some (.ref a), none, none, none, some (.int t6), none, none]) (fun (h30 : Z_H) => h30) ?_ ?_
    · rintro h30
      try dsimp only
      refine z_iconst (v := 0) (pc := 185) dX10_sell_185 (by decide) ?_
      refine z_istore (i := 6) (la' := [some (.ref a), none, none, none, some (.int t6), none, some (.int 0)]) (pc := 186) dX10_sell_186 (by decide) rfl rfl ?_
      refine z_lp (T := Z_H) (s0 := (0, h30)) 188 (fun ((v37, h38) : Int32 × Z_H) => [some (.ref a), none, none, none, some (.int t6), none, some (.int v37)]) (fun ((v37, h38) : Int32 × Z_H) => h38) (fun _ => 240) (fun (h39 : Z_H) => [none, none, none, none, some (.int t6), none, none]) (fun (h39 : Z_H) => h39) ?_ ?_
      · rintro h39
        try dsimp only
        refine z_iload (x := t6) (pc := 240) dX10_sell_240 rfl ?_
        exact z_ireturn (pc := 242) dX10_sell_242 rfl rfl rfl
      intro k' hx2 rec40 hrec40
      rintro ⟨v37, h38⟩
      unfold f_X10_sell_l2
      try dsimp only
      refine z_iload (x := v37) (pc := 188) dX10_sell_188 rfl ?_
      refine z_aload_n (x := a) (pc := 190) dX10_sell_190 rfl rfl ?_
      refine z_getI cX10 (pc := 191) dX10_sell_191 (j := 24) (by decide) rfl w_1111 (fun t41 => ?_)
      refine z_ic_ge (tgt := 240) (pc := 194) dX10_sell_194 (by decide) (fun _ => ?_) (fun _ => ?_)
      · exact z_wk (hx2 h38) (And.intro rfl trivial)
      refine z_aload_n (x := a) (pc := 197) dX10_sell_197 rfl rfl ?_
      refine z_iload (x := t6) (pc := 198) dX10_sell_198 rfl ?_
      refine z_iload (x := v37) (pc := 200) dX10_sell_200 rfl ?_
      refine z_iconst (v := 2) (pc := 202) dX10_sell_202 (by decide) ?_
      refine z_cVP (As := [.int t6, .int v37, .int 2]) (rest := []) hG.1 (m_X10_ofLevel hG h38 a t6 v37 2) (fun _ e => z_gdb e) oX10_ofLevel (pc := 203) dX10_sell_203 rfl w_1315 rfl rfl rfl (fun t42 => ?_)
      refine z_jn 234 (fun (h43 : Z_H) => [some (.ref a), none, none, none, some (.int t6), none, some (.int v37)]) (fun (h43 : Z_H) => []) (fun (h43 : Z_H) => h43) ?_ ?_
      · rintro h43
        try dsimp only
        refine z_iinc (i := 6) (x := v37) (v := (v37 + 1)) (la' := [some (.ref a), none, none, none, some (.int t6), none, some (.int (v37 + 1))]) (pc := 234) dX10_sell_234 rfl rfl (by decide) rfl rfl ?_
        refine z_goto (tgt := 188) (pc := 237) dX10_sell_237 (by decide) ?_
        exact hrec40 ((v37 + 1), h43)
      intro j44 hj44
      refine z_if_le (tgt := 234) (pc := 206) dX10_sell_206 (by decide) (fun _ => ?_) (fun _ => ?_)
      · exact hj44 h38
      refine z_aload_n (x := a) (pc := 209) dX10_sell_209 rfl rfl ?_
      refine z_aload_n (x := a) (pc := 210) dX10_sell_210 rfl rfl ?_
      refine z_iload (x := t6) (pc := 211) dX10_sell_211 rfl ?_
      refine z_iload (x := v37) (pc := 213) dX10_sell_213 rfl ?_
      refine z_iconst (v := 0) (pc := 215) dX10_sell_215 (by decide) ?_
      refine z_cVP (As := [.int t6, .int v37, .int 0]) (rest := [.ref a]) hG.1 (m_X10_ofLevel hG h38 a t6 v37 0) (fun _ e => z_gdb e) oX10_ofLevel (pc := 216) dX10_sell_216 rfl w_1315 rfl rfl rfl (fun t45 => ?_)
      refine z_iconst (v := 0) (pc := 219) dX10_sell_219 (by decide) ?_
      refine z_aload_n (x := a) (pc := 220) dX10_sell_220 rfl rfl ?_
      refine z_iload (x := t6) (pc := 221) dX10_sell_221 rfl ?_
      refine z_iload (x := v37) (pc := 223) dX10_sell_223 rfl ?_
      refine z_iconst (v := 2) (pc := 225) dX10_sell_225 (by decide) ?_
      refine z_cVP (As := [.int t6, .int v37, .int 2]) (rest := [.int 0, .int t45, .ref a]) hG.1 (m_X10_ofLevel hG h38 a t6 v37 2) (fun _ e => z_gdb e) oX10_ofLevel (pc := 226) dX10_sell_226 rfl w_1315 rfl rfl rfl (fun t46 => ?_)
      refine z_iload (x := t6) (pc := 229) dX10_sell_229 rfl ?_
      refine z_cVV (As := [.int t45, .int 0, .int t46, .int t6]) (rest := []) hG.1 (m_X10_writes hG h38 a t45 0 t46 t6) (fun _ e => z_gdb e) oX10_writes (pc := 231) dX10_sell_231 rfl w_1334 rfl rfl rfl (fun h47 => ?_)
      exact hj44 h47
    intro k' hx1 rec31 hrec31
    rintro ⟨v28, h29⟩
    unfold f_X10_sell_l1
    try dsimp only
    refine z_iload (x := v28) (pc := 147) dX10_sell_147 rfl ?_
    refine z_bipush (v := 7) (pc := 149) dX10_sell_149 (by decide) ?_
    refine z_aload_n (x := a) (pc := 151) dX10_sell_151 rfl rfl ?_
    refine z_getI cX10 (pc := 152) dX10_sell_152 (j := 24) (by decide) rfl w_1111 (fun t32 => ?_)
    refine z_imul (pc := 155) dX10_sell_155 ?_
    refine z_ic_ge (tgt := 185) (pc := 156) dX10_sell_156 (by decide) (fun _ => ?_) (fun _ => ?_)
    · exact z_wk (hx1 h29) (And.intro rfl (And.intro rfl trivial))
    refine z_aload_n (x := a) (pc := 159) dX10_sell_159 rfl rfl ?_
    refine z_getR cX10 (pc := 160) dX10_sell_160 (j := 1) (by decide) rfl w_1088 (fun r33 => ?_)
    refine z_iload (x := v7) (pc := 163) dX10_sell_163 rfl ?_
    refine z_bipush (v := 6) (pc := 165) dX10_sell_165 (by decide) ?_
    refine z_iadd (pc := 167) dX10_sell_167 ?_
    refine z_iload (x := v28) (pc := 168) dX10_sell_168 rfl ?_
    refine z_iadd (pc := 170) dX10_sell_170 ?_
    refine z_aload_n (x := a) (pc := 171) dX10_sell_171 rfl rfl ?_
    refine z_getR cX10 (pc := 172) dX10_sell_172 (j := 23) (by decide) rfl w_1110 (fun r34 => ?_)
    refine z_iload (x := v28) (pc := 175) dX10_sell_175 rfl ?_
    refine z_aldI (pc := 177) dX10_sell_177 (fun t35 => ?_)
    refine z_astI (pc := 178) dX10_sell_178 (fun h36 => ?_)
    refine z_iinc (i := 6) (x := v28) (v := (v28 + 1)) (la' := [some (.ref a), none, none, none, some (.int t6), some (.int v7), some (.int (v28 + 1))]) (pc := 179) dX10_sell_179 rfl rfl (by decide) rfl rfl ?_
    refine z_goto (tgt := 147) (pc := 182) dX10_sell_182 (by decide) ?_
    exact hrec31 ((v28 + 1), h36)
  refine z_iconst (v := (-1)) (pc := 28) dX10_sell_28 (by decide) ?_
  exact z_ireturn (pc := 29) dX10_sell_29 rfl rfl rfl
set_option maxHeartbeats 2000000 in
set_option maxRecDepth 20000 in
theorem m_X5_has {G : Z_G} (hG : z_GG G) (h : Z_H) (a : Nat) (x1 : Int32) : z_Met G iX5_has [.ref a, .int x1] h ((f_X5_has h a x1).bind fun r => some (r, h)) := by
  refine z_in (la := [some (.ref a), some (.int x1)]) (by decide) rfl rfl rfl ?_
  unfold f_X5_has
  refine z_gg (fun _ => ?_)
  refine z_iload_n (x := x1) (pc := 0) dX5_has_0 rfl rfl ?_
  refine z_if_lt (tgt := 16) (pc := 1) dX5_has_1 (by decide) (fun _ => ?_) (fun _ => ?_)
  · refine z_iconst (v := 0) (pc := 16) dX5_has_16 (by decide) ?_
    exact z_ireturn (pc := 17) dX5_has_17 rfl (by decide) rfl
  refine z_iload_n (x := x1) (pc := 4) dX5_has_4 rfl rfl ?_
  refine z_aload_n (x := a) (pc := 5) dX5_has_5 rfl rfl ?_
  refine z_getI cX5 (pc := 6) dX5_has_6 (j := 0) (by decide) rfl w_183 (fun t1 => ?_)
  refine z_ic_ge (tgt := 16) (pc := 9) dX5_has_9 (by decide) (fun _ => ?_) (fun _ => ?_)
  · refine z_iconst (v := 0) (pc := 16) dX5_has_16 (by decide) ?_
    exact z_ireturn (pc := 17) dX5_has_17 rfl (by decide) rfl
  refine z_iconst (v := 1) (pc := 12) dX5_has_12 (by decide) ?_
  refine z_goto (tgt := 17) (pc := 13) dX5_has_13 (by decide) ?_
  exact z_ireturn (pc := 17) dX5_has_17 rfl (by decide) rfl
set_option maxHeartbeats 2000000 in
set_option maxRecDepth 20000 in
theorem m_X9_back {G : Z_G} (hG : z_GG G) (h : Z_H) (a : Nat) (x1 : Int32) (x2 : Int32) : z_Met G iX9_back [.ref a, .int x1, .int x2] h ((f_X9_back h a x1 x2).bind some) := by
  refine z_in (la := [some (.ref a), some (.int x1), some (.int x2), none, none, none, none, none, none]) (by decide) rfl rfl rfl ?_
  unfold f_X9_back
  refine z_gg (fun _ => ?_)
  refine z_aload_n (x := a) (pc := 0) dX9_back_0 rfl rfl ?_
  refine z_getR cX9 (pc := 1) dX9_back_1 (j := 0) (by decide) rfl w_403 (fun r1 => ?_)
  refine z_getR cX7 (pc := 4) dX9_back_4 (j := 3) (by decide) rfl w_251 (fun r2 => ?_)
  refine z_astore_n (i := 3) (la' := [some (.ref a), some (.int x1), some (.int x2), some (.ref r2), none, none, none, none, none]) (pc := 7) dX9_back_7 rfl (by decide) rfl rfl ?_
  refine z_aload_n (x := r2) (pc := 8) dX9_back_8 rfl rfl ?_
  refine z_iload_n (x := x1) (pc := 9) dX9_back_9 rfl rfl ?_
  refine z_cVP (As := [.int x1]) (rest := []) hG.1 (m_X5_has hG h r2 x1) (fun _ e => z_gdb e) oX5_has (pc := 10) dX9_back_10 rfl w_812 rfl rfl rfl (fun t3 => ?_)
  refine z_if_eq (tgt := 34) (pc := 13) dX9_back_13 (by decide) (fun _ => ?_) (fun _ => ?_)
  · refine z_iconst (v := (-1)) (pc := 34) dX9_back_34 (by decide) ?_
    exact z_ireturn (pc := 35) dX9_back_35 rfl rfl rfl
  refine z_iload_n (x := x2) (pc := 16) dX9_back_16 rfl rfl ?_
  refine z_iconst (v := 1) (pc := 17) dX9_back_17 (by decide) ?_
  refine z_ic_lt (tgt := 34) (pc := 18) dX9_back_18 (by decide) (fun _ => ?_) (fun _ => ?_)
  · refine z_iconst (v := (-1)) (pc := 34) dX9_back_34 (by decide) ?_
    exact z_ireturn (pc := 35) dX9_back_35 rfl rfl rfl
  refine z_iload_n (x := x2) (pc := 21) dX9_back_21 rfl rfl ?_
  refine z_bipush (v := 100) (pc := 22) dX9_back_22 (by decide) ?_
  refine z_aload_n (x := r2) (pc := 24) dX9_back_24 rfl rfl ?_
  refine z_getR cX5 (pc := 25) dX9_back_25 (j := 5) (by decide) rfl w_200 (fun r4 => ?_)
  refine z_iload_n (x := x1) (pc := 28) dX9_back_28 rfl rfl ?_
  refine z_aldI (pc := 29) dX9_back_29 (fun t5 => ?_)
  refine z_isub (pc := 30) dX9_back_30 ?_
  refine z_ic_le (tgt := 36) (pc := 31) dX9_back_31 (by decide) (fun _ => ?_) (fun _ => ?_)
  · refine z_aload_n (x := r2) (pc := 36) dX9_back_36 rfl rfl ?_
    refine z_getR cX5 (pc := 37) dX9_back_37 (j := 5) (by decide) rfl w_200 (fun r6 => ?_)
    refine z_iload_n (x := x1) (pc := 40) dX9_back_40 rfl rfl ?_
    refine z_aldI (pc := 41) dX9_back_41 (fun t7 => ?_)
    refine z_istore (i := 4) (la' := [some (.ref a), some (.int x1), some (.int x2), some (.ref r2), some (.int t7), none, none, none, none]) (pc := 42) dX9_back_42 (by decide) rfl rfl ?_
    refine z_aload_n (x := r2) (pc := 44) dX9_back_44 rfl rfl ?_
    refine z_getR cX5 (pc := 45) dX9_back_45 (j := 5) (by decide) rfl w_200 (fun r8 => ?_)
    refine z_iload_n (x := x1) (pc := 48) dX9_back_48 rfl rfl ?_
    refine z_iload (x := t7) (pc := 49) dX9_back_49 rfl ?_
    refine z_iload_n (x := x2) (pc := 51) dX9_back_51 rfl rfl ?_
    refine z_iadd (pc := 52) dX9_back_52 ?_
    refine z_astI (pc := 53) dX9_back_53 (fun h9 => ?_)
    refine z_iconst (v := 0) (pc := 54) dX9_back_54 (by decide) ?_
    refine z_istore (i := 5) (la' := [some (.ref a), some (.int x1), some (.int x2), some (.ref r2), some (.int t7), some (.int 0), none, none, none]) (pc := 55) dX9_back_55 (by decide) rfl rfl ?_
    refine z_iconst (v := 1) (pc := 57) dX9_back_57 (by decide) ?_
    refine z_istore (i := 6) (la' := [some (.ref a), some (.int x1), some (.int x2), some (.ref r2), some (.int t7), some (.int 0), some (.int 1), none, none]) (pc := 58) dX9_back_58 (by decide) rfl rfl ?_
    refine z_lp (T := Int32 × Z_H) (s0 := (0, 1, h9)) 60 (fun ((v10, v11, h12) : Int32 × Int32 × Z_H) => [some (.ref a), some (.int x1), some (.int x2), some (.ref r2), some (.int t7), some (.int v10), some (.int v11), none, none]) (fun ((v10, v11, h12) : Int32 × Int32 × Z_H) => h12) (fun _ => 132) (fun ((v13, h14) : Int32 × Z_H) => [none, none, none, none, none, some (.int v13), none, none, none]) (fun ((v13, h14) : Int32 × Z_H) => h14) ?_ ?_
    · rintro ⟨v13, h14⟩
      try dsimp only
      refine z_iload (x := v13) (pc := 132) dX9_back_132 rfl ?_
      exact z_ireturn (pc := 134) dX9_back_134 rfl rfl rfl
    intro k' hx1 rec15 hrec15
    rintro ⟨v10, v11, h12⟩
    unfold f_X9_back_l1
    try dsimp only
    refine z_iload (x := v11) (pc := 60) dX9_back_60 rfl ?_
    refine z_aload_n (x := r2) (pc := 62) dX9_back_62 rfl rfl ?_
    refine z_getR cX5 (pc := 63) dX9_back_63 (j := 6) (by decide) rfl w_202 (fun r16 => ?_)
    refine z_iload_n (x := x1) (pc := 66) dX9_back_66 rfl rfl ?_
    refine z_aldI (pc := 67) dX9_back_67 (fun t17 => ?_)
    refine z_ic_gt (tgt := 132) (pc := 68) dX9_back_68 (by decide) (fun _ => ?_) (fun _ => ?_)
    · exact z_wk (hx1 (v10, h12)) (And.intro rfl trivial)
    refine z_aload_n (x := r2) (pc := 71) dX9_back_71 rfl rfl ?_
    refine z_iload_n (x := x1) (pc := 72) dX9_back_72 rfl rfl ?_
    refine z_iload (x := v11) (pc := 73) dX9_back_73 rfl ?_
    refine z_iconst (v := 2) (pc := 75) dX9_back_75 (by decide) ?_
    refine z_cVP (As := [.int x1, .int v11, .int 2]) (rest := []) hG.1 (m_X5_fact hG h12 r2 x1 v11 2) (fun _ e => z_gdb e) oX5_fact (pc := 76) dX9_back_76 rfl w_816 rfl rfl rfl (fun t18 => ?_)
    refine z_istore (i := 7) (la' := [some (.ref a), some (.int x1), some (.int x2), some (.ref r2), some (.int t7), some (.int v10), some (.int v11), some (.int t18), none]) (pc := 79) dX9_back_79 (by decide) rfl rfl ?_
    refine z_iload (x := t18) (pc := 81) dX9_back_81 rfl ?_
    refine z_iload (x := t7) (pc := 83) dX9_back_83 rfl ?_
    refine z_cSP (As := [.int t18, .int t7]) (rest := []) hG.1 (m_X9_net hG h12 t18 t7) oX9_net (pc := 85) dX9_back_85 rfl w_817 rfl rfl rfl (fun t19 => ?_)
    refine z_iload (x := t18) (pc := 88) dX9_back_88 rfl ?_
    refine z_iload (x := t7) (pc := 90) dX9_back_90 rfl ?_
    refine z_iload_n (x := x2) (pc := 92) dX9_back_92 rfl rfl ?_
    refine z_iadd (pc := 93) dX9_back_93 ?_
    refine z_cSP (As := [.int t18, .int (t7 + x2)]) (rest := [.int t19]) hG.1 (m_X9_net hG h12 t18 (t7 + x2)) oX9_net (pc := 94) dX9_back_94 rfl w_817 rfl rfl rfl (fun t20 => ?_)
    refine z_isub (pc := 97) dX9_back_97 ?_
    refine z_nm (fun v21 => ?_)
    refine z_istore (i := 8) (la' := [some (.ref a), some (.int x1), some (.int x2), some (.ref r2), some (.int t7), some (.int v10), some (.int v11), some (.int t18), some (.int v21)]) (pc := 98) dX9_back_98 (by decide) rfl rfl ?_
    refine z_aload_n (x := a) (pc := 100) dX9_back_100 rfl rfl ?_
    refine z_getR cX9 (pc := 101) dX9_back_101 (j := 0) (by decide) rfl w_403 (fun r22 => ?_)
    refine z_aload_n (x := r2) (pc := 104) dX9_back_104 rfl rfl ?_
    refine z_iload_n (x := x1) (pc := 105) dX9_back_105 rfl rfl ?_
    refine z_iload (x := v11) (pc := 106) dX9_back_106 rfl ?_
    refine z_iconst (v := 0) (pc := 108) dX9_back_108 (by decide) ?_
    refine z_cVP (As := [.int x1, .int v11, .int 0]) (rest := [.ref r22]) hG.1 (m_X5_fact hG h12 r2 x1 v11 0) (fun _ e => z_gdb e) oX5_fact (pc := 109) dX9_back_109 rfl w_816 rfl rfl rfl (fun t23 => ?_)
    refine z_iconst (v := 1) (pc := 112) dX9_back_112 (by decide) ?_
    refine z_iload (x := v21) (pc := 113) dX9_back_113 rfl ?_
    refine z_iload_n (x := x1) (pc := 115) dX9_back_115 rfl rfl ?_
    refine z_cVV (As := [.int t23, .int 1, .int v21, .int x1]) (rest := []) hG.1 (m_X7_note hG h12 r22 t23 1 v21 x1) (fun _ e => z_gdb e) oX7_note (pc := 116) dX9_back_116 rfl w_803 rfl rfl rfl (fun h24 => ?_)
    refine z_iload (x := v10) (pc := 119) dX9_back_119 rfl ?_
    refine z_iload (x := v21) (pc := 121) dX9_back_121 rfl ?_
    refine z_iadd (pc := 123) dX9_back_123 ?_
    refine z_nm (fun v25 => ?_)
    refine z_istore (i := 5) (la' := [some (.ref a), some (.int x1), some (.int x2), some (.ref r2), some (.int t7), some (.int v25), some (.int v11), some (.int t18), some (.int v21)]) (pc := 124) dX9_back_124 (by decide) rfl rfl ?_
    refine z_iinc (i := 6) (x := v11) (v := (v11 + 1)) (la' := [some (.ref a), some (.int x1), some (.int x2), some (.ref r2), some (.int t7), some (.int v25), some (.int (v11 + 1)), some (.int t18), some (.int v21)]) (pc := 126) dX9_back_126 rfl rfl (by decide) rfl rfl ?_
    refine z_goto (tgt := 60) (pc := 129) dX9_back_129 (by decide) ?_
    exact z_wk (hrec15 (v25, (v11 + 1), h24)) (And.intro rfl (And.intro rfl (And.intro rfl (And.intro rfl (And.intro rfl (And.intro rfl (And.intro rfl trivial)))))))
  refine z_iconst (v := (-1)) (pc := 34) dX9_back_34 (by decide) ?_
  exact z_ireturn (pc := 35) dX9_back_35 rfl rfl rfl
set_option maxHeartbeats 2000000 in
set_option maxRecDepth 20000 in
theorem m_X10_isSale {G : Z_G} (hG : z_GG G) (h : Z_H) (a : Nat) (x1 : Int32) : z_Met G iX10_isSale [.ref a, .int x1] h ((f_X10_isSale h a x1).bind fun r => some (r, h)) := by
  refine z_in (la := [some (.ref a), some (.int x1)]) (by decide) rfl rfl rfl ?_
  unfold f_X10_isSale
  refine z_gg (fun _ => ?_)
  refine z_iload_n (x := x1) (pc := 0) dX10_isSale_0 rfl rfl ?_
  refine z_iconst (v := 0) (pc := 1) dX10_isSale_1 (by decide) ?_
  refine z_aload_n (x := a) (pc := 2) dX10_isSale_2 rfl rfl ?_
  refine z_getR cX10 (pc := 3) dX10_isSale_3 (j := 1) (by decide) rfl w_1088 (fun r1 => ?_)
  refine z_sipush (v := 146) (pc := 6) dX10_isSale_6 (by decide) ?_
  refine z_aldI (pc := 9) dX10_isSale_9 (fun t2 => ?_)
  refine z_iconst (v := 1) (pc := 10) dX10_isSale_10 (by decide) ?_
  refine z_isub (pc := 11) dX10_isSale_11 ?_
  refine z_cSP (As := [.int x1, .int 0, .int (t2 - 1)]) (rest := []) hG.1 (m_X10_in hG h x1 0 (t2 - 1)) oX10_in (pc := 12) dX10_isSale_12 rfl w_1179 rfl rfl rfl (fun t3 => ?_)
  refine z_gg (fun hzz => ?_)
  exact z_ireturn (pc := 15) dX10_isSale_15 rfl (congrArg Value.int (of_decide_eq_true hzz)) rfl
set_option maxHeartbeats 2000000 in
set_option maxRecDepth 20000 in
theorem m_X10_back {G : Z_G} (hG : z_GG G) (h : Z_H) (a : Nat) (x1 : Int32) (x2 : Int32) : z_Met G iX10_back [.ref a, .int x1, .int x2] h ((f_X10_back h a x1 x2).bind some) := by
  refine z_in (la := [some (.ref a), some (.int x1), some (.int x2), none, none, none, none, none]) (by decide) rfl rfl rfl ?_
  unfold f_X10_back
  refine z_gg (fun _ => ?_)
  refine z_aload_n (x := a) (pc := 0) dX10_back_0 rfl rfl ?_
  refine z_iconst (v := 0) (pc := 1) dX10_back_1 (by decide) ?_
  refine z_putI cX10 (pc := 2) dX10_back_2 (j := 0) (by decide) rfl rfl w_1087 (fun h1 => ?_)
  refine z_aload_n (x := a) (pc := 5) dX10_back_5 rfl rfl ?_
  refine z_iload_n (x := x1) (pc := 6) dX10_back_6 rfl rfl ?_
  refine z_cVP (As := [.int x1]) (rest := []) hG.1 (m_X10_isSale hG h1 a x1) (fun _ e => z_gdb e) oX10_isSale (pc := 7) dX10_back_7 rfl w_1408 rfl rfl rfl (fun t2 => ?_)
  refine z_if_eq (tgt := 36) (pc := 10) dX10_back_10 (by decide) (fun _ => ?_) (fun _ => ?_)
  · refine z_iconst (v := (-1)) (pc := 36) dX10_back_36 (by decide) ?_
    exact z_ireturn (pc := 37) dX10_back_37 rfl rfl rfl
  refine z_iload_n (x := x2) (pc := 13) dX10_back_13 rfl rfl ?_
  refine z_iconst (v := 1) (pc := 14) dX10_back_14 (by decide) ?_
  refine z_bipush (v := 100) (pc := 15) dX10_back_15 (by decide) ?_
  refine z_cSP (As := [.int x2, .int 1, .int 100]) (rest := []) hG.1 (m_X10_in hG h1 x2 1 100) oX10_in (pc := 17) dX10_back_17 rfl w_1179 rfl rfl rfl (fun t3 => ?_)
  refine z_if_eq (tgt := 36) (pc := 20) dX10_back_20 (by decide) (fun _ => ?_) (fun _ => ?_)
  · refine z_iconst (v := (-1)) (pc := 36) dX10_back_36 (by decide) ?_
    exact z_ireturn (pc := 37) dX10_back_37 rfl rfl rfl
  refine z_aload_n (x := a) (pc := 23) dX10_back_23 rfl rfl ?_
  refine z_iload_n (x := x1) (pc := 24) dX10_back_24 rfl rfl ?_
  refine z_iconst (v := 4) (pc := 25) dX10_back_25 (by decide) ?_
  refine z_cVP (As := [.int x1, .int 4]) (rest := []) hG.1 (m_X10_ofSale hG h1 a x1 4) (fun _ e => z_gdb e) oX10_ofSale (pc := 26) dX10_back_26 rfl w_1311 rfl rfl rfl (fun t4 => ?_)
  refine z_iload_n (x := x2) (pc := 29) dX10_back_29 rfl rfl ?_
  refine z_iadd (pc := 30) dX10_back_30 ?_
  refine z_bipush (v := 100) (pc := 31) dX10_back_31 (by decide) ?_
  refine z_ic_le (tgt := 38) (pc := 33) dX10_back_33 (by decide) (fun _ => ?_) (fun _ => ?_)
  · refine z_iconst (v := 0) (pc := 38) dX10_back_38 (by decide) ?_
    refine z_istore_n (i := 3) (la' := [some (.ref a), some (.int x1), some (.int x2), some (.int 0), none, none, none, none]) (pc := 39) dX10_back_39 rfl (by decide) rfl rfl ?_
    refine z_aload_n (x := a) (pc := 40) dX10_back_40 rfl rfl ?_
    refine z_iload_n (x := x1) (pc := 41) dX10_back_41 rfl rfl ?_
    refine z_iconst (v := 4) (pc := 42) dX10_back_42 (by decide) ?_
    refine z_cVP (As := [.int x1, .int 4]) (rest := []) hG.1 (m_X10_ofSale hG h1 a x1 4) (fun _ e => z_gdb e) oX10_ofSale (pc := 43) dX10_back_43 rfl w_1311 rfl rfl rfl (fun t5 => ?_)
    refine z_iload_n (x := x2) (pc := 46) dX10_back_46 rfl rfl ?_
    refine z_iadd (pc := 47) dX10_back_47 ?_
    refine z_nm (fun v6 => ?_)
    refine z_istore (i := 4) (la' := [some (.ref a), some (.int x1), some (.int x2), some (.int 0), some (.int v6), none, none, none]) (pc := 48) dX10_back_48 (by decide) rfl rfl ?_
    refine z_iconst (v := 0) (pc := 50) dX10_back_50 (by decide) ?_
    refine z_istore (i := 5) (la' := [some (.ref a), some (.int x1), some (.int x2), some (.int 0), some (.int v6), some (.int 0), none, none]) (pc := 51) dX10_back_51 (by decide) rfl rfl ?_
    refine z_weak (la' := [some (.ref a), some (.int x1), none, some (.int 0), some (.int v6), some (.int 0), none, none]) (And.intro rfl (And.intro rfl (And.intro rfl (And.intro rfl (And.intro rfl trivial))))) ?_
    refine z_lp (T := Int32 × Z_H) (s0 := (0, 0, h1)) 53 (fun ((v7, v8, h9) : Int32 × Int32 × Z_H) => [some (.ref a), some (.int x1), none, some (.int v7), some (.int v6), some (.int v8), none, none]) (fun ((v7, v8, h9) : Int32 × Int32 × Z_H) => h9) (fun _ => 127) (fun ((v10, h11) : Int32 × Z_H) => [some (.ref a), some (.int x1), none, some (.int v10), some (.int v6), none, none, none]) (fun ((v10, h11) : Int32 × Z_H) => h11) ?_ ?_
    · rintro ⟨v10, h11⟩
      try dsimp only
      refine z_aload_n (x := a) (pc := 127) dX10_back_127 rfl rfl ?_
      refine z_getR cX10 (pc := 128) dX10_back_128 (j := 1) (by decide) rfl w_1088 (fun r22 => ?_)
      refine z_sipush (v := 1087) (pc := 131) dX10_back_131 (by decide) ?_
      refine z_bipush (v := 41) (pc := 134) dX10_back_134 (by decide) ?_
      refine z_iload_n (x := x1) (pc := 136) dX10_back_136 rfl rfl ?_
      refine z_imul (pc := 137) dX10_back_137 ?_
      refine z_iadd (pc := 138) dX10_back_138 ?_
      refine z_iconst (v := 4) (pc := 139) dX10_back_139 (by decide) ?_
      refine z_iadd (pc := 140) dX10_back_140 ?_
      refine z_iload (x := v6) (pc := 141) dX10_back_141 rfl ?_
      refine z_astI (pc := 143) dX10_back_143 (fun h23 => ?_)
      refine z_iload_n (x := v10) (pc := 144) dX10_back_144 rfl rfl ?_
      exact z_ireturn (pc := 145) dX10_back_145 rfl rfl rfl
    intro k' hx1 rec12 hrec12
    rintro ⟨v7, v8, h9⟩
    unfold f_X10_back_l1
    try dsimp only
    refine z_iload (x := v8) (pc := 53) dX10_back_53 rfl ?_
    refine z_aload_n (x := a) (pc := 55) dX10_back_55 rfl rfl ?_
    refine z_iload_n (x := x1) (pc := 56) dX10_back_56 rfl rfl ?_
    refine z_iconst (v := 5) (pc := 57) dX10_back_57 (by decide) ?_
    refine z_cVP (As := [.int x1, .int 5]) (rest := [.int v8]) hG.1 (m_X10_ofSale hG h9 a x1 5) (fun _ e => z_gdb e) oX10_ofSale (pc := 58) dX10_back_58 rfl w_1311 rfl rfl rfl (fun t13 => ?_)
    refine z_ic_ge (tgt := 127) (pc := 61) dX10_back_61 (by decide) (fun _ => ?_) (fun _ => ?_)
    · exact z_wk (hx1 (v7, h9)) (And.intro rfl (And.intro rfl (And.intro rfl (And.intro rfl trivial))))
    refine z_aload_n (x := a) (pc := 64) dX10_back_64 rfl rfl ?_
    refine z_iload_n (x := x1) (pc := 65) dX10_back_65 rfl rfl ?_
    refine z_iload (x := v8) (pc := 66) dX10_back_66 rfl ?_
    refine z_iconst (v := 2) (pc := 68) dX10_back_68 (by decide) ?_
    refine z_cVP (As := [.int x1, .int v8, .int 2]) (rest := []) hG.1 (m_X10_ofLevel hG h9 a x1 v8 2) (fun _ e => z_gdb e) oX10_ofLevel (pc := 69) dX10_back_69 rfl w_1315 rfl rfl rfl (fun t14 => ?_)
    refine z_istore (i := 6) (la' := [some (.ref a), some (.int x1), none, some (.int v7), some (.int v6), some (.int v8), some (.int t14), none]) (pc := 72) dX10_back_72 (by decide) rfl rfl ?_
    refine z_aload_n (x := a) (pc := 74) dX10_back_74 rfl rfl ?_
    refine z_iload_n (x := x1) (pc := 75) dX10_back_75 rfl rfl ?_
    refine z_iload (x := v8) (pc := 76) dX10_back_76 rfl ?_
    refine z_cVP (As := [.int x1, .int v8]) (rest := []) hG.1 (m_X10_netPay hG h9 a x1 v8) (fun _ e => z_gdb e) oX10_netPay (pc := 78) dX10_back_78 rfl w_1319 rfl rfl rfl (fun t15 => ?_)
    refine z_iload (x := t14) (pc := 81) dX10_back_81 rfl ?_
    refine z_bipush (v := 100) (pc := 83) dX10_back_83 (by decide) ?_
    refine z_iload (x := v6) (pc := 85) dX10_back_85 rfl ?_
    refine z_isub (pc := 87) dX10_back_87 ?_
    refine z_imul (pc := 88) dX10_back_88 ?_
    refine z_bipush (v := 100) (pc := 89) dX10_back_89 (by decide) ?_
    refine z_idiv (pc := 91) (by decide) dX10_back_91 ?_
    refine z_isub (pc := 92) dX10_back_92 ?_
    refine z_nm (fun v16 => ?_)
    refine z_istore (i := 7) (la' := [some (.ref a), some (.int x1), none, some (.int v7), some (.int v6), some (.int v8), some (.int t14), some (.int v16)]) (pc := 93) dX10_back_93 (by decide) rfl rfl ?_
    refine z_iload_n (x := v7) (pc := 95) dX10_back_95 rfl rfl ?_
    refine z_iload (x := v16) (pc := 96) dX10_back_96 rfl ?_
    refine z_iadd (pc := 98) dX10_back_98 ?_
    refine z_nm (fun v17 => ?_)
    refine z_istore_n (i := 3) (la' := [some (.ref a), some (.int x1), none, some (.int v17), some (.int v6), some (.int v8), some (.int t14), some (.int v16)]) (pc := 99) dX10_back_99 rfl (by decide) rfl rfl ?_
    refine z_iload (x := v16) (pc := 100) dX10_back_100 rfl ?_
    refine z_jn 121 (fun (h18 : Z_H) => [some (.ref a), some (.int x1), none, some (.int v17), some (.int v6), some (.int v8), none, none]) (fun (h18 : Z_H) => []) (fun (h18 : Z_H) => h18) ?_ ?_
    · rintro h18
      try dsimp only
      refine z_iinc (i := 5) (x := v8) (v := (v8 + 1)) (la' := [some (.ref a), some (.int x1), none, some (.int v17), some (.int v6), some (.int (v8 + 1)), none, none]) (pc := 121) dX10_back_121 rfl rfl (by decide) rfl rfl ?_
      refine z_goto (tgt := 53) (pc := 124) dX10_back_124 (by decide) ?_
      exact hrec12 (v17, (v8 + 1), h18)
    intro j19 hj19
    refine z_if_le (tgt := 121) (pc := 102) dX10_back_102 (by decide) (fun _ => ?_) (fun _ => ?_)
    · exact z_wk (hj19 h9) (And.intro rfl (And.intro rfl (And.intro rfl (And.intro rfl (And.intro rfl trivial)))))
    refine z_aload_n (x := a) (pc := 105) dX10_back_105 rfl rfl ?_
    refine z_aload_n (x := a) (pc := 106) dX10_back_106 rfl rfl ?_
    refine z_iload_n (x := x1) (pc := 107) dX10_back_107 rfl rfl ?_
    refine z_iload (x := v8) (pc := 108) dX10_back_108 rfl ?_
    refine z_iconst (v := 0) (pc := 110) dX10_back_110 (by decide) ?_
    refine z_cVP (As := [.int x1, .int v8, .int 0]) (rest := [.ref a]) hG.1 (m_X10_ofLevel hG h9 a x1 v8 0) (fun _ e => z_gdb e) oX10_ofLevel (pc := 111) dX10_back_111 rfl w_1315 rfl rfl rfl (fun t20 => ?_)
    refine z_iconst (v := 1) (pc := 114) dX10_back_114 (by decide) ?_
    refine z_iload (x := v16) (pc := 115) dX10_back_115 rfl ?_
    refine z_iload_n (x := x1) (pc := 117) dX10_back_117 rfl rfl ?_
    refine z_cVV (As := [.int t20, .int 1, .int v16, .int x1]) (rest := []) hG.1 (m_X10_writes hG h9 a t20 1 v16 x1) (fun _ e => z_gdb e) oX10_writes (pc := 118) dX10_back_118 rfl w_1334 rfl rfl rfl (fun h21 => ?_)
    exact z_wk (hj19 h21) (And.intro rfl (And.intro rfl (And.intro rfl (And.intro rfl (And.intro rfl trivial)))))
  refine z_iconst (v := (-1)) (pc := 36) dX10_back_36 (by decide) ?_
  exact z_ireturn (pc := 37) dX10_back_37 rfl rfl rfl
set_option maxHeartbeats 2000000 in
set_option maxRecDepth 20000 in
theorem m_X7_earned {G : Z_G} (hG : z_GG G) (h : Z_H) (a : Nat) (x1 : Int32) (x2 : Int32) : z_Met G iX7_earned [.ref a, .int x1, .int x2] h ((f_X7_earned h a x1 x2).bind fun r => some (r, h)) := by
  refine z_in (la := [some (.ref a), some (.int x1), some (.int x2), none, none, none]) (by decide) rfl rfl rfl ?_
  unfold f_X7_earned
  refine z_gg (fun _ => ?_)
  refine z_iconst (v := 0) (pc := 0) dX7_earned_0 (by decide) ?_
  refine z_istore_n (i := 3) (la' := [some (.ref a), some (.int x1), some (.int x2), some (.int 0), none, none]) (pc := 1) dX7_earned_1 rfl (by decide) rfl rfl ?_
  refine z_iconst (v := 0) (pc := 2) dX7_earned_2 (by decide) ?_
  refine z_istore (i := 4) (la' := [some (.ref a), some (.int x1), some (.int x2), some (.int 0), some (.int 0), none]) (pc := 3) dX7_earned_3 (by decide) rfl rfl ?_
  refine z_lp (T := Int32) (s0 := (0, 0)) 5 (fun ((v1, v2) : Int32 × Int32) => [some (.ref a), some (.int x1), some (.int x2), some (.int v1), some (.int v2), none]) (fun ((v1, v2) : Int32 × Int32) => h) (fun _ => 57) (fun (v3 : Int32) => [none, none, none, some (.int v3), none, none]) (fun (v3 : Int32) => h) ?_ ?_
  · rintro v3
    try dsimp only
    refine z_iload_n (x := v3) (pc := 57) dX7_earned_57 rfl rfl ?_
    exact z_ireturn (pc := 58) dX7_earned_58 rfl rfl rfl
  intro k' hx1 rec4 hrec4
  rintro ⟨v1, v2⟩
  unfold f_X7_earned_l1
  try dsimp only
  refine z_iload (x := v2) (pc := 5) dX7_earned_5 rfl ?_
  refine z_aload_n (x := a) (pc := 7) dX7_earned_7 rfl rfl ?_
  refine z_getR cX7 (pc := 8) dX7_earned_8 (j := 3) (by decide) rfl w_249 (fun r5 => ?_)
  refine z_getI cX5 (pc := 11) dX7_earned_11 (j := 0) (by decide) rfl w_184 (fun t6 => ?_)
  refine z_ic_ge (tgt := 57) (pc := 14) dX7_earned_14 (by decide) (fun _ => ?_) (fun _ => ?_)
  · exact z_wk (hx1 v1) (And.intro rfl trivial)
  refine z_aload_n (x := a) (pc := 17) dX7_earned_17 rfl rfl ?_
  refine z_getR cX7 (pc := 18) dX7_earned_18 (j := 3) (by decide) rfl w_249 (fun r7 => ?_)
  refine z_iload (x := v2) (pc := 21) dX7_earned_21 rfl ?_
  refine z_iload_n (x := x1) (pc := 23) dX7_earned_23 rfl rfl ?_
  refine z_cVP (As := [.int v2, .int x1]) (rest := []) hG.1 (m_X5_levelOf hG h r7 v2 x1) (fun _ e => z_gdb e) oX5_levelOf (pc := 24) dX7_earned_24 rfl w_679 rfl rfl rfl (fun t8 => ?_)
  refine z_istore (i := 5) (la' := [some (.ref a), some (.int x1), some (.int x2), some (.int v1), some (.int v2), some (.int t8)]) (pc := 27) dX7_earned_27 (by decide) rfl rfl ?_
  refine z_iload_n (x := v1) (pc := 29) dX7_earned_29 rfl rfl ?_
  refine z_iload (x := t8) (pc := 30) dX7_earned_30 rfl ?_
  refine z_iconst (v := (-1)) (pc := 32) dX7_earned_32 (by decide) ?_
  refine z_jn 49 (fun (y9 : Int32) => [some (.ref a), some (.int x1), some (.int x2), none, some (.int v2), none]) (fun (y9 : Int32) => [.int y9, .int v1]) (fun (y9 : Int32) => h) ?_ ?_
  · rintro y9
    try dsimp only
    refine z_iadd (pc := 49) dX7_earned_49 ?_
    refine z_nm (fun v11 => ?_)
    refine z_istore_n (i := 3) (la' := [some (.ref a), some (.int x1), some (.int x2), some (.int v11), some (.int v2), none]) (pc := 50) dX7_earned_50 rfl (by decide) rfl rfl ?_
    refine z_iinc (i := 4) (x := v2) (v := (v2 + 1)) (la' := [some (.ref a), some (.int x1), some (.int x2), some (.int v11), some (.int (v2 + 1)), none]) (pc := 51) dX7_earned_51 rfl rfl (by decide) rfl rfl ?_
    refine z_goto (tgt := 5) (pc := 54) dX7_earned_54 (by decide) ?_
    exact hrec4 (v11, (v2 + 1))
  intro j10 hj10
  refine z_ic_ne (tgt := 40) (pc := 33) dX7_earned_33 (by decide) (fun _ => ?_) (fun _ => ?_)
  · refine z_aload_n (x := a) (pc := 40) dX7_earned_40 rfl rfl ?_
    refine z_iload (x := v2) (pc := 41) dX7_earned_41 rfl ?_
    refine z_iload (x := t8) (pc := 43) dX7_earned_43 rfl ?_
    refine z_iload_n (x := x2) (pc := 45) dX7_earned_45 rfl rfl ?_
    refine z_cVP (As := [.int v2, .int t8, .int x2]) (rest := [.int v1]) hG.1 (m_X7_vested hG h a v2 t8 x2) (fun _ e => z_gdb e) oX7_vested (pc := 46) dX7_earned_46 rfl w_694 rfl rfl rfl (fun t12 => ?_)
    exact z_wk (hj10 t12) (And.intro rfl (And.intro rfl (And.intro rfl (And.intro rfl trivial))))
  refine z_iconst (v := 0) (pc := 36) dX7_earned_36 (by decide) ?_
  refine z_goto (tgt := 49) (pc := 37) dX7_earned_37 (by decide) ?_
  exact z_wk (hj10 0) (And.intro rfl (And.intro rfl (And.intro rfl (And.intro rfl trivial))))
set_option maxHeartbeats 2000000 in
set_option maxRecDepth 20000 in
theorem m_X7_balance {G : Z_G} (hG : z_GG G) (h : Z_H) (a : Nat) (x1 : Int32) : z_Met G iX7_balance [.ref a, .int x1] h ((f_X7_balance h a x1).bind fun r => some (r, h)) := by
  refine z_in (la := [some (.ref a), some (.int x1)]) (by decide) rfl rfl rfl ?_
  unfold f_X7_balance
  refine z_gg (fun _ => ?_)
  refine z_aload_n (x := a) (pc := 0) dX7_balance_0 rfl rfl ?_
  refine z_iload_n (x := x1) (pc := 1) dX7_balance_1 rfl rfl ?_
  refine z_aload_n (x := a) (pc := 2) dX7_balance_2 rfl rfl ?_
  refine z_getI cX7 (pc := 3) dX7_balance_3 (j := 8) (by decide) rfl w_259 (fun t1 => ?_)
  refine z_cVP (As := [.int x1, .int t1]) (rest := []) hG.1 (m_X7_earned hG h a x1 t1) (fun _ e => z_gdb e) oX7_earned (pc := 6) dX7_balance_6 rfl w_826 rfl rfl rfl (fun t2 => ?_)
  refine z_aload_n (x := a) (pc := 9) dX7_balance_9 rfl rfl ?_
  refine z_getR cX7 (pc := 10) dX7_balance_10 (j := 2) (by decide) rfl w_245 (fun r3 => ?_)
  refine z_getR cX0 (pc := 13) dX7_balance_13 (j := 3) (by decide) rfl w_151 (fun r4 => ?_)
  refine z_iload_n (x := x1) (pc := 16) dX7_balance_16 rfl rfl ?_
  refine z_aldI (pc := 17) dX7_balance_17 (fun t5 => ?_)
  refine z_isub (pc := 18) dX7_balance_18 ?_
  exact z_ireturn (pc := 19) dX7_balance_19 rfl rfl rfl
set_option maxHeartbeats 2000000 in
set_option maxRecDepth 20000 in
theorem m_X9_draw {G : Z_G} (hG : z_GG G) (h : Z_H) (a : Nat) (x1 : Int32) (x2 : Int32) : z_Met G iX9_draw [.ref a, .int x1, .int x2] h ((f_X9_draw h a x1 x2).bind some) := by
  refine z_in (la := [some (.ref a), some (.int x1), some (.int x2)]) (by decide) rfl rfl rfl ?_
  unfold f_X9_draw
  refine z_gg (fun _ => ?_)
  refine z_aload_n (x := a) (pc := 0) dX9_draw_0 rfl rfl ?_
  refine z_getR cX9 (pc := 1) dX9_draw_1 (j := 0) (by decide) rfl w_403 (fun r1 => ?_)
  refine z_getR cX7 (pc := 4) dX9_draw_4 (j := 2) (by decide) rfl w_247 (fun r2 => ?_)
  refine z_iload_n (x := x1) (pc := 7) dX9_draw_7 rfl rfl ?_
  refine z_cVP (As := [.int x1]) (rest := []) hG.1 (m_X0_has hG h r2 x1) (fun _ e => z_gdb e) oX0_has (pc := 8) dX9_draw_8 rfl w_643 rfl rfl rfl (fun t3 => ?_)
  refine z_if_eq (tgt := 31) (pc := 11) dX9_draw_11 (by decide) (fun _ => ?_) (fun _ => ?_)
  · refine z_iconst (v := (-1)) (pc := 31) dX9_draw_31 (by decide) ?_
    exact z_ireturn (pc := 32) dX9_draw_32 rfl rfl rfl
  refine z_iload_n (x := x2) (pc := 14) dX9_draw_14 rfl rfl ?_
  refine z_iconst (v := 1) (pc := 15) dX9_draw_15 (by decide) ?_
  refine z_ic_lt (tgt := 31) (pc := 16) dX9_draw_16 (by decide) (fun _ => ?_) (fun _ => ?_)
  · refine z_iconst (v := (-1)) (pc := 31) dX9_draw_31 (by decide) ?_
    exact z_ireturn (pc := 32) dX9_draw_32 rfl rfl rfl
  refine z_iload_n (x := x2) (pc := 19) dX9_draw_19 rfl rfl ?_
  refine z_aload_n (x := a) (pc := 20) dX9_draw_20 rfl rfl ?_
  refine z_getR cX9 (pc := 21) dX9_draw_21 (j := 0) (by decide) rfl w_403 (fun r4 => ?_)
  refine z_iload_n (x := x1) (pc := 24) dX9_draw_24 rfl rfl ?_
  refine z_cVP (As := [.int x1]) (rest := [.int x2]) hG.1 (m_X7_balance hG h r4 x1) (fun _ e => z_gdb e) oX7_balance (pc := 25) dX9_draw_25 rfl w_822 rfl rfl rfl (fun t5 => ?_)
  refine z_ic_le (tgt := 33) (pc := 28) dX9_draw_28 (by decide) (fun _ => ?_) (fun _ => ?_)
  · refine z_aload_n (x := a) (pc := 33) dX9_draw_33 rfl rfl ?_
    refine z_getR cX9 (pc := 34) dX9_draw_34 (j := 0) (by decide) rfl w_403 (fun r6 => ?_)
    refine z_getR cX7 (pc := 37) dX9_draw_37 (j := 2) (by decide) rfl w_247 (fun r7 => ?_)
    refine z_getR cX0 (pc := 40) dX9_draw_40 (j := 3) (by decide) rfl w_152 (fun r8 => ?_)
    refine z_iload_n (x := x1) (pc := 43) dX9_draw_43 rfl rfl ?_
    refine z_dup2 (pc := 44) dX9_draw_44 rfl rfl ?_
    refine z_aldI (pc := 45) dX9_draw_45 (fun t9 => ?_)
    refine z_iload_n (x := x2) (pc := 46) dX9_draw_46 rfl rfl ?_
    refine z_iadd (pc := 47) dX9_draw_47 ?_
    refine z_astI (pc := 48) dX9_draw_48 (fun h10 => ?_)
    refine z_aload_n (x := a) (pc := 49) dX9_draw_49 rfl rfl ?_
    refine z_getR cX9 (pc := 50) dX9_draw_50 (j := 0) (by decide) rfl w_403 (fun r11 => ?_)
    refine z_iload_n (x := x1) (pc := 53) dX9_draw_53 rfl rfl ?_
    refine z_iconst (v := 2) (pc := 54) dX9_draw_54 (by decide) ?_
    refine z_iload_n (x := x2) (pc := 55) dX9_draw_55 rfl rfl ?_
    refine z_iconst (v := (-1)) (pc := 56) dX9_draw_56 (by decide) ?_
    refine z_cVV (As := [.int x1, .int 2, .int x2, .int (-1)]) (rest := []) hG.1 (m_X7_note hG h10 r11 x1 2 x2 (-1)) (fun _ e => z_gdb e) oX7_note (pc := 57) dX9_draw_57 rfl w_803 rfl rfl rfl (fun h12 => ?_)
    refine z_aload_n (x := a) (pc := 60) dX9_draw_60 rfl rfl ?_
    refine z_getR cX9 (pc := 61) dX9_draw_61 (j := 0) (by decide) rfl w_403 (fun r13 => ?_)
    refine z_iload_n (x := x1) (pc := 64) dX9_draw_64 rfl rfl ?_
    refine z_cVP (As := [.int x1]) (rest := []) hG.1 (m_X7_balance hG h12 r13 x1) (fun _ e => z_gdb e) oX7_balance (pc := 65) dX9_draw_65 rfl w_822 rfl rfl rfl (fun t14 => ?_)
    exact z_ireturn (pc := 68) dX9_draw_68 rfl rfl rfl
  refine z_iconst (v := (-1)) (pc := 31) dX9_draw_31 (by decide) ?_
  exact z_ireturn (pc := 32) dX9_draw_32 rfl rfl rfl
set_option maxHeartbeats 2000000 in
set_option maxRecDepth 20000 in
theorem m_X10_earnedAt {G : Z_G} (hG : z_GG G) (h : Z_H) (a : Nat) (x1 : Int32) (x2 : Int32) (x3 : Int32) : z_Met G iX10_earnedAt [.ref a, .int x1, .int x2, .int x3] h ((f_X10_earnedAt h a x1 x2 x3).bind fun r => some (r, h)) := by
  refine z_in (la := [some (.ref a), some (.int x1), some (.int x2), some (.int x3), none, none, none]) (by decide) rfl rfl rfl ?_
  unfold f_X10_earnedAt
  refine z_gg (fun _ => ?_)
  refine z_iconst (v := 0) (pc := 0) dX10_earnedAt_0 (by decide) ?_
  refine z_istore (i := 4) (la' := [some (.ref a), some (.int x1), some (.int x2), some (.int x3), some (.int 0), none, none]) (pc := 1) dX10_earnedAt_1 (by decide) rfl rfl ?_
  refine z_iconst (v := 0) (pc := 3) dX10_earnedAt_3 (by decide) ?_
  refine z_istore (i := 5) (la' := [some (.ref a), some (.int x1), some (.int x2), some (.int x3), some (.int 0), some (.int 0), none]) (pc := 4) dX10_earnedAt_4 (by decide) rfl rfl ?_
  refine z_lp (T := Int32) (s0 := (0, 0)) 6 (fun ((v1, v2) : Int32 × Int32) => [some (.ref a), some (.int x1), some (.int x2), some (.int x3), some (.int v1), some (.int v2), none]) (fun ((v1, v2) : Int32 × Int32) => h) (fun _ => 83) (fun (v3 : Int32) => [none, none, none, none, some (.int v3), none, none]) (fun (v3 : Int32) => h) ?_ ?_
  · rintro v3
    try dsimp only
    refine z_iload (x := v3) (pc := 83) dX10_earnedAt_83 rfl ?_
    exact z_ireturn (pc := 85) dX10_earnedAt_85 rfl rfl rfl
  intro k' hx1 rec4 hrec4
  rintro ⟨v1, v2⟩
  unfold f_X10_earnedAt_l1
  try dsimp only
  refine z_iload (x := v2) (pc := 6) dX10_earnedAt_6 rfl ?_
  refine z_aload_n (x := a) (pc := 8) dX10_earnedAt_8 rfl rfl ?_
  refine z_getR cX10 (pc := 9) dX10_earnedAt_9 (j := 1) (by decide) rfl w_1088 (fun r5 => ?_)
  refine z_sipush (v := 146) (pc := 12) dX10_earnedAt_12 (by decide) ?_
  refine z_aldI (pc := 15) dX10_earnedAt_15 (fun t6 => ?_)
  refine z_ic_ge (tgt := 83) (pc := 16) dX10_earnedAt_16 (by decide) (fun _ => ?_) (fun _ => ?_)
  · exact z_wk (hx1 v1) (And.intro rfl trivial)
  refine z_iconst (v := 0) (pc := 19) dX10_earnedAt_19 (by decide) ?_
  refine z_istore (i := 6) (la' := [some (.ref a), some (.int x1), some (.int x2), some (.int x3), some (.int v1), some (.int v2), some (.int 0)]) (pc := 20) dX10_earnedAt_20 (by decide) rfl rfl ?_
  refine z_lp (T := Int32) (s0 := (v1, 0)) 22 (fun ((v7, v8) : Int32 × Int32) => [some (.ref a), some (.int x1), some (.int x2), some (.int x3), some (.int v7), some (.int v2), some (.int v8)]) (fun ((v7, v8) : Int32 × Int32) => h) (fun _ => 77) (fun (v9 : Int32) => [some (.ref a), some (.int x1), some (.int x2), some (.int x3), some (.int v9), some (.int v2), none]) (fun (v9 : Int32) => h) ?_ ?_
  · rintro v9
    try dsimp only
    refine z_iinc (i := 5) (x := v2) (v := (v2 + 1)) (la' := [some (.ref a), some (.int x1), some (.int x2), some (.int x3), some (.int v9), some (.int (v2 + 1)), none]) (pc := 77) dX10_earnedAt_77 rfl rfl (by decide) rfl rfl ?_
    refine z_goto (tgt := 6) (pc := 80) dX10_earnedAt_80 (by decide) ?_
    exact hrec4 (v9, (v2 + 1))
  intro k' hx2 rec10 hrec10
  rintro ⟨v7, v8⟩
  unfold f_X10_earnedAt_l2
  try dsimp only
  refine z_iload (x := v8) (pc := 22) dX10_earnedAt_22 rfl ?_
  refine z_aload_n (x := a) (pc := 24) dX10_earnedAt_24 rfl rfl ?_
  refine z_iload (x := v2) (pc := 25) dX10_earnedAt_25 rfl ?_
  refine z_iconst (v := 5) (pc := 27) dX10_earnedAt_27 (by decide) ?_
  refine z_cVP (As := [.int v2, .int 5]) (rest := [.int v8]) hG.1 (m_X10_ofSale hG h a v2 5) (fun _ e => z_gdb e) oX10_ofSale (pc := 28) dX10_earnedAt_28 rfl w_1311 rfl rfl rfl (fun t11 => ?_)
  refine z_ic_ge (tgt := 77) (pc := 31) dX10_earnedAt_31 (by decide) (fun _ => ?_) (fun _ => ?_)
  · exact z_wk (hx2 v7) (And.intro rfl (And.intro rfl (And.intro rfl (And.intro rfl (And.intro rfl (And.intro rfl trivial))))))
  refine z_iload (x := v7) (pc := 34) dX10_earnedAt_34 rfl ?_
  refine z_iload (x := v2) (pc := 36) dX10_earnedAt_36 rfl ?_
  refine z_iload_n (x := x3) (pc := 38) dX10_earnedAt_38 rfl rfl ?_
  refine z_jn 68 (fun (y12 : Int32) => [some (.ref a), some (.int x1), some (.int x2), some (.int x3), none, some (.int v2), some (.int v8)]) (fun (y12 : Int32) => [.int y12, .int v7]) (fun (y12 : Int32) => h) ?_ ?_
  · rintro y12
    try dsimp only
    refine z_iadd (pc := 68) dX10_earnedAt_68 ?_
    refine z_nm (fun v14 => ?_)
    refine z_istore (i := 4) (la' := [some (.ref a), some (.int x1), some (.int x2), some (.int x3), some (.int v14), some (.int v2), some (.int v8)]) (pc := 69) dX10_earnedAt_69 (by decide) rfl rfl ?_
    refine z_iinc (i := 6) (x := v8) (v := (v8 + 1)) (la' := [some (.ref a), some (.int x1), some (.int x2), some (.int x3), some (.int v14), some (.int v2), some (.int (v8 + 1))]) (pc := 71) dX10_earnedAt_71 rfl rfl (by decide) rfl rfl ?_
    refine z_goto (tgt := 22) (pc := 74) dX10_earnedAt_74 (by decide) ?_
    exact hrec10 (v14, (v8 + 1))
  intro j13 hj13
  refine z_jn 67 (fun (_ : Unit) => [some (.ref a), some (.int x1), some (.int x2), some (.int x3), none, some (.int v2), some (.int v8)]) (fun (_ : Unit) => [.int v7]) (fun (_ : Unit) => h) ?_ ?_
  · rintro _
    try dsimp only
    refine z_iconst (v := 0) (pc := 67) dX10_earnedAt_67 (by decide) ?_
    exact hj13 0
  intro j15 hj15
  refine z_ic_eq (tgt := 67) (pc := 39) dX10_earnedAt_39 (by decide) (fun _ => ?_) (fun _ => ?_)
  · exact z_wk (hj15 ()) (And.intro rfl (And.intro rfl (And.intro rfl (And.intro rfl (And.intro rfl (And.intro rfl trivial))))))
  refine z_aload_n (x := a) (pc := 42) dX10_earnedAt_42 rfl rfl ?_
  refine z_iload (x := v2) (pc := 43) dX10_earnedAt_43 rfl ?_
  refine z_iload (x := v8) (pc := 45) dX10_earnedAt_45 rfl ?_
  refine z_iconst (v := 0) (pc := 47) dX10_earnedAt_47 (by decide) ?_
  refine z_cVP (As := [.int v2, .int v8, .int 0]) (rest := [.int v7]) hG.1 (m_X10_ofLevel hG h a v2 v8 0) (fun _ e => z_gdb e) oX10_ofLevel (pc := 48) dX10_earnedAt_48 rfl w_1315 rfl rfl rfl (fun t16 => ?_)
  refine z_iload_n (x := x1) (pc := 51) dX10_earnedAt_51 rfl rfl ?_
  refine z_ic_ne (tgt := 67) (pc := 52) dX10_earnedAt_52 (by decide) (fun _ => ?_) (fun _ => ?_)
  · exact z_wk (hj15 ()) (And.intro rfl (And.intro rfl (And.intro rfl (And.intro rfl (And.intro rfl (And.intro rfl trivial))))))
  refine z_aload_n (x := a) (pc := 55) dX10_earnedAt_55 rfl rfl ?_
  refine z_iload (x := v2) (pc := 56) dX10_earnedAt_56 rfl ?_
  refine z_iload (x := v8) (pc := 58) dX10_earnedAt_58 rfl ?_
  refine z_iload_n (x := x2) (pc := 60) dX10_earnedAt_60 rfl rfl ?_
  refine z_cVP (As := [.int v2, .int v8, .int x2]) (rest := [.int v7]) hG.1 (m_X10_vestedAt hG h a v2 v8 x2) (fun _ e => z_gdb e) oX10_vestedAt (pc := 61) dX10_earnedAt_61 rfl w_1327 rfl rfl rfl (fun t17 => ?_)
  refine z_goto (tgt := 68) (pc := 64) dX10_earnedAt_64 (by decide) ?_
  exact z_wk (hj13 t17) (And.intro rfl (And.intro rfl (And.intro rfl (And.intro rfl (And.intro rfl (And.intro rfl trivial))))))
set_option maxHeartbeats 2000000 in
set_option maxRecDepth 20000 in
theorem m_X10_balanceOf {G : Z_G} (hG : z_GG G) (h : Z_H) (a : Nat) (x1 : Int32) : z_Met G iX10_balanceOf [.ref a, .int x1] h ((f_X10_balanceOf h a x1).bind fun r => some (r, h)) := by
  refine z_in (la := [some (.ref a), some (.int x1)]) (by decide) rfl rfl rfl ?_
  unfold f_X10_balanceOf
  refine z_gg (fun _ => ?_)
  refine z_aload_n (x := a) (pc := 0) dX10_balanceOf_0 rfl rfl ?_
  refine z_iload_n (x := x1) (pc := 1) dX10_balanceOf_1 rfl rfl ?_
  refine z_aload_n (x := a) (pc := 2) dX10_balanceOf_2 rfl rfl ?_
  refine z_cVP (As := []) (rest := [.int x1, .ref a]) hG.1 (m_X10_now hG h a) (fun _ e => z_gdb e) oX10_now (pc := 3) dX10_balanceOf_3 rfl w_1247 rfl rfl rfl (fun t1 => ?_)
  refine z_iconst (v := (-1)) (pc := 6) dX10_balanceOf_6 (by decide) ?_
  refine z_cVP (As := [.int x1, .int t1, .int (-1)]) (rest := []) hG.1 (m_X10_earnedAt hG h a x1 t1 (-1)) (fun _ e => z_gdb e) oX10_earnedAt (pc := 7) dX10_balanceOf_7 rfl w_1420 rfl rfl rfl (fun t2 => ?_)
  refine z_aload_n (x := a) (pc := 10) dX10_balanceOf_10 rfl rfl ?_
  refine z_iload_n (x := x1) (pc := 11) dX10_balanceOf_11 rfl rfl ?_
  refine z_iconst (v := 3) (pc := 12) dX10_balanceOf_12 (by decide) ?_
  refine z_cVP (As := [.int x1, .int 3]) (rest := [.int t2]) hG.1 (m_X10_ofSeller hG h a x1 3) (fun _ e => z_gdb e) oX10_ofSeller (pc := 13) dX10_balanceOf_13 rfl w_1263 rfl rfl rfl (fun t3 => ?_)
  refine z_isub (pc := 16) dX10_balanceOf_16 ?_
  exact z_ireturn (pc := 17) dX10_balanceOf_17 rfl rfl rfl
set_option maxHeartbeats 2000000 in
set_option maxRecDepth 20000 in
theorem m_X10_draw {G : Z_G} (hG : z_GG G) (h : Z_H) (a : Nat) (x1 : Int32) (x2 : Int32) : z_Met G iX10_draw [.ref a, .int x1, .int x2] h ((f_X10_draw h a x1 x2).bind some) := by
  refine z_in (la := [some (.ref a), some (.int x1), some (.int x2)]) (by decide) rfl rfl rfl ?_
  unfold f_X10_draw
  refine z_gg (fun _ => ?_)
  refine z_aload_n (x := a) (pc := 0) dX10_draw_0 rfl rfl ?_
  refine z_iconst (v := 0) (pc := 1) dX10_draw_1 (by decide) ?_
  refine z_putI cX10 (pc := 2) dX10_draw_2 (j := 0) (by decide) rfl rfl w_1087 (fun h1 => ?_)
  refine z_aload_n (x := a) (pc := 5) dX10_draw_5 rfl rfl ?_
  refine z_iload_n (x := x1) (pc := 6) dX10_draw_6 rfl rfl ?_
  refine z_cVP (As := [.int x1]) (rest := []) hG.1 (m_X10_isSeller hG h1 a x1) (fun _ e => z_gdb e) oX10_isSeller (pc := 7) dX10_draw_7 rfl w_1255 rfl rfl rfl (fun t2 => ?_)
  refine z_if_eq (tgt := 27) (pc := 10) dX10_draw_10 (by decide) (fun _ => ?_) (fun _ => ?_)
  · refine z_iconst (v := (-1)) (pc := 27) dX10_draw_27 (by decide) ?_
    exact z_ireturn (pc := 28) dX10_draw_28 rfl rfl rfl
  refine z_iload_n (x := x2) (pc := 13) dX10_draw_13 rfl rfl ?_
  refine z_iconst (v := 1) (pc := 14) dX10_draw_14 (by decide) ?_
  refine z_ic_lt (tgt := 27) (pc := 15) dX10_draw_15 (by decide) (fun _ => ?_) (fun _ => ?_)
  · refine z_iconst (v := (-1)) (pc := 27) dX10_draw_27 (by decide) ?_
    exact z_ireturn (pc := 28) dX10_draw_28 rfl rfl rfl
  refine z_iload_n (x := x2) (pc := 18) dX10_draw_18 rfl rfl ?_
  refine z_aload_n (x := a) (pc := 19) dX10_draw_19 rfl rfl ?_
  refine z_iload_n (x := x1) (pc := 20) dX10_draw_20 rfl rfl ?_
  refine z_cVP (As := [.int x1]) (rest := [.int x2]) hG.1 (m_X10_balanceOf hG h1 a x1) (fun _ e => z_gdb e) oX10_balanceOf (pc := 21) dX10_draw_21 rfl w_1416 rfl rfl rfl (fun t3 => ?_)
  refine z_ic_le (tgt := 29) (pc := 24) dX10_draw_24 (by decide) (fun _ => ?_) (fun _ => ?_)
  · refine z_aload_n (x := a) (pc := 29) dX10_draw_29 rfl rfl ?_
    refine z_iload_n (x := x1) (pc := 30) dX10_draw_30 rfl rfl ?_
    refine z_iconst (v := 3) (pc := 31) dX10_draw_31 (by decide) ?_
    refine z_aload_n (x := a) (pc := 32) dX10_draw_32 rfl rfl ?_
    refine z_iload_n (x := x1) (pc := 33) dX10_draw_33 rfl rfl ?_
    refine z_iconst (v := 3) (pc := 34) dX10_draw_34 (by decide) ?_
    refine z_cVP (As := [.int x1, .int 3]) (rest := [.int 3, .int x1, .ref a]) hG.1 (m_X10_ofSeller hG h1 a x1 3) (fun _ e => z_gdb e) oX10_ofSeller (pc := 35) dX10_draw_35 rfl w_1263 rfl rfl rfl (fun t4 => ?_)
    refine z_iload_n (x := x2) (pc := 38) dX10_draw_38 rfl rfl ?_
    refine z_iadd (pc := 39) dX10_draw_39 ?_
    refine z_cVV (As := [.int x1, .int 3, .int (t4 + x2)]) (rest := []) hG.1 (m_X10_setSeller hG h1 a x1 3 (t4 + x2)) (fun _ e => z_gdb e) oX10_setSeller (pc := 40) dX10_draw_40 rfl w_1299 rfl rfl rfl (fun h5 => ?_)
    refine z_aload_n (x := a) (pc := 43) dX10_draw_43 rfl rfl ?_
    refine z_iload_n (x := x1) (pc := 44) dX10_draw_44 rfl rfl ?_
    refine z_iconst (v := 2) (pc := 45) dX10_draw_45 (by decide) ?_
    refine z_iload_n (x := x2) (pc := 46) dX10_draw_46 rfl rfl ?_
    refine z_iconst (v := (-1)) (pc := 47) dX10_draw_47 (by decide) ?_
    refine z_cVV (As := [.int x1, .int 2, .int x2, .int (-1)]) (rest := []) hG.1 (m_X10_writes hG h5 a x1 2 x2 (-1)) (fun _ e => z_gdb e) oX10_writes (pc := 48) dX10_draw_48 rfl w_1334 rfl rfl rfl (fun h6 => ?_)
    refine z_aload_n (x := a) (pc := 51) dX10_draw_51 rfl rfl ?_
    refine z_iload_n (x := x1) (pc := 52) dX10_draw_52 rfl rfl ?_
    refine z_cVP (As := [.int x1]) (rest := []) hG.1 (m_X10_balanceOf hG h6 a x1) (fun _ e => z_gdb e) oX10_balanceOf (pc := 53) dX10_draw_53 rfl w_1416 rfl rfl rfl (fun t7 => ?_)
    exact z_ireturn (pc := 56) dX10_draw_56 rfl rfl rfl
  refine z_iconst (v := (-1)) (pc := 27) dX10_draw_27 (by decide) ?_
  exact z_ireturn (pc := 28) dX10_draw_28 rfl rfl rfl
set_option maxHeartbeats 2000000 in
set_option maxRecDepth 20000 in
theorem m_X9_rule {G : Z_G} (hG : z_GG G) (h : Z_H) (a : Nat) (x1 : Int32) : z_Met G iX9_rule [.ref a, .int x1] h ((f_X9_rule h a x1).bind fun r => some (r, h)) := by
  refine z_in (la := [some (.ref a), some (.int x1), none]) (by decide) rfl rfl rfl ?_
  unfold f_X9_rule
  refine z_gg (fun _ => ?_)
  refine z_aload_n (x := a) (pc := 0) dX9_rule_0 rfl rfl ?_
  refine z_getR cX9 (pc := 1) dX9_rule_1 (j := 0) (by decide) rfl w_403 (fun r1 => ?_)
  refine z_getR cX7 (pc := 4) dX9_rule_4 (j := 1) (by decide) rfl w_244 (fun r2 => ?_)
  refine z_astore_n (i := 2) (la' := [some (.ref a), some (.int x1), some (.ref r2)]) (pc := 7) dX9_rule_7 rfl (by decide) rfl rfl ?_
  refine z_iload_n (x := x1) (pc := 8) dX9_rule_8 rfl rfl ?_
  refine z_bz (fun hs0 => ?_) (fun hs0 => ?_)
  · refine z_tsw (tgt := 40) (off := 31) (pc := 9) dX9_rule_9 (by rw [hs0]; decide) (by rw [hs0]; decide) (by rw [hs0]; rfl) (by decide) ?_
    refine z_aload_n (x := r2) (pc := 40) dX9_rule_40 rfl rfl ?_
    refine z_getI cX3 (pc := 41) dX9_rule_41 (j := 0) (by decide) rfl w_68 (fun t3 => ?_)
    exact z_ireturn (pc := 44) dX9_rule_44 rfl rfl rfl
  refine z_bz (fun hs1 => ?_) (fun hs1 => ?_)
  · refine z_tsw (tgt := 45) (off := 36) (pc := 9) dX9_rule_9 (by rw [hs1]; decide) (by rw [hs1]; decide) (by rw [hs1]; rfl) (by decide) ?_
    refine z_aload_n (x := r2) (pc := 45) dX9_rule_45 rfl rfl ?_
    refine z_getI cX3 (pc := 46) dX9_rule_46 (j := 1) (by decide) rfl w_72 (fun t4 => ?_)
    exact z_ireturn (pc := 49) dX9_rule_49 rfl rfl rfl
  refine z_bz (fun hs2 => ?_) (fun hs2 => ?_)
  · refine z_tsw (tgt := 50) (off := 41) (pc := 9) dX9_rule_9 (by rw [hs2]; decide) (by rw [hs2]; decide) (by rw [hs2]; rfl) (by decide) ?_
    refine z_aload_n (x := r2) (pc := 50) dX9_rule_50 rfl rfl ?_
    refine z_getI cX3 (pc := 51) dX9_rule_51 (j := 2) (by decide) rfl w_76 (fun t5 => ?_)
    exact z_ireturn (pc := 54) dX9_rule_54 rfl rfl rfl
  refine z_bz (fun hs3 => ?_) (fun hs3 => ?_)
  · refine z_tsw (tgt := 55) (off := 46) (pc := 9) dX9_rule_9 (by rw [hs3]; decide) (by rw [hs3]; decide) (by rw [hs3]; rfl) (by decide) ?_
    refine z_aload_n (x := r2) (pc := 55) dX9_rule_55 rfl rfl ?_
    refine z_getI cX3 (pc := 56) dX9_rule_56 (j := 3) (by decide) rfl w_80 (fun t6 => ?_)
    exact z_ireturn (pc := 59) dX9_rule_59 rfl rfl rfl
  refine z_tswO (tgt := 60) (pc := 9) dX9_rule_9 (z_out (fun v h1 h2 => by
    have hv : v = 0 ∨ v = 1 ∨ v = 2 ∨ v = 3 := by omega
    rcases hv with rfl | rfl | rfl | rfl
    · exact hs0
    · exact hs1
    · exact hs2
    · exact hs3)) (by decide) ?_
  refine z_iload_n (x := x1) (pc := 60) dX9_rule_60 rfl rfl ?_
  refine z_bipush (v := 10) (pc := 61) dX9_rule_61 (by decide) ?_
  refine z_jn 82 (fun (_ : Unit) => [none, some (.int x1), some (.ref r2)]) (fun (_ : Unit) => []) (fun (_ : Unit) => h) ?_ ?_
  · rintro _
    try dsimp only
    refine z_iload_n (x := x1) (pc := 82) dX9_rule_82 rfl rfl ?_
    refine z_bipush (v := 20) (pc := 83) dX9_rule_83 (by decide) ?_
    refine z_jn 104 (fun (_ : Unit) => [none, some (.int x1), some (.ref r2)]) (fun (_ : Unit) => []) (fun (_ : Unit) => h) ?_ ?_
    · rintro _
      try dsimp only
      refine z_iload_n (x := x1) (pc := 104) dX9_rule_104 rfl rfl ?_
      refine z_bipush (v := 30) (pc := 105) dX9_rule_105 (by decide) ?_
      refine z_jn 126 (fun (_ : Unit) => [none, some (.int x1), some (.ref r2)]) (fun (_ : Unit) => []) (fun (_ : Unit) => h) ?_ ?_
      · rintro _
        try dsimp only
        refine z_iload_n (x := x1) (pc := 126) dX9_rule_126 rfl rfl ?_
        refine z_bipush (v := 40) (pc := 127) dX9_rule_127 (by decide) ?_
        refine z_ic_le (tgt := 150) (pc := 129) dX9_rule_129 (by decide) (fun _ => ?_) (fun _ => ?_)
        · refine z_bipush (v := (-2)) (pc := 150) dX9_rule_150 (by decide) ?_
          exact z_ireturn (pc := 152) dX9_rule_152 rfl rfl rfl
        refine z_iload_n (x := x1) (pc := 132) dX9_rule_132 rfl rfl ?_
        refine z_bipush (v := 45) (pc := 133) dX9_rule_133 (by decide) ?_
        refine z_ic_gt (tgt := 150) (pc := 135) dX9_rule_135 (by decide) (fun _ => ?_) (fun _ => ?_)
        · refine z_bipush (v := (-2)) (pc := 150) dX9_rule_150 (by decide) ?_
          exact z_ireturn (pc := 152) dX9_rule_152 rfl rfl rfl
        refine z_aload_n (x := r2) (pc := 138) dX9_rule_138 rfl rfl ?_
        refine z_getR cX3 (pc := 139) dX9_rule_139 (j := 7) (by decide) rfl w_93 (fun r10 => ?_)
        refine z_iload_n (x := x1) (pc := 142) dX9_rule_142 rfl rfl ?_
        refine z_bipush (v := 40) (pc := 143) dX9_rule_143 (by decide) ?_
        refine z_isub (pc := 145) dX9_rule_145 ?_
        refine z_aldI (pc := 146) dX9_rule_146 (fun t11 => ?_)
        refine z_goto (tgt := 152) (pc := 147) dX9_rule_147 (by decide) ?_
        exact z_ireturn (pc := 152) dX9_rule_152 rfl rfl rfl
      intro j9 hj9
      refine z_ic_lt (tgt := 126) (pc := 107) dX9_rule_107 (by decide) (fun _ => ?_) (fun _ => ?_)
      · exact hj9 ()
      refine z_iload_n (x := x1) (pc := 110) dX9_rule_110 rfl rfl ?_
      refine z_bipush (v := 33) (pc := 111) dX9_rule_111 (by decide) ?_
      refine z_ic_gt (tgt := 126) (pc := 113) dX9_rule_113 (by decide) (fun _ => ?_) (fun _ => ?_)
      · exact hj9 ()
      refine z_aload_n (x := r2) (pc := 116) dX9_rule_116 rfl rfl ?_
      refine z_getR cX3 (pc := 117) dX9_rule_117 (j := 6) (by decide) rfl w_90 (fun r12 => ?_)
      refine z_iload_n (x := x1) (pc := 120) dX9_rule_120 rfl rfl ?_
      refine z_bipush (v := 30) (pc := 121) dX9_rule_121 (by decide) ?_
      refine z_isub (pc := 123) dX9_rule_123 ?_
      refine z_aldI (pc := 124) dX9_rule_124 (fun t13 => ?_)
      exact z_ireturn (pc := 125) dX9_rule_125 rfl rfl rfl
    intro j8 hj8
    refine z_ic_lt (tgt := 104) (pc := 85) dX9_rule_85 (by decide) (fun _ => ?_) (fun _ => ?_)
    · exact hj8 ()
    refine z_iload_n (x := x1) (pc := 88) dX9_rule_88 rfl rfl ?_
    refine z_bipush (v := 23) (pc := 89) dX9_rule_89 (by decide) ?_
    refine z_ic_gt (tgt := 104) (pc := 91) dX9_rule_91 (by decide) (fun _ => ?_) (fun _ => ?_)
    · exact hj8 ()
    refine z_aload_n (x := r2) (pc := 94) dX9_rule_94 rfl rfl ?_
    refine z_getR cX3 (pc := 95) dX9_rule_95 (j := 5) (by decide) rfl w_86 (fun r14 => ?_)
    refine z_iload_n (x := x1) (pc := 98) dX9_rule_98 rfl rfl ?_
    refine z_bipush (v := 20) (pc := 99) dX9_rule_99 (by decide) ?_
    refine z_isub (pc := 101) dX9_rule_101 ?_
    refine z_aldI (pc := 102) dX9_rule_102 (fun t15 => ?_)
    exact z_ireturn (pc := 103) dX9_rule_103 rfl rfl rfl
  intro j7 hj7
  refine z_ic_lt (tgt := 82) (pc := 63) dX9_rule_63 (by decide) (fun _ => ?_) (fun _ => ?_)
  · exact z_wk (hj7 ()) (And.intro rfl (And.intro rfl trivial))
  refine z_iload_n (x := x1) (pc := 66) dX9_rule_66 rfl rfl ?_
  refine z_bipush (v := 13) (pc := 67) dX9_rule_67 (by decide) ?_
  refine z_ic_gt (tgt := 82) (pc := 69) dX9_rule_69 (by decide) (fun _ => ?_) (fun _ => ?_)
  · exact z_wk (hj7 ()) (And.intro rfl (And.intro rfl trivial))
  refine z_aload_n (x := r2) (pc := 72) dX9_rule_72 rfl rfl ?_
  refine z_getR cX3 (pc := 73) dX9_rule_73 (j := 4) (by decide) rfl w_83 (fun r16 => ?_)
  refine z_iload_n (x := x1) (pc := 76) dX9_rule_76 rfl rfl ?_
  refine z_bipush (v := 10) (pc := 77) dX9_rule_77 (by decide) ?_
  refine z_isub (pc := 79) dX9_rule_79 ?_
  refine z_aldI (pc := 80) dX9_rule_80 (fun t17 => ?_)
  exact z_ireturn (pc := 81) dX9_rule_81 rfl rfl rfl
set_option maxHeartbeats 2000000 in
set_option maxRecDepth 20000 in
theorem m_X10_rule {G : Z_G} (hG : z_GG G) (h : Z_H) (a : Nat) (x1 : Int32) : z_Met G iX10_rule [.ref a, .int x1] h ((f_X10_rule h a x1).bind some) := by
  refine z_in (la := [some (.ref a), some (.int x1), none]) (by decide) rfl rfl rfl ?_
  unfold f_X10_rule
  refine z_gg (fun _ => ?_)
  refine z_aload_n (x := a) (pc := 0) dX10_rule_0 rfl rfl ?_
  refine z_iconst (v := 0) (pc := 1) dX10_rule_1 (by decide) ?_
  refine z_putI cX10 (pc := 2) dX10_rule_2 (j := 0) (by decide) rfl rfl w_1087 (fun h1 => ?_)
  refine z_iload_n (x := x1) (pc := 5) dX10_rule_5 rfl rfl ?_
  refine z_iconst (v := 0) (pc := 6) dX10_rule_6 (by decide) ?_
  refine z_iconst (v := 3) (pc := 7) dX10_rule_7 (by decide) ?_
  refine z_cSP (As := [.int x1, .int 0, .int 3]) (rest := []) hG.1 (m_X10_in hG h1 x1 0 3) oX10_in (pc := 8) dX10_rule_8 rfl w_1179 rfl rfl rfl (fun t2 => ?_)
  refine z_if_eq (tgt := 23) (pc := 11) dX10_rule_11 (by decide) (fun _ => ?_) (fun _ => ?_)
  · refine z_iload_n (x := x1) (pc := 23) dX10_rule_23 rfl rfl ?_
    refine z_bipush (v := 10) (pc := 24) dX10_rule_24 (by decide) ?_
    refine z_irem (pc := 26) (by decide) dX10_rule_26 ?_
    refine z_nm (fun v3 => ?_)
    refine z_istore_n (i := 2) (la' := [some (.ref a), some (.int x1), some (.int v3)]) (pc := 27) dX10_rule_27 rfl (by decide) rfl rfl ?_
    refine z_iload_n (x := x1) (pc := 28) dX10_rule_28 rfl rfl ?_
    refine z_bipush (v := 10) (pc := 29) dX10_rule_29 (by decide) ?_
    refine z_bipush (v := 39) (pc := 31) dX10_rule_31 (by decide) ?_
    refine z_cSP (As := [.int x1, .int 10, .int 39]) (rest := []) hG.1 (m_X10_in hG h1 x1 10 39) oX10_in (pc := 33) dX10_rule_33 rfl w_1179 rfl rfl rfl (fun t4 => ?_)
    refine z_jn 76 (fun (_ : Unit) => [some (.ref a), some (.int x1), none]) (fun (_ : Unit) => []) (fun (_ : Unit) => h1) ?_ ?_
    · rintro _
      try dsimp only
      refine z_iload_n (x := x1) (pc := 76) dX10_rule_76 rfl rfl ?_
      refine z_bipush (v := 41) (pc := 77) dX10_rule_77 (by decide) ?_
      refine z_bipush (v := 45) (pc := 79) dX10_rule_79 (by decide) ?_
      refine z_cSP (As := [.int x1, .int 41, .int 45]) (rest := []) hG.1 (m_X10_in hG h1 x1 41 45) oX10_in (pc := 81) dX10_rule_81 rfl w_1179 rfl rfl rfl (fun t6 => ?_)
      refine z_if_eq (tgt := 105) (pc := 84) dX10_rule_84 (by decide) (fun _ => ?_) (fun _ => ?_)
      · refine z_bipush (v := (-2)) (pc := 105) dX10_rule_105 (by decide) ?_
        exact z_ireturn (pc := 107) dX10_rule_107 rfl rfl rfl
      refine z_aload_n (x := a) (pc := 87) dX10_rule_87 rfl rfl ?_
      refine z_getR cX10 (pc := 88) dX10_rule_88 (j := 1) (by decide) rfl w_1088 (fun r7 => ?_)
      refine z_bipush (v := 19) (pc := 91) dX10_rule_91 (by decide) ?_
      refine z_bipush (v := 25) (pc := 93) dX10_rule_93 (by decide) ?_
      refine z_iload_n (x := x1) (pc := 95) dX10_rule_95 rfl rfl ?_
      refine z_bipush (v := 41) (pc := 96) dX10_rule_96 (by decide) ?_
      refine z_isub (pc := 98) dX10_rule_98 ?_
      refine z_imul (pc := 99) dX10_rule_99 ?_
      refine z_iadd (pc := 100) dX10_rule_100 ?_
      refine z_aldI (pc := 101) dX10_rule_101 (fun t8 => ?_)
      refine z_goto (tgt := 107) (pc := 102) dX10_rule_102 (by decide) ?_
      exact z_ireturn (pc := 107) dX10_rule_107 rfl rfl rfl
    intro j5 hj5
    refine z_if_eq (tgt := 76) (pc := 36) dX10_rule_36 (by decide) (fun _ => ?_) (fun _ => ?_)
    · exact z_wk (hj5 ()) (And.intro rfl (And.intro rfl trivial))
    refine z_iload_n (x := v3) (pc := 39) dX10_rule_39 rfl rfl ?_
    refine z_iconst (v := 3) (pc := 40) dX10_rule_40 (by decide) ?_
    refine z_ic_gt (tgt := 76) (pc := 41) dX10_rule_41 (by decide) (fun _ => ?_) (fun _ => ?_)
    · exact z_wk (hj5 ()) (And.intro rfl (And.intro rfl trivial))
    refine z_aload_n (x := a) (pc := 44) dX10_rule_44 rfl rfl ?_
    refine z_getR cX10 (pc := 45) dX10_rule_45 (j := 1) (by decide) rfl w_1088 (fun r9 => ?_)
    refine z_iload_n (x := x1) (pc := 48) dX10_rule_48 rfl rfl ?_
    refine z_bipush (v := 20) (pc := 49) dX10_rule_49 (by decide) ?_
    refine z_jn 72 (fun (y10 : Int32) => [none, none, some (.int v3)]) (fun (y10 : Int32) => [.int y10, .ref r9]) (fun (y10 : Int32) => h1) ?_ ?_
    · rintro y10
      try dsimp only
      refine z_iload_n (x := v3) (pc := 72) dX10_rule_72 rfl rfl ?_
      refine z_iadd (pc := 73) dX10_rule_73 ?_
      refine z_aldI (pc := 74) dX10_rule_74 (fun t12 => ?_)
      exact z_ireturn (pc := 75) dX10_rule_75 rfl rfl rfl
    intro j11 hj11
    refine z_ic_ge (tgt := 59) (pc := 51) dX10_rule_51 (by decide) (fun _ => ?_) (fun _ => ?_)
    · refine z_iload_n (x := x1) (pc := 59) dX10_rule_59 rfl rfl ?_
      refine z_bipush (v := 30) (pc := 60) dX10_rule_60 (by decide) ?_
      refine z_ic_ge (tgt := 70) (pc := 62) dX10_rule_62 (by decide) (fun _ => ?_) (fun _ => ?_)
      · refine z_bipush (v := 15) (pc := 70) dX10_rule_70 (by decide) ?_
        exact z_wk (hj11 15) (And.intro rfl trivial)
      refine z_bipush (v := 11) (pc := 65) dX10_rule_65 (by decide) ?_
      refine z_goto (tgt := 72) (pc := 67) dX10_rule_67 (by decide) ?_
      exact z_wk (hj11 11) (And.intro rfl trivial)
    refine z_bipush (v := 7) (pc := 54) dX10_rule_54 (by decide) ?_
    refine z_goto (tgt := 72) (pc := 56) dX10_rule_56 (by decide) ?_
    exact z_wk (hj11 7) (And.intro rfl trivial)
  refine z_aload_n (x := a) (pc := 14) dX10_rule_14 rfl rfl ?_
  refine z_getR cX10 (pc := 15) dX10_rule_15 (j := 1) (by decide) rfl w_1088 (fun r13 => ?_)
  refine z_iconst (v := 3) (pc := 18) dX10_rule_18 (by decide) ?_
  refine z_iload_n (x := x1) (pc := 19) dX10_rule_19 rfl rfl ?_
  refine z_iadd (pc := 20) dX10_rule_20 ?_
  refine z_aldI (pc := 21) dX10_rule_21 (fun t14 => ?_)
  exact z_ireturn (pc := 22) dX10_rule_22 rfl rfl rfl
set_option maxHeartbeats 2000000 in
set_option maxRecDepth 20000 in
theorem m_X9_greatestRank {G : Z_G} (hG : z_GG G) (h : Z_H) (a : Nat) (x1 : Int32) (x2 : Int32) : z_Met G iX9_greatestRank [.ref a, .int x1, .int x2] h ((f_X9_greatestRank h a x1 x2).bind some) := by
  refine z_in (la := [some (.ref a), some (.int x1), some (.int x2), none, none, none]) (by decide) rfl rfl rfl ?_
  unfold f_X9_greatestRank
  refine z_gg (fun _ => ?_)
  refine z_iconst (v := (-1)) (pc := 0) dX9_greatestRank_0 (by decide) ?_
  refine z_istore_n (i := 3) (la' := [some (.ref a), some (.int x1), some (.int x2), some (.int (-1)), none, none]) (pc := 1) dX9_greatestRank_1 rfl (by decide) rfl rfl ?_
  refine z_iconst (v := (-1)) (pc := 2) dX9_greatestRank_2 (by decide) ?_
  refine z_istore (i := 4) (la' := [some (.ref a), some (.int x1), some (.int x2), some (.int (-1)), some (.int (-1)), none]) (pc := 3) dX9_greatestRank_3 (by decide) rfl rfl ?_
  refine z_aload_n (x := a) (pc := 5) dX9_greatestRank_5 rfl rfl ?_
  refine z_getR cX9 (pc := 6) dX9_greatestRank_6 (j := 0) (by decide) rfl w_403 (fun r1 => ?_)
  refine z_getR cX7 (pc := 9) dX9_greatestRank_9 (j := 2) (by decide) rfl w_247 (fun r2 => ?_)
  refine z_getR cX0 (pc := 12) dX9_greatestRank_12 (j := 1) (by decide) rfl w_145 (fun r3 => ?_)
  refine z_iload_n (x := x1) (pc := 15) dX9_greatestRank_15 rfl rfl ?_
  refine z_aldI (pc := 16) dX9_greatestRank_16 (fun t4 => ?_)
  refine z_istore (i := 5) (la' := [some (.ref a), some (.int x1), some (.int x2), some (.int (-1)), some (.int (-1)), some (.int t4)]) (pc := 17) dX9_greatestRank_17 (by decide) rfl rfl ?_
  refine z_lp (T := Int32 × Int32 × Z_H) (s0 := ((-1), (-1), t4, h)) 19 (fun ((v5, v6, v7, h8) : Int32 × Int32 × Int32 × Z_H) => [some (.ref a), some (.int x1), some (.int x2), some (.int v5), some (.int v6), some (.int v7)]) (fun ((v5, v6, v7, h8) : Int32 × Int32 × Int32 × Z_H) => h8) (fun _ => 82) (fun ((v9, v10, h11) : Int32 × Int32 × Z_H) => [none, none, some (.int x2), some (.int v9), some (.int v10), none]) (fun ((v9, v10, h11) : Int32 × Int32 × Z_H) => h11) ?_ ?_
  · rintro ⟨v9, v10, h11⟩
    try dsimp only
    refine z_iload_n (x := x2) (pc := 82) dX9_greatestRank_82 rfl rfl ?_
    refine z_if_eq (tgt := 91) (pc := 83) dX9_greatestRank_83 (by decide) (fun _ => ?_) (fun _ => ?_)
    · refine z_iload_n (x := v9) (pc := 91) dX9_greatestRank_91 rfl rfl ?_
      exact z_ireturn (pc := 92) dX9_greatestRank_92 rfl rfl rfl
    refine z_iload (x := v10) (pc := 86) dX9_greatestRank_86 rfl ?_
    refine z_goto (tgt := 92) (pc := 88) dX9_greatestRank_88 (by decide) ?_
    exact z_ireturn (pc := 92) dX9_greatestRank_92 rfl rfl rfl
  intro k' hx1 rec12 hrec12
  rintro ⟨v5, v6, v7, h8⟩
  unfold f_X9_greatestRank_l1
  try dsimp only
  refine z_iload (x := v7) (pc := 19) dX9_greatestRank_19 rfl ?_
  refine z_aload_n (x := a) (pc := 21) dX9_greatestRank_21 rfl rfl ?_
  refine z_getR cX9 (pc := 22) dX9_greatestRank_22 (j := 0) (by decide) rfl w_403 (fun r13 => ?_)
  refine z_getI cX7 (pc := 25) dX9_greatestRank_25 (j := 8) (by decide) rfl w_261 (fun t14 => ?_)
  refine z_ic_gt (tgt := 82) (pc := 28) dX9_greatestRank_28 (by decide) (fun _ => ?_) (fun _ => ?_)
  · exact z_wk (hx1 (v5, v6, h8)) (And.intro rfl (And.intro rfl (And.intro rfl trivial)))
  refine z_iload_n (x := v5) (pc := 31) dX9_greatestRank_31 rfl rfl ?_
  refine z_iconst (v := 3) (pc := 32) dX9_greatestRank_32 (by decide) ?_
  refine z_ic_ge (tgt := 82) (pc := 33) dX9_greatestRank_33 (by decide) (fun _ => ?_) (fun _ => ?_)
  · exact z_wk (hx1 (v5, v6, h8)) (And.intro rfl (And.intro rfl (And.intro rfl trivial)))
  refine z_aload_n (x := a) (pc := 36) dX9_greatestRank_36 rfl rfl ?_
  refine z_getR cX9 (pc := 37) dX9_greatestRank_37 (j := 3) (by decide) rfl w_406 (fun r15 => ?_)
  refine z_aload_n (x := a) (pc := 40) dX9_greatestRank_40 rfl rfl ?_
  refine z_getR cX9 (pc := 41) dX9_greatestRank_41 (j := 0) (by decide) rfl w_403 (fun r16 => ?_)
  refine z_iload (x := v7) (pc := 44) dX9_greatestRank_44 rfl ?_
  refine z_cVV (As := [.ref r16, .int v7]) (rest := []) hG.1 (m_X6_look hG h8 r15 r16 v7) (fun _ e => z_gdb e) oX6_look (pc := 46) dX9_greatestRank_46 rfl w_721 rfl rfl rfl (fun h17 => ?_)
  refine z_aload_n (x := a) (pc := 49) dX9_greatestRank_49 rfl rfl ?_
  refine z_getR cX9 (pc := 50) dX9_greatestRank_50 (j := 3) (by decide) rfl w_406 (fun r18 => ?_)
  refine z_getR cX6 (pc := 53) dX9_greatestRank_53 (j := 7) (by decide) rfl w_351 (fun r19 => ?_)
  refine z_iload_n (x := x1) (pc := 56) dX9_greatestRank_56 rfl rfl ?_
  refine z_aldI (pc := 57) dX9_greatestRank_57 (fun t20 => ?_)
  refine z_iload_n (x := v5) (pc := 58) dX9_greatestRank_58 rfl rfl ?_
  refine z_jn 76 (fun ((v21, v22) : Int32 × Int32) => [some (.ref a), some (.int x1), some (.int x2), some (.int v21), some (.int v22), some (.int v7)]) (fun ((v21, v22) : Int32 × Int32) => []) (fun ((v21, v22) : Int32 × Int32) => h17) ?_ ?_
  · rintro ⟨v21, v22⟩
    try dsimp only
    refine z_iinc (i := 5) (x := v7) (v := (v7 + 1)) (la' := [some (.ref a), some (.int x1), some (.int x2), some (.int v21), some (.int v22), some (.int (v7 + 1))]) (pc := 76) dX9_greatestRank_76 rfl rfl (by decide) rfl rfl ?_
    refine z_goto (tgt := 19) (pc := 79) dX9_greatestRank_79 (by decide) ?_
    exact hrec12 (v21, v22, (v7 + 1), h17)
  intro j23 hj23
  refine z_ic_le (tgt := 76) (pc := 59) dX9_greatestRank_59 (by decide) (fun _ => ?_) (fun _ => ?_)
  · exact hj23 (v5, v6)
  refine z_aload_n (x := a) (pc := 62) dX9_greatestRank_62 rfl rfl ?_
  refine z_getR cX9 (pc := 63) dX9_greatestRank_63 (j := 3) (by decide) rfl w_406 (fun r24 => ?_)
  refine z_getR cX6 (pc := 66) dX9_greatestRank_66 (j := 7) (by decide) rfl w_351 (fun r25 => ?_)
  refine z_iload_n (x := x1) (pc := 69) dX9_greatestRank_69 rfl rfl ?_
  refine z_aldI (pc := 70) dX9_greatestRank_70 (fun t26 => ?_)
  refine z_istore_n (i := 3) (la' := [some (.ref a), some (.int x1), some (.int x2), some (.int t26), some (.int v6), some (.int v7)]) (pc := 71) dX9_greatestRank_71 rfl (by decide) rfl rfl ?_
  refine z_iload (x := v7) (pc := 72) dX9_greatestRank_72 rfl ?_
  refine z_istore (i := 4) (la' := [some (.ref a), some (.int x1), some (.int x2), some (.int t26), some (.int v7), some (.int v7)]) (pc := 74) dX9_greatestRank_74 (by decide) rfl rfl ?_
  exact hj23 (t26, v7)
set_option maxHeartbeats 2000000 in
set_option maxRecDepth 20000 in
theorem m_X5_countOf {G : Z_G} (hG : z_GG G) (h : Z_H) (a : Nat) (x1 : Int32) : z_Met G iX5_countOf [.ref a, .int x1] h ((f_X5_countOf h a x1).bind fun r => some (r, h)) := by
  refine z_in (la := [some (.ref a), some (.int x1), none, none]) (by decide) rfl rfl rfl ?_
  unfold f_X5_countOf
  refine z_gg (fun _ => ?_)
  refine z_iconst (v := 0) (pc := 0) dX5_countOf_0 (by decide) ?_
  refine z_istore_n (i := 2) (la' := [some (.ref a), some (.int x1), some (.int 0), none]) (pc := 1) dX5_countOf_1 rfl (by decide) rfl rfl ?_
  refine z_iconst (v := 0) (pc := 2) dX5_countOf_2 (by decide) ?_
  refine z_istore_n (i := 3) (la' := [some (.ref a), some (.int x1), some (.int 0), some (.int 0)]) (pc := 3) dX5_countOf_3 rfl (by decide) rfl rfl ?_
  refine z_lp (T := Int32) (s0 := (0, 0)) 4 (fun ((v1, v2) : Int32 × Int32) => [some (.ref a), some (.int x1), some (.int v1), some (.int v2)]) (fun ((v1, v2) : Int32 × Int32) => h) (fun _ => 36) (fun (v3 : Int32) => [none, none, some (.int v3), none]) (fun (v3 : Int32) => h) ?_ ?_
  · rintro v3
    try dsimp only
    refine z_iload_n (x := v3) (pc := 36) dX5_countOf_36 rfl rfl ?_
    exact z_ireturn (pc := 37) dX5_countOf_37 rfl rfl rfl
  intro k' hx1 rec4 hrec4
  rintro ⟨v1, v2⟩
  unfold f_X5_countOf_l1
  try dsimp only
  refine z_iload_n (x := v2) (pc := 4) dX5_countOf_4 rfl rfl ?_
  refine z_aload_n (x := a) (pc := 5) dX5_countOf_5 rfl rfl ?_
  refine z_getI cX5 (pc := 6) dX5_countOf_6 (j := 0) (by decide) rfl w_183 (fun t5 => ?_)
  refine z_ic_ge (tgt := 36) (pc := 9) dX5_countOf_9 (by decide) (fun _ => ?_) (fun _ => ?_)
  · exact z_wk (hx1 v1) (And.intro rfl trivial)
  refine z_iload_n (x := v1) (pc := 12) dX5_countOf_12 rfl rfl ?_
  refine z_aload_n (x := a) (pc := 13) dX5_countOf_13 rfl rfl ?_
  refine z_getR cX5 (pc := 14) dX5_countOf_14 (j := 1) (by decide) rfl w_187 (fun r6 => ?_)
  refine z_iload_n (x := v2) (pc := 17) dX5_countOf_17 rfl rfl ?_
  refine z_aldI (pc := 18) dX5_countOf_18 (fun t7 => ?_)
  refine z_iload_n (x := x1) (pc := 19) dX5_countOf_19 rfl rfl ?_
  refine z_jn 28 (fun (y8 : Int32) => [some (.ref a), some (.int x1), none, some (.int v2)]) (fun (y8 : Int32) => [.int y8, .int v1]) (fun (y8 : Int32) => h) ?_ ?_
  · rintro y8
    try dsimp only
    refine z_iadd (pc := 28) dX5_countOf_28 ?_
    refine z_nm (fun v10 => ?_)
    refine z_istore_n (i := 2) (la' := [some (.ref a), some (.int x1), some (.int v10), some (.int v2)]) (pc := 29) dX5_countOf_29 rfl (by decide) rfl rfl ?_
    refine z_iinc (i := 3) (x := v2) (v := (v2 + 1)) (la' := [some (.ref a), some (.int x1), some (.int v10), some (.int (v2 + 1))]) (pc := 30) dX5_countOf_30 rfl rfl (by decide) rfl rfl ?_
    refine z_goto (tgt := 4) (pc := 33) dX5_countOf_33 (by decide) ?_
    exact hrec4 (v10, (v2 + 1))
  intro j9 hj9
  refine z_ic_ne (tgt := 27) (pc := 20) dX5_countOf_20 (by decide) (fun _ => ?_) (fun _ => ?_)
  · refine z_iconst (v := 0) (pc := 27) dX5_countOf_27 (by decide) ?_
    exact z_wk (hj9 0) (And.intro rfl (And.intro rfl (And.intro rfl trivial)))
  refine z_iconst (v := 1) (pc := 23) dX5_countOf_23 (by decide) ?_
  refine z_goto (tgt := 28) (pc := 24) dX5_countOf_24 (by decide) ?_
  exact z_wk (hj9 1) (And.intro rfl (And.intro rfl (And.intro rfl trivial)))
set_option maxHeartbeats 2000000 in
set_option maxRecDepth 20000 in
theorem m_X7_vestedOfSale {G : Z_G} (hG : z_GG G) (h : Z_H) (a : Nat) (x1 : Int32) : z_Met G iX7_vestedOfSale [.ref a, .int x1] h ((f_X7_vestedOfSale h a x1).bind fun r => some (r, h)) := by
  refine z_in (la := [some (.ref a), some (.int x1), none, none]) (by decide) rfl rfl rfl ?_
  unfold f_X7_vestedOfSale
  refine z_gg (fun _ => ?_)
  refine z_iconst (v := 0) (pc := 0) dX7_vestedOfSale_0 (by decide) ?_
  refine z_istore_n (i := 2) (la' := [some (.ref a), some (.int x1), some (.int 0), none]) (pc := 1) dX7_vestedOfSale_1 rfl (by decide) rfl rfl ?_
  refine z_iconst (v := 1) (pc := 2) dX7_vestedOfSale_2 (by decide) ?_
  refine z_istore_n (i := 3) (la' := [some (.ref a), some (.int x1), some (.int 0), some (.int 1)]) (pc := 3) dX7_vestedOfSale_3 rfl (by decide) rfl rfl ?_
  refine z_lp (T := Int32) (s0 := (0, 1)) 4 (fun ((v1, v2) : Int32 × Int32) => [some (.ref a), some (.int x1), some (.int v1), some (.int v2)]) (fun ((v1, v2) : Int32 × Int32) => h) (fun _ => 36) (fun (v3 : Int32) => [none, none, some (.int v3), none]) (fun (v3 : Int32) => h) ?_ ?_
  · rintro v3
    try dsimp only
    refine z_iload_n (x := v3) (pc := 36) dX7_vestedOfSale_36 rfl rfl ?_
    exact z_ireturn (pc := 37) dX7_vestedOfSale_37 rfl rfl rfl
  intro k' hx1 rec4 hrec4
  rintro ⟨v1, v2⟩
  unfold f_X7_vestedOfSale_l1
  try dsimp only
  refine z_iload_n (x := v2) (pc := 4) dX7_vestedOfSale_4 rfl rfl ?_
  refine z_aload_n (x := a) (pc := 5) dX7_vestedOfSale_5 rfl rfl ?_
  refine z_getR cX7 (pc := 6) dX7_vestedOfSale_6 (j := 3) (by decide) rfl w_249 (fun r5 => ?_)
  refine z_getR cX5 (pc := 9) dX7_vestedOfSale_9 (j := 6) (by decide) rfl w_203 (fun r6 => ?_)
  refine z_iload_n (x := x1) (pc := 12) dX7_vestedOfSale_12 rfl rfl ?_
  refine z_aldI (pc := 13) dX7_vestedOfSale_13 (fun t7 => ?_)
  refine z_ic_gt (tgt := 36) (pc := 14) dX7_vestedOfSale_14 (by decide) (fun _ => ?_) (fun _ => ?_)
  · exact z_wk (hx1 v1) (And.intro rfl trivial)
  refine z_iload_n (x := v1) (pc := 17) dX7_vestedOfSale_17 rfl rfl ?_
  refine z_aload_n (x := a) (pc := 18) dX7_vestedOfSale_18 rfl rfl ?_
  refine z_iload_n (x := x1) (pc := 19) dX7_vestedOfSale_19 rfl rfl ?_
  refine z_iload_n (x := v2) (pc := 20) dX7_vestedOfSale_20 rfl rfl ?_
  refine z_aload_n (x := a) (pc := 21) dX7_vestedOfSale_21 rfl rfl ?_
  refine z_getI cX7 (pc := 22) dX7_vestedOfSale_22 (j := 8) (by decide) rfl w_259 (fun t8 => ?_)
  refine z_cVP (As := [.int x1, .int v2, .int t8]) (rest := [.int v1]) hG.1 (m_X7_vested hG h a x1 v2 t8) (fun _ e => z_gdb e) oX7_vested (pc := 25) dX7_vestedOfSale_25 rfl w_694 rfl rfl rfl (fun t9 => ?_)
  refine z_iadd (pc := 28) dX7_vestedOfSale_28 ?_
  refine z_nm (fun v10 => ?_)
  refine z_istore_n (i := 2) (la' := [some (.ref a), some (.int x1), some (.int v10), some (.int v2)]) (pc := 29) dX7_vestedOfSale_29 rfl (by decide) rfl rfl ?_
  refine z_iinc (i := 3) (x := v2) (v := (v2 + 1)) (la' := [some (.ref a), some (.int x1), some (.int v10), some (.int (v2 + 1))]) (pc := 30) dX7_vestedOfSale_30 rfl rfl (by decide) rfl rfl ?_
  refine z_goto (tgt := 4) (pc := 33) dX7_vestedOfSale_33 (by decide) ?_
  exact hrec4 (v10, (v2 + 1))
set_option maxHeartbeats 2000000 in
set_option maxRecDepth 20000 in
theorem m_X7_exposed {G : Z_G} (hG : z_GG G) (h : Z_H) (a : Nat) (x1 : Int32) : z_Met G iX7_exposed [.ref a, .int x1] h ((f_X7_exposed h a x1).bind fun r => some (r, h)) := by
  refine z_in (la := [some (.ref a), some (.int x1), none, none]) (by decide) rfl rfl rfl ?_
  unfold f_X7_exposed
  refine z_gg (fun _ => ?_)
  refine z_iconst (v := 0) (pc := 0) dX7_exposed_0 (by decide) ?_
  refine z_istore_n (i := 2) (la' := [some (.ref a), some (.int x1), some (.int 0), none]) (pc := 1) dX7_exposed_1 rfl (by decide) rfl rfl ?_
  refine z_iconst (v := 0) (pc := 2) dX7_exposed_2 (by decide) ?_
  refine z_istore_n (i := 3) (la' := [some (.ref a), some (.int x1), some (.int 0), some (.int 0)]) (pc := 3) dX7_exposed_3 rfl (by decide) rfl rfl ?_
  refine z_lp (T := Int32) (s0 := (0, 0)) 4 (fun ((v1, v2) : Int32 × Int32) => [some (.ref a), some (.int x1), some (.int v1), some (.int v2)]) (fun ((v1, v2) : Int32 × Int32) => h) (fun _ => 46) (fun (v3 : Int32) => [none, none, some (.int v3), none]) (fun (v3 : Int32) => h) ?_ ?_
  · rintro v3
    try dsimp only
    refine z_iload_n (x := v3) (pc := 46) dX7_exposed_46 rfl rfl ?_
    exact z_ireturn (pc := 47) dX7_exposed_47 rfl rfl rfl
  intro k' hx1 rec4 hrec4
  rintro ⟨v1, v2⟩
  unfold f_X7_exposed_l1
  try dsimp only
  refine z_iload_n (x := v2) (pc := 4) dX7_exposed_4 rfl rfl ?_
  refine z_aload_n (x := a) (pc := 5) dX7_exposed_5 rfl rfl ?_
  refine z_getR cX7 (pc := 6) dX7_exposed_6 (j := 3) (by decide) rfl w_249 (fun r5 => ?_)
  refine z_getI cX5 (pc := 9) dX7_exposed_9 (j := 0) (by decide) rfl w_184 (fun t6 => ?_)
  refine z_ic_ge (tgt := 46) (pc := 12) dX7_exposed_12 (by decide) (fun _ => ?_) (fun _ => ?_)
  · exact z_wk (hx1 v1) (And.intro rfl trivial)
  refine z_iload_n (x := v1) (pc := 15) dX7_exposed_15 rfl rfl ?_
  refine z_aload_n (x := a) (pc := 16) dX7_exposed_16 rfl rfl ?_
  refine z_getR cX7 (pc := 17) dX7_exposed_17 (j := 3) (by decide) rfl w_249 (fun r7 => ?_)
  refine z_getR cX5 (pc := 20) dX7_exposed_20 (j := 1) (by decide) rfl w_188 (fun r8 => ?_)
  refine z_iload_n (x := v2) (pc := 23) dX7_exposed_23 rfl rfl ?_
  refine z_aldI (pc := 24) dX7_exposed_24 (fun t9 => ?_)
  refine z_iload_n (x := x1) (pc := 25) dX7_exposed_25 rfl rfl ?_
  refine z_jn 38 (fun (y10 : Int32) => [some (.ref a), some (.int x1), none, some (.int v2)]) (fun (y10 : Int32) => [.int y10, .int v1]) (fun (y10 : Int32) => h) ?_ ?_
  · rintro y10
    try dsimp only
    refine z_iadd (pc := 38) dX7_exposed_38 ?_
    refine z_nm (fun v12 => ?_)
    refine z_istore_n (i := 2) (la' := [some (.ref a), some (.int x1), some (.int v12), some (.int v2)]) (pc := 39) dX7_exposed_39 rfl (by decide) rfl rfl ?_
    refine z_iinc (i := 3) (x := v2) (v := (v2 + 1)) (la' := [some (.ref a), some (.int x1), some (.int v12), some (.int (v2 + 1))]) (pc := 40) dX7_exposed_40 rfl rfl (by decide) rfl rfl ?_
    refine z_goto (tgt := 4) (pc := 43) dX7_exposed_43 (by decide) ?_
    exact hrec4 (v12, (v2 + 1))
  intro j11 hj11
  refine z_ic_ne (tgt := 37) (pc := 26) dX7_exposed_26 (by decide) (fun _ => ?_) (fun _ => ?_)
  · refine z_iconst (v := 0) (pc := 37) dX7_exposed_37 (by decide) ?_
    exact z_wk (hj11 0) (And.intro rfl (And.intro rfl (And.intro rfl trivial)))
  refine z_aload_n (x := a) (pc := 29) dX7_exposed_29 rfl rfl ?_
  refine z_iload_n (x := v2) (pc := 30) dX7_exposed_30 rfl rfl ?_
  refine z_cVP (As := [.int v2]) (rest := [.int v1]) hG.1 (m_X7_vestedOfSale hG h a v2) (fun _ e => z_gdb e) oX7_vestedOfSale (pc := 31) dX7_exposed_31 rfl w_852 rfl rfl rfl (fun t13 => ?_)
  refine z_goto (tgt := 38) (pc := 34) dX7_exposed_34 (by decide) ?_
  exact z_wk (hj11 t13) (And.intro rfl (And.intro rfl (And.intro rfl trivial)))
set_option maxHeartbeats 2000000 in
set_option maxRecDepth 20000 in
theorem m_X9_seller {G : Z_G} (hG : z_GG G) (h : Z_H) (a : Nat) (x1 : Int32) (x2 : Int32) : z_Met G iX9_seller [.ref a, .int x1, .int x2] h ((f_X9_seller h a x1 x2).bind some) := by
  refine z_in (la := [some (.ref a), some (.int x1), some (.int x2), none]) (by decide) rfl rfl rfl ?_
  unfold f_X9_seller
  refine z_gg (fun _ => ?_)
  refine z_aload_n (x := a) (pc := 0) dX9_seller_0 rfl rfl ?_
  refine z_getR cX9 (pc := 1) dX9_seller_1 (j := 0) (by decide) rfl w_403 (fun r1 => ?_)
  refine z_getR cX7 (pc := 4) dX9_seller_4 (j := 2) (by decide) rfl w_247 (fun r2 => ?_)
  refine z_astore_n (i := 3) (la' := [some (.ref a), some (.int x1), some (.int x2), some (.ref r2)]) (pc := 7) dX9_seller_7 rfl (by decide) rfl rfl ?_
  refine z_aload_n (x := r2) (pc := 8) dX9_seller_8 rfl rfl ?_
  refine z_iload_n (x := x1) (pc := 9) dX9_seller_9 rfl rfl ?_
  refine z_cVP (As := [.int x1]) (rest := []) hG.1 (m_X0_has hG h r2 x1) (fun _ e => z_gdb e) oX0_has (pc := 10) dX9_seller_10 rfl w_643 rfl rfl rfl (fun t3 => ?_)
  refine z_if_ne (tgt := 19) (pc := 13) dX9_seller_13 (by decide) (fun _ => ?_) (fun _ => ?_)
  · refine z_iload_n (x := x2) (pc := 19) dX9_seller_19 rfl rfl ?_
    refine z_bz (fun hs0 => ?_) (fun hs0 => ?_)
    · refine z_tsw (tgt := 84) (off := 64) (pc := 20) dX9_seller_20 (by rw [hs0]; decide) (by rw [hs0]; decide) (by rw [hs0]; rfl) (by decide) ?_
      refine z_aload_n (x := r2) (pc := 84) dX9_seller_84 rfl rfl ?_
      refine z_getR cX0 (pc := 85) dX9_seller_85 (j := 1) (by decide) rfl w_145 (fun r4 => ?_)
      refine z_iload_n (x := x1) (pc := 88) dX9_seller_88 rfl rfl ?_
      refine z_aldI (pc := 89) dX9_seller_89 (fun t5 => ?_)
      exact z_ireturn (pc := 90) dX9_seller_90 rfl rfl rfl
    refine z_bz (fun hs1 => ?_) (fun hs1 => ?_)
    · refine z_tsw (tgt := 91) (off := 71) (pc := 20) dX9_seller_20 (by rw [hs1]; decide) (by rw [hs1]; decide) (by rw [hs1]; rfl) (by decide) ?_
      refine z_aload_n (x := r2) (pc := 91) dX9_seller_91 rfl rfl ?_
      refine z_getR cX0 (pc := 92) dX9_seller_92 (j := 2) (by decide) rfl w_149 (fun r6 => ?_)
      refine z_iload_n (x := x1) (pc := 95) dX9_seller_95 rfl rfl ?_
      refine z_aldI (pc := 96) dX9_seller_96 (fun t7 => ?_)
      exact z_ireturn (pc := 97) dX9_seller_97 rfl rfl rfl
    refine z_bz (fun hs2 => ?_) (fun hs2 => ?_)
    · refine z_tsw (tgt := 98) (off := 78) (pc := 20) dX9_seller_20 (by rw [hs2]; decide) (by rw [hs2]; decide) (by rw [hs2]; rfl) (by decide) ?_
      refine z_aload_n (x := r2) (pc := 98) dX9_seller_98 rfl rfl ?_
      refine z_getR cX0 (pc := 99) dX9_seller_99 (j := 4) (by decide) rfl w_154 (fun r8 => ?_)
      refine z_iload_n (x := x1) (pc := 102) dX9_seller_102 rfl rfl ?_
      refine z_aldI (pc := 103) dX9_seller_103 (fun t9 => ?_)
      exact z_ireturn (pc := 104) dX9_seller_104 rfl rfl rfl
    refine z_bz (fun hs3 => ?_) (fun hs3 => ?_)
    · refine z_tsw (tgt := 105) (off := 85) (pc := 20) dX9_seller_20 (by rw [hs3]; decide) (by rw [hs3]; decide) (by rw [hs3]; rfl) (by decide) ?_
      refine z_aload_n (x := a) (pc := 105) dX9_seller_105 rfl rfl ?_
      refine z_getR cX9 (pc := 106) dX9_seller_106 (j := 0) (by decide) rfl w_403 (fun r10 => ?_)
      refine z_iload_n (x := x1) (pc := 109) dX9_seller_109 rfl rfl ?_
      refine z_aload_n (x := a) (pc := 110) dX9_seller_110 rfl rfl ?_
      refine z_getR cX9 (pc := 111) dX9_seller_111 (j := 0) (by decide) rfl w_403 (fun r11 => ?_)
      refine z_getI cX7 (pc := 114) dX9_seller_114 (j := 8) (by decide) rfl w_261 (fun t12 => ?_)
      refine z_cVP (As := [.int x1, .int t12]) (rest := []) hG.1 (m_X7_earned hG h r10 x1 t12) (fun _ e => z_gdb e) oX7_earned (pc := 117) dX9_seller_117 rfl w_839 rfl rfl rfl (fun t13 => ?_)
      exact z_ireturn (pc := 120) dX9_seller_120 rfl rfl rfl
    refine z_bz (fun hs4 => ?_) (fun hs4 => ?_)
    · refine z_tsw (tgt := 121) (off := 101) (pc := 20) dX9_seller_20 (by rw [hs4]; decide) (by rw [hs4]; decide) (by rw [hs4]; rfl) (by decide) ?_
      refine z_aload_n (x := r2) (pc := 121) dX9_seller_121 rfl rfl ?_
      refine z_getR cX0 (pc := 122) dX9_seller_122 (j := 3) (by decide) rfl w_152 (fun r14 => ?_)
      refine z_iload_n (x := x1) (pc := 125) dX9_seller_125 rfl rfl ?_
      refine z_aldI (pc := 126) dX9_seller_126 (fun t15 => ?_)
      exact z_ireturn (pc := 127) dX9_seller_127 rfl rfl rfl
    refine z_bz (fun hs5 => ?_) (fun hs5 => ?_)
    · refine z_tsw (tgt := 128) (off := 108) (pc := 20) dX9_seller_20 (by rw [hs5]; decide) (by rw [hs5]; decide) (by rw [hs5]; rfl) (by decide) ?_
      refine z_aload_n (x := a) (pc := 128) dX9_seller_128 rfl rfl ?_
      refine z_getR cX9 (pc := 129) dX9_seller_129 (j := 0) (by decide) rfl w_403 (fun r16 => ?_)
      refine z_iload_n (x := x1) (pc := 132) dX9_seller_132 rfl rfl ?_
      refine z_cVP (As := [.int x1]) (rest := []) hG.1 (m_X7_balance hG h r16 x1) (fun _ e => z_gdb e) oX7_balance (pc := 133) dX9_seller_133 rfl w_822 rfl rfl rfl (fun t17 => ?_)
      exact z_ireturn (pc := 136) dX9_seller_136 rfl rfl rfl
    refine z_bz (fun hs6 => ?_) (fun hs6 => ?_)
    · refine z_tsw (tgt := 137) (off := 117) (pc := 20) dX9_seller_20 (by rw [hs6]; decide) (by rw [hs6]; decide) (by rw [hs6]; rfl) (by decide) ?_
      refine z_aload_n (x := r2) (pc := 137) dX9_seller_137 rfl rfl ?_
      refine z_iload_n (x := x1) (pc := 138) dX9_seller_138 rfl rfl ?_
      refine z_cVP (As := [.int x1]) (rest := []) hG.1 (m_X0_hasLeft hG h r2 x1) (fun _ e => z_gdb e) oX0_hasLeft (pc := 139) dX9_seller_139 rfl w_649 rfl rfl rfl (fun t18 => ?_)
      refine z_if_eq (tgt := 149) (pc := 142) dX9_seller_142 (by decide) (fun _ => ?_) (fun _ => ?_)
      · refine z_aload_n (x := a) (pc := 149) dX9_seller_149 rfl rfl ?_
        refine z_getR cX9 (pc := 150) dX9_seller_150 (j := 0) (by decide) rfl w_403 (fun r19 => ?_)
        refine z_iload_n (x := x1) (pc := 153) dX9_seller_153 rfl rfl ?_
        refine z_cVP (As := [.int x1]) (rest := []) hG.1 (m_X7_notVested hG h r19 x1) (fun _ e => z_gdb e) oX7_notVested (pc := 154) dX9_seller_154 rfl w_675 rfl rfl rfl (fun t20 => ?_)
        exact z_ireturn (pc := 157) dX9_seller_157 rfl rfl rfl
      refine z_iconst (v := 0) (pc := 145) dX9_seller_145 (by decide) ?_
      refine z_goto (tgt := 157) (pc := 146) dX9_seller_146 (by decide) ?_
      exact z_ireturn (pc := 157) dX9_seller_157 rfl rfl rfl
    refine z_bz (fun hs7 => ?_) (fun hs7 => ?_)
    · refine z_tsw (tgt := 158) (off := 138) (pc := 20) dX9_seller_20 (by rw [hs7]; decide) (by rw [hs7]; decide) (by rw [hs7]; rfl) (by decide) ?_
      refine z_aload_n (x := r2) (pc := 158) dX9_seller_158 rfl rfl ?_
      refine z_iload_n (x := x1) (pc := 159) dX9_seller_159 rfl rfl ?_
      refine z_cVP (As := [.int x1]) (rest := []) hG.1 (m_X0_hasLeft hG h r2 x1) (fun _ e => z_gdb e) oX0_hasLeft (pc := 160) dX9_seller_160 rfl w_649 rfl rfl rfl (fun t21 => ?_)
      refine z_if_eq (tgt := 177) (pc := 163) dX9_seller_163 (by decide) (fun _ => ?_) (fun _ => ?_)
      · refine z_iconst (v := 0) (pc := 177) dX9_seller_177 (by decide) ?_
        exact z_ireturn (pc := 178) dX9_seller_178 rfl rfl rfl
      refine z_aload_n (x := a) (pc := 166) dX9_seller_166 rfl rfl ?_
      refine z_getR cX9 (pc := 167) dX9_seller_167 (j := 0) (by decide) rfl w_403 (fun r22 => ?_)
      refine z_iload_n (x := x1) (pc := 170) dX9_seller_170 rfl rfl ?_
      refine z_cVP (As := [.int x1]) (rest := []) hG.1 (m_X7_notVested hG h r22 x1) (fun _ e => z_gdb e) oX7_notVested (pc := 171) dX9_seller_171 rfl w_675 rfl rfl rfl (fun t23 => ?_)
      refine z_goto (tgt := 178) (pc := 174) dX9_seller_174 (by decide) ?_
      exact z_ireturn (pc := 178) dX9_seller_178 rfl rfl rfl
    refine z_bz (fun hs8 => ?_) (fun hs8 => ?_)
    · refine z_tsw (tgt := 179) (off := 159) (pc := 20) dX9_seller_20 (by rw [hs8]; decide) (by rw [hs8]; decide) (by rw [hs8]; rfl) (by decide) ?_
      refine z_aload_n (x := a) (pc := 179) dX9_seller_179 rfl rfl ?_
      refine z_iload_n (x := x1) (pc := 180) dX9_seller_180 rfl rfl ?_
      refine z_iconst (v := 0) (pc := 181) dX9_seller_181 (by decide) ?_
      refine z_dVI (As := [.int x1, .int 0]) (rest := []) hG.1 (m_X9_greatestRank hG h a x1 0) (fun _ e => z_gdb e) oX9_greatestRank (pc := 182) dX9_seller_182 rfl w_840 rfl rfl rfl (fun t24 h25 => ?_)
      exact z_ireturn (pc := 185) dX9_seller_185 rfl rfl rfl
    refine z_bz (fun hs9 => ?_) (fun hs9 => ?_)
    · refine z_tsw (tgt := 186) (off := 166) (pc := 20) dX9_seller_20 (by rw [hs9]; decide) (by rw [hs9]; decide) (by rw [hs9]; rfl) (by decide) ?_
      refine z_aload_n (x := a) (pc := 186) dX9_seller_186 rfl rfl ?_
      refine z_iload_n (x := x1) (pc := 187) dX9_seller_187 rfl rfl ?_
      refine z_iconst (v := 1) (pc := 188) dX9_seller_188 (by decide) ?_
      refine z_dVI (As := [.int x1, .int 1]) (rest := []) hG.1 (m_X9_greatestRank hG h a x1 1) (fun _ e => z_gdb e) oX9_greatestRank (pc := 189) dX9_seller_189 rfl w_840 rfl rfl rfl (fun t26 h27 => ?_)
      exact z_ireturn (pc := 192) dX9_seller_192 rfl rfl rfl
    refine z_bz (fun hs10 => ?_) (fun hs10 => ?_)
    · refine z_tsw (tgt := 193) (off := 173) (pc := 20) dX9_seller_20 (by rw [hs10]; decide) (by rw [hs10]; decide) (by rw [hs10]; rfl) (by decide) ?_
      refine z_aload_n (x := a) (pc := 193) dX9_seller_193 rfl rfl ?_
      refine z_getR cX9 (pc := 194) dX9_seller_194 (j := 0) (by decide) rfl w_403 (fun r28 => ?_)
      refine z_getR cX7 (pc := 197) dX9_seller_197 (j := 3) (by decide) rfl w_251 (fun r29 => ?_)
      refine z_iload_n (x := x1) (pc := 200) dX9_seller_200 rfl rfl ?_
      refine z_cVP (As := [.int x1]) (rest := []) hG.1 (m_X5_countOf hG h r29 x1) (fun _ e => z_gdb e) oX5_countOf (pc := 201) dX9_seller_201 rfl w_844 rfl rfl rfl (fun t30 => ?_)
      exact z_ireturn (pc := 204) dX9_seller_204 rfl rfl rfl
    refine z_bz (fun hs11 => ?_) (fun hs11 => ?_)
    · refine z_tsw (tgt := 205) (off := 185) (pc := 20) dX9_seller_20 (by rw [hs11]; decide) (by rw [hs11]; decide) (by rw [hs11]; rfl) (by decide) ?_
      refine z_aload_n (x := a) (pc := 205) dX9_seller_205 rfl rfl ?_
      refine z_getR cX9 (pc := 206) dX9_seller_206 (j := 0) (by decide) rfl w_403 (fun r31 => ?_)
      refine z_iload_n (x := x1) (pc := 209) dX9_seller_209 rfl rfl ?_
      refine z_cVP (As := [.int x1]) (rest := []) hG.1 (m_X7_exposed hG h r31 x1) (fun _ e => z_gdb e) oX7_exposed (pc := 210) dX9_seller_210 rfl w_848 rfl rfl rfl (fun t32 => ?_)
      exact z_ireturn (pc := 213) dX9_seller_213 rfl rfl rfl
    refine z_tswO (tgt := 214) (pc := 20) dX9_seller_20 (z_out (fun v h1 h2 => by
      have hv : v = 0 ∨ v = 1 ∨ v = 2 ∨ v = 3 ∨ v = 4 ∨ v = 5 ∨ v = 6 ∨ v = 7 ∨ v = 8 ∨ v = 9 ∨ v = 10 ∨ v = 11 := by omega
      rcases hv with rfl | rfl | rfl | rfl | rfl | rfl | rfl | rfl | rfl | rfl | rfl | rfl
      · exact hs0
      · exact hs1
      · exact hs2
      · exact hs3
      · exact hs4
      · exact hs5
      · exact hs6
      · exact hs7
      · exact hs8
      · exact hs9
      · exact hs10
      · exact hs11)) (by decide) ?_
    refine z_ldc (v := (-1000000)) (pc := 214) dX9_seller_214 w_838 ?_
    exact z_ireturn (pc := 216) dX9_seller_216 rfl rfl rfl
  refine z_ldc (v := (-1000000)) (pc := 16) dX9_seller_16 w_838 ?_
  exact z_ireturn (pc := 18) dX9_seller_18 rfl rfl rfl
set_option maxHeartbeats 2000000 in
set_option maxRecDepth 20000 in
theorem m_X10_bestRank {G : Z_G} (hG : z_GG G) (h : Z_H) (a : Nat) (x1 : Int32) (x2 : Int32) : z_Met G iX10_bestRank [.ref a, .int x1, .int x2] h ((f_X10_bestRank h a x1 x2).bind some) := by
  refine z_in (la := [some (.ref a), some (.int x1), some (.int x2), none, none, none, none]) (by decide) rfl rfl rfl ?_
  unfold f_X10_bestRank
  refine z_gg (fun _ => ?_)
  refine z_aload_n (x := a) (pc := 0) dX10_bestRank_0 rfl rfl ?_
  refine z_cVV (As := []) (rest := []) hG.1 (m_X10_laysOwn hG h a) (fun _ e => z_gdb e) oX10_laysOwn (pc := 1) dX10_bestRank_1 rfl w_1346 rfl rfl rfl (fun h1 => ?_)
  refine z_iconst (v := (-1)) (pc := 4) dX10_bestRank_4 (by decide) ?_
  refine z_istore_n (i := 3) (la' := [some (.ref a), some (.int x1), some (.int x2), some (.int (-1)), none, none, none]) (pc := 5) dX10_bestRank_5 rfl (by decide) rfl rfl ?_
  refine z_iconst (v := (-1)) (pc := 6) dX10_bestRank_6 (by decide) ?_
  refine z_istore (i := 4) (la' := [some (.ref a), some (.int x1), some (.int x2), some (.int (-1)), some (.int (-1)), none, none]) (pc := 7) dX10_bestRank_7 (by decide) rfl rfl ?_
  refine z_aload_n (x := a) (pc := 9) dX10_bestRank_9 rfl rfl ?_
  refine z_iload_n (x := x1) (pc := 10) dX10_bestRank_10 rfl rfl ?_
  refine z_iconst (v := 0) (pc := 11) dX10_bestRank_11 (by decide) ?_
  refine z_cVP (As := [.int x1, .int 0]) (rest := []) hG.1 (m_X10_ofSeller hG h1 a x1 0) (fun _ e => z_gdb e) oX10_ofSeller (pc := 12) dX10_bestRank_12 rfl w_1263 rfl rfl rfl (fun t2 => ?_)
  refine z_istore (i := 5) (la' := [some (.ref a), some (.int x1), some (.int x2), some (.int (-1)), some (.int (-1)), some (.int t2), none]) (pc := 15) dX10_bestRank_15 (by decide) rfl rfl ?_
  refine z_lp (T := Int32 × Int32 × Z_H) (s0 := ((-1), (-1), t2, h1)) 17 (fun ((v3, v4, v5, h6) : Int32 × Int32 × Int32 × Z_H) => [some (.ref a), some (.int x1), some (.int x2), some (.int v3), some (.int v4), some (.int v5), none]) (fun ((v3, v4, v5, h6) : Int32 × Int32 × Int32 × Z_H) => h6) (fun _ => 67) (fun ((v7, v8, h9) : Int32 × Int32 × Z_H) => [none, none, some (.int x2), some (.int v7), some (.int v8), none, none]) (fun ((v7, v8, h9) : Int32 × Int32 × Z_H) => h9) ?_ ?_
  · rintro ⟨v7, v8, h9⟩
    try dsimp only
    refine z_iload_n (x := x2) (pc := 67) dX10_bestRank_67 rfl rfl ?_
    refine z_if_eq (tgt := 76) (pc := 68) dX10_bestRank_68 (by decide) (fun _ => ?_) (fun _ => ?_)
    · refine z_iload_n (x := v7) (pc := 76) dX10_bestRank_76 rfl rfl ?_
      exact z_ireturn (pc := 77) dX10_bestRank_77 rfl rfl rfl
    refine z_iload (x := v8) (pc := 71) dX10_bestRank_71 rfl ?_
    refine z_goto (tgt := 77) (pc := 73) dX10_bestRank_73 (by decide) ?_
    exact z_ireturn (pc := 77) dX10_bestRank_77 rfl rfl rfl
  intro k' hx1 rec10 hrec10
  rintro ⟨v3, v4, v5, h6⟩
  unfold f_X10_bestRank_l1
  try dsimp only
  refine z_iload (x := v5) (pc := 17) dX10_bestRank_17 rfl ?_
  refine z_aload_n (x := a) (pc := 19) dX10_bestRank_19 rfl rfl ?_
  refine z_cVP (As := []) (rest := [.int v5]) hG.1 (m_X10_now hG h6 a) (fun _ e => z_gdb e) oX10_now (pc := 20) dX10_bestRank_20 rfl w_1247 rfl rfl rfl (fun t11 => ?_)
  refine z_ic_gt (tgt := 67) (pc := 23) dX10_bestRank_23 (by decide) (fun _ => ?_) (fun _ => ?_)
  · exact z_wk (hx1 (v3, v4, h6)) (And.intro rfl (And.intro rfl (And.intro rfl trivial)))
  refine z_aload_n (x := a) (pc := 26) dX10_bestRank_26 rfl rfl ?_
  refine z_iload (x := v5) (pc := 27) dX10_bestRank_27 rfl ?_
  refine z_cVV (As := [.int v5]) (rest := []) hG.1 (m_X10_laysMonth hG h6 a v5) (fun _ e => z_gdb e) oX10_laysMonth (pc := 29) dX10_bestRank_29 rfl w_1283 rfl rfl rfl (fun h12 => ?_)
  refine z_aload_n (x := a) (pc := 32) dX10_bestRank_32 rfl rfl ?_
  refine z_iload_n (x := x1) (pc := 33) dX10_bestRank_33 rfl rfl ?_
  refine z_cVP (As := [.int x1]) (rest := []) hG.1 (m_X10_rankOf hG h12 a x1) (fun _ e => z_gdb e) oX10_rankOf (pc := 34) dX10_bestRank_34 rfl w_1362 rfl rfl rfl (fun t13 => ?_)
  refine z_istore (i := 6) (la' := [some (.ref a), some (.int x1), some (.int x2), some (.int v3), some (.int v4), some (.int v5), some (.int t13)]) (pc := 37) dX10_bestRank_37 (by decide) rfl rfl ?_
  refine z_iload (x := t13) (pc := 39) dX10_bestRank_39 rfl ?_
  refine z_iload_n (x := v3) (pc := 41) dX10_bestRank_41 rfl rfl ?_
  refine z_jn 52 (fun (y14 : Int32) => [some (.ref a), some (.int x1), some (.int x2), some (.int v3), none, some (.int v5), some (.int t13)]) (fun (y14 : Int32) => [.int y14]) (fun (y14 : Int32) => h12) ?_ ?_
  · rintro y14
    try dsimp only
    refine z_istore (i := 4) (la' := [some (.ref a), some (.int x1), some (.int x2), some (.int v3), some (.int y14), some (.int v5), some (.int t13)]) (pc := 52) dX10_bestRank_52 (by decide) rfl rfl ?_
    refine z_iload_n (x := v3) (pc := 54) dX10_bestRank_54 rfl rfl ?_
    refine z_iload (x := t13) (pc := 55) dX10_bestRank_55 rfl ?_
    refine z_cSP (As := [.int v3, .int t13]) (rest := []) hG.1 (m_X10_greater hG h12 v3 t13) oX10_greater (pc := 57) dX10_bestRank_57 rfl w_1331 rfl rfl rfl (fun t16 => ?_)
    refine z_istore_n (i := 3) (la' := [some (.ref a), some (.int x1), some (.int x2), some (.int t16), some (.int y14), some (.int v5), some (.int t13)]) (pc := 60) dX10_bestRank_60 rfl (by decide) rfl rfl ?_
    refine z_iinc (i := 5) (x := v5) (v := (v5 + 1)) (la' := [some (.ref a), some (.int x1), some (.int x2), some (.int t16), some (.int y14), some (.int (v5 + 1)), some (.int t13)]) (pc := 61) dX10_bestRank_61 rfl rfl (by decide) rfl rfl ?_
    refine z_goto (tgt := 17) (pc := 64) dX10_bestRank_64 (by decide) ?_
    exact z_wk (hrec10 (t16, y14, (v5 + 1), h12)) (And.intro rfl (And.intro rfl (And.intro rfl (And.intro rfl (And.intro rfl (And.intro rfl trivial))))))
  intro j15 hj15
  refine z_ic_le (tgt := 50) (pc := 42) dX10_bestRank_42 (by decide) (fun _ => ?_) (fun _ => ?_)
  · refine z_iload (x := v4) (pc := 50) dX10_bestRank_50 rfl ?_
    exact z_wk (hj15 v4) (And.intro rfl (And.intro rfl (And.intro rfl (And.intro rfl (And.intro rfl (And.intro rfl trivial))))))
  refine z_iload (x := v5) (pc := 45) dX10_bestRank_45 rfl ?_
  refine z_goto (tgt := 52) (pc := 47) dX10_bestRank_47 (by decide) ?_
  exact z_wk (hj15 v5) (And.intro rfl (And.intro rfl (And.intro rfl (And.intro rfl (And.intro rfl (And.intro rfl trivial))))))
set_option maxHeartbeats 2000000 in
set_option maxRecDepth 20000 in
theorem m_X10_salesOf {G : Z_G} (hG : z_GG G) (h : Z_H) (a : Nat) (x1 : Int32) : z_Met G iX10_salesOf [.ref a, .int x1] h ((f_X10_salesOf h a x1).bind fun r => some (r, h)) := by
  refine z_in (la := [some (.ref a), some (.int x1), none, none]) (by decide) rfl rfl rfl ?_
  unfold f_X10_salesOf
  refine z_gg (fun _ => ?_)
  refine z_iconst (v := 0) (pc := 0) dX10_salesOf_0 (by decide) ?_
  refine z_istore_n (i := 2) (la' := [some (.ref a), some (.int x1), some (.int 0), none]) (pc := 1) dX10_salesOf_1 rfl (by decide) rfl rfl ?_
  refine z_iconst (v := 0) (pc := 2) dX10_salesOf_2 (by decide) ?_
  refine z_istore_n (i := 3) (la' := [some (.ref a), some (.int x1), some (.int 0), some (.int 0)]) (pc := 3) dX10_salesOf_3 rfl (by decide) rfl rfl ?_
  refine z_lp (T := Int32) (s0 := (0, 0)) 4 (fun ((v1, v2) : Int32 × Int32) => [some (.ref a), some (.int x1), some (.int v1), some (.int v2)]) (fun ((v1, v2) : Int32 × Int32) => h) (fun _ => 40) (fun (v3 : Int32) => [none, none, some (.int v3), none]) (fun (v3 : Int32) => h) ?_ ?_
  · rintro v3
    try dsimp only
    refine z_iload_n (x := v3) (pc := 40) dX10_salesOf_40 rfl rfl ?_
    exact z_ireturn (pc := 41) dX10_salesOf_41 rfl rfl rfl
  intro k' hx1 rec4 hrec4
  rintro ⟨v1, v2⟩
  unfold f_X10_salesOf_l1
  try dsimp only
  refine z_iload_n (x := v2) (pc := 4) dX10_salesOf_4 rfl rfl ?_
  refine z_aload_n (x := a) (pc := 5) dX10_salesOf_5 rfl rfl ?_
  refine z_getR cX10 (pc := 6) dX10_salesOf_6 (j := 1) (by decide) rfl w_1088 (fun r5 => ?_)
  refine z_sipush (v := 146) (pc := 9) dX10_salesOf_9 (by decide) ?_
  refine z_aldI (pc := 12) dX10_salesOf_12 (fun t6 => ?_)
  refine z_ic_ge (tgt := 40) (pc := 13) dX10_salesOf_13 (by decide) (fun _ => ?_) (fun _ => ?_)
  · exact z_wk (hx1 v1) (And.intro rfl trivial)
  refine z_iload_n (x := v1) (pc := 16) dX10_salesOf_16 rfl rfl ?_
  refine z_aload_n (x := a) (pc := 17) dX10_salesOf_17 rfl rfl ?_
  refine z_iload_n (x := v2) (pc := 18) dX10_salesOf_18 rfl rfl ?_
  refine z_iconst (v := 0) (pc := 19) dX10_salesOf_19 (by decide) ?_
  refine z_cVP (As := [.int v2, .int 0]) (rest := [.int v1]) hG.1 (m_X10_ofSale hG h a v2 0) (fun _ e => z_gdb e) oX10_ofSale (pc := 20) dX10_salesOf_20 rfl w_1311 rfl rfl rfl (fun t7 => ?_)
  refine z_iload_n (x := x1) (pc := 23) dX10_salesOf_23 rfl rfl ?_
  refine z_jn 32 (fun (y8 : Int32) => [some (.ref a), some (.int x1), none, some (.int v2)]) (fun (y8 : Int32) => [.int y8, .int v1]) (fun (y8 : Int32) => h) ?_ ?_
  · rintro y8
    try dsimp only
    refine z_iadd (pc := 32) dX10_salesOf_32 ?_
    refine z_nm (fun v10 => ?_)
    refine z_istore_n (i := 2) (la' := [some (.ref a), some (.int x1), some (.int v10), some (.int v2)]) (pc := 33) dX10_salesOf_33 rfl (by decide) rfl rfl ?_
    refine z_iinc (i := 3) (x := v2) (v := (v2 + 1)) (la' := [some (.ref a), some (.int x1), some (.int v10), some (.int (v2 + 1))]) (pc := 34) dX10_salesOf_34 rfl rfl (by decide) rfl rfl ?_
    refine z_goto (tgt := 4) (pc := 37) dX10_salesOf_37 (by decide) ?_
    exact hrec4 (v10, (v2 + 1))
  intro j9 hj9
  refine z_ic_ne (tgt := 31) (pc := 24) dX10_salesOf_24 (by decide) (fun _ => ?_) (fun _ => ?_)
  · refine z_iconst (v := 0) (pc := 31) dX10_salesOf_31 (by decide) ?_
    exact z_wk (hj9 0) (And.intro rfl (And.intro rfl (And.intro rfl trivial)))
  refine z_iconst (v := 1) (pc := 27) dX10_salesOf_27 (by decide) ?_
  refine z_goto (tgt := 32) (pc := 28) dX10_salesOf_28 (by decide) ?_
  exact z_wk (hj9 1) (And.intro rfl (And.intro rfl (And.intro rfl trivial)))
set_option maxHeartbeats 2000000 in
set_option maxRecDepth 20000 in
theorem m_X10_exposedOf {G : Z_G} (hG : z_GG G) (h : Z_H) (a : Nat) (x1 : Int32) : z_Met G iX10_exposedOf [.ref a, .int x1] h ((f_X10_exposedOf h a x1).bind fun r => some (r, h)) := by
  refine z_in (la := [some (.ref a), some (.int x1), none, none, none]) (by decide) rfl rfl rfl ?_
  unfold f_X10_exposedOf
  refine z_gg (fun _ => ?_)
  refine z_iconst (v := 0) (pc := 0) dX10_exposedOf_0 (by decide) ?_
  refine z_istore_n (i := 2) (la' := [some (.ref a), some (.int x1), some (.int 0), none, none]) (pc := 1) dX10_exposedOf_1 rfl (by decide) rfl rfl ?_
  refine z_iconst (v := 0) (pc := 2) dX10_exposedOf_2 (by decide) ?_
  refine z_istore_n (i := 3) (la' := [some (.ref a), some (.int x1), some (.int 0), some (.int 0), none]) (pc := 3) dX10_exposedOf_3 rfl (by decide) rfl rfl ?_
  refine z_lp (T := Int32) (s0 := (0, 0)) 4 (fun ((v1, v2) : Int32 × Int32) => [some (.ref a), some (.int x1), some (.int v1), some (.int v2), none]) (fun ((v1, v2) : Int32 × Int32) => h) (fun _ => 70) (fun (v3 : Int32) => [none, none, some (.int v3), none, none]) (fun (v3 : Int32) => h) ?_ ?_
  · rintro v3
    try dsimp only
    refine z_iload_n (x := v3) (pc := 70) dX10_exposedOf_70 rfl rfl ?_
    exact z_ireturn (pc := 71) dX10_exposedOf_71 rfl rfl rfl
  intro k' hx1 rec4 hrec4
  rintro ⟨v1, v2⟩
  unfold f_X10_exposedOf_l1
  try dsimp only
  refine z_iload_n (x := v2) (pc := 4) dX10_exposedOf_4 rfl rfl ?_
  refine z_aload_n (x := a) (pc := 5) dX10_exposedOf_5 rfl rfl ?_
  refine z_getR cX10 (pc := 6) dX10_exposedOf_6 (j := 1) (by decide) rfl w_1088 (fun r5 => ?_)
  refine z_sipush (v := 146) (pc := 9) dX10_exposedOf_9 (by decide) ?_
  refine z_aldI (pc := 12) dX10_exposedOf_12 (fun t6 => ?_)
  refine z_ic_ge (tgt := 70) (pc := 13) dX10_exposedOf_13 (by decide) (fun _ => ?_) (fun _ => ?_)
  · exact z_wk (hx1 v1) (And.intro rfl trivial)
  refine z_iconst (v := 0) (pc := 16) dX10_exposedOf_16 (by decide) ?_
  refine z_istore (i := 4) (la' := [some (.ref a), some (.int x1), some (.int v1), some (.int v2), some (.int 0)]) (pc := 17) dX10_exposedOf_17 (by decide) rfl rfl ?_
  refine z_lp (T := Int32) (s0 := (v1, 0)) 19 (fun ((v7, v8) : Int32 × Int32) => [some (.ref a), some (.int x1), some (.int v7), some (.int v2), some (.int v8)]) (fun ((v7, v8) : Int32 × Int32) => h) (fun _ => 64) (fun (v9 : Int32) => [some (.ref a), some (.int x1), some (.int v9), some (.int v2), none]) (fun (v9 : Int32) => h) ?_ ?_
  · rintro v9
    try dsimp only
    refine z_iinc (i := 3) (x := v2) (v := (v2 + 1)) (la' := [some (.ref a), some (.int x1), some (.int v9), some (.int (v2 + 1)), none]) (pc := 64) dX10_exposedOf_64 rfl rfl (by decide) rfl rfl ?_
    refine z_goto (tgt := 4) (pc := 67) dX10_exposedOf_67 (by decide) ?_
    exact hrec4 (v9, (v2 + 1))
  intro k' hx2 rec10 hrec10
  rintro ⟨v7, v8⟩
  unfold f_X10_exposedOf_l2
  try dsimp only
  refine z_iload (x := v8) (pc := 19) dX10_exposedOf_19 rfl ?_
  refine z_aload_n (x := a) (pc := 21) dX10_exposedOf_21 rfl rfl ?_
  refine z_iload_n (x := v2) (pc := 22) dX10_exposedOf_22 rfl rfl ?_
  refine z_iconst (v := 5) (pc := 23) dX10_exposedOf_23 (by decide) ?_
  refine z_cVP (As := [.int v2, .int 5]) (rest := [.int v8]) hG.1 (m_X10_ofSale hG h a v2 5) (fun _ e => z_gdb e) oX10_ofSale (pc := 24) dX10_exposedOf_24 rfl w_1311 rfl rfl rfl (fun t11 => ?_)
  refine z_ic_ge (tgt := 64) (pc := 27) dX10_exposedOf_27 (by decide) (fun _ => ?_) (fun _ => ?_)
  · exact z_wk (hx2 v7) (And.intro rfl (And.intro rfl (And.intro rfl (And.intro rfl trivial))))
  refine z_iload_n (x := v7) (pc := 30) dX10_exposedOf_30 rfl rfl ?_
  refine z_aload_n (x := a) (pc := 31) dX10_exposedOf_31 rfl rfl ?_
  refine z_iload_n (x := v2) (pc := 32) dX10_exposedOf_32 rfl rfl ?_
  refine z_iconst (v := 0) (pc := 33) dX10_exposedOf_33 (by decide) ?_
  refine z_cVP (As := [.int v2, .int 0]) (rest := [.int v7]) hG.1 (m_X10_ofSale hG h a v2 0) (fun _ e => z_gdb e) oX10_ofSale (pc := 34) dX10_exposedOf_34 rfl w_1311 rfl rfl rfl (fun t12 => ?_)
  refine z_iload_n (x := x1) (pc := 37) dX10_exposedOf_37 rfl rfl ?_
  refine z_jn 56 (fun (y13 : Int32) => [some (.ref a), some (.int x1), none, some (.int v2), some (.int v8)]) (fun (y13 : Int32) => [.int y13, .int v7]) (fun (y13 : Int32) => h) ?_ ?_
  · rintro y13
    try dsimp only
    refine z_iadd (pc := 56) dX10_exposedOf_56 ?_
    refine z_nm (fun v15 => ?_)
    refine z_istore_n (i := 2) (la' := [some (.ref a), some (.int x1), some (.int v15), some (.int v2), some (.int v8)]) (pc := 57) dX10_exposedOf_57 rfl (by decide) rfl rfl ?_
    refine z_iinc (i := 4) (x := v8) (v := (v8 + 1)) (la' := [some (.ref a), some (.int x1), some (.int v15), some (.int v2), some (.int (v8 + 1))]) (pc := 58) dX10_exposedOf_58 rfl rfl (by decide) rfl rfl ?_
    refine z_goto (tgt := 19) (pc := 61) dX10_exposedOf_61 (by decide) ?_
    exact hrec10 (v15, (v8 + 1))
  intro j14 hj14
  refine z_ic_ne (tgt := 55) (pc := 38) dX10_exposedOf_38 (by decide) (fun _ => ?_) (fun _ => ?_)
  · refine z_iconst (v := 0) (pc := 55) dX10_exposedOf_55 (by decide) ?_
    exact z_wk (hj14 0) (And.intro rfl (And.intro rfl (And.intro rfl (And.intro rfl trivial))))
  refine z_aload_n (x := a) (pc := 41) dX10_exposedOf_41 rfl rfl ?_
  refine z_iload_n (x := v2) (pc := 42) dX10_exposedOf_42 rfl rfl ?_
  refine z_iload (x := v8) (pc := 43) dX10_exposedOf_43 rfl ?_
  refine z_aload_n (x := a) (pc := 45) dX10_exposedOf_45 rfl rfl ?_
  refine z_cVP (As := []) (rest := [.int v8, .int v2, .ref a, .int v7]) hG.1 (m_X10_now hG h a) (fun _ e => z_gdb e) oX10_now (pc := 46) dX10_exposedOf_46 rfl w_1247 rfl rfl rfl (fun t16 => ?_)
  refine z_cVP (As := [.int v2, .int v8, .int t16]) (rest := [.int v7]) hG.1 (m_X10_vestedAt hG h a v2 v8 t16) (fun _ e => z_gdb e) oX10_vestedAt (pc := 49) dX10_exposedOf_49 rfl w_1327 rfl rfl rfl (fun t17 => ?_)
  refine z_goto (tgt := 56) (pc := 52) dX10_exposedOf_52 (by decide) ?_
  exact z_wk (hj14 t17) (And.intro rfl (And.intro rfl (And.intro rfl (And.intro rfl trivial))))
set_option maxHeartbeats 2000000 in
set_option maxRecDepth 20000 in
theorem m_X10_seller {G : Z_G} (hG : z_GG G) (h : Z_H) (a : Nat) (x1 : Int32) (x2 : Int32) : z_Met G iX10_seller [.ref a, .int x1, .int x2] h ((f_X10_seller h a x1 x2).bind some) := by
  refine z_in (la := [some (.ref a), some (.int x1), some (.int x2)]) (by decide) rfl rfl rfl ?_
  unfold f_X10_seller
  refine z_gg (fun _ => ?_)
  refine z_aload_n (x := a) (pc := 0) dX10_seller_0 rfl rfl ?_
  refine z_iconst (v := 0) (pc := 1) dX10_seller_1 (by decide) ?_
  refine z_putI cX10 (pc := 2) dX10_seller_2 (j := 0) (by decide) rfl rfl w_1087 (fun h1 => ?_)
  refine z_aload_n (x := a) (pc := 5) dX10_seller_5 rfl rfl ?_
  refine z_iload_n (x := x1) (pc := 6) dX10_seller_6 rfl rfl ?_
  refine z_cVP (As := [.int x1]) (rest := []) hG.1 (m_X10_isSeller hG h1 a x1) (fun _ e => z_gdb e) oX10_isSeller (pc := 7) dX10_seller_7 rfl w_1255 rfl rfl rfl (fun t2 => ?_)
  refine z_if_ne (tgt := 17) (pc := 10) dX10_seller_10 (by decide) (fun _ => ?_) (fun _ => ?_)
  · refine z_iload_n (x := x2) (pc := 17) dX10_seller_17 rfl rfl ?_
    refine z_jn 161 (fun (_ : Unit) => [some (.ref a), some (.int x1), some (.int x2)]) (fun (_ : Unit) => []) (fun (_ : Unit) => h1) ?_ ?_
    · rintro _
      try dsimp only
      refine z_aload_n (x := a) (pc := 161) dX10_seller_161 rfl rfl ?_
      refine z_iload_n (x := x1) (pc := 162) dX10_seller_162 rfl rfl ?_
      refine z_iload_n (x := x2) (pc := 163) dX10_seller_163 rfl rfl ?_
      refine z_bipush (v := 9) (pc := 164) dX10_seller_164 (by decide) ?_
      refine z_jn 174 (fun (y4 : Int32) => [none, none, none]) (fun (y4 : Int32) => [.int y4, .int x1, .ref a]) (fun (y4 : Int32) => h1) ?_ ?_
      · rintro y4
        try dsimp only
        refine z_dVI (As := [.int x1, .int y4]) (rest := []) hG.1 (m_X10_bestRank hG h1 a x1 y4) (fun _ e => z_gdb e) oX10_bestRank (pc := 174) dX10_seller_174 rfl w_1433 rfl rfl rfl (fun t6 h7 => ?_)
        exact z_ireturn (pc := 177) dX10_seller_177 rfl rfl rfl
      intro j5 hj5
      refine z_ic_ne (tgt := 173) (pc := 166) dX10_seller_166 (by decide) (fun _ => ?_) (fun _ => ?_)
      · refine z_iconst (v := 0) (pc := 173) dX10_seller_173 (by decide) ?_
        exact z_wk (hj5 0) trivial
      refine z_iconst (v := 1) (pc := 169) dX10_seller_169 (by decide) ?_
      refine z_goto (tgt := 174) (pc := 170) dX10_seller_170 (by decide) ?_
      exact z_wk (hj5 1) trivial
    intro j3 hj3
    refine z_bz (fun hs0 => ?_) (fun hs0 => ?_)
    · refine z_tsw (tgt := 80) (off := 62) (pc := 18) dX10_seller_18 (by rw [hs0]; decide) (by rw [hs0]; decide) (by rw [hs0]; rfl) (by decide) ?_
      refine z_aload_n (x := a) (pc := 80) dX10_seller_80 rfl rfl ?_
      refine z_iload_n (x := x1) (pc := 81) dX10_seller_81 rfl rfl ?_
      refine z_iconst (v := 0) (pc := 82) dX10_seller_82 (by decide) ?_
      refine z_cVP (As := [.int x1, .int 0]) (rest := []) hG.1 (m_X10_ofSeller hG h1 a x1 0) (fun _ e => z_gdb e) oX10_ofSeller (pc := 83) dX10_seller_83 rfl w_1263 rfl rfl rfl (fun t8 => ?_)
      exact z_ireturn (pc := 86) dX10_seller_86 rfl rfl rfl
    refine z_bz (fun hs1 => ?_) (fun hs1 => ?_)
    · refine z_tsw (tgt := 87) (off := 69) (pc := 18) dX10_seller_18 (by rw [hs1]; decide) (by rw [hs1]; decide) (by rw [hs1]; rfl) (by decide) ?_
      refine z_aload_n (x := a) (pc := 87) dX10_seller_87 rfl rfl ?_
      refine z_iload_n (x := x1) (pc := 88) dX10_seller_88 rfl rfl ?_
      refine z_iconst (v := 1) (pc := 89) dX10_seller_89 (by decide) ?_
      refine z_cVP (As := [.int x1, .int 1]) (rest := []) hG.1 (m_X10_ofSeller hG h1 a x1 1) (fun _ e => z_gdb e) oX10_ofSeller (pc := 90) dX10_seller_90 rfl w_1263 rfl rfl rfl (fun t9 => ?_)
      exact z_ireturn (pc := 93) dX10_seller_93 rfl rfl rfl
    refine z_bz (fun hs2 => ?_) (fun hs2 => ?_)
    · refine z_tsw (tgt := 94) (off := 76) (pc := 18) dX10_seller_18 (by rw [hs2]; decide) (by rw [hs2]; decide) (by rw [hs2]; rfl) (by decide) ?_
      refine z_aload_n (x := a) (pc := 94) dX10_seller_94 rfl rfl ?_
      refine z_iload_n (x := x1) (pc := 95) dX10_seller_95 rfl rfl ?_
      refine z_iconst (v := 4) (pc := 96) dX10_seller_96 (by decide) ?_
      refine z_cVP (As := [.int x1, .int 4]) (rest := []) hG.1 (m_X10_ofSeller hG h1 a x1 4) (fun _ e => z_gdb e) oX10_ofSeller (pc := 97) dX10_seller_97 rfl w_1263 rfl rfl rfl (fun t10 => ?_)
      exact z_ireturn (pc := 100) dX10_seller_100 rfl rfl rfl
    refine z_bz (fun hs3 => ?_) (fun hs3 => ?_)
    · refine z_tsw (tgt := 101) (off := 83) (pc := 18) dX10_seller_18 (by rw [hs3]; decide) (by rw [hs3]; decide) (by rw [hs3]; rfl) (by decide) ?_
      refine z_aload_n (x := a) (pc := 101) dX10_seller_101 rfl rfl ?_
      refine z_iload_n (x := x1) (pc := 102) dX10_seller_102 rfl rfl ?_
      refine z_aload_n (x := a) (pc := 103) dX10_seller_103 rfl rfl ?_
      refine z_cVP (As := []) (rest := [.int x1, .ref a]) hG.1 (m_X10_now hG h1 a) (fun _ e => z_gdb e) oX10_now (pc := 104) dX10_seller_104 rfl w_1247 rfl rfl rfl (fun t11 => ?_)
      refine z_iconst (v := (-1)) (pc := 107) dX10_seller_107 (by decide) ?_
      refine z_cVP (As := [.int x1, .int t11, .int (-1)]) (rest := []) hG.1 (m_X10_earnedAt hG h1 a x1 t11 (-1)) (fun _ e => z_gdb e) oX10_earnedAt (pc := 108) dX10_seller_108 rfl w_1420 rfl rfl rfl (fun t12 => ?_)
      exact z_ireturn (pc := 111) dX10_seller_111 rfl rfl rfl
    refine z_bz (fun hs4 => ?_) (fun hs4 => ?_)
    · refine z_tsw (tgt := 112) (off := 94) (pc := 18) dX10_seller_18 (by rw [hs4]; decide) (by rw [hs4]; decide) (by rw [hs4]; rfl) (by decide) ?_
      refine z_aload_n (x := a) (pc := 112) dX10_seller_112 rfl rfl ?_
      refine z_iload_n (x := x1) (pc := 113) dX10_seller_113 rfl rfl ?_
      refine z_iconst (v := 3) (pc := 114) dX10_seller_114 (by decide) ?_
      refine z_cVP (As := [.int x1, .int 3]) (rest := []) hG.1 (m_X10_ofSeller hG h1 a x1 3) (fun _ e => z_gdb e) oX10_ofSeller (pc := 115) dX10_seller_115 rfl w_1263 rfl rfl rfl (fun t13 => ?_)
      exact z_ireturn (pc := 118) dX10_seller_118 rfl rfl rfl
    refine z_bz (fun hs5 => ?_) (fun hs5 => ?_)
    · refine z_tsw (tgt := 119) (off := 101) (pc := 18) dX10_seller_18 (by rw [hs5]; decide) (by rw [hs5]; decide) (by rw [hs5]; rfl) (by decide) ?_
      refine z_aload_n (x := a) (pc := 119) dX10_seller_119 rfl rfl ?_
      refine z_iload_n (x := x1) (pc := 120) dX10_seller_120 rfl rfl ?_
      refine z_cVP (As := [.int x1]) (rest := []) hG.1 (m_X10_balanceOf hG h1 a x1) (fun _ e => z_gdb e) oX10_balanceOf (pc := 121) dX10_seller_121 rfl w_1416 rfl rfl rfl (fun t14 => ?_)
      exact z_ireturn (pc := 124) dX10_seller_124 rfl rfl rfl
    refine z_bz (fun hs6 => ?_) (fun hs6 => ?_)
    · refine z_tsw (tgt := 125) (off := 107) (pc := 18) dX10_seller_18 (by rw [hs6]; decide) (by rw [hs6]; decide) (by rw [hs6]; rfl) (by decide) ?_
      refine z_aload_n (x := a) (pc := 125) dX10_seller_125 rfl rfl ?_
      refine z_iload_n (x := x1) (pc := 126) dX10_seller_126 rfl rfl ?_
      refine z_cVP (As := [.int x1]) (rest := []) hG.1 (m_X10_hasQuit hG h1 a x1) (fun _ e => z_gdb e) oX10_hasQuit (pc := 127) dX10_seller_127 rfl w_1259 rfl rfl rfl (fun t15 => ?_)
      refine z_if_eq (tgt := 137) (pc := 130) dX10_seller_130 (by decide) (fun _ => ?_) (fun _ => ?_)
      · refine z_aload_n (x := a) (pc := 137) dX10_seller_137 rfl rfl ?_
        refine z_iload_n (x := x1) (pc := 138) dX10_seller_138 rfl rfl ?_
        refine z_cVP (As := [.int x1]) (rest := []) hG.1 (m_X10_notVested hG h1 a x1) (fun _ e => z_gdb e) oX10_notVested (pc := 139) dX10_seller_139 rfl w_1307 rfl rfl rfl (fun t16 => ?_)
        exact z_ireturn (pc := 142) dX10_seller_142 rfl rfl rfl
      refine z_iconst (v := 0) (pc := 133) dX10_seller_133 (by decide) ?_
      refine z_goto (tgt := 142) (pc := 134) dX10_seller_134 (by decide) ?_
      exact z_ireturn (pc := 142) dX10_seller_142 rfl rfl rfl
    refine z_bz (fun hs7 => ?_) (fun hs7 => ?_)
    · refine z_tsw (tgt := 143) (off := 125) (pc := 18) dX10_seller_18 (by rw [hs7]; decide) (by rw [hs7]; decide) (by rw [hs7]; rfl) (by decide) ?_
      refine z_aload_n (x := a) (pc := 143) dX10_seller_143 rfl rfl ?_
      refine z_iload_n (x := x1) (pc := 144) dX10_seller_144 rfl rfl ?_
      refine z_cVP (As := [.int x1]) (rest := []) hG.1 (m_X10_hasQuit hG h1 a x1) (fun _ e => z_gdb e) oX10_hasQuit (pc := 145) dX10_seller_145 rfl w_1259 rfl rfl rfl (fun t17 => ?_)
      refine z_if_eq (tgt := 159) (pc := 148) dX10_seller_148 (by decide) (fun _ => ?_) (fun _ => ?_)
      · refine z_iconst (v := 0) (pc := 159) dX10_seller_159 (by decide) ?_
        exact z_ireturn (pc := 160) dX10_seller_160 rfl rfl rfl
      refine z_aload_n (x := a) (pc := 151) dX10_seller_151 rfl rfl ?_
      refine z_iload_n (x := x1) (pc := 152) dX10_seller_152 rfl rfl ?_
      refine z_cVP (As := [.int x1]) (rest := []) hG.1 (m_X10_notVested hG h1 a x1) (fun _ e => z_gdb e) oX10_notVested (pc := 153) dX10_seller_153 rfl w_1307 rfl rfl rfl (fun t18 => ?_)
      refine z_goto (tgt := 160) (pc := 156) dX10_seller_156 (by decide) ?_
      exact z_ireturn (pc := 160) dX10_seller_160 rfl rfl rfl
    refine z_bz (fun hs8 => ?_) (fun hs8 => ?_)
    · refine z_tsw (tgt := 161) (off := 143) (pc := 18) dX10_seller_18 (by rw [hs8]; decide) (by rw [hs8]; decide) (by rw [hs8]; rfl) (by decide) ?_
      exact hj3 ()
    refine z_bz (fun hs9 => ?_) (fun hs9 => ?_)
    · refine z_tsw (tgt := 161) (off := 143) (pc := 18) dX10_seller_18 (by rw [hs9]; decide) (by rw [hs9]; decide) (by rw [hs9]; rfl) (by decide) ?_
      exact hj3 ()
    refine z_bz (fun hs10 => ?_) (fun hs10 => ?_)
    · refine z_tsw (tgt := 178) (off := 160) (pc := 18) dX10_seller_18 (by rw [hs10]; decide) (by rw [hs10]; decide) (by rw [hs10]; rfl) (by decide) ?_
      refine z_aload_n (x := a) (pc := 178) dX10_seller_178 rfl rfl ?_
      refine z_iload_n (x := x1) (pc := 179) dX10_seller_179 rfl rfl ?_
      refine z_cVP (As := [.int x1]) (rest := []) hG.1 (m_X10_salesOf hG h1 a x1) (fun _ e => z_gdb e) oX10_salesOf (pc := 180) dX10_seller_180 rfl w_1437 rfl rfl rfl (fun t19 => ?_)
      exact z_ireturn (pc := 183) dX10_seller_183 rfl rfl rfl
    refine z_bz (fun hs11 => ?_) (fun hs11 => ?_)
    · refine z_tsw (tgt := 184) (off := 166) (pc := 18) dX10_seller_18 (by rw [hs11]; decide) (by rw [hs11]; decide) (by rw [hs11]; rfl) (by decide) ?_
      refine z_aload_n (x := a) (pc := 184) dX10_seller_184 rfl rfl ?_
      refine z_iload_n (x := x1) (pc := 185) dX10_seller_185 rfl rfl ?_
      refine z_cVP (As := [.int x1]) (rest := []) hG.1 (m_X10_exposedOf hG h1 a x1) (fun _ e => z_gdb e) oX10_exposedOf (pc := 186) dX10_seller_186 rfl w_1441 rfl rfl rfl (fun t20 => ?_)
      exact z_ireturn (pc := 189) dX10_seller_189 rfl rfl rfl
    refine z_tswO (tgt := 190) (pc := 18) dX10_seller_18 (z_out (fun v h1 h2 => by
      have hv : v = 0 ∨ v = 1 ∨ v = 2 ∨ v = 3 ∨ v = 4 ∨ v = 5 ∨ v = 6 ∨ v = 7 ∨ v = 8 ∨ v = 9 ∨ v = 10 ∨ v = 11 := by omega
      rcases hv with rfl | rfl | rfl | rfl | rfl | rfl | rfl | rfl | rfl | rfl | rfl | rfl
      · exact hs0
      · exact hs1
      · exact hs2
      · exact hs3
      · exact hs4
      · exact hs5
      · exact hs6
      · exact hs7
      · exact hs8
      · exact hs9
      · exact hs10
      · exact hs11)) (by decide) ?_
    refine z_ldcw (v := (-1000000)) (pc := 190) dX10_seller_190 w_1432 ?_
    exact z_ireturn (pc := 193) dX10_seller_193 rfl rfl rfl
  refine z_ldcw (v := (-1000000)) (pc := 13) dX10_seller_13 w_1432 ?_
  exact z_ireturn (pc := 16) dX10_seller_16 rfl rfl rfl
