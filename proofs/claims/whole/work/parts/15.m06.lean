set_option maxHeartbeats 2000000 in
set_option maxRecDepth 20000 in
theorem m_X9_openSponsors {G : Z_G} (hG : z_GG G) (h : Z_H) (a : Nat) (x1 : Int32) (x2 : Int32) : z_Met G iX9_openSponsors [.ref a, .int x1, .int x2] h ((f_X9_openSponsors h a x1 x2).bind fun r => some (r, h)) := by
  refine z_in (la := [some (.ref a), some (.int x1), some (.int x2), none, none]) (by decide) rfl rfl rfl ?_
  unfold f_X9_openSponsors
  refine z_gg (fun _ => ?_)
  refine z_iconst (v := 0) (pc := 0) dX9_openSponsors_0 (by decide) ?_
  refine z_istore_n (i := 3) (la' := [some (.ref a), some (.int x1), some (.int x2), some (.int 0), none]) (pc := 1) dX9_openSponsors_1 rfl (by decide) rfl rfl ?_
  refine z_iconst (v := 0) (pc := 2) dX9_openSponsors_2 (by decide) ?_
  refine z_istore (i := 4) (la' := [some (.ref a), some (.int x1), some (.int x2), some (.int 0), some (.int 0)]) (pc := 3) dX9_openSponsors_3 (by decide) rfl rfl ?_
  refine z_lp (T := Int32) (s0 := (0, 0)) 5 (fun ((v1, v2) : Int32 × Int32) => [some (.ref a), some (.int x1), some (.int x2), some (.int v1), some (.int v2)]) (fun ((v1, v2) : Int32 × Int32) => h) (fun _ => 44) (fun (v3 : Int32) => [none, none, none, some (.int v3), none]) (fun (v3 : Int32) => h) ?_ ?_
  · rintro v3
    try dsimp only
    refine z_iload_n (x := v3) (pc := 44) dX9_openSponsors_44 rfl rfl ?_
    exact z_ireturn (pc := 45) dX9_openSponsors_45 rfl rfl rfl
  intro k' hx1 rec4 hrec4
  rintro ⟨v1, v2⟩
  unfold f_X9_openSponsors_l1
  try dsimp only
  refine z_iload (x := v2) (pc := 5) dX9_openSponsors_5 rfl ?_
  refine z_aload_n (x := a) (pc := 7) dX9_openSponsors_7 rfl rfl ?_
  refine z_getR cX9 (pc := 8) dX9_openSponsors_8 (j := 0) (by decide) rfl w_403 (fun r5 => ?_)
  refine z_getR cX7 (pc := 11) dX9_openSponsors_11 (j := 2) (by decide) rfl w_247 (fun r6 => ?_)
  refine z_getI cX0 (pc := 14) dX9_openSponsors_14 (j := 0) (by decide) rfl w_139 (fun t7 => ?_)
  refine z_ic_ge (tgt := 44) (pc := 17) dX9_openSponsors_17 (by decide) (fun _ => ?_) (fun _ => ?_)
  · exact z_wk (hx1 v1) (And.intro rfl trivial)
  refine z_aload_n (x := a) (pc := 20) dX9_openSponsors_20 rfl rfl ?_
  refine z_iload_n (x := x1) (pc := 21) dX9_openSponsors_21 rfl rfl ?_
  refine z_iload (x := v2) (pc := 22) dX9_openSponsors_22 rfl ?_
  refine z_iload_n (x := x2) (pc := 24) dX9_openSponsors_24 rfl rfl ?_
  refine z_cVP (As := [.int x1, .int v2, .int x2]) (rest := []) hG.1 (m_X9_reasonAgainst hG h a x1 v2 x2) (fun _ e => z_gdb e) oX9_reasonAgainst (pc := 25) dX9_openSponsors_25 rfl w_639 rfl rfl rfl (fun t8 => ?_)
  refine z_jn 38 (fun (v9 : Int32) => [some (.ref a), some (.int x1), some (.int x2), some (.int v9), some (.int v2)]) (fun (v9 : Int32) => []) (fun (v9 : Int32) => h) ?_ ?_
  · rintro v9
    try dsimp only
    refine z_iinc (i := 4) (x := v2) (v := (v2 + 1)) (la' := [some (.ref a), some (.int x1), some (.int x2), some (.int v9), some (.int (v2 + 1))]) (pc := 38) dX9_openSponsors_38 rfl rfl (by decide) rfl rfl ?_
    refine z_goto (tgt := 5) (pc := 41) dX9_openSponsors_41 (by decide) ?_
    exact hrec4 (v9, (v2 + 1))
  intro j10 hj10
  refine z_if_ne (tgt := 38) (pc := 28) dX9_openSponsors_28 (by decide) (fun _ => ?_) (fun _ => ?_)
  · exact hj10 v1
  refine z_iload_n (x := v1) (pc := 31) dX9_openSponsors_31 rfl rfl ?_
  refine z_iconst (v := 1) (pc := 32) dX9_openSponsors_32 (by decide) ?_
  refine z_iload (x := v2) (pc := 33) dX9_openSponsors_33 rfl ?_
  refine z_ishl (pc := 35) dX9_openSponsors_35 ?_
  refine z_ior (pc := 36) dX9_openSponsors_36 ?_
  refine z_nm (fun v11 => ?_)
  refine z_istore_n (i := 3) (la' := [some (.ref a), some (.int x1), some (.int x2), some (.int v11), some (.int v2)]) (pc := 37) dX9_openSponsors_37 rfl (by decide) rfl rfl ?_
  exact hj10 v11
set_option maxHeartbeats 2000000 in
set_option maxRecDepth 20000 in
theorem m_X6_uplineLength {G : Z_G} (hG : z_GG G) (h : Z_H) (a : Nat) (x1 : Int32) : z_Met G iX6_uplineLength [.ref a, .int x1] h ((f_X6_uplineLength h a x1).bind fun r => some (r, h)) := by
  refine z_in (la := [some (.ref a), some (.int x1), none, none]) (by decide) rfl rfl rfl ?_
  unfold f_X6_uplineLength
  refine z_gg (fun _ => ?_)
  refine z_iconst (v := 0) (pc := 0) dX6_uplineLength_0 (by decide) ?_
  refine z_istore_n (i := 2) (la' := [some (.ref a), some (.int x1), some (.int 0), none]) (pc := 1) dX6_uplineLength_1 rfl (by decide) rfl rfl ?_
  refine z_aload_n (x := a) (pc := 2) dX6_uplineLength_2 rfl rfl ?_
  refine z_getR cX6 (pc := 3) dX6_uplineLength_3 (j := 0) (by decide) rfl w_333 (fun r1 => ?_)
  refine z_iload_n (x := x1) (pc := 6) dX6_uplineLength_6 rfl rfl ?_
  refine z_aldI (pc := 7) dX6_uplineLength_7 (fun t2 => ?_)
  refine z_istore_n (i := 3) (la' := [some (.ref a), some (.int x1), some (.int 0), some (.int t2)]) (pc := 8) dX6_uplineLength_8 rfl (by decide) rfl rfl ?_
  refine z_weak (la' := [some (.ref a), none, some (.int 0), some (.int t2)]) (And.intro rfl (And.intro rfl (And.intro rfl trivial))) ?_
  refine z_lp (T := Int32) (s0 := (0, t2)) 9 (fun ((v3, v4) : Int32 × Int32) => [some (.ref a), none, some (.int v3), some (.int v4)]) (fun ((v3, v4) : Int32 × Int32) => h) (fun _ => 33) (fun (v5 : Int32) => [none, none, some (.int v5), none]) (fun (v5 : Int32) => h) ?_ ?_
  · rintro v5
    try dsimp only
    refine z_iload_n (x := v5) (pc := 33) dX6_uplineLength_33 rfl rfl ?_
    exact z_ireturn (pc := 34) dX6_uplineLength_34 rfl rfl rfl
  intro k' hx1 rec6 hrec6
  rintro ⟨v3, v4⟩
  unfold f_X6_uplineLength_l1
  try dsimp only
  refine z_iload_n (x := v3) (pc := 9) dX6_uplineLength_9 rfl rfl ?_
  refine z_bipush (v := 10) (pc := 10) dX6_uplineLength_10 (by decide) ?_
  refine z_ic_gt (tgt := 33) (pc := 12) dX6_uplineLength_12 (by decide) (fun _ => ?_) (fun _ => ?_)
  · exact z_wk (hx1 v3) (And.intro rfl trivial)
  refine z_iload_n (x := v4) (pc := 15) dX6_uplineLength_15 rfl rfl ?_
  refine z_iconst (v := (-1)) (pc := 16) dX6_uplineLength_16 (by decide) ?_
  refine z_ic_eq (tgt := 33) (pc := 17) dX6_uplineLength_17 (by decide) (fun _ => ?_) (fun _ => ?_)
  · exact z_wk (hx1 v3) (And.intro rfl trivial)
  refine z_iinc (i := 2) (x := v3) (v := (v3 + 1)) (la' := [some (.ref a), none, some (.int (v3 + 1)), some (.int v4)]) (pc := 20) dX6_uplineLength_20 rfl rfl (by decide) rfl rfl ?_
  refine z_aload_n (x := a) (pc := 23) dX6_uplineLength_23 rfl rfl ?_
  refine z_getR cX6 (pc := 24) dX6_uplineLength_24 (j := 0) (by decide) rfl w_333 (fun r7 => ?_)
  refine z_iload_n (x := v4) (pc := 27) dX6_uplineLength_27 rfl rfl ?_
  refine z_aldI (pc := 28) dX6_uplineLength_28 (fun t8 => ?_)
  refine z_istore_n (i := 3) (la' := [some (.ref a), none, some (.int (v3 + 1)), some (.int t8)]) (pc := 29) dX6_uplineLength_29 rfl (by decide) rfl rfl ?_
  refine z_goto (tgt := 9) (pc := 30) dX6_uplineLength_30 (by decide) ?_
  exact hrec6 ((v3 + 1), t8)
set_option maxHeartbeats 2000000 in
set_option maxRecDepth 20000 in
theorem m_X9_tree {G : Z_G} (hG : z_GG G) (h : Z_H) (a : Nat) (x1 : Int32) (x2 : Int32) (x3 : Int32) : z_Met G iX9_tree [.ref a, .int x1, .int x2, .int x3] h ((f_X9_tree h a x1 x2 x3).bind some) := by
  refine z_in (la := [some (.ref a), some (.int x1), some (.int x2), some (.int x3), none]) (by decide) rfl rfl rfl ?_
  unfold f_X9_tree
  refine z_gg (fun _ => ?_)
  refine z_aload_n (x := a) (pc := 0) dX9_tree_0 rfl rfl ?_
  refine z_getR cX9 (pc := 1) dX9_tree_1 (j := 0) (by decide) rfl w_403 (fun r1 => ?_)
  refine z_getR cX7 (pc := 4) dX9_tree_4 (j := 2) (by decide) rfl w_247 (fun r2 => ?_)
  refine z_iload_n (x := x1) (pc := 7) dX9_tree_7 rfl rfl ?_
  refine z_cVP (As := [.int x1]) (rest := []) hG.1 (m_X0_has hG h r2 x1) (fun _ e => z_gdb e) oX0_has (pc := 8) dX9_tree_8 rfl w_643 rfl rfl rfl (fun t3 => ?_)
  refine z_if_eq (tgt := 24) (pc := 11) dX9_tree_11 (by decide) (fun _ => ?_) (fun _ => ?_)
  · refine z_bipush (v := (-2)) (pc := 24) dX9_tree_24 (by decide) ?_
    exact z_ireturn (pc := 26) dX9_tree_26 rfl rfl rfl
  refine z_iload_n (x := x3) (pc := 14) dX9_tree_14 rfl rfl ?_
  refine z_if_lt (tgt := 24) (pc := 15) dX9_tree_15 (by decide) (fun _ => ?_) (fun _ => ?_)
  · refine z_bipush (v := (-2)) (pc := 24) dX9_tree_24 (by decide) ?_
    exact z_ireturn (pc := 26) dX9_tree_26 rfl rfl rfl
  refine z_iload_n (x := x3) (pc := 18) dX9_tree_18 rfl rfl ?_
  refine z_bipush (v := 10) (pc := 19) dX9_tree_19 (by decide) ?_
  refine z_ic_le (tgt := 27) (pc := 21) dX9_tree_21 (by decide) (fun _ => ?_) (fun _ => ?_)
  · refine z_iload_n (x := x3) (pc := 27) dX9_tree_27 rfl rfl ?_
    refine z_iconst (v := 3) (pc := 28) dX9_tree_28 (by decide) ?_
    refine z_jn 43 (fun (y4 : Int32) => [some (.ref a), some (.int x1), some (.int x2), some (.int x3), none]) (fun (y4 : Int32) => [.int y4]) (fun (y4 : Int32) => h) ?_ ?_
    · rintro y4
      try dsimp only
      refine z_istore (i := 4) (la' := [some (.ref a), some (.int x1), some (.int x2), some (.int x3), some (.int y4)]) (pc := 43) dX9_tree_43 (by decide) rfl rfl ?_
      refine z_iload_n (x := x2) (pc := 45) dX9_tree_45 rfl rfl ?_
      refine z_aload_n (x := a) (pc := 46) dX9_tree_46 rfl rfl ?_
      refine z_getR cX9 (pc := 47) dX9_tree_47 (j := 0) (by decide) rfl w_403 (fun r6 => ?_)
      refine z_getR cX7 (pc := 50) dX9_tree_50 (j := 2) (by decide) rfl w_247 (fun r7 => ?_)
      refine z_getR cX0 (pc := 53) dX9_tree_53 (j := 1) (by decide) rfl w_145 (fun r8 => ?_)
      refine z_iload_n (x := x1) (pc := 56) dX9_tree_56 rfl rfl ?_
      refine z_aldI (pc := 57) dX9_tree_57 (fun t9 => ?_)
      refine z_ic_lt (tgt := 84) (pc := 58) dX9_tree_58 (by decide) (fun _ => ?_) (fun _ => ?_)
      · refine z_bipush (v := (-2)) (pc := 84) dX9_tree_84 (by decide) ?_
        exact z_ireturn (pc := 86) dX9_tree_86 rfl rfl rfl
      refine z_iload_n (x := x2) (pc := 61) dX9_tree_61 rfl rfl ?_
      refine z_iload (x := y4) (pc := 62) dX9_tree_62 rfl ?_
      refine z_jn 81 (fun (y10 : Int32) => [some (.ref a), some (.int x1), some (.int x2), some (.int x3), none]) (fun (y10 : Int32) => [.int y10, .int x2]) (fun (y10 : Int32) => h) ?_ ?_
      · rintro y10
        try dsimp only
        refine z_ic_le (tgt := 87) (pc := 81) dX9_tree_81 (by decide) (fun _ => ?_) (fun _ => ?_)
        · refine z_iload_n (x := x3) (pc := 87) dX9_tree_87 rfl rfl ?_
          refine z_bipush (v := 10) (pc := 88) dX9_tree_88 (by decide) ?_
          refine z_ic_ne (tgt := 100) (pc := 90) dX9_tree_90 (by decide) (fun _ => ?_) (fun _ => ?_)
          · refine z_aload_n (x := a) (pc := 100) dX9_tree_100 rfl rfl ?_
            refine z_getR cX9 (pc := 101) dX9_tree_101 (j := 3) (by decide) rfl w_406 (fun r12 => ?_)
            refine z_aload_n (x := a) (pc := 104) dX9_tree_104 rfl rfl ?_
            refine z_getR cX9 (pc := 105) dX9_tree_105 (j := 0) (by decide) rfl w_403 (fun r13 => ?_)
            refine z_iload_n (x := x2) (pc := 108) dX9_tree_108 rfl rfl ?_
            refine z_cVV (As := [.ref r13, .int x2]) (rest := []) hG.1 (m_X6_look hG h r12 r13 x2) (fun _ e => z_gdb e) oX6_look (pc := 109) dX9_tree_109 rfl w_721 rfl rfl rfl (fun h14 => ?_)
            refine z_iload_n (x := x3) (pc := 112) dX9_tree_112 rfl rfl ?_
            refine z_bz (fun hs0 => ?_) (fun hs0 => ?_)
            · refine z_tsw (tgt := 164) (off := 51) (pc := 113) dX9_tree_113 (by rw [hs0]; decide) (by rw [hs0]; decide) (by rw [hs0]; rfl) (by decide) ?_
              refine z_aload_n (x := a) (pc := 164) dX9_tree_164 rfl rfl ?_
              refine z_getR cX9 (pc := 165) dX9_tree_165 (j := 3) (by decide) rfl w_406 (fun r15 => ?_)
              refine z_getR cX6 (pc := 168) dX9_tree_168 (j := 0) (by decide) rfl w_335 (fun r16 => ?_)
              refine z_iload_n (x := x1) (pc := 171) dX9_tree_171 rfl rfl ?_
              refine z_aldI (pc := 172) dX9_tree_172 (fun t17 => ?_)
              exact z_ireturn (pc := 173) dX9_tree_173 rfl rfl rfl
            refine z_bz (fun hs1 => ?_) (fun hs1 => ?_)
            · refine z_tsw (tgt := 174) (off := 61) (pc := 113) dX9_tree_113 (by rw [hs1]; decide) (by rw [hs1]; decide) (by rw [hs1]; rfl) (by decide) ?_
              refine z_aload_n (x := a) (pc := 174) dX9_tree_174 rfl rfl ?_
              refine z_getR cX9 (pc := 175) dX9_tree_175 (j := 3) (by decide) rfl w_406 (fun r18 => ?_)
              refine z_iload_n (x := x1) (pc := 178) dX9_tree_178 rfl rfl ?_
              refine z_cVP (As := [.int x1]) (rest := []) hG.1 (m_X6_uplineLength hG h14 r18 x1) (fun _ e => z_gdb e) oX6_uplineLength (pc := 179) dX9_tree_179 rfl w_864 rfl rfl rfl (fun t19 => ?_)
              exact z_ireturn (pc := 182) dX9_tree_182 rfl rfl rfl
            refine z_bz (fun hs2 => ?_) (fun hs2 => ?_)
            · refine z_tsw (tgt := 183) (off := 70) (pc := 113) dX9_tree_113 (by rw [hs2]; decide) (by rw [hs2]; decide) (by rw [hs2]; rfl) (by decide) ?_
              refine z_aload_n (x := a) (pc := 183) dX9_tree_183 rfl rfl ?_
              refine z_getR cX9 (pc := 184) dX9_tree_184 (j := 3) (by decide) rfl w_406 (fun r20 => ?_)
              refine z_getR cX6 (pc := 187) dX9_tree_187 (j := 4) (by decide) rfl w_343 (fun r21 => ?_)
              refine z_iload_n (x := x1) (pc := 190) dX9_tree_190 rfl rfl ?_
              refine z_aldI (pc := 191) dX9_tree_191 (fun t22 => ?_)
              exact z_ireturn (pc := 192) dX9_tree_192 rfl rfl rfl
            refine z_bz (fun hs3 => ?_) (fun hs3 => ?_)
            · refine z_tsw (tgt := 193) (off := 80) (pc := 113) dX9_tree_113 (by rw [hs3]; decide) (by rw [hs3]; decide) (by rw [hs3]; rfl) (by decide) ?_
              refine z_aload_n (x := a) (pc := 193) dX9_tree_193 rfl rfl ?_
              refine z_getR cX9 (pc := 194) dX9_tree_194 (j := 3) (by decide) rfl w_406 (fun r23 => ?_)
              refine z_getR cX6 (pc := 197) dX9_tree_197 (j := 5) (by decide) rfl w_346 (fun r24 => ?_)
              refine z_iload_n (x := x1) (pc := 200) dX9_tree_200 rfl rfl ?_
              refine z_aldI (pc := 201) dX9_tree_201 (fun t25 => ?_)
              exact z_ireturn (pc := 202) dX9_tree_202 rfl rfl rfl
            refine z_bz (fun hs4 => ?_) (fun hs4 => ?_)
            · refine z_tsw (tgt := 203) (off := 90) (pc := 113) dX9_tree_113 (by rw [hs4]; decide) (by rw [hs4]; decide) (by rw [hs4]; rfl) (by decide) ?_
              refine z_aload_n (x := a) (pc := 203) dX9_tree_203 rfl rfl ?_
              refine z_getR cX9 (pc := 204) dX9_tree_204 (j := 3) (by decide) rfl w_406 (fun r26 => ?_)
              refine z_getR cX6 (pc := 207) dX9_tree_207 (j := 1) (by decide) rfl w_337 (fun r27 => ?_)
              refine z_iload_n (x := x1) (pc := 210) dX9_tree_210 rfl rfl ?_
              refine z_aldI (pc := 211) dX9_tree_211 (fun t28 => ?_)
              exact z_ireturn (pc := 212) dX9_tree_212 rfl rfl rfl
            refine z_bz (fun hs5 => ?_) (fun hs5 => ?_)
            · refine z_tsw (tgt := 213) (off := 100) (pc := 113) dX9_tree_113 (by rw [hs5]; decide) (by rw [hs5]; decide) (by rw [hs5]; rfl) (by decide) ?_
              refine z_aload_n (x := a) (pc := 213) dX9_tree_213 rfl rfl ?_
              refine z_getR cX9 (pc := 214) dX9_tree_214 (j := 3) (by decide) rfl w_406 (fun r29 => ?_)
              refine z_getR cX6 (pc := 217) dX9_tree_217 (j := 2) (by decide) rfl w_339 (fun r30 => ?_)
              refine z_iload_n (x := x1) (pc := 220) dX9_tree_220 rfl rfl ?_
              refine z_aldI (pc := 221) dX9_tree_221 (fun t31 => ?_)
              exact z_ireturn (pc := 222) dX9_tree_222 rfl rfl rfl
            refine z_bz (fun hs6 => ?_) (fun hs6 => ?_)
            · refine z_tsw (tgt := 223) (off := 110) (pc := 113) dX9_tree_113 (by rw [hs6]; decide) (by rw [hs6]; decide) (by rw [hs6]; rfl) (by decide) ?_
              refine z_aload_n (x := a) (pc := 223) dX9_tree_223 rfl rfl ?_
              refine z_getR cX9 (pc := 224) dX9_tree_224 (j := 3) (by decide) rfl w_406 (fun r32 => ?_)
              refine z_getR cX6 (pc := 227) dX9_tree_227 (j := 3) (by decide) rfl w_341 (fun r33 => ?_)
              refine z_iload_n (x := x1) (pc := 230) dX9_tree_230 rfl rfl ?_
              refine z_aldI (pc := 231) dX9_tree_231 (fun t34 => ?_)
              exact z_ireturn (pc := 232) dX9_tree_232 rfl rfl rfl
            refine z_bz (fun hs7 => ?_) (fun hs7 => ?_)
            · refine z_tsw (tgt := 233) (off := 120) (pc := 113) dX9_tree_113 (by rw [hs7]; decide) (by rw [hs7]; decide) (by rw [hs7]; rfl) (by decide) ?_
              refine z_aload_n (x := a) (pc := 233) dX9_tree_233 rfl rfl ?_
              refine z_getR cX9 (pc := 234) dX9_tree_234 (j := 3) (by decide) rfl w_406 (fun r35 => ?_)
              refine z_getI cX6 (pc := 237) dX9_tree_237 (j := 9) (by decide) rfl w_355 (fun t36 => ?_)
              refine z_iload_n (x := x1) (pc := 240) dX9_tree_240 rfl rfl ?_
              refine z_ishr (pc := 241) dX9_tree_241 ?_
              refine z_iconst (v := 1) (pc := 242) dX9_tree_242 (by decide) ?_
              refine z_iand (pc := 243) dX9_tree_243 ?_
              exact z_ireturn (pc := 244) dX9_tree_244 rfl rfl rfl
            refine z_bz (fun hs8 => ?_) (fun hs8 => ?_)
            · refine z_tsw (tgt := 245) (off := 132) (pc := 113) dX9_tree_113 (by rw [hs8]; decide) (by rw [hs8]; decide) (by rw [hs8]; rfl) (by decide) ?_
              refine z_aload_n (x := a) (pc := 245) dX9_tree_245 rfl rfl ?_
              refine z_getR cX9 (pc := 246) dX9_tree_246 (j := 3) (by decide) rfl w_406 (fun r37 => ?_)
              refine z_getR cX6 (pc := 249) dX9_tree_249 (j := 7) (by decide) rfl w_351 (fun r38 => ?_)
              refine z_iload_n (x := x1) (pc := 252) dX9_tree_252 rfl rfl ?_
              refine z_aldI (pc := 253) dX9_tree_253 (fun t39 => ?_)
              exact z_ireturn (pc := 254) dX9_tree_254 rfl rfl rfl
            refine z_tswO (tgt := 255) (pc := 113) dX9_tree_113 (z_out (fun v h1 h2 => by
              have hv : v = 0 ∨ v = 1 ∨ v = 2 ∨ v = 3 ∨ v = 4 ∨ v = 5 ∨ v = 6 ∨ v = 7 ∨ v = 8 := by omega
              rcases hv with rfl | rfl | rfl | rfl | rfl | rfl | rfl | rfl | rfl
              · exact hs0
              · exact hs1
              · exact hs2
              · exact hs3
              · exact hs4
              · exact hs5
              · exact hs6
              · exact hs7
              · exact hs8)) (by decide) ?_
            refine z_aload_n (x := a) (pc := 255) dX9_tree_255 rfl rfl ?_
            refine z_getR cX9 (pc := 256) dX9_tree_256 (j := 3) (by decide) rfl w_406 (fun r40 => ?_)
            refine z_getR cX6 (pc := 259) dX9_tree_259 (j := 6) (by decide) rfl w_348 (fun r41 => ?_)
            refine z_iload_n (x := x1) (pc := 262) dX9_tree_262 rfl rfl ?_
            refine z_aldI (pc := 263) dX9_tree_263 (fun t42 => ?_)
            exact z_ireturn (pc := 264) dX9_tree_264 rfl rfl rfl
          refine z_aload_n (x := a) (pc := 93) dX9_tree_93 rfl rfl ?_
          refine z_iload_n (x := x1) (pc := 94) dX9_tree_94 rfl rfl ?_
          refine z_iload_n (x := x2) (pc := 95) dX9_tree_95 rfl rfl ?_
          refine z_cVP (As := [.int x1, .int x2]) (rest := []) hG.1 (m_X9_openSponsors hG h a x1 x2) (fun _ e => z_gdb e) oX9_openSponsors (pc := 96) dX9_tree_96 rfl w_860 rfl rfl rfl (fun t43 => ?_)
          exact z_ireturn (pc := 99) dX9_tree_99 rfl rfl rfl
        refine z_bipush (v := (-2)) (pc := 84) dX9_tree_84 (by decide) ?_
        exact z_ireturn (pc := 86) dX9_tree_86 rfl rfl rfl
      intro j11 hj11
      refine z_if_eq (tgt := 74) (pc := 64) dX9_tree_64 (by decide) (fun _ => ?_) (fun _ => ?_)
      · refine z_aload_n (x := a) (pc := 74) dX9_tree_74 rfl rfl ?_
        refine z_getR cX9 (pc := 75) dX9_tree_75 (j := 0) (by decide) rfl w_403 (fun r44 => ?_)
        refine z_getI cX7 (pc := 78) dX9_tree_78 (j := 8) (by decide) rfl w_261 (fun t45 => ?_)
        exact z_wk (hj11 t45) (And.intro rfl (And.intro rfl (And.intro rfl (And.intro rfl trivial))))
      refine z_aload_n (x := a) (pc := 67) dX9_tree_67 rfl rfl ?_
      refine z_cVP (As := []) (rest := [.int x2]) hG.1 (m_X9_lastTreeMonth hG h a) (fun _ e => z_gdb e) oX9_lastTreeMonth (pc := 68) dX9_tree_68 rfl w_644 rfl rfl rfl (fun t46 => ?_)
      refine z_goto (tgt := 81) (pc := 71) dX9_tree_71 (by decide) ?_
      exact z_wk (hj11 t46) (And.intro rfl (And.intro rfl (And.intro rfl (And.intro rfl trivial))))
    intro j5 hj5
    refine z_jn 38 (fun (_ : Unit) => [some (.ref a), some (.int x1), some (.int x2), some (.int x3), none]) (fun (_ : Unit) => []) (fun (_ : Unit) => h) ?_ ?_
    · rintro _
      try dsimp only
      refine z_iconst (v := 1) (pc := 38) dX9_tree_38 (by decide) ?_
      refine z_goto (tgt := 43) (pc := 39) dX9_tree_39 (by decide) ?_
      exact hj5 1
    intro j47 hj47
    refine z_ic_le (tgt := 38) (pc := 29) dX9_tree_29 (by decide) (fun _ => ?_) (fun _ => ?_)
    · exact hj47 ()
    refine z_iload_n (x := x3) (pc := 32) dX9_tree_32 rfl rfl ?_
    refine z_bipush (v := 9) (pc := 33) dX9_tree_33 (by decide) ?_
    refine z_ic_lt (tgt := 42) (pc := 35) dX9_tree_35 (by decide) (fun _ => ?_) (fun _ => ?_)
    · refine z_iconst (v := 0) (pc := 42) dX9_tree_42 (by decide) ?_
      exact hj5 0
    exact hj47 ()
  refine z_bipush (v := (-2)) (pc := 24) dX9_tree_24 (by decide) ?_
  exact z_ireturn (pc := 26) dX9_tree_26 rfl rfl rfl
set_option maxHeartbeats 2000000 in
set_option maxRecDepth 20000 in
theorem m_X10_sumOf {G : Z_G} (hG : z_GG G) (h : Z_H) (a : Nat) (x1 : Int32) : z_Met G iX10_sumOf [.ref a, .int x1] h ((f_X10_sumOf h a x1).bind fun r => some (r, h)) := by
  refine z_in (la := [some (.ref a), some (.int x1), none, none]) (by decide) rfl rfl rfl ?_
  unfold f_X10_sumOf
  refine z_gg (fun _ => ?_)
  refine z_iconst (v := 0) (pc := 0) dX10_sumOf_0 (by decide) ?_
  refine z_istore_n (i := 2) (la' := [some (.ref a), some (.int x1), some (.int 0), none]) (pc := 1) dX10_sumOf_1 rfl (by decide) rfl rfl ?_
  refine z_iconst (v := 0) (pc := 2) dX10_sumOf_2 (by decide) ?_
  refine z_istore_n (i := 3) (la' := [some (.ref a), some (.int x1), some (.int 0), some (.int 0)]) (pc := 3) dX10_sumOf_3 rfl (by decide) rfl rfl ?_
  refine z_lp (T := Int32) (s0 := (0, 0)) 4 (fun ((v1, v2) : Int32 × Int32) => [some (.ref a), some (.int x1), some (.int v1), some (.int v2)]) (fun ((v1, v2) : Int32 × Int32) => h) (fun _ => 38) (fun (v3 : Int32) => [none, none, some (.int v3), none]) (fun (v3 : Int32) => h) ?_ ?_
  · rintro v3
    try dsimp only
    refine z_iload_n (x := v3) (pc := 38) dX10_sumOf_38 rfl rfl ?_
    exact z_ireturn (pc := 39) dX10_sumOf_39 rfl rfl rfl
  intro k' hx1 rec4 hrec4
  rintro ⟨v1, v2⟩
  unfold f_X10_sumOf_l1
  try dsimp only
  refine z_iload_n (x := v2) (pc := 4) dX10_sumOf_4 rfl rfl ?_
  refine z_aload_n (x := a) (pc := 5) dX10_sumOf_5 rfl rfl ?_
  refine z_getI cX10 (pc := 6) dX10_sumOf_6 (j := 19) (by decide) rfl w_1106 (fun t5 => ?_)
  refine z_ic_ge (tgt := 38) (pc := 9) dX10_sumOf_9 (by decide) (fun _ => ?_) (fun _ => ?_)
  · exact z_wk (hx1 v1) (And.intro rfl trivial)
  refine z_iload_n (x := v1) (pc := 12) dX10_sumOf_12 rfl rfl ?_
  refine z_iload_n (x := x1) (pc := 13) dX10_sumOf_13 rfl rfl ?_
  refine z_iload_n (x := v2) (pc := 14) dX10_sumOf_14 rfl rfl ?_
  refine z_cSP (As := [.int x1, .int v2]) (rest := [.int v1]) hG.1 (m_X10_has hG h x1 v2) oX10_has (pc := 15) dX10_sumOf_15 rfl w_1374 rfl rfl rfl (fun t6 => ?_)
  refine z_jn 30 (fun (y7 : Int32) => [some (.ref a), some (.int x1), none, some (.int v2)]) (fun (y7 : Int32) => [.int y7, .int v1]) (fun (y7 : Int32) => h) ?_ ?_
  · rintro y7
    try dsimp only
    refine z_iadd (pc := 30) dX10_sumOf_30 ?_
    refine z_nm (fun v9 => ?_)
    refine z_istore_n (i := 2) (la' := [some (.ref a), some (.int x1), some (.int v9), some (.int v2)]) (pc := 31) dX10_sumOf_31 rfl (by decide) rfl rfl ?_
    refine z_iinc (i := 3) (x := v2) (v := (v2 + 1)) (la' := [some (.ref a), some (.int x1), some (.int v9), some (.int (v2 + 1))]) (pc := 32) dX10_sumOf_32 rfl rfl (by decide) rfl rfl ?_
    refine z_goto (tgt := 4) (pc := 35) dX10_sumOf_35 (by decide) ?_
    exact hrec4 (v9, (v2 + 1))
  intro j8 hj8
  refine z_if_eq (tgt := 29) (pc := 18) dX10_sumOf_18 (by decide) (fun _ => ?_) (fun _ => ?_)
  · refine z_iconst (v := 0) (pc := 29) dX10_sumOf_29 (by decide) ?_
    exact z_wk (hj8 0) (And.intro rfl (And.intro rfl (And.intro rfl trivial)))
  refine z_aload_n (x := a) (pc := 21) dX10_sumOf_21 rfl rfl ?_
  refine z_iload_n (x := v2) (pc := 22) dX10_sumOf_22 rfl rfl ?_
  refine z_cVP (As := [.int v2]) (rest := [.int v1]) hG.1 (m_X10_volumeOf hG h a v2) (fun _ e => z_gdb e) oX10_volumeOf (pc := 23) dX10_sumOf_23 rfl w_1377 rfl rfl rfl (fun t10 => ?_)
  refine z_goto (tgt := 30) (pc := 26) dX10_sumOf_26 (by decide) ?_
  exact z_wk (hj8 t10) (And.intro rfl (And.intro rfl (And.intro rfl trivial)))
set_option maxHeartbeats 2000000 in
set_option maxRecDepth 20000 in
theorem m_X10_generations {G : Z_G} (hG : z_GG G) (h : Z_H) (a : Nat) (x1 : Int32) : z_Met G iX10_generations [.ref a, .int x1] h ((f_X10_generations h a x1).bind fun r => some (r, h)) := by
  refine z_in (la := [some (.ref a), some (.int x1), none, none, none]) (by decide) rfl rfl rfl ?_
  unfold f_X10_generations
  refine z_gg (fun _ => ?_)
  refine z_aload_n (x := a) (pc := 0) dX10_generations_0 rfl rfl ?_
  refine z_iload_n (x := x1) (pc := 1) dX10_generations_1 rfl rfl ?_
  refine z_cVP (As := [.int x1]) (rest := []) hG.1 (m_X10_belowOf hG h a x1) (fun _ e => z_gdb e) oX10_belowOf (pc := 2) dX10_generations_2 rfl w_1370 rfl rfl rfl (fun t1 => ?_)
  refine z_istore_n (i := 2) (la' := [some (.ref a), some (.int x1), some (.int t1), none, none]) (pc := 5) dX10_generations_5 rfl (by decide) rfl rfl ?_
  refine z_iconst (v := 0) (pc := 6) dX10_generations_6 (by decide) ?_
  refine z_istore_n (i := 3) (la' := [some (.ref a), some (.int x1), some (.int t1), some (.int 0), none]) (pc := 7) dX10_generations_7 rfl (by decide) rfl rfl ?_
  refine z_iconst (v := 0) (pc := 8) dX10_generations_8 (by decide) ?_
  refine z_istore (i := 4) (la' := [some (.ref a), some (.int x1), some (.int t1), some (.int 0), some (.int 0)]) (pc := 9) dX10_generations_9 (by decide) rfl rfl ?_
  refine z_lp (T := Int32) (s0 := (0, 0)) 11 (fun ((v2, v3) : Int32 × Int32) => [some (.ref a), some (.int x1), some (.int t1), some (.int v2), some (.int v3)]) (fun ((v2, v3) : Int32 × Int32) => h) (fun _ => 51) (fun (v4 : Int32) => [none, none, none, some (.int v4), none]) (fun (v4 : Int32) => h) ?_ ?_
  · rintro v4
    try dsimp only
    refine z_iload_n (x := v4) (pc := 51) dX10_generations_51 rfl rfl ?_
    exact z_ireturn (pc := 52) dX10_generations_52 rfl rfl rfl
  intro k' hx1 rec5 hrec5
  rintro ⟨v2, v3⟩
  unfold f_X10_generations_l1
  try dsimp only
  refine z_iload (x := v3) (pc := 11) dX10_generations_11 rfl ?_
  refine z_aload_n (x := a) (pc := 13) dX10_generations_13 rfl rfl ?_
  refine z_getI cX10 (pc := 14) dX10_generations_14 (j := 19) (by decide) rfl w_1106 (fun t6 => ?_)
  refine z_ic_ge (tgt := 51) (pc := 17) dX10_generations_17 (by decide) (fun _ => ?_) (fun _ => ?_)
  · exact z_wk (hx1 v2) (And.intro rfl trivial)
  refine z_iload_n (x := t1) (pc := 20) dX10_generations_20 rfl rfl ?_
  refine z_iload (x := v3) (pc := 21) dX10_generations_21 rfl ?_
  refine z_cSP (As := [.int t1, .int v3]) (rest := []) hG.1 (m_X10_has hG h t1 v3) oX10_has (pc := 23) dX10_generations_23 rfl w_1374 rfl rfl rfl (fun t7 => ?_)
  refine z_jn 44 (fun (y8 : Int32) => [some (.ref a), some (.int x1), some (.int t1), none, some (.int v3)]) (fun (y8 : Int32) => [.int y8]) (fun (y8 : Int32) => h) ?_ ?_
  · rintro y8
    try dsimp only
    refine z_istore_n (i := 3) (la' := [some (.ref a), some (.int x1), some (.int t1), some (.int y8), some (.int v3)]) (pc := 44) dX10_generations_44 rfl (by decide) rfl rfl ?_
    refine z_iinc (i := 4) (x := v3) (v := (v3 + 1)) (la' := [some (.ref a), some (.int x1), some (.int t1), some (.int y8), some (.int (v3 + 1))]) (pc := 45) dX10_generations_45 rfl rfl (by decide) rfl rfl ?_
    refine z_goto (tgt := 11) (pc := 48) dX10_generations_48 (by decide) ?_
    exact hrec5 (y8, (v3 + 1))
  intro j9 hj9
  refine z_if_eq (tgt := 43) (pc := 26) dX10_generations_26 (by decide) (fun _ => ?_) (fun _ => ?_)
  · refine z_iload_n (x := v2) (pc := 43) dX10_generations_43 rfl rfl ?_
    exact z_wk (hj9 v2) (And.intro rfl (And.intro rfl (And.intro rfl (And.intro rfl trivial))))
  refine z_iload_n (x := v2) (pc := 29) dX10_generations_29 rfl rfl ?_
  refine z_aload_n (x := a) (pc := 30) dX10_generations_30 rfl rfl ?_
  refine z_iload (x := v3) (pc := 31) dX10_generations_31 rfl ?_
  refine z_iload_n (x := x1) (pc := 33) dX10_generations_33 rfl rfl ?_
  refine z_cVP (As := [.int v3, .int x1]) (rest := [.int v2]) hG.1 (m_X10_stepsUp hG h a v3 x1) (fun _ e => z_gdb e) oX10_stepsUp (pc := 34) dX10_generations_34 rfl w_1287 rfl rfl rfl (fun t10 => ?_)
  refine z_cSP (As := [.int v2, .int t10]) (rest := []) hG.1 (m_X10_greater hG h v2 t10) oX10_greater (pc := 37) dX10_generations_37 rfl w_1331 rfl rfl rfl (fun t11 => ?_)
  refine z_goto (tgt := 44) (pc := 40) dX10_generations_40 (by decide) ?_
  exact z_wk (hj9 t11) (And.intro rfl (And.intro rfl (And.intro rfl (And.intro rfl trivial))))
set_option maxHeartbeats 2000000 in
set_option maxRecDepth 20000 in
theorem m_X10_couldMove {G : Z_G} (hG : z_GG G) (h : Z_H) (a : Nat) (x1 : Int32) (x2 : Int32) : z_Met G iX10_couldMove [.ref a, .int x1, .int x2] h ((f_X10_couldMove h a x1 x2).bind some) := by
  refine z_in (la := [some (.ref a), some (.int x1), some (.int x2), none, none]) (by decide) rfl rfl rfl ?_
  unfold f_X10_couldMove
  refine z_gg (fun _ => ?_)
  refine z_iconst (v := 0) (pc := 0) dX10_couldMove_0 (by decide) ?_
  refine z_istore_n (i := 3) (la' := [some (.ref a), some (.int x1), some (.int x2), some (.int 0), none]) (pc := 1) dX10_couldMove_1 rfl (by decide) rfl rfl ?_
  refine z_iconst (v := 0) (pc := 2) dX10_couldMove_2 (by decide) ?_
  refine z_istore (i := 4) (la' := [some (.ref a), some (.int x1), some (.int x2), some (.int 0), some (.int 0)]) (pc := 3) dX10_couldMove_3 (by decide) rfl rfl ?_
  refine z_lp (T := Int32 × Z_H) (s0 := (0, 0, h)) 5 (fun ((v1, v2, h3) : Int32 × Int32 × Z_H) => [some (.ref a), some (.int x1), some (.int x2), some (.int v1), some (.int v2)]) (fun ((v1, v2, h3) : Int32 × Int32 × Z_H) => h3) (fun _ => 46) (fun ((v4, h5) : Int32 × Z_H) => [none, none, none, some (.int v4), none]) (fun ((v4, h5) : Int32 × Z_H) => h5) ?_ ?_
  · rintro ⟨v4, h5⟩
    try dsimp only
    refine z_iload_n (x := v4) (pc := 46) dX10_couldMove_46 rfl rfl ?_
    exact z_ireturn (pc := 47) dX10_couldMove_47 rfl rfl rfl
  intro k' hx1 rec6 hrec6
  rintro ⟨v1, v2, h3⟩
  unfold f_X10_couldMove_l1
  try dsimp only
  refine z_iload (x := v2) (pc := 5) dX10_couldMove_5 rfl ?_
  refine z_aload_n (x := a) (pc := 7) dX10_couldMove_7 rfl rfl ?_
  refine z_getR cX10 (pc := 8) dX10_couldMove_8 (j := 1) (by decide) rfl w_1088 (fun r7 => ?_)
  refine z_sipush (v := 145) (pc := 11) dX10_couldMove_11 (by decide) ?_
  refine z_aldI (pc := 14) dX10_couldMove_14 (fun t8 => ?_)
  refine z_ic_ge (tgt := 46) (pc := 15) dX10_couldMove_15 (by decide) (fun _ => ?_) (fun _ => ?_)
  · exact z_wk (hx1 (v1, h3)) (And.intro rfl trivial)
  refine z_iload_n (x := v1) (pc := 18) dX10_couldMove_18 rfl rfl ?_
  refine z_aload_n (x := a) (pc := 19) dX10_couldMove_19 rfl rfl ?_
  refine z_iload_n (x := x1) (pc := 20) dX10_couldMove_20 rfl rfl ?_
  refine z_iload (x := v2) (pc := 21) dX10_couldMove_21 rfl ?_
  refine z_iload_n (x := x2) (pc := 23) dX10_couldMove_23 rfl rfl ?_
  refine z_dVI (As := [.int x1, .int v2, .int x2]) (rest := [.int v1]) hG.1 (m_X10_reason hG h3 a x1 v2 x2) (fun _ e => z_gdb e) oX10_reason (pc := 24) dX10_couldMove_24 rfl w_1271 rfl rfl rfl (fun t9 h10 => ?_)
  refine z_jn 38 (fun (y11 : Int32) => [some (.ref a), some (.int x1), some (.int x2), none, some (.int v2)]) (fun (y11 : Int32) => [.int y11, .int v1]) (fun (y11 : Int32) => h10) ?_ ?_
  · rintro y11
    try dsimp only
    refine z_ior (pc := 38) dX10_couldMove_38 ?_
    refine z_nm (fun v13 => ?_)
    refine z_istore_n (i := 3) (la' := [some (.ref a), some (.int x1), some (.int x2), some (.int v13), some (.int v2)]) (pc := 39) dX10_couldMove_39 rfl (by decide) rfl rfl ?_
    refine z_iinc (i := 4) (x := v2) (v := (v2 + 1)) (la' := [some (.ref a), some (.int x1), some (.int x2), some (.int v13), some (.int (v2 + 1))]) (pc := 40) dX10_couldMove_40 rfl rfl (by decide) rfl rfl ?_
    refine z_goto (tgt := 5) (pc := 43) dX10_couldMove_43 (by decide) ?_
    exact hrec6 (v13, (v2 + 1), h10)
  intro j12 hj12
  refine z_if_ne (tgt := 37) (pc := 27) dX10_couldMove_27 (by decide) (fun _ => ?_) (fun _ => ?_)
  · refine z_iconst (v := 0) (pc := 37) dX10_couldMove_37 (by decide) ?_
    exact z_wk (hj12 0) (And.intro rfl (And.intro rfl (And.intro rfl (And.intro rfl trivial))))
  refine z_iconst (v := 1) (pc := 30) dX10_couldMove_30 (by decide) ?_
  refine z_iload (x := v2) (pc := 31) dX10_couldMove_31 rfl ?_
  refine z_ishl (pc := 33) dX10_couldMove_33 ?_
  refine z_goto (tgt := 38) (pc := 34) dX10_couldMove_34 (by decide) ?_
  exact z_wk (hj12 ((1 : Int32) <<< (v2 &&& 31))) (And.intro rfl (And.intro rfl (And.intro rfl (And.intro rfl trivial))))
set_option maxHeartbeats 2000000 in
set_option maxRecDepth 20000 in
theorem m_X10_ofTree {G : Z_G} (hG : z_GG G) (h : Z_H) (a : Nat) (x1 : Int32) (x2 : Int32) (x3 : Int32) : z_Met G iX10_ofTree [.ref a, .int x1, .int x2, .int x3] h ((f_X10_ofTree h a x1 x2 x3).bind some) := by
  refine z_in (la := [some (.ref a), some (.int x1), some (.int x2), some (.int x3)]) (by decide) rfl rfl rfl ?_
  unfold f_X10_ofTree
  refine z_gg (fun _ => ?_)
  refine z_aload_n (x := a) (pc := 0) dX10_ofTree_0 rfl rfl ?_
  refine z_cVV (As := []) (rest := []) hG.1 (m_X10_laysOwn hG h a) (fun _ e => z_gdb e) oX10_laysOwn (pc := 1) dX10_ofTree_1 rfl w_1346 rfl rfl rfl (fun h1 => ?_)
  refine z_aload_n (x := a) (pc := 4) dX10_ofTree_4 rfl rfl ?_
  refine z_iload_n (x := x2) (pc := 5) dX10_ofTree_5 rfl rfl ?_
  refine z_cVV (As := [.int x2]) (rest := []) hG.1 (m_X10_laysMonth hG h1 a x2) (fun _ e => z_gdb e) oX10_laysMonth (pc := 6) dX10_ofTree_6 rfl w_1283 rfl rfl rfl (fun h2 => ?_)
  refine z_iload_n (x := x3) (pc := 9) dX10_ofTree_9 rfl rfl ?_
  refine z_bz (fun hs0 => ?_) (fun hs0 => ?_)
  · refine z_tsw (tgt := 68) (off := 58) (pc := 10) dX10_ofTree_10 (by rw [hs0]; decide) (by rw [hs0]; decide) (by rw [hs0]; rfl) (by decide) ?_
    refine z_aload_n (x := a) (pc := 68) dX10_ofTree_68 rfl rfl ?_
    refine z_getR cX10 (pc := 69) dX10_ofTree_69 (j := 17) (by decide) rfl w_1104 (fun r3 => ?_)
    refine z_iload_n (x := x1) (pc := 72) dX10_ofTree_72 rfl rfl ?_
    refine z_aldI (pc := 73) dX10_ofTree_73 (fun t4 => ?_)
    exact z_ireturn (pc := 74) dX10_ofTree_74 rfl rfl rfl
  refine z_bz (fun hs1 => ?_) (fun hs1 => ?_)
  · refine z_tsw (tgt := 75) (off := 65) (pc := 10) dX10_ofTree_10 (by rw [hs1]; decide) (by rw [hs1]; decide) (by rw [hs1]; rfl) (by decide) ?_
    refine z_aload_n (x := a) (pc := 75) dX10_ofTree_75 rfl rfl ?_
    refine z_iload_n (x := x1) (pc := 76) dX10_ofTree_76 rfl rfl ?_
    refine z_iconst (v := (-1)) (pc := 77) dX10_ofTree_77 (by decide) ?_
    refine z_cVP (As := [.int x1, .int (-1)]) (rest := []) hG.1 (m_X10_stepsUp hG h2 a x1 (-1)) (fun _ e => z_gdb e) oX10_stepsUp (pc := 78) dX10_ofTree_78 rfl w_1287 rfl rfl rfl (fun t5 => ?_)
    refine z_iconst (v := 1) (pc := 81) dX10_ofTree_81 (by decide) ?_
    refine z_isub (pc := 82) dX10_ofTree_82 ?_
    exact z_ireturn (pc := 83) dX10_ofTree_83 rfl rfl rfl
  refine z_bz (fun hs2 => ?_) (fun hs2 => ?_)
  · refine z_tsw (tgt := 84) (off := 74) (pc := 10) dX10_ofTree_10 (by rw [hs2]; decide) (by rw [hs2]; decide) (by rw [hs2]; rfl) (by decide) ?_
    refine z_aload_n (x := a) (pc := 84) dX10_ofTree_84 rfl rfl ?_
    refine z_iload_n (x := x1) (pc := 85) dX10_ofTree_85 rfl rfl ?_
    refine z_cVP (As := [.int x1]) (rest := []) hG.1 (m_X10_belowOf hG h2 a x1) (fun _ e => z_gdb e) oX10_belowOf (pc := 86) dX10_ofTree_86 rfl w_1370 rfl rfl rfl (fun t6 => ?_)
    exact z_ireturn (pc := 89) dX10_ofTree_89 rfl rfl rfl
  refine z_bz (fun hs3 => ?_) (fun hs3 => ?_)
  · refine z_tsw (tgt := 90) (off := 80) (pc := 10) dX10_ofTree_10 (by rw [hs3]; decide) (by rw [hs3]; decide) (by rw [hs3]; rfl) (by decide) ?_
    refine z_aload_n (x := a) (pc := 90) dX10_ofTree_90 rfl rfl ?_
    refine z_iload_n (x := x1) (pc := 91) dX10_ofTree_91 rfl rfl ?_
    refine z_cVP (As := [.int x1]) (rest := []) hG.1 (m_X10_directOf hG h2 a x1) (fun _ e => z_gdb e) oX10_directOf (pc := 92) dX10_ofTree_92 rfl w_1385 rfl rfl rfl (fun t7 => ?_)
    exact z_ireturn (pc := 95) dX10_ofTree_95 rfl rfl rfl
  refine z_bz (fun hs4 => ?_) (fun hs4 => ?_)
  · refine z_tsw (tgt := 96) (off := 86) (pc := 10) dX10_ofTree_10 (by rw [hs4]; decide) (by rw [hs4]; decide) (by rw [hs4]; rfl) (by decide) ?_
    refine z_aload_n (x := a) (pc := 96) dX10_ofTree_96 rfl rfl ?_
    refine z_getR cX10 (pc := 97) dX10_ofTree_97 (j := 21) (by decide) rfl w_1108 (fun r8 => ?_)
    refine z_bipush (v := 100) (pc := 100) dX10_ofTree_100 (by decide) ?_
    refine z_iload_n (x := x1) (pc := 102) dX10_ofTree_102 rfl rfl ?_
    refine z_imul (pc := 103) dX10_ofTree_103 ?_
    refine z_iload_n (x := x2) (pc := 104) dX10_ofTree_104 rfl rfl ?_
    refine z_iadd (pc := 105) dX10_ofTree_105 ?_
    refine z_aldI (pc := 106) dX10_ofTree_106 (fun t9 => ?_)
    exact z_ireturn (pc := 107) dX10_ofTree_107 rfl rfl rfl
  refine z_bz (fun hs5 => ?_) (fun hs5 => ?_)
  · refine z_tsw (tgt := 108) (off := 98) (pc := 10) dX10_ofTree_10 (by rw [hs5]; decide) (by rw [hs5]; decide) (by rw [hs5]; rfl) (by decide) ?_
    refine z_aload_n (x := a) (pc := 108) dX10_ofTree_108 rfl rfl ?_
    refine z_iload_n (x := x1) (pc := 109) dX10_ofTree_109 rfl rfl ?_
    refine z_cVP (As := [.int x1]) (rest := []) hG.1 (m_X10_volumeOf hG h2 a x1) (fun _ e => z_gdb e) oX10_volumeOf (pc := 110) dX10_ofTree_110 rfl w_1377 rfl rfl rfl (fun t10 => ?_)
    exact z_ireturn (pc := 113) dX10_ofTree_113 rfl rfl rfl
  refine z_bz (fun hs6 => ?_) (fun hs6 => ?_)
  · refine z_tsw (tgt := 114) (off := 104) (pc := 10) dX10_ofTree_10 (by rw [hs6]; decide) (by rw [hs6]; decide) (by rw [hs6]; rfl) (by decide) ?_
    refine z_aload_n (x := a) (pc := 114) dX10_ofTree_114 rfl rfl ?_
    refine z_aload_n (x := a) (pc := 115) dX10_ofTree_115 rfl rfl ?_
    refine z_iload_n (x := x1) (pc := 116) dX10_ofTree_116 rfl rfl ?_
    refine z_cVP (As := [.int x1]) (rest := [.ref a]) hG.1 (m_X10_belowOf hG h2 a x1) (fun _ e => z_gdb e) oX10_belowOf (pc := 117) dX10_ofTree_117 rfl w_1370 rfl rfl rfl (fun t11 => ?_)
    refine z_cVP (As := [.int t11]) (rest := []) hG.1 (m_X10_sumOf hG h2 a t11) (fun _ e => z_gdb e) oX10_sumOf (pc := 120) dX10_ofTree_120 rfl w_1453 rfl rfl rfl (fun t12 => ?_)
    exact z_ireturn (pc := 123) dX10_ofTree_123 rfl rfl rfl
  refine z_bz (fun hs7 => ?_) (fun hs7 => ?_)
  · refine z_tsw (tgt := 124) (off := 114) (pc := 10) dX10_ofTree_10 (by rw [hs7]; decide) (by rw [hs7]; decide) (by rw [hs7]; rfl) (by decide) ?_
    refine z_aload_n (x := a) (pc := 124) dX10_ofTree_124 rfl rfl ?_
    refine z_iload_n (x := x1) (pc := 125) dX10_ofTree_125 rfl rfl ?_
    refine z_iload_n (x := x2) (pc := 126) dX10_ofTree_126 rfl rfl ?_
    refine z_cVP (As := [.int x1, .int x2]) (rest := []) hG.1 (m_X10_isActive hG h2 a x1 x2) (fun _ e => z_gdb e) oX10_isActive (pc := 127) dX10_ofTree_127 rfl w_1354 rfl rfl rfl (fun t13 => ?_)
    refine z_if_eq (tgt := 137) (pc := 130) dX10_ofTree_130 (by decide) (fun _ => ?_) (fun _ => ?_)
    · refine z_iconst (v := 0) (pc := 137) dX10_ofTree_137 (by decide) ?_
      exact z_ireturn (pc := 138) dX10_ofTree_138 rfl rfl rfl
    refine z_iconst (v := 1) (pc := 133) dX10_ofTree_133 (by decide) ?_
    refine z_goto (tgt := 138) (pc := 134) dX10_ofTree_134 (by decide) ?_
    exact z_ireturn (pc := 138) dX10_ofTree_138 rfl rfl rfl
  refine z_bz (fun hs8 => ?_) (fun hs8 => ?_)
  · refine z_tsw (tgt := 139) (off := 129) (pc := 10) dX10_ofTree_10 (by rw [hs8]; decide) (by rw [hs8]; decide) (by rw [hs8]; rfl) (by decide) ?_
    refine z_aload_n (x := a) (pc := 139) dX10_ofTree_139 rfl rfl ?_
    refine z_iload_n (x := x1) (pc := 140) dX10_ofTree_140 rfl rfl ?_
    refine z_cVP (As := [.int x1]) (rest := []) hG.1 (m_X10_rankOf hG h2 a x1) (fun _ e => z_gdb e) oX10_rankOf (pc := 141) dX10_ofTree_141 rfl w_1362 rfl rfl rfl (fun t14 => ?_)
    exact z_ireturn (pc := 144) dX10_ofTree_144 rfl rfl rfl
  refine z_bz (fun hs9 => ?_) (fun hs9 => ?_)
  · refine z_tsw (tgt := 145) (off := 135) (pc := 10) dX10_ofTree_10 (by rw [hs9]; decide) (by rw [hs9]; decide) (by rw [hs9]; rfl) (by decide) ?_
    refine z_aload_n (x := a) (pc := 145) dX10_ofTree_145 rfl rfl ?_
    refine z_iload_n (x := x1) (pc := 146) dX10_ofTree_146 rfl rfl ?_
    refine z_cVP (As := [.int x1]) (rest := []) hG.1 (m_X10_generations hG h2 a x1) (fun _ e => z_gdb e) oX10_generations (pc := 147) dX10_ofTree_147 rfl w_1457 rfl rfl rfl (fun t15 => ?_)
    exact z_ireturn (pc := 150) dX10_ofTree_150 rfl rfl rfl
  refine z_bz (fun hs10 => ?_) (fun hs10 => ?_)
  · refine z_tsw (tgt := 151) (off := 141) (pc := 10) dX10_ofTree_10 (by rw [hs10]; decide) (by rw [hs10]; decide) (by rw [hs10]; rfl) (by decide) ?_
    refine z_aload_n (x := a) (pc := 151) dX10_ofTree_151 rfl rfl ?_
    refine z_iload_n (x := x1) (pc := 152) dX10_ofTree_152 rfl rfl ?_
    refine z_iload_n (x := x2) (pc := 153) dX10_ofTree_153 rfl rfl ?_
    refine z_dVI (As := [.int x1, .int x2]) (rest := []) hG.1 (m_X10_couldMove hG h2 a x1 x2) (fun _ e => z_gdb e) oX10_couldMove (pc := 154) dX10_ofTree_154 rfl w_1461 rfl rfl rfl (fun t16 h17 => ?_)
    exact z_ireturn (pc := 157) dX10_ofTree_157 rfl rfl rfl
  refine z_tswO (tgt := 158) (pc := 10) dX10_ofTree_10 (z_out (fun v h1 h2 => by
    have hv : v = 0 ∨ v = 1 ∨ v = 2 ∨ v = 3 ∨ v = 4 ∨ v = 5 ∨ v = 6 ∨ v = 7 ∨ v = 8 ∨ v = 9 ∨ v = 10 := by omega
    rcases hv with rfl | rfl | rfl | rfl | rfl | rfl | rfl | rfl | rfl | rfl | rfl
    · exact hs0
    · exact hs1
    · exact hs2
    · exact hs3
    · exact hs4
    · exact hs5
    · exact hs6
    · exact hs7
    · exact hs8
    · exact hs9
    · exact hs10)) (by decide) ?_
  refine z_bipush (v := (-2)) (pc := 158) dX10_ofTree_158 (by decide) ?_
  exact z_ireturn (pc := 160) dX10_ofTree_160 rfl rfl rfl
set_option maxHeartbeats 2000000 in
set_option maxRecDepth 20000 in
theorem m_X10_tree {G : Z_G} (hG : z_GG G) (h : Z_H) (a : Nat) (x1 : Int32) (x2 : Int32) (x3 : Int32) : z_Met G iX10_tree [.ref a, .int x1, .int x2, .int x3] h ((f_X10_tree h a x1 x2 x3).bind some) := by
  refine z_in (la := [some (.ref a), some (.int x1), some (.int x2), some (.int x3), none, none]) (by decide) rfl rfl rfl ?_
  unfold f_X10_tree
  refine z_gg (fun _ => ?_)
  refine z_aload_n (x := a) (pc := 0) dX10_tree_0 rfl rfl ?_
  refine z_iconst (v := 0) (pc := 1) dX10_tree_1 (by decide) ?_
  refine z_putI cX10 (pc := 2) dX10_tree_2 (j := 0) (by decide) rfl rfl w_1087 (fun h1 => ?_)
  refine z_iload_n (x := x3) (pc := 5) dX10_tree_5 rfl rfl ?_
  refine z_iconst (v := 0) (pc := 6) dX10_tree_6 (by decide) ?_
  refine z_iconst (v := 3) (pc := 7) dX10_tree_7 (by decide) ?_
  refine z_cSP (As := [.int x3, .int 0, .int 3]) (rest := []) hG.1 (m_X10_in hG h1 x3 0 3) oX10_in (pc := 8) dX10_tree_8 rfl w_1179 rfl rfl rfl (fun t2 => ?_)
  refine z_jn 31 (fun (y3 : Int32) => [some (.ref a), some (.int x1), some (.int x2), some (.int x3), none, none]) (fun (y3 : Int32) => [.int y3]) (fun (y3 : Int32) => h1) ?_ ?_
  · rintro y3
    try dsimp only
    refine z_istore (i := 4) (la' := [some (.ref a), some (.int x1), some (.int x2), some (.int x3), some (.int y3), none]) (pc := 31) dX10_tree_31 (by decide) rfl rfl ?_
    refine z_iload (x := y3) (pc := 33) dX10_tree_33 rfl ?_
    refine z_jn 57 (fun (y5 : Int32) => [some (.ref a), some (.int x1), some (.int x2), some (.int x3), none, none]) (fun (y5 : Int32) => [.int y5]) (fun (y5 : Int32) => h1) ?_ ?_
    · rintro y5
      try dsimp only
      refine z_istore (i := 5) (la' := [some (.ref a), some (.int x1), some (.int x2), some (.int x3), none, some (.int y5)]) (pc := 57) dX10_tree_57 (by decide) rfl rfl ?_
      refine z_aload_n (x := a) (pc := 59) dX10_tree_59 rfl rfl ?_
      refine z_iload_n (x := x1) (pc := 60) dX10_tree_60 rfl rfl ?_
      refine z_cVP (As := [.int x1]) (rest := []) hG.1 (m_X10_isSeller hG h1 a x1) (fun _ e => z_gdb e) oX10_isSeller (pc := 61) dX10_tree_61 rfl w_1255 rfl rfl rfl (fun t7 => ?_)
      refine z_if_eq (tgt := 82) (pc := 64) dX10_tree_64 (by decide) (fun _ => ?_) (fun _ => ?_)
      · refine z_bipush (v := (-2)) (pc := 82) dX10_tree_82 (by decide) ?_
        exact z_ireturn (pc := 84) dX10_tree_84 rfl rfl rfl
      refine z_iload_n (x := x2) (pc := 67) dX10_tree_67 rfl rfl ?_
      refine z_aload_n (x := a) (pc := 68) dX10_tree_68 rfl rfl ?_
      refine z_iload_n (x := x1) (pc := 69) dX10_tree_69 rfl rfl ?_
      refine z_iconst (v := 0) (pc := 70) dX10_tree_70 (by decide) ?_
      refine z_cVP (As := [.int x1, .int 0]) (rest := [.int x2]) hG.1 (m_X10_ofSeller hG h1 a x1 0) (fun _ e => z_gdb e) oX10_ofSeller (pc := 71) dX10_tree_71 rfl w_1263 rfl rfl rfl (fun t8 => ?_)
      refine z_iload (x := y5) (pc := 74) dX10_tree_74 rfl ?_
      refine z_cSP (As := [.int x2, .int t8, .int y5]) (rest := []) hG.1 (m_X10_in hG h1 x2 t8 y5) oX10_in (pc := 76) dX10_tree_76 rfl w_1179 rfl rfl rfl (fun t9 => ?_)
      refine z_if_ne (tgt := 85) (pc := 79) dX10_tree_79 (by decide) (fun _ => ?_) (fun _ => ?_)
      · refine z_aload_n (x := a) (pc := 85) dX10_tree_85 rfl rfl ?_
        refine z_iload_n (x := x1) (pc := 86) dX10_tree_86 rfl rfl ?_
        refine z_iload_n (x := x2) (pc := 87) dX10_tree_87 rfl rfl ?_
        refine z_iload_n (x := x3) (pc := 88) dX10_tree_88 rfl rfl ?_
        refine z_dVI (As := [.int x1, .int x2, .int x3]) (rest := []) hG.1 (m_X10_ofTree hG h1 a x1 x2 x3) (fun _ e => z_gdb e) oX10_ofTree (pc := 89) dX10_tree_89 rfl w_1449 rfl rfl rfl (fun t10 h11 => ?_)
        exact z_ireturn (pc := 92) dX10_tree_92 rfl rfl rfl
      refine z_bipush (v := (-2)) (pc := 82) dX10_tree_82 (by decide) ?_
      exact z_ireturn (pc := 84) dX10_tree_84 rfl rfl rfl
    intro j6 hj6
    refine z_if_eq (tgt := 53) (pc := 35) dX10_tree_35 (by decide) (fun _ => ?_) (fun _ => ?_)
    · refine z_aload_n (x := a) (pc := 53) dX10_tree_53 rfl rfl ?_
      refine z_cVP (As := []) (rest := []) hG.1 (m_X10_now hG h1 a) (fun _ e => z_gdb e) oX10_now (pc := 54) dX10_tree_54 rfl w_1247 rfl rfl rfl (fun t12 => ?_)
      exact z_wk (hj6 t12) (And.intro rfl (And.intro rfl (And.intro rfl (And.intro rfl trivial))))
    refine z_bipush (v := 99) (pc := 38) dX10_tree_38 (by decide) ?_
    refine z_aload_n (x := a) (pc := 40) dX10_tree_40 rfl rfl ?_
    refine z_cVP (As := []) (rest := [.int 99]) hG.1 (m_X10_now hG h1 a) (fun _ e => z_gdb e) oX10_now (pc := 41) dX10_tree_41 rfl w_1247 rfl rfl rfl (fun t13 => ?_)
    refine z_bipush (v := 6) (pc := 44) dX10_tree_44 (by decide) ?_
    refine z_iadd (pc := 46) dX10_tree_46 ?_
    refine z_cSP (As := [.int 99, .int (t13 + 6)]) (rest := []) hG.1 (m_X10_lesser hG h1 99 (t13 + 6)) oX10_lesser (pc := 47) dX10_tree_47 rfl w_1230 rfl rfl rfl (fun t14 => ?_)
    refine z_goto (tgt := 57) (pc := 50) dX10_tree_50 (by decide) ?_
    exact z_wk (hj6 t14) (And.intro rfl (And.intro rfl (And.intro rfl (And.intro rfl trivial))))
  intro j4 hj4
  refine z_jn 26 (fun (_ : Unit) => [some (.ref a), some (.int x1), some (.int x2), some (.int x3), none, none]) (fun (_ : Unit) => []) (fun (_ : Unit) => h1) ?_ ?_
  · rintro _
    try dsimp only
    refine z_iconst (v := 1) (pc := 26) dX10_tree_26 (by decide) ?_
    refine z_goto (tgt := 31) (pc := 27) dX10_tree_27 (by decide) ?_
    exact hj4 1
  intro j15 hj15
  refine z_if_ne (tgt := 26) (pc := 11) dX10_tree_11 (by decide) (fun _ => ?_) (fun _ => ?_)
  · exact hj15 ()
  refine z_iload_n (x := x3) (pc := 14) dX10_tree_14 rfl rfl ?_
  refine z_bipush (v := 9) (pc := 15) dX10_tree_15 (by decide) ?_
  refine z_ic_eq (tgt := 26) (pc := 17) dX10_tree_17 (by decide) (fun _ => ?_) (fun _ => ?_)
  · exact hj15 ()
  refine z_iload_n (x := x3) (pc := 20) dX10_tree_20 rfl rfl ?_
  refine z_bipush (v := 10) (pc := 21) dX10_tree_21 (by decide) ?_
  refine z_ic_ne (tgt := 30) (pc := 23) dX10_tree_23 (by decide) (fun _ => ?_) (fun _ => ?_)
  · refine z_iconst (v := 0) (pc := 30) dX10_tree_30 (by decide) ?_
    exact hj4 0
  exact hj15 ()
set_option maxHeartbeats 2000000 in
set_option maxRecDepth 20000 in
theorem m_X9_moved {G : Z_G} (hG : z_GG G) (h : Z_H) (a : Nat) (x1 : Int32) (x2 : Int32) (x3 : Int32) : z_Met G iX9_moved [.ref a, .int x1, .int x2, .int x3] h ((f_X9_moved h a x1 x2 x3).bind fun r => some (r, h)) := by
  refine z_in (la := [some (.ref a), some (.int x1), some (.int x2), some (.int x3), none]) (by decide) rfl rfl rfl ?_
  unfold f_X9_moved
  refine z_gg (fun _ => ?_)
  refine z_aload_n (x := a) (pc := 0) dX9_moved_0 rfl rfl ?_
  refine z_getR cX9 (pc := 1) dX9_moved_1 (j := 0) (by decide) rfl w_403 (fun r1 => ?_)
  refine z_getR cX7 (pc := 4) dX9_moved_4 (j := 2) (by decide) rfl w_247 (fun r2 => ?_)
  refine z_astore (i := 4) (la' := [some (.ref a), some (.int x1), some (.int x2), some (.int x3), some (.ref r2)]) (pc := 7) dX9_moved_7 (by decide) rfl rfl ?_
  refine z_aload (x := r2) (pc := 9) dX9_moved_9 rfl ?_
  refine z_iload_n (x := x1) (pc := 11) dX9_moved_11 rfl rfl ?_
  refine z_cVP (As := [.int x1]) (rest := []) hG.1 (m_X0_has hG h r2 x1) (fun _ e => z_gdb e) oX0_has (pc := 12) dX9_moved_12 rfl w_643 rfl rfl rfl (fun t3 => ?_)
  refine z_if_eq (tgt := 33) (pc := 15) dX9_moved_15 (by decide) (fun _ => ?_) (fun _ => ?_)
  · refine z_bipush (v := (-2)) (pc := 33) dX9_moved_33 (by decide) ?_
    exact z_ireturn (pc := 35) dX9_moved_35 rfl rfl rfl
  refine z_iload_n (x := x2) (pc := 18) dX9_moved_18 rfl rfl ?_
  refine z_if_lt (tgt := 33) (pc := 19) dX9_moved_19 (by decide) (fun _ => ?_) (fun _ => ?_)
  · refine z_bipush (v := (-2)) (pc := 33) dX9_moved_33 (by decide) ?_
    exact z_ireturn (pc := 35) dX9_moved_35 rfl rfl rfl
  refine z_iload_n (x := x2) (pc := 22) dX9_moved_22 rfl rfl ?_
  refine z_aload (x := r2) (pc := 23) dX9_moved_23 rfl ?_
  refine z_getR cX0 (pc := 25) dX9_moved_25 (j := 4) (by decide) rfl w_154 (fun r4 => ?_)
  refine z_iload_n (x := x1) (pc := 28) dX9_moved_28 rfl rfl ?_
  refine z_aldI (pc := 29) dX9_moved_29 (fun t5 => ?_)
  refine z_ic_lt (tgt := 36) (pc := 30) dX9_moved_30 (by decide) (fun _ => ?_) (fun _ => ?_)
  · refine z_iload_n (x := x3) (pc := 36) dX9_moved_36 rfl rfl ?_
    refine z_bz (fun hs0 => ?_) (fun hs0 => ?_)
    · refine z_lsw (tgt := 64) (off := 27) (pc := 37) dX9_moved_37 rfl (by rw [hs0]; rfl) (by decide) ?_
      refine z_aload (x := r2) (pc := 64) dX9_moved_64 rfl ?_
      refine z_getR cX0 (pc := 66) dX9_moved_66 (j := 5) (by decide) rfl w_156 (fun r6 => ?_)
      refine z_iload_n (x := x1) (pc := 69) dX9_moved_69 rfl rfl ?_
      refine z_bipush (v := 12) (pc := 70) dX9_moved_70 (by decide) ?_
      refine z_imul (pc := 72) dX9_moved_72 ?_
      refine z_iload_n (x := x2) (pc := 73) dX9_moved_73 rfl rfl ?_
      refine z_iadd (pc := 74) dX9_moved_74 ?_
      refine z_aldI (pc := 75) dX9_moved_75 (fun t7 => ?_)
      exact z_ireturn (pc := 76) dX9_moved_76 rfl rfl rfl
    refine z_bz (fun hs1 => ?_) (fun hs1 => ?_)
    · refine z_lsw (tgt := 77) (off := 40) (pc := 37) dX9_moved_37 rfl (by rw [hs1]; rfl) (by decide) ?_
      refine z_aload (x := r2) (pc := 77) dX9_moved_77 rfl ?_
      refine z_getR cX0 (pc := 79) dX9_moved_79 (j := 6) (by decide) rfl w_158 (fun r8 => ?_)
      refine z_iload_n (x := x1) (pc := 82) dX9_moved_82 rfl rfl ?_
      refine z_bipush (v := 12) (pc := 83) dX9_moved_83 (by decide) ?_
      refine z_imul (pc := 85) dX9_moved_85 ?_
      refine z_iload_n (x := x2) (pc := 86) dX9_moved_86 rfl rfl ?_
      refine z_iadd (pc := 87) dX9_moved_87 ?_
      refine z_aldI (pc := 88) dX9_moved_88 (fun t9 => ?_)
      exact z_ireturn (pc := 89) dX9_moved_89 rfl rfl rfl
    refine z_lsw (tgt := 90) (off := 53) (pc := 37) dX9_moved_37 rfl ((lv_osw hs0 (by decide)).trans ((lv_osw hs1 (by decide)).trans rfl)) (by decide) ?_
    refine z_bipush (v := (-2)) (pc := 90) dX9_moved_90 (by decide) ?_
    exact z_ireturn (pc := 92) dX9_moved_92 rfl rfl rfl
  refine z_bipush (v := (-2)) (pc := 33) dX9_moved_33 (by decide) ?_
  exact z_ireturn (pc := 35) dX9_moved_35 rfl rfl rfl
set_option maxHeartbeats 2000000 in
set_option maxRecDepth 20000 in
theorem m_X10_moved {G : Z_G} (hG : z_GG G) (h : Z_H) (a : Nat) (x1 : Int32) (x2 : Int32) (x3 : Int32) : z_Met G iX10_moved [.ref a, .int x1, .int x2, .int x3] h ((f_X10_moved h a x1 x2 x3).bind some) := by
  refine z_in (la := [some (.ref a), some (.int x1), some (.int x2), some (.int x3), none, none, none]) (by decide) rfl rfl rfl ?_
  unfold f_X10_moved
  refine z_gg (fun _ => ?_)
  refine z_aload_n (x := a) (pc := 0) dX10_moved_0 rfl rfl ?_
  refine z_iconst (v := 0) (pc := 1) dX10_moved_1 (by decide) ?_
  refine z_putI cX10 (pc := 2) dX10_moved_2 (j := 0) (by decide) rfl rfl w_1087 (fun h1 => ?_)
  refine z_aload_n (x := a) (pc := 5) dX10_moved_5 rfl rfl ?_
  refine z_iload_n (x := x1) (pc := 6) dX10_moved_6 rfl rfl ?_
  refine z_cVP (As := [.int x1]) (rest := []) hG.1 (m_X10_isSeller hG h1 a x1) (fun _ e => z_gdb e) oX10_isSeller (pc := 7) dX10_moved_7 rfl w_1255 rfl rfl rfl (fun t2 => ?_)
  refine z_if_eq (tgt := 38) (pc := 10) dX10_moved_10 (by decide) (fun _ => ?_) (fun _ => ?_)
  · refine z_bipush (v := (-2)) (pc := 38) dX10_moved_38 (by decide) ?_
    exact z_ireturn (pc := 40) dX10_moved_40 rfl rfl rfl
  refine z_iload_n (x := x2) (pc := 13) dX10_moved_13 rfl rfl ?_
  refine z_iconst (v := 0) (pc := 14) dX10_moved_14 (by decide) ?_
  refine z_aload_n (x := a) (pc := 15) dX10_moved_15 rfl rfl ?_
  refine z_iload_n (x := x1) (pc := 16) dX10_moved_16 rfl rfl ?_
  refine z_iconst (v := 4) (pc := 17) dX10_moved_17 (by decide) ?_
  refine z_cVP (As := [.int x1, .int 4]) (rest := [.int 0, .int x2]) hG.1 (m_X10_ofSeller hG h1 a x1 4) (fun _ e => z_gdb e) oX10_ofSeller (pc := 18) dX10_moved_18 rfl w_1263 rfl rfl rfl (fun t3 => ?_)
  refine z_iconst (v := 1) (pc := 21) dX10_moved_21 (by decide) ?_
  refine z_isub (pc := 22) dX10_moved_22 ?_
  refine z_cSP (As := [.int x2, .int 0, .int (t3 - 1)]) (rest := []) hG.1 (m_X10_in hG h1 x2 0 (t3 - 1)) oX10_in (pc := 23) dX10_moved_23 rfl w_1179 rfl rfl rfl (fun t4 => ?_)
  refine z_if_eq (tgt := 38) (pc := 26) dX10_moved_26 (by decide) (fun _ => ?_) (fun _ => ?_)
  · refine z_bipush (v := (-2)) (pc := 38) dX10_moved_38 (by decide) ?_
    exact z_ireturn (pc := 40) dX10_moved_40 rfl rfl rfl
  refine z_iload_n (x := x3) (pc := 29) dX10_moved_29 rfl rfl ?_
  refine z_iconst (v := 0) (pc := 30) dX10_moved_30 (by decide) ?_
  refine z_iconst (v := 1) (pc := 31) dX10_moved_31 (by decide) ?_
  refine z_cSP (As := [.int x3, .int 0, .int 1]) (rest := []) hG.1 (m_X10_in hG h1 x3 0 1) oX10_in (pc := 32) dX10_moved_32 rfl w_1179 rfl rfl rfl (fun t5 => ?_)
  refine z_if_ne (tgt := 41) (pc := 35) dX10_moved_35 (by decide) (fun _ => ?_) (fun _ => ?_)
  · refine z_iconst (v := 0) (pc := 41) dX10_moved_41 (by decide) ?_
    refine z_istore (i := 4) (la' := [some (.ref a), some (.int x1), some (.int x2), some (.int x3), some (.int 0), none, none]) (pc := 42) dX10_moved_42 (by decide) rfl rfl ?_
    refine z_lp (T := (Int32) ⊕ (Unit)) (s0 := 0) 44 (fun (v6 : Int32) => [some (.ref a), some (.int x1), some (.int x2), some (.int x3), some (.int v6), none, none]) (fun (v6 : Int32) => h1) (fun t => match t with | (.inl v7) => 115 | (.inr _) => 140) (fun t => match t with | (.inl v7) => [some (.ref a), some (.int x1), none, some (.int x3), some (.int v7), none, none] | (.inr _) => [none, none, none, none, none, none, none]) (fun t => match t with | (.inl v7) => h1 | (.inr _) => h1) ?_ ?_
    · rintro (v7 | _)
      · try dsimp only
        refine z_aload_n (x := a) (pc := 115) dX10_moved_115 rfl rfl ?_
        refine z_iload_n (x := x1) (pc := 116) dX10_moved_116 rfl rfl ?_
        refine z_iload_n (x := x3) (pc := 117) dX10_moved_117 rfl rfl ?_
        refine z_jn 127 (fun (y20 : Int32) => [none, none, none, none, some (.int v7), none, none]) (fun (y20 : Int32) => [.int y20, .int x1, .ref a]) (fun (y20 : Int32) => h1) ?_ ?_
        · rintro y20
          try dsimp only
          refine z_iload (x := v7) (pc := 127) dX10_moved_127 rfl ?_
          refine z_iadd (pc := 129) dX10_moved_129 ?_
          refine z_cVP (As := [.int x1, .int (y20 + v7)]) (rest := []) hG.1 (m_X10_ofSeller hG h1 a x1 (y20 + v7)) (fun _ e => z_gdb e) oX10_ofSeller (pc := 130) dX10_moved_130 rfl w_1263 rfl rfl rfl (fun t22 => ?_)
          exact z_ireturn (pc := 133) dX10_moved_133 rfl rfl rfl
        intro j21 hj21
        refine z_if_ne (tgt := 125) (pc := 118) dX10_moved_118 (by decide) (fun _ => ?_) (fun _ => ?_)
        · refine z_bipush (v := 17) (pc := 125) dX10_moved_125 (by decide) ?_
          exact z_wk (hj21 17) (And.intro rfl trivial)
        refine z_iconst (v := 5) (pc := 121) dX10_moved_121 (by decide) ?_
        refine z_goto (tgt := 127) (pc := 122) dX10_moved_122 (by decide) ?_
        exact z_wk (hj21 5) (And.intro rfl trivial)
      · try dsimp only
        refine z_bipush (v := (-2)) (pc := 140) dX10_moved_140 (by decide) ?_
        exact z_ireturn (pc := 142) dX10_moved_142 rfl rfl rfl
    intro k' hx1 rec8 hrec8
    rintro v6
    unfold f_X10_moved_l1
    try dsimp only [lt]
    refine z_iload (x := v6) (pc := 44) dX10_moved_44 rfl ?_
    refine z_aload_n (x := a) (pc := 46) dX10_moved_46 rfl rfl ?_
    refine z_iload_n (x := x1) (pc := 47) dX10_moved_47 rfl rfl ?_
    refine z_iconst (v := 4) (pc := 48) dX10_moved_48 (by decide) ?_
    refine z_cVP (As := [.int x1, .int 4]) (rest := [.int v6]) hG.1 (m_X10_ofSeller hG h1 a x1 4) (fun _ e => z_gdb e) oX10_ofSeller (pc := 49) dX10_moved_49 rfl w_1263 rfl rfl rfl (fun t9 => ?_)
    refine z_ic_ge (tgt := 140) (pc := 52) dX10_moved_52 (by decide) (fun _ => ?_) (fun _ => ?_)
    · exact z_wk (hx1 (.inr ())) trivial
    refine z_iconst (v := 0) (pc := 55) dX10_moved_55 (by decide) ?_
    refine z_istore (i := 5) (la' := [some (.ref a), some (.int x1), some (.int x2), some (.int x3), some (.int v6), some (.int 0), none]) (pc := 56) dX10_moved_56 (by decide) rfl rfl ?_
    refine z_iconst (v := 0) (pc := 58) dX10_moved_58 (by decide) ?_
    refine z_istore (i := 6) (la' := [some (.ref a), some (.int x1), some (.int x2), some (.int x3), some (.int v6), some (.int 0), some (.int 0)]) (pc := 59) dX10_moved_59 (by decide) rfl rfl ?_
    refine z_lp (T := Int32) (s0 := (0, 0)) 61 (fun ((v10, v11) : Int32 × Int32) => [some (.ref a), some (.int x1), some (.int x2), some (.int x3), some (.int v6), some (.int v10), some (.int v11)]) (fun ((v10, v11) : Int32 × Int32) => h1) (fun _ => 109) (fun (v12 : Int32) => [some (.ref a), some (.int x1), some (.int x2), some (.int x3), some (.int v6), some (.int v12), none]) (fun (v12 : Int32) => h1) ?_ ?_
    · rintro v12
      try dsimp only
      refine z_iload (x := v12) (pc := 109) dX10_moved_109 rfl ?_
      refine z_iload_n (x := x2) (pc := 111) dX10_moved_111 rfl rfl ?_
      refine z_ic_ne (tgt := 134) (pc := 112) dX10_moved_112 (by decide) (fun _ => ?_) (fun _ => ?_)
      · refine z_iinc (i := 4) (x := v6) (v := (v6 + 1)) (la' := [some (.ref a), some (.int x1), some (.int x2), some (.int x3), some (.int (v6 + 1)), some (.int v12), none]) (pc := 134) dX10_moved_134 rfl rfl (by decide) rfl rfl ?_
        refine z_goto (tgt := 44) (pc := 137) dX10_moved_137 (by decide) ?_
        exact z_wk (hrec8 (v6 + 1)) (And.intro rfl (And.intro rfl (And.intro rfl (And.intro rfl (And.intro rfl trivial)))))
      exact z_wk (hx1 (.inl v6)) (And.intro rfl (And.intro rfl (And.intro rfl (And.intro rfl trivial))))
    intro k' hx2 rec13 hrec13
    rintro ⟨v10, v11⟩
    unfold f_X10_moved_l2
    try dsimp only
    refine z_iload (x := v11) (pc := 61) dX10_moved_61 rfl ?_
    refine z_aload_n (x := a) (pc := 63) dX10_moved_63 rfl rfl ?_
    refine z_iload_n (x := x1) (pc := 64) dX10_moved_64 rfl rfl ?_
    refine z_iconst (v := 4) (pc := 65) dX10_moved_65 (by decide) ?_
    refine z_cVP (As := [.int x1, .int 4]) (rest := [.int v11]) hG.1 (m_X10_ofSeller hG h1 a x1 4) (fun _ e => z_gdb e) oX10_ofSeller (pc := 66) dX10_moved_66 rfl w_1263 rfl rfl rfl (fun t14 => ?_)
    refine z_ic_ge (tgt := 109) (pc := 69) dX10_moved_69 (by decide) (fun _ => ?_) (fun _ => ?_)
    · exact z_wk (hx2 v10) (And.intro rfl (And.intro rfl (And.intro rfl (And.intro rfl (And.intro rfl (And.intro rfl trivial))))))
    refine z_iload (x := v10) (pc := 72) dX10_moved_72 rfl ?_
    refine z_aload_n (x := a) (pc := 74) dX10_moved_74 rfl rfl ?_
    refine z_iload_n (x := x1) (pc := 75) dX10_moved_75 rfl rfl ?_
    refine z_iconst (v := 5) (pc := 76) dX10_moved_76 (by decide) ?_
    refine z_iload (x := v11) (pc := 77) dX10_moved_77 rfl ?_
    refine z_iadd (pc := 79) dX10_moved_79 ?_
    refine z_cVP (As := [.int x1, .int ((5 : Int32) + v11)]) (rest := [.int v10]) hG.1 (m_X10_ofSeller hG h1 a x1 ((5 : Int32) + v11)) (fun _ e => z_gdb e) oX10_ofSeller (pc := 80) dX10_moved_80 rfl w_1263 rfl rfl rfl (fun t15 => ?_)
    refine z_aload_n (x := a) (pc := 83) dX10_moved_83 rfl rfl ?_
    refine z_iload_n (x := x1) (pc := 84) dX10_moved_84 rfl rfl ?_
    refine z_iconst (v := 5) (pc := 85) dX10_moved_85 (by decide) ?_
    refine z_iload (x := v6) (pc := 86) dX10_moved_86 rfl ?_
    refine z_iadd (pc := 88) dX10_moved_88 ?_
    refine z_cVP (As := [.int x1, .int ((5 : Int32) + v6)]) (rest := [.int t15, .int v10]) hG.1 (m_X10_ofSeller hG h1 a x1 ((5 : Int32) + v6)) (fun _ e => z_gdb e) oX10_ofSeller (pc := 89) dX10_moved_89 rfl w_1263 rfl rfl rfl (fun t16 => ?_)
    refine z_jn 100 (fun (y17 : Int32) => [some (.ref a), some (.int x1), some (.int x2), some (.int x3), some (.int v6), none, some (.int v11)]) (fun (y17 : Int32) => [.int y17, .int v10]) (fun (y17 : Int32) => h1) ?_ ?_
    · rintro y17
      try dsimp only
      refine z_iadd (pc := 100) dX10_moved_100 ?_
      refine z_nm (fun v19 => ?_)
      refine z_istore (i := 5) (la' := [some (.ref a), some (.int x1), some (.int x2), some (.int x3), some (.int v6), some (.int v19), some (.int v11)]) (pc := 101) dX10_moved_101 (by decide) rfl rfl ?_
      refine z_iinc (i := 6) (x := v11) (v := (v11 + 1)) (la' := [some (.ref a), some (.int x1), some (.int x2), some (.int x3), some (.int v6), some (.int v19), some (.int (v11 + 1))]) (pc := 103) dX10_moved_103 rfl rfl (by decide) rfl rfl ?_
      refine z_goto (tgt := 61) (pc := 106) dX10_moved_106 (by decide) ?_
      exact hrec13 (v19, (v11 + 1))
    intro j18 hj18
    refine z_ic_ge (tgt := 99) (pc := 92) dX10_moved_92 (by decide) (fun _ => ?_) (fun _ => ?_)
    · refine z_iconst (v := 0) (pc := 99) dX10_moved_99 (by decide) ?_
      exact z_wk (hj18 0) (And.intro rfl (And.intro rfl (And.intro rfl (And.intro rfl (And.intro rfl (And.intro rfl trivial))))))
    refine z_iconst (v := 1) (pc := 95) dX10_moved_95 (by decide) ?_
    refine z_goto (tgt := 100) (pc := 96) dX10_moved_96 (by decide) ?_
    exact z_wk (hj18 1) (And.intro rfl (And.intro rfl (And.intro rfl (And.intro rfl (And.intro rfl (And.intro rfl trivial))))))
  refine z_bipush (v := (-2)) (pc := 38) dX10_moved_38 (by decide) ?_
  exact z_ireturn (pc := 40) dX10_moved_40 rfl rfl rfl
set_option maxHeartbeats 2000000 in
set_option maxRecDepth 20000 in
theorem m_X9_why {G : Z_G} (hG : z_GG G) (h : Z_H) (a : Nat) (x1 : Int32) (x2 : Int32) (x3 : Int32) : z_Met G iX9_why [.ref a, .int x1, .int x2, .int x3] h ((f_X9_why h a x1 x2 x3).bind fun r => some (r, h)) := by
  refine z_in (la := [some (.ref a), some (.int x1), some (.int x2), some (.int x3)]) (by decide) rfl rfl rfl ?_
  unfold f_X9_why
  refine z_gg (fun _ => ?_)
  refine z_aload_n (x := a) (pc := 0) dX9_why_0 rfl rfl ?_
  refine z_iload_n (x := x1) (pc := 1) dX9_why_1 rfl rfl ?_
  refine z_iload_n (x := x2) (pc := 2) dX9_why_2 rfl rfl ?_
  refine z_iload_n (x := x3) (pc := 3) dX9_why_3 rfl rfl ?_
  refine z_cVP (As := [.int x1, .int x2, .int x3]) (rest := []) hG.1 (m_X9_reasonAgainst hG h a x1 x2 x3) (fun _ e => z_gdb e) oX9_reasonAgainst (pc := 4) dX9_why_4 rfl w_639 rfl rfl rfl (fun t1 => ?_)
  exact z_ireturn (pc := 7) dX9_why_7 rfl rfl rfl
set_option maxHeartbeats 2000000 in
set_option maxRecDepth 20000 in
theorem m_X10_why {G : Z_G} (hG : z_GG G) (h : Z_H) (a : Nat) (x1 : Int32) (x2 : Int32) (x3 : Int32) : z_Met G iX10_why [.ref a, .int x1, .int x2, .int x3] h ((f_X10_why h a x1 x2 x3).bind some) := by
  refine z_in (la := [some (.ref a), some (.int x1), some (.int x2), some (.int x3)]) (by decide) rfl rfl rfl ?_
  unfold f_X10_why
  refine z_gg (fun _ => ?_)
  refine z_aload_n (x := a) (pc := 0) dX10_why_0 rfl rfl ?_
  refine z_iconst (v := 0) (pc := 1) dX10_why_1 (by decide) ?_
  refine z_putI cX10 (pc := 2) dX10_why_2 (j := 0) (by decide) rfl rfl w_1087 (fun h1 => ?_)
  refine z_aload_n (x := a) (pc := 5) dX10_why_5 rfl rfl ?_
  refine z_iload_n (x := x1) (pc := 6) dX10_why_6 rfl rfl ?_
  refine z_iload_n (x := x2) (pc := 7) dX10_why_7 rfl rfl ?_
  refine z_iload_n (x := x3) (pc := 8) dX10_why_8 rfl rfl ?_
  refine z_dVI (As := [.int x1, .int x2, .int x3]) (rest := []) hG.1 (m_X10_reason hG h1 a x1 x2 x3) (fun _ e => z_gdb e) oX10_reason (pc := 9) dX10_why_9 rfl w_1271 rfl rfl rfl (fun t2 h3 => ?_)
  exact z_ireturn (pc := 12) dX10_why_12 rfl rfl rfl
set_option maxHeartbeats 2000000 in
set_option maxRecDepth 20000 in
theorem m_X9_common {G : Z_G} (hG : z_GG G) (h : Z_H) (a : Nat) (x1 : Int32) (x2 : Int32) (x3 : Int32) : z_Met G iX9_common [.ref a, .int x1, .int x2, .int x3] h ((f_X9_common h a x1 x2 x3).bind some) := by
  refine z_in (la := [some (.ref a), some (.int x1), some (.int x2), some (.int x3), none, none, none]) (by decide) rfl rfl rfl ?_
  unfold f_X9_common
  refine z_gg (fun _ => ?_)
  refine z_aload_n (x := a) (pc := 0) dX9_common_0 rfl rfl ?_
  refine z_getR cX9 (pc := 1) dX9_common_1 (j := 0) (by decide) rfl w_403 (fun r1 => ?_)
  refine z_getR cX7 (pc := 4) dX9_common_4 (j := 2) (by decide) rfl w_247 (fun r2 => ?_)
  refine z_astore (i := 4) (la' := [some (.ref a), some (.int x1), some (.int x2), some (.int x3), some (.ref r2), none, none]) (pc := 7) dX9_common_7 (by decide) rfl rfl ?_
  refine z_aload (x := r2) (pc := 9) dX9_common_9 rfl ?_
  refine z_iload_n (x := x1) (pc := 11) dX9_common_11 rfl rfl ?_
  refine z_cVP (As := [.int x1]) (rest := []) hG.1 (m_X0_has hG h r2 x1) (fun _ e => z_gdb e) oX0_has (pc := 12) dX9_common_12 rfl w_643 rfl rfl rfl (fun t3 => ?_)
  refine z_if_eq (tgt := 35) (pc := 15) dX9_common_15 (by decide) (fun _ => ?_) (fun _ => ?_)
  · refine z_iconst (v := (-1)) (pc := 35) dX9_common_35 (by decide) ?_
    exact z_ireturn (pc := 36) dX9_common_36 rfl rfl rfl
  refine z_aload (x := r2) (pc := 18) dX9_common_18 rfl ?_
  refine z_iload_n (x := x2) (pc := 20) dX9_common_20 rfl rfl ?_
  refine z_cVP (As := [.int x2]) (rest := []) hG.1 (m_X0_has hG h r2 x2) (fun _ e => z_gdb e) oX0_has (pc := 21) dX9_common_21 rfl w_643 rfl rfl rfl (fun t4 => ?_)
  refine z_if_eq (tgt := 35) (pc := 24) dX9_common_24 (by decide) (fun _ => ?_) (fun _ => ?_)
  · refine z_iconst (v := (-1)) (pc := 35) dX9_common_35 (by decide) ?_
    exact z_ireturn (pc := 36) dX9_common_36 rfl rfl rfl
  refine z_iload_n (x := x3) (pc := 27) dX9_common_27 rfl rfl ?_
  refine z_aload_n (x := a) (pc := 28) dX9_common_28 rfl rfl ?_
  refine z_cVP (As := []) (rest := [.int x3]) hG.1 (m_X9_lastTreeMonth hG h a) (fun _ e => z_gdb e) oX9_lastTreeMonth (pc := 29) dX9_common_29 rfl w_644 rfl rfl rfl (fun t5 => ?_)
  refine z_ic_le (tgt := 37) (pc := 32) dX9_common_32 (by decide) (fun _ => ?_) (fun _ => ?_)
  · refine z_iload_n (x := x3) (pc := 37) dX9_common_37 rfl rfl ?_
    refine z_aload (x := r2) (pc := 38) dX9_common_38 rfl ?_
    refine z_getR cX0 (pc := 40) dX9_common_40 (j := 1) (by decide) rfl w_145 (fun r6 => ?_)
    refine z_iload_n (x := x1) (pc := 43) dX9_common_43 rfl rfl ?_
    refine z_aldI (pc := 44) dX9_common_44 (fun t7 => ?_)
    refine z_ic_lt (tgt := 59) (pc := 45) dX9_common_45 (by decide) (fun _ => ?_) (fun _ => ?_)
    · refine z_iconst (v := (-1)) (pc := 59) dX9_common_59 (by decide) ?_
      exact z_ireturn (pc := 60) dX9_common_60 rfl rfl rfl
    refine z_iload_n (x := x3) (pc := 48) dX9_common_48 rfl rfl ?_
    refine z_aload (x := r2) (pc := 49) dX9_common_49 rfl ?_
    refine z_getR cX0 (pc := 51) dX9_common_51 (j := 1) (by decide) rfl w_145 (fun r8 => ?_)
    refine z_iload_n (x := x2) (pc := 54) dX9_common_54 rfl rfl ?_
    refine z_aldI (pc := 55) dX9_common_55 (fun t9 => ?_)
    refine z_ic_ge (tgt := 61) (pc := 56) dX9_common_56 (by decide) (fun _ => ?_) (fun _ => ?_)
    · refine z_aload_n (x := a) (pc := 61) dX9_common_61 rfl rfl ?_
      refine z_getR cX9 (pc := 62) dX9_common_62 (j := 3) (by decide) rfl w_406 (fun r10 => ?_)
      refine z_aload_n (x := a) (pc := 65) dX9_common_65 rfl rfl ?_
      refine z_getR cX9 (pc := 66) dX9_common_66 (j := 0) (by decide) rfl w_403 (fun r11 => ?_)
      refine z_iload_n (x := x3) (pc := 69) dX9_common_69 rfl rfl ?_
      refine z_cVV (As := [.ref r11, .int x3]) (rest := []) hG.1 (m_X6_look hG h r10 r11 x3) (fun _ e => z_gdb e) oX6_look (pc := 70) dX9_common_70 rfl w_721 rfl rfl rfl (fun h12 => ?_)
      refine z_iload_n (x := x1) (pc := 73) dX9_common_73 rfl rfl ?_
      refine z_istore (i := 5) (la' := [some (.ref a), some (.int x1), some (.int x2), some (.int x3), some (.ref r2), some (.int x1), none]) (pc := 74) dX9_common_74 (by decide) rfl rfl ?_
      refine z_iconst (v := 0) (pc := 76) dX9_common_76 (by decide) ?_
      refine z_istore (i := 6) (la' := [some (.ref a), some (.int x1), some (.int x2), some (.int x3), some (.ref r2), some (.int x1), some (.int 0)]) (pc := 77) dX9_common_77 (by decide) rfl rfl ?_
      refine z_weak (la' := [some (.ref a), none, some (.int x2), none, none, some (.int x1), some (.int 0)]) (And.intro rfl (And.intro rfl (And.intro rfl (And.intro rfl trivial)))) ?_
      refine z_lp (T := (Int32) ⊕ (Unit)) (s0 := (x1, 0)) 79 (fun ((v13, v14) : Int32 × Int32) => [some (.ref a), none, some (.int x2), none, none, some (.int v13), some (.int v14)]) (fun ((v13, v14) : Int32 × Int32) => h12) (fun t => match t with | (.inl v15) => 110 | (.inr _) => 131) (fun t => match t with | (.inl v15) => [none, none, none, none, none, some (.int v15), none] | (.inr _) => [none, none, none, none, none, none, none]) (fun t => match t with | (.inl v15) => h12 | (.inr _) => h12) ?_ ?_
      · rintro (v15 | _)
        · try dsimp only
          refine z_iload (x := v15) (pc := 110) dX9_common_110 rfl ?_
          exact z_ireturn (pc := 112) dX9_common_112 rfl rfl rfl
        · try dsimp only
          refine z_iconst (v := (-1)) (pc := 131) dX9_common_131 (by decide) ?_
          exact z_ireturn (pc := 132) dX9_common_132 rfl rfl rfl
      intro k' hx1 rec16 hrec16
      rintro ⟨v13, v14⟩
      unfold f_X9_common_l1
      try dsimp only
      refine z_iload (x := v14) (pc := 79) dX9_common_79 rfl ?_
      refine z_bipush (v := 10) (pc := 81) dX9_common_81 (by decide) ?_
      refine z_ic_ge (tgt := 131) (pc := 83) dX9_common_83 (by decide) (fun _ => ?_) (fun _ => ?_)
      · exact z_wk (hx1 (.inr ())) trivial
      refine z_iload (x := v13) (pc := 86) dX9_common_86 rfl ?_
      refine z_iconst (v := (-1)) (pc := 88) dX9_common_88 (by decide) ?_
      refine z_ic_eq (tgt := 131) (pc := 89) dX9_common_89 (by decide) (fun _ => ?_) (fun _ => ?_)
      · exact z_wk (hx1 (.inr ())) trivial
      refine z_aload_n (x := a) (pc := 92) dX9_common_92 rfl rfl ?_
      refine z_getR cX9 (pc := 93) dX9_common_93 (j := 3) (by decide) rfl w_406 (fun r17 => ?_)
      refine z_getR cX6 (pc := 96) dX9_common_96 (j := 4) (by decide) rfl w_343 (fun r18 => ?_)
      refine z_iload (x := v13) (pc := 99) dX9_common_99 rfl ?_
      refine z_aldI (pc := 101) dX9_common_101 (fun t19 => ?_)
      refine z_iload_n (x := x2) (pc := 102) dX9_common_102 rfl rfl ?_
      refine z_ishr (pc := 103) dX9_common_103 ?_
      refine z_iconst (v := 1) (pc := 104) dX9_common_104 (by decide) ?_
      refine z_iand (pc := 105) dX9_common_105 ?_
      refine z_iconst (v := 1) (pc := 106) dX9_common_106 (by decide) ?_
      refine z_ic_ne (tgt := 113) (pc := 107) dX9_common_107 (by decide) (fun _ => ?_) (fun _ => ?_)
      · refine z_aload_n (x := a) (pc := 113) dX9_common_113 rfl rfl ?_
        refine z_getR cX9 (pc := 114) dX9_common_114 (j := 3) (by decide) rfl w_406 (fun r20 => ?_)
        refine z_getR cX6 (pc := 117) dX9_common_117 (j := 0) (by decide) rfl w_335 (fun r21 => ?_)
        refine z_iload (x := v13) (pc := 120) dX9_common_120 rfl ?_
        refine z_aldI (pc := 122) dX9_common_122 (fun t22 => ?_)
        refine z_istore (i := 5) (la' := [some (.ref a), none, some (.int x2), none, none, some (.int t22), some (.int v14)]) (pc := 123) dX9_common_123 (by decide) rfl rfl ?_
        refine z_iinc (i := 6) (x := v14) (v := (v14 + 1)) (la' := [some (.ref a), none, some (.int x2), none, none, some (.int t22), some (.int (v14 + 1))]) (pc := 125) dX9_common_125 rfl rfl (by decide) rfl rfl ?_
        refine z_goto (tgt := 79) (pc := 128) dX9_common_128 (by decide) ?_
        exact hrec16 (t22, (v14 + 1))
      exact z_wk (hx1 (.inl v13)) (And.intro rfl trivial)
    refine z_iconst (v := (-1)) (pc := 59) dX9_common_59 (by decide) ?_
    exact z_ireturn (pc := 60) dX9_common_60 rfl rfl rfl
  refine z_iconst (v := (-1)) (pc := 35) dX9_common_35 (by decide) ?_
  exact z_ireturn (pc := 36) dX9_common_36 rfl rfl rfl
set_option maxHeartbeats 2000000 in
set_option maxRecDepth 20000 in
theorem m_X10_isAt {G : Z_G} (hG : z_GG G) (h : Z_H) (a : Nat) (x1 : Int32) (x2 : Int32) : z_Met G iX10_isAt [.ref a, .int x1, .int x2] h ((f_X10_isAt h a x1 x2).bind fun r => some (r, h)) := by
  refine z_in (la := [some (.ref a), some (.int x1), some (.int x2)]) (by decide) rfl rfl rfl ?_
  unfold f_X10_isAt
  refine z_gg (fun _ => ?_)
  refine z_aload_n (x := a) (pc := 0) dX10_isAt_0 rfl rfl ?_
  refine z_iload_n (x := x1) (pc := 1) dX10_isAt_1 rfl rfl ?_
  refine z_cVP (As := [.int x1]) (rest := []) hG.1 (m_X10_isSeller hG h a x1) (fun _ e => z_gdb e) oX10_isSeller (pc := 2) dX10_isAt_2 rfl w_1255 rfl rfl rfl (fun t1 => ?_)
  refine z_if_eq (tgt := 37) (pc := 5) dX10_isAt_5 (by decide) (fun _ => ?_) (fun _ => ?_)
  · refine z_iconst (v := 0) (pc := 37) dX10_isAt_37 (by decide) ?_
    exact z_ireturn (pc := 38) dX10_isAt_38 rfl (by decide) rfl
  refine z_iload_n (x := x2) (pc := 8) dX10_isAt_8 rfl rfl ?_
  refine z_aload_n (x := a) (pc := 9) dX10_isAt_9 rfl rfl ?_
  refine z_iload_n (x := x1) (pc := 10) dX10_isAt_10 rfl rfl ?_
  refine z_iconst (v := 0) (pc := 11) dX10_isAt_11 (by decide) ?_
  refine z_cVP (As := [.int x1, .int 0]) (rest := [.int x2]) hG.1 (m_X10_ofSeller hG h a x1 0) (fun _ e => z_gdb e) oX10_ofSeller (pc := 12) dX10_isAt_12 rfl w_1263 rfl rfl rfl (fun t2 => ?_)
  refine z_bipush (v := 99) (pc := 15) dX10_isAt_15 (by decide) ?_
  refine z_aload_n (x := a) (pc := 17) dX10_isAt_17 rfl rfl ?_
  refine z_cVP (As := []) (rest := [.int 99, .int t2, .int x2]) hG.1 (m_X10_now hG h a) (fun _ e => z_gdb e) oX10_now (pc := 18) dX10_isAt_18 rfl w_1247 rfl rfl rfl (fun t3 => ?_)
  refine z_bipush (v := 6) (pc := 21) dX10_isAt_21 (by decide) ?_
  refine z_iadd (pc := 23) dX10_isAt_23 ?_
  refine z_cSP (As := [.int 99, .int (t3 + 6)]) (rest := [.int t2, .int x2]) hG.1 (m_X10_lesser hG h 99 (t3 + 6)) oX10_lesser (pc := 24) dX10_isAt_24 rfl w_1230 rfl rfl rfl (fun t4 => ?_)
  refine z_cSP (As := [.int x2, .int t2, .int t4]) (rest := []) hG.1 (m_X10_in hG h x2 t2 t4) oX10_in (pc := 27) dX10_isAt_27 rfl w_1179 rfl rfl rfl (fun t5 => ?_)
  refine z_if_eq (tgt := 37) (pc := 30) dX10_isAt_30 (by decide) (fun _ => ?_) (fun _ => ?_)
  · refine z_iconst (v := 0) (pc := 37) dX10_isAt_37 (by decide) ?_
    exact z_ireturn (pc := 38) dX10_isAt_38 rfl (by decide) rfl
  refine z_iconst (v := 1) (pc := 33) dX10_isAt_33 (by decide) ?_
  refine z_goto (tgt := 38) (pc := 34) dX10_isAt_34 (by decide) ?_
  exact z_ireturn (pc := 38) dX10_isAt_38 rfl (by decide) rfl
set_option maxHeartbeats 2000000 in
set_option maxRecDepth 20000 in
theorem m_X10_common {G : Z_G} (hG : z_GG G) (h : Z_H) (a : Nat) (x1 : Int32) (x2 : Int32) (x3 : Int32) : z_Met G iX10_common [.ref a, .int x1, .int x2, .int x3] h ((f_X10_common h a x1 x2 x3).bind some) := by
  refine z_in (la := [some (.ref a), some (.int x1), some (.int x2), some (.int x3), none]) (by decide) rfl rfl rfl ?_
  unfold f_X10_common
  refine z_gg (fun _ => ?_)
  refine z_aload_n (x := a) (pc := 0) dX10_common_0 rfl rfl ?_
  refine z_iconst (v := 0) (pc := 1) dX10_common_1 (by decide) ?_
  refine z_putI cX10 (pc := 2) dX10_common_2 (j := 0) (by decide) rfl rfl w_1087 (fun h1 => ?_)
  refine z_aload_n (x := a) (pc := 5) dX10_common_5 rfl rfl ?_
  refine z_iload_n (x := x1) (pc := 6) dX10_common_6 rfl rfl ?_
  refine z_iload_n (x := x3) (pc := 7) dX10_common_7 rfl rfl ?_
  refine z_cVP (As := [.int x1, .int x3]) (rest := []) hG.1 (m_X10_isAt hG h1 a x1 x3) (fun _ e => z_gdb e) oX10_isAt (pc := 8) dX10_common_8 rfl w_1473 rfl rfl rfl (fun t2 => ?_)
  refine z_if_eq (tgt := 23) (pc := 11) dX10_common_11 (by decide) (fun _ => ?_) (fun _ => ?_)
  · refine z_iconst (v := (-1)) (pc := 23) dX10_common_23 (by decide) ?_
    exact z_ireturn (pc := 24) dX10_common_24 rfl rfl rfl
  refine z_aload_n (x := a) (pc := 14) dX10_common_14 rfl rfl ?_
  refine z_iload_n (x := x2) (pc := 15) dX10_common_15 rfl rfl ?_
  refine z_iload_n (x := x3) (pc := 16) dX10_common_16 rfl rfl ?_
  refine z_cVP (As := [.int x2, .int x3]) (rest := []) hG.1 (m_X10_isAt hG h1 a x2 x3) (fun _ e => z_gdb e) oX10_isAt (pc := 17) dX10_common_17 rfl w_1473 rfl rfl rfl (fun t3 => ?_)
  refine z_if_ne (tgt := 25) (pc := 20) dX10_common_20 (by decide) (fun _ => ?_) (fun _ => ?_)
  · refine z_aload_n (x := a) (pc := 25) dX10_common_25 rfl rfl ?_
    refine z_iload_n (x := x3) (pc := 26) dX10_common_26 rfl rfl ?_
    refine z_cVV (As := [.int x3]) (rest := []) hG.1 (m_X10_laysMonth hG h1 a x3) (fun _ e => z_gdb e) oX10_laysMonth (pc := 27) dX10_common_27 rfl w_1283 rfl rfl rfl (fun h4 => ?_)
    refine z_iload_n (x := x1) (pc := 30) dX10_common_30 rfl rfl ?_
    refine z_istore (i := 4) (la' := [some (.ref a), some (.int x1), some (.int x2), some (.int x3), some (.int x1)]) (pc := 31) dX10_common_31 (by decide) rfl rfl ?_
    refine z_weak (la' := [some (.ref a), none, some (.int x2), none, some (.int x1)]) (And.intro rfl (And.intro rfl (And.intro rfl trivial))) ?_
    refine z_lp (T := Int32) (s0 := x1) 33 (fun (v5 : Int32) => [some (.ref a), none, some (.int x2), none, some (.int v5)]) (fun (v5 : Int32) => h4) (fun _ => 55) (fun (v6 : Int32) => [none, none, none, none, some (.int v6)]) (fun (v6 : Int32) => h4) ?_ ?_
    · rintro v6
      try dsimp only
      refine z_iload (x := v6) (pc := 55) dX10_common_55 rfl ?_
      exact z_ireturn (pc := 57) dX10_common_57 rfl rfl rfl
    intro k' hx1 rec7 hrec7
    rintro v5
    unfold f_X10_common_l1
    try dsimp only [lt]
    refine z_aload_n (x := a) (pc := 33) dX10_common_33 rfl rfl ?_
    refine z_iload_n (x := x2) (pc := 34) dX10_common_34 rfl rfl ?_
    refine z_iload (x := v5) (pc := 35) dX10_common_35 rfl ?_
    refine z_cVP (As := [.int x2, .int v5]) (rest := []) hG.1 (m_X10_stepsUp hG h4 a x2 v5) (fun _ e => z_gdb e) oX10_stepsUp (pc := 37) dX10_common_37 rfl w_1287 rfl rfl rfl (fun t8 => ?_)
    refine z_if_ge (tgt := 55) (pc := 40) dX10_common_40 (by decide) (fun _ => ?_) (fun _ => ?_)
    · exact z_wk (hx1 v5) (And.intro rfl trivial)
    refine z_aload_n (x := a) (pc := 43) dX10_common_43 rfl rfl ?_
    refine z_getR cX10 (pc := 44) dX10_common_44 (j := 17) (by decide) rfl w_1104 (fun r9 => ?_)
    refine z_iload (x := v5) (pc := 47) dX10_common_47 rfl ?_
    refine z_aldI (pc := 49) dX10_common_49 (fun t10 => ?_)
    refine z_istore (i := 4) (la' := [some (.ref a), none, some (.int x2), none, some (.int t10)]) (pc := 50) dX10_common_50 (by decide) rfl rfl ?_
    refine z_goto (tgt := 33) (pc := 52) dX10_common_52 (by decide) ?_
    exact hrec7 t10
  refine z_iconst (v := (-1)) (pc := 23) dX10_common_23 (by decide) ?_
  exact z_ireturn (pc := 24) dX10_common_24 rfl rfl rfl
set_option maxHeartbeats 2000000 in
set_option maxRecDepth 20000 in
theorem m_X5_together {G : Z_G} (hG : z_GG G) (h : Z_H) (a : Nat) (x1 : Int32) (x2 : Int32) : z_Met G iX5_together [.ref a, .int x1, .int x2] h ((f_X5_together h a x1 x2).bind fun r => some (r, h)) := by
  refine z_in (la := [some (.ref a), some (.int x1), some (.int x2), none, none]) (by decide) rfl rfl rfl ?_
  unfold f_X5_together
  refine z_gg (fun _ => ?_)
  refine z_iconst (v := 0) (pc := 0) dX5_together_0 (by decide) ?_
  refine z_istore_n (i := 3) (la' := [some (.ref a), some (.int x1), some (.int x2), some (.int 0), none]) (pc := 1) dX5_together_1 rfl (by decide) rfl rfl ?_
  refine z_iconst (v := 1) (pc := 2) dX5_together_2 (by decide) ?_
  refine z_istore (i := 4) (la' := [some (.ref a), some (.int x1), some (.int x2), some (.int 0), some (.int 1)]) (pc := 3) dX5_together_3 (by decide) rfl rfl ?_
  refine z_lp (T := Int32) (s0 := (0, 1)) 5 (fun ((v1, v2) : Int32 × Int32) => [some (.ref a), some (.int x1), some (.int x2), some (.int v1), some (.int v2)]) (fun ((v1, v2) : Int32 × Int32) => h) (fun _ => 33) (fun (v3 : Int32) => [none, none, none, some (.int v3), none]) (fun (v3 : Int32) => h) ?_ ?_
  · rintro v3
    try dsimp only
    refine z_iload_n (x := v3) (pc := 33) dX5_together_33 rfl rfl ?_
    exact z_ireturn (pc := 34) dX5_together_34 rfl rfl rfl
  intro k' hx1 rec4 hrec4
  rintro ⟨v1, v2⟩
  unfold f_X5_together_l1
  try dsimp only
  refine z_iload (x := v2) (pc := 5) dX5_together_5 rfl ?_
  refine z_aload_n (x := a) (pc := 7) dX5_together_7 rfl rfl ?_
  refine z_getR cX5 (pc := 8) dX5_together_8 (j := 6) (by decide) rfl w_201 (fun r5 => ?_)
  refine z_iload_n (x := x1) (pc := 11) dX5_together_11 rfl rfl ?_
  refine z_aldI (pc := 12) dX5_together_12 (fun t6 => ?_)
  refine z_ic_gt (tgt := 33) (pc := 13) dX5_together_13 (by decide) (fun _ => ?_) (fun _ => ?_)
  · exact z_wk (hx1 v1) (And.intro rfl trivial)
  refine z_iload_n (x := v1) (pc := 16) dX5_together_16 rfl rfl ?_
  refine z_aload_n (x := a) (pc := 17) dX5_together_17 rfl rfl ?_
  refine z_iload_n (x := x1) (pc := 18) dX5_together_18 rfl rfl ?_
  refine z_iload (x := v2) (pc := 19) dX5_together_19 rfl ?_
  refine z_iload_n (x := x2) (pc := 21) dX5_together_21 rfl rfl ?_
  refine z_cVP (As := [.int x1, .int v2, .int x2]) (rest := [.int v1]) hG.1 (m_X5_fact hG h a x1 v2 x2) (fun _ e => z_gdb e) oX5_fact (pc := 22) dX5_together_22 rfl w_683 rfl rfl rfl (fun t7 => ?_)
  refine z_iadd (pc := 25) dX5_together_25 ?_
  refine z_nm (fun v8 => ?_)
  refine z_istore_n (i := 3) (la' := [some (.ref a), some (.int x1), some (.int x2), some (.int v8), some (.int v2)]) (pc := 26) dX5_together_26 rfl (by decide) rfl rfl ?_
  refine z_iinc (i := 4) (x := v2) (v := (v2 + 1)) (la' := [some (.ref a), some (.int x1), some (.int x2), some (.int v8), some (.int (v2 + 1))]) (pc := 27) dX5_together_27 rfl rfl (by decide) rfl rfl ?_
  refine z_goto (tgt := 5) (pc := 30) dX5_together_30 (by decide) ?_
  exact hrec4 (v8, (v2 + 1))
set_option maxHeartbeats 2000000 in
set_option maxRecDepth 20000 in
theorem m_X5_netPays {G : Z_G} (hG : z_GG G) (h : Z_H) (a : Nat) (x1 : Int32) : z_Met G iX5_netPays [.ref a, .int x1] h ((f_X5_netPays h a x1).bind fun r => some (r, h)) := by
  refine z_in (la := [some (.ref a), some (.int x1), none, none]) (by decide) rfl rfl rfl ?_
  unfold f_X5_netPays
  refine z_gg (fun _ => ?_)
  refine z_iconst (v := 0) (pc := 0) dX5_netPays_0 (by decide) ?_
  refine z_istore_n (i := 2) (la' := [some (.ref a), some (.int x1), some (.int 0), none]) (pc := 1) dX5_netPays_1 rfl (by decide) rfl rfl ?_
  refine z_iconst (v := 1) (pc := 2) dX5_netPays_2 (by decide) ?_
  refine z_istore_n (i := 3) (la' := [some (.ref a), some (.int x1), some (.int 0), some (.int 1)]) (pc := 3) dX5_netPays_3 rfl (by decide) rfl rfl ?_
  refine z_lp (T := Int32) (s0 := (0, 1)) 4 (fun ((v1, v2) : Int32 × Int32) => [some (.ref a), some (.int x1), some (.int v1), some (.int v2)]) (fun ((v1, v2) : Int32 × Int32) => h) (fun _ => 29) (fun (v3 : Int32) => [none, none, some (.int v3), none]) (fun (v3 : Int32) => h) ?_ ?_
  · rintro v3
    try dsimp only
    refine z_iload_n (x := v3) (pc := 29) dX5_netPays_29 rfl rfl ?_
    exact z_ireturn (pc := 30) dX5_netPays_30 rfl rfl rfl
  intro k' hx1 rec4 hrec4
  rintro ⟨v1, v2⟩
  unfold f_X5_netPays_l1
  try dsimp only
  refine z_iload_n (x := v2) (pc := 4) dX5_netPays_4 rfl rfl ?_
  refine z_aload_n (x := a) (pc := 5) dX5_netPays_5 rfl rfl ?_
  refine z_getR cX5 (pc := 6) dX5_netPays_6 (j := 6) (by decide) rfl w_201 (fun r5 => ?_)
  refine z_iload_n (x := x1) (pc := 9) dX5_netPays_9 rfl rfl ?_
  refine z_aldI (pc := 10) dX5_netPays_10 (fun t6 => ?_)
  refine z_ic_gt (tgt := 29) (pc := 11) dX5_netPays_11 (by decide) (fun _ => ?_) (fun _ => ?_)
  · exact z_wk (hx1 v1) (And.intro rfl trivial)
  refine z_iload_n (x := v1) (pc := 14) dX5_netPays_14 rfl rfl ?_
  refine z_aload_n (x := a) (pc := 15) dX5_netPays_15 rfl rfl ?_
  refine z_iload_n (x := x1) (pc := 16) dX5_netPays_16 rfl rfl ?_
  refine z_iload_n (x := v2) (pc := 17) dX5_netPays_17 rfl rfl ?_
  refine z_cVP (As := [.int x1, .int v2]) (rest := [.int v1]) hG.1 (m_X5_netPay hG h a x1 v2) (fun _ e => z_gdb e) oX5_netPay (pc := 18) dX5_netPays_18 rfl w_893 rfl rfl rfl (fun t7 => ?_)
  refine z_iadd (pc := 21) dX5_netPays_21 ?_
  refine z_nm (fun v8 => ?_)
  refine z_istore_n (i := 2) (la' := [some (.ref a), some (.int x1), some (.int v8), some (.int v2)]) (pc := 22) dX5_netPays_22 rfl (by decide) rfl rfl ?_
  refine z_iinc (i := 3) (x := v2) (v := (v2 + 1)) (la' := [some (.ref a), some (.int x1), some (.int v8), some (.int (v2 + 1))]) (pc := 23) dX5_netPays_23 rfl rfl (by decide) rfl rfl ?_
  refine z_goto (tgt := 4) (pc := 26) dX5_netPays_26 (by decide) ?_
  exact hrec4 (v8, (v2 + 1))
set_option maxHeartbeats 2000000 in
set_option maxRecDepth 20000 in
theorem m_X9_staleInScene {G : Z_G} (hG : z_GG G) (h : Z_H) (a : Nat) (x1 : Int32) : z_Met G iX9_staleInScene [.ref a, .int x1] h ((f_X9_staleInScene h a x1).bind fun r => some (r, h)) := by
  refine z_in (la := [some (.ref a), some (.int x1), none, none, none, none]) (by decide) rfl rfl rfl ?_
  unfold f_X9_staleInScene
  refine z_gg (fun _ => ?_)
  refine z_aload_n (x := a) (pc := 0) dX9_staleInScene_0 rfl rfl ?_
  refine z_getR cX9 (pc := 1) dX9_staleInScene_1 (j := 0) (by decide) rfl w_403 (fun r1 => ?_)
  refine z_getR cX7 (pc := 4) dX9_staleInScene_4 (j := 3) (by decide) rfl w_251 (fun r2 => ?_)
  refine z_astore_n (i := 2) (la' := [some (.ref a), some (.int x1), some (.ref r2), none, none, none]) (pc := 7) dX9_staleInScene_7 rfl (by decide) rfl rfl ?_
  refine z_iconst (v := 0) (pc := 8) dX9_staleInScene_8 (by decide) ?_
  refine z_istore_n (i := 3) (la' := [some (.ref a), some (.int x1), some (.ref r2), some (.int 0), none, none]) (pc := 9) dX9_staleInScene_9 rfl (by decide) rfl rfl ?_
  refine z_aload_n (x := a) (pc := 10) dX9_staleInScene_10 rfl rfl ?_
  refine z_getR cX9 (pc := 11) dX9_staleInScene_11 (j := 3) (by decide) rfl w_406 (fun r3 => ?_)
  refine z_getR cX6 (pc := 14) dX9_staleInScene_14 (j := 0) (by decide) rfl w_335 (fun r4 => ?_)
  refine z_aload_n (x := r2) (pc := 17) dX9_staleInScene_17 rfl rfl ?_
  refine z_getR cX5 (pc := 18) dX9_staleInScene_18 (j := 1) (by decide) rfl w_190 (fun r5 => ?_)
  refine z_iload_n (x := x1) (pc := 21) dX9_staleInScene_21 rfl rfl ?_
  refine z_aldI (pc := 22) dX9_staleInScene_22 (fun t6 => ?_)
  refine z_aldI (pc := 23) dX9_staleInScene_23 (fun t7 => ?_)
  refine z_istore (i := 4) (la' := [some (.ref a), some (.int x1), some (.ref r2), some (.int 0), some (.int t7), none]) (pc := 24) dX9_staleInScene_24 (by decide) rfl rfl ?_
  refine z_iconst (v := 0) (pc := 26) dX9_staleInScene_26 (by decide) ?_
  refine z_istore (i := 5) (la' := [some (.ref a), some (.int x1), some (.ref r2), some (.int 0), some (.int t7), some (.int 0)]) (pc := 27) dX9_staleInScene_27 (by decide) rfl rfl ?_
  refine z_lp (T := (Unit) ⊕ (Int32)) (s0 := (0, t7, 0)) 29 (fun ((v8, v9, v10) : Int32 × Int32 × Int32) => [some (.ref a), some (.int x1), some (.ref r2), some (.int v8), some (.int v9), some (.int v10)]) (fun ((v8, v9, v10) : Int32 × Int32 × Int32) => h) (fun t => match t with | (.inl _) => 84 | (.inr v11) => 104) (fun t => match t with | (.inl _) => [none, none, none, none, none, none] | (.inr v11) => [none, some (.int x1), some (.ref r2), some (.int v11), none, none]) (fun t => match t with | (.inl _) => h | (.inr v11) => h) ?_ ?_
  · rintro (_ | v11)
    · try dsimp only
      refine z_iconst (v := 1) (pc := 84) dX9_staleInScene_84 (by decide) ?_
      exact z_ireturn (pc := 85) dX9_staleInScene_85 rfl (by decide) rfl
    · try dsimp only
      refine z_iload_n (x := v11) (pc := 104) dX9_staleInScene_104 rfl rfl ?_
      refine z_aload_n (x := r2) (pc := 105) dX9_staleInScene_105 rfl rfl ?_
      refine z_getR cX5 (pc := 106) dX9_staleInScene_106 (j := 6) (by decide) rfl w_202 (fun r23 => ?_)
      refine z_iload_n (x := x1) (pc := 109) dX9_staleInScene_109 rfl rfl ?_
      refine z_aldI (pc := 110) dX9_staleInScene_110 (fun t24 => ?_)
      refine z_ic_eq (tgt := 118) (pc := 111) dX9_staleInScene_111 (by decide) (fun _ => ?_) (fun _ => ?_)
      · refine z_iconst (v := 0) (pc := 118) dX9_staleInScene_118 (by decide) ?_
        exact z_ireturn (pc := 119) dX9_staleInScene_119 rfl (by decide) rfl
      refine z_iconst (v := 1) (pc := 114) dX9_staleInScene_114 (by decide) ?_
      refine z_goto (tgt := 119) (pc := 115) dX9_staleInScene_115 (by decide) ?_
      exact z_ireturn (pc := 119) dX9_staleInScene_119 rfl (by decide) rfl
  intro k' hx1 rec12 hrec12
  rintro ⟨v8, v9, v10⟩
  unfold f_X9_staleInScene_l1
  try dsimp only
  refine z_iload (x := v10) (pc := 29) dX9_staleInScene_29 rfl ?_
  refine z_bipush (v := 10) (pc := 31) dX9_staleInScene_31 (by decide) ?_
  refine z_ic_ge (tgt := 104) (pc := 33) dX9_staleInScene_33 (by decide) (fun _ => ?_) (fun _ => ?_)
  · exact z_wk (hx1 (.inr v8)) (And.intro rfl (And.intro rfl (And.intro rfl trivial)))
  refine z_iload (x := v9) (pc := 36) dX9_staleInScene_36 rfl ?_
  refine z_iconst (v := (-1)) (pc := 38) dX9_staleInScene_38 (by decide) ?_
  refine z_ic_eq (tgt := 104) (pc := 39) dX9_staleInScene_39 (by decide) (fun _ => ?_) (fun _ => ?_)
  · exact z_wk (hx1 (.inr v8)) (And.intro rfl (And.intro rfl (And.intro rfl trivial)))
  refine z_iload_n (x := v8) (pc := 42) dX9_staleInScene_42 rfl rfl ?_
  refine z_iconst (v := 5) (pc := 43) dX9_staleInScene_43 (by decide) ?_
  refine z_ic_ge (tgt := 104) (pc := 44) dX9_staleInScene_44 (by decide) (fun _ => ?_) (fun _ => ?_)
  · exact z_wk (hx1 (.inr v8)) (And.intro rfl (And.intro rfl (And.intro rfl trivial)))
  refine z_aload_n (x := a) (pc := 47) dX9_staleInScene_47 rfl rfl ?_
  refine z_getR cX9 (pc := 48) dX9_staleInScene_48 (j := 3) (by decide) rfl w_406 (fun r13 => ?_)
  refine z_iload (x := v9) (pc := 51) dX9_staleInScene_51 rfl ?_
  refine z_cVP (As := [.int v9]) (rest := []) hG.1 (m_X6_isActive hG h r13 v9) (fun _ e => z_gdb e) oX6_isActive (pc := 53) dX9_staleInScene_53 rfl w_902 rfl rfl rfl (fun t14 => ?_)
  refine z_jn 86 (fun (v15 : Int32) => [some (.ref a), some (.int x1), some (.ref r2), some (.int v15), some (.int v9), some (.int v10)]) (fun (v15 : Int32) => []) (fun (v15 : Int32) => h) ?_ ?_
  · rintro v15
    try dsimp only
    refine z_aload_n (x := a) (pc := 86) dX9_staleInScene_86 rfl rfl ?_
    refine z_getR cX9 (pc := 87) dX9_staleInScene_87 (j := 3) (by decide) rfl w_406 (fun r17 => ?_)
    refine z_getR cX6 (pc := 90) dX9_staleInScene_90 (j := 0) (by decide) rfl w_335 (fun r18 => ?_)
    refine z_iload (x := v9) (pc := 93) dX9_staleInScene_93 rfl ?_
    refine z_aldI (pc := 95) dX9_staleInScene_95 (fun t19 => ?_)
    refine z_istore (i := 4) (la' := [some (.ref a), some (.int x1), some (.ref r2), some (.int v15), some (.int t19), some (.int v10)]) (pc := 96) dX9_staleInScene_96 (by decide) rfl rfl ?_
    refine z_iinc (i := 5) (x := v10) (v := (v10 + 1)) (la' := [some (.ref a), some (.int x1), some (.ref r2), some (.int v15), some (.int t19), some (.int (v10 + 1))]) (pc := 98) dX9_staleInScene_98 rfl rfl (by decide) rfl rfl ?_
    refine z_goto (tgt := 29) (pc := 101) dX9_staleInScene_101 (by decide) ?_
    exact hrec12 (v15, t19, (v10 + 1))
  intro j16 hj16
  refine z_if_eq (tgt := 86) (pc := 56) dX9_staleInScene_56 (by decide) (fun _ => ?_) (fun _ => ?_)
  · exact hj16 v8
  refine z_iinc (i := 3) (x := v8) (v := (v8 + 1)) (la' := [some (.ref a), some (.int x1), some (.ref r2), some (.int (v8 + 1)), some (.int v9), some (.int v10)]) (pc := 59) dX9_staleInScene_59 rfl rfl (by decide) rfl rfl ?_
  refine z_iload_n (x := (v8 + 1)) (pc := 62) dX9_staleInScene_62 rfl rfl ?_
  refine z_aload_n (x := r2) (pc := 63) dX9_staleInScene_63 rfl rfl ?_
  refine z_getR cX5 (pc := 64) dX9_staleInScene_64 (j := 6) (by decide) rfl w_202 (fun r20 => ?_)
  refine z_iload_n (x := x1) (pc := 67) dX9_staleInScene_67 rfl rfl ?_
  refine z_aldI (pc := 68) dX9_staleInScene_68 (fun t21 => ?_)
  refine z_ic_gt (tgt := 84) (pc := 69) dX9_staleInScene_69 (by decide) (fun _ => ?_) (fun _ => ?_)
  · exact z_wk (hx1 (.inl ())) trivial
  refine z_aload_n (x := r2) (pc := 72) dX9_staleInScene_72 rfl rfl ?_
  refine z_iload_n (x := x1) (pc := 73) dX9_staleInScene_73 rfl rfl ?_
  refine z_iload_n (x := (v8 + 1)) (pc := 74) dX9_staleInScene_74 rfl rfl ?_
  refine z_iconst (v := 0) (pc := 75) dX9_staleInScene_75 (by decide) ?_
  refine z_cVP (As := [.int x1, .int (v8 + 1), .int 0]) (rest := []) hG.1 (m_X5_fact hG h r2 x1 (v8 + 1) 0) (fun _ e => z_gdb e) oX5_fact (pc := 76) dX9_staleInScene_76 rfl w_816 rfl rfl rfl (fun t22 => ?_)
  refine z_iload (x := v9) (pc := 79) dX9_staleInScene_79 rfl ?_
  refine z_ic_eq (tgt := 86) (pc := 81) dX9_staleInScene_81 (by decide) (fun _ => ?_) (fun _ => ?_)
  · exact hj16 (v8 + 1)
  exact z_wk (hx1 (.inl ())) trivial
set_option maxHeartbeats 2000000 in
set_option maxRecDepth 20000 in
theorem m_X9_isStale {G : Z_G} (hG : z_GG G) (h : Z_H) (a : Nat) (x1 : Int32) : z_Met G iX9_isStale [.ref a, .int x1] h ((f_X9_isStale h a x1).bind some) := by
  refine z_in (la := [some (.ref a), some (.int x1)]) (by decide) rfl rfl rfl ?_
  unfold f_X9_isStale
  refine z_gg (fun _ => ?_)
  refine z_aload_n (x := a) (pc := 0) dX9_isStale_0 rfl rfl ?_
  refine z_getR cX9 (pc := 1) dX9_isStale_1 (j := 3) (by decide) rfl w_406 (fun r1 => ?_)
  refine z_aload_n (x := a) (pc := 4) dX9_isStale_4 rfl rfl ?_
  refine z_getR cX9 (pc := 5) dX9_isStale_5 (j := 0) (by decide) rfl w_403 (fun r2 => ?_)
  refine z_aload_n (x := a) (pc := 8) dX9_isStale_8 rfl rfl ?_
  refine z_getR cX9 (pc := 9) dX9_isStale_9 (j := 0) (by decide) rfl w_403 (fun r3 => ?_)
  refine z_getI cX7 (pc := 12) dX9_isStale_12 (j := 8) (by decide) rfl w_261 (fun t4 => ?_)
  refine z_cVV (As := [.ref r2, .int t4]) (rest := []) hG.1 (m_X6_look hG h r1 r2 t4) (fun _ e => z_gdb e) oX6_look (pc := 15) dX9_isStale_15 rfl w_721 rfl rfl rfl (fun h5 => ?_)
  refine z_aload_n (x := a) (pc := 18) dX9_isStale_18 rfl rfl ?_
  refine z_iload_n (x := x1) (pc := 19) dX9_isStale_19 rfl rfl ?_
  refine z_cVP (As := [.int x1]) (rest := []) hG.1 (m_X9_staleInScene hG h5 a x1) (fun _ e => z_gdb e) oX9_staleInScene (pc := 20) dX9_isStale_20 rfl w_898 rfl rfl rfl (fun t6 => ?_)
  refine z_gg (fun hzz => ?_)
  exact z_ireturn (pc := 23) dX9_isStale_23 rfl (congrArg Value.int (of_decide_eq_true hzz)) rfl
set_option maxHeartbeats 2000000 in
set_option maxRecDepth 20000 in
theorem m_X7_fillBalances {G : Z_G} (hG : z_GG G) (h : Z_H) (a : Nat) (x1 : Int32) : z_Met G iX7_fillBalances [.ref a, .int x1] h ((f_X7_fillBalances h a x1).bind fun h1 => some (0, h1)) := by
  refine z_in (la := [some (.ref a), some (.int x1), none, none, none]) (by decide) rfl rfl rfl ?_
  unfold f_X7_fillBalances
  refine z_gg (fun _ => ?_)
  refine z_iconst (v := 0) (pc := 0) dX7_fillBalances_0 (by decide) ?_
  refine z_istore_n (i := 2) (la' := [some (.ref a), some (.int x1), some (.int 0), none, none]) (pc := 1) dX7_fillBalances_1 rfl (by decide) rfl rfl ?_
  refine z_lp (T := Z_H) (s0 := (0, h)) 2 (fun ((v1, h2) : Int32 × Z_H) => [some (.ref a), some (.int x1), some (.int v1), none, none]) (fun ((v1, h2) : Int32 × Z_H) => h2) (fun _ => 35) (fun (h3 : Z_H) => [some (.ref a), some (.int x1), none, none, none]) (fun (h3 : Z_H) => h3) ?_ ?_
  · rintro h3
    try dsimp only
    refine z_iconst (v := 0) (pc := 35) dX7_fillBalances_35 (by decide) ?_
    refine z_istore_n (i := 2) (la' := [some (.ref a), some (.int x1), some (.int 0), none, none]) (pc := 36) dX7_fillBalances_36 rfl (by decide) rfl rfl ?_
    refine z_lp (T := Z_H) (s0 := (0, h3)) 37 (fun ((v12, h13) : Int32 × Z_H) => [some (.ref a), some (.int x1), some (.int v12), none, none]) (fun ((v12, h13) : Int32 × Z_H) => h13) (fun _ => 118) (fun (h14 : Z_H) => [none, none, none, none, none]) (fun (h14 : Z_H) => h14) ?_ ?_
    · rintro h14
      try dsimp only
      exact z_return (pc := 118) dX7_fillBalances_118 rfl rfl
    intro k' hx2 rec15 hrec15
    rintro ⟨v12, h13⟩
    unfold f_X7_fillBalances_l2
    try dsimp only
    refine z_iload_n (x := v12) (pc := 37) dX7_fillBalances_37 rfl rfl ?_
    refine z_aload_n (x := a) (pc := 38) dX7_fillBalances_38 rfl rfl ?_
    refine z_getR cX7 (pc := 39) dX7_fillBalances_39 (j := 3) (by decide) rfl w_249 (fun r16 => ?_)
    refine z_getI cX5 (pc := 42) dX7_fillBalances_42 (j := 0) (by decide) rfl w_184 (fun t17 => ?_)
    refine z_ic_ge (tgt := 118) (pc := 45) dX7_fillBalances_45 (by decide) (fun _ => ?_) (fun _ => ?_)
    · exact z_wk (hx2 h13) trivial
    refine z_iload_n (x := v12) (pc := 48) dX7_fillBalances_48 rfl rfl ?_
    refine z_iload_n (x := x1) (pc := 49) dX7_fillBalances_49 rfl rfl ?_
    refine z_jn 66 (fun (y18 : Int32) => [some (.ref a), some (.int x1), some (.int v12), none, none]) (fun (y18 : Int32) => [.int y18]) (fun (y18 : Int32) => h13) ?_ ?_
    · rintro y18
      try dsimp only
      refine z_istore_n (i := 3) (la' := [some (.ref a), some (.int x1), some (.int v12), some (.int y18), none]) (pc := 66) dX7_fillBalances_66 rfl (by decide) rfl rfl ?_
      refine z_iconst (v := 1) (pc := 67) dX7_fillBalances_67 (by decide) ?_
      refine z_istore (i := 4) (la' := [some (.ref a), some (.int x1), some (.int v12), some (.int y18), some (.int 1)]) (pc := 68) dX7_fillBalances_68 (by decide) rfl rfl ?_
      refine z_lp (T := Z_H) (s0 := (1, h13)) 70 (fun ((v20, h21) : Int32 × Z_H) => [some (.ref a), some (.int x1), some (.int v12), some (.int y18), some (.int v20)]) (fun ((v20, h21) : Int32 × Z_H) => h21) (fun _ => 112) (fun (h22 : Z_H) => [some (.ref a), some (.int x1), some (.int v12), none, none]) (fun (h22 : Z_H) => h22) ?_ ?_
      · rintro h22
        try dsimp only
        refine z_iinc (i := 2) (x := v12) (v := (v12 + 1)) (la' := [some (.ref a), some (.int x1), some (.int (v12 + 1)), none, none]) (pc := 112) dX7_fillBalances_112 rfl rfl (by decide) rfl rfl ?_
        refine z_goto (tgt := 37) (pc := 115) dX7_fillBalances_115 (by decide) ?_
        exact hrec15 ((v12 + 1), h22)
      intro k' hx3 rec23 hrec23
      rintro ⟨v20, h21⟩
      unfold f_X7_fillBalances_l3
      try dsimp only
      refine z_iload (x := v20) (pc := 70) dX7_fillBalances_70 rfl ?_
      refine z_iload_n (x := y18) (pc := 72) dX7_fillBalances_72 rfl rfl ?_
      refine z_ic_gt (tgt := 112) (pc := 73) dX7_fillBalances_73 (by decide) (fun _ => ?_) (fun _ => ?_)
      · exact z_wk (hx3 h21) (And.intro rfl (And.intro rfl (And.intro rfl trivial)))
      refine z_aload_n (x := a) (pc := 76) dX7_fillBalances_76 rfl rfl ?_
      refine z_getR cX7 (pc := 77) dX7_fillBalances_77 (j := 5) (by decide) rfl w_254 (fun r24 => ?_)
      refine z_aload_n (x := a) (pc := 80) dX7_fillBalances_80 rfl rfl ?_
      refine z_getR cX7 (pc := 81) dX7_fillBalances_81 (j := 3) (by decide) rfl w_249 (fun r25 => ?_)
      refine z_iload_n (x := v12) (pc := 84) dX7_fillBalances_84 rfl rfl ?_
      refine z_iload (x := v20) (pc := 85) dX7_fillBalances_85 rfl ?_
      refine z_iconst (v := 0) (pc := 87) dX7_fillBalances_87 (by decide) ?_
      refine z_cVP (As := [.int v12, .int v20, .int 0]) (rest := [.ref r24]) hG.1 (m_X5_fact hG h21 r25 v12 v20 0) (fun _ e => z_gdb e) oX5_fact (pc := 88) dX7_fillBalances_88 rfl w_698 rfl rfl rfl (fun t26 => ?_)
      refine z_dup2 (pc := 91) dX7_fillBalances_91 rfl rfl ?_
      refine z_aldI (pc := 92) dX7_fillBalances_92 (fun t27 => ?_)
      refine z_aload_n (x := a) (pc := 93) dX7_fillBalances_93 rfl rfl ?_
      refine z_iload_n (x := v12) (pc := 94) dX7_fillBalances_94 rfl rfl ?_
      refine z_iload (x := v20) (pc := 95) dX7_fillBalances_95 rfl ?_
      refine z_aload_n (x := a) (pc := 97) dX7_fillBalances_97 rfl rfl ?_
      refine z_getI cX7 (pc := 98) dX7_fillBalances_98 (j := 8) (by decide) rfl w_259 (fun t28 => ?_)
      refine z_cVP (As := [.int v12, .int v20, .int t28]) (rest := [.int t27, .int t26, .ref r24]) hG.1 (m_X7_vested hG h21 a v12 v20 t28) (fun _ e => z_gdb e) oX7_vested (pc := 101) dX7_fillBalances_101 rfl w_694 rfl rfl rfl (fun t29 => ?_)
      refine z_iadd (pc := 104) dX7_fillBalances_104 ?_
      refine z_astI (pc := 105) dX7_fillBalances_105 (fun h30 => ?_)
      refine z_iinc (i := 4) (x := v20) (v := (v20 + 1)) (la' := [some (.ref a), some (.int x1), some (.int v12), some (.int y18), some (.int (v20 + 1))]) (pc := 106) dX7_fillBalances_106 rfl rfl (by decide) rfl rfl ?_
      refine z_goto (tgt := 70) (pc := 109) dX7_fillBalances_109 (by decide) ?_
      exact hrec23 ((v20 + 1), h30)
    intro j19 hj19
    refine z_ic_ne (tgt := 57) (pc := 50) dX7_fillBalances_50 (by decide) (fun _ => ?_) (fun _ => ?_)
    · refine z_aload_n (x := a) (pc := 57) dX7_fillBalances_57 rfl rfl ?_
      refine z_getR cX7 (pc := 58) dX7_fillBalances_58 (j := 3) (by decide) rfl w_249 (fun r31 => ?_)
      refine z_getR cX5 (pc := 61) dX7_fillBalances_61 (j := 6) (by decide) rfl w_203 (fun r32 => ?_)
      refine z_iload_n (x := v12) (pc := 64) dX7_fillBalances_64 rfl rfl ?_
      refine z_aldI (pc := 65) dX7_fillBalances_65 (fun t33 => ?_)
      exact hj19 t33
    refine z_iconst (v := 0) (pc := 53) dX7_fillBalances_53 (by decide) ?_
    refine z_goto (tgt := 66) (pc := 54) dX7_fillBalances_54 (by decide) ?_
    exact hj19 0
  intro k' hx1 rec4 hrec4
  rintro ⟨v1, h2⟩
  unfold f_X7_fillBalances_l1
  try dsimp only
  refine z_iload_n (x := v1) (pc := 2) dX7_fillBalances_2 rfl rfl ?_
  refine z_aload_n (x := a) (pc := 3) dX7_fillBalances_3 rfl rfl ?_
  refine z_getR cX7 (pc := 4) dX7_fillBalances_4 (j := 2) (by decide) rfl w_245 (fun r5 => ?_)
  refine z_getI cX0 (pc := 7) dX7_fillBalances_7 (j := 0) (by decide) rfl w_141 (fun t6 => ?_)
  refine z_ic_ge (tgt := 35) (pc := 10) dX7_fillBalances_10 (by decide) (fun _ => ?_) (fun _ => ?_)
  · exact z_wk (hx1 h2) (And.intro rfl (And.intro rfl trivial))
  refine z_aload_n (x := a) (pc := 13) dX7_fillBalances_13 rfl rfl ?_
  refine z_getR cX7 (pc := 14) dX7_fillBalances_14 (j := 5) (by decide) rfl w_254 (fun r7 => ?_)
  refine z_iload_n (x := v1) (pc := 17) dX7_fillBalances_17 rfl rfl ?_
  refine z_aload_n (x := a) (pc := 18) dX7_fillBalances_18 rfl rfl ?_
  refine z_getR cX7 (pc := 19) dX7_fillBalances_19 (j := 2) (by decide) rfl w_245 (fun r8 => ?_)
  refine z_getR cX0 (pc := 22) dX7_fillBalances_22 (j := 3) (by decide) rfl w_151 (fun r9 => ?_)
  refine z_iload_n (x := v1) (pc := 25) dX7_fillBalances_25 rfl rfl ?_
  refine z_aldI (pc := 26) dX7_fillBalances_26 (fun t10 => ?_)
  refine z_ineg (pc := 27) dX7_fillBalances_27 ?_
  refine z_astI (pc := 28) dX7_fillBalances_28 (fun h11 => ?_)
  refine z_iinc (i := 2) (x := v1) (v := (v1 + 1)) (la' := [some (.ref a), some (.int x1), some (.int (v1 + 1)), none, none]) (pc := 29) dX7_fillBalances_29 rfl rfl (by decide) rfl rfl ?_
  refine z_goto (tgt := 2) (pc := 32) dX7_fillBalances_32 (by decide) ?_
  exact hrec4 ((v1 + 1), h11)
set_option maxHeartbeats 2000000 in
set_option maxRecDepth 20000 in
theorem m_X7_debtorsWithout {G : Z_G} (hG : z_GG G) (h : Z_H) (a : Nat) (x1 : Int32) : z_Met G iX7_debtorsWithout [.ref a, .int x1] h ((f_X7_debtorsWithout h a x1).bind some) := by
  refine z_in (la := [some (.ref a), some (.int x1), none, none]) (by decide) rfl rfl rfl ?_
  unfold f_X7_debtorsWithout
  refine z_gg (fun _ => ?_)
  refine z_aload_n (x := a) (pc := 0) dX7_debtorsWithout_0 rfl rfl ?_
  refine z_iload_n (x := x1) (pc := 1) dX7_debtorsWithout_1 rfl rfl ?_
  refine z_cVV (As := [.int x1]) (rest := []) hG.1 (m_X7_fillBalances hG h a x1) (fun _ e => z_gdb e) oX7_fillBalances (pc := 2) dX7_debtorsWithout_2 rfl w_907 rfl rfl rfl (fun h1 => ?_)
  refine z_iconst (v := 0) (pc := 5) dX7_debtorsWithout_5 (by decide) ?_
  refine z_istore_n (i := 2) (la' := [some (.ref a), some (.int x1), some (.int 0), none]) (pc := 6) dX7_debtorsWithout_6 rfl (by decide) rfl rfl ?_
  refine z_iconst (v := 0) (pc := 7) dX7_debtorsWithout_7 (by decide) ?_
  refine z_istore_n (i := 3) (la' := [some (.ref a), some (.int x1), some (.int 0), some (.int 0)]) (pc := 8) dX7_debtorsWithout_8 rfl (by decide) rfl rfl ?_
  refine z_weak (la' := [some (.ref a), none, some (.int 0), some (.int 0)]) (And.intro rfl (And.intro rfl (And.intro rfl trivial))) ?_
  refine z_lp (T := Int32) (s0 := (0, 0)) 9 (fun ((v2, v3) : Int32 × Int32) => [some (.ref a), none, some (.int v2), some (.int v3)]) (fun ((v2, v3) : Int32 × Int32) => h1) (fun _ => 43) (fun (v4 : Int32) => [none, none, some (.int v4), none]) (fun (v4 : Int32) => h1) ?_ ?_
  · rintro v4
    try dsimp only
    refine z_iload_n (x := v4) (pc := 43) dX7_debtorsWithout_43 rfl rfl ?_
    exact z_ireturn (pc := 44) dX7_debtorsWithout_44 rfl rfl rfl
  intro k' hx1 rec5 hrec5
  rintro ⟨v2, v3⟩
  unfold f_X7_debtorsWithout_l1
  try dsimp only
  refine z_iload_n (x := v3) (pc := 9) dX7_debtorsWithout_9 rfl rfl ?_
  refine z_aload_n (x := a) (pc := 10) dX7_debtorsWithout_10 rfl rfl ?_
  refine z_getR cX7 (pc := 11) dX7_debtorsWithout_11 (j := 2) (by decide) rfl w_245 (fun r6 => ?_)
  refine z_getI cX0 (pc := 14) dX7_debtorsWithout_14 (j := 0) (by decide) rfl w_141 (fun t7 => ?_)
  refine z_ic_ge (tgt := 43) (pc := 17) dX7_debtorsWithout_17 (by decide) (fun _ => ?_) (fun _ => ?_)
  · exact z_wk (hx1 v2) (And.intro rfl trivial)
  refine z_iload_n (x := v2) (pc := 20) dX7_debtorsWithout_20 rfl rfl ?_
  refine z_aload_n (x := a) (pc := 21) dX7_debtorsWithout_21 rfl rfl ?_
  refine z_getR cX7 (pc := 22) dX7_debtorsWithout_22 (j := 5) (by decide) rfl w_254 (fun r8 => ?_)
  refine z_iload_n (x := v3) (pc := 25) dX7_debtorsWithout_25 rfl rfl ?_
  refine z_aldI (pc := 26) dX7_debtorsWithout_26 (fun t9 => ?_)
  refine z_jn 35 (fun (y10 : Int32) => [some (.ref a), none, none, some (.int v3)]) (fun (y10 : Int32) => [.int y10, .int v2]) (fun (y10 : Int32) => h1) ?_ ?_
  · rintro y10
    try dsimp only
    refine z_iadd (pc := 35) dX7_debtorsWithout_35 ?_
    refine z_nm (fun v12 => ?_)
    refine z_istore_n (i := 2) (la' := [some (.ref a), none, some (.int v12), some (.int v3)]) (pc := 36) dX7_debtorsWithout_36 rfl (by decide) rfl rfl ?_
    refine z_iinc (i := 3) (x := v3) (v := (v3 + 1)) (la' := [some (.ref a), none, some (.int v12), some (.int (v3 + 1))]) (pc := 37) dX7_debtorsWithout_37 rfl rfl (by decide) rfl rfl ?_
    refine z_goto (tgt := 9) (pc := 40) dX7_debtorsWithout_40 (by decide) ?_
    exact hrec5 (v12, (v3 + 1))
  intro j11 hj11
  refine z_if_ge (tgt := 34) (pc := 27) dX7_debtorsWithout_27 (by decide) (fun _ => ?_) (fun _ => ?_)
  · refine z_iconst (v := 0) (pc := 34) dX7_debtorsWithout_34 (by decide) ?_
    exact z_wk (hj11 0) (And.intro rfl (And.intro rfl trivial))
  refine z_iconst (v := 1) (pc := 30) dX7_debtorsWithout_30 (by decide) ?_
  refine z_goto (tgt := 35) (pc := 31) dX7_debtorsWithout_31 (by decide) ?_
  exact z_wk (hj11 1) (And.intro rfl (And.intro rfl trivial))
set_option maxHeartbeats 2000000 in
set_option maxRecDepth 20000 in
theorem m_X9_sale {G : Z_G} (hG : z_GG G) (h : Z_H) (a : Nat) (x1 : Int32) (x2 : Int32) : z_Met G iX9_sale [.ref a, .int x1, .int x2] h ((f_X9_sale h a x1 x2).bind some) := by
  refine z_in (la := [some (.ref a), some (.int x1), some (.int x2), none]) (by decide) rfl rfl rfl ?_
  unfold f_X9_sale
  refine z_gg (fun _ => ?_)
  refine z_aload_n (x := a) (pc := 0) dX9_sale_0 rfl rfl ?_
  refine z_getR cX9 (pc := 1) dX9_sale_1 (j := 0) (by decide) rfl w_403 (fun r1 => ?_)
  refine z_getR cX7 (pc := 4) dX9_sale_4 (j := 3) (by decide) rfl w_251 (fun r2 => ?_)
  refine z_astore_n (i := 3) (la' := [some (.ref a), some (.int x1), some (.int x2), some (.ref r2)]) (pc := 7) dX9_sale_7 rfl (by decide) rfl rfl ?_
  refine z_aload_n (x := r2) (pc := 8) dX9_sale_8 rfl rfl ?_
  refine z_iload_n (x := x1) (pc := 9) dX9_sale_9 rfl rfl ?_
  refine z_cVP (As := [.int x1]) (rest := []) hG.1 (m_X5_has hG h r2 x1) (fun _ e => z_gdb e) oX5_has (pc := 10) dX9_sale_10 rfl w_812 rfl rfl rfl (fun t3 => ?_)
  refine z_if_ne (tgt := 19) (pc := 13) dX9_sale_13 (by decide) (fun _ => ?_) (fun _ => ?_)
  · refine z_iload_n (x := x2) (pc := 19) dX9_sale_19 rfl rfl ?_
    refine z_bz (fun hs0 => ?_) (fun hs0 => ?_)
    · refine z_tsw (tgt := 80) (off := 60) (pc := 20) dX9_sale_20 (by rw [hs0]; decide) (by rw [hs0]; decide) (by rw [hs0]; rfl) (by decide) ?_
      refine z_aload_n (x := r2) (pc := 80) dX9_sale_80 rfl rfl ?_
      refine z_getR cX5 (pc := 81) dX9_sale_81 (j := 1) (by decide) rfl w_190 (fun r4 => ?_)
      refine z_iload_n (x := x1) (pc := 84) dX9_sale_84 rfl rfl ?_
      refine z_aldI (pc := 85) dX9_sale_85 (fun t5 => ?_)
      exact z_ireturn (pc := 86) dX9_sale_86 rfl rfl rfl
    refine z_bz (fun hs1 => ?_) (fun hs1 => ?_)
    · refine z_tsw (tgt := 87) (off := 67) (pc := 20) dX9_sale_20 (by rw [hs1]; decide) (by rw [hs1]; decide) (by rw [hs1]; rfl) (by decide) ?_
      refine z_aload_n (x := r2) (pc := 87) dX9_sale_87 rfl rfl ?_
      refine z_getR cX5 (pc := 88) dX9_sale_88 (j := 2) (by decide) rfl w_192 (fun r6 => ?_)
      refine z_iload_n (x := x1) (pc := 91) dX9_sale_91 rfl rfl ?_
      refine z_aldI (pc := 92) dX9_sale_92 (fun t7 => ?_)
      exact z_ireturn (pc := 93) dX9_sale_93 rfl rfl rfl
    refine z_bz (fun hs2 => ?_) (fun hs2 => ?_)
    · refine z_tsw (tgt := 94) (off := 74) (pc := 20) dX9_sale_20 (by rw [hs2]; decide) (by rw [hs2]; decide) (by rw [hs2]; rfl) (by decide) ?_
      refine z_aload_n (x := r2) (pc := 94) dX9_sale_94 rfl rfl ?_
      refine z_getR cX5 (pc := 95) dX9_sale_95 (j := 3) (by decide) rfl w_195 (fun r8 => ?_)
      refine z_iload_n (x := x1) (pc := 98) dX9_sale_98 rfl rfl ?_
      refine z_aldI (pc := 99) dX9_sale_99 (fun t9 => ?_)
      exact z_ireturn (pc := 100) dX9_sale_100 rfl rfl rfl
    refine z_bz (fun hs3 => ?_) (fun hs3 => ?_)
    · refine z_tsw (tgt := 101) (off := 81) (pc := 20) dX9_sale_20 (by rw [hs3]; decide) (by rw [hs3]; decide) (by rw [hs3]; rfl) (by decide) ?_
      refine z_aload_n (x := r2) (pc := 101) dX9_sale_101 rfl rfl ?_
      refine z_getR cX5 (pc := 102) dX9_sale_102 (j := 4) (by decide) rfl w_198 (fun r10 => ?_)
      refine z_iload_n (x := x1) (pc := 105) dX9_sale_105 rfl rfl ?_
      refine z_aldI (pc := 106) dX9_sale_106 (fun t11 => ?_)
      exact z_ireturn (pc := 107) dX9_sale_107 rfl rfl rfl
    refine z_bz (fun hs4 => ?_) (fun hs4 => ?_)
    · refine z_tsw (tgt := 108) (off := 88) (pc := 20) dX9_sale_20 (by rw [hs4]; decide) (by rw [hs4]; decide) (by rw [hs4]; rfl) (by decide) ?_
      refine z_aload_n (x := r2) (pc := 108) dX9_sale_108 rfl rfl ?_
      refine z_getR cX5 (pc := 109) dX9_sale_109 (j := 5) (by decide) rfl w_200 (fun r12 => ?_)
      refine z_iload_n (x := x1) (pc := 112) dX9_sale_112 rfl rfl ?_
      refine z_aldI (pc := 113) dX9_sale_113 (fun t13 => ?_)
      exact z_ireturn (pc := 114) dX9_sale_114 rfl rfl rfl
    refine z_bz (fun hs5 => ?_) (fun hs5 => ?_)
    · refine z_tsw (tgt := 115) (off := 95) (pc := 20) dX9_sale_20 (by rw [hs5]; decide) (by rw [hs5]; decide) (by rw [hs5]; rfl) (by decide) ?_
      refine z_aload_n (x := r2) (pc := 115) dX9_sale_115 rfl rfl ?_
      refine z_iload_n (x := x1) (pc := 116) dX9_sale_116 rfl rfl ?_
      refine z_cVP (As := [.int x1]) (rest := []) hG.1 (m_X5_netAmount hG h r2 x1) (fun _ e => z_gdb e) oX5_netAmount (pc := 117) dX9_sale_117 rfl w_884 rfl rfl rfl (fun t14 => ?_)
      exact z_ireturn (pc := 120) dX9_sale_120 rfl rfl rfl
    refine z_bz (fun hs6 => ?_) (fun hs6 => ?_)
    · refine z_tsw (tgt := 121) (off := 101) (pc := 20) dX9_sale_20 (by rw [hs6]; decide) (by rw [hs6]; decide) (by rw [hs6]; rfl) (by decide) ?_
      refine z_aload_n (x := r2) (pc := 121) dX9_sale_121 rfl rfl ?_
      refine z_getR cX5 (pc := 122) dX9_sale_122 (j := 6) (by decide) rfl w_202 (fun r15 => ?_)
      refine z_iload_n (x := x1) (pc := 125) dX9_sale_125 rfl rfl ?_
      refine z_aldI (pc := 126) dX9_sale_126 (fun t16 => ?_)
      exact z_ireturn (pc := 127) dX9_sale_127 rfl rfl rfl
    refine z_bz (fun hs7 => ?_) (fun hs7 => ?_)
    · refine z_tsw (tgt := 128) (off := 108) (pc := 20) dX9_sale_20 (by rw [hs7]; decide) (by rw [hs7]; decide) (by rw [hs7]; rfl) (by decide) ?_
      refine z_aload_n (x := r2) (pc := 128) dX9_sale_128 rfl rfl ?_
      refine z_iload_n (x := x1) (pc := 129) dX9_sale_129 rfl rfl ?_
      refine z_iconst (v := 2) (pc := 130) dX9_sale_130 (by decide) ?_
      refine z_cVP (As := [.int x1, .int 2]) (rest := []) hG.1 (m_X5_together hG h r2 x1 2) (fun _ e => z_gdb e) oX5_together (pc := 131) dX9_sale_131 rfl w_885 rfl rfl rfl (fun t17 => ?_)
      exact z_ireturn (pc := 134) dX9_sale_134 rfl rfl rfl
    refine z_bz (fun hs8 => ?_) (fun hs8 => ?_)
    · refine z_tsw (tgt := 135) (off := 115) (pc := 20) dX9_sale_20 (by rw [hs8]; decide) (by rw [hs8]; decide) (by rw [hs8]; rfl) (by decide) ?_
      refine z_aload_n (x := r2) (pc := 135) dX9_sale_135 rfl rfl ?_
      refine z_iload_n (x := x1) (pc := 136) dX9_sale_136 rfl rfl ?_
      refine z_cVP (As := [.int x1]) (rest := []) hG.1 (m_X5_netPays hG h r2 x1) (fun _ e => z_gdb e) oX5_netPays (pc := 137) dX9_sale_137 rfl w_889 rfl rfl rfl (fun t18 => ?_)
      exact z_ireturn (pc := 140) dX9_sale_140 rfl rfl rfl
    refine z_bz (fun hs9 => ?_) (fun hs9 => ?_)
    · refine z_tsw (tgt := 141) (off := 121) (pc := 20) dX9_sale_20 (by rw [hs9]; decide) (by rw [hs9]; decide) (by rw [hs9]; rfl) (by decide) ?_
      refine z_aload_n (x := a) (pc := 141) dX9_sale_141 rfl rfl ?_
      refine z_iload_n (x := x1) (pc := 142) dX9_sale_142 rfl rfl ?_
      refine z_dVI (As := [.int x1]) (rest := []) hG.1 (m_X9_isStale hG h a x1) (fun _ e => z_gdb e) oX9_isStale (pc := 143) dX9_sale_143 rfl w_894 rfl rfl rfl (fun t19 h20 => ?_)
      refine z_if_eq (tgt := 153) (pc := 146) dX9_sale_146 (by decide) (fun _ => ?_) (fun _ => ?_)
      · refine z_iconst (v := 0) (pc := 153) dX9_sale_153 (by decide) ?_
        exact z_ireturn (pc := 154) dX9_sale_154 rfl rfl rfl
      refine z_iconst (v := 1) (pc := 149) dX9_sale_149 (by decide) ?_
      refine z_goto (tgt := 154) (pc := 150) dX9_sale_150 (by decide) ?_
      exact z_ireturn (pc := 154) dX9_sale_154 rfl rfl rfl
    refine z_bz (fun hs10 => ?_) (fun hs10 => ?_)
    · refine z_tsw (tgt := 155) (off := 135) (pc := 20) dX9_sale_20 (by rw [hs10]; decide) (by rw [hs10]; decide) (by rw [hs10]; rfl) (by decide) ?_
      refine z_aload_n (x := a) (pc := 155) dX9_sale_155 rfl rfl ?_
      refine z_getR cX9 (pc := 156) dX9_sale_156 (j := 0) (by decide) rfl w_403 (fun r21 => ?_)
      refine z_iload_n (x := x1) (pc := 159) dX9_sale_159 rfl rfl ?_
      refine z_dVI (As := [.int x1]) (rest := []) hG.1 (m_X7_debtorsWithout hG h r21 x1) (fun _ e => z_gdb e) oX7_debtorsWithout (pc := 160) dX9_sale_160 rfl w_903 rfl rfl rfl (fun t22 h23 => ?_)
      exact z_ireturn (pc := 163) dX9_sale_163 rfl rfl rfl
    refine z_tswO (tgt := 164) (pc := 20) dX9_sale_20 (z_out (fun v h1 h2 => by
      have hv : v = 0 ∨ v = 1 ∨ v = 2 ∨ v = 3 ∨ v = 4 ∨ v = 5 ∨ v = 6 ∨ v = 7 ∨ v = 8 ∨ v = 9 ∨ v = 10 := by omega
      rcases hv with rfl | rfl | rfl | rfl | rfl | rfl | rfl | rfl | rfl | rfl | rfl
      · exact hs0
      · exact hs1
      · exact hs2
      · exact hs3
      · exact hs4
      · exact hs5
      · exact hs6
      · exact hs7
      · exact hs8
      · exact hs9
      · exact hs10)) (by decide) ?_
    refine z_bipush (v := (-2)) (pc := 164) dX9_sale_164 (by decide) ?_
    exact z_ireturn (pc := 166) dX9_sale_166 rfl rfl rfl
  refine z_bipush (v := (-2)) (pc := 16) dX9_sale_16 (by decide) ?_
  exact z_ireturn (pc := 18) dX9_sale_18 rfl rfl rfl
set_option maxHeartbeats 2000000 in
set_option maxRecDepth 20000 in
theorem m_X10_paysOf {G : Z_G} (hG : z_GG G) (h : Z_H) (a : Nat) (x1 : Int32) (x2 : Int32) : z_Met G iX10_paysOf [.ref a, .int x1, .int x2] h ((f_X10_paysOf h a x1 x2).bind fun r => some (r, h)) := by
  refine z_in (la := [some (.ref a), some (.int x1), some (.int x2), none, none]) (by decide) rfl rfl rfl ?_
  unfold f_X10_paysOf
  refine z_gg (fun _ => ?_)
  refine z_iconst (v := 0) (pc := 0) dX10_paysOf_0 (by decide) ?_
  refine z_istore_n (i := 3) (la' := [some (.ref a), some (.int x1), some (.int x2), some (.int 0), none]) (pc := 1) dX10_paysOf_1 rfl (by decide) rfl rfl ?_
  refine z_iconst (v := 0) (pc := 2) dX10_paysOf_2 (by decide) ?_
  refine z_istore (i := 4) (la' := [some (.ref a), some (.int x1), some (.int x2), some (.int 0), some (.int 0)]) (pc := 3) dX10_paysOf_3 (by decide) rfl rfl ?_
  refine z_lp (T := Int32) (s0 := (0, 0)) 5 (fun ((v1, v2) : Int32 × Int32) => [some (.ref a), some (.int x1), some (.int x2), some (.int v1), some (.int v2)]) (fun ((v1, v2) : Int32 × Int32) => h) (fun _ => 33) (fun (v3 : Int32) => [none, none, none, some (.int v3), none]) (fun (v3 : Int32) => h) ?_ ?_
  · rintro v3
    try dsimp only
    refine z_iload_n (x := v3) (pc := 33) dX10_paysOf_33 rfl rfl ?_
    exact z_ireturn (pc := 34) dX10_paysOf_34 rfl rfl rfl
  intro k' hx1 rec4 hrec4
  rintro ⟨v1, v2⟩
  unfold f_X10_paysOf_l1
  try dsimp only
  refine z_iload (x := v2) (pc := 5) dX10_paysOf_5 rfl ?_
  refine z_aload_n (x := a) (pc := 7) dX10_paysOf_7 rfl rfl ?_
  refine z_iload_n (x := x1) (pc := 8) dX10_paysOf_8 rfl rfl ?_
  refine z_iconst (v := 5) (pc := 9) dX10_paysOf_9 (by decide) ?_
  refine z_cVP (As := [.int x1, .int 5]) (rest := [.int v2]) hG.1 (m_X10_ofSale hG h a x1 5) (fun _ e => z_gdb e) oX10_ofSale (pc := 10) dX10_paysOf_10 rfl w_1311 rfl rfl rfl (fun t5 => ?_)
  refine z_ic_ge (tgt := 33) (pc := 13) dX10_paysOf_13 (by decide) (fun _ => ?_) (fun _ => ?_)
  · exact z_wk (hx1 v1) (And.intro rfl trivial)
  refine z_iload_n (x := v1) (pc := 16) dX10_paysOf_16 rfl rfl ?_
  refine z_aload_n (x := a) (pc := 17) dX10_paysOf_17 rfl rfl ?_
  refine z_iload_n (x := x1) (pc := 18) dX10_paysOf_18 rfl rfl ?_
  refine z_iload (x := v2) (pc := 19) dX10_paysOf_19 rfl ?_
  refine z_iload_n (x := x2) (pc := 21) dX10_paysOf_21 rfl rfl ?_
  refine z_cVP (As := [.int x1, .int v2, .int x2]) (rest := [.int v1]) hG.1 (m_X10_ofLevel hG h a x1 v2 x2) (fun _ e => z_gdb e) oX10_ofLevel (pc := 22) dX10_paysOf_22 rfl w_1315 rfl rfl rfl (fun t6 => ?_)
  refine z_iadd (pc := 25) dX10_paysOf_25 ?_
  refine z_nm (fun v7 => ?_)
  refine z_istore_n (i := 3) (la' := [some (.ref a), some (.int x1), some (.int x2), some (.int v7), some (.int v2)]) (pc := 26) dX10_paysOf_26 rfl (by decide) rfl rfl ?_
  refine z_iinc (i := 4) (x := v2) (v := (v2 + 1)) (la' := [some (.ref a), some (.int x1), some (.int x2), some (.int v7), some (.int (v2 + 1))]) (pc := 27) dX10_paysOf_27 rfl rfl (by decide) rfl rfl ?_
  refine z_goto (tgt := 5) (pc := 30) dX10_paysOf_30 (by decide) ?_
  exact hrec4 (v7, (v2 + 1))
set_option maxHeartbeats 2000000 in
set_option maxRecDepth 20000 in
theorem m_X10_netPaysOf {G : Z_G} (hG : z_GG G) (h : Z_H) (a : Nat) (x1 : Int32) : z_Met G iX10_netPaysOf [.ref a, .int x1] h ((f_X10_netPaysOf h a x1).bind fun r => some (r, h)) := by
  refine z_in (la := [some (.ref a), some (.int x1), none, none]) (by decide) rfl rfl rfl ?_
  unfold f_X10_netPaysOf
  refine z_gg (fun _ => ?_)
  refine z_iconst (v := 0) (pc := 0) dX10_netPaysOf_0 (by decide) ?_
  refine z_istore_n (i := 2) (la' := [some (.ref a), some (.int x1), some (.int 0), none]) (pc := 1) dX10_netPaysOf_1 rfl (by decide) rfl rfl ?_
  refine z_iconst (v := 0) (pc := 2) dX10_netPaysOf_2 (by decide) ?_
  refine z_istore_n (i := 3) (la' := [some (.ref a), some (.int x1), some (.int 0), some (.int 0)]) (pc := 3) dX10_netPaysOf_3 rfl (by decide) rfl rfl ?_
  refine z_lp (T := Int32) (s0 := (0, 0)) 4 (fun ((v1, v2) : Int32 × Int32) => [some (.ref a), some (.int x1), some (.int v1), some (.int v2)]) (fun ((v1, v2) : Int32 × Int32) => h) (fun _ => 29) (fun (v3 : Int32) => [none, none, some (.int v3), none]) (fun (v3 : Int32) => h) ?_ ?_
  · rintro v3
    try dsimp only
    refine z_iload_n (x := v3) (pc := 29) dX10_netPaysOf_29 rfl rfl ?_
    exact z_ireturn (pc := 30) dX10_netPaysOf_30 rfl rfl rfl
  intro k' hx1 rec4 hrec4
  rintro ⟨v1, v2⟩
  unfold f_X10_netPaysOf_l1
  try dsimp only
  refine z_iload_n (x := v2) (pc := 4) dX10_netPaysOf_4 rfl rfl ?_
  refine z_aload_n (x := a) (pc := 5) dX10_netPaysOf_5 rfl rfl ?_
  refine z_iload_n (x := x1) (pc := 6) dX10_netPaysOf_6 rfl rfl ?_
  refine z_iconst (v := 5) (pc := 7) dX10_netPaysOf_7 (by decide) ?_
  refine z_cVP (As := [.int x1, .int 5]) (rest := [.int v2]) hG.1 (m_X10_ofSale hG h a x1 5) (fun _ e => z_gdb e) oX10_ofSale (pc := 8) dX10_netPaysOf_8 rfl w_1311 rfl rfl rfl (fun t5 => ?_)
  refine z_ic_ge (tgt := 29) (pc := 11) dX10_netPaysOf_11 (by decide) (fun _ => ?_) (fun _ => ?_)
  · exact z_wk (hx1 v1) (And.intro rfl trivial)
  refine z_iload_n (x := v1) (pc := 14) dX10_netPaysOf_14 rfl rfl ?_
  refine z_aload_n (x := a) (pc := 15) dX10_netPaysOf_15 rfl rfl ?_
  refine z_iload_n (x := x1) (pc := 16) dX10_netPaysOf_16 rfl rfl ?_
  refine z_iload_n (x := v2) (pc := 17) dX10_netPaysOf_17 rfl rfl ?_
  refine z_cVP (As := [.int x1, .int v2]) (rest := [.int v1]) hG.1 (m_X10_netPay hG h a x1 v2) (fun _ e => z_gdb e) oX10_netPay (pc := 18) dX10_netPaysOf_18 rfl w_1319 rfl rfl rfl (fun t6 => ?_)
  refine z_iadd (pc := 21) dX10_netPaysOf_21 ?_
  refine z_nm (fun v7 => ?_)
  refine z_istore_n (i := 2) (la' := [some (.ref a), some (.int x1), some (.int v7), some (.int v2)]) (pc := 22) dX10_netPaysOf_22 rfl (by decide) rfl rfl ?_
  refine z_iinc (i := 3) (x := v2) (v := (v2 + 1)) (la' := [some (.ref a), some (.int x1), some (.int v7), some (.int (v2 + 1))]) (pc := 23) dX10_netPaysOf_23 rfl rfl (by decide) rfl rfl ?_
  refine z_goto (tgt := 4) (pc := 26) dX10_netPaysOf_26 (by decide) ?_
  exact hrec4 (v7, (v2 + 1))
set_option maxHeartbeats 2000000 in
set_option maxRecDepth 20000 in
theorem m_X10_laysRepaid {G : Z_G} (hG : z_GG G) (h : Z_H) (a : Nat) (x1 : Int32) : z_Met G iX10_laysRepaid [.ref a, .int x1] h ((f_X10_laysRepaid h a x1).bind some) := by
  refine z_in (la := [some (.ref a), some (.int x1)]) (by decide) rfl rfl rfl ?_
  unfold f_X10_laysRepaid
  refine z_gg (fun _ => ?_)
  refine z_aload_n (x := a) (pc := 0) dX10_laysRepaid_0 rfl rfl ?_
  refine z_cVV (As := []) (rest := []) hG.1 (m_X10_laysOwn hG h a) (fun _ e => z_gdb e) oX10_laysOwn (pc := 1) dX10_laysRepaid_1 rfl w_1346 rfl rfl rfl (fun h1 => ?_)
  refine z_aload_n (x := a) (pc := 4) dX10_laysRepaid_4 rfl rfl ?_
  refine z_aload_n (x := a) (pc := 5) dX10_laysRepaid_5 rfl rfl ?_
  refine z_cVP (As := []) (rest := [.ref a]) hG.1 (m_X10_now hG h1 a) (fun _ e => z_gdb e) oX10_now (pc := 6) dX10_laysRepaid_6 rfl w_1247 rfl rfl rfl (fun t2 => ?_)
  refine z_cVV (As := [.int t2]) (rest := []) hG.1 (m_X10_laysMonth hG h1 a t2) (fun _ e => z_gdb e) oX10_laysMonth (pc := 9) dX10_laysRepaid_9 rfl w_1283 rfl rfl rfl (fun h3 => ?_)
  refine z_aload_n (x := a) (pc := 12) dX10_laysRepaid_12 rfl rfl ?_
  refine z_aload_n (x := a) (pc := 13) dX10_laysRepaid_13 rfl rfl ?_
  refine z_iload_n (x := x1) (pc := 14) dX10_laysRepaid_14 rfl rfl ?_
  refine z_iconst (v := 0) (pc := 15) dX10_laysRepaid_15 (by decide) ?_
  refine z_cVP (As := [.int x1, .int 0]) (rest := [.ref a]) hG.1 (m_X10_ofSale hG h3 a x1 0) (fun _ e => z_gdb e) oX10_ofSale (pc := 16) dX10_laysRepaid_16 rfl w_1311 rfl rfl rfl (fun t4 => ?_)
  refine z_aload_n (x := a) (pc := 19) dX10_laysRepaid_19 rfl rfl ?_
  refine z_iload_n (x := x1) (pc := 20) dX10_laysRepaid_20 rfl rfl ?_
  refine z_aload_n (x := a) (pc := 21) dX10_laysRepaid_21 rfl rfl ?_
  refine z_iload_n (x := x1) (pc := 22) dX10_laysRepaid_22 rfl rfl ?_
  refine z_iconst (v := 1) (pc := 23) dX10_laysRepaid_23 (by decide) ?_
  refine z_cVP (As := [.int x1, .int 1]) (rest := [.int x1, .ref a, .int t4, .ref a]) hG.1 (m_X10_ofSale hG h3 a x1 1) (fun _ e => z_gdb e) oX10_ofSale (pc := 24) dX10_laysRepaid_24 rfl w_1311 rfl rfl rfl (fun t5 => ?_)
  refine z_cVP (As := [.int x1, .int t5]) (rest := [.int t4, .ref a]) hG.1 (m_X10_net hG h3 a x1 t5) (fun _ e => z_gdb e) oX10_net (pc := 27) dX10_laysRepaid_27 rfl w_1323 rfl rfl rfl (fun t6 => ?_)
  refine z_cVV (As := [.int t4, .int t6]) (rest := []) hG.1 (m_X10_pays hG h3 a t4 t6) (fun _ e => z_gdb e) oX10_pays (pc := 30) dX10_laysRepaid_30 rfl w_1350 rfl rfl rfl (fun h7 => ?_)
  refine z_iconst (v := 1) (pc := 33) dX10_laysRepaid_33 (by decide) ?_
  exact z_ireturn (pc := 34) dX10_laysRepaid_34 rfl (by decide) rfl
