set_option maxHeartbeats 2000000 in
set_option maxRecDepth 20000 in
theorem m_X10_isStale {G : Z_G} (hG : z_GG G) (h : Z_H) (a : Nat) (x1 : Int32) : z_Met G iX10_isStale [.ref a, .int x1] h ((f_X10_isStale h a x1).bind some) := by
  refine z_in (la := [some (.ref a), some (.int x1), none, none]) (by decide) rfl rfl rfl ?_
  unfold f_X10_isStale
  refine z_gg (fun _ => ?_)
  refine z_aload_n (x := a) (pc := 0) dX10_isStale_0 rfl rfl ?_
  refine z_iload_n (x := x1) (pc := 1) dX10_isStale_1 rfl rfl ?_
  refine z_dVI (As := [.int x1]) (rest := []) hG.1 (m_X10_laysRepaid hG h a x1) (fun _ e => z_gdb e) oX10_laysRepaid (pc := 2) dX10_isStale_2 rfl w_1493 rfl rfl rfl (fun t1 h2 => ?_)
  refine z_pop (pc := 5) dX10_isStale_5 rfl ?_
  refine z_aload_n (x := a) (pc := 6) dX10_isStale_6 rfl rfl ?_
  refine z_getI cX10 (pc := 7) dX10_isStale_7 (j := 24) (by decide) rfl w_1111 (fun t3 => ?_)
  refine z_aload_n (x := a) (pc := 10) dX10_isStale_10 rfl rfl ?_
  refine z_iload_n (x := x1) (pc := 11) dX10_isStale_11 rfl rfl ?_
  refine z_iconst (v := 5) (pc := 12) dX10_isStale_12 (by decide) ?_
  refine z_cVP (As := [.int x1, .int 5]) (rest := [.int t3]) hG.1 (m_X10_ofSale hG h2 a x1 5) (fun _ e => z_gdb e) oX10_ofSale (pc := 13) dX10_isStale_13 rfl w_1311 rfl rfl rfl (fun t4 => ?_)
  refine z_jn 24 (fun (y5 : Int32) => [some (.ref a), some (.int x1), none, none]) (fun (y5 : Int32) => [.int y5]) (fun (y5 : Int32) => h2) ?_ ?_
  · rintro y5
    try dsimp only
    refine z_istore_n (i := 2) (la' := [some (.ref a), some (.int x1), some (.int y5), none]) (pc := 24) dX10_isStale_24 rfl (by decide) rfl rfl ?_
    refine z_iconst (v := 0) (pc := 25) dX10_isStale_25 (by decide) ?_
    refine z_istore_n (i := 3) (la' := [some (.ref a), some (.int x1), some (.int y5), some (.int 0)]) (pc := 26) dX10_isStale_26 rfl (by decide) rfl rfl ?_
    refine z_lp (T := Int32) (s0 := (y5, 0)) 27 (fun ((v7, v8) : Int32 × Int32) => [some (.ref a), some (.int x1), some (.int v7), some (.int v8)]) (fun ((v7, v8) : Int32 × Int32) => h2) (fun _ => 70) (fun (v9 : Int32) => [none, none, some (.int v9), none]) (fun (v9 : Int32) => h2) ?_ ?_
    · rintro v9
      try dsimp only
      refine z_iload_n (x := v9) (pc := 70) dX10_isStale_70 rfl rfl ?_
      refine z_if_ne (tgt := 78) (pc := 71) dX10_isStale_71 (by decide) (fun _ => ?_) (fun _ => ?_)
      · refine z_iconst (v := 0) (pc := 78) dX10_isStale_78 (by decide) ?_
        exact z_ireturn (pc := 79) dX10_isStale_79 rfl (by decide) rfl
      refine z_iconst (v := 1) (pc := 74) dX10_isStale_74 (by decide) ?_
      refine z_goto (tgt := 79) (pc := 75) dX10_isStale_75 (by decide) ?_
      exact z_ireturn (pc := 79) dX10_isStale_79 rfl (by decide) rfl
    intro k' hx1 rec10 hrec10
    rintro ⟨v7, v8⟩
    unfold f_X10_isStale_l1
    try dsimp only
    refine z_iload_n (x := v8) (pc := 27) dX10_isStale_27 rfl rfl ?_
    refine z_aload_n (x := a) (pc := 28) dX10_isStale_28 rfl rfl ?_
    refine z_getI cX10 (pc := 29) dX10_isStale_29 (j := 24) (by decide) rfl w_1111 (fun t11 => ?_)
    refine z_ic_ge (tgt := 70) (pc := 32) dX10_isStale_32 (by decide) (fun _ => ?_) (fun _ => ?_)
    · exact z_wk (hx1 v7) (And.intro rfl trivial)
    refine z_iload_n (x := v7) (pc := 35) dX10_isStale_35 rfl rfl ?_
    refine z_if_eq (tgt := 70) (pc := 36) dX10_isStale_36 (by decide) (fun _ => ?_) (fun _ => ?_)
    · exact z_wk (hx1 v7) (And.intro rfl trivial)
    refine z_aload_n (x := a) (pc := 39) dX10_isStale_39 rfl rfl ?_
    refine z_getR cX10 (pc := 40) dX10_isStale_40 (j := 23) (by decide) rfl w_1110 (fun r12 => ?_)
    refine z_bipush (v := 7) (pc := 43) dX10_isStale_43 (by decide) ?_
    refine z_iload_n (x := v8) (pc := 45) dX10_isStale_45 rfl rfl ?_
    refine z_imul (pc := 46) dX10_isStale_46 ?_
    refine z_aldI (pc := 47) dX10_isStale_47 (fun t13 => ?_)
    refine z_aload_n (x := a) (pc := 48) dX10_isStale_48 rfl rfl ?_
    refine z_iload_n (x := x1) (pc := 49) dX10_isStale_49 rfl rfl ?_
    refine z_iload_n (x := v8) (pc := 50) dX10_isStale_50 rfl rfl ?_
    refine z_iconst (v := 0) (pc := 51) dX10_isStale_51 (by decide) ?_
    refine z_cVP (As := [.int x1, .int v8, .int 0]) (rest := [.int t13]) hG.1 (m_X10_ofLevel hG h2 a x1 v8 0) (fun _ e => z_gdb e) oX10_ofLevel (pc := 52) dX10_isStale_52 rfl w_1315 rfl rfl rfl (fun t14 => ?_)
    refine z_jn 63 (fun (y15 : Int32) => [some (.ref a), some (.int x1), none, some (.int v8)]) (fun (y15 : Int32) => [.int y15]) (fun (y15 : Int32) => h2) ?_ ?_
    · rintro y15
      try dsimp only
      refine z_istore_n (i := 2) (la' := [some (.ref a), some (.int x1), some (.int y15), some (.int v8)]) (pc := 63) dX10_isStale_63 rfl (by decide) rfl rfl ?_
      refine z_iinc (i := 3) (x := v8) (v := (v8 + 1)) (la' := [some (.ref a), some (.int x1), some (.int y15), some (.int (v8 + 1))]) (pc := 64) dX10_isStale_64 rfl rfl (by decide) rfl rfl ?_
      refine z_goto (tgt := 27) (pc := 67) dX10_isStale_67 (by decide) ?_
      exact hrec10 (y15, (v8 + 1))
    intro j16 hj16
    refine z_ic_ne (tgt := 62) (pc := 55) dX10_isStale_55 (by decide) (fun _ => ?_) (fun _ => ?_)
    · refine z_iconst (v := 0) (pc := 62) dX10_isStale_62 (by decide) ?_
      exact z_wk (hj16 0) (And.intro rfl (And.intro rfl (And.intro rfl trivial)))
    refine z_iconst (v := 1) (pc := 58) dX10_isStale_58 (by decide) ?_
    refine z_goto (tgt := 63) (pc := 59) dX10_isStale_59 (by decide) ?_
    exact z_wk (hj16 1) (And.intro rfl (And.intro rfl (And.intro rfl trivial)))
  intro j6 hj6
  refine z_ic_ne (tgt := 23) (pc := 16) dX10_isStale_16 (by decide) (fun _ => ?_) (fun _ => ?_)
  · refine z_iconst (v := 0) (pc := 23) dX10_isStale_23 (by decide) ?_
    exact hj6 0
  refine z_iconst (v := 1) (pc := 19) dX10_isStale_19 (by decide) ?_
  refine z_goto (tgt := 24) (pc := 20) dX10_isStale_20 (by decide) ?_
  exact hj6 1
set_option maxHeartbeats 2000000 in
set_option maxRecDepth 20000 in
theorem m_X10_spillOf {G : Z_G} (hG : z_GG G) (h : Z_H) (a : Nat) (x1 : Int32) : z_Met G iX10_spillOf [.ref a, .int x1] h ((f_X10_spillOf h a x1).bind fun r => some (r, h)) := by
  refine z_in (la := [some (.ref a), some (.int x1), none, none]) (by decide) rfl rfl rfl ?_
  unfold f_X10_spillOf
  refine z_gg (fun _ => ?_)
  refine z_iconst (v := 0) (pc := 0) dX10_spillOf_0 (by decide) ?_
  refine z_istore_n (i := 2) (la' := [some (.ref a), some (.int x1), some (.int 0), none]) (pc := 1) dX10_spillOf_1 rfl (by decide) rfl rfl ?_
  refine z_iconst (v := 0) (pc := 2) dX10_spillOf_2 (by decide) ?_
  refine z_istore_n (i := 3) (la' := [some (.ref a), some (.int x1), some (.int 0), some (.int 0)]) (pc := 3) dX10_spillOf_3 rfl (by decide) rfl rfl ?_
  refine z_lp (T := Int32) (s0 := (0, 0)) 4 (fun ((v1, v2) : Int32 × Int32) => [some (.ref a), some (.int x1), some (.int v1), some (.int v2)]) (fun ((v1, v2) : Int32 × Int32) => h) (fun _ => 49) (fun (v3 : Int32) => [none, none, some (.int v3), none]) (fun (v3 : Int32) => h) ?_ ?_
  · rintro v3
    try dsimp only
    refine z_iload_n (x := v3) (pc := 49) dX10_spillOf_49 rfl rfl ?_
    exact z_ireturn (pc := 50) dX10_spillOf_50 rfl rfl rfl
  intro k' hx1 rec4 hrec4
  rintro ⟨v1, v2⟩
  unfold f_X10_spillOf_l1
  try dsimp only
  refine z_iload_n (x := v2) (pc := 4) dX10_spillOf_4 rfl rfl ?_
  refine z_aload_n (x := a) (pc := 5) dX10_spillOf_5 rfl rfl ?_
  refine z_getR cX10 (pc := 6) dX10_spillOf_6 (j := 1) (by decide) rfl w_1088 (fun r5 => ?_)
  refine z_sipush (v := 145) (pc := 9) dX10_spillOf_9 (by decide) ?_
  refine z_aldI (pc := 12) dX10_spillOf_12 (fun t6 => ?_)
  refine z_ic_ge (tgt := 49) (pc := 13) dX10_spillOf_13 (by decide) (fun _ => ?_) (fun _ => ?_)
  · exact z_wk (hx1 v1) (And.intro rfl trivial)
  refine z_iload_n (x := v1) (pc := 16) dX10_spillOf_16 rfl rfl ?_
  refine z_aload_n (x := a) (pc := 17) dX10_spillOf_17 rfl rfl ?_
  refine z_iload_n (x := v2) (pc := 18) dX10_spillOf_18 rfl rfl ?_
  refine z_aload_n (x := a) (pc := 19) dX10_spillOf_19 rfl rfl ?_
  refine z_cVP (As := []) (rest := [.int v2, .ref a, .int v1]) hG.1 (m_X10_now hG h a) (fun _ e => z_gdb e) oX10_now (pc := 20) dX10_spillOf_20 rfl w_1247 rfl rfl rfl (fun t7 => ?_)
  refine z_iload_n (x := x1) (pc := 23) dX10_spillOf_23 rfl rfl ?_
  refine z_cVP (As := [.int v2, .int t7, .int x1]) (rest := [.int v1]) hG.1 (m_X10_earnedAt hG h a v2 t7 x1) (fun _ e => z_gdb e) oX10_earnedAt (pc := 24) dX10_spillOf_24 rfl w_1420 rfl rfl rfl (fun t8 => ?_)
  refine z_aload_n (x := a) (pc := 27) dX10_spillOf_27 rfl rfl ?_
  refine z_iload_n (x := v2) (pc := 28) dX10_spillOf_28 rfl rfl ?_
  refine z_iconst (v := 3) (pc := 29) dX10_spillOf_29 (by decide) ?_
  refine z_cVP (As := [.int v2, .int 3]) (rest := [.int t8, .int v1]) hG.1 (m_X10_ofSeller hG h a v2 3) (fun _ e => z_gdb e) oX10_ofSeller (pc := 30) dX10_spillOf_30 rfl w_1263 rfl rfl rfl (fun t9 => ?_)
  refine z_jn 41 (fun (y10 : Int32) => [some (.ref a), some (.int x1), none, some (.int v2)]) (fun (y10 : Int32) => [.int y10, .int v1]) (fun (y10 : Int32) => h) ?_ ?_
  · rintro y10
    try dsimp only
    refine z_iadd (pc := 41) dX10_spillOf_41 ?_
    refine z_nm (fun v12 => ?_)
    refine z_istore_n (i := 2) (la' := [some (.ref a), some (.int x1), some (.int v12), some (.int v2)]) (pc := 42) dX10_spillOf_42 rfl (by decide) rfl rfl ?_
    refine z_iinc (i := 3) (x := v2) (v := (v2 + 1)) (la' := [some (.ref a), some (.int x1), some (.int v12), some (.int (v2 + 1))]) (pc := 43) dX10_spillOf_43 rfl rfl (by decide) rfl rfl ?_
    refine z_goto (tgt := 4) (pc := 46) dX10_spillOf_46 (by decide) ?_
    exact hrec4 (v12, (v2 + 1))
  intro j11 hj11
  refine z_ic_ge (tgt := 40) (pc := 33) dX10_spillOf_33 (by decide) (fun _ => ?_) (fun _ => ?_)
  · refine z_iconst (v := 0) (pc := 40) dX10_spillOf_40 (by decide) ?_
    exact z_wk (hj11 0) (And.intro rfl (And.intro rfl (And.intro rfl trivial)))
  refine z_iconst (v := 1) (pc := 36) dX10_spillOf_36 (by decide) ?_
  refine z_goto (tgt := 41) (pc := 37) dX10_spillOf_37 (by decide) ?_
  exact z_wk (hj11 1) (And.intro rfl (And.intro rfl (And.intro rfl trivial)))
set_option maxHeartbeats 2000000 in
set_option maxRecDepth 20000 in
theorem m_X10_sale {G : Z_G} (hG : z_GG G) (h : Z_H) (a : Nat) (x1 : Int32) (x2 : Int32) : z_Met G iX10_sale [.ref a, .int x1, .int x2] h ((f_X10_sale h a x1 x2).bind some) := by
  refine z_in (la := [some (.ref a), some (.int x1), some (.int x2)]) (by decide) rfl rfl rfl ?_
  unfold f_X10_sale
  refine z_gg (fun _ => ?_)
  refine z_aload_n (x := a) (pc := 0) dX10_sale_0 rfl rfl ?_
  refine z_iconst (v := 0) (pc := 1) dX10_sale_1 (by decide) ?_
  refine z_putI cX10 (pc := 2) dX10_sale_2 (j := 0) (by decide) rfl rfl w_1087 (fun h1 => ?_)
  refine z_aload_n (x := a) (pc := 5) dX10_sale_5 rfl rfl ?_
  refine z_iload_n (x := x1) (pc := 6) dX10_sale_6 rfl rfl ?_
  refine z_cVP (As := [.int x1]) (rest := []) hG.1 (m_X10_isSale hG h1 a x1) (fun _ e => z_gdb e) oX10_isSale (pc := 7) dX10_sale_7 rfl w_1408 rfl rfl rfl (fun t2 => ?_)
  refine z_if_ne (tgt := 16) (pc := 10) dX10_sale_10 (by decide) (fun _ => ?_) (fun _ => ?_)
  · refine z_iload_n (x := x2) (pc := 16) dX10_sale_16 rfl rfl ?_
    refine z_jn 76 (fun (_ : Unit) => [some (.ref a), some (.int x1), some (.int x2)]) (fun (_ : Unit) => []) (fun (_ : Unit) => h1) ?_ ?_
    · rintro _
      try dsimp only
      refine z_aload_n (x := a) (pc := 76) dX10_sale_76 rfl rfl ?_
      refine z_iload_n (x := x1) (pc := 77) dX10_sale_77 rfl rfl ?_
      refine z_iload_n (x := x2) (pc := 78) dX10_sale_78 rfl rfl ?_
      refine z_cVP (As := [.int x1, .int x2]) (rest := []) hG.1 (m_X10_ofSale hG h1 a x1 x2) (fun _ e => z_gdb e) oX10_ofSale (pc := 79) dX10_sale_79 rfl w_1311 rfl rfl rfl (fun t4 => ?_)
      exact z_ireturn (pc := 82) dX10_sale_82 rfl rfl rfl
    intro j3 hj3
    refine z_bz (fun hs0 => ?_) (fun hs0 => ?_)
    · refine z_tsw (tgt := 76) (off := 59) (pc := 17) dX10_sale_17 (by rw [hs0]; decide) (by rw [hs0]; decide) (by rw [hs0]; rfl) (by decide) ?_
      exact hj3 ()
    refine z_bz (fun hs1 => ?_) (fun hs1 => ?_)
    · refine z_tsw (tgt := 76) (off := 59) (pc := 17) dX10_sale_17 (by rw [hs1]; decide) (by rw [hs1]; decide) (by rw [hs1]; rfl) (by decide) ?_
      exact hj3 ()
    refine z_bz (fun hs2 => ?_) (fun hs2 => ?_)
    · refine z_tsw (tgt := 76) (off := 59) (pc := 17) dX10_sale_17 (by rw [hs2]; decide) (by rw [hs2]; decide) (by rw [hs2]; rfl) (by decide) ?_
      exact hj3 ()
    refine z_bz (fun hs3 => ?_) (fun hs3 => ?_)
    · refine z_tsw (tgt := 76) (off := 59) (pc := 17) dX10_sale_17 (by rw [hs3]; decide) (by rw [hs3]; decide) (by rw [hs3]; rfl) (by decide) ?_
      exact hj3 ()
    refine z_bz (fun hs4 => ?_) (fun hs4 => ?_)
    · refine z_tsw (tgt := 76) (off := 59) (pc := 17) dX10_sale_17 (by rw [hs4]; decide) (by rw [hs4]; decide) (by rw [hs4]; rfl) (by decide) ?_
      exact hj3 ()
    refine z_bz (fun hs5 => ?_) (fun hs5 => ?_)
    · refine z_tsw (tgt := 83) (off := 66) (pc := 17) dX10_sale_17 (by rw [hs5]; decide) (by rw [hs5]; decide) (by rw [hs5]; rfl) (by decide) ?_
      refine z_aload_n (x := a) (pc := 83) dX10_sale_83 rfl rfl ?_
      refine z_iload_n (x := x1) (pc := 84) dX10_sale_84 rfl rfl ?_
      refine z_aload_n (x := a) (pc := 85) dX10_sale_85 rfl rfl ?_
      refine z_iload_n (x := x1) (pc := 86) dX10_sale_86 rfl rfl ?_
      refine z_iconst (v := 1) (pc := 87) dX10_sale_87 (by decide) ?_
      refine z_cVP (As := [.int x1, .int 1]) (rest := [.int x1, .ref a]) hG.1 (m_X10_ofSale hG h1 a x1 1) (fun _ e => z_gdb e) oX10_ofSale (pc := 88) dX10_sale_88 rfl w_1311 rfl rfl rfl (fun t5 => ?_)
      refine z_cVP (As := [.int x1, .int t5]) (rest := []) hG.1 (m_X10_net hG h1 a x1 t5) (fun _ e => z_gdb e) oX10_net (pc := 91) dX10_sale_91 rfl w_1323 rfl rfl rfl (fun t6 => ?_)
      exact z_ireturn (pc := 94) dX10_sale_94 rfl rfl rfl
    refine z_bz (fun hs6 => ?_) (fun hs6 => ?_)
    · refine z_tsw (tgt := 95) (off := 78) (pc := 17) dX10_sale_17 (by rw [hs6]; decide) (by rw [hs6]; decide) (by rw [hs6]; rfl) (by decide) ?_
      refine z_aload_n (x := a) (pc := 95) dX10_sale_95 rfl rfl ?_
      refine z_iload_n (x := x1) (pc := 96) dX10_sale_96 rfl rfl ?_
      refine z_iconst (v := 5) (pc := 97) dX10_sale_97 (by decide) ?_
      refine z_cVP (As := [.int x1, .int 5]) (rest := []) hG.1 (m_X10_ofSale hG h1 a x1 5) (fun _ e => z_gdb e) oX10_ofSale (pc := 98) dX10_sale_98 rfl w_1311 rfl rfl rfl (fun t7 => ?_)
      exact z_ireturn (pc := 101) dX10_sale_101 rfl rfl rfl
    refine z_bz (fun hs7 => ?_) (fun hs7 => ?_)
    · refine z_tsw (tgt := 102) (off := 85) (pc := 17) dX10_sale_17 (by rw [hs7]; decide) (by rw [hs7]; decide) (by rw [hs7]; rfl) (by decide) ?_
      refine z_aload_n (x := a) (pc := 102) dX10_sale_102 rfl rfl ?_
      refine z_iload_n (x := x1) (pc := 103) dX10_sale_103 rfl rfl ?_
      refine z_iconst (v := 2) (pc := 104) dX10_sale_104 (by decide) ?_
      refine z_cVP (As := [.int x1, .int 2]) (rest := []) hG.1 (m_X10_paysOf hG h1 a x1 2) (fun _ e => z_gdb e) oX10_paysOf (pc := 105) dX10_sale_105 rfl w_1481 rfl rfl rfl (fun t8 => ?_)
      exact z_ireturn (pc := 108) dX10_sale_108 rfl rfl rfl
    refine z_bz (fun hs8 => ?_) (fun hs8 => ?_)
    · refine z_tsw (tgt := 109) (off := 92) (pc := 17) dX10_sale_17 (by rw [hs8]; decide) (by rw [hs8]; decide) (by rw [hs8]; rfl) (by decide) ?_
      refine z_aload_n (x := a) (pc := 109) dX10_sale_109 rfl rfl ?_
      refine z_iload_n (x := x1) (pc := 110) dX10_sale_110 rfl rfl ?_
      refine z_cVP (As := [.int x1]) (rest := []) hG.1 (m_X10_netPaysOf hG h1 a x1) (fun _ e => z_gdb e) oX10_netPaysOf (pc := 111) dX10_sale_111 rfl w_1485 rfl rfl rfl (fun t9 => ?_)
      exact z_ireturn (pc := 114) dX10_sale_114 rfl rfl rfl
    refine z_bz (fun hs9 => ?_) (fun hs9 => ?_)
    · refine z_tsw (tgt := 115) (off := 98) (pc := 17) dX10_sale_17 (by rw [hs9]; decide) (by rw [hs9]; decide) (by rw [hs9]; rfl) (by decide) ?_
      refine z_aload_n (x := a) (pc := 115) dX10_sale_115 rfl rfl ?_
      refine z_iload_n (x := x1) (pc := 116) dX10_sale_116 rfl rfl ?_
      refine z_dVI (As := [.int x1]) (rest := []) hG.1 (m_X10_isStale hG h1 a x1) (fun _ e => z_gdb e) oX10_isStale (pc := 117) dX10_sale_117 rfl w_1489 rfl rfl rfl (fun t10 h11 => ?_)
      refine z_if_eq (tgt := 127) (pc := 120) dX10_sale_120 (by decide) (fun _ => ?_) (fun _ => ?_)
      · refine z_iconst (v := 0) (pc := 127) dX10_sale_127 (by decide) ?_
        exact z_ireturn (pc := 128) dX10_sale_128 rfl rfl rfl
      refine z_iconst (v := 1) (pc := 123) dX10_sale_123 (by decide) ?_
      refine z_goto (tgt := 128) (pc := 124) dX10_sale_124 (by decide) ?_
      exact z_ireturn (pc := 128) dX10_sale_128 rfl rfl rfl
    refine z_bz (fun hs10 => ?_) (fun hs10 => ?_)
    · refine z_tsw (tgt := 129) (off := 112) (pc := 17) dX10_sale_17 (by rw [hs10]; decide) (by rw [hs10]; decide) (by rw [hs10]; rfl) (by decide) ?_
      refine z_aload_n (x := a) (pc := 129) dX10_sale_129 rfl rfl ?_
      refine z_iload_n (x := x1) (pc := 130) dX10_sale_130 rfl rfl ?_
      refine z_cVP (As := [.int x1]) (rest := []) hG.1 (m_X10_spillOf hG h1 a x1) (fun _ e => z_gdb e) oX10_spillOf (pc := 131) dX10_sale_131 rfl w_1497 rfl rfl rfl (fun t12 => ?_)
      exact z_ireturn (pc := 134) dX10_sale_134 rfl rfl rfl
    refine z_tswO (tgt := 135) (pc := 17) dX10_sale_17 (z_out (fun v h1 h2 => by
      have hv : v = 0 ∨ v = 1 ∨ v = 2 ∨ v = 3 ∨ v = 4 ∨ v = 5 ∨ v = 6 ∨ v = 7 ∨ v = 8 ∨ v = 9 ∨ v = 10 := by omega
      rcases hv with rfl | rfl | rfl | rfl | rfl | rfl | rfl | rfl | rfl | rfl | rfl
      · exact hs0
      · exact hs1
      · exact hs2
      · exact hs3
      · exact hs4
      · exact hs5
      · exact hs6
      · exact hs7
      · exact hs8
      · exact hs9
      · exact hs10)) (by decide) ?_
    refine z_bipush (v := (-2)) (pc := 135) dX10_sale_135 (by decide) ?_
    exact z_ireturn (pc := 137) dX10_sale_137 rfl rfl rfl
  refine z_bipush (v := (-2)) (pc := 13) dX10_sale_13 (by decide) ?_
  exact z_ireturn (pc := 15) dX10_sale_15 rfl rfl rfl
set_option maxHeartbeats 2000000 in
set_option maxRecDepth 20000 in
theorem m_X9_pay {G : Z_G} (hG : z_GG G) (h : Z_H) (a : Nat) (x1 : Int32) (x2 : Int32) (x3 : Int32) : z_Met G iX9_pay [.ref a, .int x1, .int x2, .int x3] h ((f_X9_pay h a x1 x2 x3).bind fun r => some (r, h)) := by
  refine z_in (la := [some (.ref a), some (.int x1), some (.int x2), some (.int x3), none]) (by decide) rfl rfl rfl ?_
  unfold f_X9_pay
  refine z_gg (fun _ => ?_)
  refine z_aload_n (x := a) (pc := 0) dX9_pay_0 rfl rfl ?_
  refine z_getR cX9 (pc := 1) dX9_pay_1 (j := 0) (by decide) rfl w_403 (fun r1 => ?_)
  refine z_getR cX7 (pc := 4) dX9_pay_4 (j := 3) (by decide) rfl w_251 (fun r2 => ?_)
  refine z_astore (i := 4) (la' := [some (.ref a), some (.int x1), some (.int x2), some (.int x3), some (.ref r2)]) (pc := 7) dX9_pay_7 (by decide) rfl rfl ?_
  refine z_aload (x := r2) (pc := 9) dX9_pay_9 rfl ?_
  refine z_iload_n (x := x1) (pc := 11) dX9_pay_11 rfl rfl ?_
  refine z_cVP (As := [.int x1]) (rest := []) hG.1 (m_X5_has hG h r2 x1) (fun _ e => z_gdb e) oX5_has (pc := 12) dX9_pay_12 rfl w_812 rfl rfl rfl (fun t3 => ?_)
  refine z_if_eq (tgt := 34) (pc := 15) dX9_pay_15 (by decide) (fun _ => ?_) (fun _ => ?_)
  · refine z_bipush (v := (-2)) (pc := 34) dX9_pay_34 (by decide) ?_
    exact z_ireturn (pc := 36) dX9_pay_36 rfl rfl rfl
  refine z_iload_n (x := x2) (pc := 18) dX9_pay_18 rfl rfl ?_
  refine z_iconst (v := 1) (pc := 19) dX9_pay_19 (by decide) ?_
  refine z_ic_lt (tgt := 34) (pc := 20) dX9_pay_20 (by decide) (fun _ => ?_) (fun _ => ?_)
  · refine z_bipush (v := (-2)) (pc := 34) dX9_pay_34 (by decide) ?_
    exact z_ireturn (pc := 36) dX9_pay_36 rfl rfl rfl
  refine z_iload_n (x := x2) (pc := 23) dX9_pay_23 rfl rfl ?_
  refine z_aload (x := r2) (pc := 24) dX9_pay_24 rfl ?_
  refine z_getR cX5 (pc := 26) dX9_pay_26 (j := 6) (by decide) rfl w_202 (fun r4 => ?_)
  refine z_iload_n (x := x1) (pc := 29) dX9_pay_29 rfl rfl ?_
  refine z_aldI (pc := 30) dX9_pay_30 (fun t5 => ?_)
  refine z_ic_le (tgt := 37) (pc := 31) dX9_pay_31 (by decide) (fun _ => ?_) (fun _ => ?_)
  · refine z_iload_n (x := x3) (pc := 37) dX9_pay_37 rfl rfl ?_
    refine z_jn 56 (fun (_ : Unit) => [some (.ref a), some (.int x1), some (.int x2), some (.int x3), some (.ref r2)]) (fun (_ : Unit) => []) (fun (_ : Unit) => h) ?_ ?_
    · rintro _
      try dsimp only
      refine z_iload_n (x := x3) (pc := 56) dX9_pay_56 rfl rfl ?_
      refine z_bz (fun hs0 => ?_) (fun hs0 => ?_)
      · refine z_lsw (tgt := 84) (off := 27) (pc := 57) dX9_pay_57 rfl (by rw [hs0]; rfl) (by decide) ?_
        refine z_aload (x := r2) (pc := 84) dX9_pay_84 rfl ?_
        refine z_iload_n (x := x1) (pc := 86) dX9_pay_86 rfl rfl ?_
        refine z_iload_n (x := x2) (pc := 87) dX9_pay_87 rfl rfl ?_
        refine z_cVP (As := [.int x1, .int x2]) (rest := []) hG.1 (m_X5_netPay hG h r2 x1 x2) (fun _ e => z_gdb e) oX5_netPay (pc := 88) dX9_pay_88 rfl w_915 rfl rfl rfl (fun t7 => ?_)
        exact z_ireturn (pc := 91) dX9_pay_91 rfl rfl rfl
      refine z_bz (fun hs1 => ?_) (fun hs1 => ?_)
      · refine z_lsw (tgt := 92) (off := 35) (pc := 57) dX9_pay_57 rfl (by rw [hs1]; rfl) (by decide) ?_
        refine z_aload_n (x := a) (pc := 92) dX9_pay_92 rfl rfl ?_
        refine z_getR cX9 (pc := 93) dX9_pay_93 (j := 0) (by decide) rfl w_403 (fun r8 => ?_)
        refine z_iload_n (x := x1) (pc := 96) dX9_pay_96 rfl rfl ?_
        refine z_iload_n (x := x2) (pc := 97) dX9_pay_97 rfl rfl ?_
        refine z_aload_n (x := a) (pc := 98) dX9_pay_98 rfl rfl ?_
        refine z_getR cX9 (pc := 99) dX9_pay_99 (j := 0) (by decide) rfl w_403 (fun r9 => ?_)
        refine z_getI cX7 (pc := 102) dX9_pay_102 (j := 8) (by decide) rfl w_261 (fun t10 => ?_)
        refine z_cVP (As := [.int x1, .int x2, .int t10]) (rest := []) hG.1 (m_X7_vested hG h r8 x1 x2 t10) (fun _ e => z_gdb e) oX7_vested (pc := 105) dX9_pay_105 rfl w_916 rfl rfl rfl (fun t11 => ?_)
        exact z_ireturn (pc := 108) dX9_pay_108 rfl rfl rfl
      refine z_lsw (tgt := 109) (off := 52) (pc := 57) dX9_pay_57 rfl ((lv_osw hs0 (by decide)).trans ((lv_osw hs1 (by decide)).trans rfl)) (by decide) ?_
      refine z_bipush (v := (-2)) (pc := 109) dX9_pay_109 (by decide) ?_
      exact z_ireturn (pc := 111) dX9_pay_111 rfl rfl rfl
    intro j6 hj6
    refine z_if_lt (tgt := 56) (pc := 38) dX9_pay_38 (by decide) (fun _ => ?_) (fun _ => ?_)
    · exact hj6 ()
    refine z_iload_n (x := x3) (pc := 41) dX9_pay_41 rfl rfl ?_
    refine z_bipush (v := 7) (pc := 42) dX9_pay_42 (by decide) ?_
    refine z_ic_ge (tgt := 56) (pc := 44) dX9_pay_44 (by decide) (fun _ => ?_) (fun _ => ?_)
    · exact hj6 ()
    refine z_aload (x := r2) (pc := 47) dX9_pay_47 rfl ?_
    refine z_iload_n (x := x1) (pc := 49) dX9_pay_49 rfl rfl ?_
    refine z_iload_n (x := x2) (pc := 50) dX9_pay_50 rfl rfl ?_
    refine z_iload_n (x := x3) (pc := 51) dX9_pay_51 rfl rfl ?_
    refine z_cVP (As := [.int x1, .int x2, .int x3]) (rest := []) hG.1 (m_X5_fact hG h r2 x1 x2 x3) (fun _ e => z_gdb e) oX5_fact (pc := 52) dX9_pay_52 rfl w_816 rfl rfl rfl (fun t12 => ?_)
    exact z_ireturn (pc := 55) dX9_pay_55 rfl rfl rfl
  refine z_bipush (v := (-2)) (pc := 34) dX9_pay_34 (by decide) ?_
  exact z_ireturn (pc := 36) dX9_pay_36 rfl rfl rfl
set_option maxHeartbeats 2000000 in
set_option maxRecDepth 20000 in
theorem m_X10_pay {G : Z_G} (hG : z_GG G) (h : Z_H) (a : Nat) (x1 : Int32) (x2 : Int32) (x3 : Int32) : z_Met G iX10_pay [.ref a, .int x1, .int x2, .int x3] h ((f_X10_pay h a x1 x2 x3).bind some) := by
  refine z_in (la := [some (.ref a), some (.int x1), some (.int x2), some (.int x3), none]) (by decide) rfl rfl rfl ?_
  unfold f_X10_pay
  refine z_gg (fun _ => ?_)
  refine z_aload_n (x := a) (pc := 0) dX10_pay_0 rfl rfl ?_
  refine z_iconst (v := 0) (pc := 1) dX10_pay_1 (by decide) ?_
  refine z_putI cX10 (pc := 2) dX10_pay_2 (j := 0) (by decide) rfl rfl w_1087 (fun h1 => ?_)
  refine z_aload_n (x := a) (pc := 5) dX10_pay_5 rfl rfl ?_
  refine z_iload_n (x := x1) (pc := 6) dX10_pay_6 rfl rfl ?_
  refine z_cVP (As := [.int x1]) (rest := []) hG.1 (m_X10_isSale hG h1 a x1) (fun _ e => z_gdb e) oX10_isSale (pc := 7) dX10_pay_7 rfl w_1408 rfl rfl rfl (fun t2 => ?_)
  refine z_if_eq (tgt := 27) (pc := 10) dX10_pay_10 (by decide) (fun _ => ?_) (fun _ => ?_)
  · refine z_bipush (v := (-2)) (pc := 27) dX10_pay_27 (by decide) ?_
    exact z_ireturn (pc := 29) dX10_pay_29 rfl rfl rfl
  refine z_iload_n (x := x2) (pc := 13) dX10_pay_13 rfl rfl ?_
  refine z_iconst (v := 1) (pc := 14) dX10_pay_14 (by decide) ?_
  refine z_aload_n (x := a) (pc := 15) dX10_pay_15 rfl rfl ?_
  refine z_iload_n (x := x1) (pc := 16) dX10_pay_16 rfl rfl ?_
  refine z_iconst (v := 5) (pc := 17) dX10_pay_17 (by decide) ?_
  refine z_cVP (As := [.int x1, .int 5]) (rest := [.int 1, .int x2]) hG.1 (m_X10_ofSale hG h1 a x1 5) (fun _ e => z_gdb e) oX10_ofSale (pc := 18) dX10_pay_18 rfl w_1311 rfl rfl rfl (fun t3 => ?_)
  refine z_cSP (As := [.int x2, .int 1, .int t3]) (rest := []) hG.1 (m_X10_in hG h1 x2 1 t3) oX10_in (pc := 21) dX10_pay_21 rfl w_1179 rfl rfl rfl (fun t4 => ?_)
  refine z_if_ne (tgt := 30) (pc := 24) dX10_pay_24 (by decide) (fun _ => ?_) (fun _ => ?_)
  · refine z_iload_n (x := x2) (pc := 30) dX10_pay_30 rfl rfl ?_
    refine z_iconst (v := 1) (pc := 31) dX10_pay_31 (by decide) ?_
    refine z_isub (pc := 32) dX10_pay_32 ?_
    refine z_nm (fun v5 => ?_)
    refine z_istore (i := 4) (la' := [some (.ref a), some (.int x1), some (.int x2), some (.int x3), some (.int v5)]) (pc := 33) dX10_pay_33 (by decide) rfl rfl ?_
    refine z_iload_n (x := x3) (pc := 35) dX10_pay_35 rfl rfl ?_
    refine z_iconst (v := 0) (pc := 36) dX10_pay_36 (by decide) ?_
    refine z_bipush (v := 6) (pc := 37) dX10_pay_37 (by decide) ?_
    refine z_cSP (As := [.int x3, .int 0, .int 6]) (rest := []) hG.1 (m_X10_in hG h1 x3 0 6) oX10_in (pc := 39) dX10_pay_39 rfl w_1179 rfl rfl rfl (fun t6 => ?_)
    refine z_if_eq (tgt := 56) (pc := 42) dX10_pay_42 (by decide) (fun _ => ?_) (fun _ => ?_)
    · refine z_iload_n (x := x3) (pc := 56) dX10_pay_56 rfl rfl ?_
      refine z_bipush (v := 7) (pc := 57) dX10_pay_57 (by decide) ?_
      refine z_ic_ne (tgt := 72) (pc := 59) dX10_pay_59 (by decide) (fun _ => ?_) (fun _ => ?_)
      · refine z_iload_n (x := x3) (pc := 72) dX10_pay_72 rfl rfl ?_
        refine z_bipush (v := 8) (pc := 73) dX10_pay_73 (by decide) ?_
        refine z_ic_ne (tgt := 92) (pc := 75) dX10_pay_75 (by decide) (fun _ => ?_) (fun _ => ?_)
        · refine z_bipush (v := (-2)) (pc := 92) dX10_pay_92 (by decide) ?_
          exact z_ireturn (pc := 94) dX10_pay_94 rfl rfl rfl
        refine z_aload_n (x := a) (pc := 78) dX10_pay_78 rfl rfl ?_
        refine z_iload_n (x := x1) (pc := 79) dX10_pay_79 rfl rfl ?_
        refine z_iload (x := v5) (pc := 80) dX10_pay_80 rfl ?_
        refine z_aload_n (x := a) (pc := 82) dX10_pay_82 rfl rfl ?_
        refine z_cVP (As := []) (rest := [.int v5, .int x1, .ref a]) hG.1 (m_X10_now hG h1 a) (fun _ e => z_gdb e) oX10_now (pc := 83) dX10_pay_83 rfl w_1247 rfl rfl rfl (fun t7 => ?_)
        refine z_cVP (As := [.int x1, .int v5, .int t7]) (rest := []) hG.1 (m_X10_vestedAt hG h1 a x1 v5 t7) (fun _ e => z_gdb e) oX10_vestedAt (pc := 86) dX10_pay_86 rfl w_1327 rfl rfl rfl (fun t8 => ?_)
        refine z_goto (tgt := 94) (pc := 89) dX10_pay_89 (by decide) ?_
        exact z_ireturn (pc := 94) dX10_pay_94 rfl rfl rfl
      refine z_aload_n (x := a) (pc := 62) dX10_pay_62 rfl rfl ?_
      refine z_iload_n (x := x1) (pc := 63) dX10_pay_63 rfl rfl ?_
      refine z_iload (x := v5) (pc := 64) dX10_pay_64 rfl ?_
      refine z_cVP (As := [.int x1, .int v5]) (rest := []) hG.1 (m_X10_netPay hG h1 a x1 v5) (fun _ e => z_gdb e) oX10_netPay (pc := 66) dX10_pay_66 rfl w_1319 rfl rfl rfl (fun t9 => ?_)
      refine z_goto (tgt := 94) (pc := 69) dX10_pay_69 (by decide) ?_
      exact z_ireturn (pc := 94) dX10_pay_94 rfl rfl rfl
    refine z_aload_n (x := a) (pc := 45) dX10_pay_45 rfl rfl ?_
    refine z_iload_n (x := x1) (pc := 46) dX10_pay_46 rfl rfl ?_
    refine z_iload (x := v5) (pc := 47) dX10_pay_47 rfl ?_
    refine z_iload_n (x := x3) (pc := 49) dX10_pay_49 rfl rfl ?_
    refine z_cVP (As := [.int x1, .int v5, .int x3]) (rest := []) hG.1 (m_X10_ofLevel hG h1 a x1 v5 x3) (fun _ e => z_gdb e) oX10_ofLevel (pc := 50) dX10_pay_50 rfl w_1315 rfl rfl rfl (fun t10 => ?_)
    refine z_goto (tgt := 94) (pc := 53) dX10_pay_53 (by decide) ?_
    exact z_ireturn (pc := 94) dX10_pay_94 rfl rfl rfl
  refine z_bipush (v := (-2)) (pc := 27) dX10_pay_27 (by decide) ?_
  exact z_ireturn (pc := 29) dX10_pay_29 rfl rfl rfl
set_option maxHeartbeats 2000000 in
set_option maxRecDepth 20000 in
theorem m_X6_addSale {G : Z_G} (hG : z_GG G) (h : Z_H) (a : Nat) (x1 : Int32) (x2 : Int32) : z_Met G iX6_addSale [.ref a, .int x1, .int x2] h ((f_X6_addSale h a x1 x2).bind fun h1 => some (0, h1)) := by
  refine z_in (la := [some (.ref a), some (.int x1), some (.int x2)]) (by decide) rfl rfl rfl ?_
  unfold f_X6_addSale
  refine z_gg (fun _ => ?_)
  refine z_aload_n (x := a) (pc := 0) dX6_addSale_0 rfl rfl ?_
  refine z_getR cX6 (pc := 1) dX6_addSale_1 (j := 1) (by decide) rfl w_336 (fun r1 => ?_)
  refine z_iload_n (x := x1) (pc := 4) dX6_addSale_4 rfl rfl ?_
  refine z_dup2 (pc := 5) dX6_addSale_5 rfl rfl ?_
  refine z_aldI (pc := 6) dX6_addSale_6 (fun t2 => ?_)
  refine z_iload_n (x := x2) (pc := 7) dX6_addSale_7 rfl rfl ?_
  refine z_iadd (pc := 8) dX6_addSale_8 ?_
  refine z_astI (pc := 9) dX6_addSale_9 (fun h3 => ?_)
  refine z_aload_n (x := a) (pc := 10) dX6_addSale_10 rfl rfl ?_
  refine z_getR cX6 (pc := 11) dX6_addSale_11 (j := 2) (by decide) rfl w_338 (fun r4 => ?_)
  refine z_iload_n (x := x1) (pc := 14) dX6_addSale_14 rfl rfl ?_
  refine z_dup2 (pc := 15) dX6_addSale_15 rfl rfl ?_
  refine z_aldI (pc := 16) dX6_addSale_16 (fun t5 => ?_)
  refine z_iload_n (x := x2) (pc := 17) dX6_addSale_17 rfl rfl ?_
  refine z_iadd (pc := 18) dX6_addSale_18 ?_
  refine z_astI (pc := 19) dX6_addSale_19 (fun h6 => ?_)
  exact z_return (pc := 20) dX6_addSale_20 rfl rfl
set_option maxHeartbeats 2000000 in
set_option maxRecDepth 20000 in
theorem m_X6_lookWithSale {G : Z_G} (hG : z_GG G) (h : Z_H) (a : Nat) (b1 : Nat) (x2 : Int32) (x3 : Int32) : z_Met G iX6_lookWithSale [.ref a, .ref b1, .int x2, .int x3] h ((f_X6_lookWithSale h a b1 x2 x3).bind fun h1 => some (0, h1)) := by
  refine z_in (la := [some (.ref a), some (.ref b1), some (.int x2), some (.int x3)]) (by decide) rfl rfl rfl ?_
  unfold f_X6_lookWithSale
  refine z_gg (fun _ => ?_)
  refine z_aload_n (x := a) (pc := 0) dX6_lookWithSale_0 rfl rfl ?_
  refine z_aload_n (x := b1) (pc := 1) dX6_lookWithSale_1 rfl rfl ?_
  refine z_aload_n (x := b1) (pc := 2) dX6_lookWithSale_2 rfl rfl ?_
  refine z_getI cX7 (pc := 3) dX6_lookWithSale_3 (j := 8) (by decide) rfl w_260 (fun t1 => ?_)
  refine z_cVV (As := [.ref b1, .int t1]) (rest := []) hG.1 (m_X6_lay hG h a b1 t1) (fun _ e => z_gdb e) oX6_lay (pc := 6) dX6_lookWithSale_6 rfl w_725 rfl rfl rfl (fun h2 => ?_)
  refine z_aload_n (x := a) (pc := 9) dX6_lookWithSale_9 rfl rfl ?_
  refine z_iload_n (x := x2) (pc := 10) dX6_lookWithSale_10 rfl rfl ?_
  refine z_iload_n (x := x3) (pc := 11) dX6_lookWithSale_11 rfl rfl ?_
  refine z_cVV (As := [.int x2, .int x3]) (rest := []) hG.1 (m_X6_addSale hG h2 a x2 x3) (fun _ e => z_gdb e) oX6_addSale (pc := 12) dX6_lookWithSale_12 rfl w_925 rfl rfl rfl (fun h3 => ?_)
  refine z_aload_n (x := a) (pc := 15) dX6_lookWithSale_15 rfl rfl ?_
  refine z_aload_n (x := b1) (pc := 16) dX6_lookWithSale_16 rfl rfl ?_
  refine z_getR cX7 (pc := 17) dX6_lookWithSale_17 (j := 1) (by decide) rfl w_242 (fun r4 => ?_)
  refine z_cVV (As := [.ref r4]) (rest := []) hG.1 (m_X6_settle hG h3 a r4) (fun _ e => z_gdb e) oX6_settle (pc := 20) dX6_lookWithSale_20 rfl w_743 rfl rfl rfl (fun h5 => ?_)
  exact z_return (pc := 23) dX6_lookWithSale_23 rfl rfl
set_option maxHeartbeats 2000000 in
set_option maxRecDepth 20000 in
theorem m_X2_answer {G : Z_G} (hG : z_GG G) (h : Z_H) (a : Nat) (x1 : Int32) (x2 : Int32) : z_Met G iX2_answer [.ref a, .int x1, .int x2] h ((f_X2_answer h a x1 x2).bind fun r => some (r, h)) := by
  refine z_in (la := [some (.ref a), some (.int x1), some (.int x2)]) (by decide) rfl rfl rfl ?_
  unfold f_X2_answer
  refine z_gg (fun _ => ?_)
  refine z_iload_n (x := x1) (pc := 0) dX2_answer_0 rfl rfl ?_
  refine z_if_ne (tgt := 9) (pc := 1) dX2_answer_1 (by decide) (fun _ => ?_) (fun _ => ?_)
  · refine z_iload_n (x := x1) (pc := 9) dX2_answer_9 rfl rfl ?_
    refine z_iconst (v := 1) (pc := 10) dX2_answer_10 (by decide) ?_
    refine z_ic_lt (tgt := 32) (pc := 11) dX2_answer_11 (by decide) (fun _ => ?_) (fun _ => ?_)
    · refine z_bipush (v := (-2)) (pc := 32) dX2_answer_32 (by decide) ?_
      exact z_ireturn (pc := 34) dX2_answer_34 rfl rfl rfl
    refine z_iload_n (x := x1) (pc := 14) dX2_answer_14 rfl rfl ?_
    refine z_aload_n (x := a) (pc := 15) dX2_answer_15 rfl rfl ?_
    refine z_getI cX2 (pc := 16) dX2_answer_16 (j := 0) (by decide) rfl w_393 (fun t1 => ?_)
    refine z_ic_gt (tgt := 32) (pc := 19) dX2_answer_19 (by decide) (fun _ => ?_) (fun _ => ?_)
    · refine z_bipush (v := (-2)) (pc := 32) dX2_answer_32 (by decide) ?_
      exact z_ireturn (pc := 34) dX2_answer_34 rfl rfl rfl
    refine z_iload_n (x := x2) (pc := 22) dX2_answer_22 rfl rfl ?_
    refine z_if_lt (tgt := 32) (pc := 23) dX2_answer_23 (by decide) (fun _ => ?_) (fun _ => ?_)
    · refine z_bipush (v := (-2)) (pc := 32) dX2_answer_32 (by decide) ?_
      exact z_ireturn (pc := 34) dX2_answer_34 rfl rfl rfl
    refine z_iload_n (x := x2) (pc := 26) dX2_answer_26 rfl rfl ?_
    refine z_bipush (v := 7) (pc := 27) dX2_answer_27 (by decide) ?_
    refine z_ic_lt (tgt := 35) (pc := 29) dX2_answer_29 (by decide) (fun _ => ?_) (fun _ => ?_)
    · refine z_aload_n (x := a) (pc := 35) dX2_answer_35 rfl rfl ?_
      refine z_iload_n (x := x1) (pc := 36) dX2_answer_36 rfl rfl ?_
      refine z_iload_n (x := x2) (pc := 37) dX2_answer_37 rfl rfl ?_
      refine z_cVP (As := [.int x1, .int x2]) (rest := []) hG.1 (m_X2_fact hG h a x1 x2) (fun _ e => z_gdb e) oX2_fact (pc := 38) dX2_answer_38 rfl w_793 rfl rfl rfl (fun t2 => ?_)
      exact z_ireturn (pc := 41) dX2_answer_41 rfl rfl rfl
    refine z_bipush (v := (-2)) (pc := 32) dX2_answer_32 (by decide) ?_
    exact z_ireturn (pc := 34) dX2_answer_34 rfl rfl rfl
  refine z_aload_n (x := a) (pc := 4) dX2_answer_4 rfl rfl ?_
  refine z_getI cX2 (pc := 5) dX2_answer_5 (j := 0) (by decide) rfl w_393 (fun t3 => ?_)
  exact z_ireturn (pc := 8) dX2_answer_8 rfl rfl rfl
set_option maxHeartbeats 2000000 in
set_option maxRecDepth 20000 in
theorem m_X9_quote {G : Z_G} (hG : z_GG G) (h : Z_H) (a : Nat) (x1 : Int32) (x2 : Int32) (x3 : Int32) (x4 : Int32) : z_Met G iX9_quote [.ref a, .int x1, .int x2, .int x3, .int x4] h ((f_X9_quote h a x1 x2 x3 x4).bind some) := by
  refine z_in (la := [some (.ref a), some (.int x1), some (.int x2), some (.int x3), some (.int x4)]) (by decide) rfl rfl rfl ?_
  unfold f_X9_quote
  refine z_gg (fun _ => ?_)
  refine z_aload_n (x := a) (pc := 0) dX9_quote_0 rfl rfl ?_
  refine z_iload_n (x := x1) (pc := 1) dX9_quote_1 rfl rfl ?_
  refine z_iload_n (x := x2) (pc := 2) dX9_quote_2 rfl rfl ?_
  refine z_cVP (As := [.int x1, .int x2]) (rest := []) hG.1 (m_X9_canSell hG h a x1 x2) (fun _ e => z_gdb e) oX9_canSell (pc := 3) dX9_quote_3 rfl w_713 rfl rfl rfl (fun t1 => ?_)
  refine z_if_ne (tgt := 12) (pc := 6) dX9_quote_6 (by decide) (fun _ => ?_) (fun _ => ?_)
  · refine z_aload_n (x := a) (pc := 12) dX9_quote_12 rfl rfl ?_
    refine z_getR cX9 (pc := 13) dX9_quote_13 (j := 3) (by decide) rfl w_406 (fun r2 => ?_)
    refine z_aload_n (x := a) (pc := 16) dX9_quote_16 rfl rfl ?_
    refine z_getR cX9 (pc := 17) dX9_quote_17 (j := 0) (by decide) rfl w_403 (fun r3 => ?_)
    refine z_iload_n (x := x1) (pc := 20) dX9_quote_20 rfl rfl ?_
    refine z_iload_n (x := x2) (pc := 21) dX9_quote_21 rfl rfl ?_
    refine z_cVV (As := [.ref r3, .int x1, .int x2]) (rest := []) hG.1 (m_X6_lookWithSale hG h r2 r3 x1 x2) (fun _ e => z_gdb e) oX6_lookWithSale (pc := 22) dX9_quote_22 rfl w_921 rfl rfl rfl (fun h4 => ?_)
    refine z_aload_n (x := a) (pc := 25) dX9_quote_25 rfl rfl ?_
    refine z_getR cX9 (pc := 26) dX9_quote_26 (j := 4) (by decide) rfl w_407 (fun r5 => ?_)
    refine z_aload_n (x := a) (pc := 29) dX9_quote_29 rfl rfl ?_
    refine z_getR cX9 (pc := 30) dX9_quote_30 (j := 0) (by decide) rfl w_403 (fun r6 => ?_)
    refine z_aload_n (x := a) (pc := 33) dX9_quote_33 rfl rfl ?_
    refine z_getR cX9 (pc := 34) dX9_quote_34 (j := 3) (by decide) rfl w_406 (fun r7 => ?_)
    refine z_iload_n (x := x1) (pc := 37) dX9_quote_37 rfl rfl ?_
    refine z_iload_n (x := x2) (pc := 38) dX9_quote_38 rfl rfl ?_
    refine z_cVV (As := [.ref r6, .ref r7, .int x1, .int x2]) (rest := []) hG.1 (m_X2_payUp hG h4 r5 r6 r7 x1 x2) (fun _ e => z_gdb e) oX2_payUp (pc := 39) dX9_quote_39 rfl w_766 rfl rfl rfl (fun h8 => ?_)
    refine z_aload_n (x := a) (pc := 42) dX9_quote_42 rfl rfl ?_
    refine z_getR cX9 (pc := 43) dX9_quote_43 (j := 4) (by decide) rfl w_407 (fun r9 => ?_)
    refine z_iload_n (x := x3) (pc := 46) dX9_quote_46 rfl rfl ?_
    refine z_iload (x := x4) (pc := 47) dX9_quote_47 rfl ?_
    refine z_cVP (As := [.int x3, .int x4]) (rest := []) hG.1 (m_X2_answer hG h8 r9 x3 x4) (fun _ e => z_gdb e) oX2_answer (pc := 49) dX9_quote_49 rfl w_929 rfl rfl rfl (fun t10 => ?_)
    exact z_ireturn (pc := 52) dX9_quote_52 rfl rfl rfl
  refine z_bipush (v := (-2)) (pc := 9) dX9_quote_9 (by decide) ?_
  exact z_ireturn (pc := 11) dX9_quote_11 rfl rfl rfl
set_option maxHeartbeats 2000000 in
set_option maxRecDepth 20000 in
theorem m_X10_ofPaid {G : Z_G} (hG : z_GG G) (h : Z_H) (a : Nat) (x1 : Int32) (x2 : Int32) : z_Met G iX10_ofPaid [.ref a, .int x1, .int x2] h ((f_X10_ofPaid h a x1 x2).bind fun r => some (r, h)) := by
  refine z_in (la := [some (.ref a), some (.int x1), some (.int x2)]) (by decide) rfl rfl rfl ?_
  unfold f_X10_ofPaid
  refine z_gg (fun _ => ?_)
  refine z_iload_n (x := x1) (pc := 0) dX10_ofPaid_0 rfl rfl ?_
  refine z_iconst (v := 1) (pc := 1) dX10_ofPaid_1 (by decide) ?_
  refine z_aload_n (x := a) (pc := 2) dX10_ofPaid_2 rfl rfl ?_
  refine z_getI cX10 (pc := 3) dX10_ofPaid_3 (j := 24) (by decide) rfl w_1111 (fun t1 => ?_)
  refine z_cSP (As := [.int x1, .int 1, .int t1]) (rest := []) hG.1 (m_X10_in hG h x1 1 t1) oX10_in (pc := 6) dX10_ofPaid_6 rfl w_1179 rfl rfl rfl (fun t2 => ?_)
  refine z_if_eq (tgt := 38) (pc := 9) dX10_ofPaid_9 (by decide) (fun _ => ?_) (fun _ => ?_)
  · refine z_bipush (v := (-2)) (pc := 38) dX10_ofPaid_38 (by decide) ?_
    exact z_ireturn (pc := 40) dX10_ofPaid_40 rfl rfl rfl
  refine z_iload_n (x := x2) (pc := 12) dX10_ofPaid_12 rfl rfl ?_
  refine z_iconst (v := 0) (pc := 13) dX10_ofPaid_13 (by decide) ?_
  refine z_bipush (v := 6) (pc := 14) dX10_ofPaid_14 (by decide) ?_
  refine z_cSP (As := [.int x2, .int 0, .int 6]) (rest := []) hG.1 (m_X10_in hG h x2 0 6) oX10_in (pc := 16) dX10_ofPaid_16 rfl w_1179 rfl rfl rfl (fun t3 => ?_)
  refine z_if_eq (tgt := 38) (pc := 19) dX10_ofPaid_19 (by decide) (fun _ => ?_) (fun _ => ?_)
  · refine z_bipush (v := (-2)) (pc := 38) dX10_ofPaid_38 (by decide) ?_
    exact z_ireturn (pc := 40) dX10_ofPaid_40 rfl rfl rfl
  refine z_aload_n (x := a) (pc := 22) dX10_ofPaid_22 rfl rfl ?_
  refine z_getR cX10 (pc := 23) dX10_ofPaid_23 (j := 23) (by decide) rfl w_1110 (fun r4 => ?_)
  refine z_bipush (v := 7) (pc := 26) dX10_ofPaid_26 (by decide) ?_
  refine z_iload_n (x := x1) (pc := 28) dX10_ofPaid_28 rfl rfl ?_
  refine z_iconst (v := 1) (pc := 29) dX10_ofPaid_29 (by decide) ?_
  refine z_isub (pc := 30) dX10_ofPaid_30 ?_
  refine z_imul (pc := 31) dX10_ofPaid_31 ?_
  refine z_iload_n (x := x2) (pc := 32) dX10_ofPaid_32 rfl rfl ?_
  refine z_iadd (pc := 33) dX10_ofPaid_33 ?_
  refine z_aldI (pc := 34) dX10_ofPaid_34 (fun t5 => ?_)
  refine z_goto (tgt := 40) (pc := 35) dX10_ofPaid_35 (by decide) ?_
  exact z_ireturn (pc := 40) dX10_ofPaid_40 rfl rfl rfl
set_option maxHeartbeats 2000000 in
set_option maxRecDepth 20000 in
theorem m_X10_quote {G : Z_G} (hG : z_GG G) (h : Z_H) (a : Nat) (x1 : Int32) (x2 : Int32) (x3 : Int32) (x4 : Int32) : z_Met G iX10_quote [.ref a, .int x1, .int x2, .int x3, .int x4] h ((f_X10_quote h a x1 x2 x3 x4).bind some) := by
  refine z_in (la := [some (.ref a), some (.int x1), some (.int x2), some (.int x3), some (.int x4)]) (by decide) rfl rfl rfl ?_
  unfold f_X10_quote
  refine z_gg (fun _ => ?_)
  refine z_aload_n (x := a) (pc := 0) dX10_quote_0 rfl rfl ?_
  refine z_iconst (v := 0) (pc := 1) dX10_quote_1 (by decide) ?_
  refine z_putI cX10 (pc := 2) dX10_quote_2 (j := 0) (by decide) rfl rfl w_1087 (fun h1 => ?_)
  refine z_aload_n (x := a) (pc := 5) dX10_quote_5 rfl rfl ?_
  refine z_iload_n (x := x1) (pc := 6) dX10_quote_6 rfl rfl ?_
  refine z_iload_n (x := x2) (pc := 7) dX10_quote_7 rfl rfl ?_
  refine z_aload_n (x := a) (pc := 8) dX10_quote_8 rfl rfl ?_
  refine z_cVP (As := []) (rest := [.int x2, .int x1, .ref a]) hG.1 (m_X10_now hG h1 a) (fun _ e => z_gdb e) oX10_now (pc := 9) dX10_quote_9 rfl w_1247 rfl rfl rfl (fun t2 => ?_)
  refine z_cVP (As := [.int x1, .int x2, .int t2]) (rest := []) hG.1 (m_X10_canSell hG h1 a x1 x2 t2) (fun _ e => z_gdb e) oX10_canSell (pc := 12) dX10_quote_12 rfl w_1342 rfl rfl rfl (fun t3 => ?_)
  refine z_if_ne (tgt := 21) (pc := 15) dX10_quote_15 (by decide) (fun _ => ?_) (fun _ => ?_)
  · refine z_aload_n (x := a) (pc := 21) dX10_quote_21 rfl rfl ?_
    refine z_cVV (As := []) (rest := []) hG.1 (m_X10_laysOwn hG h1 a) (fun _ e => z_gdb e) oX10_laysOwn (pc := 22) dX10_quote_22 rfl w_1346 rfl rfl rfl (fun h4 => ?_)
    refine z_aload_n (x := a) (pc := 25) dX10_quote_25 rfl rfl ?_
    refine z_aload_n (x := a) (pc := 26) dX10_quote_26 rfl rfl ?_
    refine z_cVP (As := []) (rest := [.ref a]) hG.1 (m_X10_now hG h4 a) (fun _ e => z_gdb e) oX10_now (pc := 27) dX10_quote_27 rfl w_1247 rfl rfl rfl (fun t5 => ?_)
    refine z_cVV (As := [.int t5]) (rest := []) hG.1 (m_X10_laysMonth hG h4 a t5) (fun _ e => z_gdb e) oX10_laysMonth (pc := 30) dX10_quote_30 rfl w_1283 rfl rfl rfl (fun h6 => ?_)
    refine z_aload_n (x := a) (pc := 33) dX10_quote_33 rfl rfl ?_
    refine z_getR cX10 (pc := 34) dX10_quote_34 (j := 21) (by decide) rfl w_1108 (fun r7 => ?_)
    refine z_bipush (v := 100) (pc := 37) dX10_quote_37 (by decide) ?_
    refine z_iload_n (x := x1) (pc := 39) dX10_quote_39 rfl rfl ?_
    refine z_imul (pc := 40) dX10_quote_40 ?_
    refine z_aload_n (x := a) (pc := 41) dX10_quote_41 rfl rfl ?_
    refine z_cVP (As := []) (rest := [.int ((100 : Int32) * x1), .ref r7]) hG.1 (m_X10_now hG h6 a) (fun _ e => z_gdb e) oX10_now (pc := 42) dX10_quote_42 rfl w_1247 rfl rfl rfl (fun t8 => ?_)
    refine z_iadd (pc := 45) dX10_quote_45 ?_
    refine z_nm (fun y9 => ?_)
    refine z_dup2 (pc := 46) dX10_quote_46 rfl rfl ?_
    refine z_aldI (pc := 47) dX10_quote_47 (fun t10 => ?_)
    refine z_iload_n (x := x2) (pc := 48) dX10_quote_48 rfl rfl ?_
    refine z_iadd (pc := 49) dX10_quote_49 ?_
    refine z_astI (pc := 50) dX10_quote_50 (fun h11 => ?_)
    refine z_aload_n (x := a) (pc := 51) dX10_quote_51 rfl rfl ?_
    refine z_iload_n (x := x1) (pc := 52) dX10_quote_52 rfl rfl ?_
    refine z_iload_n (x := x2) (pc := 53) dX10_quote_53 rfl rfl ?_
    refine z_cVV (As := [.int x1, .int x2]) (rest := []) hG.1 (m_X10_pays hG h11 a x1 x2) (fun _ e => z_gdb e) oX10_pays (pc := 54) dX10_quote_54 rfl w_1350 rfl rfl rfl (fun h12 => ?_)
    refine z_iload_n (x := x3) (pc := 57) dX10_quote_57 rfl rfl ?_
    refine z_if_ne (tgt := 68) (pc := 58) dX10_quote_58 (by decide) (fun _ => ?_) (fun _ => ?_)
    · refine z_aload_n (x := a) (pc := 68) dX10_quote_68 rfl rfl ?_
      refine z_iload_n (x := x3) (pc := 69) dX10_quote_69 rfl rfl ?_
      refine z_iload (x := x4) (pc := 70) dX10_quote_70 rfl ?_
      refine z_cVP (As := [.int x3, .int x4]) (rest := []) hG.1 (m_X10_ofPaid hG h12 a x3 x4) (fun _ e => z_gdb e) oX10_ofPaid (pc := 72) dX10_quote_72 rfl w_1509 rfl rfl rfl (fun t13 => ?_)
      exact z_ireturn (pc := 75) dX10_quote_75 rfl rfl rfl
    refine z_aload_n (x := a) (pc := 61) dX10_quote_61 rfl rfl ?_
    refine z_getI cX10 (pc := 62) dX10_quote_62 (j := 24) (by decide) rfl w_1111 (fun t14 => ?_)
    refine z_goto (tgt := 75) (pc := 65) dX10_quote_65 (by decide) ?_
    exact z_ireturn (pc := 75) dX10_quote_75 rfl rfl rfl
  refine z_bipush (v := (-2)) (pc := 18) dX10_quote_18 (by decide) ?_
  exact z_ireturn (pc := 20) dX10_quote_20 rfl rfl rfl
set_option maxHeartbeats 2000000 in
set_option maxRecDepth 20000 in
theorem m_X9_repaid {G : Z_G} (hG : z_GG G) (h : Z_H) (a : Nat) (x1 : Int32) (x2 : Int32) (x3 : Int32) : z_Met G iX9_repaid [.ref a, .int x1, .int x2, .int x3] h ((f_X9_repaid h a x1 x2 x3).bind some) := by
  refine z_in (la := [some (.ref a), some (.int x1), some (.int x2), some (.int x3), none]) (by decide) rfl rfl rfl ?_
  unfold f_X9_repaid
  refine z_gg (fun _ => ?_)
  refine z_aload_n (x := a) (pc := 0) dX9_repaid_0 rfl rfl ?_
  refine z_getR cX9 (pc := 1) dX9_repaid_1 (j := 0) (by decide) rfl w_403 (fun r1 => ?_)
  refine z_getR cX7 (pc := 4) dX9_repaid_4 (j := 3) (by decide) rfl w_251 (fun r2 => ?_)
  refine z_astore (i := 4) (la' := [some (.ref a), some (.int x1), some (.int x2), some (.int x3), some (.ref r2)]) (pc := 7) dX9_repaid_7 (by decide) rfl rfl ?_
  refine z_aload (x := r2) (pc := 9) dX9_repaid_9 rfl ?_
  refine z_iload_n (x := x1) (pc := 11) dX9_repaid_11 rfl rfl ?_
  refine z_cVP (As := [.int x1]) (rest := []) hG.1 (m_X5_has hG h r2 x1) (fun _ e => z_gdb e) oX5_has (pc := 12) dX9_repaid_12 rfl w_812 rfl rfl rfl (fun t3 => ?_)
  refine z_if_ne (tgt := 21) (pc := 15) dX9_repaid_15 (by decide) (fun _ => ?_) (fun _ => ?_)
  · refine z_aload_n (x := a) (pc := 21) dX9_repaid_21 rfl rfl ?_
    refine z_getR cX9 (pc := 22) dX9_repaid_22 (j := 3) (by decide) rfl w_406 (fun r4 => ?_)
    refine z_aload_n (x := a) (pc := 25) dX9_repaid_25 rfl rfl ?_
    refine z_getR cX9 (pc := 26) dX9_repaid_26 (j := 0) (by decide) rfl w_403 (fun r5 => ?_)
    refine z_aload_n (x := a) (pc := 29) dX9_repaid_29 rfl rfl ?_
    refine z_getR cX9 (pc := 30) dX9_repaid_30 (j := 0) (by decide) rfl w_403 (fun r6 => ?_)
    refine z_getI cX7 (pc := 33) dX9_repaid_33 (j := 8) (by decide) rfl w_261 (fun t7 => ?_)
    refine z_cVV (As := [.ref r5, .int t7]) (rest := []) hG.1 (m_X6_look hG h r4 r5 t7) (fun _ e => z_gdb e) oX6_look (pc := 36) dX9_repaid_36 rfl w_721 rfl rfl rfl (fun h8 => ?_)
    refine z_aload_n (x := a) (pc := 39) dX9_repaid_39 rfl rfl ?_
    refine z_getR cX9 (pc := 40) dX9_repaid_40 (j := 4) (by decide) rfl w_407 (fun r9 => ?_)
    refine z_aload_n (x := a) (pc := 43) dX9_repaid_43 rfl rfl ?_
    refine z_getR cX9 (pc := 44) dX9_repaid_44 (j := 0) (by decide) rfl w_403 (fun r10 => ?_)
    refine z_aload_n (x := a) (pc := 47) dX9_repaid_47 rfl rfl ?_
    refine z_getR cX9 (pc := 48) dX9_repaid_48 (j := 3) (by decide) rfl w_406 (fun r11 => ?_)
    refine z_aload (x := r2) (pc := 51) dX9_repaid_51 rfl ?_
    refine z_getR cX5 (pc := 53) dX9_repaid_53 (j := 1) (by decide) rfl w_190 (fun r12 => ?_)
    refine z_iload_n (x := x1) (pc := 56) dX9_repaid_56 rfl rfl ?_
    refine z_aldI (pc := 57) dX9_repaid_57 (fun t13 => ?_)
    refine z_aload (x := r2) (pc := 58) dX9_repaid_58 rfl ?_
    refine z_iload_n (x := x1) (pc := 60) dX9_repaid_60 rfl rfl ?_
    refine z_cVP (As := [.int x1]) (rest := [.int t13, .ref r11, .ref r10, .ref r9]) hG.1 (m_X5_netAmount hG h8 r2 x1) (fun _ e => z_gdb e) oX5_netAmount (pc := 61) dX9_repaid_61 rfl w_884 rfl rfl rfl (fun t14 => ?_)
    refine z_cVV (As := [.ref r10, .ref r11, .int t13, .int t14]) (rest := []) hG.1 (m_X2_payUp hG h8 r9 r10 r11 t13 t14) (fun _ e => z_gdb e) oX2_payUp (pc := 64) dX9_repaid_64 rfl w_766 rfl rfl rfl (fun h15 => ?_)
    refine z_aload_n (x := a) (pc := 67) dX9_repaid_67 rfl rfl ?_
    refine z_getR cX9 (pc := 68) dX9_repaid_68 (j := 4) (by decide) rfl w_407 (fun r16 => ?_)
    refine z_iload_n (x := x2) (pc := 71) dX9_repaid_71 rfl rfl ?_
    refine z_iload_n (x := x3) (pc := 72) dX9_repaid_72 rfl rfl ?_
    refine z_cVP (As := [.int x2, .int x3]) (rest := []) hG.1 (m_X2_answer hG h15 r16 x2 x3) (fun _ e => z_gdb e) oX2_answer (pc := 73) dX9_repaid_73 rfl w_929 rfl rfl rfl (fun t17 => ?_)
    exact z_ireturn (pc := 76) dX9_repaid_76 rfl rfl rfl
  refine z_bipush (v := (-2)) (pc := 18) dX9_repaid_18 (by decide) ?_
  exact z_ireturn (pc := 20) dX9_repaid_20 rfl rfl rfl
set_option maxHeartbeats 2000000 in
set_option maxRecDepth 20000 in
theorem m_X10_repaid {G : Z_G} (hG : z_GG G) (h : Z_H) (a : Nat) (x1 : Int32) (x2 : Int32) (x3 : Int32) : z_Met G iX10_repaid [.ref a, .int x1, .int x2, .int x3] h ((f_X10_repaid h a x1 x2 x3).bind some) := by
  refine z_in (la := [some (.ref a), some (.int x1), some (.int x2), some (.int x3), none]) (by decide) rfl rfl rfl ?_
  unfold f_X10_repaid
  refine z_gg (fun _ => ?_)
  refine z_aload_n (x := a) (pc := 0) dX10_repaid_0 rfl rfl ?_
  refine z_iconst (v := 0) (pc := 1) dX10_repaid_1 (by decide) ?_
  refine z_putI cX10 (pc := 2) dX10_repaid_2 (j := 0) (by decide) rfl rfl w_1087 (fun h1 => ?_)
  refine z_aload_n (x := a) (pc := 5) dX10_repaid_5 rfl rfl ?_
  refine z_iload_n (x := x1) (pc := 6) dX10_repaid_6 rfl rfl ?_
  refine z_cVP (As := [.int x1]) (rest := []) hG.1 (m_X10_isSale hG h1 a x1) (fun _ e => z_gdb e) oX10_isSale (pc := 7) dX10_repaid_7 rfl w_1408 rfl rfl rfl (fun t2 => ?_)
  refine z_if_ne (tgt := 16) (pc := 10) dX10_repaid_10 (by decide) (fun _ => ?_) (fun _ => ?_)
  · refine z_aload_n (x := a) (pc := 16) dX10_repaid_16 rfl rfl ?_
    refine z_iload_n (x := x1) (pc := 17) dX10_repaid_17 rfl rfl ?_
    refine z_dVI (As := [.int x1]) (rest := []) hG.1 (m_X10_laysRepaid hG h1 a x1) (fun _ e => z_gdb e) oX10_laysRepaid (pc := 18) dX10_repaid_18 rfl w_1493 rfl rfl rfl (fun t3 h4 => ?_)
    refine z_istore (i := 4) (la' := [some (.ref a), some (.int x1), some (.int x2), some (.int x3), some (.int t3)]) (pc := 21) dX10_repaid_21 (by decide) rfl rfl ?_
    refine z_iload_n (x := x2) (pc := 23) dX10_repaid_23 rfl rfl ?_
    refine z_if_ne (tgt := 34) (pc := 24) dX10_repaid_24 (by decide) (fun _ => ?_) (fun _ => ?_)
    · refine z_aload_n (x := a) (pc := 34) dX10_repaid_34 rfl rfl ?_
      refine z_iload_n (x := x2) (pc := 35) dX10_repaid_35 rfl rfl ?_
      refine z_iload_n (x := x3) (pc := 36) dX10_repaid_36 rfl rfl ?_
      refine z_cVP (As := [.int x2, .int x3]) (rest := []) hG.1 (m_X10_ofPaid hG h4 a x2 x3) (fun _ e => z_gdb e) oX10_ofPaid (pc := 37) dX10_repaid_37 rfl w_1509 rfl rfl rfl (fun t5 => ?_)
      exact z_ireturn (pc := 40) dX10_repaid_40 rfl rfl rfl
    refine z_aload_n (x := a) (pc := 27) dX10_repaid_27 rfl rfl ?_
    refine z_getI cX10 (pc := 28) dX10_repaid_28 (j := 24) (by decide) rfl w_1111 (fun t6 => ?_)
    refine z_goto (tgt := 40) (pc := 31) dX10_repaid_31 (by decide) ?_
    exact z_ireturn (pc := 40) dX10_repaid_40 rfl rfl rfl
  refine z_bipush (v := (-2)) (pc := 13) dX10_repaid_13 (by decide) ?_
  exact z_ireturn (pc := 15) dX10_repaid_15 rfl rfl rfl
set_option maxHeartbeats 2000000 in
set_option maxRecDepth 20000 in
theorem m_X9_gap {G : Z_G} (hG : z_GG G) (h : Z_H) (a : Nat) (x1 : Int32) (x2 : Int32) : z_Met G iX9_gap [.ref a, .int x1, .int x2] h ((f_X9_gap h a x1 x2).bind some) := by
  refine z_in (la := [some (.ref a), some (.int x1), some (.int x2), none, none, none, none]) (by decide) rfl rfl rfl ?_
  unfold f_X9_gap
  refine z_gg (fun _ => ?_)
  refine z_aload_n (x := a) (pc := 0) dX9_gap_0 rfl rfl ?_
  refine z_getR cX9 (pc := 1) dX9_gap_1 (j := 0) (by decide) rfl w_403 (fun r1 => ?_)
  refine z_getR cX7 (pc := 4) dX9_gap_4 (j := 2) (by decide) rfl w_247 (fun r2 => ?_)
  refine z_iload_n (x := x1) (pc := 7) dX9_gap_7 rfl rfl ?_
  refine z_cVP (As := [.int x1]) (rest := []) hG.1 (m_X0_works hG h r2 x1) (fun _ e => z_gdb e) oX0_works (pc := 8) dX9_gap_8 rfl w_622 rfl rfl rfl (fun t3 => ?_)
  refine z_if_eq (tgt := 24) (pc := 11) dX9_gap_11 (by decide) (fun _ => ?_) (fun _ => ?_)
  · refine z_iconst (v := (-1)) (pc := 24) dX9_gap_24 (by decide) ?_
    exact z_ireturn (pc := 25) dX9_gap_25 rfl rfl rfl
  refine z_iload_n (x := x2) (pc := 14) dX9_gap_14 rfl rfl ?_
  refine z_iconst (v := 1) (pc := 15) dX9_gap_15 (by decide) ?_
  refine z_ic_lt (tgt := 24) (pc := 16) dX9_gap_16 (by decide) (fun _ => ?_) (fun _ => ?_)
  · refine z_iconst (v := (-1)) (pc := 24) dX9_gap_24 (by decide) ?_
    exact z_ireturn (pc := 25) dX9_gap_25 rfl rfl rfl
  refine z_iload_n (x := x2) (pc := 19) dX9_gap_19 rfl rfl ?_
  refine z_iconst (v := 3) (pc := 20) dX9_gap_20 (by decide) ?_
  refine z_ic_le (tgt := 26) (pc := 21) dX9_gap_21 (by decide) (fun _ => ?_) (fun _ => ?_)
  · refine z_aload_n (x := a) (pc := 26) dX9_gap_26 rfl rfl ?_
    refine z_getR cX9 (pc := 27) dX9_gap_27 (j := 3) (by decide) rfl w_406 (fun r4 => ?_)
    refine z_aload_n (x := a) (pc := 30) dX9_gap_30 rfl rfl ?_
    refine z_getR cX9 (pc := 31) dX9_gap_31 (j := 0) (by decide) rfl w_403 (fun r5 => ?_)
    refine z_aload_n (x := a) (pc := 34) dX9_gap_34 rfl rfl ?_
    refine z_getR cX9 (pc := 35) dX9_gap_35 (j := 0) (by decide) rfl w_403 (fun r6 => ?_)
    refine z_getI cX7 (pc := 38) dX9_gap_38 (j := 8) (by decide) rfl w_261 (fun t7 => ?_)
    refine z_cVV (As := [.ref r5, .int t7]) (rest := []) hG.1 (m_X6_look hG h r4 r5 t7) (fun _ e => z_gdb e) oX6_look (pc := 41) dX9_gap_41 rfl w_721 rfl rfl rfl (fun h8 => ?_)
    refine z_aload_n (x := a) (pc := 44) dX9_gap_44 rfl rfl ?_
    refine z_getR cX9 (pc := 45) dX9_gap_45 (j := 0) (by decide) rfl w_403 (fun r9 => ?_)
    refine z_getR cX7 (pc := 48) dX9_gap_48 (j := 1) (by decide) rfl w_244 (fun r10 => ?_)
    refine z_astore_n (i := 3) (la' := [some (.ref a), some (.int x1), some (.int x2), some (.ref r10), none, none, none]) (pc := 51) dX9_gap_51 rfl (by decide) rfl rfl ?_
    refine z_iconst (v := (-1)) (pc := 52) dX9_gap_52 (by decide) ?_
    refine z_istore (i := 4) (la' := [some (.ref a), some (.int x1), some (.int x2), some (.ref r10), some (.int (-1)), none, none]) (pc := 53) dX9_gap_53 (by decide) rfl rfl ?_
    refine z_iload_n (x := x2) (pc := 55) dX9_gap_55 rfl rfl ?_
    refine z_istore (i := 5) (la' := [some (.ref a), some (.int x1), some (.int x2), some (.ref r10), some (.int (-1)), some (.int x2), none]) (pc := 56) dX9_gap_56 (by decide) rfl rfl ?_
    refine z_weak (la' := [some (.ref a), some (.int x1), none, some (.ref r10), some (.int (-1)), some (.int x2), none]) (And.intro rfl (And.intro rfl (And.intro rfl (And.intro rfl (And.intro rfl trivial))))) ?_
    refine z_lp (T := Int32) (s0 := ((-1), x2)) 58 (fun ((v11, v12) : Int32 × Int32) => [some (.ref a), some (.int x1), none, some (.ref r10), some (.int v11), some (.int v12), none]) (fun ((v11, v12) : Int32 × Int32) => h8) (fun _ => 128) (fun (v13 : Int32) => [none, none, none, none, some (.int v13), none, none]) (fun (v13 : Int32) => h8) ?_ ?_
    · rintro v13
      try dsimp only
      refine z_iload (x := v13) (pc := 128) dX9_gap_128 rfl ?_
      exact z_ireturn (pc := 130) dX9_gap_130 rfl rfl rfl
    intro k' hx1 rec14 hrec14
    rintro ⟨v11, v12⟩
    unfold f_X9_gap_l1
    try dsimp only
    refine z_iload (x := v12) (pc := 58) dX9_gap_58 rfl ?_
    refine z_iconst (v := 3) (pc := 60) dX9_gap_60 (by decide) ?_
    refine z_ic_gt (tgt := 128) (pc := 61) dX9_gap_61 (by decide) (fun _ => ?_) (fun _ => ?_)
    · exact z_wk (hx1 v11) (And.intro rfl trivial)
    refine z_iconst (v := 0) (pc := 64) dX9_gap_64 (by decide) ?_
    refine z_aload_n (x := r10) (pc := 65) dX9_gap_65 rfl rfl ?_
    refine z_getR cX3 (pc := 66) dX9_gap_66 (j := 4) (by decide) rfl w_83 (fun r15 => ?_)
    refine z_iload (x := v12) (pc := 69) dX9_gap_69 rfl ?_
    refine z_aldI (pc := 71) dX9_gap_71 (fun t16 => ?_)
    refine z_aload_n (x := a) (pc := 72) dX9_gap_72 rfl rfl ?_
    refine z_getR cX9 (pc := 73) dX9_gap_73 (j := 3) (by decide) rfl w_406 (fun r17 => ?_)
    refine z_getR cX6 (pc := 76) dX9_gap_76 (j := 3) (by decide) rfl w_341 (fun r18 => ?_)
    refine z_iload_n (x := x1) (pc := 79) dX9_gap_79 rfl rfl ?_
    refine z_aldI (pc := 80) dX9_gap_80 (fun t19 => ?_)
    refine z_isub (pc := 81) dX9_gap_81 ?_
    refine z_mmax (pc := 82) dX9_gap_82 w_941 w_702 w_17 w_703 (by decide) (Nat.le_of_ble_eq_true rfl) ?_
    refine z_nm (fun v20 => ?_)
    refine z_istore (i := 6) (la' := [some (.ref a), some (.int x1), none, some (.ref r10), some (.int v11), some (.int v12), some (.int v20)]) (pc := 85) dX9_gap_85 (by decide) rfl rfl ?_
    refine z_aload_n (x := a) (pc := 87) dX9_gap_87 rfl rfl ?_
    refine z_getR cX9 (pc := 88) dX9_gap_88 (j := 3) (by decide) rfl w_406 (fun r21 => ?_)
    refine z_iload_n (x := x1) (pc := 91) dX9_gap_91 rfl rfl ?_
    refine z_cVP (As := [.int x1]) (rest := []) hG.1 (m_X6_activeLegs hG h8 r21 x1) (fun _ e => z_gdb e) oX6_activeLegs (pc := 92) dX9_gap_92 rfl w_942 rfl rfl rfl (fun t22 => ?_)
    refine z_aload_n (x := r10) (pc := 95) dX9_gap_95 rfl rfl ?_
    refine z_getR cX3 (pc := 96) dX9_gap_96 (j := 5) (by decide) rfl w_86 (fun r23 => ?_)
    refine z_iload (x := v12) (pc := 99) dX9_gap_99 rfl ?_
    refine z_aldI (pc := 101) dX9_gap_101 (fun t24 => ?_)
    refine z_jn 122 (fun (v25 : Int32) => [some (.ref a), some (.int x1), none, some (.ref r10), some (.int v25), some (.int v12), none]) (fun (v25 : Int32) => []) (fun (v25 : Int32) => h8) ?_ ?_
    · rintro v25
      try dsimp only
      refine z_iinc (i := 5) (x := v12) (v := (v12 + 1)) (la' := [some (.ref a), some (.int x1), none, some (.ref r10), some (.int v25), some (.int (v12 + 1)), none]) (pc := 122) dX9_gap_122 rfl rfl (by decide) rfl rfl ?_
      refine z_goto (tgt := 58) (pc := 125) dX9_gap_125 (by decide) ?_
      exact hrec14 (v25, (v12 + 1))
    intro j26 hj26
    refine z_ic_lt (tgt := 122) (pc := 102) dX9_gap_102 (by decide) (fun _ => ?_) (fun _ => ?_)
    · exact z_wk (hj26 v11) (And.intro rfl (And.intro rfl (And.intro rfl (And.intro rfl (And.intro rfl trivial)))))
    refine z_iload (x := v11) (pc := 105) dX9_gap_105 rfl ?_
    refine z_iconst (v := (-1)) (pc := 107) dX9_gap_107 (by decide) ?_
    refine z_jn 118 (fun (_ : Unit) => [some (.ref a), some (.int x1), none, some (.ref r10), none, some (.int v12), some (.int v20)]) (fun (_ : Unit) => []) (fun (_ : Unit) => h8) ?_ ?_
    · rintro _
      try dsimp only
      refine z_iload (x := v20) (pc := 118) dX9_gap_118 rfl ?_
      refine z_istore (i := 4) (la' := [some (.ref a), some (.int x1), none, some (.ref r10), some (.int v20), some (.int v12), some (.int v20)]) (pc := 120) dX9_gap_120 (by decide) rfl rfl ?_
      exact z_wk (hj26 v20) (And.intro rfl (And.intro rfl (And.intro rfl (And.intro rfl (And.intro rfl trivial)))))
    intro j27 hj27
    refine z_ic_eq (tgt := 118) (pc := 108) dX9_gap_108 (by decide) (fun _ => ?_) (fun _ => ?_)
    · exact z_wk (hj27 ()) (And.intro rfl (And.intro rfl (And.intro rfl (And.intro rfl (And.intro rfl trivial)))))
    refine z_iload (x := v20) (pc := 111) dX9_gap_111 rfl ?_
    refine z_iload (x := v11) (pc := 113) dX9_gap_113 rfl ?_
    refine z_ic_ge (tgt := 122) (pc := 115) dX9_gap_115 (by decide) (fun _ => ?_) (fun _ => ?_)
    · exact z_wk (hj26 v11) (And.intro rfl (And.intro rfl (And.intro rfl (And.intro rfl (And.intro rfl trivial)))))
    exact z_wk (hj27 ()) (And.intro rfl (And.intro rfl (And.intro rfl (And.intro rfl (And.intro rfl trivial)))))
  refine z_iconst (v := (-1)) (pc := 24) dX9_gap_24 (by decide) ?_
  exact z_ireturn (pc := 25) dX9_gap_25 rfl rfl rfl
set_option maxHeartbeats 2000000 in
set_option maxRecDepth 20000 in
theorem m_X10_gap {G : Z_G} (hG : z_GG G) (h : Z_H) (a : Nat) (x1 : Int32) (x2 : Int32) : z_Met G iX10_gap [.ref a, .int x1, .int x2] h ((f_X10_gap h a x1 x2).bind some) := by
  refine z_in (la := [some (.ref a), some (.int x1), some (.int x2), none, none, none, none]) (by decide) rfl rfl rfl ?_
  unfold f_X10_gap
  refine z_gg (fun _ => ?_)
  refine z_aload_n (x := a) (pc := 0) dX10_gap_0 rfl rfl ?_
  refine z_iconst (v := 0) (pc := 1) dX10_gap_1 (by decide) ?_
  refine z_putI cX10 (pc := 2) dX10_gap_2 (j := 0) (by decide) rfl rfl w_1087 (fun h1 => ?_)
  refine z_aload_n (x := a) (pc := 5) dX10_gap_5 rfl rfl ?_
  refine z_iload_n (x := x1) (pc := 6) dX10_gap_6 rfl rfl ?_
  refine z_cVP (As := [.int x1]) (rest := []) hG.1 (m_X10_isSeller hG h1 a x1) (fun _ e => z_gdb e) oX10_isSeller (pc := 7) dX10_gap_7 rfl w_1255 rfl rfl rfl (fun t2 => ?_)
  refine z_if_eq (tgt := 30) (pc := 10) dX10_gap_10 (by decide) (fun _ => ?_) (fun _ => ?_)
  · refine z_iconst (v := (-1)) (pc := 30) dX10_gap_30 (by decide) ?_
    exact z_ireturn (pc := 31) dX10_gap_31 rfl rfl rfl
  refine z_aload_n (x := a) (pc := 13) dX10_gap_13 rfl rfl ?_
  refine z_iload_n (x := x1) (pc := 14) dX10_gap_14 rfl rfl ?_
  refine z_cVP (As := [.int x1]) (rest := []) hG.1 (m_X10_hasQuit hG h1 a x1) (fun _ e => z_gdb e) oX10_hasQuit (pc := 15) dX10_gap_15 rfl w_1259 rfl rfl rfl (fun t3 => ?_)
  refine z_if_ne (tgt := 30) (pc := 18) dX10_gap_18 (by decide) (fun _ => ?_) (fun _ => ?_)
  · refine z_iconst (v := (-1)) (pc := 30) dX10_gap_30 (by decide) ?_
    exact z_ireturn (pc := 31) dX10_gap_31 rfl rfl rfl
  refine z_iload_n (x := x2) (pc := 21) dX10_gap_21 rfl rfl ?_
  refine z_iconst (v := 1) (pc := 22) dX10_gap_22 (by decide) ?_
  refine z_iconst (v := 3) (pc := 23) dX10_gap_23 (by decide) ?_
  refine z_cSP (As := [.int x2, .int 1, .int 3]) (rest := []) hG.1 (m_X10_in hG h1 x2 1 3) oX10_in (pc := 24) dX10_gap_24 rfl w_1179 rfl rfl rfl (fun t4 => ?_)
  refine z_if_ne (tgt := 32) (pc := 27) dX10_gap_27 (by decide) (fun _ => ?_) (fun _ => ?_)
  · refine z_aload_n (x := a) (pc := 32) dX10_gap_32 rfl rfl ?_
    refine z_cVV (As := []) (rest := []) hG.1 (m_X10_laysOwn hG h1 a) (fun _ e => z_gdb e) oX10_laysOwn (pc := 33) dX10_gap_33 rfl w_1346 rfl rfl rfl (fun h5 => ?_)
    refine z_aload_n (x := a) (pc := 36) dX10_gap_36 rfl rfl ?_
    refine z_aload_n (x := a) (pc := 37) dX10_gap_37 rfl rfl ?_
    refine z_cVP (As := []) (rest := [.ref a]) hG.1 (m_X10_now hG h5 a) (fun _ e => z_gdb e) oX10_now (pc := 38) dX10_gap_38 rfl w_1247 rfl rfl rfl (fun t6 => ?_)
    refine z_cVV (As := [.int t6]) (rest := []) hG.1 (m_X10_laysMonth hG h5 a t6) (fun _ e => z_gdb e) oX10_laysMonth (pc := 41) dX10_gap_41 rfl w_1283 rfl rfl rfl (fun h7 => ?_)
    refine z_aload_n (x := a) (pc := 44) dX10_gap_44 rfl rfl ?_
    refine z_iload_n (x := x1) (pc := 45) dX10_gap_45 rfl rfl ?_
    refine z_cVP (As := [.int x1]) (rest := []) hG.1 (m_X10_groupOf hG h7 a x1) (fun _ e => z_gdb e) oX10_groupOf (pc := 46) dX10_gap_46 rfl w_1366 rfl rfl rfl (fun t8 => ?_)
    refine z_istore_n (i := 3) (la' := [some (.ref a), some (.int x1), some (.int x2), some (.int t8), none, none, none]) (pc := 49) dX10_gap_49 rfl (by decide) rfl rfl ?_
    refine z_aload_n (x := a) (pc := 50) dX10_gap_50 rfl rfl ?_
    refine z_iload_n (x := x1) (pc := 51) dX10_gap_51 rfl rfl ?_
    refine z_cVP (As := [.int x1]) (rest := []) hG.1 (m_X10_legsOf hG h7 a x1) (fun _ e => z_gdb e) oX10_legsOf (pc := 52) dX10_gap_52 rfl w_1381 rfl rfl rfl (fun t9 => ?_)
    refine z_istore (i := 4) (la' := [some (.ref a), some (.int x1), some (.int x2), some (.int t8), some (.int t9), none, none]) (pc := 55) dX10_gap_55 (by decide) rfl rfl ?_
    refine z_sipush (v := 10000) (pc := 57) dX10_gap_57 (by decide) ?_
    refine z_istore (i := 5) (la' := [some (.ref a), some (.int x1), some (.int x2), some (.int t8), some (.int t9), some (.int 10000), none]) (pc := 60) dX10_gap_60 (by decide) rfl rfl ?_
    refine z_iload_n (x := x2) (pc := 62) dX10_gap_62 rfl rfl ?_
    refine z_istore (i := 6) (la' := [some (.ref a), some (.int x1), some (.int x2), some (.int t8), some (.int t9), some (.int 10000), some (.int x2)]) (pc := 63) dX10_gap_63 (by decide) rfl rfl ?_
    refine z_weak (la' := [some (.ref a), none, none, some (.int t8), some (.int t9), some (.int 10000), some (.int x2)]) (And.intro rfl (And.intro rfl (And.intro rfl (And.intro rfl (And.intro rfl trivial))))) ?_
    refine z_lp (T := Int32) (s0 := (10000, x2)) 65 (fun ((v10, v11) : Int32 × Int32) => [some (.ref a), none, none, some (.int t8), some (.int t9), some (.int v10), some (.int v11)]) (fun ((v10, v11) : Int32 × Int32) => h7) (fun _ => 120) (fun (v12 : Int32) => [none, none, none, none, none, some (.int v12), none]) (fun (v12 : Int32) => h7) ?_ ?_
    · rintro v12
      try dsimp only
      refine z_iload (x := v12) (pc := 120) dX10_gap_120 rfl ?_
      refine z_sipush (v := 9999) (pc := 122) dX10_gap_122 (by decide) ?_
      refine z_ic_le (tgt := 132) (pc := 125) dX10_gap_125 (by decide) (fun _ => ?_) (fun _ => ?_)
      · refine z_iload (x := v12) (pc := 132) dX10_gap_132 rfl ?_
        exact z_ireturn (pc := 134) dX10_gap_134 rfl rfl rfl
      refine z_iconst (v := (-1)) (pc := 128) dX10_gap_128 (by decide) ?_
      refine z_goto (tgt := 134) (pc := 129) dX10_gap_129 (by decide) ?_
      exact z_ireturn (pc := 134) dX10_gap_134 rfl rfl rfl
    intro k' hx1 rec13 hrec13
    rintro ⟨v10, v11⟩
    unfold f_X10_gap_l1
    try dsimp only
    refine z_iload (x := v11) (pc := 65) dX10_gap_65 rfl ?_
    refine z_iconst (v := 3) (pc := 67) dX10_gap_67 (by decide) ?_
    refine z_ic_gt (tgt := 120) (pc := 68) dX10_gap_68 (by decide) (fun _ => ?_) (fun _ => ?_)
    · exact z_wk (hx1 v10) (And.intro rfl trivial)
    refine z_iload (x := t9) (pc := 71) dX10_gap_71 rfl ?_
    refine z_aload_n (x := a) (pc := 73) dX10_gap_73 rfl rfl ?_
    refine z_getR cX10 (pc := 74) dX10_gap_74 (j := 1) (by decide) rfl w_1088 (fun r14 => ?_)
    refine z_bipush (v := 11) (pc := 77) dX10_gap_77 (by decide) ?_
    refine z_iload (x := v11) (pc := 79) dX10_gap_79 rfl ?_
    refine z_iadd (pc := 81) dX10_gap_81 ?_
    refine z_aldI (pc := 82) dX10_gap_82 (fun t15 => ?_)
    refine z_jn 112 (fun (y16 : Int32) => [some (.ref a), none, none, some (.int t8), some (.int t9), none, some (.int v11)]) (fun (y16 : Int32) => [.int y16]) (fun (y16 : Int32) => h7) ?_ ?_
    · rintro y16
      try dsimp only
      refine z_istore (i := 5) (la' := [some (.ref a), none, none, some (.int t8), some (.int t9), some (.int y16), some (.int v11)]) (pc := 112) dX10_gap_112 (by decide) rfl rfl ?_
      refine z_iinc (i := 6) (x := v11) (v := (v11 + 1)) (la' := [some (.ref a), none, none, some (.int t8), some (.int t9), some (.int y16), some (.int (v11 + 1))]) (pc := 114) dX10_gap_114 rfl rfl (by decide) rfl rfl ?_
      refine z_goto (tgt := 65) (pc := 117) dX10_gap_117 (by decide) ?_
      exact hrec13 (y16, (v11 + 1))
    intro j17 hj17
    refine z_ic_lt (tgt := 110) (pc := 83) dX10_gap_83 (by decide) (fun _ => ?_) (fun _ => ?_)
    · refine z_iload (x := v10) (pc := 110) dX10_gap_110 rfl ?_
      exact z_wk (hj17 v10) (And.intro rfl (And.intro rfl (And.intro rfl (And.intro rfl trivial))))
    refine z_iload (x := v10) (pc := 86) dX10_gap_86 rfl ?_
    refine z_iconst (v := 0) (pc := 88) dX10_gap_88 (by decide) ?_
    refine z_aload_n (x := a) (pc := 89) dX10_gap_89 rfl rfl ?_
    refine z_getR cX10 (pc := 90) dX10_gap_90 (j := 1) (by decide) rfl w_1088 (fun r18 => ?_)
    refine z_bipush (v := 7) (pc := 93) dX10_gap_93 (by decide) ?_
    refine z_iload (x := v11) (pc := 95) dX10_gap_95 rfl ?_
    refine z_iadd (pc := 97) dX10_gap_97 ?_
    refine z_aldI (pc := 98) dX10_gap_98 (fun t19 => ?_)
    refine z_iload_n (x := t8) (pc := 99) dX10_gap_99 rfl rfl ?_
    refine z_isub (pc := 100) dX10_gap_100 ?_
    refine z_cSP (As := [.int 0, .int (t19 - t8)]) (rest := [.int v10]) hG.1 (m_X10_greater hG h7 0 (t19 - t8)) oX10_greater (pc := 101) dX10_gap_101 rfl w_1331 rfl rfl rfl (fun t20 => ?_)
    refine z_cSP (As := [.int v10, .int t20]) (rest := []) hG.1 (m_X10_lesser hG h7 v10 t20) oX10_lesser (pc := 104) dX10_gap_104 rfl w_1230 rfl rfl rfl (fun t21 => ?_)
    refine z_goto (tgt := 112) (pc := 107) dX10_gap_107 (by decide) ?_
    exact z_wk (hj17 t21) (And.intro rfl (And.intro rfl (And.intro rfl (And.intro rfl trivial))))
  refine z_iconst (v := (-1)) (pc := 30) dX10_gap_30 (by decide) ?_
  exact z_ireturn (pc := 31) dX10_gap_31 rfl rfl rfl
set_option maxHeartbeats 2000000 in
set_option maxRecDepth 20000 in
theorem m_X9_lifts {G : Z_G} (hG : z_GG G) (h : Z_H) (a : Nat) (x1 : Int32) (x2 : Int32) (x3 : Int32) : z_Met G iX9_lifts [.ref a, .int x1, .int x2, .int x3] h ((f_X9_lifts h a x1 x2 x3).bind fun r => some (r, h)) := by
  refine z_in (la := [some (.ref a), some (.int x1), some (.int x2), some (.int x3), none, none]) (by decide) rfl rfl rfl ?_
  unfold f_X9_lifts
  refine z_gg (fun _ => ?_)
  refine z_aload_n (x := a) (pc := 0) dX9_lifts_0 rfl rfl ?_
  refine z_getR cX9 (pc := 1) dX9_lifts_1 (j := 3) (by decide) rfl w_406 (fun r1 => ?_)
  refine z_getR cX6 (pc := 4) dX9_lifts_4 (j := 3) (by decide) rfl w_341 (fun r2 => ?_)
  refine z_iload_n (x := x1) (pc := 7) dX9_lifts_7 rfl rfl ?_
  refine z_aldI (pc := 8) dX9_lifts_8 (fun t3 => ?_)
  refine z_istore (i := 4) (la' := [some (.ref a), some (.int x1), some (.int x2), some (.int x3), some (.int t3), none]) (pc := 9) dX9_lifts_9 (by decide) rfl rfl ?_
  refine z_iconst (v := 0) (pc := 11) dX9_lifts_11 (by decide) ?_
  refine z_istore (i := 5) (la' := [some (.ref a), some (.int x1), some (.int x2), some (.int x3), some (.int t3), some (.int 0)]) (pc := 12) dX9_lifts_12 (by decide) rfl rfl ?_
  refine z_lp (T := Int32) (s0 := (t3, 0)) 14 (fun ((v4, v5) : Int32 × Int32) => [some (.ref a), some (.int x1), some (.int x2), some (.int x3), some (.int v4), some (.int v5)]) (fun ((v4, v5) : Int32 × Int32) => h) (fun _ => 71) (fun (v6 : Int32) => [some (.ref a), some (.int x1), some (.int x2), some (.int x3), some (.int v6), none]) (fun (v6 : Int32) => h) ?_ ?_
  · rintro v6
    try dsimp only
    refine z_aload_n (x := a) (pc := 71) dX9_lifts_71 rfl rfl ?_
    refine z_getR cX9 (pc := 72) dX9_lifts_72 (j := 3) (by decide) rfl w_406 (fun r20 => ?_)
    refine z_getR cX6 (pc := 75) dX9_lifts_75 (j := 5) (by decide) rfl w_346 (fun r21 => ?_)
    refine z_iload_n (x := x1) (pc := 78) dX9_lifts_78 rfl rfl ?_
    refine z_aldI (pc := 79) dX9_lifts_79 (fun t22 => ?_)
    refine z_aload_n (x := a) (pc := 80) dX9_lifts_80 rfl rfl ?_
    refine z_getR cX9 (pc := 81) dX9_lifts_81 (j := 3) (by decide) rfl w_406 (fun r23 => ?_)
    refine z_getI cX6 (pc := 84) dX9_lifts_84 (j := 9) (by decide) rfl w_355 (fun t24 => ?_)
    refine z_iload_n (x := x3) (pc := 87) dX9_lifts_87 rfl rfl ?_
    refine z_ior (pc := 88) dX9_lifts_88 ?_
    refine z_iand (pc := 89) dX9_lifts_89 ?_
    refine z_cSP (As := [.int (t22 &&& (t24 ||| x3))]) (rest := []) hG.1 (m_J6_bitCount_0f7a4 hG h (t22 &&& (t24 ||| x3))) oJ6_bitCount_0f7a4 (pc := 90) dX9_lifts_90 rfl w_951 rfl rfl rfl (fun t25 => ?_)
    refine z_istore (i := 5) (la' := [some (.ref a), some (.int x1), some (.int x2), some (.int x3), some (.int v6), some (.int t25)]) (pc := 93) dX9_lifts_93 (by decide) rfl rfl ?_
    refine z_aload_n (x := a) (pc := 95) dX9_lifts_95 rfl rfl ?_
    refine z_getR cX9 (pc := 96) dX9_lifts_96 (j := 0) (by decide) rfl w_403 (fun r26 => ?_)
    refine z_getR cX7 (pc := 99) dX9_lifts_99 (j := 1) (by decide) rfl w_244 (fun r27 => ?_)
    refine z_iload (x := v6) (pc := 102) dX9_lifts_102 rfl ?_
    refine z_iload (x := t25) (pc := 104) dX9_lifts_104 rfl ?_
    refine z_cVP (As := [.int v6, .int t25]) (rest := []) hG.1 (m_X3_rankFor hG h r27 v6 t25) (fun _ e => z_gdb e) oX3_rankFor (pc := 106) dX9_lifts_106 rfl w_956 rfl rfl rfl (fun t28 => ?_)
    refine z_iload_n (x := x2) (pc := 109) dX9_lifts_109 rfl rfl ?_
    refine z_ic_lt (tgt := 117) (pc := 110) dX9_lifts_110 (by decide) (fun _ => ?_) (fun _ => ?_)
    · refine z_iconst (v := 0) (pc := 117) dX9_lifts_117 (by decide) ?_
      exact z_ireturn (pc := 118) dX9_lifts_118 rfl (by decide) rfl
    refine z_iconst (v := 1) (pc := 113) dX9_lifts_113 (by decide) ?_
    refine z_goto (tgt := 118) (pc := 114) dX9_lifts_114 (by decide) ?_
    exact z_ireturn (pc := 118) dX9_lifts_118 rfl (by decide) rfl
  intro k' hx1 rec7 hrec7
  rintro ⟨v4, v5⟩
  unfold f_X9_lifts_l1
  try dsimp only
  refine z_iload (x := v5) (pc := 14) dX9_lifts_14 rfl ?_
  refine z_aload_n (x := a) (pc := 16) dX9_lifts_16 rfl rfl ?_
  refine z_getR cX9 (pc := 17) dX9_lifts_17 (j := 0) (by decide) rfl w_403 (fun r8 => ?_)
  refine z_getR cX7 (pc := 20) dX9_lifts_20 (j := 2) (by decide) rfl w_247 (fun r9 => ?_)
  refine z_getI cX0 (pc := 23) dX9_lifts_23 (j := 0) (by decide) rfl w_139 (fun t10 => ?_)
  refine z_ic_ge (tgt := 71) (pc := 26) dX9_lifts_26 (by decide) (fun _ => ?_) (fun _ => ?_)
  · exact z_wk (hx1 v4) (And.intro rfl (And.intro rfl (And.intro rfl (And.intro rfl (And.intro rfl trivial)))))
  refine z_iload_n (x := x3) (pc := 29) dX9_lifts_29 rfl rfl ?_
  refine z_iload (x := v5) (pc := 30) dX9_lifts_30 rfl ?_
  refine z_ishr (pc := 32) dX9_lifts_32 ?_
  refine z_iconst (v := 1) (pc := 33) dX9_lifts_33 (by decide) ?_
  refine z_iand (pc := 34) dX9_lifts_34 ?_
  refine z_iconst (v := 1) (pc := 35) dX9_lifts_35 (by decide) ?_
  refine z_jn 65 (fun (v11 : Int32) => [some (.ref a), some (.int x1), some (.int x2), some (.int x3), some (.int v11), some (.int v5)]) (fun (v11 : Int32) => []) (fun (v11 : Int32) => h) ?_ ?_
  · rintro v11
    try dsimp only
    refine z_iinc (i := 5) (x := v5) (v := (v5 + 1)) (la' := [some (.ref a), some (.int x1), some (.int x2), some (.int x3), some (.int v11), some (.int (v5 + 1))]) (pc := 65) dX9_lifts_65 rfl rfl (by decide) rfl rfl ?_
    refine z_goto (tgt := 14) (pc := 68) dX9_lifts_68 (by decide) ?_
    exact hrec7 (v11, (v5 + 1))
  intro j12 hj12
  refine z_ic_ne (tgt := 65) (pc := 36) dX9_lifts_36 (by decide) (fun _ => ?_) (fun _ => ?_)
  · exact hj12 v4
  refine z_iload (x := v4) (pc := 39) dX9_lifts_39 rfl ?_
  refine z_aload_n (x := a) (pc := 41) dX9_lifts_41 rfl rfl ?_
  refine z_getR cX9 (pc := 42) dX9_lifts_42 (j := 0) (by decide) rfl w_403 (fun r13 => ?_)
  refine z_getR cX7 (pc := 45) dX9_lifts_45 (j := 1) (by decide) rfl w_244 (fun r14 => ?_)
  refine z_getI cX3 (pc := 48) dX9_lifts_48 (j := 0) (by decide) rfl w_68 (fun t15 => ?_)
  refine z_aload_n (x := a) (pc := 51) dX9_lifts_51 rfl rfl ?_
  refine z_getR cX9 (pc := 52) dX9_lifts_52 (j := 3) (by decide) rfl w_406 (fun r16 => ?_)
  refine z_getR cX6 (pc := 55) dX9_lifts_55 (j := 1) (by decide) rfl w_337 (fun r17 => ?_)
  refine z_iload (x := v5) (pc := 58) dX9_lifts_58 rfl ?_
  refine z_aldI (pc := 60) dX9_lifts_60 (fun t18 => ?_)
  refine z_isub (pc := 61) dX9_lifts_61 ?_
  refine z_iadd (pc := 62) dX9_lifts_62 ?_
  refine z_nm (fun v19 => ?_)
  refine z_istore (i := 4) (la' := [some (.ref a), some (.int x1), some (.int x2), some (.int x3), some (.int v19), some (.int v5)]) (pc := 63) dX9_lifts_63 (by decide) rfl rfl ?_
  exact hj12 v19
set_option maxHeartbeats 2000000 in
set_option maxRecDepth 20000 in
theorem m_X9_leastLift {G : Z_G} (hG : z_GG G) (h : Z_H) (a : Nat) (x1 : Int32) (x2 : Int32) : z_Met G iX9_leastLift [.ref a, .int x1, .int x2] h ((f_X9_leastLift h a x1 x2).bind fun r => some (r, h)) := by
  refine z_in (la := [some (.ref a), some (.int x1), some (.int x2), none, none, none, none]) (by decide) rfl rfl rfl ?_
  unfold f_X9_leastLift
  refine z_gg (fun _ => ?_)
  refine z_aload_n (x := a) (pc := 0) dX9_leastLift_0 rfl rfl ?_
  refine z_getR cX9 (pc := 1) dX9_leastLift_1 (j := 3) (by decide) rfl w_406 (fun r1 => ?_)
  refine z_getR cX6 (pc := 4) dX9_leastLift_4 (j := 4) (by decide) rfl w_343 (fun r2 => ?_)
  refine z_iload_n (x := x1) (pc := 7) dX9_leastLift_7 rfl rfl ?_
  refine z_aldI (pc := 8) dX9_leastLift_8 (fun t3 => ?_)
  refine z_aload_n (x := a) (pc := 9) dX9_leastLift_9 rfl rfl ?_
  refine z_getR cX9 (pc := 10) dX9_leastLift_10 (j := 3) (by decide) rfl w_406 (fun r4 => ?_)
  refine z_getI cX6 (pc := 13) dX9_leastLift_13 (j := 9) (by decide) rfl w_355 (fun t5 => ?_)
  refine z_iconst (v := (-1)) (pc := 16) dX9_leastLift_16 (by decide) ?_
  refine z_ixor (pc := 17) dX9_leastLift_17 ?_
  refine z_iand (pc := 18) dX9_leastLift_18 ?_
  refine z_aload_n (x := a) (pc := 19) dX9_leastLift_19 rfl rfl ?_
  refine z_getR cX9 (pc := 20) dX9_leastLift_20 (j := 3) (by decide) rfl w_406 (fun r6 => ?_)
  refine z_getI cX6 (pc := 23) dX9_leastLift_23 (j := 10) (by decide) rfl w_357 (fun t7 => ?_)
  refine z_iconst (v := (-1)) (pc := 26) dX9_leastLift_26 (by decide) ?_
  refine z_ixor (pc := 27) dX9_leastLift_27 ?_
  refine z_iand (pc := 28) dX9_leastLift_28 ?_
  refine z_iconst (v := 1) (pc := 29) dX9_leastLift_29 (by decide) ?_
  refine z_iload_n (x := x1) (pc := 30) dX9_leastLift_30 rfl rfl ?_
  refine z_ishl (pc := 31) dX9_leastLift_31 ?_
  refine z_iconst (v := (-1)) (pc := 32) dX9_leastLift_32 (by decide) ?_
  refine z_ixor (pc := 33) dX9_leastLift_33 ?_
  refine z_iand (pc := 34) dX9_leastLift_34 ?_
  refine z_nm (fun v8 => ?_)
  refine z_istore_n (i := 3) (la' := [some (.ref a), some (.int x1), some (.int x2), some (.int v8), none, none, none]) (pc := 35) dX9_leastLift_35 rfl (by decide) rfl rfl ?_
  refine z_iconst (v := (-1)) (pc := 36) dX9_leastLift_36 (by decide) ?_
  refine z_istore (i := 4) (la' := [some (.ref a), some (.int x1), some (.int x2), some (.int v8), some (.int (-1)), none, none]) (pc := 37) dX9_leastLift_37 (by decide) rfl rfl ?_
  refine z_bipush (v := 11) (pc := 39) dX9_leastLift_39 (by decide) ?_
  refine z_istore (i := 5) (la' := [some (.ref a), some (.int x1), some (.int x2), some (.int v8), some (.int (-1)), some (.int 11), none]) (pc := 41) dX9_leastLift_41 (by decide) rfl rfl ?_
  refine z_iconst (v := 0) (pc := 43) dX9_leastLift_43 (by decide) ?_
  refine z_istore (i := 6) (la' := [some (.ref a), some (.int x1), some (.int x2), some (.int v8), some (.int (-1)), some (.int 11), some (.int 0)]) (pc := 44) dX9_leastLift_44 (by decide) rfl rfl ?_
  refine z_lp (T := Int32) (s0 := ((-1), 11, 0)) 46 (fun ((v9, v10, v11) : Int32 × Int32 × Int32) => [some (.ref a), some (.int x1), some (.int x2), some (.int v8), some (.int v9), some (.int v10), some (.int v11)]) (fun ((v9, v10, v11) : Int32 × Int32 × Int32) => h) (fun _ => 101) (fun (v12 : Int32) => [none, none, none, none, some (.int v12), none, none]) (fun (v12 : Int32) => h) ?_ ?_
  · rintro v12
    try dsimp only
    refine z_iload (x := v12) (pc := 101) dX9_leastLift_101 rfl ?_
    exact z_ireturn (pc := 103) dX9_leastLift_103 rfl rfl rfl
  intro k' hx1 rec13 hrec13
  rintro ⟨v9, v10, v11⟩
  unfold f_X9_leastLift_l1
  try dsimp only
  refine z_iload (x := v11) (pc := 46) dX9_leastLift_46 rfl ?_
  refine z_sipush (v := 1024) (pc := 48) dX9_leastLift_48 (by decide) ?_
  refine z_ic_ge (tgt := 101) (pc := 51) dX9_leastLift_51 (by decide) (fun _ => ?_) (fun _ => ?_)
  · exact z_wk (hx1 v9) (And.intro rfl trivial)
  refine z_iload (x := v11) (pc := 54) dX9_leastLift_54 rfl ?_
  refine z_iload_n (x := v8) (pc := 56) dX9_leastLift_56 rfl rfl ?_
  refine z_iconst (v := (-1)) (pc := 57) dX9_leastLift_57 (by decide) ?_
  refine z_ixor (pc := 58) dX9_leastLift_58 ?_
  refine z_iand (pc := 59) dX9_leastLift_59 ?_
  refine z_jn 95 (fun ((v14, v15) : Int32 × Int32) => [some (.ref a), some (.int x1), some (.int x2), some (.int v8), some (.int v14), some (.int v15), some (.int v11)]) (fun ((v14, v15) : Int32 × Int32) => []) (fun ((v14, v15) : Int32 × Int32) => h) ?_ ?_
  · rintro ⟨v14, v15⟩
    try dsimp only
    refine z_iinc (i := 6) (x := v11) (v := (v11 + 1)) (la' := [some (.ref a), some (.int x1), some (.int x2), some (.int v8), some (.int v14), some (.int v15), some (.int (v11 + 1))]) (pc := 95) dX9_leastLift_95 rfl rfl (by decide) rfl rfl ?_
    refine z_goto (tgt := 46) (pc := 98) dX9_leastLift_98 (by decide) ?_
    exact hrec13 (v14, v15, (v11 + 1))
  intro j16 hj16
  refine z_if_ne (tgt := 95) (pc := 60) dX9_leastLift_60 (by decide) (fun _ => ?_) (fun _ => ?_)
  · exact hj16 (v9, v10)
  refine z_iload (x := v11) (pc := 63) dX9_leastLift_63 rfl ?_
  refine z_cSP (As := [.int v11]) (rest := []) hG.1 (m_J6_bitCount_0f7a4 hG h v11) oJ6_bitCount_0f7a4 (pc := 65) dX9_leastLift_65 rfl w_951 rfl rfl rfl (fun t17 => ?_)
  refine z_iload (x := v10) (pc := 68) dX9_leastLift_68 rfl ?_
  refine z_ic_ge (tgt := 95) (pc := 70) dX9_leastLift_70 (by decide) (fun _ => ?_) (fun _ => ?_)
  · exact hj16 (v9, v10)
  refine z_aload_n (x := a) (pc := 73) dX9_leastLift_73 rfl rfl ?_
  refine z_iload_n (x := x1) (pc := 74) dX9_leastLift_74 rfl rfl ?_
  refine z_iload_n (x := x2) (pc := 75) dX9_leastLift_75 rfl rfl ?_
  refine z_iload (x := v11) (pc := 76) dX9_leastLift_76 rfl ?_
  refine z_cVP (As := [.int x1, .int x2, .int v11]) (rest := []) hG.1 (m_X9_lifts hG h a x1 x2 v11) (fun _ e => z_gdb e) oX9_lifts (pc := 78) dX9_leastLift_78 rfl w_952 rfl rfl rfl (fun t18 => ?_)
  refine z_if_eq (tgt := 95) (pc := 81) dX9_leastLift_81 (by decide) (fun _ => ?_) (fun _ => ?_)
  · exact hj16 (v9, v10)
  refine z_iload (x := v11) (pc := 84) dX9_leastLift_84 rfl ?_
  refine z_istore (i := 4) (la' := [some (.ref a), some (.int x1), some (.int x2), some (.int v8), some (.int v11), some (.int v10), some (.int v11)]) (pc := 86) dX9_leastLift_86 (by decide) rfl rfl ?_
  refine z_iload (x := v11) (pc := 88) dX9_leastLift_88 rfl ?_
  refine z_cSP (As := [.int v11]) (rest := []) hG.1 (m_J6_bitCount_0f7a4 hG h v11) oJ6_bitCount_0f7a4 (pc := 90) dX9_leastLift_90 rfl w_951 rfl rfl rfl (fun t19 => ?_)
  refine z_istore (i := 5) (la' := [some (.ref a), some (.int x1), some (.int x2), some (.int v8), some (.int v11), some (.int t19), some (.int v11)]) (pc := 93) dX9_leastLift_93 (by decide) rfl rfl ?_
  exact hj16 (v11, t19)
set_option maxHeartbeats 2000000 in
set_option maxRecDepth 20000 in
theorem m_X9_lift {G : Z_G} (hG : z_GG G) (h : Z_H) (a : Nat) (x1 : Int32) (x2 : Int32) (x3 : Int32) : z_Met G iX9_lift [.ref a, .int x1, .int x2, .int x3] h ((f_X9_lift h a x1 x2 x3).bind some) := by
  refine z_in (la := [some (.ref a), some (.int x1), some (.int x2), some (.int x3), none]) (by decide) rfl rfl rfl ?_
  unfold f_X9_lift
  refine z_gg (fun _ => ?_)
  refine z_aload_n (x := a) (pc := 0) dX9_lift_0 rfl rfl ?_
  refine z_getR cX9 (pc := 1) dX9_lift_1 (j := 0) (by decide) rfl w_403 (fun r1 => ?_)
  refine z_getR cX7 (pc := 4) dX9_lift_4 (j := 2) (by decide) rfl w_247 (fun r2 => ?_)
  refine z_iload_n (x := x1) (pc := 7) dX9_lift_7 rfl rfl ?_
  refine z_cVP (As := [.int x1]) (rest := []) hG.1 (m_X0_has hG h r2 x1) (fun _ e => z_gdb e) oX0_has (pc := 8) dX9_lift_8 rfl w_643 rfl rfl rfl (fun t3 => ?_)
  refine z_if_eq (tgt := 24) (pc := 11) dX9_lift_11 (by decide) (fun _ => ?_) (fun _ => ?_)
  · refine z_iconst (v := (-1)) (pc := 24) dX9_lift_24 (by decide) ?_
    exact z_ireturn (pc := 25) dX9_lift_25 rfl rfl rfl
  refine z_iload_n (x := x2) (pc := 14) dX9_lift_14 rfl rfl ?_
  refine z_iconst (v := 1) (pc := 15) dX9_lift_15 (by decide) ?_
  refine z_ic_lt (tgt := 24) (pc := 16) dX9_lift_16 (by decide) (fun _ => ?_) (fun _ => ?_)
  · refine z_iconst (v := (-1)) (pc := 24) dX9_lift_24 (by decide) ?_
    exact z_ireturn (pc := 25) dX9_lift_25 rfl rfl rfl
  refine z_iload_n (x := x2) (pc := 19) dX9_lift_19 rfl rfl ?_
  refine z_iconst (v := 3) (pc := 20) dX9_lift_20 (by decide) ?_
  refine z_ic_le (tgt := 26) (pc := 21) dX9_lift_21 (by decide) (fun _ => ?_) (fun _ => ?_)
  · refine z_aload_n (x := a) (pc := 26) dX9_lift_26 rfl rfl ?_
    refine z_getR cX9 (pc := 27) dX9_lift_27 (j := 3) (by decide) rfl w_406 (fun r4 => ?_)
    refine z_aload_n (x := a) (pc := 30) dX9_lift_30 rfl rfl ?_
    refine z_getR cX9 (pc := 31) dX9_lift_31 (j := 0) (by decide) rfl w_403 (fun r5 => ?_)
    refine z_aload_n (x := a) (pc := 34) dX9_lift_34 rfl rfl ?_
    refine z_getR cX9 (pc := 35) dX9_lift_35 (j := 0) (by decide) rfl w_403 (fun r6 => ?_)
    refine z_getI cX7 (pc := 38) dX9_lift_38 (j := 8) (by decide) rfl w_261 (fun t7 => ?_)
    refine z_cVV (As := [.ref r5, .int t7]) (rest := []) hG.1 (m_X6_look hG h r4 r5 t7) (fun _ e => z_gdb e) oX6_look (pc := 41) dX9_lift_41 rfl w_721 rfl rfl rfl (fun h8 => ?_)
    refine z_aload_n (x := a) (pc := 44) dX9_lift_44 rfl rfl ?_
    refine z_iload_n (x := x1) (pc := 45) dX9_lift_45 rfl rfl ?_
    refine z_iload_n (x := x2) (pc := 46) dX9_lift_46 rfl rfl ?_
    refine z_cVP (As := [.int x1, .int x2]) (rest := []) hG.1 (m_X9_leastLift hG h8 a x1 x2) (fun _ e => z_gdb e) oX9_leastLift (pc := 47) dX9_lift_47 rfl w_947 rfl rfl rfl (fun t9 => ?_)
    refine z_istore (i := 4) (la' := [some (.ref a), some (.int x1), some (.int x2), some (.int x3), some (.int t9)]) (pc := 50) dX9_lift_50 (by decide) rfl rfl ?_
    refine z_iload_n (x := x3) (pc := 52) dX9_lift_52 rfl rfl ?_
    refine z_if_ne (tgt := 62) (pc := 53) dX9_lift_53 (by decide) (fun _ => ?_) (fun _ => ?_)
    · refine z_iload (x := t9) (pc := 62) dX9_lift_62 rfl ?_
      refine z_goto (tgt := 72) (pc := 64) dX9_lift_64 (by decide) ?_
      exact z_ireturn (pc := 72) dX9_lift_72 rfl rfl rfl
    refine z_iload (x := t9) (pc := 56) dX9_lift_56 rfl ?_
    refine z_iconst (v := (-1)) (pc := 58) dX9_lift_58 (by decide) ?_
    refine z_ic_ne (tgt := 67) (pc := 59) dX9_lift_59 (by decide) (fun _ => ?_) (fun _ => ?_)
    · refine z_iload (x := t9) (pc := 67) dX9_lift_67 rfl ?_
      refine z_cSP (As := [.int t9]) (rest := []) hG.1 (m_J6_bitCount_0f7a4 hG h8 t9) oJ6_bitCount_0f7a4 (pc := 69) dX9_lift_69 rfl w_951 rfl rfl rfl (fun t10 => ?_)
      exact z_ireturn (pc := 72) dX9_lift_72 rfl rfl rfl
    refine z_iload (x := t9) (pc := 62) dX9_lift_62 rfl ?_
    refine z_goto (tgt := 72) (pc := 64) dX9_lift_64 (by decide) ?_
    exact z_ireturn (pc := 72) dX9_lift_72 rfl rfl rfl
  refine z_iconst (v := (-1)) (pc := 24) dX9_lift_24 (by decide) ?_
  exact z_ireturn (pc := 25) dX9_lift_25 rfl rfl rfl
set_option maxHeartbeats 2000000 in
set_option maxRecDepth 20000 in
theorem m_X10_lacksOf {G : Z_G} (hG : z_GG G) (h : Z_H) (a : Nat) (x1 : Int32) : z_Met G iX10_lacksOf [.ref a, .int x1] h ((f_X10_lacksOf h a x1).bind fun r => some (r, h)) := by
  refine z_in (la := [some (.ref a), some (.int x1)]) (by decide) rfl rfl rfl ?_
  unfold f_X10_lacksOf
  refine z_gg (fun _ => ?_)
  refine z_aload_n (x := a) (pc := 0) dX10_lacksOf_0 rfl rfl ?_
  refine z_getR cX10 (pc := 1) dX10_lacksOf_1 (j := 1) (by decide) rfl w_1088 (fun r1 => ?_)
  refine z_iconst (v := 3) (pc := 4) dX10_lacksOf_4 (by decide) ?_
  refine z_aldI (pc := 5) dX10_lacksOf_5 (fun t2 => ?_)
  refine z_aload_n (x := a) (pc := 6) dX10_lacksOf_6 rfl rfl ?_
  refine z_getR cX10 (pc := 7) dX10_lacksOf_7 (j := 21) (by decide) rfl w_1108 (fun r3 => ?_)
  refine z_bipush (v := 100) (pc := 10) dX10_lacksOf_10 (by decide) ?_
  refine z_iload_n (x := x1) (pc := 12) dX10_lacksOf_12 rfl rfl ?_
  refine z_imul (pc := 13) dX10_lacksOf_13 ?_
  refine z_aload_n (x := a) (pc := 14) dX10_lacksOf_14 rfl rfl ?_
  refine z_cVP (As := []) (rest := [.int ((100 : Int32) * x1), .ref r3, .int t2]) hG.1 (m_X10_now hG h a) (fun _ e => z_gdb e) oX10_now (pc := 15) dX10_lacksOf_15 rfl w_1247 rfl rfl rfl (fun t4 => ?_)
  refine z_iadd (pc := 18) dX10_lacksOf_18 ?_
  refine z_aldI (pc := 19) dX10_lacksOf_19 (fun t5 => ?_)
  refine z_isub (pc := 20) dX10_lacksOf_20 ?_
  exact z_ireturn (pc := 21) dX10_lacksOf_21 rfl rfl rfl
set_option maxHeartbeats 2000000 in
set_option maxRecDepth 20000 in
theorem m_X10_lifts {G : Z_G} (hG : z_GG G) (h : Z_H) (a : Nat) (x1 : Int32) (x2 : Int32) (x3 : Int32) : z_Met G iX10_lifts [.ref a, .int x1, .int x2, .int x3] h ((f_X10_lifts h a x1 x2 x3).bind fun r => some (r, h)) := by
  refine z_in (la := [some (.ref a), some (.int x1), some (.int x2), some (.int x3), none, none, none, none]) (by decide) rfl rfl rfl ?_
  unfold f_X10_lifts
  refine z_gg (fun _ => ?_)
  refine z_aload_n (x := a) (pc := 0) dX10_lifts_0 rfl rfl ?_
  refine z_iload_n (x := x1) (pc := 1) dX10_lifts_1 rfl rfl ?_
  refine z_cVP (As := [.int x1]) (rest := []) hG.1 (m_X10_groupOf hG h a x1) (fun _ e => z_gdb e) oX10_groupOf (pc := 2) dX10_lifts_2 rfl w_1366 rfl rfl rfl (fun t1 => ?_)
  refine z_istore (i := 4) (la' := [some (.ref a), some (.int x1), some (.int x2), some (.int x3), some (.int t1), none, none, none]) (pc := 5) dX10_lifts_5 (by decide) rfl rfl ?_
  refine z_aload_n (x := a) (pc := 7) dX10_lifts_7 rfl rfl ?_
  refine z_iload_n (x := x1) (pc := 8) dX10_lifts_8 rfl rfl ?_
  refine z_cVP (As := [.int x1]) (rest := []) hG.1 (m_X10_legsOf hG h a x1) (fun _ e => z_gdb e) oX10_legsOf (pc := 9) dX10_lifts_9 rfl w_1381 rfl rfl rfl (fun t2 => ?_)
  refine z_istore (i := 5) (la' := [some (.ref a), some (.int x1), some (.int x2), some (.int x3), some (.int t1), some (.int t2), none, none]) (pc := 12) dX10_lifts_12 (by decide) rfl rfl ?_
  refine z_aload_n (x := a) (pc := 14) dX10_lifts_14 rfl rfl ?_
  refine z_iload_n (x := x1) (pc := 15) dX10_lifts_15 rfl rfl ?_
  refine z_cVP (As := [.int x1]) (rest := []) hG.1 (m_X10_directOf hG h a x1) (fun _ e => z_gdb e) oX10_directOf (pc := 16) dX10_lifts_16 rfl w_1385 rfl rfl rfl (fun t3 => ?_)
  refine z_istore (i := 6) (la' := [some (.ref a), some (.int x1), some (.int x2), some (.int x3), some (.int t1), some (.int t2), some (.int t3), none]) (pc := 19) dX10_lifts_19 (by decide) rfl rfl ?_
  refine z_iconst (v := 0) (pc := 21) dX10_lifts_21 (by decide) ?_
  refine z_istore (i := 7) (la' := [some (.ref a), some (.int x1), some (.int x2), some (.int x3), some (.int t1), some (.int t2), some (.int t3), some (.int 0)]) (pc := 22) dX10_lifts_22 (by decide) rfl rfl ?_
  refine z_weak (la' := [some (.ref a), none, some (.int x2), some (.int x3), some (.int t1), some (.int t2), some (.int t3), some (.int 0)]) (And.intro rfl (And.intro rfl (And.intro rfl (And.intro rfl (And.intro rfl (And.intro rfl (And.intro rfl trivial))))))) ?_
  refine z_lp (T := Int32 × Int32) (s0 := (t1, t2, 0)) 24 (fun ((v4, v5, v6) : Int32 × Int32 × Int32) => [some (.ref a), none, some (.int x2), some (.int x3), some (.int v4), some (.int v5), some (.int t3), some (.int v6)]) (fun ((v4, v5, v6) : Int32 × Int32 × Int32) => h) (fun _ => 92) (fun ((v7, v8) : Int32 × Int32) => [some (.ref a), none, none, some (.int x3), some (.int v7), some (.int v8), none, none]) (fun ((v7, v8) : Int32 × Int32) => h) ?_ ?_
  · rintro ⟨v7, v8⟩
    try dsimp only
    refine z_aload_n (x := a) (pc := 92) dX10_lifts_92 rfl rfl ?_
    refine z_iload (x := v7) (pc := 93) dX10_lifts_93 rfl ?_
    refine z_iload (x := v8) (pc := 95) dX10_lifts_95 rfl ?_
    refine z_cVP (As := [.int v7, .int v8]) (rest := []) hG.1 (m_X10_rankBy hG h a v7 v8) (fun _ e => z_gdb e) oX10_rankBy (pc := 97) dX10_lifts_97 rfl w_1389 rfl rfl rfl (fun t22 => ?_)
    refine z_iload_n (x := x3) (pc := 100) dX10_lifts_100 rfl rfl ?_
    refine z_ic_lt (tgt := 108) (pc := 101) dX10_lifts_101 (by decide) (fun _ => ?_) (fun _ => ?_)
    · refine z_iconst (v := 0) (pc := 108) dX10_lifts_108 (by decide) ?_
      exact z_ireturn (pc := 109) dX10_lifts_109 rfl (by decide) rfl
    refine z_iconst (v := 1) (pc := 104) dX10_lifts_104 (by decide) ?_
    refine z_goto (tgt := 109) (pc := 105) dX10_lifts_105 (by decide) ?_
    exact z_ireturn (pc := 109) dX10_lifts_109 rfl (by decide) rfl
  intro k' hx1 rec9 hrec9
  rintro ⟨v4, v5, v6⟩
  unfold f_X10_lifts_l1
  try dsimp only
  refine z_iload (x := v6) (pc := 24) dX10_lifts_24 rfl ?_
  refine z_aload_n (x := a) (pc := 26) dX10_lifts_26 rfl rfl ?_
  refine z_getI cX10 (pc := 27) dX10_lifts_27 (j := 19) (by decide) rfl w_1106 (fun t10 => ?_)
  refine z_ic_ge (tgt := 92) (pc := 30) dX10_lifts_30 (by decide) (fun _ => ?_) (fun _ => ?_)
  · exact z_wk (hx1 (v4, v5)) (And.intro rfl (And.intro rfl (And.intro rfl (And.intro rfl trivial))))
  refine z_iload (x := v4) (pc := 33) dX10_lifts_33 rfl ?_
  refine z_iload_n (x := x2) (pc := 35) dX10_lifts_35 rfl rfl ?_
  refine z_iload (x := v6) (pc := 36) dX10_lifts_36 rfl ?_
  refine z_cSP (As := [.int x2, .int v6]) (rest := [.int v4]) hG.1 (m_X10_has hG h x2 v6) oX10_has (pc := 38) dX10_lifts_38 rfl w_1374 rfl rfl rfl (fun t11 => ?_)
  refine z_jn 54 (fun (y12 : Int32) => [some (.ref a), none, some (.int x2), some (.int x3), none, some (.int v5), some (.int t3), some (.int v6)]) (fun (y12 : Int32) => [.int y12, .int v4]) (fun (y12 : Int32) => h) ?_ ?_
  · rintro y12
    try dsimp only
    refine z_iadd (pc := 54) dX10_lifts_54 ?_
    refine z_nm (fun v14 => ?_)
    refine z_istore (i := 4) (la' := [some (.ref a), none, some (.int x2), some (.int x3), some (.int v14), some (.int v5), some (.int t3), some (.int v6)]) (pc := 55) dX10_lifts_55 (by decide) rfl rfl ?_
    refine z_iload (x := v5) (pc := 57) dX10_lifts_57 rfl ?_
    refine z_iload_n (x := x2) (pc := 59) dX10_lifts_59 rfl rfl ?_
    refine z_iload (x := v6) (pc := 60) dX10_lifts_60 rfl ?_
    refine z_cSP (As := [.int x2, .int v6]) (rest := [.int v5]) hG.1 (m_X10_has hG h x2 v6) oX10_has (pc := 62) dX10_lifts_62 rfl w_1374 rfl rfl rfl (fun t15 => ?_)
    refine z_jn 83 (fun (y16 : Int32) => [some (.ref a), none, some (.int x2), some (.int x3), some (.int v14), none, some (.int t3), some (.int v6)]) (fun (y16 : Int32) => [.int y16, .int v5]) (fun (y16 : Int32) => h) ?_ ?_
    · rintro y16
      try dsimp only
      refine z_iadd (pc := 83) dX10_lifts_83 ?_
      refine z_nm (fun v18 => ?_)
      refine z_istore (i := 5) (la' := [some (.ref a), none, some (.int x2), some (.int x3), some (.int v14), some (.int v18), some (.int t3), some (.int v6)]) (pc := 84) dX10_lifts_84 (by decide) rfl rfl ?_
      refine z_iinc (i := 7) (x := v6) (v := (v6 + 1)) (la' := [some (.ref a), none, some (.int x2), some (.int x3), some (.int v14), some (.int v18), some (.int t3), some (.int (v6 + 1))]) (pc := 86) dX10_lifts_86 rfl rfl (by decide) rfl rfl ?_
      refine z_goto (tgt := 24) (pc := 89) dX10_lifts_89 (by decide) ?_
      exact hrec9 (v14, v18, (v6 + 1))
    intro j17 hj17
    refine z_jn 82 (fun (_ : Unit) => [some (.ref a), none, some (.int x2), some (.int x3), some (.int v14), none, some (.int t3), some (.int v6)]) (fun (_ : Unit) => [.int v5]) (fun (_ : Unit) => h) ?_ ?_
    · rintro _
      try dsimp only
      refine z_iconst (v := 0) (pc := 82) dX10_lifts_82 (by decide) ?_
      exact hj17 0
    intro j19 hj19
    refine z_if_eq (tgt := 82) (pc := 65) dX10_lifts_65 (by decide) (fun _ => ?_) (fun _ => ?_)
    · exact z_wk (hj19 ()) (And.intro rfl (And.intro rfl (And.intro rfl (And.intro rfl (And.intro rfl (And.intro rfl trivial))))))
    refine z_iload (x := t3) (pc := 68) dX10_lifts_68 rfl ?_
    refine z_iload (x := v6) (pc := 70) dX10_lifts_70 rfl ?_
    refine z_cSP (As := [.int t3, .int v6]) (rest := [.int v5]) hG.1 (m_X10_has hG h t3 v6) oX10_has (pc := 72) dX10_lifts_72 rfl w_1374 rfl rfl rfl (fun t20 => ?_)
    refine z_if_eq (tgt := 82) (pc := 75) dX10_lifts_75 (by decide) (fun _ => ?_) (fun _ => ?_)
    · exact z_wk (hj19 ()) (And.intro rfl (And.intro rfl (And.intro rfl (And.intro rfl (And.intro rfl (And.intro rfl trivial))))))
    refine z_iconst (v := 1) (pc := 78) dX10_lifts_78 (by decide) ?_
    refine z_goto (tgt := 83) (pc := 79) dX10_lifts_79 (by decide) ?_
    exact z_wk (hj17 1) (And.intro rfl (And.intro rfl (And.intro rfl (And.intro rfl (And.intro rfl (And.intro rfl trivial))))))
  intro j13 hj13
  refine z_if_eq (tgt := 53) (pc := 41) dX10_lifts_41 (by decide) (fun _ => ?_) (fun _ => ?_)
  · refine z_iconst (v := 0) (pc := 53) dX10_lifts_53 (by decide) ?_
    exact z_wk (hj13 0) (And.intro rfl (And.intro rfl (And.intro rfl (And.intro rfl (And.intro rfl (And.intro rfl trivial))))))
  refine z_aload_n (x := a) (pc := 44) dX10_lifts_44 rfl rfl ?_
  refine z_iload (x := v6) (pc := 45) dX10_lifts_45 rfl ?_
  refine z_cVP (As := [.int v6]) (rest := [.int v4]) hG.1 (m_X10_lacksOf hG h a v6) (fun _ e => z_gdb e) oX10_lacksOf (pc := 47) dX10_lifts_47 rfl w_1529 rfl rfl rfl (fun t21 => ?_)
  refine z_goto (tgt := 54) (pc := 50) dX10_lifts_50 (by decide) ?_
  exact z_wk (hj13 t21) (And.intro rfl (And.intro rfl (And.intro rfl (And.intro rfl (And.intro rfl (And.intro rfl trivial))))))
set_option maxHeartbeats 2000000 in
set_option maxRecDepth 20000 in
theorem m_X10_lift {G : Z_G} (hG : z_GG G) (h : Z_H) (a : Nat) (x1 : Int32) (x2 : Int32) (x3 : Int32) : z_Met G iX10_lift [.ref a, .int x1, .int x2, .int x3] h ((f_X10_lift h a x1 x2 x3).bind some) := by
  refine z_in (la := [some (.ref a), some (.int x1), some (.int x2), some (.int x3), none, none, none]) (by decide) rfl rfl rfl ?_
  unfold f_X10_lift
  refine z_gg (fun _ => ?_)
  refine z_aload_n (x := a) (pc := 0) dX10_lift_0 rfl rfl ?_
  refine z_iconst (v := 0) (pc := 1) dX10_lift_1 (by decide) ?_
  refine z_putI cX10 (pc := 2) dX10_lift_2 (j := 0) (by decide) rfl rfl w_1087 (fun h1 => ?_)
  refine z_aload_n (x := a) (pc := 5) dX10_lift_5 rfl rfl ?_
  refine z_iload_n (x := x1) (pc := 6) dX10_lift_6 rfl rfl ?_
  refine z_cVP (As := [.int x1]) (rest := []) hG.1 (m_X10_isSeller hG h1 a x1) (fun _ e => z_gdb e) oX10_isSeller (pc := 7) dX10_lift_7 rfl w_1255 rfl rfl rfl (fun t2 => ?_)
  refine z_if_eq (tgt := 22) (pc := 10) dX10_lift_10 (by decide) (fun _ => ?_) (fun _ => ?_)
  · refine z_iconst (v := (-1)) (pc := 22) dX10_lift_22 (by decide) ?_
    exact z_ireturn (pc := 23) dX10_lift_23 rfl rfl rfl
  refine z_iload_n (x := x2) (pc := 13) dX10_lift_13 rfl rfl ?_
  refine z_iconst (v := 1) (pc := 14) dX10_lift_14 (by decide) ?_
  refine z_iconst (v := 3) (pc := 15) dX10_lift_15 (by decide) ?_
  refine z_cSP (As := [.int x2, .int 1, .int 3]) (rest := []) hG.1 (m_X10_in hG h1 x2 1 3) oX10_in (pc := 16) dX10_lift_16 rfl w_1179 rfl rfl rfl (fun t3 => ?_)
  refine z_if_ne (tgt := 24) (pc := 19) dX10_lift_19 (by decide) (fun _ => ?_) (fun _ => ?_)
  · refine z_aload_n (x := a) (pc := 24) dX10_lift_24 rfl rfl ?_
    refine z_cVV (As := []) (rest := []) hG.1 (m_X10_laysOwn hG h1 a) (fun _ e => z_gdb e) oX10_laysOwn (pc := 25) dX10_lift_25 rfl w_1346 rfl rfl rfl (fun h4 => ?_)
    refine z_aload_n (x := a) (pc := 28) dX10_lift_28 rfl rfl ?_
    refine z_aload_n (x := a) (pc := 29) dX10_lift_29 rfl rfl ?_
    refine z_cVP (As := []) (rest := [.ref a]) hG.1 (m_X10_now hG h4 a) (fun _ e => z_gdb e) oX10_now (pc := 30) dX10_lift_30 rfl w_1247 rfl rfl rfl (fun t5 => ?_)
    refine z_cVV (As := [.int t5]) (rest := []) hG.1 (m_X10_laysMonth hG h4 a t5) (fun _ e => z_gdb e) oX10_laysMonth (pc := 33) dX10_lift_33 rfl w_1283 rfl rfl rfl (fun h6 => ?_)
    refine z_aload_n (x := a) (pc := 36) dX10_lift_36 rfl rfl ?_
    refine z_iload_n (x := x1) (pc := 37) dX10_lift_37 rfl rfl ?_
    refine z_cVP (As := [.int x1]) (rest := []) hG.1 (m_X10_belowOf hG h6 a x1) (fun _ e => z_gdb e) oX10_belowOf (pc := 38) dX10_lift_38 rfl w_1370 rfl rfl rfl (fun t7 => ?_)
    refine z_istore (i := 4) (la' := [some (.ref a), some (.int x1), some (.int x2), some (.int x3), some (.int t7), none, none]) (pc := 41) dX10_lift_41 (by decide) rfl rfl ?_
    refine z_iconst (v := 0) (pc := 43) dX10_lift_43 (by decide) ?_
    refine z_istore (i := 5) (la' := [some (.ref a), some (.int x1), some (.int x2), some (.int x3), some (.int t7), some (.int 0), none]) (pc := 44) dX10_lift_44 (by decide) rfl rfl ?_
    refine z_lp (T := Int32) (s0 := (t7, 0)) 46 (fun ((v8, v9) : Int32 × Int32) => [some (.ref a), some (.int x1), some (.int x2), some (.int x3), some (.int v8), some (.int v9), none]) (fun ((v8, v9) : Int32 × Int32) => h6) (fun _ => 105) (fun (v10 : Int32) => [some (.ref a), some (.int x1), some (.int x2), some (.int x3), some (.int v10), none, none]) (fun (v10 : Int32) => h6) ?_ ?_
    · rintro v10
      try dsimp only
      refine z_iconst (v := (-1)) (pc := 105) dX10_lift_105 (by decide) ?_
      refine z_istore (i := 5) (la' := [some (.ref a), some (.int x1), some (.int x2), some (.int x3), some (.int v10), some (.int (-1)), none]) (pc := 106) dX10_lift_106 (by decide) rfl rfl ?_
      refine z_iconst (v := 0) (pc := 108) dX10_lift_108 (by decide) ?_
      refine z_istore (i := 6) (la' := [some (.ref a), some (.int x1), some (.int x2), some (.int x3), some (.int v10), some (.int (-1)), some (.int 0)]) (pc := 109) dX10_lift_109 (by decide) rfl rfl ?_
      refine z_lp (T := Int32) (s0 := ((-1), 0)) 111 (fun ((v19, v20) : Int32 × Int32) => [some (.ref a), some (.int x1), some (.int x2), some (.int x3), some (.int v10), some (.int v19), some (.int v20)]) (fun ((v19, v20) : Int32 × Int32) => h6) (fun _ => 172) (fun (v21 : Int32) => [none, none, none, some (.int x3), none, some (.int v21), none]) (fun (v21 : Int32) => h6) ?_ ?_
      · rintro v21
        try dsimp only
        refine z_iload_n (x := x3) (pc := 172) dX10_lift_172 rfl rfl ?_
        refine z_if_ne (tgt := 182) (pc := 173) dX10_lift_173 (by decide) (fun _ => ?_) (fun _ => ?_)
        · refine z_iload (x := v21) (pc := 182) dX10_lift_182 rfl ?_
          refine z_goto (tgt := 192) (pc := 184) dX10_lift_184 (by decide) ?_
          exact z_ireturn (pc := 192) dX10_lift_192 rfl rfl rfl
        refine z_iload (x := v21) (pc := 176) dX10_lift_176 rfl ?_
        refine z_iconst (v := (-1)) (pc := 178) dX10_lift_178 (by decide) ?_
        refine z_ic_ne (tgt := 187) (pc := 179) dX10_lift_179 (by decide) (fun _ => ?_) (fun _ => ?_)
        · refine z_iload (x := v21) (pc := 187) dX10_lift_187 rfl ?_
          refine z_cSP (As := [.int v21]) (rest := []) hG.1 (m_X10_ones hG h6 v21) oX10_ones (pc := 189) dX10_lift_189 rfl w_1401 rfl rfl rfl (fun t30 => ?_)
          exact z_ireturn (pc := 192) dX10_lift_192 rfl rfl rfl
        refine z_iload (x := v21) (pc := 182) dX10_lift_182 rfl ?_
        refine z_goto (tgt := 192) (pc := 184) dX10_lift_184 (by decide) ?_
        exact z_ireturn (pc := 192) dX10_lift_192 rfl rfl rfl
      intro k' hx2 rec22 hrec22
      rintro ⟨v19, v20⟩
      unfold f_X10_lift_l2
      try dsimp only
      refine z_iload (x := v20) (pc := 111) dX10_lift_111 rfl ?_
      refine z_iconst (v := 1) (pc := 113) dX10_lift_113 (by decide) ?_
      refine z_aload_n (x := a) (pc := 114) dX10_lift_114 rfl rfl ?_
      refine z_getI cX10 (pc := 115) dX10_lift_115 (j := 19) (by decide) rfl w_1106 (fun t23 => ?_)
      refine z_ishl (pc := 118) dX10_lift_118 ?_
      refine z_ic_ge (tgt := 172) (pc := 119) dX10_lift_119 (by decide) (fun _ => ?_) (fun _ => ?_)
      · exact z_wk (hx2 v19) (And.intro rfl (And.intro rfl trivial))
      refine z_iload (x := v20) (pc := 122) dX10_lift_122 rfl ?_
      refine z_iload (x := v10) (pc := 124) dX10_lift_124 rfl ?_
      refine z_iand (pc := 126) dX10_lift_126 ?_
      refine z_iload (x := v20) (pc := 127) dX10_lift_127 rfl ?_
      refine z_jn 166 (fun (v24 : Int32) => [some (.ref a), some (.int x1), some (.int x2), some (.int x3), some (.int v10), some (.int v24), some (.int v20)]) (fun (v24 : Int32) => []) (fun (v24 : Int32) => h6) ?_ ?_
      · rintro v24
        try dsimp only
        refine z_iinc (i := 6) (x := v20) (v := (v20 + 1)) (la' := [some (.ref a), some (.int x1), some (.int x2), some (.int x3), some (.int v10), some (.int v24), some (.int (v20 + 1))]) (pc := 166) dX10_lift_166 rfl rfl (by decide) rfl rfl ?_
        refine z_goto (tgt := 111) (pc := 169) dX10_lift_169 (by decide) ?_
        exact hrec22 (v24, (v20 + 1))
      intro j25 hj25
      refine z_ic_ne (tgt := 166) (pc := 129) dX10_lift_129 (by decide) (fun _ => ?_) (fun _ => ?_)
      · exact hj25 v19
      refine z_iload (x := v19) (pc := 132) dX10_lift_132 rfl ?_
      refine z_iconst (v := (-1)) (pc := 134) dX10_lift_134 (by decide) ?_
      refine z_jn 151 (fun (_ : Unit) => [some (.ref a), some (.int x1), some (.int x2), some (.int x3), some (.int v10), some (.int v19), some (.int v20)]) (fun (_ : Unit) => []) (fun (_ : Unit) => h6) ?_ ?_
      · rintro _
        try dsimp only
        refine z_aload_n (x := a) (pc := 151) dX10_lift_151 rfl rfl ?_
        refine z_iload_n (x := x1) (pc := 152) dX10_lift_152 rfl rfl ?_
        refine z_iload (x := v20) (pc := 153) dX10_lift_153 rfl ?_
        refine z_iload_n (x := x2) (pc := 155) dX10_lift_155 rfl rfl ?_
        refine z_cVP (As := [.int x1, .int v20, .int x2]) (rest := []) hG.1 (m_X10_lifts hG h6 a x1 v20 x2) (fun _ e => z_gdb e) oX10_lifts (pc := 156) dX10_lift_156 rfl w_1525 rfl rfl rfl (fun t27 => ?_)
        refine z_if_eq (tgt := 166) (pc := 159) dX10_lift_159 (by decide) (fun _ => ?_) (fun _ => ?_)
        · exact hj25 v19
        refine z_iload (x := v20) (pc := 162) dX10_lift_162 rfl ?_
        refine z_istore (i := 5) (la' := [some (.ref a), some (.int x1), some (.int x2), some (.int x3), some (.int v10), some (.int v20), some (.int v20)]) (pc := 164) dX10_lift_164 (by decide) rfl rfl ?_
        exact hj25 v20
      intro j26 hj26
      refine z_ic_eq (tgt := 151) (pc := 135) dX10_lift_135 (by decide) (fun _ => ?_) (fun _ => ?_)
      · exact hj26 ()
      refine z_iload (x := v20) (pc := 138) dX10_lift_138 rfl ?_
      refine z_cSP (As := [.int v20]) (rest := []) hG.1 (m_X10_ones hG h6 v20) oX10_ones (pc := 140) dX10_lift_140 rfl w_1401 rfl rfl rfl (fun t28 => ?_)
      refine z_iload (x := v19) (pc := 143) dX10_lift_143 rfl ?_
      refine z_cSP (As := [.int v19]) (rest := [.int t28]) hG.1 (m_X10_ones hG h6 v19) oX10_ones (pc := 145) dX10_lift_145 rfl w_1401 rfl rfl rfl (fun t29 => ?_)
      refine z_ic_ge (tgt := 166) (pc := 148) dX10_lift_148 (by decide) (fun _ => ?_) (fun _ => ?_)
      · exact hj25 v19
      exact hj26 ()
    intro k' hx1 rec11 hrec11
    rintro ⟨v8, v9⟩
    unfold f_X10_lift_l1
    try dsimp only
    refine z_iload (x := v9) (pc := 46) dX10_lift_46 rfl ?_
    refine z_aload_n (x := a) (pc := 48) dX10_lift_48 rfl rfl ?_
    refine z_getI cX10 (pc := 49) dX10_lift_49 (j := 19) (by decide) rfl w_1106 (fun t12 => ?_)
    refine z_ic_ge (tgt := 105) (pc := 52) dX10_lift_52 (by decide) (fun _ => ?_) (fun _ => ?_)
    · exact z_wk (hx1 v8) (And.intro rfl (And.intro rfl (And.intro rfl (And.intro rfl (And.intro rfl trivial)))))
    refine z_iload (x := v9) (pc := 55) dX10_lift_55 rfl ?_
    refine z_iload_n (x := x1) (pc := 57) dX10_lift_57 rfl rfl ?_
    refine z_jn 97 (fun (y13 : Int32) => [some (.ref a), some (.int x1), some (.int x2), some (.int x3), none, some (.int v9), none]) (fun (y13 : Int32) => [.int y13]) (fun (y13 : Int32) => h6) ?_ ?_
    · rintro y13
      try dsimp only
      refine z_istore (i := 4) (la' := [some (.ref a), some (.int x1), some (.int x2), some (.int x3), some (.int y13), some (.int v9), none]) (pc := 97) dX10_lift_97 (by decide) rfl rfl ?_
      refine z_iinc (i := 5) (x := v9) (v := (v9 + 1)) (la' := [some (.ref a), some (.int x1), some (.int x2), some (.int x3), some (.int y13), some (.int (v9 + 1)), none]) (pc := 99) dX10_lift_99 rfl rfl (by decide) rfl rfl ?_
      refine z_goto (tgt := 46) (pc := 102) dX10_lift_102 (by decide) ?_
      exact hrec11 (y13, (v9 + 1))
    intro j14 hj14
    refine z_jn 83 (fun (_ : Unit) => [some (.ref a), some (.int x1), some (.int x2), some (.int x3), some (.int v8), some (.int v9), none]) (fun (_ : Unit) => []) (fun (_ : Unit) => h6) ?_ ?_
    · rintro _
      try dsimp only
      refine z_iload (x := v8) (pc := 83) dX10_lift_83 rfl ?_
      refine z_iconst (v := 1) (pc := 85) dX10_lift_85 (by decide) ?_
      refine z_iload (x := v9) (pc := 86) dX10_lift_86 rfl ?_
      refine z_ishl (pc := 88) dX10_lift_88 ?_
      refine z_iconst (v := (-1)) (pc := 89) dX10_lift_89 (by decide) ?_
      refine z_ixor (pc := 90) dX10_lift_90 ?_
      refine z_iand (pc := 91) dX10_lift_91 ?_
      refine z_goto (tgt := 97) (pc := 92) dX10_lift_92 (by decide) ?_
      exact z_wk (hj14 (v8 &&& (((1 : Int32) <<< (v9 &&& 31)) ^^^ (-1)))) (And.intro rfl (And.intro rfl (And.intro rfl (And.intro rfl (And.intro rfl trivial)))))
    intro j15 hj15
    refine z_ic_eq (tgt := 83) (pc := 58) dX10_lift_58 (by decide) (fun _ => ?_) (fun _ => ?_)
    · exact hj15 ()
    refine z_aload_n (x := a) (pc := 61) dX10_lift_61 rfl rfl ?_
    refine z_iload (x := v9) (pc := 62) dX10_lift_62 rfl ?_
    refine z_cVP (As := [.int v9]) (rest := []) hG.1 (m_X10_hasQuit hG h6 a v9) (fun _ e => z_gdb e) oX10_hasQuit (pc := 64) dX10_lift_64 rfl w_1259 rfl rfl rfl (fun t16 => ?_)
    refine z_if_ne (tgt := 83) (pc := 67) dX10_lift_67 (by decide) (fun _ => ?_) (fun _ => ?_)
    · exact hj15 ()
    refine z_aload_n (x := a) (pc := 70) dX10_lift_70 rfl rfl ?_
    refine z_iload (x := v9) (pc := 71) dX10_lift_71 rfl ?_
    refine z_aload_n (x := a) (pc := 73) dX10_lift_73 rfl rfl ?_
    refine z_cVP (As := []) (rest := [.int v9, .ref a]) hG.1 (m_X10_now hG h6 a) (fun _ e => z_gdb e) oX10_now (pc := 74) dX10_lift_74 rfl w_1247 rfl rfl rfl (fun t17 => ?_)
    refine z_cVP (As := [.int v9, .int t17]) (rest := []) hG.1 (m_X10_isActive hG h6 a v9 t17) (fun _ e => z_gdb e) oX10_isActive (pc := 77) dX10_lift_77 rfl w_1354 rfl rfl rfl (fun t18 => ?_)
    refine z_if_eq (tgt := 95) (pc := 80) dX10_lift_80 (by decide) (fun _ => ?_) (fun _ => ?_)
    · refine z_iload (x := v8) (pc := 95) dX10_lift_95 rfl ?_
      exact z_wk (hj14 v8) (And.intro rfl (And.intro rfl (And.intro rfl (And.intro rfl (And.intro rfl trivial)))))
    exact hj15 ()
  refine z_iconst (v := (-1)) (pc := 22) dX10_lift_22 (by decide) ?_
  exact z_ireturn (pc := 23) dX10_lift_23 rfl rfl rfl
set_option maxHeartbeats 2000000 in
set_option maxRecDepth 20000 in
theorem m_X6_lookWithNewcomer {G : Z_G} (hG : z_GG G) (h : Z_H) (a : Nat) (b1 : Nat) (x2 : Int32) (x3 : Int32) : z_Met G iX6_lookWithNewcomer [.ref a, .ref b1, .int x2, .int x3] h ((f_X6_lookWithNewcomer h a b1 x2 x3).bind fun h1 => some (0, h1)) := by
  refine z_in (la := [some (.ref a), some (.ref b1), some (.int x2), some (.int x3), none]) (by decide) rfl rfl rfl ?_
  unfold f_X6_lookWithNewcomer
  refine z_gg (fun _ => ?_)
  refine z_aload_n (x := a) (pc := 0) dX6_lookWithNewcomer_0 rfl rfl ?_
  refine z_aload_n (x := b1) (pc := 1) dX6_lookWithNewcomer_1 rfl rfl ?_
  refine z_aload_n (x := b1) (pc := 2) dX6_lookWithNewcomer_2 rfl rfl ?_
  refine z_getI cX7 (pc := 3) dX6_lookWithNewcomer_3 (j := 8) (by decide) rfl w_260 (fun t1 => ?_)
  refine z_cVV (As := [.ref b1, .int t1]) (rest := []) hG.1 (m_X6_lay hG h a b1 t1) (fun _ e => z_gdb e) oX6_lay (pc := 6) dX6_lookWithNewcomer_6 rfl w_725 rfl rfl rfl (fun h2 => ?_)
  refine z_aload_n (x := a) (pc := 9) dX6_lookWithNewcomer_9 rfl rfl ?_
  refine z_getI cX6 (pc := 10) dX6_lookWithNewcomer_10 (j := 12) (by decide) rfl w_359 (fun t3 => ?_)
  refine z_istore (i := 4) (la' := [some (.ref a), some (.ref b1), some (.int x2), some (.int x3), some (.int t3)]) (pc := 13) dX6_lookWithNewcomer_13 (by decide) rfl rfl ?_
  refine z_aload_n (x := a) (pc := 15) dX6_lookWithNewcomer_15 rfl rfl ?_
  refine z_iload (x := t3) (pc := 16) dX6_lookWithNewcomer_16 rfl ?_
  refine z_cVV (As := [.int t3]) (rest := []) hG.1 (m_X6_clearRow hG h2 a t3) (fun _ e => z_gdb e) oX6_clearRow (pc := 18) dX6_lookWithNewcomer_18 rfl w_729 rfl rfl rfl (fun h4 => ?_)
  refine z_aload_n (x := a) (pc := 21) dX6_lookWithNewcomer_21 rfl rfl ?_
  refine z_getR cX6 (pc := 22) dX6_lookWithNewcomer_22 (j := 0) (by decide) rfl w_333 (fun r5 => ?_)
  refine z_iload (x := t3) (pc := 25) dX6_lookWithNewcomer_25 rfl ?_
  refine z_iload_n (x := x2) (pc := 27) dX6_lookWithNewcomer_27 rfl rfl ?_
  refine z_astI (pc := 28) dX6_lookWithNewcomer_28 (fun h6 => ?_)
  refine z_aload_n (x := a) (pc := 29) dX6_lookWithNewcomer_29 rfl rfl ?_
  refine z_dup (pc := 30) dX6_lookWithNewcomer_30 rfl ?_
  refine z_getI cX6 (pc := 31) dX6_lookWithNewcomer_31 (j := 11) (by decide) rfl w_358 (fun t7 => ?_)
  refine z_iconst (v := 1) (pc := 34) dX6_lookWithNewcomer_34 (by decide) ?_
  refine z_iload (x := t3) (pc := 35) dX6_lookWithNewcomer_35 rfl ?_
  refine z_ishl (pc := 37) dX6_lookWithNewcomer_37 ?_
  refine z_ior (pc := 38) dX6_lookWithNewcomer_38 ?_
  refine z_putI cX6 (pc := 39) dX6_lookWithNewcomer_39 (j := 11) (by decide) rfl rfl w_358 (fun h8 => ?_)
  refine z_aload_n (x := a) (pc := 42) dX6_lookWithNewcomer_42 rfl rfl ?_
  refine z_dup (pc := 43) dX6_lookWithNewcomer_43 rfl ?_
  refine z_getI cX6 (pc := 44) dX6_lookWithNewcomer_44 (j := 12) (by decide) rfl w_359 (fun t9 => ?_)
  refine z_iconst (v := 1) (pc := 47) dX6_lookWithNewcomer_47 (by decide) ?_
  refine z_iadd (pc := 48) dX6_lookWithNewcomer_48 ?_
  refine z_putI cX6 (pc := 49) dX6_lookWithNewcomer_49 (j := 12) (by decide) rfl rfl w_359 (fun h10 => ?_)
  refine z_aload_n (x := a) (pc := 52) dX6_lookWithNewcomer_52 rfl rfl ?_
  refine z_iload (x := t3) (pc := 53) dX6_lookWithNewcomer_53 rfl ?_
  refine z_iload_n (x := x3) (pc := 55) dX6_lookWithNewcomer_55 rfl rfl ?_
  refine z_cVV (As := [.int t3, .int x3]) (rest := []) hG.1 (m_X6_addSale hG h10 a t3 x3) (fun _ e => z_gdb e) oX6_addSale (pc := 56) dX6_lookWithNewcomer_56 rfl w_925 rfl rfl rfl (fun h11 => ?_)
  refine z_aload_n (x := a) (pc := 59) dX6_lookWithNewcomer_59 rfl rfl ?_
  refine z_aload_n (x := b1) (pc := 60) dX6_lookWithNewcomer_60 rfl rfl ?_
  refine z_getR cX7 (pc := 61) dX6_lookWithNewcomer_61 (j := 1) (by decide) rfl w_242 (fun r12 => ?_)
  refine z_cVV (As := [.ref r12]) (rest := []) hG.1 (m_X6_settle hG h11 a r12) (fun _ e => z_gdb e) oX6_settle (pc := 64) dX6_lookWithNewcomer_64 rfl w_743 rfl rfl rfl (fun h13 => ?_)
  exact z_return (pc := 67) dX6_lookWithNewcomer_67 rfl rfl
set_option maxHeartbeats 2000000 in
set_option maxRecDepth 20000 in
theorem m_X9_paidByNewcomer {G : Z_G} (hG : z_GG G) (h : Z_H) (a : Nat) (x1 : Int32) (x2 : Int32) (x3 : Int32) : z_Met G iX9_paidByNewcomer [.ref a, .int x1, .int x2, .int x3] h ((f_X9_paidByNewcomer h a x1 x2 x3).bind some) := by
  refine z_in (la := [some (.ref a), some (.int x1), some (.int x2), some (.int x3), none, none]) (by decide) rfl rfl rfl ?_
  unfold f_X9_paidByNewcomer
  refine z_gg (fun _ => ?_)
  refine z_aload_n (x := a) (pc := 0) dX9_paidByNewcomer_0 rfl rfl ?_
  refine z_getR cX9 (pc := 1) dX9_paidByNewcomer_1 (j := 3) (by decide) rfl w_406 (fun r1 => ?_)
  refine z_aload_n (x := a) (pc := 4) dX9_paidByNewcomer_4 rfl rfl ?_
  refine z_getR cX9 (pc := 5) dX9_paidByNewcomer_5 (j := 0) (by decide) rfl w_403 (fun r2 => ?_)
  refine z_iload_n (x := x2) (pc := 8) dX9_paidByNewcomer_8 rfl rfl ?_
  refine z_iload_n (x := x3) (pc := 9) dX9_paidByNewcomer_9 rfl rfl ?_
  refine z_cVV (As := [.ref r2, .int x2, .int x3]) (rest := []) hG.1 (m_X6_lookWithNewcomer hG h r1 r2 x2 x3) (fun _ e => z_gdb e) oX6_lookWithNewcomer (pc := 10) dX9_paidByNewcomer_10 rfl w_965 rfl rfl rfl (fun h3 => ?_)
  refine z_aload_n (x := a) (pc := 13) dX9_paidByNewcomer_13 rfl rfl ?_
  refine z_getR cX9 (pc := 14) dX9_paidByNewcomer_14 (j := 4) (by decide) rfl w_407 (fun r4 => ?_)
  refine z_aload_n (x := a) (pc := 17) dX9_paidByNewcomer_17 rfl rfl ?_
  refine z_getR cX9 (pc := 18) dX9_paidByNewcomer_18 (j := 0) (by decide) rfl w_403 (fun r5 => ?_)
  refine z_aload_n (x := a) (pc := 21) dX9_paidByNewcomer_21 rfl rfl ?_
  refine z_getR cX9 (pc := 22) dX9_paidByNewcomer_22 (j := 3) (by decide) rfl w_406 (fun r6 => ?_)
  refine z_aload_n (x := a) (pc := 25) dX9_paidByNewcomer_25 rfl rfl ?_
  refine z_getR cX9 (pc := 26) dX9_paidByNewcomer_26 (j := 0) (by decide) rfl w_403 (fun r7 => ?_)
  refine z_getR cX7 (pc := 29) dX9_paidByNewcomer_29 (j := 2) (by decide) rfl w_247 (fun r8 => ?_)
  refine z_getI cX0 (pc := 32) dX9_paidByNewcomer_32 (j := 0) (by decide) rfl w_139 (fun t9 => ?_)
  refine z_iload_n (x := x3) (pc := 35) dX9_paidByNewcomer_35 rfl rfl ?_
  refine z_cVV (As := [.ref r5, .ref r6, .int t9, .int x3]) (rest := []) hG.1 (m_X2_payUp hG h3 r4 r5 r6 t9 x3) (fun _ e => z_gdb e) oX2_payUp (pc := 36) dX9_paidByNewcomer_36 rfl w_766 rfl rfl rfl (fun h10 => ?_)
  refine z_iconst (v := 0) (pc := 39) dX9_paidByNewcomer_39 (by decide) ?_
  refine z_istore (i := 4) (la' := [some (.ref a), some (.int x1), some (.int x2), some (.int x3), some (.int 0), none]) (pc := 40) dX9_paidByNewcomer_40 (by decide) rfl rfl ?_
  refine z_iconst (v := 1) (pc := 42) dX9_paidByNewcomer_42 (by decide) ?_
  refine z_istore (i := 5) (la' := [some (.ref a), some (.int x1), some (.int x2), some (.int x3), some (.int 0), some (.int 1)]) (pc := 43) dX9_paidByNewcomer_43 (by decide) rfl rfl ?_
  refine z_weak (la' := [some (.ref a), some (.int x1), none, none, some (.int 0), some (.int 1)]) (And.intro rfl (And.intro rfl (And.intro rfl (And.intro rfl trivial)))) ?_
  refine z_lp (T := Int32) (s0 := (0, 1)) 45 (fun ((v11, v12) : Int32 × Int32) => [some (.ref a), some (.int x1), none, none, some (.int v11), some (.int v12)]) (fun ((v11, v12) : Int32 × Int32) => h10) (fun _ => 92) (fun (v13 : Int32) => [none, none, none, none, some (.int v13), none]) (fun (v13 : Int32) => h10) ?_ ?_
  · rintro v13
    try dsimp only
    refine z_iload (x := v13) (pc := 92) dX9_paidByNewcomer_92 rfl ?_
    exact z_ireturn (pc := 94) dX9_paidByNewcomer_94 rfl rfl rfl
  intro k' hx1 rec14 hrec14
  rintro ⟨v11, v12⟩
  unfold f_X9_paidByNewcomer_l1
  try dsimp only
  refine z_iload (x := v12) (pc := 45) dX9_paidByNewcomer_45 rfl ?_
  refine z_aload_n (x := a) (pc := 47) dX9_paidByNewcomer_47 rfl rfl ?_
  refine z_getR cX9 (pc := 48) dX9_paidByNewcomer_48 (j := 4) (by decide) rfl w_407 (fun r15 => ?_)
  refine z_getI cX2 (pc := 51) dX9_paidByNewcomer_51 (j := 0) (by decide) rfl w_395 (fun t16 => ?_)
  refine z_ic_gt (tgt := 92) (pc := 54) dX9_paidByNewcomer_54 (by decide) (fun _ => ?_) (fun _ => ?_)
  · exact z_wk (hx1 v11) (And.intro rfl trivial)
  refine z_aload_n (x := a) (pc := 57) dX9_paidByNewcomer_57 rfl rfl ?_
  refine z_getR cX9 (pc := 58) dX9_paidByNewcomer_58 (j := 4) (by decide) rfl w_407 (fun r17 => ?_)
  refine z_iload (x := v12) (pc := 61) dX9_paidByNewcomer_61 rfl ?_
  refine z_iconst (v := 0) (pc := 63) dX9_paidByNewcomer_63 (by decide) ?_
  refine z_cVP (As := [.int v12, .int 0]) (rest := []) hG.1 (m_X2_fact hG h10 r17 v12 0) (fun _ e => z_gdb e) oX2_fact (pc := 64) dX9_paidByNewcomer_64 rfl w_802 rfl rfl rfl (fun t18 => ?_)
  refine z_iload_n (x := x1) (pc := 67) dX9_paidByNewcomer_67 rfl rfl ?_
  refine z_jn 86 (fun (v19 : Int32) => [some (.ref a), some (.int x1), none, none, some (.int v19), some (.int v12)]) (fun (v19 : Int32) => []) (fun (v19 : Int32) => h10) ?_ ?_
  · rintro v19
    try dsimp only
    refine z_iinc (i := 5) (x := v12) (v := (v12 + 1)) (la' := [some (.ref a), some (.int x1), none, none, some (.int v19), some (.int (v12 + 1))]) (pc := 86) dX9_paidByNewcomer_86 rfl rfl (by decide) rfl rfl ?_
    refine z_goto (tgt := 45) (pc := 89) dX9_paidByNewcomer_89 (by decide) ?_
    exact hrec14 (v19, (v12 + 1))
  intro j20 hj20
  refine z_ic_ne (tgt := 86) (pc := 68) dX9_paidByNewcomer_68 (by decide) (fun _ => ?_) (fun _ => ?_)
  · exact hj20 v11
  refine z_iload (x := v11) (pc := 71) dX9_paidByNewcomer_71 rfl ?_
  refine z_aload_n (x := a) (pc := 73) dX9_paidByNewcomer_73 rfl rfl ?_
  refine z_getR cX9 (pc := 74) dX9_paidByNewcomer_74 (j := 4) (by decide) rfl w_407 (fun r21 => ?_)
  refine z_iload (x := v12) (pc := 77) dX9_paidByNewcomer_77 rfl ?_
  refine z_iconst (v := 2) (pc := 79) dX9_paidByNewcomer_79 (by decide) ?_
  refine z_cVP (As := [.int v12, .int 2]) (rest := [.int v11]) hG.1 (m_X2_fact hG h10 r21 v12 2) (fun _ e => z_gdb e) oX2_fact (pc := 80) dX9_paidByNewcomer_80 rfl w_802 rfl rfl rfl (fun t22 => ?_)
  refine z_iadd (pc := 83) dX9_paidByNewcomer_83 ?_
  refine z_nm (fun v23 => ?_)
  refine z_istore (i := 4) (la' := [some (.ref a), some (.int x1), none, none, some (.int v23), some (.int v12)]) (pc := 84) dX9_paidByNewcomer_84 (by decide) rfl rfl ?_
  exact hj20 v23
set_option maxHeartbeats 2000000 in
set_option maxRecDepth 20000 in
theorem m_X9_place {G : Z_G} (hG : z_GG G) (h : Z_H) (a : Nat) (x1 : Int32) (x2 : Int32) (x3 : Int32) : z_Met G iX9_place [.ref a, .int x1, .int x2, .int x3] h ((f_X9_place h a x1 x2 x3).bind some) := by
  refine z_in (la := [some (.ref a), some (.int x1), some (.int x2), some (.int x3), none, none, none, none]) (by decide) rfl rfl rfl ?_
  unfold f_X9_place
  refine z_gg (fun _ => ?_)
  refine z_aload_n (x := a) (pc := 0) dX9_place_0 rfl rfl ?_
  refine z_getR cX9 (pc := 1) dX9_place_1 (j := 0) (by decide) rfl w_403 (fun r1 => ?_)
  refine z_getR cX7 (pc := 4) dX9_place_4 (j := 2) (by decide) rfl w_247 (fun r2 => ?_)
  refine z_iload_n (x := x1) (pc := 7) dX9_place_7 rfl rfl ?_
  refine z_cVP (As := [.int x1]) (rest := []) hG.1 (m_X0_has hG h r2 x1) (fun _ e => z_gdb e) oX0_has (pc := 8) dX9_place_8 rfl w_643 rfl rfl rfl (fun t3 => ?_)
  refine z_if_eq (tgt := 26) (pc := 11) dX9_place_11 (by decide) (fun _ => ?_) (fun _ => ?_)
  · refine z_iconst (v := (-1)) (pc := 26) dX9_place_26 (by decide) ?_
    exact z_ireturn (pc := 27) dX9_place_27 rfl rfl rfl
  refine z_iload_n (x := x2) (pc := 14) dX9_place_14 rfl rfl ?_
  refine z_iconst (v := 1) (pc := 15) dX9_place_15 (by decide) ?_
  refine z_ic_lt (tgt := 26) (pc := 16) dX9_place_16 (by decide) (fun _ => ?_) (fun _ => ?_)
  · refine z_iconst (v := (-1)) (pc := 26) dX9_place_26 (by decide) ?_
    exact z_ireturn (pc := 27) dX9_place_27 rfl rfl rfl
  refine z_iload_n (x := x2) (pc := 19) dX9_place_19 rfl rfl ?_
  refine z_sipush (v := 9999) (pc := 20) dX9_place_20 (by decide) ?_
  refine z_ic_le (tgt := 28) (pc := 23) dX9_place_23 (by decide) (fun _ => ?_) (fun _ => ?_)
  · refine z_iconst (v := (-1)) (pc := 28) dX9_place_28 (by decide) ?_
    refine z_istore (i := 4) (la' := [some (.ref a), some (.int x1), some (.int x2), some (.int x3), some (.int (-1)), none, none, none]) (pc := 29) dX9_place_29 (by decide) rfl rfl ?_
    refine z_iconst (v := (-1)) (pc := 31) dX9_place_31 (by decide) ?_
    refine z_istore (i := 5) (la' := [some (.ref a), some (.int x1), some (.int x2), some (.int x3), some (.int (-1)), some (.int (-1)), none, none]) (pc := 32) dX9_place_32 (by decide) rfl rfl ?_
    refine z_iconst (v := 0) (pc := 34) dX9_place_34 (by decide) ?_
    refine z_istore (i := 6) (la' := [some (.ref a), some (.int x1), some (.int x2), some (.int x3), some (.int (-1)), some (.int (-1)), some (.int 0), none]) (pc := 35) dX9_place_35 (by decide) rfl rfl ?_
    refine z_lp (T := Int32 × Int32 × Z_H) (s0 := ((-1), (-1), 0, h)) 37 (fun ((v4, v5, v6, h7) : Int32 × Int32 × Int32 × Z_H) => [some (.ref a), some (.int x1), some (.int x2), some (.int x3), some (.int v4), some (.int v5), some (.int v6), none]) (fun ((v4, v5, v6, h7) : Int32 × Int32 × Int32 × Z_H) => h7) (fun _ => 102) (fun ((v8, v9, h10) : Int32 × Int32 × Z_H) => [none, none, none, some (.int x3), some (.int v8), some (.int v9), none, none]) (fun ((v8, v9, h10) : Int32 × Int32 × Z_H) => h10) ?_ ?_
    · rintro ⟨v8, v9, h10⟩
      try dsimp only
      refine z_iload_n (x := x3) (pc := 102) dX9_place_102 rfl rfl ?_
      refine z_if_eq (tgt := 111) (pc := 103) dX9_place_103 (by decide) (fun _ => ?_) (fun _ => ?_)
      · refine z_iload (x := v8) (pc := 111) dX9_place_111 rfl ?_
        exact z_ireturn (pc := 113) dX9_place_113 rfl rfl rfl
      refine z_iload (x := v9) (pc := 106) dX9_place_106 rfl ?_
      refine z_goto (tgt := 113) (pc := 108) dX9_place_108 (by decide) ?_
      exact z_ireturn (pc := 113) dX9_place_113 rfl rfl rfl
    intro k' hx1 rec11 hrec11
    rintro ⟨v4, v5, v6, h7⟩
    unfold f_X9_place_l1
    try dsimp only
    refine z_iload (x := v6) (pc := 37) dX9_place_37 rfl ?_
    refine z_aload_n (x := a) (pc := 39) dX9_place_39 rfl rfl ?_
    refine z_getR cX9 (pc := 40) dX9_place_40 (j := 0) (by decide) rfl w_403 (fun r12 => ?_)
    refine z_getR cX7 (pc := 43) dX9_place_43 (j := 2) (by decide) rfl w_247 (fun r13 => ?_)
    refine z_getI cX0 (pc := 46) dX9_place_46 (j := 0) (by decide) rfl w_139 (fun t14 => ?_)
    refine z_ic_ge (tgt := 102) (pc := 49) dX9_place_49 (by decide) (fun _ => ?_) (fun _ => ?_)
    · exact z_wk (hx1 (v4, v5, h7)) (And.intro rfl (And.intro rfl (And.intro rfl trivial)))
    refine z_aload_n (x := a) (pc := 52) dX9_place_52 rfl rfl ?_
    refine z_getR cX9 (pc := 53) dX9_place_53 (j := 0) (by decide) rfl w_403 (fun r15 => ?_)
    refine z_getR cX7 (pc := 56) dX9_place_56 (j := 2) (by decide) rfl w_247 (fun r16 => ?_)
    refine z_iload (x := v6) (pc := 59) dX9_place_59 rfl ?_
    refine z_cVP (As := [.int v6]) (rest := []) hG.1 (m_X0_hasLeft hG h7 r16 v6) (fun _ e => z_gdb e) oX0_hasLeft (pc := 61) dX9_place_61 rfl w_649 rfl rfl rfl (fun t17 => ?_)
    refine z_jn 79 (fun ((y18, h19) : Int32 × Z_H) => [some (.ref a), some (.int x1), some (.int x2), some (.int x3), some (.int v4), some (.int v5), some (.int v6), none]) (fun ((y18, h19) : Int32 × Z_H) => [.int y18]) (fun ((y18, h19) : Int32 × Z_H) => h19) ?_ ?_
    · rintro ⟨y18, h19⟩
      try dsimp only
      refine z_istore (i := 7) (la' := [some (.ref a), some (.int x1), some (.int x2), some (.int x3), some (.int v4), some (.int v5), some (.int v6), some (.int y18)]) (pc := 79) dX9_place_79 (by decide) rfl rfl ?_
      refine z_iload (x := y18) (pc := 81) dX9_place_81 rfl ?_
      refine z_iload (x := v5) (pc := 83) dX9_place_83 rfl ?_
      refine z_jn 96 (fun ((v21, v22) : Int32 × Int32) => [some (.ref a), some (.int x1), some (.int x2), some (.int x3), some (.int v21), some (.int v22), some (.int v6), none]) (fun ((v21, v22) : Int32 × Int32) => []) (fun ((v21, v22) : Int32 × Int32) => h19) ?_ ?_
      · rintro ⟨v21, v22⟩
        try dsimp only
        refine z_iinc (i := 6) (x := v6) (v := (v6 + 1)) (la' := [some (.ref a), some (.int x1), some (.int x2), some (.int x3), some (.int v21), some (.int v22), some (.int (v6 + 1)), none]) (pc := 96) dX9_place_96 rfl rfl (by decide) rfl rfl ?_
        refine z_goto (tgt := 37) (pc := 99) dX9_place_99 (by decide) ?_
        exact hrec11 (v21, v22, (v6 + 1), h19)
      intro j23 hj23
      refine z_ic_le (tgt := 96) (pc := 85) dX9_place_85 (by decide) (fun _ => ?_) (fun _ => ?_)
      · exact z_wk (hj23 (v4, v5)) (And.intro rfl (And.intro rfl (And.intro rfl (And.intro rfl (And.intro rfl (And.intro rfl (And.intro rfl trivial)))))))
      refine z_iload (x := y18) (pc := 88) dX9_place_88 rfl ?_
      refine z_istore (i := 5) (la' := [some (.ref a), some (.int x1), some (.int x2), some (.int x3), some (.int v4), some (.int y18), some (.int v6), some (.int y18)]) (pc := 90) dX9_place_90 (by decide) rfl rfl ?_
      refine z_iload (x := v6) (pc := 92) dX9_place_92 rfl ?_
      refine z_istore (i := 4) (la' := [some (.ref a), some (.int x1), some (.int x2), some (.int x3), some (.int v6), some (.int y18), some (.int v6), some (.int y18)]) (pc := 94) dX9_place_94 (by decide) rfl rfl ?_
      exact z_wk (hj23 (v6, y18)) (And.intro rfl (And.intro rfl (And.intro rfl (And.intro rfl (And.intro rfl (And.intro rfl (And.intro rfl trivial)))))))
    intro j20 hj20
    refine z_if_eq (tgt := 71) (pc := 64) dX9_place_64 (by decide) (fun _ => ?_) (fun _ => ?_)
    · refine z_aload_n (x := a) (pc := 71) dX9_place_71 rfl rfl ?_
      refine z_iload_n (x := x1) (pc := 72) dX9_place_72 rfl rfl ?_
      refine z_iload (x := v6) (pc := 73) dX9_place_73 rfl ?_
      refine z_iload_n (x := x2) (pc := 75) dX9_place_75 rfl rfl ?_
      refine z_dVI (As := [.int x1, .int v6, .int x2]) (rest := []) hG.1 (m_X9_paidByNewcomer hG h7 a x1 v6 x2) (fun _ e => z_gdb e) oX9_paidByNewcomer (pc := 76) dX9_place_76 rfl w_961 rfl rfl rfl (fun t24 h25 => ?_)
      exact hj20 (t24, h25)
    refine z_iconst (v := (-1)) (pc := 67) dX9_place_67 (by decide) ?_
    refine z_goto (tgt := 79) (pc := 68) dX9_place_68 (by decide) ?_
    exact hj20 ((-1), h7)
  refine z_iconst (v := (-1)) (pc := 26) dX9_place_26 (by decide) ?_
  exact z_ireturn (pc := 27) dX9_place_27 rfl rfl rfl
