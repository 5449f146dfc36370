set_option maxHeartbeats 2000000 in
set_option maxRecDepth 20000 in
theorem m_X10_paidBy {G : Z_G} (hG : z_GG G) (h : Z_H) (a : Nat) (x1 : Int32) (x2 : Int32) (x3 : Int32) : z_Met G iX10_paidBy [.ref a, .int x1, .int x2, .int x3] h ((f_X10_paidBy h a x1 x2 x3).bind some) := by
  refine z_in (la := [some (.ref a), some (.int x1), some (.int x2), some (.int x3), none, none]) (by decide) rfl rfl rfl ?_
  unfold f_X10_paidBy
  refine z_gg (fun _ => ?_)
  refine z_aload_n (x := a) (pc := 0) dX10_paidBy_0 rfl rfl ?_
  refine z_cVV (As := []) (rest := []) hG.1 (m_X10_laysOwn hG h a) (fun _ e => z_gdb e) oX10_laysOwn (pc := 1) dX10_paidBy_1 rfl w_1346 rfl rfl rfl (fun h1 => ?_)
  refine z_aload_n (x := a) (pc := 4) dX10_paidBy_4 rfl rfl ?_
  refine z_aload_n (x := a) (pc := 5) dX10_paidBy_5 rfl rfl ?_
  refine z_cVP (As := []) (rest := [.ref a]) hG.1 (m_X10_now hG h1 a) (fun _ e => z_gdb e) oX10_now (pc := 6) dX10_paidBy_6 rfl w_1247 rfl rfl rfl (fun t2 => ?_)
  refine z_cVV (As := [.int t2]) (rest := []) hG.1 (m_X10_laysMonth hG h1 a t2) (fun _ e => z_gdb e) oX10_laysMonth (pc := 9) dX10_paidBy_9 rfl w_1283 rfl rfl rfl (fun h3 => ?_)
  refine z_aload_n (x := a) (pc := 12) dX10_paidBy_12 rfl rfl ?_
  refine z_getI cX10 (pc := 13) dX10_paidBy_13 (j := 19) (by decide) rfl w_1106 (fun t4 => ?_)
  refine z_istore (i := 4) (la' := [some (.ref a), some (.int x1), some (.int x2), some (.int x3), some (.int t4), none]) (pc := 16) dX10_paidBy_16 (by decide) rfl rfl ?_
  refine z_aload_n (x := a) (pc := 18) dX10_paidBy_18 rfl rfl ?_
  refine z_getR cX10 (pc := 19) dX10_paidBy_19 (j := 17) (by decide) rfl w_1104 (fun r5 => ?_)
  refine z_iload (x := t4) (pc := 22) dX10_paidBy_22 rfl ?_
  refine z_iload_n (x := x3) (pc := 24) dX10_paidBy_24 rfl rfl ?_
  refine z_astI (pc := 25) dX10_paidBy_25 (fun h6 => ?_)
  refine z_aload_n (x := a) (pc := 26) dX10_paidBy_26 rfl rfl ?_
  refine z_getR cX10 (pc := 27) dX10_paidBy_27 (j := 18) (by decide) rfl w_1105 (fun r7 => ?_)
  refine z_iload (x := t4) (pc := 30) dX10_paidBy_30 rfl ?_
  refine z_iconst (v := 1) (pc := 32) dX10_paidBy_32 (by decide) ?_
  refine z_astZ (pc := 33) dX10_paidBy_33 (fun h8 => ?_)
  refine z_aload_n (x := a) (pc := 34) dX10_paidBy_34 rfl rfl ?_
  refine z_dup (pc := 35) dX10_paidBy_35 rfl ?_
  refine z_getI cX10 (pc := 36) dX10_paidBy_36 (j := 19) (by decide) rfl w_1106 (fun t9 => ?_)
  refine z_iconst (v := 1) (pc := 39) dX10_paidBy_39 (by decide) ?_
  refine z_iadd (pc := 40) dX10_paidBy_40 ?_
  refine z_putI cX10 (pc := 41) dX10_paidBy_41 (j := 19) (by decide) rfl rfl w_1106 (fun h10 => ?_)
  refine z_aload_n (x := a) (pc := 44) dX10_paidBy_44 rfl rfl ?_
  refine z_getR cX10 (pc := 45) dX10_paidBy_45 (j := 21) (by decide) rfl w_1108 (fun r11 => ?_)
  refine z_bipush (v := 100) (pc := 48) dX10_paidBy_48 (by decide) ?_
  refine z_iload (x := t4) (pc := 50) dX10_paidBy_50 rfl ?_
  refine z_imul (pc := 52) dX10_paidBy_52 ?_
  refine z_aload_n (x := a) (pc := 53) dX10_paidBy_53 rfl rfl ?_
  refine z_cVP (As := []) (rest := [.int ((100 : Int32) * t4), .ref r11]) hG.1 (m_X10_now hG h10 a) (fun _ e => z_gdb e) oX10_now (pc := 54) dX10_paidBy_54 rfl w_1247 rfl rfl rfl (fun t12 => ?_)
  refine z_iadd (pc := 57) dX10_paidBy_57 ?_
  refine z_iload_n (x := x2) (pc := 58) dX10_paidBy_58 rfl rfl ?_
  refine z_astI (pc := 59) dX10_paidBy_59 (fun h13 => ?_)
  refine z_aload_n (x := a) (pc := 60) dX10_paidBy_60 rfl rfl ?_
  refine z_iload (x := t4) (pc := 61) dX10_paidBy_61 rfl ?_
  refine z_iload_n (x := x2) (pc := 63) dX10_paidBy_63 rfl rfl ?_
  refine z_cVV (As := [.int t4, .int x2]) (rest := []) hG.1 (m_X10_pays hG h13 a t4 x2) (fun _ e => z_gdb e) oX10_pays (pc := 64) dX10_paidBy_64 rfl w_1350 rfl rfl rfl (fun h14 => ?_)
  refine z_iconst (v := 0) (pc := 67) dX10_paidBy_67 (by decide) ?_
  refine z_istore (i := 5) (la' := [some (.ref a), some (.int x1), some (.int x2), some (.int x3), some (.int t4), some (.int 0)]) (pc := 68) dX10_paidBy_68 (by decide) rfl rfl ?_
  refine z_weak (la' := [some (.ref a), some (.int x1), none, none, none, some (.int 0)]) (And.intro rfl (And.intro rfl (And.intro rfl trivial))) ?_
  refine z_lp (T := (Int32) ⊕ (Unit)) (s0 := 0) 70 (fun (v15 : Int32) => [some (.ref a), some (.int x1), none, none, none, some (.int v15)]) (fun (v15 : Int32) => h14) (fun t => match t with | (.inl v16) => 93 | (.inr _) => 112) (fun t => match t with | (.inl v16) => [some (.ref a), none, none, none, none, some (.int v16)] | (.inr _) => [none, none, none, none, none, none]) (fun t => match t with | (.inl v16) => h14 | (.inr _) => h14) ?_ ?_
  · rintro (v16 | _)
    · try dsimp only
      refine z_aload_n (x := a) (pc := 93) dX10_paidBy_93 rfl rfl ?_
      refine z_getR cX10 (pc := 94) dX10_paidBy_94 (j := 23) (by decide) rfl w_1110 (fun r21 => ?_)
      refine z_bipush (v := 7) (pc := 97) dX10_paidBy_97 (by decide) ?_
      refine z_iload (x := v16) (pc := 99) dX10_paidBy_99 rfl ?_
      refine z_imul (pc := 101) dX10_paidBy_101 ?_
      refine z_iconst (v := 2) (pc := 102) dX10_paidBy_102 (by decide) ?_
      refine z_iadd (pc := 103) dX10_paidBy_103 ?_
      refine z_aldI (pc := 104) dX10_paidBy_104 (fun t22 => ?_)
      exact z_ireturn (pc := 105) dX10_paidBy_105 rfl rfl rfl
    · try dsimp only
      refine z_iconst (v := 0) (pc := 112) dX10_paidBy_112 (by decide) ?_
      exact z_ireturn (pc := 113) dX10_paidBy_113 rfl rfl rfl
  intro k' hx1 rec17 hrec17
  rintro v15
  unfold f_X10_paidBy_l1
  try dsimp only [lt]
  refine z_iload (x := v15) (pc := 70) dX10_paidBy_70 rfl ?_
  refine z_aload_n (x := a) (pc := 72) dX10_paidBy_72 rfl rfl ?_
  refine z_getI cX10 (pc := 73) dX10_paidBy_73 (j := 24) (by decide) rfl w_1111 (fun t18 => ?_)
  refine z_ic_ge (tgt := 112) (pc := 76) dX10_paidBy_76 (by decide) (fun _ => ?_) (fun _ => ?_)
  · exact z_wk (hx1 (.inr ())) trivial
  refine z_aload_n (x := a) (pc := 79) dX10_paidBy_79 rfl rfl ?_
  refine z_getR cX10 (pc := 80) dX10_paidBy_80 (j := 23) (by decide) rfl w_1110 (fun r19 => ?_)
  refine z_bipush (v := 7) (pc := 83) dX10_paidBy_83 (by decide) ?_
  refine z_iload (x := v15) (pc := 85) dX10_paidBy_85 rfl ?_
  refine z_imul (pc := 87) dX10_paidBy_87 ?_
  refine z_aldI (pc := 88) dX10_paidBy_88 (fun t20 => ?_)
  refine z_iload_n (x := x1) (pc := 89) dX10_paidBy_89 rfl rfl ?_
  refine z_ic_ne (tgt := 106) (pc := 90) dX10_paidBy_90 (by decide) (fun _ => ?_) (fun _ => ?_)
  · refine z_iinc (i := 5) (x := v15) (v := (v15 + 1)) (la' := [some (.ref a), some (.int x1), none, none, none, some (.int (v15 + 1))]) (pc := 106) dX10_paidBy_106 rfl rfl (by decide) rfl rfl ?_
    refine z_goto (tgt := 70) (pc := 109) dX10_paidBy_109 (by decide) ?_
    exact hrec17 (v15 + 1)
  exact z_wk (hx1 (.inl v15)) (And.intro rfl (And.intro rfl trivial))
set_option maxHeartbeats 2000000 in
set_option maxRecDepth 20000 in
theorem m_X10_place {G : Z_G} (hG : z_GG G) (h : Z_H) (a : Nat) (x1 : Int32) (x2 : Int32) (x3 : Int32) : z_Met G iX10_place [.ref a, .int x1, .int x2, .int x3] h ((f_X10_place h a x1 x2 x3).bind some) := by
  refine z_in (la := [some (.ref a), some (.int x1), some (.int x2), some (.int x3), none, none, none, none]) (by decide) rfl rfl rfl ?_
  unfold f_X10_place
  refine z_gg (fun _ => ?_)
  refine z_aload_n (x := a) (pc := 0) dX10_place_0 rfl rfl ?_
  refine z_iconst (v := 0) (pc := 1) dX10_place_1 (by decide) ?_
  refine z_putI cX10 (pc := 2) dX10_place_2 (j := 0) (by decide) rfl rfl w_1087 (fun h1 => ?_)
  refine z_aload_n (x := a) (pc := 5) dX10_place_5 rfl rfl ?_
  refine z_iload_n (x := x1) (pc := 6) dX10_place_6 rfl rfl ?_
  refine z_cVP (As := [.int x1]) (rest := []) hG.1 (m_X10_isSeller hG h1 a x1) (fun _ e => z_gdb e) oX10_isSeller (pc := 7) dX10_place_7 rfl w_1255 rfl rfl rfl (fun t2 => ?_)
  refine z_if_eq (tgt := 24) (pc := 10) dX10_place_10 (by decide) (fun _ => ?_) (fun _ => ?_)
  · refine z_iconst (v := (-1)) (pc := 24) dX10_place_24 (by decide) ?_
    exact z_ireturn (pc := 25) dX10_place_25 rfl rfl rfl
  refine z_iload_n (x := x2) (pc := 13) dX10_place_13 rfl rfl ?_
  refine z_iconst (v := 1) (pc := 14) dX10_place_14 (by decide) ?_
  refine z_sipush (v := 9999) (pc := 15) dX10_place_15 (by decide) ?_
  refine z_cSP (As := [.int x2, .int 1, .int 9999]) (rest := []) hG.1 (m_X10_in hG h1 x2 1 9999) oX10_in (pc := 18) dX10_place_18 rfl w_1179 rfl rfl rfl (fun t3 => ?_)
  refine z_if_ne (tgt := 26) (pc := 21) dX10_place_21 (by decide) (fun _ => ?_) (fun _ => ?_)
  · refine z_iconst (v := (-1)) (pc := 26) dX10_place_26 (by decide) ?_
    refine z_istore (i := 4) (la' := [some (.ref a), some (.int x1), some (.int x2), some (.int x3), some (.int (-1)), none, none, none]) (pc := 27) dX10_place_27 (by decide) rfl rfl ?_
    refine z_iconst (v := (-1)) (pc := 29) dX10_place_29 (by decide) ?_
    refine z_istore (i := 5) (la' := [some (.ref a), some (.int x1), some (.int x2), some (.int x3), some (.int (-1)), some (.int (-1)), none, none]) (pc := 30) dX10_place_30 (by decide) rfl rfl ?_
    refine z_iconst (v := 0) (pc := 32) dX10_place_32 (by decide) ?_
    refine z_istore (i := 6) (la' := [some (.ref a), some (.int x1), some (.int x2), some (.int x3), some (.int (-1)), some (.int (-1)), some (.int 0), none]) (pc := 33) dX10_place_33 (by decide) rfl rfl ?_
    refine z_lp (T := Int32 × Int32 × Z_H) (s0 := ((-1), (-1), 0, h1)) 35 (fun ((v4, v5, v6, h7) : Int32 × Int32 × Int32 × Z_H) => [some (.ref a), some (.int x1), some (.int x2), some (.int x3), some (.int v4), some (.int v5), some (.int v6), none]) (fun ((v4, v5, v6, h7) : Int32 × Int32 × Int32 × Z_H) => h7) (fun _ => 102) (fun ((v8, v9, h10) : Int32 × Int32 × Z_H) => [none, none, none, some (.int x3), some (.int v8), some (.int v9), none, none]) (fun ((v8, v9, h10) : Int32 × Int32 × Z_H) => h10) ?_ ?_
    · rintro ⟨v8, v9, h10⟩
      try dsimp only
      refine z_iload_n (x := x3) (pc := 102) dX10_place_102 rfl rfl ?_
      refine z_if_eq (tgt := 111) (pc := 103) dX10_place_103 (by decide) (fun _ => ?_) (fun _ => ?_)
      · refine z_iload (x := v8) (pc := 111) dX10_place_111 rfl ?_
        exact z_ireturn (pc := 113) dX10_place_113 rfl rfl rfl
      refine z_iload (x := v9) (pc := 106) dX10_place_106 rfl ?_
      refine z_goto (tgt := 113) (pc := 108) dX10_place_108 (by decide) ?_
      exact z_ireturn (pc := 113) dX10_place_113 rfl rfl rfl
    intro k' hx1 rec11 hrec11
    rintro ⟨v4, v5, v6, h7⟩
    unfold f_X10_place_l1
    try dsimp only
    refine z_iload (x := v6) (pc := 35) dX10_place_35 rfl ?_
    refine z_aload_n (x := a) (pc := 37) dX10_place_37 rfl rfl ?_
    refine z_getR cX10 (pc := 38) dX10_place_38 (j := 1) (by decide) rfl w_1088 (fun r12 => ?_)
    refine z_sipush (v := 145) (pc := 41) dX10_place_41 (by decide) ?_
    refine z_aldI (pc := 44) dX10_place_44 (fun t13 => ?_)
    refine z_ic_ge (tgt := 102) (pc := 45) dX10_place_45 (by decide) (fun _ => ?_) (fun _ => ?_)
    · exact z_wk (hx1 (v4, v5, h7)) (And.intro rfl (And.intro rfl (And.intro rfl trivial)))
    refine z_aload_n (x := a) (pc := 48) dX10_place_48 rfl rfl ?_
    refine z_iload (x := v6) (pc := 49) dX10_place_49 rfl ?_
    refine z_cVP (As := [.int v6]) (rest := []) hG.1 (m_X10_hasQuit hG h7 a v6) (fun _ e => z_gdb e) oX10_hasQuit (pc := 51) dX10_place_51 rfl w_1259 rfl rfl rfl (fun t14 => ?_)
    refine z_jn 69 (fun ((y15, h16) : Int32 × Z_H) => [some (.ref a), some (.int x1), some (.int x2), some (.int x3), some (.int v4), some (.int v5), some (.int v6), none]) (fun ((y15, h16) : Int32 × Z_H) => [.int y15]) (fun ((y15, h16) : Int32 × Z_H) => h16) ?_ ?_
    · rintro ⟨y15, h16⟩
      try dsimp only
      refine z_istore (i := 7) (la' := [some (.ref a), some (.int x1), some (.int x2), some (.int x3), some (.int v4), some (.int v5), some (.int v6), some (.int y15)]) (pc := 69) dX10_place_69 (by decide) rfl rfl ?_
      refine z_iload (x := y15) (pc := 71) dX10_place_71 rfl ?_
      refine z_iload (x := v5) (pc := 73) dX10_place_73 rfl ?_
      refine z_jn 85 (fun (y18 : Int32) => [some (.ref a), some (.int x1), some (.int x2), some (.int x3), none, some (.int v5), some (.int v6), some (.int y15)]) (fun (y18 : Int32) => [.int y18]) (fun (y18 : Int32) => h16) ?_ ?_
      · rintro y18
        try dsimp only
        refine z_istore (i := 4) (la' := [some (.ref a), some (.int x1), some (.int x2), some (.int x3), some (.int y18), some (.int v5), some (.int v6), some (.int y15)]) (pc := 85) dX10_place_85 (by decide) rfl rfl ?_
        refine z_iload (x := v5) (pc := 87) dX10_place_87 rfl ?_
        refine z_iload (x := y15) (pc := 89) dX10_place_89 rfl ?_
        refine z_cSP (As := [.int v5, .int y15]) (rest := []) hG.1 (m_X10_greater hG h16 v5 y15) oX10_greater (pc := 91) dX10_place_91 rfl w_1331 rfl rfl rfl (fun t20 => ?_)
        refine z_istore (i := 5) (la' := [some (.ref a), some (.int x1), some (.int x2), some (.int x3), some (.int y18), some (.int t20), some (.int v6), some (.int y15)]) (pc := 94) dX10_place_94 (by decide) rfl rfl ?_
        refine z_iinc (i := 6) (x := v6) (v := (v6 + 1)) (la' := [some (.ref a), some (.int x1), some (.int x2), some (.int x3), some (.int y18), some (.int t20), some (.int (v6 + 1)), some (.int y15)]) (pc := 96) dX10_place_96 rfl rfl (by decide) rfl rfl ?_
        refine z_goto (tgt := 35) (pc := 99) dX10_place_99 (by decide) ?_
        exact z_wk (hrec11 (y18, t20, (v6 + 1), h16)) (And.intro rfl (And.intro rfl (And.intro rfl (And.intro rfl (And.intro rfl (And.intro rfl (And.intro rfl trivial)))))))
      intro j19 hj19
      refine z_ic_le (tgt := 83) (pc := 75) dX10_place_75 (by decide) (fun _ => ?_) (fun _ => ?_)
      · refine z_iload (x := v4) (pc := 83) dX10_place_83 rfl ?_
        exact z_wk (hj19 v4) (And.intro rfl (And.intro rfl (And.intro rfl (And.intro rfl (And.intro rfl (And.intro rfl (And.intro rfl trivial)))))))
      refine z_iload (x := v6) (pc := 78) dX10_place_78 rfl ?_
      refine z_goto (tgt := 85) (pc := 80) dX10_place_80 (by decide) ?_
      exact z_wk (hj19 v6) (And.intro rfl (And.intro rfl (And.intro rfl (And.intro rfl (And.intro rfl (And.intro rfl (And.intro rfl trivial)))))))
    intro j17 hj17
    refine z_if_eq (tgt := 61) (pc := 54) dX10_place_54 (by decide) (fun _ => ?_) (fun _ => ?_)
    · refine z_aload_n (x := a) (pc := 61) dX10_place_61 rfl rfl ?_
      refine z_iload_n (x := x1) (pc := 62) dX10_place_62 rfl rfl ?_
      refine z_iload_n (x := x2) (pc := 63) dX10_place_63 rfl rfl ?_
      refine z_iload (x := v6) (pc := 64) dX10_place_64 rfl ?_
      refine z_dVI (As := [.int x1, .int x2, .int v6]) (rest := []) hG.1 (m_X10_paidBy hG h7 a x1 x2 v6) (fun _ e => z_gdb e) oX10_paidBy (pc := 66) dX10_place_66 rfl w_1537 rfl rfl rfl (fun t21 h22 => ?_)
      exact hj17 (t21, h22)
    refine z_iconst (v := (-1)) (pc := 57) dX10_place_57 (by decide) ?_
    refine z_goto (tgt := 69) (pc := 58) dX10_place_58 (by decide) ?_
    exact hj17 ((-1), h7)
  refine z_iconst (v := (-1)) (pc := 24) dX10_place_24 (by decide) ?_
  exact z_ireturn (pc := 25) dX10_place_25 rfl rfl rfl
set_option maxHeartbeats 2000000 in
set_option maxRecDepth 20000 in
theorem m_X9_due {G : Z_G} (hG : z_GG G) (h : Z_H) (a : Nat) (x1 : Int32) (x2 : Int32) : z_Met G iX9_due [.ref a, .int x1, .int x2] h ((f_X9_due h a x1 x2).bind fun r => some (r, h)) := by
  refine z_in (la := [some (.ref a), some (.int x1), some (.int x2)]) (by decide) rfl rfl rfl ?_
  unfold f_X9_due
  refine z_gg (fun _ => ?_)
  refine z_aload_n (x := a) (pc := 0) dX9_due_0 rfl rfl ?_
  refine z_getR cX9 (pc := 1) dX9_due_1 (j := 0) (by decide) rfl w_403 (fun r1 => ?_)
  refine z_getR cX7 (pc := 4) dX9_due_4 (j := 2) (by decide) rfl w_247 (fun r2 => ?_)
  refine z_iload_n (x := x1) (pc := 7) dX9_due_7 rfl rfl ?_
  refine z_cVP (As := [.int x1]) (rest := []) hG.1 (m_X0_has hG h r2 x1) (fun _ e => z_gdb e) oX0_has (pc := 8) dX9_due_8 rfl w_643 rfl rfl rfl (fun t3 => ?_)
  refine z_if_eq (tgt := 39) (pc := 11) dX9_due_11 (by decide) (fun _ => ?_) (fun _ => ?_)
  · refine z_iconst (v := (-1)) (pc := 39) dX9_due_39 (by decide) ?_
    exact z_ireturn (pc := 40) dX9_due_40 rfl rfl rfl
  refine z_iload_n (x := x2) (pc := 14) dX9_due_14 rfl rfl ?_
  refine z_aload_n (x := a) (pc := 15) dX9_due_15 rfl rfl ?_
  refine z_getR cX9 (pc := 16) dX9_due_16 (j := 0) (by decide) rfl w_403 (fun r4 => ?_)
  refine z_getI cX7 (pc := 19) dX9_due_19 (j := 8) (by decide) rfl w_261 (fun t5 => ?_)
  refine z_ic_lt (tgt := 39) (pc := 22) dX9_due_22 (by decide) (fun _ => ?_) (fun _ => ?_)
  · refine z_iconst (v := (-1)) (pc := 39) dX9_due_39 (by decide) ?_
    exact z_ireturn (pc := 40) dX9_due_40 rfl rfl rfl
  refine z_iload_n (x := x2) (pc := 25) dX9_due_25 rfl rfl ?_
  refine z_aload_n (x := a) (pc := 26) dX9_due_26 rfl rfl ?_
  refine z_getR cX9 (pc := 27) dX9_due_27 (j := 0) (by decide) rfl w_403 (fun r6 => ?_)
  refine z_getI cX7 (pc := 30) dX9_due_30 (j := 8) (by decide) rfl w_261 (fun t7 => ?_)
  refine z_bipush (v := 12) (pc := 33) dX9_due_33 (by decide) ?_
  refine z_iadd (pc := 35) dX9_due_35 ?_
  refine z_ic_le (tgt := 41) (pc := 36) dX9_due_36 (by decide) (fun _ => ?_) (fun _ => ?_)
  · refine z_aload_n (x := a) (pc := 41) dX9_due_41 rfl rfl ?_
    refine z_getR cX9 (pc := 42) dX9_due_42 (j := 0) (by decide) rfl w_403 (fun r8 => ?_)
    refine z_iload_n (x := x1) (pc := 45) dX9_due_45 rfl rfl ?_
    refine z_iload_n (x := x2) (pc := 46) dX9_due_46 rfl rfl ?_
    refine z_cVP (As := [.int x1, .int x2]) (rest := []) hG.1 (m_X7_earned hG h r8 x1 x2) (fun _ e => z_gdb e) oX7_earned (pc := 47) dX9_due_47 rfl w_839 rfl rfl rfl (fun t9 => ?_)
    exact z_ireturn (pc := 50) dX9_due_50 rfl rfl rfl
  refine z_iconst (v := (-1)) (pc := 39) dX9_due_39 (by decide) ?_
  exact z_ireturn (pc := 40) dX9_due_40 rfl rfl rfl
set_option maxHeartbeats 2000000 in
set_option maxRecDepth 20000 in
theorem m_X10_due {G : Z_G} (hG : z_GG G) (h : Z_H) (a : Nat) (x1 : Int32) (x2 : Int32) : z_Met G iX10_due [.ref a, .int x1, .int x2] h ((f_X10_due h a x1 x2).bind some) := by
  refine z_in (la := [some (.ref a), some (.int x1), some (.int x2)]) (by decide) rfl rfl rfl ?_
  unfold f_X10_due
  refine z_gg (fun _ => ?_)
  refine z_aload_n (x := a) (pc := 0) dX10_due_0 rfl rfl ?_
  refine z_iconst (v := 0) (pc := 1) dX10_due_1 (by decide) ?_
  refine z_putI cX10 (pc := 2) dX10_due_2 (j := 0) (by decide) rfl rfl w_1087 (fun h1 => ?_)
  refine z_aload_n (x := a) (pc := 5) dX10_due_5 rfl rfl ?_
  refine z_iload_n (x := x1) (pc := 6) dX10_due_6 rfl rfl ?_
  refine z_cVP (As := [.int x1]) (rest := []) hG.1 (m_X10_isSeller hG h1 a x1) (fun _ e => z_gdb e) oX10_isSeller (pc := 7) dX10_due_7 rfl w_1255 rfl rfl rfl (fun t2 => ?_)
  refine z_if_eq (tgt := 41) (pc := 10) dX10_due_10 (by decide) (fun _ => ?_) (fun _ => ?_)
  · refine z_iconst (v := (-1)) (pc := 41) dX10_due_41 (by decide) ?_
    exact z_ireturn (pc := 42) dX10_due_42 rfl rfl rfl
  refine z_iload_n (x := x2) (pc := 13) dX10_due_13 rfl rfl ?_
  refine z_aload_n (x := a) (pc := 14) dX10_due_14 rfl rfl ?_
  refine z_cVP (As := []) (rest := [.int x2]) hG.1 (m_X10_now hG h1 a) (fun _ e => z_gdb e) oX10_now (pc := 15) dX10_due_15 rfl w_1247 rfl rfl rfl (fun t3 => ?_)
  refine z_aload_n (x := a) (pc := 18) dX10_due_18 rfl rfl ?_
  refine z_cVP (As := []) (rest := [.int t3, .int x2]) hG.1 (m_X10_now hG h1 a) (fun _ e => z_gdb e) oX10_now (pc := 19) dX10_due_19 rfl w_1247 rfl rfl rfl (fun t4 => ?_)
  refine z_bipush (v := 12) (pc := 22) dX10_due_22 (by decide) ?_
  refine z_iadd (pc := 24) dX10_due_24 ?_
  refine z_cSP (As := [.int x2, .int t3, .int (t4 + 12)]) (rest := []) hG.1 (m_X10_in hG h1 x2 t3 (t4 + 12)) oX10_in (pc := 25) dX10_due_25 rfl w_1179 rfl rfl rfl (fun t5 => ?_)
  refine z_if_eq (tgt := 41) (pc := 28) dX10_due_28 (by decide) (fun _ => ?_) (fun _ => ?_)
  · refine z_iconst (v := (-1)) (pc := 41) dX10_due_41 (by decide) ?_
    exact z_ireturn (pc := 42) dX10_due_42 rfl rfl rfl
  refine z_aload_n (x := a) (pc := 31) dX10_due_31 rfl rfl ?_
  refine z_iload_n (x := x1) (pc := 32) dX10_due_32 rfl rfl ?_
  refine z_iload_n (x := x2) (pc := 33) dX10_due_33 rfl rfl ?_
  refine z_iconst (v := (-1)) (pc := 34) dX10_due_34 (by decide) ?_
  refine z_cVP (As := [.int x1, .int x2, .int (-1)]) (rest := []) hG.1 (m_X10_earnedAt hG h1 a x1 x2 (-1)) (fun _ e => z_gdb e) oX10_earnedAt (pc := 35) dX10_due_35 rfl w_1420 rfl rfl rfl (fun t6 => ?_)
  refine z_goto (tgt := 42) (pc := 38) dX10_due_38 (by decide) ?_
  exact z_ireturn (pc := 42) dX10_due_42 rfl rfl rfl
set_option maxHeartbeats 2000000 in
set_option maxRecDepth 20000 in
theorem m_X9_ready {G : Z_G} (hG : z_GG G) (h : Z_H) (a : Nat) (x1 : Int32) (x2 : Int32) : z_Met G iX9_ready [.ref a, .int x1, .int x2] h ((f_X9_ready h a x1 x2).bind fun r => some (r, h)) := by
  refine z_in (la := [some (.ref a), some (.int x1), some (.int x2), none]) (by decide) rfl rfl rfl ?_
  unfold f_X9_ready
  refine z_gg (fun _ => ?_)
  refine z_aload_n (x := a) (pc := 0) dX9_ready_0 rfl rfl ?_
  refine z_getR cX9 (pc := 1) dX9_ready_1 (j := 0) (by decide) rfl w_403 (fun r1 => ?_)
  refine z_getR cX7 (pc := 4) dX9_ready_4 (j := 2) (by decide) rfl w_247 (fun r2 => ?_)
  refine z_iload_n (x := x1) (pc := 7) dX9_ready_7 rfl rfl ?_
  refine z_cVP (As := [.int x1]) (rest := []) hG.1 (m_X0_has hG h r2 x1) (fun _ e => z_gdb e) oX0_has (pc := 8) dX9_ready_8 rfl w_643 rfl rfl rfl (fun t3 => ?_)
  refine z_if_ne (tgt := 16) (pc := 11) dX9_ready_11 (by decide) (fun _ => ?_) (fun _ => ?_)
  · refine z_aload_n (x := a) (pc := 16) dX9_ready_16 rfl rfl ?_
    refine z_getR cX9 (pc := 17) dX9_ready_17 (j := 0) (by decide) rfl w_403 (fun r4 => ?_)
    refine z_getI cX7 (pc := 20) dX9_ready_20 (j := 8) (by decide) rfl w_261 (fun t5 => ?_)
    refine z_istore_n (i := 3) (la' := [some (.ref a), some (.int x1), some (.int x2), some (.int t5)]) (pc := 23) dX9_ready_23 rfl (by decide) rfl rfl ?_
    refine z_lp (T := (Int32) ⊕ (Unit)) (s0 := t5) 24 (fun (v6 : Int32) => [some (.ref a), some (.int x1), some (.int x2), some (.int v6)]) (fun (v6 : Int32) => h) (fun t => match t with | (.inl v7) => 64 | (.inr _) => 72) (fun t => match t with | (.inl v7) => [none, none, none, some (.int v7)] | (.inr _) => [none, none, none, none]) (fun t => match t with | (.inl v7) => h | (.inr _) => h) ?_ ?_
    · rintro (v7 | _)
      · try dsimp only
        refine z_iload_n (x := v7) (pc := 64) dX9_ready_64 rfl rfl ?_
        exact z_ireturn (pc := 65) dX9_ready_65 rfl rfl rfl
      · try dsimp only
        refine z_iconst (v := (-1)) (pc := 72) dX9_ready_72 (by decide) ?_
        exact z_ireturn (pc := 73) dX9_ready_73 rfl rfl rfl
    intro k' hx1 rec8 hrec8
    rintro v6
    unfold f_X9_ready_l1
    try dsimp only [lt]
    refine z_iload_n (x := v6) (pc := 24) dX9_ready_24 rfl rfl ?_
    refine z_aload_n (x := a) (pc := 25) dX9_ready_25 rfl rfl ?_
    refine z_getR cX9 (pc := 26) dX9_ready_26 (j := 0) (by decide) rfl w_403 (fun r9 => ?_)
    refine z_getI cX7 (pc := 29) dX9_ready_29 (j := 8) (by decide) rfl w_261 (fun t10 => ?_)
    refine z_bipush (v := 12) (pc := 32) dX9_ready_32 (by decide) ?_
    refine z_iadd (pc := 34) dX9_ready_34 ?_
    refine z_ic_gt (tgt := 72) (pc := 35) dX9_ready_35 (by decide) (fun _ => ?_) (fun _ => ?_)
    · exact z_wk (hx1 (.inr ())) trivial
    refine z_aload_n (x := a) (pc := 38) dX9_ready_38 rfl rfl ?_
    refine z_getR cX9 (pc := 39) dX9_ready_39 (j := 0) (by decide) rfl w_403 (fun r11 => ?_)
    refine z_iload_n (x := x1) (pc := 42) dX9_ready_42 rfl rfl ?_
    refine z_iload_n (x := v6) (pc := 43) dX9_ready_43 rfl rfl ?_
    refine z_cVP (As := [.int x1, .int v6]) (rest := []) hG.1 (m_X7_earned hG h r11 x1 v6) (fun _ e => z_gdb e) oX7_earned (pc := 44) dX9_ready_44 rfl w_839 rfl rfl rfl (fun t12 => ?_)
    refine z_aload_n (x := a) (pc := 47) dX9_ready_47 rfl rfl ?_
    refine z_getR cX9 (pc := 48) dX9_ready_48 (j := 0) (by decide) rfl w_403 (fun r13 => ?_)
    refine z_getR cX7 (pc := 51) dX9_ready_51 (j := 2) (by decide) rfl w_247 (fun r14 => ?_)
    refine z_getR cX0 (pc := 54) dX9_ready_54 (j := 3) (by decide) rfl w_152 (fun r15 => ?_)
    refine z_iload_n (x := x1) (pc := 57) dX9_ready_57 rfl rfl ?_
    refine z_aldI (pc := 58) dX9_ready_58 (fun t16 => ?_)
    refine z_isub (pc := 59) dX9_ready_59 ?_
    refine z_iload_n (x := x2) (pc := 60) dX9_ready_60 rfl rfl ?_
    refine z_ic_lt (tgt := 66) (pc := 61) dX9_ready_61 (by decide) (fun _ => ?_) (fun _ => ?_)
    · refine z_iinc (i := 3) (x := v6) (v := (v6 + 1)) (la' := [some (.ref a), some (.int x1), some (.int x2), some (.int (v6 + 1))]) (pc := 66) dX9_ready_66 rfl rfl (by decide) rfl rfl ?_
      refine z_goto (tgt := 24) (pc := 69) dX9_ready_69 (by decide) ?_
      exact hrec8 (v6 + 1)
    exact z_wk (hx1 (.inl v6)) (And.intro rfl trivial)
  refine z_iconst (v := (-1)) (pc := 14) dX9_ready_14 (by decide) ?_
  exact z_ireturn (pc := 15) dX9_ready_15 rfl rfl rfl
set_option maxHeartbeats 2000000 in
set_option maxRecDepth 20000 in
theorem m_X10_ready {G : Z_G} (hG : z_GG G) (h : Z_H) (a : Nat) (x1 : Int32) (x2 : Int32) : z_Met G iX10_ready [.ref a, .int x1, .int x2] h ((f_X10_ready h a x1 x2).bind some) := by
  refine z_in (la := [some (.ref a), some (.int x1), some (.int x2), none]) (by decide) rfl rfl rfl ?_
  unfold f_X10_ready
  refine z_gg (fun _ => ?_)
  refine z_aload_n (x := a) (pc := 0) dX10_ready_0 rfl rfl ?_
  refine z_iconst (v := 0) (pc := 1) dX10_ready_1 (by decide) ?_
  refine z_putI cX10 (pc := 2) dX10_ready_2 (j := 0) (by decide) rfl rfl w_1087 (fun h1 => ?_)
  refine z_aload_n (x := a) (pc := 5) dX10_ready_5 rfl rfl ?_
  refine z_iload_n (x := x1) (pc := 6) dX10_ready_6 rfl rfl ?_
  refine z_cVP (As := [.int x1]) (rest := []) hG.1 (m_X10_isSeller hG h1 a x1) (fun _ e => z_gdb e) oX10_isSeller (pc := 7) dX10_ready_7 rfl w_1255 rfl rfl rfl (fun t2 => ?_)
  refine z_if_ne (tgt := 15) (pc := 10) dX10_ready_10 (by decide) (fun _ => ?_) (fun _ => ?_)
  · refine z_aload_n (x := a) (pc := 15) dX10_ready_15 rfl rfl ?_
    refine z_cVP (As := []) (rest := []) hG.1 (m_X10_now hG h1 a) (fun _ e => z_gdb e) oX10_now (pc := 16) dX10_ready_16 rfl w_1247 rfl rfl rfl (fun t3 => ?_)
    refine z_istore_n (i := 3) (la' := [some (.ref a), some (.int x1), some (.int x2), some (.int t3)]) (pc := 19) dX10_ready_19 rfl (by decide) rfl rfl ?_
    refine z_lp (T := (Int32) ⊕ (Unit)) (s0 := t3) 20 (fun (v4 : Int32) => [some (.ref a), some (.int x1), some (.int x2), some (.int v4)]) (fun (v4 : Int32) => h1) (fun t => match t with | (.inl v5) => 49 | (.inr _) => 57) (fun t => match t with | (.inl v5) => [none, none, none, some (.int v5)] | (.inr _) => [none, none, none, none]) (fun t => match t with | (.inl v5) => h1 | (.inr _) => h1) ?_ ?_
    · rintro (v5 | _)
      · try dsimp only
        refine z_iload_n (x := v5) (pc := 49) dX10_ready_49 rfl rfl ?_
        exact z_ireturn (pc := 50) dX10_ready_50 rfl rfl rfl
      · try dsimp only
        refine z_iconst (v := (-1)) (pc := 57) dX10_ready_57 (by decide) ?_
        exact z_ireturn (pc := 58) dX10_ready_58 rfl rfl rfl
    intro k' hx1 rec6 hrec6
    rintro v4
    unfold f_X10_ready_l1
    try dsimp only [lt]
    refine z_iload_n (x := v4) (pc := 20) dX10_ready_20 rfl rfl ?_
    refine z_aload_n (x := a) (pc := 21) dX10_ready_21 rfl rfl ?_
    refine z_cVP (As := []) (rest := [.int v4]) hG.1 (m_X10_now hG h1 a) (fun _ e => z_gdb e) oX10_now (pc := 22) dX10_ready_22 rfl w_1247 rfl rfl rfl (fun t7 => ?_)
    refine z_bipush (v := 12) (pc := 25) dX10_ready_25 (by decide) ?_
    refine z_iadd (pc := 27) dX10_ready_27 ?_
    refine z_ic_gt (tgt := 57) (pc := 28) dX10_ready_28 (by decide) (fun _ => ?_) (fun _ => ?_)
    · exact z_wk (hx1 (.inr ())) trivial
    refine z_aload_n (x := a) (pc := 31) dX10_ready_31 rfl rfl ?_
    refine z_iload_n (x := x1) (pc := 32) dX10_ready_32 rfl rfl ?_
    refine z_iload_n (x := v4) (pc := 33) dX10_ready_33 rfl rfl ?_
    refine z_iconst (v := (-1)) (pc := 34) dX10_ready_34 (by decide) ?_
    refine z_cVP (As := [.int x1, .int v4, .int (-1)]) (rest := []) hG.1 (m_X10_earnedAt hG h1 a x1 v4 (-1)) (fun _ e => z_gdb e) oX10_earnedAt (pc := 35) dX10_ready_35 rfl w_1420 rfl rfl rfl (fun t8 => ?_)
    refine z_aload_n (x := a) (pc := 38) dX10_ready_38 rfl rfl ?_
    refine z_iload_n (x := x1) (pc := 39) dX10_ready_39 rfl rfl ?_
    refine z_iconst (v := 3) (pc := 40) dX10_ready_40 (by decide) ?_
    refine z_cVP (As := [.int x1, .int 3]) (rest := [.int t8]) hG.1 (m_X10_ofSeller hG h1 a x1 3) (fun _ e => z_gdb e) oX10_ofSeller (pc := 41) dX10_ready_41 rfl w_1263 rfl rfl rfl (fun t9 => ?_)
    refine z_isub (pc := 44) dX10_ready_44 ?_
    refine z_iload_n (x := x2) (pc := 45) dX10_ready_45 rfl rfl ?_
    refine z_ic_lt (tgt := 51) (pc := 46) dX10_ready_46 (by decide) (fun _ => ?_) (fun _ => ?_)
    · refine z_iinc (i := 3) (x := v4) (v := (v4 + 1)) (la' := [some (.ref a), some (.int x1), some (.int x2), some (.int (v4 + 1))]) (pc := 51) dX10_ready_51 rfl rfl (by decide) rfl rfl ?_
      refine z_goto (tgt := 20) (pc := 54) dX10_ready_54 (by decide) ?_
      exact hrec6 (v4 + 1)
    exact z_wk (hx1 (.inl v4)) (And.intro rfl trivial)
  refine z_iconst (v := (-1)) (pc := 13) dX10_ready_13 (by decide) ?_
  exact z_ireturn (pc := 14) dX10_ready_14 rfl rfl rfl
set_option maxHeartbeats 2000000 in
set_option maxRecDepth 20000 in
theorem m_X1_fact {G : Z_G} (hG : z_GG G) (h : Z_H) (a : Nat) (x1 : Int32) (x2 : Int32) (x3 : Int32) : z_Met G iX1_fact [.ref a, .int x1, .int x2, .int x3] h ((f_X1_fact h a x1 x2 x3).bind fun r => some (r, h)) := by
  refine z_in (la := [some (.ref a), some (.int x1), some (.int x2), some (.int x3), none]) (by decide) rfl rfl rfl ?_
  unfold f_X1_fact
  refine z_gg (fun _ => ?_)
  refine z_aload_n (x := a) (pc := 0) dX1_fact_0 rfl rfl ?_
  refine z_getR cX1 (pc := 1) dX1_fact_1 (j := 1) (by decide) rfl w_230 (fun r1 => ?_)
  refine z_iload_n (x := x1) (pc := 4) dX1_fact_4 rfl rfl ?_
  refine z_aldI (pc := 5) dX1_fact_5 (fun t2 => ?_)
  refine z_bipush (v := 16) (pc := 6) dX1_fact_6 (by decide) ?_
  refine z_iadd (pc := 8) dX1_fact_8 ?_
  refine z_iconst (v := 1) (pc := 9) dX1_fact_9 (by decide) ?_
  refine z_isub (pc := 10) dX1_fact_10 ?_
  refine z_iload_n (x := x2) (pc := 11) dX1_fact_11 rfl rfl ?_
  refine z_isub (pc := 12) dX1_fact_12 ?_
  refine z_bipush (v := 16) (pc := 13) dX1_fact_13 (by decide) ?_
  refine z_irem (pc := 15) (by decide) dX1_fact_15 ?_
  refine z_nm (fun v3 => ?_)
  refine z_istore (i := 4) (la' := [some (.ref a), some (.int x1), some (.int x2), some (.int x3), some (.int v3)]) (pc := 16) dX1_fact_16 (by decide) rfl rfl ?_
  refine z_aload_n (x := a) (pc := 18) dX1_fact_18 rfl rfl ?_
  refine z_getR cX1 (pc := 19) dX1_fact_19 (j := 2) (by decide) rfl w_231 (fun r4 => ?_)
  refine z_iload_n (x := x1) (pc := 22) dX1_fact_22 rfl rfl ?_
  refine z_bipush (v := 16) (pc := 23) dX1_fact_23 (by decide) ?_
  refine z_imul (pc := 25) dX1_fact_25 ?_
  refine z_iload (x := v3) (pc := 26) dX1_fact_26 rfl ?_
  refine z_iadd (pc := 28) dX1_fact_28 ?_
  refine z_iconst (v := 4) (pc := 29) dX1_fact_29 (by decide) ?_
  refine z_imul (pc := 30) dX1_fact_30 ?_
  refine z_iload_n (x := x3) (pc := 31) dX1_fact_31 rfl rfl ?_
  refine z_iadd (pc := 32) dX1_fact_32 ?_
  refine z_aldI (pc := 33) dX1_fact_33 (fun t5 => ?_)
  exact z_ireturn (pc := 34) dX1_fact_34 rfl rfl rfl
set_option maxHeartbeats 2000000 in
set_option maxRecDepth 20000 in
theorem m_X9_journal {G : Z_G} (hG : z_GG G) (h : Z_H) (a : Nat) (x1 : Int32) (x2 : Int32) (x3 : Int32) : z_Met G iX9_journal [.ref a, .int x1, .int x2, .int x3] h ((f_X9_journal h a x1 x2 x3).bind fun r => some (r, h)) := by
  refine z_in (la := [some (.ref a), some (.int x1), some (.int x2), some (.int x3)]) (by decide) rfl rfl rfl ?_
  unfold f_X9_journal
  refine z_gg (fun _ => ?_)
  refine z_aload_n (x := a) (pc := 0) dX9_journal_0 rfl rfl ?_
  refine z_getR cX9 (pc := 1) dX9_journal_1 (j := 0) (by decide) rfl w_403 (fun r1 => ?_)
  refine z_getR cX7 (pc := 4) dX9_journal_4 (j := 2) (by decide) rfl w_247 (fun r2 => ?_)
  refine z_iload_n (x := x1) (pc := 7) dX9_journal_7 rfl rfl ?_
  refine z_cVP (As := [.int x1]) (rest := []) hG.1 (m_X0_has hG h r2 x1) (fun _ e => z_gdb e) oX0_has (pc := 8) dX9_journal_8 rfl w_643 rfl rfl rfl (fun t3 => ?_)
  refine z_if_ne (tgt := 17) (pc := 11) dX9_journal_11 (by decide) (fun _ => ?_) (fun _ => ?_)
  · refine z_iload_n (x := x2) (pc := 17) dX9_journal_17 rfl rfl ?_
    refine z_iconst (v := (-1)) (pc := 18) dX9_journal_18 (by decide) ?_
    refine z_ic_ne (tgt := 44) (pc := 19) dX9_journal_19 (by decide) (fun _ => ?_) (fun _ => ?_)
    · refine z_iload_n (x := x2) (pc := 44) dX9_journal_44 rfl rfl ?_
      refine z_if_lt (tgt := 73) (pc := 45) dX9_journal_45 (by decide) (fun _ => ?_) (fun _ => ?_)
      · refine z_bipush (v := (-2)) (pc := 73) dX9_journal_73 (by decide) ?_
        exact z_ireturn (pc := 75) dX9_journal_75 rfl rfl rfl
      refine z_iload_n (x := x2) (pc := 48) dX9_journal_48 rfl rfl ?_
      refine z_aload_n (x := a) (pc := 49) dX9_journal_49 rfl rfl ?_
      refine z_getR cX9 (pc := 50) dX9_journal_50 (j := 0) (by decide) rfl w_403 (fun r4 => ?_)
      refine z_getR cX7 (pc := 53) dX9_journal_53 (j := 4) (by decide) rfl w_253 (fun r5 => ?_)
      refine z_getR cX1 (pc := 56) dX9_journal_56 (j := 0) (by decide) rfl w_229 (fun r6 => ?_)
      refine z_iload_n (x := x1) (pc := 59) dX9_journal_59 rfl rfl ?_
      refine z_aldI (pc := 60) dX9_journal_60 (fun t7 => ?_)
      refine z_ic_ge (tgt := 73) (pc := 61) dX9_journal_61 (by decide) (fun _ => ?_) (fun _ => ?_)
      · refine z_bipush (v := (-2)) (pc := 73) dX9_journal_73 (by decide) ?_
        exact z_ireturn (pc := 75) dX9_journal_75 rfl rfl rfl
      refine z_iload_n (x := x3) (pc := 64) dX9_journal_64 rfl rfl ?_
      refine z_if_lt (tgt := 73) (pc := 65) dX9_journal_65 (by decide) (fun _ => ?_) (fun _ => ?_)
      · refine z_bipush (v := (-2)) (pc := 73) dX9_journal_73 (by decide) ?_
        exact z_ireturn (pc := 75) dX9_journal_75 rfl rfl rfl
      refine z_iload_n (x := x3) (pc := 68) dX9_journal_68 rfl rfl ?_
      refine z_iconst (v := 4) (pc := 69) dX9_journal_69 (by decide) ?_
      refine z_ic_lt (tgt := 76) (pc := 70) dX9_journal_70 (by decide) (fun _ => ?_) (fun _ => ?_)
      · refine z_aload_n (x := a) (pc := 76) dX9_journal_76 rfl rfl ?_
        refine z_getR cX9 (pc := 77) dX9_journal_77 (j := 0) (by decide) rfl w_403 (fun r8 => ?_)
        refine z_getR cX7 (pc := 80) dX9_journal_80 (j := 4) (by decide) rfl w_253 (fun r9 => ?_)
        refine z_iload_n (x := x1) (pc := 83) dX9_journal_83 rfl rfl ?_
        refine z_iload_n (x := x2) (pc := 84) dX9_journal_84 rfl rfl ?_
        refine z_iload_n (x := x3) (pc := 85) dX9_journal_85 rfl rfl ?_
        refine z_cVP (As := [.int x1, .int x2, .int x3]) (rest := []) hG.1 (m_X1_fact hG h r9 x1 x2 x3) (fun _ e => z_gdb e) oX1_fact (pc := 86) dX9_journal_86 rfl w_981 rfl rfl rfl (fun t10 => ?_)
        exact z_ireturn (pc := 89) dX9_journal_89 rfl rfl rfl
      refine z_bipush (v := (-2)) (pc := 73) dX9_journal_73 (by decide) ?_
      exact z_ireturn (pc := 75) dX9_journal_75 rfl rfl rfl
    refine z_iload_n (x := x3) (pc := 22) dX9_journal_22 rfl rfl ?_
    refine z_if_ne (tgt := 41) (pc := 23) dX9_journal_23 (by decide) (fun _ => ?_) (fun _ => ?_)
    · refine z_bipush (v := (-2)) (pc := 41) dX9_journal_41 (by decide) ?_
      exact z_ireturn (pc := 43) dX9_journal_43 rfl rfl rfl
    refine z_aload_n (x := a) (pc := 26) dX9_journal_26 rfl rfl ?_
    refine z_getR cX9 (pc := 27) dX9_journal_27 (j := 0) (by decide) rfl w_403 (fun r11 => ?_)
    refine z_getR cX7 (pc := 30) dX9_journal_30 (j := 4) (by decide) rfl w_253 (fun r12 => ?_)
    refine z_getR cX1 (pc := 33) dX9_journal_33 (j := 0) (by decide) rfl w_229 (fun r13 => ?_)
    refine z_iload_n (x := x1) (pc := 36) dX9_journal_36 rfl rfl ?_
    refine z_aldI (pc := 37) dX9_journal_37 (fun t14 => ?_)
    refine z_goto (tgt := 43) (pc := 38) dX9_journal_38 (by decide) ?_
    exact z_ireturn (pc := 43) dX9_journal_43 rfl rfl rfl
  refine z_bipush (v := (-2)) (pc := 14) dX9_journal_14 (by decide) ?_
  exact z_ireturn (pc := 16) dX9_journal_16 rfl rfl rfl
set_option maxHeartbeats 2000000 in
set_option maxRecDepth 20000 in
theorem m_X10_journal {G : Z_G} (hG : z_GG G) (h : Z_H) (a : Nat) (x1 : Int32) (x2 : Int32) (x3 : Int32) : z_Met G iX10_journal [.ref a, .int x1, .int x2, .int x3] h ((f_X10_journal h a x1 x2 x3).bind some) := by
  refine z_in (la := [some (.ref a), some (.int x1), some (.int x2), some (.int x3), none]) (by decide) rfl rfl rfl ?_
  unfold f_X10_journal
  refine z_gg (fun _ => ?_)
  refine z_aload_n (x := a) (pc := 0) dX10_journal_0 rfl rfl ?_
  refine z_iconst (v := 0) (pc := 1) dX10_journal_1 (by decide) ?_
  refine z_putI cX10 (pc := 2) dX10_journal_2 (j := 0) (by decide) rfl rfl w_1087 (fun h1 => ?_)
  refine z_aload_n (x := a) (pc := 5) dX10_journal_5 rfl rfl ?_
  refine z_iload_n (x := x1) (pc := 6) dX10_journal_6 rfl rfl ?_
  refine z_cVP (As := [.int x1]) (rest := []) hG.1 (m_X10_isSeller hG h1 a x1) (fun _ e => z_gdb e) oX10_isSeller (pc := 7) dX10_journal_7 rfl w_1255 rfl rfl rfl (fun t2 => ?_)
  refine z_if_ne (tgt := 16) (pc := 10) dX10_journal_10 (by decide) (fun _ => ?_) (fun _ => ?_)
  · refine z_aload_n (x := a) (pc := 16) dX10_journal_16 rfl rfl ?_
    refine z_iload_n (x := x1) (pc := 17) dX10_journal_17 rfl rfl ?_
    refine z_bipush (v := 29) (pc := 18) dX10_journal_18 (by decide) ?_
    refine z_cVP (As := [.int x1, .int 29]) (rest := []) hG.1 (m_X10_ofSeller hG h1 a x1 29) (fun _ e => z_gdb e) oX10_ofSeller (pc := 20) dX10_journal_20 rfl w_1263 rfl rfl rfl (fun t3 => ?_)
    refine z_istore (i := 4) (la' := [some (.ref a), some (.int x1), some (.int x2), some (.int x3), some (.int t3)]) (pc := 23) dX10_journal_23 (by decide) rfl rfl ?_
    refine z_iload_n (x := x2) (pc := 25) dX10_journal_25 rfl rfl ?_
    refine z_iconst (v := (-1)) (pc := 26) dX10_journal_26 (by decide) ?_
    refine z_ic_ne (tgt := 42) (pc := 27) dX10_journal_27 (by decide) (fun _ => ?_) (fun _ => ?_)
    · refine z_iload_n (x := x2) (pc := 42) dX10_journal_42 rfl rfl ?_
      refine z_iconst (v := 0) (pc := 43) dX10_journal_43 (by decide) ?_
      refine z_iload (x := t3) (pc := 44) dX10_journal_44 rfl ?_
      refine z_iconst (v := 1) (pc := 46) dX10_journal_46 (by decide) ?_
      refine z_isub (pc := 47) dX10_journal_47 ?_
      refine z_cSP (As := [.int x2, .int 0, .int (t3 - 1)]) (rest := []) hG.1 (m_X10_in hG h1 x2 0 (t3 - 1)) oX10_in (pc := 48) dX10_journal_48 rfl w_1179 rfl rfl rfl (fun t4 => ?_)
      refine z_if_eq (tgt := 79) (pc := 51) dX10_journal_51 (by decide) (fun _ => ?_) (fun _ => ?_)
      · refine z_bipush (v := (-2)) (pc := 79) dX10_journal_79 (by decide) ?_
        exact z_ireturn (pc := 81) dX10_journal_81 rfl rfl rfl
      refine z_iload_n (x := x3) (pc := 54) dX10_journal_54 rfl rfl ?_
      refine z_iconst (v := 0) (pc := 55) dX10_journal_55 (by decide) ?_
      refine z_iconst (v := 3) (pc := 56) dX10_journal_56 (by decide) ?_
      refine z_cSP (As := [.int x3, .int 0, .int 3]) (rest := []) hG.1 (m_X10_in hG h1 x3 0 3) oX10_in (pc := 57) dX10_journal_57 rfl w_1179 rfl rfl rfl (fun t5 => ?_)
      refine z_if_eq (tgt := 79) (pc := 60) dX10_journal_60 (by decide) (fun _ => ?_) (fun _ => ?_)
      · refine z_bipush (v := (-2)) (pc := 79) dX10_journal_79 (by decide) ?_
        exact z_ireturn (pc := 81) dX10_journal_81 rfl rfl rfl
      refine z_aload_n (x := a) (pc := 63) dX10_journal_63 rfl rfl ?_
      refine z_iload_n (x := x1) (pc := 64) dX10_journal_64 rfl rfl ?_
      refine z_bipush (v := 30) (pc := 65) dX10_journal_65 (by decide) ?_
      refine z_iconst (v := 4) (pc := 67) dX10_journal_67 (by decide) ?_
      refine z_iload_n (x := x2) (pc := 68) dX10_journal_68 rfl rfl ?_
      refine z_imul (pc := 69) dX10_journal_69 ?_
      refine z_iadd (pc := 70) dX10_journal_70 ?_
      refine z_iload_n (x := x3) (pc := 71) dX10_journal_71 rfl rfl ?_
      refine z_iadd (pc := 72) dX10_journal_72 ?_
      refine z_cVP (As := [.int x1, .int (((30 : Int32) + ((4 : Int32) * x2)) + x3)]) (rest := []) hG.1 (m_X10_ofSeller hG h1 a x1 (((30 : Int32) + ((4 : Int32) * x2)) + x3)) (fun _ e => z_gdb e) oX10_ofSeller (pc := 73) dX10_journal_73 rfl w_1263 rfl rfl rfl (fun t6 => ?_)
      refine z_goto (tgt := 81) (pc := 76) dX10_journal_76 (by decide) ?_
      exact z_ireturn (pc := 81) dX10_journal_81 rfl rfl rfl
    refine z_iload_n (x := x3) (pc := 30) dX10_journal_30 rfl rfl ?_
    refine z_if_ne (tgt := 39) (pc := 31) dX10_journal_31 (by decide) (fun _ => ?_) (fun _ => ?_)
    · refine z_bipush (v := (-2)) (pc := 39) dX10_journal_39 (by decide) ?_
      exact z_ireturn (pc := 41) dX10_journal_41 rfl rfl rfl
    refine z_iload (x := t3) (pc := 34) dX10_journal_34 rfl ?_
    refine z_goto (tgt := 41) (pc := 36) dX10_journal_36 (by decide) ?_
    exact z_ireturn (pc := 41) dX10_journal_41 rfl rfl rfl
  refine z_bipush (v := (-2)) (pc := 13) dX10_journal_13 (by decide) ?_
  exact z_ireturn (pc := 15) dX10_journal_15 rfl rfl rfl
set_option maxHeartbeats 2000000 in
set_option maxRecDepth 20000 in
theorem m_X5_allAmounts {G : Z_G} (hG : z_GG G) (h : Z_H) (a : Nat) : z_Met G iX5_allAmounts [.ref a] h ((f_X5_allAmounts h a).bind fun r => some (r, h)) := by
  refine z_in (la := [some (.ref a), none, none]) (by decide) rfl rfl rfl ?_
  unfold f_X5_allAmounts
  refine z_gg (fun _ => ?_)
  refine z_iconst (v := 0) (pc := 0) dX5_allAmounts_0 (by decide) ?_
  refine z_istore_n (i := 1) (la' := [some (.ref a), some (.int 0), none]) (pc := 1) dX5_allAmounts_1 rfl (by decide) rfl rfl ?_
  refine z_iconst (v := 0) (pc := 2) dX5_allAmounts_2 (by decide) ?_
  refine z_istore_n (i := 2) (la' := [some (.ref a), some (.int 0), some (.int 0)]) (pc := 3) dX5_allAmounts_3 rfl (by decide) rfl rfl ?_
  refine z_lp (T := Int32) (s0 := (0, 0)) 4 (fun ((v1, v2) : Int32 × Int32) => [some (.ref a), some (.int v1), some (.int v2)]) (fun ((v1, v2) : Int32 × Int32) => h) (fun _ => 27) (fun (v3 : Int32) => [none, some (.int v3), none]) (fun (v3 : Int32) => h) ?_ ?_
  · rintro v3
    try dsimp only
    refine z_iload_n (x := v3) (pc := 27) dX5_allAmounts_27 rfl rfl ?_
    exact z_ireturn (pc := 28) dX5_allAmounts_28 rfl rfl rfl
  intro k' hx1 rec4 hrec4
  rintro ⟨v1, v2⟩
  unfold f_X5_allAmounts_l1
  try dsimp only
  refine z_iload_n (x := v2) (pc := 4) dX5_allAmounts_4 rfl rfl ?_
  refine z_aload_n (x := a) (pc := 5) dX5_allAmounts_5 rfl rfl ?_
  refine z_getI cX5 (pc := 6) dX5_allAmounts_6 (j := 0) (by decide) rfl w_183 (fun t5 => ?_)
  refine z_ic_ge (tgt := 27) (pc := 9) dX5_allAmounts_9 (by decide) (fun _ => ?_) (fun _ => ?_)
  · exact z_wk (hx1 v1) (And.intro rfl trivial)
  refine z_iload_n (x := v1) (pc := 12) dX5_allAmounts_12 rfl rfl ?_
  refine z_aload_n (x := a) (pc := 13) dX5_allAmounts_13 rfl rfl ?_
  refine z_getR cX5 (pc := 14) dX5_allAmounts_14 (j := 2) (by decide) rfl w_191 (fun r6 => ?_)
  refine z_iload_n (x := v2) (pc := 17) dX5_allAmounts_17 rfl rfl ?_
  refine z_aldI (pc := 18) dX5_allAmounts_18 (fun t7 => ?_)
  refine z_iadd (pc := 19) dX5_allAmounts_19 ?_
  refine z_nm (fun v8 => ?_)
  refine z_istore_n (i := 1) (la' := [some (.ref a), some (.int v8), some (.int v2)]) (pc := 20) dX5_allAmounts_20 rfl (by decide) rfl rfl ?_
  refine z_iinc (i := 2) (x := v2) (v := (v2 + 1)) (la' := [some (.ref a), some (.int v8), some (.int (v2 + 1))]) (pc := 21) dX5_allAmounts_21 rfl rfl (by decide) rfl rfl ?_
  refine z_goto (tgt := 4) (pc := 24) dX5_allAmounts_24 (by decide) ?_
  exact hrec4 (v8, (v2 + 1))
set_option maxHeartbeats 2000000 in
set_option maxRecDepth 20000 in
theorem m_X5_allNetAmounts {G : Z_G} (hG : z_GG G) (h : Z_H) (a : Nat) : z_Met G iX5_allNetAmounts [.ref a] h ((f_X5_allNetAmounts h a).bind fun r => some (r, h)) := by
  refine z_in (la := [some (.ref a), none, none]) (by decide) rfl rfl rfl ?_
  unfold f_X5_allNetAmounts
  refine z_gg (fun _ => ?_)
  refine z_iconst (v := 0) (pc := 0) dX5_allNetAmounts_0 (by decide) ?_
  refine z_istore_n (i := 1) (la' := [some (.ref a), some (.int 0), none]) (pc := 1) dX5_allNetAmounts_1 rfl (by decide) rfl rfl ?_
  refine z_iconst (v := 0) (pc := 2) dX5_allNetAmounts_2 (by decide) ?_
  refine z_istore_n (i := 2) (la' := [some (.ref a), some (.int 0), some (.int 0)]) (pc := 3) dX5_allNetAmounts_3 rfl (by decide) rfl rfl ?_
  refine z_lp (T := Int32) (s0 := (0, 0)) 4 (fun ((v1, v2) : Int32 × Int32) => [some (.ref a), some (.int v1), some (.int v2)]) (fun ((v1, v2) : Int32 × Int32) => h) (fun _ => 26) (fun (v3 : Int32) => [none, some (.int v3), none]) (fun (v3 : Int32) => h) ?_ ?_
  · rintro v3
    try dsimp only
    refine z_iload_n (x := v3) (pc := 26) dX5_allNetAmounts_26 rfl rfl ?_
    exact z_ireturn (pc := 27) dX5_allNetAmounts_27 rfl rfl rfl
  intro k' hx1 rec4 hrec4
  rintro ⟨v1, v2⟩
  unfold f_X5_allNetAmounts_l1
  try dsimp only
  refine z_iload_n (x := v2) (pc := 4) dX5_allNetAmounts_4 rfl rfl ?_
  refine z_aload_n (x := a) (pc := 5) dX5_allNetAmounts_5 rfl rfl ?_
  refine z_getI cX5 (pc := 6) dX5_allNetAmounts_6 (j := 0) (by decide) rfl w_183 (fun t5 => ?_)
  refine z_ic_ge (tgt := 26) (pc := 9) dX5_allNetAmounts_9 (by decide) (fun _ => ?_) (fun _ => ?_)
  · exact z_wk (hx1 v1) (And.intro rfl trivial)
  refine z_iload_n (x := v1) (pc := 12) dX5_allNetAmounts_12 rfl rfl ?_
  refine z_aload_n (x := a) (pc := 13) dX5_allNetAmounts_13 rfl rfl ?_
  refine z_iload_n (x := v2) (pc := 14) dX5_allNetAmounts_14 rfl rfl ?_
  refine z_cVP (As := [.int v2]) (rest := [.int v1]) hG.1 (m_X5_netAmount hG h a v2) (fun _ e => z_gdb e) oX5_netAmount (pc := 15) dX5_allNetAmounts_15 rfl w_997 rfl rfl rfl (fun t6 => ?_)
  refine z_iadd (pc := 18) dX5_allNetAmounts_18 ?_
  refine z_nm (fun v7 => ?_)
  refine z_istore_n (i := 1) (la' := [some (.ref a), some (.int v7), some (.int v2)]) (pc := 19) dX5_allNetAmounts_19 rfl (by decide) rfl rfl ?_
  refine z_iinc (i := 2) (x := v2) (v := (v2 + 1)) (la' := [some (.ref a), some (.int v7), some (.int (v2 + 1))]) (pc := 20) dX5_allNetAmounts_20 rfl rfl (by decide) rfl rfl ?_
  refine z_goto (tgt := 4) (pc := 23) dX5_allNetAmounts_23 (by decide) ?_
  exact hrec4 (v7, (v2 + 1))
set_option maxHeartbeats 2000000 in
set_option maxRecDepth 20000 in
theorem m_X5_allTogether {G : Z_G} (hG : z_GG G) (h : Z_H) (a : Nat) (x1 : Int32) : z_Met G iX5_allTogether [.ref a, .int x1] h ((f_X5_allTogether h a x1).bind fun r => some (r, h)) := by
  refine z_in (la := [some (.ref a), some (.int x1), none, none]) (by decide) rfl rfl rfl ?_
  unfold f_X5_allTogether
  refine z_gg (fun _ => ?_)
  refine z_iconst (v := 0) (pc := 0) dX5_allTogether_0 (by decide) ?_
  refine z_istore_n (i := 2) (la' := [some (.ref a), some (.int x1), some (.int 0), none]) (pc := 1) dX5_allTogether_1 rfl (by decide) rfl rfl ?_
  refine z_iconst (v := 0) (pc := 2) dX5_allTogether_2 (by decide) ?_
  refine z_istore_n (i := 3) (la' := [some (.ref a), some (.int x1), some (.int 0), some (.int 0)]) (pc := 3) dX5_allTogether_3 rfl (by decide) rfl rfl ?_
  refine z_lp (T := Int32) (s0 := (0, 0)) 4 (fun ((v1, v2) : Int32 × Int32) => [some (.ref a), some (.int x1), some (.int v1), some (.int v2)]) (fun ((v1, v2) : Int32 × Int32) => h) (fun _ => 27) (fun (v3 : Int32) => [none, none, some (.int v3), none]) (fun (v3 : Int32) => h) ?_ ?_
  · rintro v3
    try dsimp only
    refine z_iload_n (x := v3) (pc := 27) dX5_allTogether_27 rfl rfl ?_
    exact z_ireturn (pc := 28) dX5_allTogether_28 rfl rfl rfl
  intro k' hx1 rec4 hrec4
  rintro ⟨v1, v2⟩
  unfold f_X5_allTogether_l1
  try dsimp only
  refine z_iload_n (x := v2) (pc := 4) dX5_allTogether_4 rfl rfl ?_
  refine z_aload_n (x := a) (pc := 5) dX5_allTogether_5 rfl rfl ?_
  refine z_getI cX5 (pc := 6) dX5_allTogether_6 (j := 0) (by decide) rfl w_183 (fun t5 => ?_)
  refine z_ic_ge (tgt := 27) (pc := 9) dX5_allTogether_9 (by decide) (fun _ => ?_) (fun _ => ?_)
  · exact z_wk (hx1 v1) (And.intro rfl trivial)
  refine z_iload_n (x := v1) (pc := 12) dX5_allTogether_12 rfl rfl ?_
  refine z_aload_n (x := a) (pc := 13) dX5_allTogether_13 rfl rfl ?_
  refine z_iload_n (x := v2) (pc := 14) dX5_allTogether_14 rfl rfl ?_
  refine z_iload_n (x := x1) (pc := 15) dX5_allTogether_15 rfl rfl ?_
  refine z_cVP (As := [.int v2, .int x1]) (rest := [.int v1]) hG.1 (m_X5_together hG h a v2 x1) (fun _ e => z_gdb e) oX5_together (pc := 16) dX5_allTogether_16 rfl w_1002 rfl rfl rfl (fun t6 => ?_)
  refine z_iadd (pc := 19) dX5_allTogether_19 ?_
  refine z_nm (fun v7 => ?_)
  refine z_istore_n (i := 2) (la' := [some (.ref a), some (.int x1), some (.int v7), some (.int v2)]) (pc := 20) dX5_allTogether_20 rfl (by decide) rfl rfl ?_
  refine z_iinc (i := 3) (x := v2) (v := (v2 + 1)) (la' := [some (.ref a), some (.int x1), some (.int v7), some (.int (v2 + 1))]) (pc := 21) dX5_allTogether_21 rfl rfl (by decide) rfl rfl ?_
  refine z_goto (tgt := 4) (pc := 24) dX5_allTogether_24 (by decide) ?_
  exact hrec4 (v7, (v2 + 1))
set_option maxHeartbeats 2000000 in
set_option maxRecDepth 20000 in
theorem m_X5_allNetPays {G : Z_G} (hG : z_GG G) (h : Z_H) (a : Nat) : z_Met G iX5_allNetPays [.ref a] h ((f_X5_allNetPays h a).bind fun r => some (r, h)) := by
  refine z_in (la := [some (.ref a), none, none]) (by decide) rfl rfl rfl ?_
  unfold f_X5_allNetPays
  refine z_gg (fun _ => ?_)
  refine z_iconst (v := 0) (pc := 0) dX5_allNetPays_0 (by decide) ?_
  refine z_istore_n (i := 1) (la' := [some (.ref a), some (.int 0), none]) (pc := 1) dX5_allNetPays_1 rfl (by decide) rfl rfl ?_
  refine z_iconst (v := 0) (pc := 2) dX5_allNetPays_2 (by decide) ?_
  refine z_istore_n (i := 2) (la' := [some (.ref a), some (.int 0), some (.int 0)]) (pc := 3) dX5_allNetPays_3 rfl (by decide) rfl rfl ?_
  refine z_lp (T := Int32) (s0 := (0, 0)) 4 (fun ((v1, v2) : Int32 × Int32) => [some (.ref a), some (.int v1), some (.int v2)]) (fun ((v1, v2) : Int32 × Int32) => h) (fun _ => 26) (fun (v3 : Int32) => [none, some (.int v3), none]) (fun (v3 : Int32) => h) ?_ ?_
  · rintro v3
    try dsimp only
    refine z_iload_n (x := v3) (pc := 26) dX5_allNetPays_26 rfl rfl ?_
    exact z_ireturn (pc := 27) dX5_allNetPays_27 rfl rfl rfl
  intro k' hx1 rec4 hrec4
  rintro ⟨v1, v2⟩
  unfold f_X5_allNetPays_l1
  try dsimp only
  refine z_iload_n (x := v2) (pc := 4) dX5_allNetPays_4 rfl rfl ?_
  refine z_aload_n (x := a) (pc := 5) dX5_allNetPays_5 rfl rfl ?_
  refine z_getI cX5 (pc := 6) dX5_allNetPays_6 (j := 0) (by decide) rfl w_183 (fun t5 => ?_)
  refine z_ic_ge (tgt := 26) (pc := 9) dX5_allNetPays_9 (by decide) (fun _ => ?_) (fun _ => ?_)
  · exact z_wk (hx1 v1) (And.intro rfl trivial)
  refine z_iload_n (x := v1) (pc := 12) dX5_allNetPays_12 rfl rfl ?_
  refine z_aload_n (x := a) (pc := 13) dX5_allNetPays_13 rfl rfl ?_
  refine z_iload_n (x := v2) (pc := 14) dX5_allNetPays_14 rfl rfl ?_
  refine z_cVP (As := [.int v2]) (rest := [.int v1]) hG.1 (m_X5_netPays hG h a v2) (fun _ e => z_gdb e) oX5_netPays (pc := 15) dX5_allNetPays_15 rfl w_1007 rfl rfl rfl (fun t6 => ?_)
  refine z_iadd (pc := 18) dX5_allNetPays_18 ?_
  refine z_nm (fun v7 => ?_)
  refine z_istore_n (i := 1) (la' := [some (.ref a), some (.int v7), some (.int v2)]) (pc := 19) dX5_allNetPays_19 rfl (by decide) rfl rfl ?_
  refine z_iinc (i := 2) (x := v2) (v := (v2 + 1)) (la' := [some (.ref a), some (.int v7), some (.int (v2 + 1))]) (pc := 20) dX5_allNetPays_20 rfl rfl (by decide) rfl rfl ?_
  refine z_goto (tgt := 4) (pc := 23) dX5_allNetPays_23 (by decide) ?_
  exact hrec4 (v7, (v2 + 1))
set_option maxHeartbeats 2000000 in
set_option maxRecDepth 20000 in
theorem m_X7_allVested {G : Z_G} (hG : z_GG G) (h : Z_H) (a : Nat) : z_Met G iX7_allVested [.ref a] h ((f_X7_allVested h a).bind fun r => some (r, h)) := by
  refine z_in (la := [some (.ref a), none, none]) (by decide) rfl rfl rfl ?_
  unfold f_X7_allVested
  refine z_gg (fun _ => ?_)
  refine z_iconst (v := 0) (pc := 0) dX7_allVested_0 (by decide) ?_
  refine z_istore_n (i := 1) (la' := [some (.ref a), some (.int 0), none]) (pc := 1) dX7_allVested_1 rfl (by decide) rfl rfl ?_
  refine z_iconst (v := 0) (pc := 2) dX7_allVested_2 (by decide) ?_
  refine z_istore_n (i := 2) (la' := [some (.ref a), some (.int 0), some (.int 0)]) (pc := 3) dX7_allVested_3 rfl (by decide) rfl rfl ?_
  refine z_lp (T := Int32) (s0 := (0, 0)) 4 (fun ((v1, v2) : Int32 × Int32) => [some (.ref a), some (.int v1), some (.int v2)]) (fun ((v1, v2) : Int32 × Int32) => h) (fun _ => 29) (fun (v3 : Int32) => [none, some (.int v3), none]) (fun (v3 : Int32) => h) ?_ ?_
  · rintro v3
    try dsimp only
    refine z_iload_n (x := v3) (pc := 29) dX7_allVested_29 rfl rfl ?_
    exact z_ireturn (pc := 30) dX7_allVested_30 rfl rfl rfl
  intro k' hx1 rec4 hrec4
  rintro ⟨v1, v2⟩
  unfold f_X7_allVested_l1
  try dsimp only
  refine z_iload_n (x := v2) (pc := 4) dX7_allVested_4 rfl rfl ?_
  refine z_aload_n (x := a) (pc := 5) dX7_allVested_5 rfl rfl ?_
  refine z_getR cX7 (pc := 6) dX7_allVested_6 (j := 3) (by decide) rfl w_249 (fun r5 => ?_)
  refine z_getI cX5 (pc := 9) dX7_allVested_9 (j := 0) (by decide) rfl w_184 (fun t6 => ?_)
  refine z_ic_ge (tgt := 29) (pc := 12) dX7_allVested_12 (by decide) (fun _ => ?_) (fun _ => ?_)
  · exact z_wk (hx1 v1) (And.intro rfl trivial)
  refine z_iload_n (x := v1) (pc := 15) dX7_allVested_15 rfl rfl ?_
  refine z_aload_n (x := a) (pc := 16) dX7_allVested_16 rfl rfl ?_
  refine z_iload_n (x := v2) (pc := 17) dX7_allVested_17 rfl rfl ?_
  refine z_cVP (As := [.int v2]) (rest := [.int v1]) hG.1 (m_X7_vestedOfSale hG h a v2) (fun _ e => z_gdb e) oX7_vestedOfSale (pc := 18) dX7_allVested_18 rfl w_852 rfl rfl rfl (fun t7 => ?_)
  refine z_iadd (pc := 21) dX7_allVested_21 ?_
  refine z_nm (fun v8 => ?_)
  refine z_istore_n (i := 1) (la' := [some (.ref a), some (.int v8), some (.int v2)]) (pc := 22) dX7_allVested_22 rfl (by decide) rfl rfl ?_
  refine z_iinc (i := 2) (x := v2) (v := (v2 + 1)) (la' := [some (.ref a), some (.int v8), some (.int (v2 + 1))]) (pc := 23) dX7_allVested_23 rfl rfl (by decide) rfl rfl ?_
  refine z_goto (tgt := 4) (pc := 26) dX7_allVested_26 (by decide) ?_
  exact hrec4 (v8, (v2 + 1))
set_option maxHeartbeats 2000000 in
set_option maxRecDepth 20000 in
theorem m_X7_allNotVested {G : Z_G} (hG : z_GG G) (h : Z_H) (a : Nat) (x1 : Int32) : z_Met G iX7_allNotVested [.ref a, .int x1] h ((f_X7_allNotVested h a x1).bind fun r => some (r, h)) := by
  refine z_in (la := [some (.ref a), some (.int x1), none, none]) (by decide) rfl rfl rfl ?_
  unfold f_X7_allNotVested
  refine z_gg (fun _ => ?_)
  refine z_iconst (v := 0) (pc := 0) dX7_allNotVested_0 (by decide) ?_
  refine z_istore_n (i := 2) (la' := [some (.ref a), some (.int x1), some (.int 0), none]) (pc := 1) dX7_allNotVested_1 rfl (by decide) rfl rfl ?_
  refine z_iconst (v := 0) (pc := 2) dX7_allNotVested_2 (by decide) ?_
  refine z_istore_n (i := 3) (la' := [some (.ref a), some (.int x1), some (.int 0), some (.int 0)]) (pc := 3) dX7_allNotVested_3 rfl (by decide) rfl rfl ?_
  refine z_lp (T := Int32) (s0 := (0, 0)) 4 (fun ((v1, v2) : Int32 × Int32) => [some (.ref a), some (.int x1), some (.int v1), some (.int v2)]) (fun ((v1, v2) : Int32 × Int32) => h) (fun _ => 45) (fun (v3 : Int32) => [none, none, some (.int v3), none]) (fun (v3 : Int32) => h) ?_ ?_
  · rintro v3
    try dsimp only
    refine z_iload_n (x := v3) (pc := 45) dX7_allNotVested_45 rfl rfl ?_
    exact z_ireturn (pc := 46) dX7_allNotVested_46 rfl rfl rfl
  intro k' hx1 rec4 hrec4
  rintro ⟨v1, v2⟩
  unfold f_X7_allNotVested_l1
  try dsimp only
  refine z_iload_n (x := v2) (pc := 4) dX7_allNotVested_4 rfl rfl ?_
  refine z_aload_n (x := a) (pc := 5) dX7_allNotVested_5 rfl rfl ?_
  refine z_getR cX7 (pc := 6) dX7_allNotVested_6 (j := 2) (by decide) rfl w_245 (fun r5 => ?_)
  refine z_getI cX0 (pc := 9) dX7_allNotVested_9 (j := 0) (by decide) rfl w_141 (fun t6 => ?_)
  refine z_ic_ge (tgt := 45) (pc := 12) dX7_allNotVested_12 (by decide) (fun _ => ?_) (fun _ => ?_)
  · exact z_wk (hx1 v1) (And.intro rfl trivial)
  refine z_iload_n (x := v1) (pc := 15) dX7_allNotVested_15 rfl rfl ?_
  refine z_aload_n (x := a) (pc := 16) dX7_allNotVested_16 rfl rfl ?_
  refine z_getR cX7 (pc := 17) dX7_allNotVested_17 (j := 2) (by decide) rfl w_245 (fun r7 => ?_)
  refine z_iload_n (x := v2) (pc := 20) dX7_allNotVested_20 rfl rfl ?_
  refine z_cVP (As := [.int v2]) (rest := [.int v1]) hG.1 (m_X0_hasLeft hG h r7 v2) (fun _ e => z_gdb e) oX0_hasLeft (pc := 21) dX7_allNotVested_21 rfl w_699 rfl rfl rfl (fun t8 => ?_)
  refine z_iload_n (x := x1) (pc := 24) dX7_allNotVested_24 rfl rfl ?_
  refine z_jn 37 (fun (y9 : Int32) => [some (.ref a), some (.int x1), none, some (.int v2)]) (fun (y9 : Int32) => [.int y9, .int v1]) (fun (y9 : Int32) => h) ?_ ?_
  · rintro y9
    try dsimp only
    refine z_iadd (pc := 37) dX7_allNotVested_37 ?_
    refine z_nm (fun v11 => ?_)
    refine z_istore_n (i := 2) (la' := [some (.ref a), some (.int x1), some (.int v11), some (.int v2)]) (pc := 38) dX7_allNotVested_38 rfl (by decide) rfl rfl ?_
    refine z_iinc (i := 3) (x := v2) (v := (v2 + 1)) (la' := [some (.ref a), some (.int x1), some (.int v11), some (.int (v2 + 1))]) (pc := 39) dX7_allNotVested_39 rfl rfl (by decide) rfl rfl ?_
    refine z_goto (tgt := 4) (pc := 42) dX7_allNotVested_42 (by decide) ?_
    exact hrec4 (v11, (v2 + 1))
  intro j10 hj10
  refine z_ic_ne (tgt := 36) (pc := 25) dX7_allNotVested_25 (by decide) (fun _ => ?_) (fun _ => ?_)
  · refine z_iconst (v := 0) (pc := 36) dX7_allNotVested_36 (by decide) ?_
    exact z_wk (hj10 0) (And.intro rfl (And.intro rfl (And.intro rfl trivial)))
  refine z_aload_n (x := a) (pc := 28) dX7_allNotVested_28 rfl rfl ?_
  refine z_iload_n (x := v2) (pc := 29) dX7_allNotVested_29 rfl rfl ?_
  refine z_cVP (As := [.int v2]) (rest := [.int v1]) hG.1 (m_X7_notVested hG h a v2) (fun _ e => z_gdb e) oX7_notVested (pc := 30) dX7_allNotVested_30 rfl w_1016 rfl rfl rfl (fun t12 => ?_)
  refine z_goto (tgt := 37) (pc := 33) dX7_allNotVested_33 (by decide) ?_
  exact z_wk (hj10 t12) (And.intro rfl (And.intro rfl (And.intro rfl trivial)))
set_option maxHeartbeats 2000000 in
set_option maxRecDepth 20000 in
theorem m_X0_allDrawn {G : Z_G} (hG : z_GG G) (h : Z_H) (a : Nat) : z_Met G iX0_allDrawn [.ref a] h ((f_X0_allDrawn h a).bind fun r => some (r, h)) := by
  refine z_in (la := [some (.ref a), none, none]) (by decide) rfl rfl rfl ?_
  unfold f_X0_allDrawn
  refine z_gg (fun _ => ?_)
  refine z_iconst (v := 0) (pc := 0) dX0_allDrawn_0 (by decide) ?_
  refine z_istore_n (i := 1) (la' := [some (.ref a), some (.int 0), none]) (pc := 1) dX0_allDrawn_1 rfl (by decide) rfl rfl ?_
  refine z_iconst (v := 0) (pc := 2) dX0_allDrawn_2 (by decide) ?_
  refine z_istore_n (i := 2) (la' := [some (.ref a), some (.int 0), some (.int 0)]) (pc := 3) dX0_allDrawn_3 rfl (by decide) rfl rfl ?_
  refine z_lp (T := Int32) (s0 := (0, 0)) 4 (fun ((v1, v2) : Int32 × Int32) => [some (.ref a), some (.int v1), some (.int v2)]) (fun ((v1, v2) : Int32 × Int32) => h) (fun _ => 27) (fun (v3 : Int32) => [none, some (.int v3), none]) (fun (v3 : Int32) => h) ?_ ?_
  · rintro v3
    try dsimp only
    refine z_iload_n (x := v3) (pc := 27) dX0_allDrawn_27 rfl rfl ?_
    exact z_ireturn (pc := 28) dX0_allDrawn_28 rfl rfl rfl
  intro k' hx1 rec4 hrec4
  rintro ⟨v1, v2⟩
  unfold f_X0_allDrawn_l1
  try dsimp only
  refine z_iload_n (x := v2) (pc := 4) dX0_allDrawn_4 rfl rfl ?_
  refine z_aload_n (x := a) (pc := 5) dX0_allDrawn_5 rfl rfl ?_
  refine z_getI cX0 (pc := 6) dX0_allDrawn_6 (j := 0) (by decide) rfl w_138 (fun t5 => ?_)
  refine z_ic_ge (tgt := 27) (pc := 9) dX0_allDrawn_9 (by decide) (fun _ => ?_) (fun _ => ?_)
  · exact z_wk (hx1 v1) (And.intro rfl trivial)
  refine z_iload_n (x := v1) (pc := 12) dX0_allDrawn_12 rfl rfl ?_
  refine z_aload_n (x := a) (pc := 13) dX0_allDrawn_13 rfl rfl ?_
  refine z_getR cX0 (pc := 14) dX0_allDrawn_14 (j := 3) (by decide) rfl w_150 (fun r6 => ?_)
  refine z_iload_n (x := v2) (pc := 17) dX0_allDrawn_17 rfl rfl ?_
  refine z_aldI (pc := 18) dX0_allDrawn_18 (fun t7 => ?_)
  refine z_iadd (pc := 19) dX0_allDrawn_19 ?_
  refine z_nm (fun v8 => ?_)
  refine z_istore_n (i := 1) (la' := [some (.ref a), some (.int v8), some (.int v2)]) (pc := 20) dX0_allDrawn_20 rfl (by decide) rfl rfl ?_
  refine z_iinc (i := 2) (x := v2) (v := (v2 + 1)) (la' := [some (.ref a), some (.int v8), some (.int (v2 + 1))]) (pc := 21) dX0_allDrawn_21 rfl rfl (by decide) rfl rfl ?_
  refine z_goto (tgt := 4) (pc := 24) dX0_allDrawn_24 (by decide) ?_
  exact hrec4 (v8, (v2 + 1))
set_option maxHeartbeats 2000000 in
set_option maxRecDepth 20000 in
theorem m_X7_allDebts {G : Z_G} (hG : z_GG G) (h : Z_H) (a : Nat) : z_Met G iX7_allDebts [.ref a] h ((f_X7_allDebts h a).bind some) := by
  refine z_in (la := [some (.ref a), none, none]) (by decide) rfl rfl rfl ?_
  unfold f_X7_allDebts
  refine z_gg (fun _ => ?_)
  refine z_aload_n (x := a) (pc := 0) dX7_allDebts_0 rfl rfl ?_
  refine z_iconst (v := (-1)) (pc := 1) dX7_allDebts_1 (by decide) ?_
  refine z_cVV (As := [.int (-1)]) (rest := []) hG.1 (m_X7_fillBalances hG h a (-1)) (fun _ e => z_gdb e) oX7_fillBalances (pc := 2) dX7_allDebts_2 rfl w_907 rfl rfl rfl (fun h1 => ?_)
  refine z_iconst (v := 0) (pc := 5) dX7_allDebts_5 (by decide) ?_
  refine z_istore_n (i := 1) (la' := [some (.ref a), some (.int 0), none]) (pc := 6) dX7_allDebts_6 rfl (by decide) rfl rfl ?_
  refine z_iconst (v := 0) (pc := 7) dX7_allDebts_7 (by decide) ?_
  refine z_istore_n (i := 2) (la' := [some (.ref a), some (.int 0), some (.int 0)]) (pc := 8) dX7_allDebts_8 rfl (by decide) rfl rfl ?_
  refine z_lp (T := Int32) (s0 := (0, 0)) 9 (fun ((v2, v3) : Int32 × Int32) => [some (.ref a), some (.int v2), some (.int v3)]) (fun ((v2, v3) : Int32 × Int32) => h1) (fun _ => 40) (fun (v4 : Int32) => [none, some (.int v4), none]) (fun (v4 : Int32) => h1) ?_ ?_
  · rintro v4
    try dsimp only
    refine z_iload_n (x := v4) (pc := 40) dX7_allDebts_40 rfl rfl ?_
    exact z_ireturn (pc := 41) dX7_allDebts_41 rfl rfl rfl
  intro k' hx1 rec5 hrec5
  rintro ⟨v2, v3⟩
  unfold f_X7_allDebts_l1
  try dsimp only
  refine z_iload_n (x := v3) (pc := 9) dX7_allDebts_9 rfl rfl ?_
  refine z_aload_n (x := a) (pc := 10) dX7_allDebts_10 rfl rfl ?_
  refine z_getR cX7 (pc := 11) dX7_allDebts_11 (j := 2) (by decide) rfl w_245 (fun r6 => ?_)
  refine z_getI cX0 (pc := 14) dX7_allDebts_14 (j := 0) (by decide) rfl w_141 (fun t7 => ?_)
  refine z_ic_ge (tgt := 40) (pc := 17) dX7_allDebts_17 (by decide) (fun _ => ?_) (fun _ => ?_)
  · exact z_wk (hx1 v2) (And.intro rfl trivial)
  refine z_iload_n (x := v2) (pc := 20) dX7_allDebts_20 rfl rfl ?_
  refine z_iconst (v := 0) (pc := 21) dX7_allDebts_21 (by decide) ?_
  refine z_aload_n (x := a) (pc := 22) dX7_allDebts_22 rfl rfl ?_
  refine z_getR cX7 (pc := 23) dX7_allDebts_23 (j := 5) (by decide) rfl w_254 (fun r8 => ?_)
  refine z_iload_n (x := v3) (pc := 26) dX7_allDebts_26 rfl rfl ?_
  refine z_aldI (pc := 27) dX7_allDebts_27 (fun t9 => ?_)
  refine z_ineg (pc := 28) dX7_allDebts_28 ?_
  refine z_mmax (pc := 29) dX7_allDebts_29 w_701 w_702 w_17 w_703 (by decide) (Nat.le_of_ble_eq_true rfl) ?_
  refine z_iadd (pc := 32) dX7_allDebts_32 ?_
  refine z_nm (fun v10 => ?_)
  refine z_istore_n (i := 1) (la' := [some (.ref a), some (.int v10), some (.int v3)]) (pc := 33) dX7_allDebts_33 rfl (by decide) rfl rfl ?_
  refine z_iinc (i := 2) (x := v3) (v := (v3 + 1)) (la' := [some (.ref a), some (.int v10), some (.int (v3 + 1))]) (pc := 34) dX7_allDebts_34 rfl rfl (by decide) rfl rfl ?_
  refine z_goto (tgt := 9) (pc := 37) dX7_allDebts_37 (by decide) ?_
  exact hrec5 (v10, (v3 + 1))
set_option maxHeartbeats 2000000 in
set_option maxRecDepth 20000 in
theorem m_X0_leavers {G : Z_G} (hG : z_GG G) (h : Z_H) (a : Nat) : z_Met G iX0_leavers [.ref a] h ((f_X0_leavers h a).bind fun r => some (r, h)) := by
  refine z_in (la := [some (.ref a), none, none]) (by decide) rfl rfl rfl ?_
  unfold f_X0_leavers
  refine z_gg (fun _ => ?_)
  refine z_iconst (v := 0) (pc := 0) dX0_leavers_0 (by decide) ?_
  refine z_istore_n (i := 1) (la' := [some (.ref a), some (.int 0), none]) (pc := 1) dX0_leavers_1 rfl (by decide) rfl rfl ?_
  refine z_iconst (v := 0) (pc := 2) dX0_leavers_2 (by decide) ?_
  refine z_istore_n (i := 2) (la' := [some (.ref a), some (.int 0), some (.int 0)]) (pc := 3) dX0_leavers_3 rfl (by decide) rfl rfl ?_
  refine z_lp (T := Int32) (s0 := (0, 0)) 4 (fun ((v1, v2) : Int32 × Int32) => [some (.ref a), some (.int v1), some (.int v2)]) (fun ((v1, v2) : Int32 × Int32) => h) (fun _ => 36) (fun (v3 : Int32) => [none, some (.int v3), none]) (fun (v3 : Int32) => h) ?_ ?_
  · rintro v3
    try dsimp only
    refine z_iload_n (x := v3) (pc := 36) dX0_leavers_36 rfl rfl ?_
    exact z_ireturn (pc := 37) dX0_leavers_37 rfl rfl rfl
  intro k' hx1 rec4 hrec4
  rintro ⟨v1, v2⟩
  unfold f_X0_leavers_l1
  try dsimp only
  refine z_iload_n (x := v2) (pc := 4) dX0_leavers_4 rfl rfl ?_
  refine z_aload_n (x := a) (pc := 5) dX0_leavers_5 rfl rfl ?_
  refine z_getI cX0 (pc := 6) dX0_leavers_6 (j := 0) (by decide) rfl w_138 (fun t5 => ?_)
  refine z_ic_ge (tgt := 36) (pc := 9) dX0_leavers_9 (by decide) (fun _ => ?_) (fun _ => ?_)
  · exact z_wk (hx1 v1) (And.intro rfl trivial)
  refine z_iload_n (x := v1) (pc := 12) dX0_leavers_12 rfl rfl ?_
  refine z_aload_n (x := a) (pc := 13) dX0_leavers_13 rfl rfl ?_
  refine z_iload_n (x := v2) (pc := 14) dX0_leavers_14 rfl rfl ?_
  refine z_cVP (As := [.int v2]) (rest := [.int v1]) hG.1 (m_X0_hasLeft hG h a v2) (fun _ e => z_gdb e) oX0_hasLeft (pc := 15) dX0_leavers_15 rfl w_630 rfl rfl rfl (fun t6 => ?_)
  refine z_jn 28 (fun (y7 : Int32) => [some (.ref a), none, some (.int v2)]) (fun (y7 : Int32) => [.int y7, .int v1]) (fun (y7 : Int32) => h) ?_ ?_
  · rintro y7
    try dsimp only
    refine z_ior (pc := 28) dX0_leavers_28 ?_
    refine z_nm (fun v9 => ?_)
    refine z_istore_n (i := 1) (la' := [some (.ref a), some (.int v9), some (.int v2)]) (pc := 29) dX0_leavers_29 rfl (by decide) rfl rfl ?_
    refine z_iinc (i := 2) (x := v2) (v := (v2 + 1)) (la' := [some (.ref a), some (.int v9), some (.int (v2 + 1))]) (pc := 30) dX0_leavers_30 rfl rfl (by decide) rfl rfl ?_
    refine z_goto (tgt := 4) (pc := 33) dX0_leavers_33 (by decide) ?_
    exact hrec4 (v9, (v2 + 1))
  intro j8 hj8
  refine z_if_eq (tgt := 27) (pc := 18) dX0_leavers_18 (by decide) (fun _ => ?_) (fun _ => ?_)
  · refine z_iconst (v := 0) (pc := 27) dX0_leavers_27 (by decide) ?_
    exact z_wk (hj8 0) (And.intro rfl (And.intro rfl trivial))
  refine z_iconst (v := 1) (pc := 21) dX0_leavers_21 (by decide) ?_
  refine z_iload_n (x := v2) (pc := 22) dX0_leavers_22 rfl rfl ?_
  refine z_ishl (pc := 23) dX0_leavers_23 ?_
  refine z_goto (tgt := 28) (pc := 24) dX0_leavers_24 (by decide) ?_
  exact z_wk (hj8 ((1 : Int32) <<< (v2 &&& 31))) (And.intro rfl (And.intro rfl trivial))
set_option maxHeartbeats 2000000 in
set_option maxRecDepth 20000 in
theorem m_X9_activeNow {G : Z_G} (hG : z_GG G) (h : Z_H) (a : Nat) : z_Met G iX9_activeNow [.ref a] h ((f_X9_activeNow h a).bind some) := by
  refine z_in (la := [some (.ref a)]) (by decide) rfl rfl rfl ?_
  unfold f_X9_activeNow
  refine z_gg (fun _ => ?_)
  refine z_aload_n (x := a) (pc := 0) dX9_activeNow_0 rfl rfl ?_
  refine z_getR cX9 (pc := 1) dX9_activeNow_1 (j := 3) (by decide) rfl w_406 (fun r1 => ?_)
  refine z_aload_n (x := a) (pc := 4) dX9_activeNow_4 rfl rfl ?_
  refine z_getR cX9 (pc := 5) dX9_activeNow_5 (j := 0) (by decide) rfl w_403 (fun r2 => ?_)
  refine z_aload_n (x := a) (pc := 8) dX9_activeNow_8 rfl rfl ?_
  refine z_getR cX9 (pc := 9) dX9_activeNow_9 (j := 0) (by decide) rfl w_403 (fun r3 => ?_)
  refine z_getI cX7 (pc := 12) dX9_activeNow_12 (j := 8) (by decide) rfl w_261 (fun t4 => ?_)
  refine z_cVV (As := [.ref r2, .int t4]) (rest := []) hG.1 (m_X6_look hG h r1 r2 t4) (fun _ e => z_gdb e) oX6_look (pc := 15) dX9_activeNow_15 rfl w_721 rfl rfl rfl (fun h5 => ?_)
  refine z_aload_n (x := a) (pc := 18) dX9_activeNow_18 rfl rfl ?_
  refine z_getR cX9 (pc := 19) dX9_activeNow_19 (j := 3) (by decide) rfl w_406 (fun r6 => ?_)
  refine z_getI cX6 (pc := 22) dX9_activeNow_22 (j := 9) (by decide) rfl w_355 (fun t7 => ?_)
  exact z_ireturn (pc := 25) dX9_activeNow_25 rfl rfl rfl
set_option maxHeartbeats 2000000 in
set_option maxRecDepth 20000 in
theorem m_X9_staleSales {G : Z_G} (hG : z_GG G) (h : Z_H) (a : Nat) : z_Met G iX9_staleSales [.ref a] h ((f_X9_staleSales h a).bind some) := by
  refine z_in (la := [some (.ref a), none, none]) (by decide) rfl rfl rfl ?_
  unfold f_X9_staleSales
  refine z_gg (fun _ => ?_)
  refine z_aload_n (x := a) (pc := 0) dX9_staleSales_0 rfl rfl ?_
  refine z_getR cX9 (pc := 1) dX9_staleSales_1 (j := 3) (by decide) rfl w_406 (fun r1 => ?_)
  refine z_aload_n (x := a) (pc := 4) dX9_staleSales_4 rfl rfl ?_
  refine z_getR cX9 (pc := 5) dX9_staleSales_5 (j := 0) (by decide) rfl w_403 (fun r2 => ?_)
  refine z_aload_n (x := a) (pc := 8) dX9_staleSales_8 rfl rfl ?_
  refine z_getR cX9 (pc := 9) dX9_staleSales_9 (j := 0) (by decide) rfl w_403 (fun r3 => ?_)
  refine z_getI cX7 (pc := 12) dX9_staleSales_12 (j := 8) (by decide) rfl w_261 (fun t4 => ?_)
  refine z_cVV (As := [.ref r2, .int t4]) (rest := []) hG.1 (m_X6_look hG h r1 r2 t4) (fun _ e => z_gdb e) oX6_look (pc := 15) dX9_staleSales_15 rfl w_721 rfl rfl rfl (fun h5 => ?_)
  refine z_iconst (v := 0) (pc := 18) dX9_staleSales_18 (by decide) ?_
  refine z_istore_n (i := 1) (la' := [some (.ref a), some (.int 0), none]) (pc := 19) dX9_staleSales_19 rfl (by decide) rfl rfl ?_
  refine z_iconst (v := 0) (pc := 20) dX9_staleSales_20 (by decide) ?_
  refine z_istore_n (i := 2) (la' := [some (.ref a), some (.int 0), some (.int 0)]) (pc := 21) dX9_staleSales_21 rfl (by decide) rfl rfl ?_
  refine z_lp (T := Int32) (s0 := (0, 0)) 22 (fun ((v6, v7) : Int32 × Int32) => [some (.ref a), some (.int v6), some (.int v7)]) (fun ((v6, v7) : Int32 × Int32) => h5) (fun _ => 58) (fun (v8 : Int32) => [none, some (.int v8), none]) (fun (v8 : Int32) => h5) ?_ ?_
  · rintro v8
    try dsimp only
    refine z_iload_n (x := v8) (pc := 58) dX9_staleSales_58 rfl rfl ?_
    exact z_ireturn (pc := 59) dX9_staleSales_59 rfl rfl rfl
  intro k' hx1 rec9 hrec9
  rintro ⟨v6, v7⟩
  unfold f_X9_staleSales_l1
  try dsimp only
  refine z_iload_n (x := v7) (pc := 22) dX9_staleSales_22 rfl rfl ?_
  refine z_aload_n (x := a) (pc := 23) dX9_staleSales_23 rfl rfl ?_
  refine z_getR cX9 (pc := 24) dX9_staleSales_24 (j := 0) (by decide) rfl w_403 (fun r10 => ?_)
  refine z_getR cX7 (pc := 27) dX9_staleSales_27 (j := 3) (by decide) rfl w_251 (fun r11 => ?_)
  refine z_getI cX5 (pc := 30) dX9_staleSales_30 (j := 0) (by decide) rfl w_186 (fun t12 => ?_)
  refine z_ic_ge (tgt := 58) (pc := 33) dX9_staleSales_33 (by decide) (fun _ => ?_) (fun _ => ?_)
  · exact z_wk (hx1 v6) (And.intro rfl trivial)
  refine z_iload_n (x := v6) (pc := 36) dX9_staleSales_36 rfl rfl ?_
  refine z_aload_n (x := a) (pc := 37) dX9_staleSales_37 rfl rfl ?_
  refine z_iload_n (x := v7) (pc := 38) dX9_staleSales_38 rfl rfl ?_
  refine z_cVP (As := [.int v7]) (rest := [.int v6]) hG.1 (m_X9_staleInScene hG h5 a v7) (fun _ e => z_gdb e) oX9_staleInScene (pc := 39) dX9_staleSales_39 rfl w_898 rfl rfl rfl (fun t13 => ?_)
  refine z_jn 50 (fun (y14 : Int32) => [some (.ref a), none, some (.int v7)]) (fun (y14 : Int32) => [.int y14, .int v6]) (fun (y14 : Int32) => h5) ?_ ?_
  · rintro y14
    try dsimp only
    refine z_iadd (pc := 50) dX9_staleSales_50 ?_
    refine z_nm (fun v16 => ?_)
    refine z_istore_n (i := 1) (la' := [some (.ref a), some (.int v16), some (.int v7)]) (pc := 51) dX9_staleSales_51 rfl (by decide) rfl rfl ?_
    refine z_iinc (i := 2) (x := v7) (v := (v7 + 1)) (la' := [some (.ref a), some (.int v16), some (.int (v7 + 1))]) (pc := 52) dX9_staleSales_52 rfl rfl (by decide) rfl rfl ?_
    refine z_goto (tgt := 22) (pc := 55) dX9_staleSales_55 (by decide) ?_
    exact hrec9 (v16, (v7 + 1))
  intro j15 hj15
  refine z_if_eq (tgt := 49) (pc := 42) dX9_staleSales_42 (by decide) (fun _ => ?_) (fun _ => ?_)
  · refine z_iconst (v := 0) (pc := 49) dX9_staleSales_49 (by decide) ?_
    exact z_wk (hj15 0) (And.intro rfl (And.intro rfl trivial))
  refine z_iconst (v := 1) (pc := 45) dX9_staleSales_45 (by decide) ?_
  refine z_goto (tgt := 50) (pc := 46) dX9_staleSales_46 (by decide) ?_
  exact z_wk (hj15 1) (And.intro rfl (And.intro rfl trivial))
set_option maxHeartbeats 2000000 in
set_option maxRecDepth 20000 in
theorem m_X9_greatestNow {G : Z_G} (hG : z_GG G) (h : Z_H) (a : Nat) (x1 : Int32) : z_Met G iX9_greatestNow [.ref a, .int x1] h ((f_X9_greatestNow h a x1).bind some) := by
  refine z_in (la := [some (.ref a), some (.int x1), none, none]) (by decide) rfl rfl rfl ?_
  unfold f_X9_greatestNow
  refine z_gg (fun _ => ?_)
  refine z_aload_n (x := a) (pc := 0) dX9_greatestNow_0 rfl rfl ?_
  refine z_getR cX9 (pc := 1) dX9_greatestNow_1 (j := 3) (by decide) rfl w_406 (fun r1 => ?_)
  refine z_aload_n (x := a) (pc := 4) dX9_greatestNow_4 rfl rfl ?_
  refine z_getR cX9 (pc := 5) dX9_greatestNow_5 (j := 0) (by decide) rfl w_403 (fun r2 => ?_)
  refine z_aload_n (x := a) (pc := 8) dX9_greatestNow_8 rfl rfl ?_
  refine z_getR cX9 (pc := 9) dX9_greatestNow_9 (j := 0) (by decide) rfl w_403 (fun r3 => ?_)
  refine z_getI cX7 (pc := 12) dX9_greatestNow_12 (j := 8) (by decide) rfl w_261 (fun t4 => ?_)
  refine z_cVV (As := [.ref r2, .int t4]) (rest := []) hG.1 (m_X6_look hG h r1 r2 t4) (fun _ e => z_gdb e) oX6_look (pc := 15) dX9_greatestNow_15 rfl w_721 rfl rfl rfl (fun h5 => ?_)
  refine z_iconst (v := 0) (pc := 18) dX9_greatestNow_18 (by decide) ?_
  refine z_istore_n (i := 2) (la' := [some (.ref a), some (.int x1), some (.int 0), none]) (pc := 19) dX9_greatestNow_19 rfl (by decide) rfl rfl ?_
  refine z_iconst (v := 1) (pc := 20) dX9_greatestNow_20 (by decide) ?_
  refine z_istore_n (i := 3) (la' := [some (.ref a), some (.int x1), some (.int 0), some (.int 1)]) (pc := 21) dX9_greatestNow_21 rfl (by decide) rfl rfl ?_
  refine z_lp (T := Int32) (s0 := (0, 1)) 22 (fun ((v6, v7) : Int32 × Int32) => [some (.ref a), some (.int x1), some (.int v6), some (.int v7)]) (fun ((v6, v7) : Int32 × Int32) => h5) (fun _ => 65) (fun (v8 : Int32) => [some (.ref a), some (.int x1), some (.int v8), none]) (fun (v8 : Int32) => h5) ?_ ?_
  · rintro v8
    try dsimp only
    refine z_iload_n (x := x1) (pc := 65) dX9_greatestNow_65 rfl rfl ?_
    refine z_if_eq (tgt := 73) (pc := 66) dX9_greatestNow_66 (by decide) (fun _ => ?_) (fun _ => ?_)
    · refine z_aload_n (x := a) (pc := 73) dX9_greatestNow_73 rfl rfl ?_
      refine z_getR cX9 (pc := 74) dX9_greatestNow_74 (j := 3) (by decide) rfl w_406 (fun r21 => ?_)
      refine z_getR cX6 (pc := 77) dX9_greatestNow_77 (j := 7) (by decide) rfl w_351 (fun r22 => ?_)
      refine z_iload_n (x := v8) (pc := 80) dX9_greatestNow_80 rfl rfl ?_
      refine z_aldI (pc := 81) dX9_greatestNow_81 (fun t23 => ?_)
      exact z_ireturn (pc := 82) dX9_greatestNow_82 rfl rfl rfl
    refine z_iload_n (x := v8) (pc := 69) dX9_greatestNow_69 rfl rfl ?_
    refine z_goto (tgt := 82) (pc := 70) dX9_greatestNow_70 (by decide) ?_
    exact z_ireturn (pc := 82) dX9_greatestNow_82 rfl rfl rfl
  intro k' hx1 rec9 hrec9
  rintro ⟨v6, v7⟩
  unfold f_X9_greatestNow_l1
  try dsimp only
  refine z_iload_n (x := v7) (pc := 22) dX9_greatestNow_22 rfl rfl ?_
  refine z_aload_n (x := a) (pc := 23) dX9_greatestNow_23 rfl rfl ?_
  refine z_getR cX9 (pc := 24) dX9_greatestNow_24 (j := 0) (by decide) rfl w_403 (fun r10 => ?_)
  refine z_getR cX7 (pc := 27) dX9_greatestNow_27 (j := 2) (by decide) rfl w_247 (fun r11 => ?_)
  refine z_getI cX0 (pc := 30) dX9_greatestNow_30 (j := 0) (by decide) rfl w_139 (fun t12 => ?_)
  refine z_ic_ge (tgt := 65) (pc := 33) dX9_greatestNow_33 (by decide) (fun _ => ?_) (fun _ => ?_)
  · exact z_wk (hx1 v6) (And.intro rfl (And.intro rfl (And.intro rfl trivial)))
  refine z_aload_n (x := a) (pc := 36) dX9_greatestNow_36 rfl rfl ?_
  refine z_getR cX9 (pc := 37) dX9_greatestNow_37 (j := 3) (by decide) rfl w_406 (fun r13 => ?_)
  refine z_getR cX6 (pc := 40) dX9_greatestNow_40 (j := 7) (by decide) rfl w_351 (fun r14 => ?_)
  refine z_iload_n (x := v7) (pc := 43) dX9_greatestNow_43 rfl rfl ?_
  refine z_aldI (pc := 44) dX9_greatestNow_44 (fun t15 => ?_)
  refine z_aload_n (x := a) (pc := 45) dX9_greatestNow_45 rfl rfl ?_
  refine z_getR cX9 (pc := 46) dX9_greatestNow_46 (j := 3) (by decide) rfl w_406 (fun r16 => ?_)
  refine z_getR cX6 (pc := 49) dX9_greatestNow_49 (j := 7) (by decide) rfl w_351 (fun r17 => ?_)
  refine z_iload_n (x := v6) (pc := 52) dX9_greatestNow_52 rfl rfl ?_
  refine z_aldI (pc := 53) dX9_greatestNow_53 (fun t18 => ?_)
  refine z_jn 59 (fun (v19 : Int32) => [some (.ref a), some (.int x1), some (.int v19), some (.int v7)]) (fun (v19 : Int32) => []) (fun (v19 : Int32) => h5) ?_ ?_
  · rintro v19
    try dsimp only
    refine z_iinc (i := 3) (x := v7) (v := (v7 + 1)) (la' := [some (.ref a), some (.int x1), some (.int v19), some (.int (v7 + 1))]) (pc := 59) dX9_greatestNow_59 rfl rfl (by decide) rfl rfl ?_
    refine z_goto (tgt := 22) (pc := 62) dX9_greatestNow_62 (by decide) ?_
    exact hrec9 (v19, (v7 + 1))
  intro j20 hj20
  refine z_ic_le (tgt := 59) (pc := 54) dX9_greatestNow_54 (by decide) (fun _ => ?_) (fun _ => ?_)
  · exact hj20 v6
  refine z_iload_n (x := v7) (pc := 57) dX9_greatestNow_57 rfl rfl ?_
  refine z_istore_n (i := 2) (la' := [some (.ref a), some (.int x1), some (.int v7), some (.int v7)]) (pc := 58) dX9_greatestNow_58 rfl (by decide) rfl rfl ?_
  exact hj20 v7
set_option maxHeartbeats 2000000 in
set_option maxRecDepth 20000 in
theorem m_X9_books {G : Z_G} (hG : z_GG G) (h : Z_H) (a : Nat) (x1 : Int32) : z_Met G iX9_books [.ref a, .int x1] h ((f_X9_books h a x1).bind some) := by
  refine z_in (la := [some (.ref a), some (.int x1), none]) (by decide) rfl rfl rfl ?_
  unfold f_X9_books
  refine z_gg (fun _ => ?_)
  refine z_aload_n (x := a) (pc := 0) dX9_books_0 rfl rfl ?_
  refine z_getR cX9 (pc := 1) dX9_books_1 (j := 0) (by decide) rfl w_403 (fun r1 => ?_)
  refine z_getR cX7 (pc := 4) dX9_books_4 (j := 3) (by decide) rfl w_251 (fun r2 => ?_)
  refine z_astore_n (i := 2) (la' := [some (.ref a), some (.int x1), some (.ref r2)]) (pc := 7) dX9_books_7 rfl (by decide) rfl rfl ?_
  refine z_iload_n (x := x1) (pc := 8) dX9_books_8 rfl rfl ?_
  refine z_bz (fun hs0 => ?_) (fun hs0 => ?_)
  · refine z_tsw (tgt := 104) (off := 95) (pc := 9) dX9_books_9 (by rw [hs0]; decide) (by rw [hs0]; decide) (by rw [hs0]; rfl) (by decide) ?_
    refine z_aload_n (x := a) (pc := 104) dX9_books_104 rfl rfl ?_
    refine z_getR cX9 (pc := 105) dX9_books_105 (j := 0) (by decide) rfl w_403 (fun r3 => ?_)
    refine z_getI cX7 (pc := 108) dX9_books_108 (j := 8) (by decide) rfl w_261 (fun t4 => ?_)
    exact z_ireturn (pc := 111) dX9_books_111 rfl rfl rfl
  refine z_bz (fun hs1 => ?_) (fun hs1 => ?_)
  · refine z_tsw (tgt := 112) (off := 103) (pc := 9) dX9_books_9 (by rw [hs1]; decide) (by rw [hs1]; decide) (by rw [hs1]; rfl) (by decide) ?_
    refine z_aload_n (x := a) (pc := 112) dX9_books_112 rfl rfl ?_
    refine z_getR cX9 (pc := 113) dX9_books_113 (j := 0) (by decide) rfl w_403 (fun r5 => ?_)
    refine z_getR cX7 (pc := 116) dX9_books_116 (j := 2) (by decide) rfl w_247 (fun r6 => ?_)
    refine z_getI cX0 (pc := 119) dX9_books_119 (j := 0) (by decide) rfl w_139 (fun t7 => ?_)
    exact z_ireturn (pc := 122) dX9_books_122 rfl rfl rfl
  refine z_bz (fun hs2 => ?_) (fun hs2 => ?_)
  · refine z_tsw (tgt := 123) (off := 114) (pc := 9) dX9_books_9 (by rw [hs2]; decide) (by rw [hs2]; decide) (by rw [hs2]; rfl) (by decide) ?_
    refine z_aload_n (x := r2) (pc := 123) dX9_books_123 rfl rfl ?_
    refine z_getI cX5 (pc := 124) dX9_books_124 (j := 0) (by decide) rfl w_186 (fun t8 => ?_)
    exact z_ireturn (pc := 127) dX9_books_127 rfl rfl rfl
  refine z_bz (fun hs3 => ?_) (fun hs3 => ?_)
  · refine z_tsw (tgt := 128) (off := 119) (pc := 9) dX9_books_9 (by rw [hs3]; decide) (by rw [hs3]; decide) (by rw [hs3]; rfl) (by decide) ?_
    refine z_aload_n (x := r2) (pc := 128) dX9_books_128 rfl rfl ?_
    refine z_cVP (As := []) (rest := []) hG.1 (m_X5_allAmounts hG h r2) (fun _ e => z_gdb e) oX5_allAmounts (pc := 129) dX9_books_129 rfl w_989 rfl rfl rfl (fun t9 => ?_)
    exact z_ireturn (pc := 132) dX9_books_132 rfl rfl rfl
  refine z_bz (fun hs4 => ?_) (fun hs4 => ?_)
  · refine z_tsw (tgt := 133) (off := 124) (pc := 9) dX9_books_9 (by rw [hs4]; decide) (by rw [hs4]; decide) (by rw [hs4]; rfl) (by decide) ?_
    refine z_aload_n (x := r2) (pc := 133) dX9_books_133 rfl rfl ?_
    refine z_cVP (As := []) (rest := []) hG.1 (m_X5_allNetAmounts hG h r2) (fun _ e => z_gdb e) oX5_allNetAmounts (pc := 134) dX9_books_134 rfl w_993 rfl rfl rfl (fun t10 => ?_)
    exact z_ireturn (pc := 137) dX9_books_137 rfl rfl rfl
  refine z_bz (fun hs5 => ?_) (fun hs5 => ?_)
  · refine z_tsw (tgt := 138) (off := 129) (pc := 9) dX9_books_9 (by rw [hs5]; decide) (by rw [hs5]; decide) (by rw [hs5]; rfl) (by decide) ?_
    refine z_aload_n (x := r2) (pc := 138) dX9_books_138 rfl rfl ?_
    refine z_iconst (v := 2) (pc := 139) dX9_books_139 (by decide) ?_
    refine z_cVP (As := [.int 2]) (rest := []) hG.1 (m_X5_allTogether hG h r2 2) (fun _ e => z_gdb e) oX5_allTogether (pc := 140) dX9_books_140 rfl w_998 rfl rfl rfl (fun t11 => ?_)
    exact z_ireturn (pc := 143) dX9_books_143 rfl rfl rfl
  refine z_bz (fun hs6 => ?_) (fun hs6 => ?_)
  · refine z_tsw (tgt := 144) (off := 135) (pc := 9) dX9_books_9 (by rw [hs6]; decide) (by rw [hs6]; decide) (by rw [hs6]; rfl) (by decide) ?_
    refine z_aload_n (x := r2) (pc := 144) dX9_books_144 rfl rfl ?_
    refine z_cVP (As := []) (rest := []) hG.1 (m_X5_allNetPays hG h r2) (fun _ e => z_gdb e) oX5_allNetPays (pc := 145) dX9_books_145 rfl w_1003 rfl rfl rfl (fun t12 => ?_)
    exact z_ireturn (pc := 148) dX9_books_148 rfl rfl rfl
  refine z_bz (fun hs7 => ?_) (fun hs7 => ?_)
  · refine z_tsw (tgt := 149) (off := 140) (pc := 9) dX9_books_9 (by rw [hs7]; decide) (by rw [hs7]; decide) (by rw [hs7]; rfl) (by decide) ?_
    refine z_aload_n (x := r2) (pc := 149) dX9_books_149 rfl rfl ?_
    refine z_iconst (v := 3) (pc := 150) dX9_books_150 (by decide) ?_
    refine z_cVP (As := [.int 3]) (rest := []) hG.1 (m_X5_allTogether hG h r2 3) (fun _ e => z_gdb e) oX5_allTogether (pc := 151) dX9_books_151 rfl w_998 rfl rfl rfl (fun t13 => ?_)
    exact z_ireturn (pc := 154) dX9_books_154 rfl rfl rfl
  refine z_bz (fun hs8 => ?_) (fun hs8 => ?_)
  · refine z_tsw (tgt := 155) (off := 146) (pc := 9) dX9_books_9 (by rw [hs8]; decide) (by rw [hs8]; decide) (by rw [hs8]; rfl) (by decide) ?_
    refine z_aload_n (x := r2) (pc := 155) dX9_books_155 rfl rfl ?_
    refine z_iconst (v := 4) (pc := 156) dX9_books_156 (by decide) ?_
    refine z_cVP (As := [.int 4]) (rest := []) hG.1 (m_X5_allTogether hG h r2 4) (fun _ e => z_gdb e) oX5_allTogether (pc := 157) dX9_books_157 rfl w_998 rfl rfl rfl (fun t14 => ?_)
    exact z_ireturn (pc := 160) dX9_books_160 rfl rfl rfl
  refine z_bz (fun hs9 => ?_) (fun hs9 => ?_)
  · refine z_tsw (tgt := 161) (off := 152) (pc := 9) dX9_books_9 (by rw [hs9]; decide) (by rw [hs9]; decide) (by rw [hs9]; rfl) (by decide) ?_
    refine z_aload_n (x := a) (pc := 161) dX9_books_161 rfl rfl ?_
    refine z_getR cX9 (pc := 162) dX9_books_162 (j := 0) (by decide) rfl w_403 (fun r15 => ?_)
    refine z_cVP (As := []) (rest := []) hG.1 (m_X7_allVested hG h r15) (fun _ e => z_gdb e) oX7_allVested (pc := 165) dX9_books_165 rfl w_1008 rfl rfl rfl (fun t16 => ?_)
    exact z_ireturn (pc := 168) dX9_books_168 rfl rfl rfl
  refine z_bz (fun hs10 => ?_) (fun hs10 => ?_)
  · refine z_tsw (tgt := 169) (off := 160) (pc := 9) dX9_books_9 (by rw [hs10]; decide) (by rw [hs10]; decide) (by rw [hs10]; rfl) (by decide) ?_
    refine z_aload_n (x := a) (pc := 169) dX9_books_169 rfl rfl ?_
    refine z_getR cX9 (pc := 170) dX9_books_170 (j := 0) (by decide) rfl w_403 (fun r17 => ?_)
    refine z_iconst (v := 0) (pc := 173) dX9_books_173 (by decide) ?_
    refine z_cVP (As := [.int 0]) (rest := []) hG.1 (m_X7_allNotVested hG h r17 0) (fun _ e => z_gdb e) oX7_allNotVested (pc := 174) dX9_books_174 rfl w_1012 rfl rfl rfl (fun t18 => ?_)
    exact z_ireturn (pc := 177) dX9_books_177 rfl rfl rfl
  refine z_bz (fun hs11 => ?_) (fun hs11 => ?_)
  · refine z_tsw (tgt := 178) (off := 169) (pc := 9) dX9_books_9 (by rw [hs11]; decide) (by rw [hs11]; decide) (by rw [hs11]; rfl) (by decide) ?_
    refine z_aload_n (x := a) (pc := 178) dX9_books_178 rfl rfl ?_
    refine z_getR cX9 (pc := 179) dX9_books_179 (j := 0) (by decide) rfl w_403 (fun r19 => ?_)
    refine z_iconst (v := 1) (pc := 182) dX9_books_182 (by decide) ?_
    refine z_cVP (As := [.int 1]) (rest := []) hG.1 (m_X7_allNotVested hG h r19 1) (fun _ e => z_gdb e) oX7_allNotVested (pc := 183) dX9_books_183 rfl w_1012 rfl rfl rfl (fun t20 => ?_)
    exact z_ireturn (pc := 186) dX9_books_186 rfl rfl rfl
  refine z_bz (fun hs12 => ?_) (fun hs12 => ?_)
  · refine z_tsw (tgt := 187) (off := 178) (pc := 9) dX9_books_9 (by rw [hs12]; decide) (by rw [hs12]; decide) (by rw [hs12]; rfl) (by decide) ?_
    refine z_aload_n (x := a) (pc := 187) dX9_books_187 rfl rfl ?_
    refine z_getR cX9 (pc := 188) dX9_books_188 (j := 0) (by decide) rfl w_403 (fun r21 => ?_)
    refine z_getR cX7 (pc := 191) dX9_books_191 (j := 2) (by decide) rfl w_247 (fun r22 => ?_)
    refine z_cVP (As := []) (rest := []) hG.1 (m_X0_allDrawn hG h r22) (fun _ e => z_gdb e) oX0_allDrawn (pc := 194) dX9_books_194 rfl w_1017 rfl rfl rfl (fun t23 => ?_)
    exact z_ireturn (pc := 197) dX9_books_197 rfl rfl rfl
  refine z_bz (fun hs13 => ?_) (fun hs13 => ?_)
  · refine z_tsw (tgt := 198) (off := 189) (pc := 9) dX9_books_9 (by rw [hs13]; decide) (by rw [hs13]; decide) (by rw [hs13]; rfl) (by decide) ?_
    refine z_aload_n (x := a) (pc := 198) dX9_books_198 rfl rfl ?_
    refine z_getR cX9 (pc := 199) dX9_books_199 (j := 0) (by decide) rfl w_403 (fun r24 => ?_)
    refine z_dVI (As := []) (rest := []) hG.1 (m_X7_allDebts hG h r24) (fun _ e => z_gdb e) oX7_allDebts (pc := 202) dX9_books_202 rfl w_1021 rfl rfl rfl (fun t25 h26 => ?_)
    exact z_ireturn (pc := 205) dX9_books_205 rfl rfl rfl
  refine z_bz (fun hs14 => ?_) (fun hs14 => ?_)
  · refine z_tsw (tgt := 206) (off := 197) (pc := 9) dX9_books_9 (by rw [hs14]; decide) (by rw [hs14]; decide) (by rw [hs14]; rfl) (by decide) ?_
    refine z_aload_n (x := a) (pc := 206) dX9_books_206 rfl rfl ?_
    refine z_getR cX9 (pc := 207) dX9_books_207 (j := 0) (by decide) rfl w_403 (fun r27 => ?_)
    refine z_iconst (v := (-1)) (pc := 210) dX9_books_210 (by decide) ?_
    refine z_dVI (As := [.int (-1)]) (rest := []) hG.1 (m_X7_debtorsWithout hG h r27 (-1)) (fun _ e => z_gdb e) oX7_debtorsWithout (pc := 211) dX9_books_211 rfl w_903 rfl rfl rfl (fun t28 h29 => ?_)
    exact z_ireturn (pc := 214) dX9_books_214 rfl rfl rfl
  refine z_bz (fun hs15 => ?_) (fun hs15 => ?_)
  · refine z_tsw (tgt := 215) (off := 206) (pc := 9) dX9_books_9 (by rw [hs15]; decide) (by rw [hs15]; decide) (by rw [hs15]; rfl) (by decide) ?_
    refine z_aload_n (x := a) (pc := 215) dX9_books_215 rfl rfl ?_
    refine z_getR cX9 (pc := 216) dX9_books_216 (j := 0) (by decide) rfl w_403 (fun r30 => ?_)
    refine z_getR cX7 (pc := 219) dX9_books_219 (j := 2) (by decide) rfl w_247 (fun r31 => ?_)
    refine z_cVP (As := []) (rest := []) hG.1 (m_X0_leavers hG h r31) (fun _ e => z_gdb e) oX0_leavers (pc := 222) dX9_books_222 rfl w_1025 rfl rfl rfl (fun t32 => ?_)
    exact z_ireturn (pc := 225) dX9_books_225 rfl rfl rfl
  refine z_bz (fun hs16 => ?_) (fun hs16 => ?_)
  · refine z_tsw (tgt := 226) (off := 217) (pc := 9) dX9_books_9 (by rw [hs16]; decide) (by rw [hs16]; decide) (by rw [hs16]; rfl) (by decide) ?_
    refine z_aload_n (x := a) (pc := 226) dX9_books_226 rfl rfl ?_
    refine z_dVI (As := []) (rest := []) hG.1 (m_X9_activeNow hG h a) (fun _ e => z_gdb e) oX9_activeNow (pc := 227) dX9_books_227 rfl w_1029 rfl rfl rfl (fun t33 h34 => ?_)
    exact z_ireturn (pc := 230) dX9_books_230 rfl rfl rfl
  refine z_bz (fun hs17 => ?_) (fun hs17 => ?_)
  · refine z_tsw (tgt := 231) (off := 222) (pc := 9) dX9_books_9 (by rw [hs17]; decide) (by rw [hs17]; decide) (by rw [hs17]; rfl) (by decide) ?_
    refine z_aload_n (x := a) (pc := 231) dX9_books_231 rfl rfl ?_
    refine z_dVI (As := []) (rest := []) hG.1 (m_X9_staleSales hG h a) (fun _ e => z_gdb e) oX9_staleSales (pc := 232) dX9_books_232 rfl w_1033 rfl rfl rfl (fun t35 h36 => ?_)
    exact z_ireturn (pc := 235) dX9_books_235 rfl rfl rfl
  refine z_bz (fun hs18 => ?_) (fun hs18 => ?_)
  · refine z_tsw (tgt := 236) (off := 227) (pc := 9) dX9_books_9 (by rw [hs18]; decide) (by rw [hs18]; decide) (by rw [hs18]; rfl) (by decide) ?_
    refine z_aload_n (x := a) (pc := 236) dX9_books_236 rfl rfl ?_
    refine z_iconst (v := 0) (pc := 237) dX9_books_237 (by decide) ?_
    refine z_dVI (As := [.int 0]) (rest := []) hG.1 (m_X9_greatestNow hG h a 0) (fun _ e => z_gdb e) oX9_greatestNow (pc := 238) dX9_books_238 rfl w_1037 rfl rfl rfl (fun t37 h38 => ?_)
    exact z_ireturn (pc := 241) dX9_books_241 rfl rfl rfl
  refine z_bz (fun hs19 => ?_) (fun hs19 => ?_)
  · refine z_tsw (tgt := 242) (off := 233) (pc := 9) dX9_books_9 (by rw [hs19]; decide) (by rw [hs19]; decide) (by rw [hs19]; rfl) (by decide) ?_
    refine z_aload_n (x := a) (pc := 242) dX9_books_242 rfl rfl ?_
    refine z_iconst (v := 1) (pc := 243) dX9_books_243 (by decide) ?_
    refine z_dVI (As := [.int 1]) (rest := []) hG.1 (m_X9_greatestNow hG h a 1) (fun _ e => z_gdb e) oX9_greatestNow (pc := 244) dX9_books_244 rfl w_1037 rfl rfl rfl (fun t39 h40 => ?_)
    exact z_ireturn (pc := 247) dX9_books_247 rfl rfl rfl
  refine z_tswO (tgt := 248) (pc := 9) dX9_books_9 (z_out (fun v h1 h2 => by
    have hv : v = 0 ∨ v = 1 ∨ v = 2 ∨ v = 3 ∨ v = 4 ∨ v = 5 ∨ v = 6 ∨ v = 7 ∨ v = 8 ∨ v = 9 ∨ v = 10 ∨ v = 11 ∨ v = 12 ∨ v = 13 ∨ v = 14 ∨ v = 15 ∨ v = 16 ∨ v = 17 ∨ v = 18 ∨ v = 19 := by omega
    rcases hv with rfl | rfl | rfl | rfl | rfl | rfl | rfl | rfl | rfl | rfl | rfl | rfl | rfl | rfl | rfl | rfl | rfl | rfl | rfl | rfl
    · exact hs0
    · exact hs1
    · exact hs2
    · exact hs3
    · exact hs4
    · exact hs5
    · exact hs6
    · exact hs7
    · exact hs8
    · exact hs9
    · exact hs10
    · exact hs11
    · exact hs12
    · exact hs13
    · exact hs14
    · exact hs15
    · exact hs16
    · exact hs17
    · exact hs18
    · exact hs19)) (by decide) ?_
  refine z_bipush (v := (-2)) (pc := 248) dX9_books_248 (by decide) ?_
  exact z_ireturn (pc := 250) dX9_books_250 rfl rfl rfl
set_option maxHeartbeats 2000000 in
set_option maxRecDepth 20000 in
theorem m_X10_ofSales {G : Z_G} (hG : z_GG G) (h : Z_H) (a : Nat) (x1 : Int32) : z_Met G iX10_ofSales [.ref a, .int x1] h ((f_X10_ofSales h a x1).bind some) := by
  refine z_in (la := [some (.ref a), some (.int x1), none, none]) (by decide) rfl rfl rfl ?_
  unfold f_X10_ofSales
  refine z_gg (fun _ => ?_)
  refine z_iconst (v := 0) (pc := 0) dX10_ofSales_0 (by decide) ?_
  refine z_istore_n (i := 2) (la' := [some (.ref a), some (.int x1), some (.int 0), none]) (pc := 1) dX10_ofSales_1 rfl (by decide) rfl rfl ?_
  refine z_iconst (v := 0) (pc := 2) dX10_ofSales_2 (by decide) ?_
  refine z_istore_n (i := 3) (la' := [some (.ref a), some (.int x1), some (.int 0), some (.int 0)]) (pc := 3) dX10_ofSales_3 rfl (by decide) rfl rfl ?_
  refine z_lp (T := Int32 × Z_H) (s0 := (0, 0, h)) 4 (fun ((v1, v2, h3) : Int32 × Int32 × Z_H) => [some (.ref a), some (.int x1), some (.int v1), some (.int v2)]) (fun ((v1, v2, h3) : Int32 × Int32 × Z_H) => h3) (fun _ => 129) (fun ((v4, h5) : Int32 × Z_H) => [none, none, some (.int v4), none]) (fun ((v4, h5) : Int32 × Z_H) => h5) ?_ ?_
  · rintro ⟨v4, h5⟩
    try dsimp only
    refine z_iload_n (x := v4) (pc := 129) dX10_ofSales_129 rfl rfl ?_
    exact z_ireturn (pc := 130) dX10_ofSales_130 rfl rfl rfl
  intro k' hx1 rec6 hrec6
  rintro ⟨v1, v2, h3⟩
  unfold f_X10_ofSales_l1
  try dsimp only
  refine z_iload_n (x := v2) (pc := 4) dX10_ofSales_4 rfl rfl ?_
  refine z_aload_n (x := a) (pc := 5) dX10_ofSales_5 rfl rfl ?_
  refine z_getR cX10 (pc := 6) dX10_ofSales_6 (j := 1) (by decide) rfl w_1088 (fun r7 => ?_)
  refine z_sipush (v := 146) (pc := 9) dX10_ofSales_9 (by decide) ?_
  refine z_aldI (pc := 12) dX10_ofSales_12 (fun t8 => ?_)
  refine z_ic_ge (tgt := 129) (pc := 13) dX10_ofSales_13 (by decide) (fun _ => ?_) (fun _ => ?_)
  · exact z_wk (hx1 (v1, h3)) (And.intro rfl trivial)
  refine z_iload_n (x := v1) (pc := 16) dX10_ofSales_16 rfl rfl ?_
  refine z_iload_n (x := x1) (pc := 17) dX10_ofSales_17 rfl rfl ?_
  refine z_iconst (v := 3) (pc := 18) dX10_ofSales_18 (by decide) ?_
  refine z_jn 121 (fun ((y9, h10) : Int32 × Z_H) => [some (.ref a), some (.int x1), none, some (.int v2)]) (fun ((y9, h10) : Int32 × Z_H) => [.int y9, .int v1]) (fun ((y9, h10) : Int32 × Z_H) => h10) ?_ ?_
  · rintro ⟨y9, h10⟩
    try dsimp only
    refine z_iadd (pc := 121) dX10_ofSales_121 ?_
    refine z_nm (fun v12 => ?_)
    refine z_istore_n (i := 2) (la' := [some (.ref a), some (.int x1), some (.int v12), some (.int v2)]) (pc := 122) dX10_ofSales_122 rfl (by decide) rfl rfl ?_
    refine z_iinc (i := 3) (x := v2) (v := (v2 + 1)) (la' := [some (.ref a), some (.int x1), some (.int v12), some (.int (v2 + 1))]) (pc := 123) dX10_ofSales_123 rfl rfl (by decide) rfl rfl ?_
    refine z_goto (tgt := 4) (pc := 126) dX10_ofSales_126 (by decide) ?_
    exact hrec6 (v12, (v2 + 1), h10)
  intro j11 hj11
  refine z_ic_ne (tgt := 31) (pc := 19) dX10_ofSales_19 (by decide) (fun _ => ?_) (fun _ => ?_)
  · refine z_iload_n (x := x1) (pc := 31) dX10_ofSales_31 rfl rfl ?_
    refine z_iconst (v := 4) (pc := 32) dX10_ofSales_32 (by decide) ?_
    refine z_ic_ne (tgt := 50) (pc := 33) dX10_ofSales_33 (by decide) (fun _ => ?_) (fun _ => ?_)
    · refine z_iload_n (x := x1) (pc := 50) dX10_ofSales_50 rfl rfl ?_
      refine z_iconst (v := 5) (pc := 51) dX10_ofSales_51 (by decide) ?_
      refine z_ic_ne (tgt := 64) (pc := 52) dX10_ofSales_52 (by decide) (fun _ => ?_) (fun _ => ?_)
      · refine z_iload_n (x := x1) (pc := 64) dX10_ofSales_64 rfl rfl ?_
        refine z_bipush (v := 6) (pc := 65) dX10_ofSales_65 (by decide) ?_
        refine z_ic_ne (tgt := 78) (pc := 67) dX10_ofSales_67 (by decide) (fun _ => ?_) (fun _ => ?_)
        · refine z_iload_n (x := x1) (pc := 78) dX10_ofSales_78 rfl rfl ?_
          refine z_bipush (v := 7) (pc := 79) dX10_ofSales_79 (by decide) ?_
          refine z_ic_ne (tgt := 93) (pc := 81) dX10_ofSales_81 (by decide) (fun _ => ?_) (fun _ => ?_)
          · refine z_iload_n (x := x1) (pc := 93) dX10_ofSales_93 rfl rfl ?_
            refine z_bipush (v := 8) (pc := 94) dX10_ofSales_94 (by decide) ?_
            refine z_ic_ne (tgt := 108) (pc := 96) dX10_ofSales_96 (by decide) (fun _ => ?_) (fun _ => ?_)
            · refine z_aload_n (x := a) (pc := 108) dX10_ofSales_108 rfl rfl ?_
              refine z_iload_n (x := v2) (pc := 109) dX10_ofSales_109 rfl rfl ?_
              refine z_dVI (As := [.int v2]) (rest := [.int v1]) hG.1 (m_X10_isStale hG h3 a v2) (fun _ e => z_gdb e) oX10_isStale (pc := 110) dX10_ofSales_110 rfl w_1489 rfl rfl rfl (fun t13 h14 => ?_)
              refine z_if_eq (tgt := 120) (pc := 113) dX10_ofSales_113 (by decide) (fun _ => ?_) (fun _ => ?_)
              · refine z_iconst (v := 0) (pc := 120) dX10_ofSales_120 (by decide) ?_
                exact z_wk (hj11 (0, h14)) (And.intro rfl (And.intro rfl (And.intro rfl trivial)))
              refine z_iconst (v := 1) (pc := 116) dX10_ofSales_116 (by decide) ?_
              refine z_goto (tgt := 121) (pc := 117) dX10_ofSales_117 (by decide) ?_
              exact z_wk (hj11 (1, h14)) (And.intro rfl (And.intro rfl (And.intro rfl trivial)))
            refine z_aload_n (x := a) (pc := 99) dX10_ofSales_99 rfl rfl ?_
            refine z_iload_n (x := v2) (pc := 100) dX10_ofSales_100 rfl rfl ?_
            refine z_iconst (v := 4) (pc := 101) dX10_ofSales_101 (by decide) ?_
            refine z_cVP (As := [.int v2, .int 4]) (rest := [.int v1]) hG.1 (m_X10_paysOf hG h3 a v2 4) (fun _ e => z_gdb e) oX10_paysOf (pc := 102) dX10_ofSales_102 rfl w_1481 rfl rfl rfl (fun t15 => ?_)
            refine z_goto (tgt := 121) (pc := 105) dX10_ofSales_105 (by decide) ?_
            exact z_wk (hj11 (t15, h3)) (And.intro rfl (And.intro rfl (And.intro rfl trivial)))
          refine z_aload_n (x := a) (pc := 84) dX10_ofSales_84 rfl rfl ?_
          refine z_iload_n (x := v2) (pc := 85) dX10_ofSales_85 rfl rfl ?_
          refine z_iconst (v := 3) (pc := 86) dX10_ofSales_86 (by decide) ?_
          refine z_cVP (As := [.int v2, .int 3]) (rest := [.int v1]) hG.1 (m_X10_paysOf hG h3 a v2 3) (fun _ e => z_gdb e) oX10_paysOf (pc := 87) dX10_ofSales_87 rfl w_1481 rfl rfl rfl (fun t16 => ?_)
          refine z_goto (tgt := 121) (pc := 90) dX10_ofSales_90 (by decide) ?_
          exact z_wk (hj11 (t16, h3)) (And.intro rfl (And.intro rfl (And.intro rfl trivial)))
        refine z_aload_n (x := a) (pc := 70) dX10_ofSales_70 rfl rfl ?_
        refine z_iload_n (x := v2) (pc := 71) dX10_ofSales_71 rfl rfl ?_
        refine z_cVP (As := [.int v2]) (rest := [.int v1]) hG.1 (m_X10_netPaysOf hG h3 a v2) (fun _ e => z_gdb e) oX10_netPaysOf (pc := 72) dX10_ofSales_72 rfl w_1485 rfl rfl rfl (fun t17 => ?_)
        refine z_goto (tgt := 121) (pc := 75) dX10_ofSales_75 (by decide) ?_
        exact z_wk (hj11 (t17, h3)) (And.intro rfl (And.intro rfl (And.intro rfl trivial)))
      refine z_aload_n (x := a) (pc := 55) dX10_ofSales_55 rfl rfl ?_
      refine z_iload_n (x := v2) (pc := 56) dX10_ofSales_56 rfl rfl ?_
      refine z_iconst (v := 2) (pc := 57) dX10_ofSales_57 (by decide) ?_
      refine z_cVP (As := [.int v2, .int 2]) (rest := [.int v1]) hG.1 (m_X10_paysOf hG h3 a v2 2) (fun _ e => z_gdb e) oX10_paysOf (pc := 58) dX10_ofSales_58 rfl w_1481 rfl rfl rfl (fun t18 => ?_)
      refine z_goto (tgt := 121) (pc := 61) dX10_ofSales_61 (by decide) ?_
      exact z_wk (hj11 (t18, h3)) (And.intro rfl (And.intro rfl (And.intro rfl trivial)))
    refine z_aload_n (x := a) (pc := 36) dX10_ofSales_36 rfl rfl ?_
    refine z_iload_n (x := v2) (pc := 37) dX10_ofSales_37 rfl rfl ?_
    refine z_aload_n (x := a) (pc := 38) dX10_ofSales_38 rfl rfl ?_
    refine z_iload_n (x := v2) (pc := 39) dX10_ofSales_39 rfl rfl ?_
    refine z_iconst (v := 1) (pc := 40) dX10_ofSales_40 (by decide) ?_
    refine z_cVP (As := [.int v2, .int 1]) (rest := [.int v2, .ref a, .int v1]) hG.1 (m_X10_ofSale hG h3 a v2 1) (fun _ e => z_gdb e) oX10_ofSale (pc := 41) dX10_ofSales_41 rfl w_1311 rfl rfl rfl (fun t19 => ?_)
    refine z_cVP (As := [.int v2, .int t19]) (rest := [.int v1]) hG.1 (m_X10_net hG h3 a v2 t19) (fun _ e => z_gdb e) oX10_net (pc := 44) dX10_ofSales_44 rfl w_1323 rfl rfl rfl (fun t20 => ?_)
    refine z_goto (tgt := 121) (pc := 47) dX10_ofSales_47 (by decide) ?_
    exact z_wk (hj11 (t20, h3)) (And.intro rfl (And.intro rfl (And.intro rfl trivial)))
  refine z_aload_n (x := a) (pc := 22) dX10_ofSales_22 rfl rfl ?_
  refine z_iload_n (x := v2) (pc := 23) dX10_ofSales_23 rfl rfl ?_
  refine z_iconst (v := 1) (pc := 24) dX10_ofSales_24 (by decide) ?_
  refine z_cVP (As := [.int v2, .int 1]) (rest := [.int v1]) hG.1 (m_X10_ofSale hG h3 a v2 1) (fun _ e => z_gdb e) oX10_ofSale (pc := 25) dX10_ofSales_25 rfl w_1311 rfl rfl rfl (fun t21 => ?_)
  refine z_goto (tgt := 121) (pc := 28) dX10_ofSales_28 (by decide) ?_
  exact z_wk (hj11 (t21, h3)) (And.intro rfl (And.intro rfl (And.intro rfl trivial)))
set_option maxHeartbeats 2000000 in
set_option maxRecDepth 20000 in
theorem m_X10_ofAll {G : Z_G} (hG : z_GG G) (h : Z_H) (a : Nat) (x1 : Int32) : z_Met G iX10_ofAll [.ref a, .int x1] h ((f_X10_ofAll h a x1).bind fun r => some (r, h)) := by
  refine z_in (la := [some (.ref a), some (.int x1), none, none, none, none]) (by decide) rfl rfl rfl ?_
  unfold f_X10_ofAll
  refine z_gg (fun _ => ?_)
  refine z_iconst (v := 0) (pc := 0) dX10_ofAll_0 (by decide) ?_
  refine z_istore_n (i := 2) (la' := [some (.ref a), some (.int x1), some (.int 0), none, none, none]) (pc := 1) dX10_ofAll_1 rfl (by decide) rfl rfl ?_
  refine z_iconst (v := 0) (pc := 2) dX10_ofAll_2 (by decide) ?_
  refine z_istore_n (i := 3) (la' := [some (.ref a), some (.int x1), some (.int 0), some (.int 0), none, none]) (pc := 3) dX10_ofAll_3 rfl (by decide) rfl rfl ?_
  refine z_lp (T := Int32) (s0 := (0, 0)) 4 (fun ((v1, v2) : Int32 × Int32) => [some (.ref a), some (.int x1), some (.int v1), some (.int v2), none, none]) (fun ((v1, v2) : Int32 × Int32) => h) (fun _ => 186) (fun (v3 : Int32) => [none, none, some (.int v3), none, none, none]) (fun (v3 : Int32) => h) ?_ ?_
  · rintro v3
    try dsimp only
    refine z_iload_n (x := v3) (pc := 186) dX10_ofAll_186 rfl rfl ?_
    exact z_ireturn (pc := 187) dX10_ofAll_187 rfl rfl rfl
  intro k' hx1 rec4 hrec4
  rintro ⟨v1, v2⟩
  unfold f_X10_ofAll_l1
  try dsimp only
  refine z_iload_n (x := v2) (pc := 4) dX10_ofAll_4 rfl rfl ?_
  refine z_aload_n (x := a) (pc := 5) dX10_ofAll_5 rfl rfl ?_
  refine z_getR cX10 (pc := 6) dX10_ofAll_6 (j := 1) (by decide) rfl w_1088 (fun r5 => ?_)
  refine z_sipush (v := 145) (pc := 9) dX10_ofAll_9 (by decide) ?_
  refine z_aldI (pc := 12) dX10_ofAll_12 (fun t6 => ?_)
  refine z_ic_ge (tgt := 186) (pc := 13) dX10_ofAll_13 (by decide) (fun _ => ?_) (fun _ => ?_)
  · exact z_wk (hx1 v1) (And.intro rfl trivial)
  refine z_aload_n (x := a) (pc := 16) dX10_ofAll_16 rfl rfl ?_
  refine z_iload_n (x := v2) (pc := 17) dX10_ofAll_17 rfl rfl ?_
  refine z_cVP (As := [.int v2]) (rest := []) hG.1 (m_X10_balanceOf hG h a v2) (fun _ e => z_gdb e) oX10_balanceOf (pc := 18) dX10_ofAll_18 rfl w_1416 rfl rfl rfl (fun t7 => ?_)
  refine z_istore (i := 4) (la' := [some (.ref a), some (.int x1), some (.int v1), some (.int v2), some (.int t7), none]) (pc := 21) dX10_ofAll_21 (by decide) rfl rfl ?_
  refine z_aload_n (x := a) (pc := 23) dX10_ofAll_23 rfl rfl ?_
  refine z_iload_n (x := v2) (pc := 24) dX10_ofAll_24 rfl rfl ?_
  refine z_cVP (As := [.int v2]) (rest := []) hG.1 (m_X10_hasQuit hG h a v2) (fun _ e => z_gdb e) oX10_hasQuit (pc := 25) dX10_ofAll_25 rfl w_1259 rfl rfl rfl (fun t8 => ?_)
  refine z_istore (i := 5) (la' := [some (.ref a), some (.int x1), some (.int v1), some (.int v2), some (.int t7), some (.int t8)]) (pc := 28) dX10_ofAll_28 (by decide) rfl rfl ?_
  refine z_iload_n (x := x1) (pc := 30) dX10_ofAll_30 rfl rfl ?_
  refine z_jn 180 (fun (v9 : Int32) => [some (.ref a), some (.int x1), some (.int v9), some (.int v2), none, none]) (fun (v9 : Int32) => []) (fun (v9 : Int32) => h) ?_ ?_
  · rintro v9
    try dsimp only
    refine z_iinc (i := 3) (x := v2) (v := (v2 + 1)) (la' := [some (.ref a), some (.int x1), some (.int v9), some (.int (v2 + 1)), none, none]) (pc := 180) dX10_ofAll_180 rfl rfl (by decide) rfl rfl ?_
    refine z_goto (tgt := 4) (pc := 183) dX10_ofAll_183 (by decide) ?_
    exact hrec4 (v9, (v2 + 1))
  intro j10 hj10
  refine z_bz (fun hs0 => ?_) (fun hs0 => ?_)
  · refine z_tsw (tgt := 68) (off := 37) (pc := 31) dX10_ofAll_31 (by rw [hs0]; decide) (by rw [hs0]; decide) (by rw [hs0]; rfl) (by decide) ?_
    refine z_iload_n (x := v1) (pc := 68) dX10_ofAll_68 rfl rfl ?_
    refine z_aload_n (x := a) (pc := 69) dX10_ofAll_69 rfl rfl ?_
    refine z_iload_n (x := v2) (pc := 70) dX10_ofAll_70 rfl rfl ?_
    refine z_aload_n (x := a) (pc := 71) dX10_ofAll_71 rfl rfl ?_
    refine z_cVP (As := []) (rest := [.int v2, .ref a, .int v1]) hG.1 (m_X10_now hG h a) (fun _ e => z_gdb e) oX10_now (pc := 72) dX10_ofAll_72 rfl w_1247 rfl rfl rfl (fun t11 => ?_)
    refine z_iconst (v := (-1)) (pc := 75) dX10_ofAll_75 (by decide) ?_
    refine z_cVP (As := [.int v2, .int t11, .int (-1)]) (rest := [.int v1]) hG.1 (m_X10_earnedAt hG h a v2 t11 (-1)) (fun _ e => z_gdb e) oX10_earnedAt (pc := 76) dX10_ofAll_76 rfl w_1420 rfl rfl rfl (fun t12 => ?_)
    refine z_iadd (pc := 79) dX10_ofAll_79 ?_
    refine z_nm (fun v13 => ?_)
    refine z_istore_n (i := 2) (la' := [some (.ref a), some (.int x1), some (.int v13), some (.int v2), some (.int t7), some (.int t8)]) (pc := 80) dX10_ofAll_80 rfl (by decide) rfl rfl ?_
    refine z_goto (tgt := 180) (pc := 81) dX10_ofAll_81 (by decide) ?_
    exact z_wk (hj10 v13) (And.intro rfl (And.intro rfl (And.intro rfl (And.intro rfl trivial))))
  refine z_bz (fun hs1 => ?_) (fun hs1 => ?_)
  · refine z_tsw (tgt := 84) (off := 53) (pc := 31) dX10_ofAll_31 (by rw [hs1]; decide) (by rw [hs1]; decide) (by rw [hs1]; rfl) (by decide) ?_
    refine z_iload_n (x := v1) (pc := 84) dX10_ofAll_84 rfl rfl ?_
    refine z_iload (x := t8) (pc := 85) dX10_ofAll_85 rfl ?_
    refine z_jn 99 (fun (y14 : Int32) => [some (.ref a), some (.int x1), none, some (.int v2), none, none]) (fun (y14 : Int32) => [.int y14, .int v1]) (fun (y14 : Int32) => h) ?_ ?_
    · rintro y14
      try dsimp only
      refine z_iadd (pc := 99) dX10_ofAll_99 ?_
      refine z_nm (fun v16 => ?_)
      refine z_istore_n (i := 2) (la' := [some (.ref a), some (.int x1), some (.int v16), some (.int v2), none, none]) (pc := 100) dX10_ofAll_100 rfl (by decide) rfl rfl ?_
      refine z_goto (tgt := 180) (pc := 101) dX10_ofAll_101 (by decide) ?_
      exact hj10 v16
    intro j15 hj15
    refine z_if_eq (tgt := 94) (pc := 87) dX10_ofAll_87 (by decide) (fun _ => ?_) (fun _ => ?_)
    · refine z_aload_n (x := a) (pc := 94) dX10_ofAll_94 rfl rfl ?_
      refine z_iload_n (x := v2) (pc := 95) dX10_ofAll_95 rfl rfl ?_
      refine z_cVP (As := [.int v2]) (rest := [.int v1]) hG.1 (m_X10_notVested hG h a v2) (fun _ e => z_gdb e) oX10_notVested (pc := 96) dX10_ofAll_96 rfl w_1307 rfl rfl rfl (fun t17 => ?_)
      exact z_wk (hj15 t17) (And.intro rfl (And.intro rfl (And.intro rfl trivial)))
    refine z_iconst (v := 0) (pc := 90) dX10_ofAll_90 (by decide) ?_
    refine z_goto (tgt := 99) (pc := 91) dX10_ofAll_91 (by decide) ?_
    exact z_wk (hj15 0) (And.intro rfl (And.intro rfl (And.intro rfl trivial)))
  refine z_bz (fun hs2 => ?_) (fun hs2 => ?_)
  · refine z_tsw (tgt := 104) (off := 73) (pc := 31) dX10_ofAll_31 (by rw [hs2]; decide) (by rw [hs2]; decide) (by rw [hs2]; rfl) (by decide) ?_
    refine z_iload_n (x := v1) (pc := 104) dX10_ofAll_104 rfl rfl ?_
    refine z_iload (x := t8) (pc := 105) dX10_ofAll_105 rfl ?_
    refine z_jn 119 (fun (y18 : Int32) => [some (.ref a), some (.int x1), none, some (.int v2), none, none]) (fun (y18 : Int32) => [.int y18, .int v1]) (fun (y18 : Int32) => h) ?_ ?_
    · rintro y18
      try dsimp only
      refine z_iadd (pc := 119) dX10_ofAll_119 ?_
      refine z_nm (fun v20 => ?_)
      refine z_istore_n (i := 2) (la' := [some (.ref a), some (.int x1), some (.int v20), some (.int v2), none, none]) (pc := 120) dX10_ofAll_120 rfl (by decide) rfl rfl ?_
      refine z_goto (tgt := 180) (pc := 121) dX10_ofAll_121 (by decide) ?_
      exact hj10 v20
    intro j19 hj19
    refine z_if_eq (tgt := 118) (pc := 107) dX10_ofAll_107 (by decide) (fun _ => ?_) (fun _ => ?_)
    · refine z_iconst (v := 0) (pc := 118) dX10_ofAll_118 (by decide) ?_
      exact z_wk (hj19 0) (And.intro rfl (And.intro rfl (And.intro rfl trivial)))
    refine z_aload_n (x := a) (pc := 110) dX10_ofAll_110 rfl rfl ?_
    refine z_iload_n (x := v2) (pc := 111) dX10_ofAll_111 rfl rfl ?_
    refine z_cVP (As := [.int v2]) (rest := [.int v1]) hG.1 (m_X10_notVested hG h a v2) (fun _ e => z_gdb e) oX10_notVested (pc := 112) dX10_ofAll_112 rfl w_1307 rfl rfl rfl (fun t21 => ?_)
    refine z_goto (tgt := 119) (pc := 115) dX10_ofAll_115 (by decide) ?_
    exact z_wk (hj19 t21) (And.intro rfl (And.intro rfl (And.intro rfl trivial)))
  refine z_bz (fun hs3 => ?_) (fun hs3 => ?_)
  · refine z_tsw (tgt := 124) (off := 93) (pc := 31) dX10_ofAll_31 (by rw [hs3]; decide) (by rw [hs3]; decide) (by rw [hs3]; rfl) (by decide) ?_
    refine z_iload_n (x := v1) (pc := 124) dX10_ofAll_124 rfl rfl ?_
    refine z_aload_n (x := a) (pc := 125) dX10_ofAll_125 rfl rfl ?_
    refine z_iload_n (x := v2) (pc := 126) dX10_ofAll_126 rfl rfl ?_
    refine z_iconst (v := 3) (pc := 127) dX10_ofAll_127 (by decide) ?_
    refine z_cVP (As := [.int v2, .int 3]) (rest := [.int v1]) hG.1 (m_X10_ofSeller hG h a v2 3) (fun _ e => z_gdb e) oX10_ofSeller (pc := 128) dX10_ofAll_128 rfl w_1263 rfl rfl rfl (fun t22 => ?_)
    refine z_iadd (pc := 131) dX10_ofAll_131 ?_
    refine z_nm (fun v23 => ?_)
    refine z_istore_n (i := 2) (la' := [some (.ref a), some (.int x1), some (.int v23), some (.int v2), some (.int t7), some (.int t8)]) (pc := 132) dX10_ofAll_132 rfl (by decide) rfl rfl ?_
    refine z_goto (tgt := 180) (pc := 133) dX10_ofAll_133 (by decide) ?_
    exact z_wk (hj10 v23) (And.intro rfl (And.intro rfl (And.intro rfl (And.intro rfl trivial))))
  refine z_bz (fun hs4 => ?_) (fun hs4 => ?_)
  · refine z_tsw (tgt := 136) (off := 105) (pc := 31) dX10_ofAll_31 (by rw [hs4]; decide) (by rw [hs4]; decide) (by rw [hs4]; rfl) (by decide) ?_
    refine z_iload_n (x := v1) (pc := 136) dX10_ofAll_136 rfl rfl ?_
    refine z_iconst (v := 0) (pc := 137) dX10_ofAll_137 (by decide) ?_
    refine z_iload (x := t7) (pc := 138) dX10_ofAll_138 rfl ?_
    refine z_ineg (pc := 140) dX10_ofAll_140 ?_
    refine z_cSP (As := [.int 0, .int (-t7)]) (rest := [.int v1]) hG.1 (m_X10_greater hG h 0 (-t7)) oX10_greater (pc := 141) dX10_ofAll_141 rfl w_1331 rfl rfl rfl (fun t24 => ?_)
    refine z_iadd (pc := 144) dX10_ofAll_144 ?_
    refine z_nm (fun v25 => ?_)
    refine z_istore_n (i := 2) (la' := [some (.ref a), some (.int x1), some (.int v25), some (.int v2), some (.int t7), some (.int t8)]) (pc := 145) dX10_ofAll_145 rfl (by decide) rfl rfl ?_
    refine z_goto (tgt := 180) (pc := 146) dX10_ofAll_146 (by decide) ?_
    exact z_wk (hj10 v25) (And.intro rfl (And.intro rfl (And.intro rfl (And.intro rfl trivial))))
  refine z_bz (fun hs5 => ?_) (fun hs5 => ?_)
  · refine z_tsw (tgt := 149) (off := 118) (pc := 31) dX10_ofAll_31 (by rw [hs5]; decide) (by rw [hs5]; decide) (by rw [hs5]; rfl) (by decide) ?_
    refine z_iload_n (x := v1) (pc := 149) dX10_ofAll_149 rfl rfl ?_
    refine z_iload (x := t7) (pc := 150) dX10_ofAll_150 rfl ?_
    refine z_jn 160 (fun (y26 : Int32) => [some (.ref a), some (.int x1), none, some (.int v2), none, none]) (fun (y26 : Int32) => [.int y26, .int v1]) (fun (y26 : Int32) => h) ?_ ?_
    · rintro y26
      try dsimp only
      refine z_iadd (pc := 160) dX10_ofAll_160 ?_
      refine z_nm (fun v28 => ?_)
      refine z_istore_n (i := 2) (la' := [some (.ref a), some (.int x1), some (.int v28), some (.int v2), none, none]) (pc := 161) dX10_ofAll_161 rfl (by decide) rfl rfl ?_
      refine z_goto (tgt := 180) (pc := 162) dX10_ofAll_162 (by decide) ?_
      exact hj10 v28
    intro j27 hj27
    refine z_if_ge (tgt := 159) (pc := 152) dX10_ofAll_152 (by decide) (fun _ => ?_) (fun _ => ?_)
    · refine z_iconst (v := 0) (pc := 159) dX10_ofAll_159 (by decide) ?_
      exact z_wk (hj27 0) (And.intro rfl (And.intro rfl (And.intro rfl trivial)))
    refine z_iconst (v := 1) (pc := 155) dX10_ofAll_155 (by decide) ?_
    refine z_goto (tgt := 160) (pc := 156) dX10_ofAll_156 (by decide) ?_
    exact z_wk (hj27 1) (And.intro rfl (And.intro rfl (And.intro rfl trivial)))
  refine z_tswO (tgt := 165) (pc := 31) dX10_ofAll_31 (z_out (fun v h1 h2 => by
    have hv : v = 9 ∨ v = 10 ∨ v = 11 ∨ v = 12 ∨ v = 13 ∨ v = 14 := by omega
    rcases hv with rfl | rfl | rfl | rfl | rfl | rfl
    · exact hs0
    · exact hs1
    · exact hs2
    · exact hs3
    · exact hs4
    · exact hs5)) (by decide) ?_
  refine z_iload_n (x := v1) (pc := 165) dX10_ofAll_165 rfl rfl ?_
  refine z_iload (x := t8) (pc := 166) dX10_ofAll_166 rfl ?_
  refine z_jn 178 (fun (y29 : Int32) => [some (.ref a), some (.int x1), none, some (.int v2), none, none]) (fun (y29 : Int32) => [.int y29, .int v1]) (fun (y29 : Int32) => h) ?_ ?_
  · rintro y29
    try dsimp only
    refine z_ior (pc := 178) dX10_ofAll_178 ?_
    refine z_nm (fun v31 => ?_)
    refine z_istore_n (i := 2) (la' := [some (.ref a), some (.int x1), some (.int v31), some (.int v2), none, none]) (pc := 179) dX10_ofAll_179 rfl (by decide) rfl rfl ?_
    exact hj10 v31
  intro j30 hj30
  refine z_if_eq (tgt := 177) (pc := 168) dX10_ofAll_168 (by decide) (fun _ => ?_) (fun _ => ?_)
  · refine z_iconst (v := 0) (pc := 177) dX10_ofAll_177 (by decide) ?_
    exact z_wk (hj30 0) (And.intro rfl (And.intro rfl (And.intro rfl trivial)))
  refine z_iconst (v := 1) (pc := 171) dX10_ofAll_171 (by decide) ?_
  refine z_iload_n (x := v2) (pc := 172) dX10_ofAll_172 rfl rfl ?_
  refine z_ishl (pc := 173) dX10_ofAll_173 ?_
  refine z_goto (tgt := 178) (pc := 174) dX10_ofAll_174 (by decide) ?_
  exact z_wk (hj30 ((1 : Int32) <<< (v2 &&& 31))) (And.intro rfl (And.intro rfl (And.intro rfl trivial)))
set_option maxHeartbeats 2000000 in
set_option maxRecDepth 20000 in
theorem m_X10_activeNow {G : Z_G} (hG : z_GG G) (h : Z_H) (a : Nat) : z_Met G iX10_activeNow [.ref a] h ((f_X10_activeNow h a).bind fun r => some (r, h)) := by
  refine z_in (la := [some (.ref a), none, none]) (by decide) rfl rfl rfl ?_
  unfold f_X10_activeNow
  refine z_gg (fun _ => ?_)
  refine z_iconst (v := 0) (pc := 0) dX10_activeNow_0 (by decide) ?_
  refine z_istore_n (i := 1) (la' := [some (.ref a), some (.int 0), none]) (pc := 1) dX10_activeNow_1 rfl (by decide) rfl rfl ?_
  refine z_iconst (v := 0) (pc := 2) dX10_activeNow_2 (by decide) ?_
  refine z_istore_n (i := 2) (la' := [some (.ref a), some (.int 0), some (.int 0)]) (pc := 3) dX10_activeNow_3 rfl (by decide) rfl rfl ?_
  refine z_lp (T := Int32) (s0 := (0, 0)) 4 (fun ((v1, v2) : Int32 × Int32) => [some (.ref a), some (.int v1), some (.int v2)]) (fun ((v1, v2) : Int32 × Int32) => h) (fun _ => 40) (fun (v3 : Int32) => [none, some (.int v3), none]) (fun (v3 : Int32) => h) ?_ ?_
  · rintro v3
    try dsimp only
    refine z_iload_n (x := v3) (pc := 40) dX10_activeNow_40 rfl rfl ?_
    exact z_ireturn (pc := 41) dX10_activeNow_41 rfl rfl rfl
  intro k' hx1 rec4 hrec4
  rintro ⟨v1, v2⟩
  unfold f_X10_activeNow_l1
  try dsimp only
  refine z_iload_n (x := v2) (pc := 4) dX10_activeNow_4 rfl rfl ?_
  refine z_aload_n (x := a) (pc := 5) dX10_activeNow_5 rfl rfl ?_
  refine z_getI cX10 (pc := 6) dX10_activeNow_6 (j := 19) (by decide) rfl w_1106 (fun t5 => ?_)
  refine z_ic_ge (tgt := 40) (pc := 9) dX10_activeNow_9 (by decide) (fun _ => ?_) (fun _ => ?_)
  · exact z_wk (hx1 v1) (And.intro rfl trivial)
  refine z_iload_n (x := v1) (pc := 12) dX10_activeNow_12 rfl rfl ?_
  refine z_aload_n (x := a) (pc := 13) dX10_activeNow_13 rfl rfl ?_
  refine z_iload_n (x := v2) (pc := 14) dX10_activeNow_14 rfl rfl ?_
  refine z_aload_n (x := a) (pc := 15) dX10_activeNow_15 rfl rfl ?_
  refine z_cVP (As := []) (rest := [.int v2, .ref a, .int v1]) hG.1 (m_X10_now hG h a) (fun _ e => z_gdb e) oX10_now (pc := 16) dX10_activeNow_16 rfl w_1247 rfl rfl rfl (fun t6 => ?_)
  refine z_cVP (As := [.int v2, .int t6]) (rest := [.int v1]) hG.1 (m_X10_isActive hG h a v2 t6) (fun _ e => z_gdb e) oX10_isActive (pc := 19) dX10_activeNow_19 rfl w_1354 rfl rfl rfl (fun t7 => ?_)
  refine z_jn 32 (fun (y8 : Int32) => [some (.ref a), none, some (.int v2)]) (fun (y8 : Int32) => [.int y8, .int v1]) (fun (y8 : Int32) => h) ?_ ?_
  · rintro y8
    try dsimp only
    refine z_ior (pc := 32) dX10_activeNow_32 ?_
    refine z_nm (fun v10 => ?_)
    refine z_istore_n (i := 1) (la' := [some (.ref a), some (.int v10), some (.int v2)]) (pc := 33) dX10_activeNow_33 rfl (by decide) rfl rfl ?_
    refine z_iinc (i := 2) (x := v2) (v := (v2 + 1)) (la' := [some (.ref a), some (.int v10), some (.int (v2 + 1))]) (pc := 34) dX10_activeNow_34 rfl rfl (by decide) rfl rfl ?_
    refine z_goto (tgt := 4) (pc := 37) dX10_activeNow_37 (by decide) ?_
    exact hrec4 (v10, (v2 + 1))
  intro j9 hj9
  refine z_if_eq (tgt := 31) (pc := 22) dX10_activeNow_22 (by decide) (fun _ => ?_) (fun _ => ?_)
  · refine z_iconst (v := 0) (pc := 31) dX10_activeNow_31 (by decide) ?_
    exact z_wk (hj9 0) (And.intro rfl (And.intro rfl trivial))
  refine z_iconst (v := 1) (pc := 25) dX10_activeNow_25 (by decide) ?_
  refine z_iload_n (x := v2) (pc := 26) dX10_activeNow_26 rfl rfl ?_
  refine z_ishl (pc := 27) dX10_activeNow_27 ?_
  refine z_goto (tgt := 32) (pc := 28) dX10_activeNow_28 (by decide) ?_
  exact z_wk (hj9 ((1 : Int32) <<< (v2 &&& 31))) (And.intro rfl (And.intro rfl trivial))
set_option maxHeartbeats 2000000 in
set_option maxRecDepth 20000 in
theorem m_X10_greatest {G : Z_G} (hG : z_GG G) (h : Z_H) (a : Nat) (x1 : Int32) : z_Met G iX10_greatest [.ref a, .int x1] h ((f_X10_greatest h a x1).bind fun r => some (r, h)) := by
  refine z_in (la := [some (.ref a), some (.int x1), none, none]) (by decide) rfl rfl rfl ?_
  unfold f_X10_greatest
  refine z_gg (fun _ => ?_)
  refine z_iconst (v := 0) (pc := 0) dX10_greatest_0 (by decide) ?_
  refine z_istore_n (i := 2) (la' := [some (.ref a), some (.int x1), some (.int 0), none]) (pc := 1) dX10_greatest_1 rfl (by decide) rfl rfl ?_
  refine z_iconst (v := 1) (pc := 2) dX10_greatest_2 (by decide) ?_
  refine z_istore_n (i := 3) (la' := [some (.ref a), some (.int x1), some (.int 0), some (.int 1)]) (pc := 3) dX10_greatest_3 rfl (by decide) rfl rfl ?_
  refine z_lp (T := Int32) (s0 := (0, 1)) 4 (fun ((v1, v2) : Int32 × Int32) => [some (.ref a), some (.int x1), some (.int v1), some (.int v2)]) (fun ((v1, v2) : Int32 × Int32) => h) (fun _ => 37) (fun (v3 : Int32) => [some (.ref a), some (.int x1), some (.int v3), none]) (fun (v3 : Int32) => h) ?_ ?_
  · rintro v3
    try dsimp only
    refine z_iload_n (x := x1) (pc := 37) dX10_greatest_37 rfl rfl ?_
    refine z_if_eq (tgt := 45) (pc := 38) dX10_greatest_38 (by decide) (fun _ => ?_) (fun _ => ?_)
    · refine z_aload_n (x := a) (pc := 45) dX10_greatest_45 rfl rfl ?_
      refine z_iload_n (x := v3) (pc := 46) dX10_greatest_46 rfl rfl ?_
      refine z_cVP (As := [.int v3]) (rest := []) hG.1 (m_X10_rankOf hG h a v3) (fun _ e => z_gdb e) oX10_rankOf (pc := 47) dX10_greatest_47 rfl w_1362 rfl rfl rfl (fun t10 => ?_)
      exact z_ireturn (pc := 50) dX10_greatest_50 rfl rfl rfl
    refine z_iload_n (x := v3) (pc := 41) dX10_greatest_41 rfl rfl ?_
    refine z_goto (tgt := 50) (pc := 42) dX10_greatest_42 (by decide) ?_
    exact z_ireturn (pc := 50) dX10_greatest_50 rfl rfl rfl
  intro k' hx1 rec4 hrec4
  rintro ⟨v1, v2⟩
  unfold f_X10_greatest_l1
  try dsimp only
  refine z_iload_n (x := v2) (pc := 4) dX10_greatest_4 rfl rfl ?_
  refine z_aload_n (x := a) (pc := 5) dX10_greatest_5 rfl rfl ?_
  refine z_getI cX10 (pc := 6) dX10_greatest_6 (j := 19) (by decide) rfl w_1106 (fun t5 => ?_)
  refine z_ic_ge (tgt := 37) (pc := 9) dX10_greatest_9 (by decide) (fun _ => ?_) (fun _ => ?_)
  · exact z_wk (hx1 v1) (And.intro rfl (And.intro rfl (And.intro rfl trivial)))
  refine z_aload_n (x := a) (pc := 12) dX10_greatest_12 rfl rfl ?_
  refine z_iload_n (x := v2) (pc := 13) dX10_greatest_13 rfl rfl ?_
  refine z_cVP (As := [.int v2]) (rest := []) hG.1 (m_X10_rankOf hG h a v2) (fun _ e => z_gdb e) oX10_rankOf (pc := 14) dX10_greatest_14 rfl w_1362 rfl rfl rfl (fun t6 => ?_)
  refine z_aload_n (x := a) (pc := 17) dX10_greatest_17 rfl rfl ?_
  refine z_iload_n (x := v1) (pc := 18) dX10_greatest_18 rfl rfl ?_
  refine z_cVP (As := [.int v1]) (rest := [.int t6]) hG.1 (m_X10_rankOf hG h a v1) (fun _ e => z_gdb e) oX10_rankOf (pc := 19) dX10_greatest_19 rfl w_1362 rfl rfl rfl (fun t7 => ?_)
  refine z_jn 30 (fun (y8 : Int32) => [some (.ref a), some (.int x1), none, some (.int v2)]) (fun (y8 : Int32) => [.int y8]) (fun (y8 : Int32) => h) ?_ ?_
  · rintro y8
    try dsimp only
    refine z_istore_n (i := 2) (la' := [some (.ref a), some (.int x1), some (.int y8), some (.int v2)]) (pc := 30) dX10_greatest_30 rfl (by decide) rfl rfl ?_
    refine z_iinc (i := 3) (x := v2) (v := (v2 + 1)) (la' := [some (.ref a), some (.int x1), some (.int y8), some (.int (v2 + 1))]) (pc := 31) dX10_greatest_31 rfl rfl (by decide) rfl rfl ?_
    refine z_goto (tgt := 4) (pc := 34) dX10_greatest_34 (by decide) ?_
    exact hrec4 (y8, (v2 + 1))
  intro j9 hj9
  refine z_ic_le (tgt := 29) (pc := 22) dX10_greatest_22 (by decide) (fun _ => ?_) (fun _ => ?_)
  · refine z_iload_n (x := v1) (pc := 29) dX10_greatest_29 rfl rfl ?_
    exact z_wk (hj9 v1) (And.intro rfl (And.intro rfl (And.intro rfl trivial)))
  refine z_iload_n (x := v2) (pc := 25) dX10_greatest_25 rfl rfl ?_
  refine z_goto (tgt := 30) (pc := 26) dX10_greatest_26 (by decide) ?_
  exact z_wk (hj9 v2) (And.intro rfl (And.intro rfl (And.intro rfl trivial)))
