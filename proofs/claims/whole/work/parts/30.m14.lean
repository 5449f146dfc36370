theorem nI_p1 (l : Nat) : nI (l + 1) - 1 = nI l := by
  rw [n_1, nI_sub (by omega)]
  congr 1
theorem op_pay {h : Z_H} (I : Inv h) {x y z : Int32} : ∃ r h2, f_X9_pay h 0 x y z = some r ∧ f_X10_pay h 61 x y z = some (r, h2) ∧ Inv h2 := by
  have H := I.1
  have H1 := I.m.1
  have C := I.ca
  have hv := I.v
  obtain ⟨en, h99⟩ := C.now
  have h10 := hv.1.2.1
  have h40 := hv.2.2.1.1
  have hR := C.2.2.2.2.2.2.1
  have hS := C.2.2.2.1
  have e144 : z_i h 62 144 = nI (nwN (z_i h 62)) := hv.1.2.2.2.2
  have hs1 := I.m.v.2.2.1
  rcases nI_or (x := x) (n := nk (z_i h 62)) (by omega) with ⟨i, hi, rfl⟩ | ⟨hns, hx⟩
  · obtain ⟨-, -, -, q5, eq5, hwh, -⟩ := hv.2.2.1.2.2 i hi
    have t27 : z_i h 27 i = nI (nq (z_i h 62) i) := ((c_sale hR hi).2.2.2.2.2).trans eq5
    have o5 := e_oa5 (s := i) H1 (by omega)
    rw [m62, eq5] at o5
    rcases nI_or (x := y) (n := nq (z_i h 62) i + 1) (by omega) with ⟨p, hp, rfl⟩ | ⟨hns, hy⟩
    · cases p with
      | zero =>
        refine ⟨-2, z_si h 61 0 0, ?_, ?_, I.m⟩
        · unfold f_X9_pay
          simp (disch := first | assumption | omega) only [gd, lt, jn, bd2, Option.bind_some, LY_si, LY_sl, LY_row, decide_true, decide_false, if_true, ite_true, ite_false, decide_eq_true_eq, yg0, yg1, yg2, yg4, yg13, yg21, yg29, yg35, yg36, yg45, yg50, yg59, yI0, yI1, yI2, yI4, yI13, yI21, yI29, yI35, yI36, yI45, yI50, yI59, yP0, yP1, yP2, yP4, yP13, yP21, yP29, yP35, yP36, yP45, yP50, yP59, yR0_0, yR0_1, yR0_2, yR0_3, yR0_4, yR1_0, yR1_1, yR1_2, yR1_3, yR1_4, yR1_5, yR2_0, yR4_4, yR4_5, yR4_6, yR4_7, yR4_8, yR4_9, yR4_10, yR4_11, yR13_1, yR13_2, yR13_3, yR13_4, yR13_5, yR13_6, yR13_7, yR21_1, yR21_2, yR21_3, yR21_4, yR21_5, yR21_6, yR21_7, yR29_0, yR29_1, yR29_2, yR35_0, yR35_1, yR35_2, yR35_3, yR35_4, yR36_4, yR36_5, yR36_6, yR36_7, yR36_8, yR36_9, yR36_10, yR36_11, yR45_0, yR50_0, yR50_1, yR50_2, yR50_3, yR50_4, yR50_5, yR50_6, yR50_7, yR59_1, yA3, yA5, yA6, yA7, yA8, yA9, yA10, yA11, yA12, yA14, yA15, yA16, yA17, yA18, yA19, yA20, yA22, yA23, yA24, yA25, yA26, yA27, yA28, yA30, yA31, yA32, yA33, yA37, yA38, yA39, yA40, yA41, yA42, yA43, yA44, yA46, yA47, yA48, yA49, yA51, yA52, yA53, yA54, yA55, yA56, yA57, yA58, yA60, yS3, yS5, yS6, yS7, yS8, yS9, yS10, yS11, yS12, yS14, yS15, yS16, yS17, yS18, yS19, yS20, yS22, yS23, yS24, yS25, yS26, yS27, yS28, yS30, yS31, yS32, yS33, yS37, yS38, yS39, yS40, yS41, yS42, yS43, yS44, yS46, yS47, yS48, yS49, yS51, yS52, yS53, yS54, yS55, yS56, yS57, yS58, yS60, c_hasS_t C hi]
          rw [if_neg (by decide), if_pos (by decide)]
        · unfold f_X10_pay
          simp (disch := first | assumption | omega) only [gd, lt, jn, bd2, Option.bind_some, LY_si, LY_sl, LY_row, decide_true, decide_false, if_true, ite_true, ite_false, decide_eq_true_eq, yg61, yI61, yP61, yR61_1, yR61_2, yR61_12, yR61_13, yR61_17, yR61_18, yR61_21, yR61_22, yR61_23, yR61_25, yA62, yA63, yA64, yA65, yA66, yA67, yA68, yA69, yA70, yA71, yS62, yS63, yS64, yS65, yS66, yS67, yS68, yS69, yS70, yS71, e_isK_t H1 hs1 hi, o5, e_in_f (show ¬ ((1 : Int32) ≤ nI 0 ∧ nI 0 ≤ nI (nq (z_i h 62) i)) from fun q => absurd q.1 (by decide))]
          rw [if_neg (by decide)]
      | succ l =>
        have hl : l < nq (z_i h 62) i := by omega
        have i1 : f_X10_in (z_si h 61 0 0) (nI (l + 1)) 1 (nI (nq (z_i h 62) i)) = some 1 := e_in_t (nI_le (a := 1) (by omega) (by omega)) (nI_le (by omega) (by omega))
        have c1 : ¬ nI (l + 1) < (1 : Int32) := nI_nlt (b := 1) (by omega) (by omega)
        have c2 : nI (l + 1) ≤ nI (nq (z_i h 62) i) := nI_le (by omega) (by omega)
        rcases nI_or (x := z) (n := 7) (by omega) with ⟨f, hf, rfl⟩ | ⟨hnz, hz⟩
        · refine ⟨z_i h 62 (1087 + 41 * i + (6 + 7 * l + f)), z_si h 61 0 0, ?_, ?_, I.m⟩
          · unfold f_X9_pay
            simp (disch := first | assumption | omega) only [gd, lt, jn, bd2, Option.bind_some, LY_si, LY_sl, LY_row, decide_true, decide_false, if_true, ite_true, ite_false, decide_eq_true_eq, yg0, yg1, yg2, yg4, yg13, yg21, yg29, yg35, yg36, yg45, yg50, yg59, yI0, yI1, yI2, yI4, yI13, yI21, yI29, yI35, yI36, yI45, yI50, yI59, yP0, yP1, yP2, yP4, yP13, yP21, yP29, yP35, yP36, yP45, yP50, yP59, yR0_0, yR0_1, yR0_2, yR0_3, yR0_4, yR1_0, yR1_1, yR1_2, yR1_3, yR1_4, yR1_5, yR2_0, yR4_4, yR4_5, yR4_6, yR4_7, yR4_8, yR4_9, yR4_10, yR4_11, yR13_1, yR13_2, yR13_3, yR13_4, yR13_5, yR13_6, yR13_7, yR21_1, yR21_2, yR21_3, yR21_4, yR21_5, yR21_6, yR21_7, yR29_0, yR29_1, yR29_2, yR35_0, yR35_1, yR35_2, yR35_3, yR35_4, yR36_4, yR36_5, yR36_6, yR36_7, yR36_8, yR36_9, yR36_10, yR36_11, yR45_0, yR50_0, yR50_1, yR50_2, yR50_3, yR50_4, yR50_5, yR50_6, yR50_7, yR59_1, yA3, yA5, yA6, yA7, yA8, yA9, yA10, yA11, yA12, yA14, yA15, yA16, yA17, yA18, yA19, yA20, yA22, yA23, yA24, yA25, yA26, yA27, yA28, yA30, yA31, yA32, yA33, yA37, yA38, yA39, yA40, yA41, yA42, yA43, yA44, yA46, yA47, yA48, yA49, yA51, yA52, yA53, yA54, yA55, yA56, yA57, yA58, yA60, yS3, yS5, yS6, yS7, yS8, yS9, yS10, yS11, yS12, yS14, yS15, yS16, yS17, yS18, yS19, yS20, yS22, yS23, yS24, yS25, yS26, yS27, yS28, yS30, yS31, yS32, yS33, yS37, yS38, yS39, yS40, yS41, yS42, yS43, yS44, yS46, yS47, yS48, yS49, yS51, yS52, yS53, yS54, yS55, yS56, yS57, yS58, yS60, c_hasS_t C hi, t27, c_factA H hR hS hi hl hf]
            rw [if_neg (by decide), if_neg c1, if_pos c2, if_neg (nI_pos (by omega)), if_neg (show ¬ (7 : Int32) ≤ nI f from nI_ge (a := f) (b := 7) hf (by omega))]
          · unfold f_X10_pay
            have ol := e_ofLevel (s := i) (l := l) (w := f) H1 (by omega)
            rw [m62] at ol
            simp (disch := first | assumption | omega) only [gd, lt, jn, bd2, Option.bind_some, LY_si, LY_sl, LY_row, decide_true, decide_false, if_true, ite_true, ite_false, decide_eq_true_eq, yg61, yI61, yP61, yR61_1, yR61_2, yR61_12, yR61_13, yR61_17, yR61_18, yR61_21, yR61_22, yR61_23, yR61_25, yA62, yA63, yA64, yA65, yA66, yA67, yA68, yA69, yA70, yA71, yS62, yS63, yS64, yS65, yS66, yS67, yS68, yS69, yS70, yS71, e_isK_t H1 hs1 hi, o5, i1, nI_p1, e_in_t (show (0 : Int32) ≤ nI f from nI_pos' (by omega)) (show nI f ≤ (6 : Int32) from nI_le (b := 6) (by omega) (by omega)), ol]
            rw [if_neg (by decide), if_neg (by decide), if_neg (by decide)]
        · have i2 : f_X10_in (z_si h 61 0 0) z 0 6 = some 0 := e_in_f (in_f (n := 7) (by omega) hz)
          have np := e_netPay (k := i) (n := l) H1 (by omega) (by omega)
          rw [m62] at np
          obtain ⟨w, hw, ew⟩ := hwh l hl
          have ve := e_vestedAt (k := i) (n := l) (w := w) (m := nI (nwN (z_i h 62))) H1 (by omega) (by omega) (by omega) (by rw [m62]; exact ew)
          rw [m62] at ve
          have hq : qOK (z_i h 62) (nI (nwN (z_i h 62))) := qOK_now hv.1 hv.2.1 (Nat.le_refl _) (by omega)
          have j6 : ∀ (r : Option Int32) (s : Option Int32), (if z < 0 then r else if (7 : Int32) ≤ z then r else s) = r := by
            intro r s
            rcases hz with q | ⟨q1, q2⟩
            · rw [if_pos q]
            · rw [if_neg q1, if_pos (show (7 : Int32) ≤ z from q2)]
          refine ⟨if z = 7 then npS (z_i h 62) i l else if z = 8 then vS (z_i h 62) i l (nI (nwN (z_i h 62))) else -2, z_si h 61 0 0, ?_, ?_, I.m⟩
          · unfold f_X9_pay
            simp (disch := first | assumption | omega) only [gd, lt, jn, bd2, Option.bind_some, LY_si, LY_sl, LY_row, decide_true, decide_false, if_true, ite_true, ite_false, decide_eq_true_eq, yg0, yg1, yg2, yg4, yg13, yg21, yg29, yg35, yg36, yg45, yg50, yg59, yI0, yI1, yI2, yI4, yI13, yI21, yI29, yI35, yI36, yI45, yI50, yI59, yP0, yP1, yP2, yP4, yP13, yP21, yP29, yP35, yP36, yP45, yP50, yP59, yR0_0, yR0_1, yR0_2, yR0_3, yR0_4, yR1_0, yR1_1, yR1_2, yR1_3, yR1_4, yR1_5, yR2_0, yR4_4, yR4_5, yR4_6, yR4_7, yR4_8, yR4_9, yR4_10, yR4_11, yR13_1, yR13_2, yR13_3, yR13_4, yR13_5, yR13_6, yR13_7, yR21_1, yR21_2, yR21_3, yR21_4, yR21_5, yR21_6, yR21_7, yR29_0, yR29_1, yR29_2, yR35_0, yR35_1, yR35_2, yR35_3, yR35_4, yR36_4, yR36_5, yR36_6, yR36_7, yR36_8, yR36_9, yR36_10, yR36_11, yR45_0, yR50_0, yR50_1, yR50_2, yR50_3, yR50_4, yR50_5, yR50_6, yR50_7, yR59_1, yA3, yA5, yA6, yA7, yA8, yA9, yA10, yA11, yA12, yA14, yA15, yA16, yA17, yA18, yA19, yA20, yA22, yA23, yA24, yA25, yA26, yA27, yA28, yA30, yA31, yA32, yA33, yA37, yA38, yA39, yA40, yA41, yA42, yA43, yA44, yA46, yA47, yA48, yA49, yA51, yA52, yA53, yA54, yA55, yA56, yA57, yA58, yA60, yS3, yS5, yS6, yS7, yS8, yS9, yS10, yS11, yS12, yS14, yS15, yS16, yS17, yS18, yS19, yS20, yS22, yS23, yS24, yS25, yS26, yS27, yS28, yS30, yS31, yS32, yS33, yS37, yS38, yS39, yS40, yS41, yS42, yS43, yS44, yS46, yS47, yS48, yS49, yS51, yS52, yS53, yS54, yS55, yS56, yS57, yS58, yS60, c_hasS_t C hi, t27, c_netPay H hR hS hi hl, en, C.ve hi hl hq]
            rw [if_neg (by decide), if_neg c1, if_pos c2, j6]
            split
            · rfl
            · split <;> rfl
          · unfold f_X10_pay
            simp (disch := first | assumption | omega) only [gd, lt, jn, bd2, Option.bind_some, LY_si, LY_sl, LY_row, decide_true, decide_false, if_true, ite_true, ite_false, decide_eq_true_eq, yg61, yI61, yP61, yR61_1, yR61_2, yR61_12, yR61_13, yR61_17, yR61_18, yR61_21, yR61_22, yR61_23, yR61_25, yA62, yA63, yA64, yA65, yA66, yA67, yA68, yA69, yA70, yA71, yS62, yS63, yS64, yS65, yS66, yS67, yS68, yS69, yS70, yS71, e_isK_t H1 hs1 hi, o5, i1, nI_p1, i2, np, e_now H1, m62, e144, ve]
            rw [if_neg (by decide), if_neg (by decide)]
            split
            · rfl
            · split <;> rfl
    · refine ⟨-2, z_si h 61 0 0, ?_, ?_, I.m⟩
      · unfold f_X9_pay
        simp (disch := first | assumption | omega) only [gd, lt, jn, bd2, Option.bind_some, LY_si, LY_sl, LY_row, decide_true, decide_false, if_true, ite_true, ite_false, decide_eq_true_eq, yg0, yg1, yg2, yg4, yg13, yg21, yg29, yg35, yg36, yg45, yg50, yg59, yI0, yI1, yI2, yI4, yI13, yI21, yI29, yI35, yI36, yI45, yI50, yI59, yP0, yP1, yP2, yP4, yP13, yP21, yP29, yP35, yP36, yP45, yP50, yP59, yR0_0, yR0_1, yR0_2, yR0_3, yR0_4, yR1_0, yR1_1, yR1_2, yR1_3, yR1_4, yR1_5, yR2_0, yR4_4, yR4_5, yR4_6, yR4_7, yR4_8, yR4_9, yR4_10, yR4_11, yR13_1, yR13_2, yR13_3, yR13_4, yR13_5, yR13_6, yR13_7, yR21_1, yR21_2, yR21_3, yR21_4, yR21_5, yR21_6, yR21_7, yR29_0, yR29_1, yR29_2, yR35_0, yR35_1, yR35_2, yR35_3, yR35_4, yR36_4, yR36_5, yR36_6, yR36_7, yR36_8, yR36_9, yR36_10, yR36_11, yR45_0, yR50_0, yR50_1, yR50_2, yR50_3, yR50_4, yR50_5, yR50_6, yR50_7, yR59_1, yA3, yA5, yA6, yA7, yA8, yA9, yA10, yA11, yA12, yA14, yA15, yA16, yA17, yA18, yA19, yA20, yA22, yA23, yA24, yA25, yA26, yA27, yA28, yA30, yA31, yA32, yA33, yA37, yA38, yA39, yA40, yA41, yA42, yA43, yA44, yA46, yA47, yA48, yA49, yA51, yA52, yA53, yA54, yA55, yA56, yA57, yA58, yA60, yS3, yS5, yS6, yS7, yS8, yS9, yS10, yS11, yS12, yS14, yS15, yS16, yS17, yS18, yS19, yS20, yS22, yS23, yS24, yS25, yS26, yS27, yS28, yS30, yS31, yS32, yS33, yS37, yS38, yS39, yS40, yS41, yS42, yS43, yS44, yS46, yS47, yS48, yS49, yS51, yS52, yS53, yS54, yS55, yS56, yS57, yS58, yS60, c_hasS_t C hi, t27]
        rw [if_neg (by decide)]
        split
        · rfl
        · rename_i c1
          rcases hy with q | ⟨q1, q2⟩
          · exact absurd (Int32.lt_of_lt_of_le q (by decide)) c1
          · rw [if_neg (fun q => nI_ge (by omega : nq (z_i h 62) i < nq (z_i h 62) i + 1) (by omega) (Int32.le_trans q2 q))]
      · unfold f_X10_pay
        simp (disch := first | assumption | omega) only [gd, lt, jn, bd2, Option.bind_some, LY_si, LY_sl, LY_row, decide_true, decide_false, if_true, ite_true, ite_false, decide_eq_true_eq, yg61, yI61, yP61, yR61_1, yR61_2, yR61_12, yR61_13, yR61_17, yR61_18, yR61_21, yR61_22, yR61_23, yR61_25, yA62, yA63, yA64, yA65, yA66, yA67, yA68, yA69, yA70, yA71, yS62, yS63, yS64, yS65, yS66, yS67, yS68, yS69, yS70, yS71, e_isK_t H1 hs1 hi, o5, e_in_f (show ¬ ((1 : Int32) ≤ y ∧ y ≤ nI (nq (z_i h 62) i)) from fun q => in_f' (by omega) hy ⟨Int32.le_trans (by decide) q.1, q.2⟩)]
        rw [if_neg (by decide)]
  · refine ⟨-2, z_si h 61 0 0, ?_, ?_, I.m⟩
    · unfold f_X9_pay
      simp (disch := first | assumption | omega) only [gd, lt, jn, bd2, Option.bind_some, LY_si, LY_sl, LY_row, decide_true, decide_false, if_true, ite_true, ite_false, decide_eq_true_eq, yg0, yg1, yg2, yg4, yg13, yg21, yg29, yg35, yg36, yg45, yg50, yg59, yI0, yI1, yI2, yI4, yI13, yI21, yI29, yI35, yI36, yI45, yI50, yI59, yP0, yP1, yP2, yP4, yP13, yP21, yP29, yP35, yP36, yP45, yP50, yP59, yR0_0, yR0_1, yR0_2, yR0_3, yR0_4, yR1_0, yR1_1, yR1_2, yR1_3, yR1_4, yR1_5, yR2_0, yR4_4, yR4_5, yR4_6, yR4_7, yR4_8, yR4_9, yR4_10, yR4_11, yR13_1, yR13_2, yR13_3, yR13_4, yR13_5, yR13_6, yR13_7, yR21_1, yR21_2, yR21_3, yR21_4, yR21_5, yR21_6, yR21_7, yR29_0, yR29_1, yR29_2, yR35_0, yR35_1, yR35_2, yR35_3, yR35_4, yR36_4, yR36_5, yR36_6, yR36_7, yR36_8, yR36_9, yR36_10, yR36_11, yR45_0, yR50_0, yR50_1, yR50_2, yR50_3, yR50_4, yR50_5, yR50_6, yR50_7, yR59_1, yA3, yA5, yA6, yA7, yA8, yA9, yA10, yA11, yA12, yA14, yA15, yA16, yA17, yA18, yA19, yA20, yA22, yA23, yA24, yA25, yA26, yA27, yA28, yA30, yA31, yA32, yA33, yA37, yA38, yA39, yA40, yA41, yA42, yA43, yA44, yA46, yA47, yA48, yA49, yA51, yA52, yA53, yA54, yA55, yA56, yA57, yA58, yA60, yS3, yS5, yS6, yS7, yS8, yS9, yS10, yS11, yS12, yS14, yS15, yS16, yS17, yS18, yS19, yS20, yS22, yS23, yS24, yS25, yS26, yS27, yS28, yS30, yS31, yS32, yS33, yS37, yS38, yS39, yS40, yS41, yS42, yS43, yS44, yS46, yS47, yS48, yS49, yS51, yS52, yS53, yS54, yS55, yS56, yS57, yS58, yS60, c_hasS_f C hx]
    · unfold f_X10_pay
      simp (disch := first | assumption | omega) only [gd, lt, jn, bd2, Option.bind_some, LY_si, LY_sl, LY_row, decide_true, decide_false, if_true, ite_true, ite_false, decide_eq_true_eq, yg61, yI61, yP61, yR61_1, yR61_2, yR61_12, yR61_13, yR61_17, yR61_18, yR61_21, yR61_22, yR61_23, yR61_25, yA62, yA63, yA64, yA65, yA66, yA67, yA68, yA69, yA70, yA71, yS62, yS63, yS64, yS65, yS66, yS67, yS68, yS69, yS70, yS71, e_isK_f H1 hs1 (by rw [m62]; exact hx)]
theorem jr_mod : ∀ x, x < 16 → ∀ k, k < 16 → (nI x + 16 - 1 - nI k) - (nI x + 16 - 1 - nI k) / 16 * 16 = nI ((x + 16 - 1 - k) % 16) := by decide +kernel
theorem op_journal {h : Z_H} (I : Inv h) {x y z : Int32} : ∃ r h2, f_X9_journal h 0 x y z = some r ∧ f_X10_journal h 61 x y z = some (r, h2) ∧ Inv h2 := by
  have H := I.1
  have H1 := I.m.1
  have C := I.ca
  have hv := I.v
  have h10 := hv.1.2.1
  have hn1 := I.m.v.1
  rcases nI_or (x := x) (n := nn (z_i h 62)) (by omega) with ⟨s, hs, rfl⟩ | ⟨hns, hx⟩
  · obtain ⟨j1, j2⟩ := hv.2.2.2.2.2.2.1 s hs
    obtain ⟨r1, q, r2, r3, r4, r5⟩ := I.2.1.2.2.2.2.2.1.1 s hs
    have e30 : z_i h 30 s = nI (nj (z_i h 62) s) := Eq.trans r1 j2
    have e31 : z_i h 31 s = nI q := r3
    have o29 := e_os29 (s := s) H1 (by omega)
    rw [m62, j2] at o29
    by_cases hy : y = -1
    · subst hy
      refine ⟨if z = 0 then nI (nj (z_i h 62) s) else -2, z_si h 61 0 0, ?_, ?_, I.m⟩
      · unfold f_X9_journal
        simp (disch := first | assumption | omega) only [gd, lt, jn, bd2, Option.bind_some, LY_si, LY_sl, LY_row, decide_true, decide_false, if_true, ite_true, ite_false, decide_eq_true_eq, yg0, yg1, yg2, yg4, yg13, yg21, yg29, yg35, yg36, yg45, yg50, yg59, yI0, yI1, yI2, yI4, yI13, yI21, yI29, yI35, yI36, yI45, yI50, yI59, yP0, yP1, yP2, yP4, yP13, yP21, yP29, yP35, yP36, yP45, yP50, yP59, yR0_0, yR0_1, yR0_2, yR0_3, yR0_4, yR1_0, yR1_1, yR1_2, yR1_3, yR1_4, yR1_5, yR2_0, yR4_4, yR4_5, yR4_6, yR4_7, yR4_8, yR4_9, yR4_10, yR4_11, yR13_1, yR13_2, yR13_3, yR13_4, yR13_5, yR13_6, yR13_7, yR21_1, yR21_2, yR21_3, yR21_4, yR21_5, yR21_6, yR21_7, yR29_0, yR29_1, yR29_2, yR35_0, yR35_1, yR35_2, yR35_3, yR35_4, yR36_4, yR36_5, yR36_6, yR36_7, yR36_8, yR36_9, yR36_10, yR36_11, yR45_0, yR50_0, yR50_1, yR50_2, yR50_3, yR50_4, yR50_5, yR50_6, yR50_7, yR59_1, yA3, yA5, yA6, yA7, yA8, yA9, yA10, yA11, yA12, yA14, yA15, yA16, yA17, yA18, yA19, yA20, yA22, yA23, yA24, yA25, yA26, yA27, yA28, yA30, yA31, yA32, yA33, yA37, yA38, yA39, yA40, yA41, yA42, yA43, yA44, yA46, yA47, yA48, yA49, yA51, yA52, yA53, yA54, yA55, yA56, yA57, yA58, yA60, yS3, yS5, yS6, yS7, yS8, yS9, yS10, yS11, yS12, yS14, yS15, yS16, yS17, yS18, yS19, yS20, yS22, yS23, yS24, yS25, yS26, yS27, yS28, yS30, yS31, yS32, yS33, yS37, yS38, yS39, yS40, yS41, yS42, yS43, yS44, yS46, yS47, yS48, yS49, yS51, yS52, yS53, yS54, yS55, yS56, yS57, yS58, yS60, c_has_t C hs, e30]
        rw [if_neg (by decide)]
        split <;> rfl
      · unfold f_X10_journal
        simp (disch := first | assumption | omega) only [gd, lt, jn, bd2, Option.bind_some, LY_si, LY_sl, LY_row, decide_true, decide_false, if_true, ite_true, ite_false, decide_eq_true_eq, yg61, yI61, yP61, yR61_1, yR61_2, yR61_12, yR61_13, yR61_17, yR61_18, yR61_21, yR61_22, yR61_23, yR61_25, yA62, yA63, yA64, yA65, yA66, yA67, yA68, yA69, yA70, yA71, yS62, yS63, yS64, yS65, yS66, yS67, yS68, yS69, yS70, yS71, e_isS_t H1 hn1 hs, o29]
        rw [if_neg (by decide)]
        split <;> rfl
    · rcases nI_or (x := y) (n := nj (z_i h 62) s) (by omega) with ⟨k, hk, rfl⟩ | ⟨-, hk⟩
      · have i1 := in_t hk (by omega)
        rcases nI_or (x := z) (n := 4) (by omega) with ⟨w, hw, rfl⟩ | ⟨-, hz⟩
        · refine ⟨z_i h 62 (147 + 94 * s + (30 + 4 * k + w)), z_si h 61 0 0, ?_, ?_, I.m⟩
          · have fc : f_X1_fact h 29 (nI s) (nI k) (nI w) = some (z_i h 62 (147 + 94 * s + (30 + 4 * k + w))) := by
              unfold f_X1_fact
              have ix : nI s * 16 + nI ((q + 16 - 1 - k) % 16) = nI (s * 16 + (q + 16 - 1 - k) % 16) := by rw [n_16, nI_mul, nI_add]
              have ix2 : nI (s * 16 + (q + 16 - 1 - k) % 16) * 4 + nI w = nI ((s * 16 + (q + 16 - 1 - k) % 16) * 4 + w) := by rw [n_4, nI_mul, nI_add]
              simp (disch := first | assumption | omega) only [gd, lt, jn, bd2, Option.bind_some, LY_si, LY_sl, LY_row, decide_true, decide_false, if_true, ite_true, ite_false, decide_eq_true_eq, yg0, yg1, yg2, yg4, yg13, yg21, yg29, yg35, yg36, yg45, yg50, yg59, yI0, yI1, yI2, yI4, yI13, yI21, yI29, yI35, yI36, yI45, yI50, yI59, yP0, yP1, yP2, yP4, yP13, yP21, yP29, yP35, yP36, yP45, yP50, yP59, yR0_0, yR0_1, yR0_2, yR0_3, yR0_4, yR1_0, yR1_1, yR1_2, yR1_3, yR1_4, yR1_5, yR2_0, yR4_4, yR4_5, yR4_6, yR4_7, yR4_8, yR4_9, yR4_10, yR4_11, yR13_1, yR13_2, yR13_3, yR13_4, yR13_5, yR13_6, yR13_7, yR21_1, yR21_2, yR21_3, yR21_4, yR21_5, yR21_6, yR21_7, yR29_0, yR29_1, yR29_2, yR35_0, yR35_1, yR35_2, yR35_3, yR35_4, yR36_4, yR36_5, yR36_6, yR36_7, yR36_8, yR36_9, yR36_10, yR36_11, yR45_0, yR50_0, yR50_1, yR50_2, yR50_3, yR50_4, yR50_5, yR50_6, yR50_7, yR59_1, yA3, yA5, yA6, yA7, yA8, yA9, yA10, yA11, yA12, yA14, yA15, yA16, yA17, yA18, yA19, yA20, yA22, yA23, yA24, yA25, yA26, yA27, yA28, yA30, yA31, yA32, yA33, yA37, yA38, yA39, yA40, yA41, yA42, yA43, yA44, yA46, yA47, yA48, yA49, yA51, yA52, yA53, yA54, yA55, yA56, yA57, yA58, yA60, yS3, yS5, yS6, yS7, yS8, yS9, yS10, yS11, yS12, yS14, yS15, yS16, yS17, yS18, yS19, yS20, yS22, yS23, yS24, yS25, yS26, yS27, yS28, yS30, yS31, yS32, yS33, yS37, yS38, yS39, yS40, yS41, yS42, yS43, yS44, yS46, yS47, yS48, yS49, yS51, yS52, yS53, yS54, yS55, yS56, yS57, yS58, yS60, e31, jr_mod q r2 k (by omega), ix, ix2]
              exact congrArg some (r5 k hk w hw)
            unfold f_X9_journal
            simp (disch := first | assumption | omega) only [gd, lt, jn, bd2, Option.bind_some, LY_si, LY_sl, LY_row, decide_true, decide_false, if_true, ite_true, ite_false, decide_eq_true_eq, yg0, yg1, yg2, yg4, yg13, yg21, yg29, yg35, yg36, yg45, yg50, yg59, yI0, yI1, yI2, yI4, yI13, yI21, yI29, yI35, yI36, yI45, yI50, yI59, yP0, yP1, yP2, yP4, yP13, yP21, yP29, yP35, yP36, yP45, yP50, yP59, yR0_0, yR0_1, yR0_2, yR0_3, yR0_4, yR1_0, yR1_1, yR1_2, yR1_3, yR1_4, yR1_5, yR2_0, yR4_4, yR4_5, yR4_6, yR4_7, yR4_8, yR4_9, yR4_10, yR4_11, yR13_1, yR13_2, yR13_3, yR13_4, yR13_5, yR13_6, yR13_7, yR21_1, yR21_2, yR21_3, yR21_4, yR21_5, yR21_6, yR21_7, yR29_0, yR29_1, yR29_2, yR35_0, yR35_1, yR35_2, yR35_3, yR35_4, yR36_4, yR36_5, yR36_6, yR36_7, yR36_8, yR36_9, yR36_10, yR36_11, yR45_0, yR50_0, yR50_1, yR50_2, yR50_3, yR50_4, yR50_5, yR50_6, yR50_7, yR59_1, yA3, yA5, yA6, yA7, yA8, yA9, yA10, yA11, yA12, yA14, yA15, yA16, yA17, yA18, yA19, yA20, yA22, yA23, yA24, yA25, yA26, yA27, yA28, yA30, yA31, yA32, yA33, yA37, yA38, yA39, yA40, yA41, yA42, yA43, yA44, yA46, yA47, yA48, yA49, yA51, yA52, yA53, yA54, yA55, yA56, yA57, yA58, yA60, yS3, yS5, yS6, yS7, yS8, yS9, yS10, yS11, yS12, yS14, yS15, yS16, yS17, yS18, yS19, yS20, yS22, yS23, yS24, yS25, yS26, yS27, yS28, yS30, yS31, yS32, yS33, yS37, yS38, yS39, yS40, yS41, yS42, yS43, yS44, yS46, yS47, yS48, yS49, yS51, yS52, yS53, yS54, yS55, yS56, yS57, yS58, yS60, c_has_t C hs, e30, fc]
            rw [if_neg (by decide), if_neg hy, if_neg (nI_pos (by omega)), if_neg (nI_ge hk (by omega)), if_neg (nI_pos (by omega)), if_pos (show nI w < (4 : Int32) from nI_lt (b := 4) hw (by omega))]
          · unfold f_X10_journal
            have os := e_ofSeller (s := s) (w := 30 + 4 * k + w) H1 (by omega)
            rw [m62] at os
            have ix : ((30 : Int32) + (4 : Int32) * nI k) + nI w = nI (30 + 4 * k + w) := by rw [n_30, n_4, nI_mul, nI_add, nI_add]
            simp (disch := first | assumption | omega) only [gd, lt, jn, bd2, Option.bind_some, LY_si, LY_sl, LY_row, decide_true, decide_false, if_true, ite_true, ite_false, decide_eq_true_eq, yg61, yI61, yP61, yR61_1, yR61_2, yR61_12, yR61_13, yR61_17, yR61_18, yR61_21, yR61_22, yR61_23, yR61_25, yA62, yA63, yA64, yA65, yA66, yA67, yA68, yA69, yA70, yA71, yS62, yS63, yS64, yS65, yS66, yS67, yS68, yS69, yS70, yS71, e_isS_t H1 hn1 hs, o29, e_in_t i1.1 i1.2, e_in_t (show (0 : Int32) ≤ nI w from nI_pos' (by omega)) (show nI w ≤ (3 : Int32) from nI_le (b := 3) (by omega) (by omega)), ix, os]
            rw [if_neg (by decide), if_neg hy, if_neg (by decide), if_neg (by decide)]
        · refine ⟨-2, z_si h 61 0 0, ?_, ?_, I.m⟩
          · unfold f_X9_journal
            simp (disch := first | assumption | omega) only [gd, lt, jn, bd2, Option.bind_some, LY_si, LY_sl, LY_row, decide_true, decide_false, if_true, ite_true, ite_false, decide_eq_true_eq, yg0, yg1, yg2, yg4, yg13, yg21, yg29, yg35, yg36, yg45, yg50, yg59, yI0, yI1, yI2, yI4, yI13, yI21, yI29, yI35, yI36, yI45, yI50, yI59, yP0, yP1, yP2, yP4, yP13, yP21, yP29, yP35, yP36, yP45, yP50, yP59, yR0_0, yR0_1, yR0_2, yR0_3, yR0_4, yR1_0, yR1_1, yR1_2, yR1_3, yR1_4, yR1_5, yR2_0, yR4_4, yR4_5, yR4_6, yR4_7, yR4_8, yR4_9, yR4_10, yR4_11, yR13_1, yR13_2, yR13_3, yR13_4, yR13_5, yR13_6, yR13_7, yR21_1, yR21_2, yR21_3, yR21_4, yR21_5, yR21_6, yR21_7, yR29_0, yR29_1, yR29_2, yR35_0, yR35_1, yR35_2, yR35_3, yR35_4, yR36_4, yR36_5, yR36_6, yR36_7, yR36_8, yR36_9, yR36_10, yR36_11, yR45_0, yR50_0, yR50_1, yR50_2, yR50_3, yR50_4, yR50_5, yR50_6, yR50_7, yR59_1, yA3, yA5, yA6, yA7, yA8, yA9, yA10, yA11, yA12, yA14, yA15, yA16, yA17, yA18, yA19, yA20, yA22, yA23, yA24, yA25, yA26, yA27, yA28, yA30, yA31, yA32, yA33, yA37, yA38, yA39, yA40, yA41, yA42, yA43, yA44, yA46, yA47, yA48, yA49, yA51, yA52, yA53, yA54, yA55, yA56, yA57, yA58, yA60, yS3, yS5, yS6, yS7, yS8, yS9, yS10, yS11, yS12, yS14, yS15, yS16, yS17, yS18, yS19, yS20, yS22, yS23, yS24, yS25, yS26, yS27, yS28, yS30, yS31, yS32, yS33, yS37, yS38, yS39, yS40, yS41, yS42, yS43, yS44, yS46, yS47, yS48, yS49, yS51, yS52, yS53, yS54, yS55, yS56, yS57, yS58, yS60, c_has_t C hs, e30]
            rw [if_neg (by decide), if_neg hy, if_neg (nI_pos (by omega)), if_neg (nI_ge hk (by omega))]
            rcases hz with q | ⟨q1, q2⟩
            · rw [if_pos q]
            · rw [if_neg q1, if_neg (show ¬ z < (4 : Int32) from Int32.not_lt.mpr q2)]
          · unfold f_X10_journal
            simp (disch := first | assumption | omega) only [gd, lt, jn, bd2, Option.bind_some, LY_si, LY_sl, LY_row, decide_true, decide_false, if_true, ite_true, ite_false, decide_eq_true_eq, yg61, yI61, yP61, yR61_1, yR61_2, yR61_12, yR61_13, yR61_17, yR61_18, yR61_21, yR61_22, yR61_23, yR61_25, yA62, yA63, yA64, yA65, yA66, yA67, yA68, yA69, yA70, yA71, yS62, yS63, yS64, yS65, yS66, yS67, yS68, yS69, yS70, yS71, e_isS_t H1 hn1 hs, o29, e_in_t i1.1 i1.2, e_in_f (show ¬ ((0 : Int32) ≤ z ∧ z ≤ 3) from in_f' (n := 3) (by omega) hz)]
            rw [if_neg (by decide), if_neg hy, if_neg (by decide)]
      · refine ⟨-2, z_si h 61 0 0, ?_, ?_, I.m⟩
        · unfold f_X9_journal
          simp (disch := first | assumption | omega) only [gd, lt, jn, bd2, Option.bind_some, LY_si, LY_sl, LY_row, decide_true, decide_false, if_true, ite_true, ite_false, decide_eq_true_eq, yg0, yg1, yg2, yg4, yg13, yg21, yg29, yg35, yg36, yg45, yg50, yg59, yI0, yI1, yI2, yI4, yI13, yI21, yI29, yI35, yI36, yI45, yI50, yI59, yP0, yP1, yP2, yP4, yP13, yP21, yP29, yP35, yP36, yP45, yP50, yP59, yR0_0, yR0_1, yR0_2, yR0_3, yR0_4, yR1_0, yR1_1, yR1_2, yR1_3, yR1_4, yR1_5, yR2_0, yR4_4, yR4_5, yR4_6, yR4_7, yR4_8, yR4_9, yR4_10, yR4_11, yR13_1, yR13_2, yR13_3, yR13_4, yR13_5, yR13_6, yR13_7, yR21_1, yR21_2, yR21_3, yR21_4, yR21_5, yR21_6, yR21_7, yR29_0, yR29_1, yR29_2, yR35_0, yR35_1, yR35_2, yR35_3, yR35_4, yR36_4, yR36_5, yR36_6, yR36_7, yR36_8, yR36_9, yR36_10, yR36_11, yR45_0, yR50_0, yR50_1, yR50_2, yR50_3, yR50_4, yR50_5, yR50_6, yR50_7, yR59_1, yA3, yA5, yA6, yA7, yA8, yA9, yA10, yA11, yA12, yA14, yA15, yA16, yA17, yA18, yA19, yA20, yA22, yA23, yA24, yA25, yA26, yA27, yA28, yA30, yA31, yA32, yA33, yA37, yA38, yA39, yA40, yA41, yA42, yA43, yA44, yA46, yA47, yA48, yA49, yA51, yA52, yA53, yA54, yA55, yA56, yA57, yA58, yA60, yS3, yS5, yS6, yS7, yS8, yS9, yS10, yS11, yS12, yS14, yS15, yS16, yS17, yS18, yS19, yS20, yS22, yS23, yS24, yS25, yS26, yS27, yS28, yS30, yS31, yS32, yS33, yS37, yS38, yS39, yS40, yS41, yS42, yS43, yS44, yS46, yS47, yS48, yS49, yS51, yS52, yS53, yS54, yS55, yS56, yS57, yS58, yS60, c_has_t C hs, e30]
          rw [if_neg (by decide), if_neg hy]
          rcases hk with q | ⟨q1, q2⟩
          · rw [if_pos q]
          · rw [if_neg q1, if_pos q2]
        · unfold f_X10_journal
          simp (disch := first | assumption | omega) only [gd, lt, jn, bd2, Option.bind_some, LY_si, LY_sl, LY_row, decide_true, decide_false, if_true, ite_true, ite_false, decide_eq_true_eq, yg61, yI61, yP61, yR61_1, yR61_2, yR61_12, yR61_13, yR61_17, yR61_18, yR61_21, yR61_22, yR61_23, yR61_25, yA62, yA63, yA64, yA65, yA66, yA67, yA68, yA69, yA70, yA71, yS62, yS63, yS64, yS65, yS66, yS67, yS68, yS69, yS70, yS71, e_isS_t H1 hn1 hs, o29, e_in_f (in_f (by omega) hk)]
          rw [if_neg (by decide), if_neg hy]
  · refine ⟨-2, z_si h 61 0 0, ?_, ?_, I.m⟩
    · unfold f_X9_journal
      simp (disch := first | assumption | omega) only [gd, lt, jn, bd2, Option.bind_some, LY_si, LY_sl, LY_row, decide_true, decide_false, if_true, ite_true, ite_false, decide_eq_true_eq, yg0, yg1, yg2, yg4, yg13, yg21, yg29, yg35, yg36, yg45, yg50, yg59, yI0, yI1, yI2, yI4, yI13, yI21, yI29, yI35, yI36, yI45, yI50, yI59, yP0, yP1, yP2, yP4, yP13, yP21, yP29, yP35, yP36, yP45, yP50, yP59, yR0_0, yR0_1, yR0_2, yR0_3, yR0_4, yR1_0, yR1_1, yR1_2, yR1_3, yR1_4, yR1_5, yR2_0, yR4_4, yR4_5, yR4_6, yR4_7, yR4_8, yR4_9, yR4_10, yR4_11, yR13_1, yR13_2, yR13_3, yR13_4, yR13_5, yR13_6, yR13_7, yR21_1, yR21_2, yR21_3, yR21_4, yR21_5, yR21_6, yR21_7, yR29_0, yR29_1, yR29_2, yR35_0, yR35_1, yR35_2, yR35_3, yR35_4, yR36_4, yR36_5, yR36_6, yR36_7, yR36_8, yR36_9, yR36_10, yR36_11, yR45_0, yR50_0, yR50_1, yR50_2, yR50_3, yR50_4, yR50_5, yR50_6, yR50_7, yR59_1, yA3, yA5, yA6, yA7, yA8, yA9, yA10, yA11, yA12, yA14, yA15, yA16, yA17, yA18, yA19, yA20, yA22, yA23, yA24, yA25, yA26, yA27, yA28, yA30, yA31, yA32, yA33, yA37, yA38, yA39, yA40, yA41, yA42, yA43, yA44, yA46, yA47, yA48, yA49, yA51, yA52, yA53, yA54, yA55, yA56, yA57, yA58, yA60, yS3, yS5, yS6, yS7, yS8, yS9, yS10, yS11, yS12, yS14, yS15, yS16, yS17, yS18, yS19, yS20, yS22, yS23, yS24, yS25, yS26, yS27, yS28, yS30, yS31, yS32, yS33, yS37, yS38, yS39, yS40, yS41, yS42, yS43, yS44, yS46, yS47, yS48, yS49, yS51, yS52, yS53, yS54, yS55, yS56, yS57, yS58, yS60, c_has_f C hx]
    · unfold f_X10_journal
      simp (disch := first | assumption | omega) only [gd, lt, jn, bd2, Option.bind_some, LY_si, LY_sl, LY_row, decide_true, decide_false, if_true, ite_true, ite_false, decide_eq_true_eq, yg61, yI61, yP61, yR61_1, yR61_2, yR61_12, yR61_13, yR61_17, yR61_18, yR61_21, yR61_22, yR61_23, yR61_25, yA62, yA63, yA64, yA65, yA66, yA67, yA68, yA69, yA70, yA71, yS62, yS63, yS64, yS65, yS66, yS67, yS68, yS69, yS70, yS71, e_isS_f H1 hn1 (by rw [m62]; exact hx)]
theorem ru_mod : ∀ s, s < 46 → nI s - nI s / 10 * 10 = nI (s % 10) := by decide +kernel
theorem ru_1 {h : Z_H} (H : LY h) {s b : Nat} (hb : b ≤ 15) (hr : s % 10 < 4) : aI h 62 (nI b + nI (s % 10)) = some (z_i h 62 (b + s % 10)) := by
  rw [nI_add]
  exact yA62 H (by omega)
theorem op_rule {h : Z_H} (I : Inv h) {x : Int32} : ∃ r h2, f_X9_rule h 0 x = some r ∧ f_X10_rule h 61 x = some (r, h2) ∧ Inv h2 := by
  have H := I.1
  have H1 := I.m.1
  obtain ⟨p1, p2, p3⟩ := I.2.1.2.2.2.1
  have q1 : ∀ i, i < 4 → z_i h 4 i = z_i h 62 (3 + i) := p1
  have q2 : ∀ r, r < 4 → z_i h 5 r = z_i h 62 (7 + r) := fun r hr => (p2 r hr).1
  have q3 : ∀ r, r < 4 → z_i h 6 r = z_i h 62 (11 + r) := fun r hr => (p2 r hr).2.1
  have q4 : ∀ r, r < 4 → z_i h 7 r = z_i h 62 (15 + r) := fun r hr => (p2 r hr).2.2
  have q5 : ∀ l, l < 5 → z_i h 8 (l + 1) = z_i h 62 (19 + 25 * l) := fun l hl => (p3 l hl).1
  rcases nI_or (x := x) (n := 46) (by omega) with ⟨s, hs, rfl⟩ | ⟨hns, hx⟩
  · by_cases c4 : s < 4
    · refine ⟨z_i h 62 (3 + s), z_si h 61 0 0, ?_, ?_, I.m⟩
      · unfold f_X9_rule
        rw [gd, if_pos (yg0 H), yR0_0 H, Option.bind_some, yR1_1 H, Option.bind_some]
        have : s = 0 ∨ s = 1 ∨ s = 2 ∨ s = 3 := by omega
        rcases this with rfl | rfl | rfl | rfl
        · rw [if_pos (by decide), yI4 H, q1 0 (by omega)]
          rfl
        · rw [if_neg (by decide), if_pos (by decide), yI4 H, q1 1 (by omega)]
          rfl
        · rw [if_neg (by decide), if_neg (by decide), if_pos (by decide), yI4 H, q1 2 (by omega)]
          rfl
        · rw [if_neg (by decide), if_neg (by decide), if_neg (by decide), if_pos (by decide), yI4 H, q1 3 (by omega)]
          rfl
      · unfold f_X10_rule
        have a1 : aI (z_si h 61 0 0) 62 (3 + nI s) = some (z_i h 62 (3 + s)) := by
          rw [n_3, nI_add]
          exact yA62 H1 (by omega)
        simp (disch := first | assumption | omega) only [gd, lt, jn, bd2, Option.bind_some, LY_si, LY_sl, LY_row, decide_true, decide_false, if_true, ite_true, ite_false, decide_eq_true_eq, yg61, yI61, yP61, yR61_1, yR61_2, yR61_12, yR61_13, yR61_17, yR61_18, yR61_21, yR61_22, yR61_23, yR61_25, yA62, yA63, yA64, yA65, yA66, yA67, yA68, yA69, yA70, yA71, yS62, yS63, yS64, yS65, yS66, yS67, yS68, yS69, yS70, yS71, e_in_t (show (0 : Int32) ≤ nI s from nI_pos' (by omega)) (show nI s ≤ (3 : Int32) from nI_le (b := 3) (by omega) (by omega)), a1]
        rw [if_neg (by decide)]
    · have n0 : ¬ nI s = 0 := fun e => by have := (nI_eq (b := 0) (by omega) (by omega)).mp e; omega
      have n1 : ¬ nI s = 1 := fun e => by have := (nI_eq (b := 1) (by omega) (by omega)).mp e; omega
      have n2 : ¬ nI s = 2 := fun e => by have := (nI_eq (b := 2) (by omega) (by omega)).mp e; omega
      have n3 : ¬ nI s = 3 := fun e => by have := (nI_eq (b := 3) (by omega) (by omega)).mp e; omega
      have i0 : f_X10_in (z_si h 61 0 0) (nI s) 0 3 = some 0 := e_in_f (fun q => nI_ge (a := 3) (by omega) (by omega) q.2)
      have lts : ∀ b, b < 100 → (nI s < nI b ↔ s < b) := fun b hb => nI_ltI (by omega) (by omega)
      have l10 : nI s < 10 ↔ s < 10 := lts 10 (by omega)
      have l20 : nI s < 20 ↔ s < 20 := lts 20 (by omega)
      have l30 : nI s < 30 ↔ s < 30 := lts 30 (by omega)
      have g13 : (13 : Int32) < nI s ↔ 13 < s := nI_ltI (a := 13) (by omega) (by omega)
      have g23 : (23 : Int32) < nI s ↔ 23 < s := nI_ltI (a := 23) (by omega) (by omega)
      have g33 : (33 : Int32) < nI s ↔ 33 < s := nI_ltI (a := 33) (by omega) (by omega)
      have g45 : (45 : Int32) < nI s ↔ 45 < s := nI_ltI (a := 45) (by omega) (by omega)
      have l40 : nI s ≤ 40 ↔ s ≤ 40 := nI_leI (b := 40) (by omega) (by omega)
      have ge20 : (20 : Int32) ≤ nI s ↔ 20 ≤ s := nI_leI (a := 20) (by omega) (by omega)
      have ge30 : (30 : Int32) ≤ nI s ↔ 30 ≤ s := nI_leI (a := 30) (by omega) (by omega)
      have g3 : (3 : Int32) < nI (s % 10) ↔ 3 < s % 10 := nI_ltI (a := 3) (by omega) (by omega)
      have i1t : 10 ≤ s → s ≤ 39 → f_X10_in (z_si h 61 0 0) (nI s) 10 39 = some 1 := fun a b => e_in_t (nI_le (a := 10) (by omega) (by omega)) (nI_le (b := 39) (by omega) (by omega))
      have i1f : ¬ (10 ≤ s ∧ s ≤ 39) → f_X10_in (z_si h 61 0 0) (nI s) 10 39 = some 0 := fun a => e_in_f (fun q => a ⟨(nI_leI (a := 10) (by omega) (by omega)).mp q.1, (nI_leI (b := 39) (by omega) (by omega)).mp q.2⟩)
      have i2t : 41 ≤ s → f_X10_in (z_si h 61 0 0) (nI s) 41 45 = some 1 := fun a => e_in_t (nI_le (a := 41) (by omega) (by omega)) (nI_le (b := 45) (by omega) (by omega))
      have i2f : ¬ (41 ≤ s) → f_X10_in (z_si h 61 0 0) (nI s) 41 45 = some 0 := fun a => e_in_f (fun q => a ((nI_leI (a := 41) (by omega) (by omega)).mp q.1))
      by_cases c1 : 10 ≤ s ∧ s ≤ 39 ∧ s % 10 ≤ 3
      · have hb : ∀ b : Nat, b ≤ 15 → aI (z_si h 61 0 0) 62 (nI b + nI (s % 10)) = some (z_i h 62 (b + s % 10)) := fun b hb => ru_1 H1 hb (by omega)
        have hb7 : aI (z_si h 61 0 0) 62 (7 + nI (s % 10)) = some (z_i h 62 (7 + s % 10)) := hb 7 (by omega)
        have hb11 : aI (z_si h 61 0 0) 62 (11 + nI (s % 10)) = some (z_i h 62 (11 + s % 10)) := hb 11 (by omega)
        have hb15 : aI (z_si h 61 0 0) 62 (15 + nI (s % 10)) = some (z_i h 62 (15 + s % 10)) := hb 15 (by omega)
        by_cases c2 : s < 20
        · refine ⟨z_i h 62 (7 + s % 10), z_si h 61 0 0, ?_, ?_, I.m⟩
          · unfold f_X9_rule
            have a1 : nI s - 10 = nI (s % 10) := by rw [n_10, nI_sub (by omega)]; congr 1; omega
            rw [gd, if_pos (yg0 H), yR0_0 H, Option.bind_some, yR1_1 H, Option.bind_some, if_neg n0, if_neg n1, if_neg n2, if_neg n3]
            dsimp only [jn]
            rw [if_neg (fun q => absurd (l10.mp q) (by omega)), if_neg (fun q => absurd (g13.mp q) (by omega))]
            simp (disch := first | assumption | omega) only [gd, lt, jn, bd2, Option.bind_some, LY_si, LY_sl, LY_row, decide_true, decide_false, if_true, ite_true, ite_false, decide_eq_true_eq, yg0, yg1, yg2, yg4, yg13, yg21, yg29, yg35, yg36, yg45, yg50, yg59, yI0, yI1, yI2, yI4, yI13, yI21, yI29, yI35, yI36, yI45, yI50, yI59, yP0, yP1, yP2, yP4, yP13, yP21, yP29, yP35, yP36, yP45, yP50, yP59, yR0_0, yR0_1, yR0_2, yR0_3, yR0_4, yR1_0, yR1_1, yR1_2, yR1_3, yR1_4, yR1_5, yR2_0, yR4_4, yR4_5, yR4_6, yR4_7, yR4_8, yR4_9, yR4_10, yR4_11, yR13_1, yR13_2, yR13_3, yR13_4, yR13_5, yR13_6, yR13_7, yR21_1, yR21_2, yR21_3, yR21_4, yR21_5, yR21_6, yR21_7, yR29_0, yR29_1, yR29_2, yR35_0, yR35_1, yR35_2, yR35_3, yR35_4, yR36_4, yR36_5, yR36_6, yR36_7, yR36_8, yR36_9, yR36_10, yR36_11, yR45_0, yR50_0, yR50_1, yR50_2, yR50_3, yR50_4, yR50_5, yR50_6, yR50_7, yR59_1, yA3, yA5, yA6, yA7, yA8, yA9, yA10, yA11, yA12, yA14, yA15, yA16, yA17, yA18, yA19, yA20, yA22, yA23, yA24, yA25, yA26, yA27, yA28, yA30, yA31, yA32, yA33, yA37, yA38, yA39, yA40, yA41, yA42, yA43, yA44, yA46, yA47, yA48, yA49, yA51, yA52, yA53, yA54, yA55, yA56, yA57, yA58, yA60, yS3, yS5, yS6, yS7, yS8, yS9, yS10, yS11, yS12, yS14, yS15, yS16, yS17, yS18, yS19, yS20, yS22, yS23, yS24, yS25, yS26, yS27, yS28, yS30, yS31, yS32, yS33, yS37, yS38, yS39, yS40, yS41, yS42, yS43, yS44, yS46, yS47, yS48, yS49, yS51, yS52, yS53, yS54, yS55, yS56, yS57, yS58, yS60, a1, q2]
          · unfold f_X10_rule
            rw [gd, if_pos (yg61 H), yP61 H, Option.bind_some, i0, Option.bind_some, if_pos rfl]
            dsimp only [jn, lt]
            rw [i1t c1.1 c1.2.1, Option.bind_some, if_neg (show ¬ (1 : Int32) = 0 by decide), ru_mod s hs, if_neg (fun q => absurd (g3.mp q) (by omega)), yR61_1 H1, Option.bind_some, if_neg (fun q => absurd (ge20.mp q) (by omega)), hb7]
            rfl
        · by_cases c3 : s < 30
          · refine ⟨z_i h 62 (11 + s % 10), z_si h 61 0 0, ?_, ?_, I.m⟩
            · unfold f_X9_rule
              have a1 : nI s - 20 = nI (s % 10) := by rw [n_20, nI_sub (by omega)]; congr 1; omega
              rw [gd, if_pos (yg0 H), yR0_0 H, Option.bind_some, yR1_1 H, Option.bind_some, if_neg n0, if_neg n1, if_neg n2, if_neg n3]
              dsimp only [jn]
              rw [if_neg (fun q => absurd (l10.mp q) (by omega)), if_pos (g13.mpr (by omega)), if_neg (fun q => absurd (l20.mp q) (by omega)), if_neg (fun q => absurd (g23.mp q) (by omega))]
              simp (disch := first | assumption | omega) only [gd, lt, jn, bd2, Option.bind_some, LY_si, LY_sl, LY_row, decide_true, decide_false, if_true, ite_true, ite_false, decide_eq_true_eq, yg0, yg1, yg2, yg4, yg13, yg21, yg29, yg35, yg36, yg45, yg50, yg59, yI0, yI1, yI2, yI4, yI13, yI21, yI29, yI35, yI36, yI45, yI50, yI59, yP0, yP1, yP2, yP4, yP13, yP21, yP29, yP35, yP36, yP45, yP50, yP59, yR0_0, yR0_1, yR0_2, yR0_3, yR0_4, yR1_0, yR1_1, yR1_2, yR1_3, yR1_4, yR1_5, yR2_0, yR4_4, yR4_5, yR4_6, yR4_7, yR4_8, yR4_9, yR4_10, yR4_11, yR13_1, yR13_2, yR13_3, yR13_4, yR13_5, yR13_6, yR13_7, yR21_1, yR21_2, yR21_3, yR21_4, yR21_5, yR21_6, yR21_7, yR29_0, yR29_1, yR29_2, yR35_0, yR35_1, yR35_2, yR35_3, yR35_4, yR36_4, yR36_5, yR36_6, yR36_7, yR36_8, yR36_9, yR36_10, yR36_11, yR45_0, yR50_0, yR50_1, yR50_2, yR50_3, yR50_4, yR50_5, yR50_6, yR50_7, yR59_1, yA3, yA5, yA6, yA7, yA8, yA9, yA10, yA11, yA12, yA14, yA15, yA16, yA17, yA18, yA19, yA20, yA22, yA23, yA24, yA25, yA26, yA27, yA28, yA30, yA31, yA32, yA33, yA37, yA38, yA39, yA40, yA41, yA42, yA43, yA44, yA46, yA47, yA48, yA49, yA51, yA52, yA53, yA54, yA55, yA56, yA57, yA58, yA60, yS3, yS5, yS6, yS7, yS8, yS9, yS10, yS11, yS12, yS14, yS15, yS16, yS17, yS18, yS19, yS20, yS22, yS23, yS24, yS25, yS26, yS27, yS28, yS30, yS31, yS32, yS33, yS37, yS38, yS39, yS40, yS41, yS42, yS43, yS44, yS46, yS47, yS48, yS49, yS51, yS52, yS53, yS54, yS55, yS56, yS57, yS58, yS60, a1, q3]
            · unfold f_X10_rule
              rw [gd, if_pos (yg61 H), yP61 H, Option.bind_some, i0, Option.bind_some, if_pos rfl]
              dsimp only [jn, lt]
              rw [i1t c1.1 c1.2.1, Option.bind_some, if_neg (show ¬ (1 : Int32) = 0 by decide), ru_mod s hs, if_neg (fun q => absurd (g3.mp q) (by omega)), yR61_1 H1, Option.bind_some, if_pos (ge20.mpr (by omega)), if_neg (fun q => absurd (ge30.mp q) (by omega)), hb11]
              rfl
          · refine ⟨z_i h 62 (15 + s % 10), z_si h 61 0 0, ?_, ?_, I.m⟩
            · unfold f_X9_rule
              have a1 : nI s - 30 = nI (s % 10) := by rw [n_30, nI_sub (by omega)]; congr 1; omega
              rw [gd, if_pos (yg0 H), yR0_0 H, Option.bind_some, yR1_1 H, Option.bind_some, if_neg n0, if_neg n1, if_neg n2, if_neg n3]
              dsimp only [jn]
              rw [if_neg (fun q => absurd (l10.mp q) (by omega)), if_pos (g13.mpr (by omega)), if_neg (fun q => absurd (l20.mp q) (by omega)), if_pos (g23.mpr (by omega)), if_neg (fun q => absurd (l30.mp q) (by omega)), if_neg (fun q => absurd (g33.mp q) (by omega))]
              simp (disch := first | assumption | omega) only [gd, lt, jn, bd2, Option.bind_some, LY_si, LY_sl, LY_row, decide_true, decide_false, if_true, ite_true, ite_false, decide_eq_true_eq, yg0, yg1, yg2, yg4, yg13, yg21, yg29, yg35, yg36, yg45, yg50, yg59, yI0, yI1, yI2, yI4, yI13, yI21, yI29, yI35, yI36, yI45, yI50, yI59, yP0, yP1, yP2, yP4, yP13, yP21, yP29, yP35, yP36, yP45, yP50, yP59, yR0_0, yR0_1, yR0_2, yR0_3, yR0_4, yR1_0, yR1_1, yR1_2, yR1_3, yR1_4, yR1_5, yR2_0, yR4_4, yR4_5, yR4_6, yR4_7, yR4_8, yR4_9, yR4_10, yR4_11, yR13_1, yR13_2, yR13_3, yR13_4, yR13_5, yR13_6, yR13_7, yR21_1, yR21_2, yR21_3, yR21_4, yR21_5, yR21_6, yR21_7, yR29_0, yR29_1, yR29_2, yR35_0, yR35_1, yR35_2, yR35_3, yR35_4, yR36_4, yR36_5, yR36_6, yR36_7, yR36_8, yR36_9, yR36_10, yR36_11, yR45_0, yR50_0, yR50_1, yR50_2, yR50_3, yR50_4, yR50_5, yR50_6, yR50_7, yR59_1, yA3, yA5, yA6, yA7, yA8, yA9, yA10, yA11, yA12, yA14, yA15, yA16, yA17, yA18, yA19, yA20, yA22, yA23, yA24, yA25, yA26, yA27, yA28, yA30, yA31, yA32, yA33, yA37, yA38, yA39, yA40, yA41, yA42, yA43, yA44, yA46, yA47, yA48, yA49, yA51, yA52, yA53, yA54, yA55, yA56, yA57, yA58, yA60, yS3, yS5, yS6, yS7, yS8, yS9, yS10, yS11, yS12, yS14, yS15, yS16, yS17, yS18, yS19, yS20, yS22, yS23, yS24, yS25, yS26, yS27, yS28, yS30, yS31, yS32, yS33, yS37, yS38, yS39, yS40, yS41, yS42, yS43, yS44, yS46, yS47, yS48, yS49, yS51, yS52, yS53, yS54, yS55, yS56, yS57, yS58, yS60, a1, q4]
            · unfold f_X10_rule
              rw [gd, if_pos (yg61 H), yP61 H, Option.bind_some, i0, Option.bind_some, if_pos rfl]
              dsimp only [jn, lt]
              rw [i1t c1.1 c1.2.1, Option.bind_some, if_neg (show ¬ (1 : Int32) = 0 by decide), ru_mod s hs, if_neg (fun q => absurd (g3.mp q) (by omega)), yR61_1 H1, Option.bind_some, if_pos (ge20.mpr (by omega)), if_pos (ge30.mpr (by omega)), hb15]
              rfl
      · by_cases c2 : 41 ≤ s
        · refine ⟨z_i h 62 (19 + 25 * (s - 41)), z_si h 61 0 0, ?_, ?_, I.m⟩
          · unfold f_X9_rule
            have a1 : nI s - 40 = nI (s - 41 + 1) := by rw [n_40, nI_sub (by omega)]; congr 1; omega
            rw [gd, if_pos (yg0 H), yR0_0 H, Option.bind_some, yR1_1 H, Option.bind_some, if_neg n0, if_neg n1, if_neg n2, if_neg n3]
            dsimp only [jn]
            rw [if_neg (fun q => absurd (l10.mp q) (by omega)), if_pos (g13.mpr (by omega)), if_neg (fun q => absurd (l20.mp q) (by omega)), if_pos (g23.mpr (by omega)), if_neg (fun q => absurd (l30.mp q) (by omega)), if_pos (g33.mpr (by omega)), if_neg (fun q => absurd (l40.mp q) (by omega)), if_neg (fun q => absurd (g45.mp q) (by omega))]
            simp (disch := first | assumption | omega) only [gd, lt, jn, bd2, Option.bind_some, LY_si, LY_sl, LY_row, decide_true, decide_false, if_true, ite_true, ite_false, decide_eq_true_eq, yg0, yg1, yg2, yg4, yg13, yg21, yg29, yg35, yg36, yg45, yg50, yg59, yI0, yI1, yI2, yI4, yI13, yI21, yI29, yI35, yI36, yI45, yI50, yI59, yP0, yP1, yP2, yP4, yP13, yP21, yP29, yP35, yP36, yP45, yP50, yP59, yR0_0, yR0_1, yR0_2, yR0_3, yR0_4, yR1_0, yR1_1, yR1_2, yR1_3, yR1_4, yR1_5, yR2_0, yR4_4, yR4_5, yR4_6, yR4_7, yR4_8, yR4_9, yR4_10, yR4_11, yR13_1, yR13_2, yR13_3, yR13_4, yR13_5, yR13_6, yR13_7, yR21_1, yR21_2, yR21_3, yR21_4, yR21_5, yR21_6, yR21_7, yR29_0, yR29_1, yR29_2, yR35_0, yR35_1, yR35_2, yR35_3, yR35_4, yR36_4, yR36_5, yR36_6, yR36_7, yR36_8, yR36_9, yR36_10, yR36_11, yR45_0, yR50_0, yR50_1, yR50_2, yR50_3, yR50_4, yR50_5, yR50_6, yR50_7, yR59_1, yA3, yA5, yA6, yA7, yA8, yA9, yA10, yA11, yA12, yA14, yA15, yA16, yA17, yA18, yA19, yA20, yA22, yA23, yA24, yA25, yA26, yA27, yA28, yA30, yA31, yA32, yA33, yA37, yA38, yA39, yA40, yA41, yA42, yA43, yA44, yA46, yA47, yA48, yA49, yA51, yA52, yA53, yA54, yA55, yA56, yA57, yA58, yA60, yS3, yS5, yS6, yS7, yS8, yS9, yS10, yS11, yS12, yS14, yS15, yS16, yS17, yS18, yS19, yS20, yS22, yS23, yS24, yS25, yS26, yS27, yS28, yS30, yS31, yS32, yS33, yS37, yS38, yS39, yS40, yS41, yS42, yS43, yS44, yS46, yS47, yS48, yS49, yS51, yS52, yS53, yS54, yS55, yS56, yS57, yS58, yS60, a1, q5]
          · unfold f_X10_rule
            have a1 : aI (z_si h 61 0 0) 62 (19 + 25 * (nI s - 41)) = some (z_i h 62 (19 + 25 * (s - 41))) := by
              rw [n_19, n_25, n_41, nI_sub (by omega), nI_mul, nI_add]
              exact yA62 H1 (by omega)
            rw [gd, if_pos (yg61 H), yP61 H, Option.bind_some, i0, Option.bind_some, if_pos rfl]
            dsimp only [jn, lt]
            rw [i1f (by omega), Option.bind_some, if_pos rfl, i2t c2, Option.bind_some, if_neg (show ¬ (1 : Int32) = 0 by decide), yR61_1 H1, Option.bind_some, a1]
            rfl
        · refine ⟨-2, z_si h 61 0 0, ?_, ?_, I.m⟩
          · unfold f_X9_rule
            rw [gd, if_pos (yg0 H), yR0_0 H, Option.bind_some, yR1_1 H, Option.bind_some, if_neg n0, if_neg n1, if_neg n2, if_neg n3]
            dsimp only [jn]
            rw [if_pos (l40.mpr (show s ≤ 40 by omega))]
            by_cases d1 : s < 10
            · rw [if_pos (l10.mpr d1), if_pos (l20.mpr (by omega)), if_pos (l30.mpr (by omega))]
            · rw [if_neg (fun q => d1 (l10.mp q)), if_pos (g13.mpr (by omega))]
              by_cases d2 : s < 20
              · rw [if_pos (l20.mpr d2), if_pos (l30.mpr (by omega))]
              · rw [if_neg (fun q => d2 (l20.mp q)), if_pos (g23.mpr (by omega))]
                by_cases d3 : s < 30
                · rw [if_pos (l30.mpr d3)]
                · rw [if_neg (fun q => d3 (l30.mp q)), if_pos (g33.mpr (by omega))]
          · unfold f_X10_rule
            rw [gd, if_pos (yg61 H), yP61 H, Option.bind_some, i0, Option.bind_some, if_pos rfl]
            dsimp only [jn, lt]
            rw [i2f c2, Option.bind_some, if_pos rfl]
            by_cases d1 : 10 ≤ s ∧ s ≤ 39
            · rw [i1t d1.1 d1.2, Option.bind_some, if_neg (show ¬ (1 : Int32) = 0 by decide), ru_mod s hs, if_pos (g3.mpr (by omega))]
            · rw [i1f d1, Option.bind_some, if_pos rfl]
  · have ho : ∀ a b : Nat, a ≤ 45 → b ≤ 45 → ¬ (nI a ≤ x ∧ x ≤ nI b)   := fun a b ha hb q => by
      rcases hx with z | ⟨z1, z2⟩
      · exact absurd z (Int32.not_lt.mpr (Int32.le_trans (nI_pos' (by omega)) q.1))
      · exact nI_ge (a := b) (b := 46) (by omega) (by omega) (Int32.le_trans z2 q.2)
    have n0 : ¬ x = 0 := hns 0 (by omega)
    have n1 : ¬ x = 1 := hns 1 (by omega)
    have n2 : ¬ x = 2 := hns 2 (by omega)
    have n3 : ¬ x = 3 := hns 3 (by omega)
    refine ⟨-2, z_si h 61 0 0, ?_, ?_, I.m⟩
    · unfold f_X9_rule
      rw [gd, if_pos (yg0 H), yR0_0 H, Option.bind_some, yR1_1 H, Option.bind_some, if_neg n0, if_neg n1, if_neg n2, if_neg n3]
      dsimp only [jn]
      rcases hx with z | ⟨z1, z2⟩
      · have t : ∀ b : Int32, 0 ≤ b → x < b := fun b hb => Int32.lt_of_lt_of_le z hb
        rw [if_pos (t 10 (by decide)), if_pos (t 20 (by decide)), if_pos (t 30 (by decide)), if_pos (Int32.le_of_lt (t 40 (by decide)))]
      · have t : ∀ b : Int32, b < 46 → b < x := fun b hb => Int32.lt_of_lt_of_le hb z2
        rw [if_neg (Int32.not_lt.mpr (Int32.le_of_lt (t 10 (by decide)))), if_pos (t 13 (by decide)), if_neg (Int32.not_lt.mpr (Int32.le_of_lt (t 20 (by decide)))), if_pos (t 23 (by decide)), if_neg (Int32.not_lt.mpr (Int32.le_of_lt (t 30 (by decide)))), if_pos (t 33 (by decide)), if_neg (Int32.not_le.mpr (t 40 (by decide))), if_pos (t 45 (by decide))]
    · unfold f_X10_rule
      have i0 : f_X10_in (z_si h 61 0 0) x 0 3 = some 0 := e_in_f (ho 0 3 (by omega) (by omega))
      have i1 : f_X10_in (z_si h 61 0 0) x 10 39 = some 0 := e_in_f (ho 10 39 (by omega) (by omega))
      have i2 : f_X10_in (z_si h 61 0 0) x 41 45 = some 0 := e_in_f (ho 41 45 (by omega) (by omega))
      simp (disch := first | assumption | omega) only [gd, lt, jn, bd2, Option.bind_some, LY_si, LY_sl, LY_row, decide_true, decide_false, if_true, ite_true, ite_false, decide_eq_true_eq, yg61, yI61, yP61, yR61_1, yR61_2, yR61_12, yR61_13, yR61_17, yR61_18, yR61_21, yR61_22, yR61_23, yR61_25, yA62, yA63, yA64, yA65, yA66, yA67, yA68, yA69, yA70, yA71, yS62, yS63, yS64, yS65, yS66, yS67, yS68, yS69, yS70, yS71, i0, i1, i2]
