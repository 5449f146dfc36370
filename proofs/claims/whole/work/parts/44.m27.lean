/-! what quote and repaid answer -/
def ansS (n : Nat) (F : Nat → Int32) (x y : Int32) : Int32 := if x = 0 then nI n else if (1 : Int32) ≤ x ∧ x ≤ nI n then (if (0 : Int32) ≤ y ∧ y ≤ 6 then F (7 * (x.toNatClampNeg - 1) + y.toNatClampNeg) else -2) else -2
theorem in_g {n : Nat} {x : Int32} (hn : n < 2 ^ 30) (hx : x < 0 ∨ (¬ x < 0 ∧ nI (n + 1) ≤ x)) : ¬ ((1 : Int32) ≤ x ∧ x ≤ nI n) := by
  rintro ⟨h1, h2⟩
  rcases hx with q | ⟨q1, q2⟩
  · exact absurd (Int32.lt_of_lt_of_le q (show (0 : Int32) ≤ 1 by decide)) (Int32.not_lt.mpr h1)
  · exact nI_ge (by omega : n < n + 1) (by omega) (Int32.le_trans q2 h2)
theorem c_answer {h : Z_H} (H : LY h) {n : Nat} {F : Nat → Int32} (hn : n ≤ 5) (e0 : z_i h 59 0 = nI n) (eF : ∀ i, i < 7 * n → z_i h 60 i = F i) {x y : Int32} : f_X2_answer h 59 x y = some (ansS n F x y) := by
  by_cases hx0 : x = 0
  · unfold f_X2_answer ansS
    simp (disch := first | assumption | omega) only [gd, lt, jn, bd2, Option.bind_some, LY_si, LY_sl, LY_row, decide_true, decide_false, if_true, ite_true, ite_false, decide_eq_true_eq, yg0, yg1, yg2, yg4, yg13, yg21, yg29, yg35, yg36, yg45, yg50, yg59, yI0, yI1, yI2, yI4, yI13, yI21, yI29, yI35, yI36, yI45, yI50, yI59, yP0, yP1, yP2, yP4, yP13, yP21, yP29, yP35, yP36, yP45, yP50, yP59, yR0_0, yR0_1, yR0_2, yR0_3, yR0_4, yR1_0, yR1_1, yR1_2, yR1_3, yR1_4, yR1_5, yR2_0, yR4_4, yR4_5, yR4_6, yR4_7, yR4_8, yR4_9, yR4_10, yR4_11, yR13_1, yR13_2, yR13_3, yR13_4, yR13_5, yR13_6, yR13_7, yR21_1, yR21_2, yR21_3, yR21_4, yR21_5, yR21_6, yR21_7, yR29_0, yR29_1, yR29_2, yR35_0, yR35_1, yR35_2, yR35_3, yR35_4, yR36_4, yR36_5, yR36_6, yR36_7, yR36_8, yR36_9, yR36_10, yR36_11, yR45_0, yR50_0, yR50_1, yR50_2, yR50_3, yR50_4, yR50_5, yR50_6, yR50_7, yR59_1, yA3, yA5, yA6, yA7, yA8, yA9, yA10, yA11, yA12, yA14, yA15, yA16, yA17, yA18, yA19, yA20, yA22, yA23, yA24, yA25, yA26, yA27, yA28, yA30, yA31, yA32, yA33, yA37, yA38, yA39, yA40, yA41, yA42, yA43, yA44, yA46, yA47, yA48, yA49, yA51, yA52, yA53, yA54, yA55, yA56, yA57, yA58, yA60, yS3, yS5, yS6, yS7, yS8, yS9, yS10, yS11, yS12, yS14, yS15, yS16, yS17, yS18, yS19, yS20, yS22, yS23, yS24, yS25, yS26, yS27, yS28, yS30, yS31, yS32, yS33, yS37, yS38, yS39, yS40, yS41, yS42, yS43, yS44, yS46, yS47, yS48, yS49, yS51, yS52, yS53, yS54, yS55, yS56, yS57, yS58, yS60, e0]
    rw [if_pos hx0, if_pos hx0]
  · rcases nI_or (x := x) (n := n + 1) (by omega) with ⟨s, hs, rfl⟩ | ⟨-, hx⟩
    · cases s with
      | zero => exact absurd nI_0 hx0
      | succ l =>
        have c1 : ¬ nI (l + 1) < 1 := nI_nlt (b := 1) (by omega) (by omega)
        have c2 : ¬ nI n < nI (l + 1) := nI_nlt (by omega) (by omega)
        have a1 : (1 : Int32) ≤ nI (l + 1) ∧ nI (l + 1) ≤ nI n := ⟨nI_le (a := 1) (by omega) (by omega), nI_le (by omega) (by omega)⟩
        rcases nI_or (x := y) (n := 7) (by omega) with ⟨f, hf, rfl⟩ | ⟨-, hy⟩
        · have b1 : ¬ nI f < 0 := nI_pos (by omega)
          have b2 : nI f < (7 : Int32) := nI_lt (b := 7) hf (by omega)
          have b3 : (0 : Int32) ≤ nI f ∧ nI f ≤ 6 := ⟨nI_pos' (by omega), nI_le (b := 6) (by omega) (by omega)⟩
          have ft : f_X2_fact h 59 (nI (l + 1)) (nI f) = some (F (7 * l + f)) := by
            unfold f_X2_fact
            rw [nI_p1, n_7, nI_mul, nI_add, Nat.mul_comm l 7]
            simp (disch := first | assumption | omega) only [gd, lt, jn, bd2, Option.bind_some, LY_si, LY_sl, LY_row, decide_true, decide_false, if_true, ite_true, ite_false, decide_eq_true_eq, yg0, yg1, yg2, yg4, yg13, yg21, yg29, yg35, yg36, yg45, yg50, yg59, yI0, yI1, yI2, yI4, yI13, yI21, yI29, yI35, yI36, yI45, yI50, yI59, yP0, yP1, yP2, yP4, yP13, yP21, yP29, yP35, yP36, yP45, yP50, yP59, yR0_0, yR0_1, yR0_2, yR0_3, yR0_4, yR1_0, yR1_1, yR1_2, yR1_3, yR1_4, yR1_5, yR2_0, yR4_4, yR4_5, yR4_6, yR4_7, yR4_8, yR4_9, yR4_10, yR4_11, yR13_1, yR13_2, yR13_3, yR13_4, yR13_5, yR13_6, yR13_7, yR21_1, yR21_2, yR21_3, yR21_4, yR21_5, yR21_6, yR21_7, yR29_0, yR29_1, yR29_2, yR35_0, yR35_1, yR35_2, yR35_3, yR35_4, yR36_4, yR36_5, yR36_6, yR36_7, yR36_8, yR36_9, yR36_10, yR36_11, yR45_0, yR50_0, yR50_1, yR50_2, yR50_3, yR50_4, yR50_5, yR50_6, yR50_7, yR59_1, yA3, yA5, yA6, yA7, yA8, yA9, yA10, yA11, yA12, yA14, yA15, yA16, yA17, yA18, yA19, yA20, yA22, yA23, yA24, yA25, yA26, yA27, yA28, yA30, yA31, yA32, yA33, yA37, yA38, yA39, yA40, yA41, yA42, yA43, yA44, yA46, yA47, yA48, yA49, yA51, yA52, yA53, yA54, yA55, yA56, yA57, yA58, yA60, yS3, yS5, yS6, yS7, yS8, yS9, yS10, yS11, yS12, yS14, yS15, yS16, yS17, yS18, yS19, yS20, yS22, yS23, yS24, yS25, yS26, yS27, yS28, yS30, yS31, yS32, yS33, yS37, yS38, yS39, yS40, yS41, yS42, yS43, yS44, yS46, yS47, yS48, yS49, yS51, yS52, yS53, yS54, yS55, yS56, yS57, yS58, yS60]
            rw [eF _ (by omega)]
          unfold f_X2_answer ansS
          simp (disch := first | assumption | omega) only [gd, lt, jn, bd2, Option.bind_some, LY_si, LY_sl, LY_row, decide_true, decide_false, if_true, ite_true, ite_false, decide_eq_true_eq, yg0, yg1, yg2, yg4, yg13, yg21, yg29, yg35, yg36, yg45, yg50, yg59, yI0, yI1, yI2, yI4, yI13, yI21, yI29, yI35, yI36, yI45, yI50, yI59, yP0, yP1, yP2, yP4, yP13, yP21, yP29, yP35, yP36, yP45, yP50, yP59, yR0_0, yR0_1, yR0_2, yR0_3, yR0_4, yR1_0, yR1_1, yR1_2, yR1_3, yR1_4, yR1_5, yR2_0, yR4_4, yR4_5, yR4_6, yR4_7, yR4_8, yR4_9, yR4_10, yR4_11, yR13_1, yR13_2, yR13_3, yR13_4, yR13_5, yR13_6, yR13_7, yR21_1, yR21_2, yR21_3, yR21_4, yR21_5, yR21_6, yR21_7, yR29_0, yR29_1, yR29_2, yR35_0, yR35_1, yR35_2, yR35_3, yR35_4, yR36_4, yR36_5, yR36_6, yR36_7, yR36_8, yR36_9, yR36_10, yR36_11, yR45_0, yR50_0, yR50_1, yR50_2, yR50_3, yR50_4, yR50_5, yR50_6, yR50_7, yR59_1, yA3, yA5, yA6, yA7, yA8, yA9, yA10, yA11, yA12, yA14, yA15, yA16, yA17, yA18, yA19, yA20, yA22, yA23, yA24, yA25, yA26, yA27, yA28, yA30, yA31, yA32, yA33, yA37, yA38, yA39, yA40, yA41, yA42, yA43, yA44, yA46, yA47, yA48, yA49, yA51, yA52, yA53, yA54, yA55, yA56, yA57, yA58, yA60, yS3, yS5, yS6, yS7, yS8, yS9, yS10, yS11, yS12, yS14, yS15, yS16, yS17, yS18, yS19, yS20, yS22, yS23, yS24, yS25, yS26, yS27, yS28, yS30, yS31, yS32, yS33, yS37, yS38, yS39, yS40, yS41, yS42, yS43, yS44, yS46, yS47, yS48, yS49, yS51, yS52, yS53, yS54, yS55, yS56, yS57, yS58, yS60, e0, ft]
          rw [if_neg hx0, if_neg hx0, if_neg c1, if_neg c2, if_neg b1, if_pos b2, if_pos a1, if_pos b3, nI_clamp (by omega), nI_clamp (by omega), Nat.add_sub_cancel]
        · have b3 : ¬ ((0 : Int32) ≤ y ∧ y ≤ 6) := in_f' (n := 6) (by omega) hy
          unfold f_X2_answer ansS
          simp (disch := first | assumption | omega) only [gd, lt, jn, bd2, Option.bind_some, LY_si, LY_sl, LY_row, decide_true, decide_false, if_true, ite_true, ite_false, decide_eq_true_eq, yg0, yg1, yg2, yg4, yg13, yg21, yg29, yg35, yg36, yg45, yg50, yg59, yI0, yI1, yI2, yI4, yI13, yI21, yI29, yI35, yI36, yI45, yI50, yI59, yP0, yP1, yP2, yP4, yP13, yP21, yP29, yP35, yP36, yP45, yP50, yP59, yR0_0, yR0_1, yR0_2, yR0_3, yR0_4, yR1_0, yR1_1, yR1_2, yR1_3, yR1_4, yR1_5, yR2_0, yR4_4, yR4_5, yR4_6, yR4_7, yR4_8, yR4_9, yR4_10, yR4_11, yR13_1, yR13_2, yR13_3, yR13_4, yR13_5, yR13_6, yR13_7, yR21_1, yR21_2, yR21_3, yR21_4, yR21_5, yR21_6, yR21_7, yR29_0, yR29_1, yR29_2, yR35_0, yR35_1, yR35_2, yR35_3, yR35_4, yR36_4, yR36_5, yR36_6, yR36_7, yR36_8, yR36_9, yR36_10, yR36_11, yR45_0, yR50_0, yR50_1, yR50_2, yR50_3, yR50_4, yR50_5, yR50_6, yR50_7, yR59_1, yA3, yA5, yA6, yA7, yA8, yA9, yA10, yA11, yA12, yA14, yA15, yA16, yA17, yA18, yA19, yA20, yA22, yA23, yA24, yA25, yA26, yA27, yA28, yA30, yA31, yA32, yA33, yA37, yA38, yA39, yA40, yA41, yA42, yA43, yA44, yA46, yA47, yA48, yA49, yA51, yA52, yA53, yA54, yA55, yA56, yA57, yA58, yA60, yS3, yS5, yS6, yS7, yS8, yS9, yS10, yS11, yS12, yS14, yS15, yS16, yS17, yS18, yS19, yS20, yS22, yS23, yS24, yS25, yS26, yS27, yS28, yS30, yS31, yS32, yS33, yS37, yS38, yS39, yS40, yS41, yS42, yS43, yS44, yS46, yS47, yS48, yS49, yS51, yS52, yS53, yS54, yS55, yS56, yS57, yS58, yS60, e0]
          rw [if_neg hx0, if_neg hx0, if_neg c1, if_neg c2, if_pos a1, if_neg b3]
          rcases hy with q | ⟨q1, q2⟩
          · rw [if_pos q]
          · rw [if_neg q1, if_neg (show ¬ y < (7 : Int32) from Int32.not_lt.mpr q2)]
    · have a1 := in_g (n := n) (by omega) hx
      unfold f_X2_answer ansS
      simp (disch := first | assumption | omega) only [gd, lt, jn, bd2, Option.bind_some, LY_si, LY_sl, LY_row, decide_true, decide_false, if_true, ite_true, ite_false, decide_eq_true_eq, yg0, yg1, yg2, yg4, yg13, yg21, yg29, yg35, yg36, yg45, yg50, yg59, yI0, yI1, yI2, yI4, yI13, yI21, yI29, yI35, yI36, yI45, yI50, yI59, yP0, yP1, yP2, yP4, yP13, yP21, yP29, yP35, yP36, yP45, yP50, yP59, yR0_0, yR0_1, yR0_2, yR0_3, yR0_4, yR1_0, yR1_1, yR1_2, yR1_3, yR1_4, yR1_5, yR2_0, yR4_4, yR4_5, yR4_6, yR4_7, yR4_8, yR4_9, yR4_10, yR4_11, yR13_1, yR13_2, yR13_3, yR13_4, yR13_5, yR13_6, yR13_7, yR21_1, yR21_2, yR21_3, yR21_4, yR21_5, yR21_6, yR21_7, yR29_0, yR29_1, yR29_2, yR35_0, yR35_1, yR35_2, yR35_3, yR35_4, yR36_4, yR36_5, yR36_6, yR36_7, yR36_8, yR36_9, yR36_10, yR36_11, yR45_0, yR50_0, yR50_1, yR50_2, yR50_3, yR50_4, yR50_5, yR50_6, yR50_7, yR59_1, yA3, yA5, yA6, yA7, yA8, yA9, yA10, yA11, yA12, yA14, yA15, yA16, yA17, yA18, yA19, yA20, yA22, yA23, yA24, yA25, yA26, yA27, yA28, yA30, yA31, yA32, yA33, yA37, yA38, yA39, yA40, yA41, yA42, yA43, yA44, yA46, yA47, yA48, yA49, yA51, yA52, yA53, yA54, yA55, yA56, yA57, yA58, yA60, yS3, yS5, yS6, yS7, yS8, yS9, yS10, yS11, yS12, yS14, yS15, yS16, yS17, yS18, yS19, yS20, yS22, yS23, yS24, yS25, yS26, yS27, yS28, yS30, yS31, yS32, yS33, yS37, yS38, yS39, yS40, yS41, yS42, yS43, yS44, yS46, yS47, yS48, yS49, yS51, yS52, yS53, yS54, yS55, yS56, yS57, yS58, yS60, e0]
      rw [if_neg hx0, if_neg hx0, if_neg a1]
      rcases hx with q | ⟨q1, q2⟩
      · rw [if_pos (Int32.lt_of_lt_of_le q (show (0 : Int32) ≤ 1 by decide))]
      · by_cases c1 : x < 1
        · rw [if_pos c1]
        · rw [if_neg c1, if_pos (Int32.lt_of_lt_of_le (nI_lt (by omega : n < n + 1) (by omega)) q2)]
theorem e_ofPaid {h : Z_H} (H : LY h) {n : Nat} {F : Nat → Int32} (hn : n ≤ 5) (e0 : z_i h 61 24 = nI n) (eF : ∀ i, i < 7 * n → z_i h 70 i = F i) {x y : Int32} (hx0 : ¬ x = 0) : f_X10_ofPaid h 61 x y = some (ansS n F x y) := by
  rcases nI_or (x := x) (n := n + 1) (by omega) with ⟨s, hs, rfl⟩ | ⟨-, hx⟩
  · cases s with
    | zero => exact absurd nI_0 hx0
    | succ l =>
      have a1 : (1 : Int32) ≤ nI (l + 1) ∧ nI (l + 1) ≤ nI n := ⟨nI_le (a := 1) (by omega) (by omega), nI_le (by omega) (by omega)⟩
      rcases nI_or (x := y) (n := 7) (by omega) with ⟨f, hf, rfl⟩ | ⟨-, hy⟩
      · have b3 : (0 : Int32) ≤ nI f ∧ nI f ≤ 6 := ⟨nI_pos' (by omega), nI_le (b := 6) (by omega) (by omega)⟩
        have ix : (7 : Int32) * (nI (l + 1) - 1) + nI f = nI (7 * l + f) := by rw [nI_p1, n_7, nI_mul, nI_add]
        unfold f_X10_ofPaid ansS
        simp (disch := first | assumption | omega) only [gd, lt, jn, bd2, Option.bind_some, LY_si, LY_sl, LY_row, decide_true, decide_false, if_true, ite_true, ite_false, decide_eq_true_eq, yg61, yI61, yP61, yR61_1, yR61_2, yR61_12, yR61_13, yR61_17, yR61_18, yR61_21, yR61_22, yR61_23, yR61_25, yA62, yA63, yA64, yA65, yA66, yA67, yA68, yA69, yA70, yA71, yS62, yS63, yS64, yS65, yS66, yS67, yS68, yS69, yS70, yS71, e0, e_in_t a1.1 a1.2, e_in_t b3.1 b3.2, ix]
        rw [if_neg hx0, if_pos a1, if_pos b3, nI_clamp (by omega), nI_clamp (by omega), Nat.add_sub_cancel, if_neg (by decide), if_neg (by decide), eF _ (by omega)]
      · have b3 : ¬ ((0 : Int32) ≤ y ∧ y ≤ 6) := in_f' (n := 6) (by omega) hy
        unfold f_X10_ofPaid ansS
        simp (disch := first | assumption | omega) only [gd, lt, jn, bd2, Option.bind_some, LY_si, LY_sl, LY_row, decide_true, decide_false, if_true, ite_true, ite_false, decide_eq_true_eq, yg61, yI61, yP61, yR61_1, yR61_2, yR61_12, yR61_13, yR61_17, yR61_18, yR61_21, yR61_22, yR61_23, yR61_25, yA62, yA63, yA64, yA65, yA66, yA67, yA68, yA69, yA70, yA71, yS62, yS63, yS64, yS65, yS66, yS67, yS68, yS69, yS70, yS71, e0, e_in_t a1.1 a1.2, e_in_f b3]
        rw [if_neg hx0, if_pos a1, if_neg b3, if_neg (by decide)]
  · have a1 := in_g (n := n) (by omega) hx
    unfold f_X10_ofPaid ansS
    simp (disch := first | assumption | omega) only [gd, lt, jn, bd2, Option.bind_some, LY_si, LY_sl, LY_row, decide_true, decide_false, if_true, ite_true, ite_false, decide_eq_true_eq, yg61, yI61, yP61, yR61_1, yR61_2, yR61_12, yR61_13, yR61_17, yR61_18, yR61_21, yR61_22, yR61_23, yR61_25, yA62, yA63, yA64, yA65, yA66, yA67, yA68, yA69, yA70, yA71, yS62, yS63, yS64, yS65, yS66, yS67, yS68, yS69, yS70, yS71, e0, e_in_f a1]
    rw [if_neg hx0, if_neg a1]
/-! who can sell -/
def csS (A : Nat → Int32) (s : Nat) (y : Int32) : Bool := decide (A (147 + 94 * s + 1) = -1 ∧ (1 : Int32) ≤ y ∧ y ≤ 9999)
theorem c_canSell_t {h : Z_H} {A : Nat → Int32} (C : CA h A) {s : Nat} (hs : s < nn A) {y : Int32} : f_X9_canSell h 0 (nI s) y = some (if csS A s y then 1 else 0) := by
  have H := C.1
  unfold f_X9_canSell csS
  simp (disch := first | assumption | omega) only [gd, lt, jn, bd2, Option.bind_some, LY_si, LY_sl, LY_row, decide_true, decide_false, if_true, ite_true, ite_false, decide_eq_true_eq, yg0, yg1, yg2, yg4, yg13, yg21, yg29, yg35, yg36, yg45, yg50, yg59, yI0, yI1, yI2, yI4, yI13, yI21, yI29, yI35, yI36, yI45, yI50, yI59, yP0, yP1, yP2, yP4, yP13, yP21, yP29, yP35, yP36, yP45, yP50, yP59, yR0_0, yR0_1, yR0_2, yR0_3, yR0_4, yR1_0, yR1_1, yR1_2, yR1_3, yR1_4, yR1_5, yR2_0, yR4_4, yR4_5, yR4_6, yR4_7, yR4_8, yR4_9, yR4_10, yR4_11, yR13_1, yR13_2, yR13_3, yR13_4, yR13_5, yR13_6, yR13_7, yR21_1, yR21_2, yR21_3, yR21_4, yR21_5, yR21_6, yR21_7, yR29_0, yR29_1, yR29_2, yR35_0, yR35_1, yR35_2, yR35_3, yR35_4, yR36_4, yR36_5, yR36_6, yR36_7, yR36_8, yR36_9, yR36_10, yR36_11, yR45_0, yR50_0, yR50_1, yR50_2, yR50_3, yR50_4, yR50_5, yR50_6, yR50_7, yR59_1, yA3, yA5, yA6, yA7, yA8, yA9, yA10, yA11, yA12, yA14, yA15, yA16, yA17, yA18, yA19, yA20, yA22, yA23, yA24, yA25, yA26, yA27, yA28, yA30, yA31, yA32, yA33, yA37, yA38, yA39, yA40, yA41, yA42, yA43, yA44, yA46, yA47, yA48, yA49, yA51, yA52, yA53, yA54, yA55, yA56, yA57, yA58, yA60, yS3, yS5, yS6, yS7, yS8, yS9, yS10, yS11, yS12, yS14, yS15, yS16, yS17, yS18, yS19, yS20, yS22, yS23, yS24, yS25, yS26, yS27, yS28, yS30, yS31, yS32, yS33, yS37, yS38, yS39, yS40, yS41, yS42, yS43, yS44, yS46, yS47, yS48, yS49, yS51, yS52, yS53, yS54, yS55, yS56, yS57, yS58, yS60, c_works_t C hs]
  by_cases q : A (147 + 94 * s + 1) = -1
  · rw [if_pos q, if_neg (show ¬ (1 : Int32) = 0 by decide)]
    by_cases c1 : y < 1
    · rw [if_pos c1, if_neg (fun w => absurd c1 (Int32.not_lt.mpr w.2.1))]
    · rw [if_neg c1]
      by_cases c2 : (9999 : Int32) < y
      · rw [if_pos c2, if_neg (fun w => absurd c2 (Int32.not_lt.mpr w.2.2))]
      · rw [if_neg c2, if_pos ⟨q, Int32.not_lt.mp c1, Int32.not_lt.mp c2⟩]
  · rw [if_neg q, if_pos rfl, if_neg (fun w => q w.1)]
theorem c_canSell_f {h : Z_H} {A : Nat → Int32} (C : CA h A) {x y : Int32} (hx : x < 0 ∨ (¬ x < 0 ∧ nI (nn A) ≤ x)) : f_X9_canSell h 0 x y = some 0 := by
  have H := C.1
  unfold f_X9_canSell
  simp (disch := first | assumption | omega) only [gd, lt, jn, bd2, Option.bind_some, LY_si, LY_sl, LY_row, decide_true, decide_false, if_true, ite_true, ite_false, decide_eq_true_eq, yg0, yg1, yg2, yg4, yg13, yg21, yg29, yg35, yg36, yg45, yg50, yg59, yI0, yI1, yI2, yI4, yI13, yI21, yI29, yI35, yI36, yI45, yI50, yI59, yP0, yP1, yP2, yP4, yP13, yP21, yP29, yP35, yP36, yP45, yP50, yP59, yR0_0, yR0_1, yR0_2, yR0_3, yR0_4, yR1_0, yR1_1, yR1_2, yR1_3, yR1_4, yR1_5, yR2_0, yR4_4, yR4_5, yR4_6, yR4_7, yR4_8, yR4_9, yR4_10, yR4_11, yR13_1, yR13_2, yR13_3, yR13_4, yR13_5, yR13_6, yR13_7, yR21_1, yR21_2, yR21_3, yR21_4, yR21_5, yR21_6, yR21_7, yR29_0, yR29_1, yR29_2, yR35_0, yR35_1, yR35_2, yR35_3, yR35_4, yR36_4, yR36_5, yR36_6, yR36_7, yR36_8, yR36_9, yR36_10, yR36_11, yR45_0, yR50_0, yR50_1, yR50_2, yR50_3, yR50_4, yR50_5, yR50_6, yR50_7, yR59_1, yA3, yA5, yA6, yA7, yA8, yA9, yA10, yA11, yA12, yA14, yA15, yA16, yA17, yA18, yA19, yA20, yA22, yA23, yA24, yA25, yA26, yA27, yA28, yA30, yA31, yA32, yA33, yA37, yA38, yA39, yA40, yA41, yA42, yA43, yA44, yA46, yA47, yA48, yA49, yA51, yA52, yA53, yA54, yA55, yA56, yA57, yA58, yA60, yS3, yS5, yS6, yS7, yS8, yS9, yS10, yS11, yS12, yS14, yS15, yS16, yS17, yS18, yS19, yS20, yS22, yS23, yS24, yS25, yS26, yS27, yS28, yS30, yS31, yS32, yS33, yS37, yS38, yS39, yS40, yS41, yS42, yS43, yS44, yS46, yS47, yS48, yS49, yS51, yS52, yS53, yS54, yS55, yS56, yS57, yS58, yS60, c_works_f C hx]
def cmS (A : Nat → Int32) (s : Nat) (z : Int32) : Bool := decide (gre (A (147 + 94 * s + 0)) (A 144 - 2) ≤ z ∧ z ≤ A 144)
theorem e_canSell_t {h : Z_H} (H : LY h) (hN : VN (z_i h 62)) {s : Nat} (hs : s < nn (z_i h 62)) {y z : Int32} : f_X10_canSell h 61 (nI s) y z = some (if csS (z_i h 62) s y && cmS (z_i h 62) s z then 1 else 0) := by
  have h10 := hN.2.1
  unfold f_X10_canSell csS cmS
  simp (disch := first | assumption | omega) only [gd, lt, jn, bd2, Option.bind_some, LY_si, LY_sl, LY_row, decide_true, decide_false, if_true, ite_true, ite_false, decide_eq_true_eq, yg61, yI61, yP61, yR61_1, yR61_2, yR61_12, yR61_13, yR61_17, yR61_18, yR61_21, yR61_22, yR61_23, yR61_25, yA62, yA63, yA64, yA65, yA66, yA67, yA68, yA69, yA70, yA71, yS62, yS63, yS64, yS65, yS66, yS67, yS68, yS69, yS70, yS71, e_isS_t H hN hs, e_hasQuit, e_os0, e_now, e_greater, e_in]
  rw [if_neg (show ¬ (1 : Int32) = 0 by decide)]
  by_cases q : z_i h 62 (147 + 94 * s + 1) = -1
  · rw [if_pos q, if_pos rfl]
    by_cases c1 : (1 : Int32) ≤ y ∧ y ≤ 9999
    · rw [if_pos c1, if_neg (show ¬ (1 : Int32) = 0 by decide)]
      have : decide (z_i h 62 (147 + 94 * s + 1) = -1 ∧ (1 : Int32) ≤ y ∧ y ≤ 9999) = true := by simpa using ⟨q, c1⟩
      rw [this, Bool.true_and]
      by_cases c2 : gre (z_i h 62 (147 + 94 * s + 0)) (z_i h 62 144 - 2) ≤ z ∧ z ≤ z_i h 62 144
      · rw [if_pos c2, if_neg (show ¬ (1 : Int32) = 0 by decide), decide_eq_true c2]
        rfl
      · rw [if_neg c2, if_pos rfl, decide_eq_false c2]
        rfl
    · rw [if_neg c1, if_pos rfl]
      have : decide (z_i h 62 (147 + 94 * s + 1) = -1 ∧ (1 : Int32) ≤ y ∧ y ≤ 9999) = false := decide_eq_false (fun w => c1 w.2)
      rw [this]
      rfl
  · rw [if_neg q, if_neg (show ¬ (1 : Int32) = 0 by decide)]
    have : decide (z_i h 62 (147 + 94 * s + 1) = -1 ∧ (1 : Int32) ≤ y ∧ y ≤ 9999) = false := decide_eq_false (fun w => q w.1)
    rw [this]
    rfl
theorem e_canSell_f {h : Z_H} (H : LY h) (hN : VN (z_i h 62)) {x y z : Int32} (hx : x < 0 ∨ (¬ x < 0 ∧ nI (nn (z_i h 62)) ≤ x)) : f_X10_canSell h 61 x y z = some 0 := by
  unfold f_X10_canSell
  simp (disch := first | assumption | omega) only [gd, lt, jn, bd2, Option.bind_some, LY_si, LY_sl, LY_row, decide_true, decide_false, if_true, ite_true, ite_false, decide_eq_true_eq, yg61, yI61, yP61, yR61_1, yR61_2, yR61_12, yR61_13, yR61_17, yR61_18, yR61_21, yR61_22, yR61_23, yR61_25, yA62, yA63, yA64, yA65, yA66, yA67, yA68, yA69, yA70, yA71, yS62, yS63, yS64, yS65, yS66, yS67, yS68, yS69, yS70, yS71, e_isS_f H hN hx]
/-- the month as it is now can be sold in -/
theorem cm_now {A : Nat → Int32} (hN : VN A) {s : Nat} (hC : VC A s) : cmS A s (A 144) = true := by
  unfold cmS
  refine decide_eq_true ⟨?_, Int32.le_refl _⟩
  rw [hC.1, hN.2.2.2.2]
  unfold gre
  split
  · by_cases h2 : 2 ≤ nwN A
    · rw [n_2, nI_sub h2]
      exact nI_le (by omega) (by have := hN.2.2.2.1; omega)
    · have : nwN A = 0 ∨ nwN A = 1 := by omega
      rcases this with e | e <;> rw [e] <;> decide
  · exact nI_le hC.2.1 (by have := hN.2.2.2.1; omega)
/-- one more sale of s, in the model's scene -/
theorem MSn.add {h : Z_H} {S : Sn} {m s : Nat} {a : Int32} (M : MSn h S m) (hw : ∃ w, 1 ≤ w ∧ w ≤ 6 ∧ z_i h 62 6 = nI w) (hs : s < S.1) : MSn (z_si h 68 (100 * s + m) (z_i h 68 (100 * s + m) + a)) (scS S s a) m := by
  obtain ⟨⟨t1, t2, t3, t4⟩, m2, m3, m4, m5⟩ := M
  obtain ⟨w, w1, w2, w3⟩ := hw
  have ew : wn (z_i h 62) = w := by unfold wn; rw [w3, nI_clamp (by omega)]
  refine ⟨⟨t1, t2, t3, t4⟩, m2, m3, m4, fun t ht => ?_⟩
  obtain ⟨a1, a2, a3⟩ := m5 t ht
  have e62 : z_i (z_si h 68 (100 * s + m) (z_i h 68 (100 * s + m) + a)) 62 = z_i h 62 := z_si_o (by omega)
  rw [e62, z_si_i, vsm_upd m3 (by omega), ew]
  rw [ew] at a2
  refine ⟨?_, ?_, a3⟩
  · show _ = if t = s then sO S t + a else sO S t
    by_cases e : t = s
    · subst e
      rw [upd_s, if_pos rfl, a1]
    · rw [upd_o (by omega), if_neg e, a1]
  · show _ = if t = s then sV S t + a else sV S t
    rw [a2]
theorem op_quote {h : Z_H} (I : Inv h) {x y z w : Int32} : ∃ r h1 h2, f_X9_quote h 0 x y z w = some (r, h1) ∧ f_X10_quote h1 61 x y z w = some (r, h2) ∧ Inv h2 := by
  have H := I.1
  have C := I.ca
  have hv := I.v
  have L : LK (cl h) (z_i h 62) := I.2.1.lk
  have h14 := I.2.2.1
  generalize eA : z_i h 62 = A at *
  have hN := hv.1
  have h10 := hN.2.1
  obtain ⟨en, h99⟩ := C.now
  have e144 : A 144 = nI (nwN A) := hN.2.2.2.2
  have out : ∀ g : Z_H, QS h g → Inv (z_si g 61 0 0) := fun g q => (q.inv I).m
  have no : f_X9_canSell h 0 x y = some 0 → f_X10_canSell (z_si h 61 0 0) 61 x y (nI (nwN A)) = some 0 → ∃ r h1 h2, f_X9_quote h 0 x y z w = some (r, h1) ∧ f_X10_quote h1 61 x y z w = some (r, h2) ∧ Inv h2 := by
    intro c1 c2
    have H1 : LY (z_si h 61 0 0) := H
    have e1 : z_i (z_si h 61 0 0) 62 144 = nI (nwN A) := by rw [m62, eA]; exact e144
    refine ⟨-2, h, z_si h 61 0 0, ?_, ?_, I.m⟩
    · unfold f_X9_quote
      simp (disch := first | assumption | omega) only [gd, lt, jn, bd2, Option.bind_some, LY_si, LY_sl, LY_row, decide_true, decide_false, if_true, ite_true, ite_false, decide_eq_true_eq, yg0, yg1, yg2, yg4, yg13, yg21, yg29, yg35, yg36, yg45, yg50, yg59, yI0, yI1, yI2, yI4, yI13, yI21, yI29, yI35, yI36, yI45, yI50, yI59, yP0, yP1, yP2, yP4, yP13, yP21, yP29, yP35, yP36, yP45, yP50, yP59, yR0_0, yR0_1, yR0_2, yR0_3, yR0_4, yR1_0, yR1_1, yR1_2, yR1_3, yR1_4, yR1_5, yR2_0, yR4_4, yR4_5, yR4_6, yR4_7, yR4_8, yR4_9, yR4_10, yR4_11, yR13_1, yR13_2, yR13_3, yR13_4, yR13_5, yR13_6, yR13_7, yR21_1, yR21_2, yR21_3, yR21_4, yR21_5, yR21_6, yR21_7, yR29_0, yR29_1, yR29_2, yR35_0, yR35_1, yR35_2, yR35_3, yR35_4, yR36_4, yR36_5, yR36_6, yR36_7, yR36_8, yR36_9, yR36_10, yR36_11, yR45_0, yR50_0, yR50_1, yR50_2, yR50_3, yR50_4, yR50_5, yR50_6, yR50_7, yR59_1, yA3, yA5, yA6, yA7, yA8, yA9, yA10, yA11, yA12, yA14, yA15, yA16, yA17, yA18, yA19, yA20, yA22, yA23, yA24, yA25, yA26, yA27, yA28, yA30, yA31, yA32, yA33, yA37, yA38, yA39, yA40, yA41, yA42, yA43, yA44, yA46, yA47, yA48, yA49, yA51, yA52, yA53, yA54, yA55, yA56, yA57, yA58, yA60, yS3, yS5, yS6, yS7, yS8, yS9, yS10, yS11, yS12, yS14, yS15, yS16, yS17, yS18, yS19, yS20, yS22, yS23, yS24, yS25, yS26, yS27, yS28, yS30, yS31, yS32, yS33, yS37, yS38, yS39, yS40, yS41, yS42, yS43, yS44, yS46, yS47, yS48, yS49, yS51, yS52, yS53, yS54, yS55, yS56, yS57, yS58, yS60, c1]
    · unfold f_X10_quote
      simp (disch := first | assumption | omega) only [gd, lt, jn, bd2, Option.bind_some, LY_si, LY_sl, LY_row, decide_true, decide_false, if_true, ite_true, ite_false, decide_eq_true_eq, yg61, yI61, yP61, yR61_1, yR61_2, yR61_12, yR61_13, yR61_17, yR61_18, yR61_21, yR61_22, yR61_23, yR61_25, yA62, yA63, yA64, yA65, yA66, yA67, yA68, yA69, yA70, yA71, yS62, yS63, yS64, yS65, yS66, yS67, yS68, yS69, yS70, yS71, e_now H1, e1, c2]
  have hN1 : VN (z_i (z_si h 61 0 0) 62) := by rw [m62, eA]; exact hN
  rcases nI_or (x := x) (n := nn A) (by omega) with ⟨s, hs, rfl⟩ | ⟨-, hx⟩
  · have ct := c_canSell_t C hs (y := y)
    have et := e_canSell_t (h := z_si h 61 0 0) (s := s) H hN1 (by rw [m62, eA]; exact hs) (y := y) (z := nI (nwN A))
    rw [m62, eA, ← e144, cm_now hN (hv.2.1 s hs), Bool.and_true] at et
    rw [e144] at et
    cases hc : csS A s y with
    | false =>
      rw [hc] at ct et
      exact no ct et
    | true =>
      rw [hc] at ct et
      obtain ⟨g4, p1, p2, p3, p4⟩ := c_lookSale H L hs (a := y)
      have G4 := p2.ly H
      have hO : SOK (scS (sc0 A (nwN A)) s y) := scS_ok (L.ok h99)
      have hU : ∀ k u, 1 ≤ k → upk (sP (scS (sc0 A (nwN A)) s y)) k s = some u → u < nn A := fun k u _ e => hO.2.1.lt hs e
      obtain ⟨g8, u1, u2, u3, u4, u5⟩ := c_payUp (am := y) G4 (p2.lk L) hO p3 p4 hs hU
      have G8 := u2.ly G4
      have q8 : QS h g8 := p2.qs.tr u2.qs
      have an := c_answer (x := z) (y := w) G8 u3 u4 u5
      have I8 := q8.inv I
      have Im := I8.m
      have e8 : z_i (z_si g8 61 0 0) 62 = A := by rw [m62, q8.a, eA]
      obtain ⟨k1, k2, b1, b2, b3, b4, b5, b6, b7⟩ := e_scene2 (h := z_si g8 61 0 0) Im.1 e8 L Im.2.2.1 h99
      have K1 := b2.ly Im.1
      have K2 := b4.ly K1
      have d1 : z_i k1 62 = A := b2.a.trans e8
      have d2 : z_i k2 62 = A := b4.a.trans d1
      have hw := hv.2.2.2.1.2.2.2.1
      have M := b7.add (s := s) (a := y) (by rw [d2]; exact hw) hs
      let k3 := z_si k2 68 (100 * s + nwN A) (z_i k2 68 (100 * s + nwN A) + y)
      have K3 : LY k3 := K2
      have d3 : z_i k3 62 = A := (z_si_o (by omega)).trans d2
      obtain ⟨k4, v1, v2, v3, v4, v5, v6, v7⟩ := e_pays (h := k3) (am := y) K3 M hO (by rw [d3]; exact hN) (by rw [d3]; exact hv.2.2.2.1) hs (by
        show decide (jo A s ≤ nwN A) = true
        exact decide_eq_true (hv.2.1 s hs).2.1) (by rw [d3]; exact hU)
      rw [d3] at v5 v6 v7
      have K4 := v2.ly K3
      have wall : MW (z_si g8 61 0 0) k4 := b2.tr (b4.tr ((MW_si (by omega)).tr v2))
      refine ⟨ansS (puS A (scS (sc0 A (nwN A)) s y) (nwN A) y s).1 (puS A (scS (sc0 A (nwN A)) s y) (nwN A) y s).2.2 z w, g8, k4, ?_, ?_, wall.qs.inv Im⟩
      · unfold f_X9_quote
        simp (disch := first | assumption | omega) only [gd, lt, jn, bd2, Option.bind_some, LY_si, LY_sl, LY_row, decide_true, decide_false, if_true, ite_true, ite_false, decide_eq_true_eq, yg0, yg1, yg2, yg4, yg13, yg21, yg29, yg35, yg36, yg45, yg50, yg59, yI0, yI1, yI2, yI4, yI13, yI21, yI29, yI35, yI36, yI45, yI50, yI59, yP0, yP1, yP2, yP4, yP13, yP21, yP29, yP35, yP36, yP45, yP50, yP59, yR0_0, yR0_1, yR0_2, yR0_3, yR0_4, yR1_0, yR1_1, yR1_2, yR1_3, yR1_4, yR1_5, yR2_0, yR4_4, yR4_5, yR4_6, yR4_7, yR4_8, yR4_9, yR4_10, yR4_11, yR13_1, yR13_2, yR13_3, yR13_4, yR13_5, yR13_6, yR13_7, yR21_1, yR21_2, yR21_3, yR21_4, yR21_5, yR21_6, yR21_7, yR29_0, yR29_1, yR29_2, yR35_0, yR35_1, yR35_2, yR35_3, yR35_4, yR36_4, yR36_5, yR36_6, yR36_7, yR36_8, yR36_9, yR36_10, yR36_11, yR45_0, yR50_0, yR50_1, yR50_2, yR50_3, yR50_4, yR50_5, yR50_6, yR50_7, yR59_1, yA3, yA5, yA6, yA7, yA8, yA9, yA10, yA11, yA12, yA14, yA15, yA16, yA17, yA18, yA19, yA20, yA22, yA23, yA24, yA25, yA26, yA27, yA28, yA30, yA31, yA32, yA33, yA37, yA38, yA39, yA40, yA41, yA42, yA43, yA44, yA46, yA47, yA48, yA49, yA51, yA52, yA53, yA54, yA55, yA56, yA57, yA58, yA60, yS3, yS5, yS6, yS7, yS8, yS9, yS10, yS11, yS12, yS14, yS15, yS16, yS17, yS18, yS19, yS20, yS22, yS23, yS24, yS25, yS26, yS27, yS28, yS30, yS31, yS32, yS33, yS37, yS38, yS39, yS40, yS41, yS42, yS43, yS44, yS46, yS47, yS48, yS49, yS51, yS52, yS53, yS54, yS55, yS56, yS57, yS58, yS60, ct, p1, u1, an]
        rw [if_neg (show ¬ (1 : Int32) = 0 by decide)]
      · have Hm := Im.1
        have n1 : z_i (z_si g8 61 0 0) 62 144 = nI (nwN A) := by rw [e8]; exact e144
        have n2 : z_i k1 62 144 = nI (nwN A) := by rw [d1]; exact e144
        have n3 : z_i k2 62 144 = nI (nwN A) := by rw [d2]; exact e144
        have et' : f_X10_canSell (z_si g8 61 0 0) 61 (nI s) y (nI (nwN A)) = some 1 := by
          have := e_canSell_t (h := z_si g8 61 0 0) (s := s) Im.1 (by rw [e8]; exact hN) (by rw [e8]; exact hs) (y := y) (z := nI (nwN A))
          rw [e8, hc, ← e144, cm_now hN (hv.2.1 s hs)] at this
          rw [e144] at this
          exact this
        have ix : (100 : Int32) * nI s + nI (nwN A) = nI (100 * s + nwN A) := by rw [n_100, nI_mul, nI_add]
        have x3 : z_si k2 68 (100 * s + nwN A) (z_i k2 68 (100 * s + nwN A) + y) = k3 := rfl
        unfold f_X10_quote
        simp (disch := first | assumption | omega) only [gd, lt, jn, bd2, Option.bind_some, LY_si, LY_sl, LY_row, decide_true, decide_false, if_true, ite_true, ite_false, decide_eq_true_eq, yg61, yI61, yP61, yR61_1, yR61_2, yR61_12, yR61_13, yR61_17, yR61_18, yR61_21, yR61_22, yR61_23, yR61_25, yA62, yA63, yA64, yA65, yA66, yA67, yA68, yA69, yA70, yA71, yS62, yS63, yS64, yS65, yS66, yS67, yS68, yS69, yS70, yS71, e_now, n1, et', b1, n2, b3, n3, ix, x3, v1, v6]
        rw [if_neg (by decide)]
        by_cases hz : z = 0
        · rw [if_pos hz]
          unfold ansS
          rw [if_pos hz]
        · rw [if_neg hz, e_ofPaid K4 v5 v6 v7 hz]
          rfl
  · exact no (c_canSell_f C hx) (e_canSell_f (h := z_si h 61 0 0) H hN1 (by rw [m62, eA]; exact hx))
