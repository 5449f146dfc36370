/-- the plan's cells of the class -/
def PLc (h : Z_H) (A : Nat → Int32) : Prop := RCp (cl h) A
theorem c_leaf {h : Z_H} (H : LY h) {A : Nat → Int32} (hR : RCp (cl h) A) (hP : VP A) {S : Sn} {m t l j nd : Nat} (hl : l < 5) (hj : j < nf A l) (hnd : nd ≤ 3) (end_ : ndS A l j = nI nd) : f_X3_leafPercent h 4 (nI (8 * (l + 1) + j)) (nI (rnk A S t)) (nI (cn (inD S t) S.1)) (nI m - A (147 + 94 * t + 0)) = some (lfS A S m t l j) := by
  have h8 := (hP.2.2.2.2.2 l hl).2.1
  obtain ⟨q1, q2, q3⟩ := (hR.2.2 l hl).2 j hj
  have q1 : z_i h 9 (8 * (l + 1) + j) = ndS A l j + 11 := q1
  have q2 : z_i h 10 (8 * (l + 1) + j) = A (19 + 25 * l + (9 + j)) := q2
  have q3 : z_i h 11 (8 * (l + 1) + j) = A (19 + 25 * l + (17 + j)) := q3
  have k1 : nI nd + 11 = nI (nd + 11) := by rw [n_11, nI_add]
  rw [end_, k1] at q1
  unfold f_X3_leafPercent lfS
  rw [show A (19 + 25 * l + (1 + j)) = nI nd from end_]
  simp (disch := first | assumption | omega) only [gd, lt, jn, bd2, Option.bind_some, LY_si, LY_sl, LY_row, decide_true, decide_false, if_true, ite_true, ite_false, decide_eq_true_eq, yg0, yg1, yg2, yg4, yg13, yg21, yg29, yg35, yg36, yg45, yg50, yg59, yI0, yI1, yI2, yI4, yI13, yI21, yI29, yI35, yI36, yI45, yI50, yI59, yP0, yP1, yP2, yP4, yP13, yP21, yP29, yP35, yP36, yP45, yP50, yP59, yR0_0, yR0_1, yR0_2, yR0_3, yR0_4, yR1_0, yR1_1, yR1_2, yR1_3, yR1_4, yR1_5, yR2_0, yR4_4, yR4_5, yR4_6, yR4_7, yR4_8, yR4_9, yR4_10, yR4_11, yR13_1, yR13_2, yR13_3, yR13_4, yR13_5, yR13_6, yR13_7, yR21_1, yR21_2, yR21_3, yR21_4, yR21_5, yR21_6, yR21_7, yR29_0, yR29_1, yR29_2, yR35_0, yR35_1, yR35_2, yR35_3, yR35_4, yR36_4, yR36_5, yR36_6, yR36_7, yR36_8, yR36_9, yR36_10, yR36_11, yR45_0, yR50_0, yR50_1, yR50_2, yR50_3, yR50_4, yR50_5, yR50_6, yR50_7, yR59_1, yA3, yA5, yA6, yA7, yA8, yA9, yA10, yA11, yA12, yA14, yA15, yA16, yA17, yA18, yA19, yA20, yA22, yA23, yA24, yA25, yA26, yA27, yA28, yA30, yA31, yA32, yA33, yA37, yA38, yA39, yA40, yA41, yA42, yA43, yA44, yA46, yA47, yA48, yA49, yA51, yA52, yA53, yA54, yA55, yA56, yA57, yA58, yA60, yS3, yS5, yS6, yS7, yS8, yS9, yS10, yS11, yS12, yS14, yS15, yS16, yS17, yS18, yS19, yS20, yS22, yS23, yS24, yS25, yS26, yS27, yS28, yS30, yS31, yS32, yS33, yS37, yS38, yS39, yS40, yS41, yS42, yS43, yS44, yS46, yS47, yS48, yS49, yS51, yS52, yS53, yS54, yS55, yS56, yS57, yS58, yS60, q1, q2, q3, mn_les]
  have : nd = 0 ∨ nd = 1 ∨ nd = 2 ∨ nd = 3 := by omega
  rcases this with rfl | rfl | rfl | rfl
  · rfl
  · rfl
  · rfl
  · show (if nI m - A (147 + 94 * t + 0) < A (19 + 25 * l + (9 + j)) then some (0 : Int32) else some (A (19 + 25 * l + (17 + j)))) = some (if nI m - A (147 + 94 * t + 0) < A (19 + 25 * l + (9 + j)) then 0 else A (19 + 25 * l + (17 + j)))
    split <;> rfl
theorem c_percentOf {h : Z_H} (H : LY h) {A : Nat → Int32} (hR : RCp (cl h) A) (hP : VP A) {S : Sn} {m t l : Nat} (hl : l < 5) : ∃ h', f_X3_percentOf h 4 (nI (l + 1)) (nI (rnk A S t)) (nI (cn (inD S t) S.1)) (nI m - A (147 + 94 * t + 0)) = some (pcS A S m t l, h') ∧ ON h h' 12 := by
  have hF := hP.2.2.2.2.2 l hl
  obtain ⟨d, d1, d2, d4, d5, d3⟩ := stk_d hF (lf := lfS A S m t l)
  obtain ⟨a1, a2, a3, -, -⟩ := hF
  let K := fun k => stk (ndS A l) (lfS A S m t l) (nf A l) k
  have at1 : nI (l + 1) * 8 = nI (8 * (l + 1)) := by rw [n_8, nI_mul, Nat.mul_comm]
  have t8 : z_i h 8 (l + 1) = nI (nf A l) := Eq.trans (hR.2.2 l hl).1 a3
  have key := lp_ex (b := f_X3_percentOf_l1 4 (nI (l + 1)) (nI (rnk A S t)) (nI (cn (inD S t) S.1)) (nI m - A (147 + 94 * t + 0))) (fun k (q : Z_H) => (nI (K k).1, nI (8 * (l + 1) + (nf A l - k)) - 1, q)) (fun k q => ON h q 12 ∧ ∀ i, i < (K k).1 → z_i q 12 i = (K k).2 i) some (nf A l) ?_ ?_ (nf A l) FU 0 h (by omega) (by unfold FU; omega) ⟨TW.rf, fun i hi => by
    have : i < 0 := hi
    omega⟩
  · obtain ⟨g, ⟨g1, g2⟩, e⟩ := key
    have G := g1.ly H
    have e' : lp (f_X3_percentOf_l1 4 (nI (l + 1)) (nI (rnk A S t)) (nI (cn (inD S t) S.1)) (nI m - A (147 + 94 * t + 0))) FU (0, nI (8 * (l + 1) + nf A l) - 1, h) = some g := by
      rw [Nat.sub_zero] at e
      exact e
    have dN : (K (nf A l)).1 = 1 := by
      have := d5 (nf A l) (Nat.le_refl _)
      rw [Nat.sub_self, d2] at this
      exact this
    have a12 : aI g 12 0 = some (pcS A S m t l) := by
      have := yA12 (k := 0) G (by omega)
      rw [g2 0 (by omega)] at this
      exact this
    refine ⟨g, ?_, g1⟩
    unfold f_X3_percentOf
    simp (disch := first | assumption | omega) only [gd, lt, jn, bd2, Option.bind_some, LY_si, LY_sl, LY_row, decide_true, decide_false, if_true, ite_true, ite_false, decide_eq_true_eq, yg0, yg1, yg2, yg4, yg13, yg21, yg29, yg35, yg36, yg45, yg50, yg59, yI0, yI1, yI2, yI4, yI13, yI21, yI29, yI35, yI36, yI45, yI50, yI59, yP0, yP1, yP2, yP4, yP13, yP21, yP29, yP35, yP36, yP45, yP50, yP59, yR0_0, yR0_1, yR0_2, yR0_3, yR0_4, yR1_0, yR1_1, yR1_2, yR1_3, yR1_4, yR1_5, yR2_0, yR4_4, yR4_5, yR4_6, yR4_7, yR4_8, yR4_9, yR4_10, yR4_11, yR13_1, yR13_2, yR13_3, yR13_4, yR13_5, yR13_6, yR13_7, yR21_1, yR21_2, yR21_3, yR21_4, yR21_5, yR21_6, yR21_7, yR29_0, yR29_1, yR29_2, yR35_0, yR35_1, yR35_2, yR35_3, yR35_4, yR36_4, yR36_5, yR36_6, yR36_7, yR36_8, yR36_9, yR36_10, yR36_11, yR45_0, yR50_0, yR50_1, yR50_2, yR50_3, yR50_4, yR50_5, yR50_6, yR50_7, yR59_1, yA3, yA5, yA6, yA7, yA8, yA9, yA10, yA11, yA12, yA14, yA15, yA16, yA17, yA18, yA19, yA20, yA22, yA23, yA24, yA25, yA26, yA27, yA28, yA30, yA31, yA32, yA33, yA37, yA38, yA39, yA40, yA41, yA42, yA43, yA44, yA46, yA47, yA48, yA49, yA51, yA52, yA53, yA54, yA55, yA56, yA57, yA58, yA60, yS3, yS5, yS6, yS7, yS8, yS9, yS10, yS11, yS12, yS14, yS15, yS16, yS17, yS18, yS19, yS20, yS22, yS23, yS24, yS25, yS26, yS27, yS28, yS30, yS31, yS32, yS33, yS37, yS38, yS39, yS40, yS41, yS42, yS43, yS44, yS46, yS47, yS48, yS49, yS51, yS52, yS53, yS54, yS55, yS56, yS57, yS58, yS60, at1, t8, nI_add, e', a12]
  · rintro k g hk ⟨g1, g2⟩
    have G := g1.ly H
    have Rg : RCp (cl g) A := by
      obtain ⟨r1, r2, r3⟩ := hR
      have x : ∀ o, o ≠ 11 → cl g o = cl h o := fun o ho => g1.2.2.2 (1 + o) (by omega) (by omega)
      unfold RCp
      rw [x 3 (by omega), x 4 (by omega), x 5 (by omega), x 6 (by omega), x 7 (by omega), x 8 (by omega), x 9 (by omega), x 10 (by omega)]
      exact ⟨r1, r2, r3⟩
    have dk := d5 k (by omega)
    have dle := d4 (nf A l - k) (by omega)
    have i1 : nI (8 * (l + 1) + (nf A l - k)) - 1 = nI (8 * (l + 1) + (nf A l - 1 - k)) := by
      rw [n_1, nI_sub (by omega)]
      congr 1
      omega
    have e2 : nf A l - (k + 1) = nf A l - 1 - k := by omega
    have i3 : nI (8 * (l + 1) + (nf A l - 1 - k)) + (-1) = nI (8 * (l + 1) + (nf A l - 1 - k)) - 1 := by
      rw [Int32.sub_eq_add_neg]
    have e : nf A l - 1 - k + 1 = nf A l - k := by omega
    have K1 : K (k + 1) = if ndS A l (nf A l - 1 - k) ≤ 3 then ((K k).1 + 1, upd (K k).2 (K k).1 (lfS A S m t l (nf A l - 1 - k))) else ((K k).1 - 1, upd (K k).2 ((K k).1 - 2) (jop (ndS A l (nf A l - 1 - k)) ((K k).2 ((K k).1 - 1)) ((K k).2 ((K k).1 - 2)))) := rfl
    have dk : (K k).1 = d (nf A l - k) := dk
    have q1 : z_i g 9 (8 * (l + 1) + (nf A l - 1 - k)) = ndS A l (nf A l - 1 - k) + 11 := ((Rg.2.2 l hl).2 _ (by omega)).1
    rcases d3 (nf A l - 1 - k) (by omega) with ⟨nd, h1, h2, q⟩ | ⟨nd, h1, h2, h3, h4, q⟩
    · have c : ndS A l (nf A l - 1 - k) ≤ 3 := by
        rw [h2]
        exact nI_le (b := 3) h1 (by omega)
      have k1 : nI nd + 11 = nI (nd + 11) := by rw [n_11, nI_add]
      rw [h2, k1] at q1
      rw [if_pos c] at K1
      have lf := c_leaf (S := S) (m := m) (t := t) (l := l) (j := nf A l - 1 - k) G Rg hP hl (by omega) h1 h2
      refine ⟨z_si g 12 (K k).1 (lfS A S m t l (nf A l - 1 - k)), ⟨g1.tr (TW_si (Or.inl rfl)), fun i hi => ?_⟩, fun rec => ?_⟩
      · rw [K1] at hi ⊢
        have hi : i < (K k).1 + 1 := hi
        show _ = upd (K k).2 (K k).1 _ i
        rw [z_si_i]
        by_cases ei : i = (K k).1
        · rw [ei, upd_s, upd_s]
        · rw [upd_o ei, upd_o ei]
          exact g2 i (by omega)
      · rw [← e] at dle
        have : d (nf A l - 1 - k + 1) ≤ 7 := by omega
        have hK : (K k).1 < 8 := by rw [dk, ← e]; omega
        unfold f_X3_percentOf_l1
        simp (disch := first | assumption | omega) only [gd, lt, jn, bd2, Option.bind_some, LY_si, LY_sl, LY_row, decide_true, decide_false, if_true, ite_true, ite_false, decide_eq_true_eq, yg0, yg1, yg2, yg4, yg13, yg21, yg29, yg35, yg36, yg45, yg50, yg59, yI0, yI1, yI2, yI4, yI13, yI21, yI29, yI35, yI36, yI45, yI50, yI59, yP0, yP1, yP2, yP4, yP13, yP21, yP29, yP35, yP36, yP45, yP50, yP59, yR0_0, yR0_1, yR0_2, yR0_3, yR0_4, yR1_0, yR1_1, yR1_2, yR1_3, yR1_4, yR1_5, yR2_0, yR4_4, yR4_5, yR4_6, yR4_7, yR4_8, yR4_9, yR4_10, yR4_11, yR13_1, yR13_2, yR13_3, yR13_4, yR13_5, yR13_6, yR13_7, yR21_1, yR21_2, yR21_3, yR21_4, yR21_5, yR21_6, yR21_7, yR29_0, yR29_1, yR29_2, yR35_0, yR35_1, yR35_2, yR35_3, yR35_4, yR36_4, yR36_5, yR36_6, yR36_7, yR36_8, yR36_9, yR36_10, yR36_11, yR45_0, yR50_0, yR50_1, yR50_2, yR50_3, yR50_4, yR50_5, yR50_6, yR50_7, yR59_1, yA3, yA5, yA6, yA7, yA8, yA9, yA10, yA11, yA12, yA14, yA15, yA16, yA17, yA18, yA19, yA20, yA22, yA23, yA24, yA25, yA26, yA27, yA28, yA30, yA31, yA32, yA33, yA37, yA38, yA39, yA40, yA41, yA42, yA43, yA44, yA46, yA47, yA48, yA49, yA51, yA52, yA53, yA54, yA55, yA56, yA57, yA58, yA60, yS3, yS5, yS6, yS7, yS8, yS9, yS10, yS11, yS12, yS14, yS15, yS16, yS17, yS18, yS19, yS20, yS22, yS23, yS24, yS25, yS26, yS27, yS28, yS30, yS31, yS32, yS33, yS37, yS38, yS39, yS40, yS41, yS42, yS43, yS44, yS46, yS47, yS48, yS49, yS51, yS52, yS53, yS54, yS55, yS56, yS57, yS58, yS60, i1, at1, q1, lf]
        rw [if_neg (nI_nlt (by omega) (by omega)), if_neg (show ¬ (15 : Int32) ≤ nI (nd + 11) from nI_ge (b := 15) (by omega) (by omega)), if_neg (show ¬ (8 : Int32) ≤ nI (K k).1 from nI_ge (b := 8) hK (by omega)), e2, i3, K1, nI_1]
    · have c : ¬ ndS A l (nf A l - 1 - k) ≤ 3 := by
        rw [h3]
        exact nI_ge (a := 3) (by omega) (by omega)
      have k1 : nI nd + 11 = nI (nd + 11) := by rw [n_11, nI_add]
      rw [h3, k1] at q1
      rw [if_neg c] at K1
      have hd2 : 2 ≤ (K k).1 := by rw [dk, ← e]; exact h4
      have hd8 : (K k).1 ≤ 8 := by rw [dk]; omega
      have j1 : nI (K k).1 + (-1) = nI ((K k).1 - 1) := sb_m1 (by omega)
      have j2 : nI ((K k).1 - 1) - 1 = nI ((K k).1 - 2) := by
        rw [n_1, nI_sub (by omega)]
        congr 1
      have r1 : z_i g 12 ((K k).1 - 1) = (K k).2 ((K k).1 - 1) := g2 _ (by omega)
      have r2 : z_i g 12 ((K k).1 - 2) = (K k).2 ((K k).1 - 2) := g2 _ (by omega)
      have jp : ∀ a b, f_X3_joinedPercent g (nI (nd + 11)) a b = some (jop (nI nd) a b) := by
        intro a b
        unfold f_X3_joinedPercent jop
        rw [mx_gre, mn_les, mn_les]
        have : nd = 4 ∨ nd = 5 ∨ nd = 6 := by omega
        rcases this with rfl | rfl | rfl <;> rfl
      refine ⟨z_si g 12 ((K k).1 - 2) (jop (ndS A l (nf A l - 1 - k)) ((K k).2 ((K k).1 - 1)) ((K k).2 ((K k).1 - 2))), ⟨g1.tr (TW_si (Or.inl rfl)), fun i hi => ?_⟩, fun rec => ?_⟩
      · rw [K1] at hi ⊢
        have hi : i < (K k).1 - 1 := hi
        show _ = upd (K k).2 ((K k).1 - 2) _ i
        rw [z_si_i]
        by_cases ei : i = (K k).1 - 2
        · rw [ei, upd_s, upd_s]
        · rw [upd_o ei, upd_o ei]
          exact g2 i (by omega)
      · unfold f_X3_percentOf_l1
        simp (disch := first | assumption | omega) only [gd, lt, jn, bd2, Option.bind_some, LY_si, LY_sl, LY_row, decide_true, decide_false, if_true, ite_true, ite_false, decide_eq_true_eq, yg0, yg1, yg2, yg4, yg13, yg21, yg29, yg35, yg36, yg45, yg50, yg59, yI0, yI1, yI2, yI4, yI13, yI21, yI29, yI35, yI36, yI45, yI50, yI59, yP0, yP1, yP2, yP4, yP13, yP21, yP29, yP35, yP36, yP45, yP50, yP59, yR0_0, yR0_1, yR0_2, yR0_3, yR0_4, yR1_0, yR1_1, yR1_2, yR1_3, yR1_4, yR1_5, yR2_0, yR4_4, yR4_5, yR4_6, yR4_7, yR4_8, yR4_9, yR4_10, yR4_11, yR13_1, yR13_2, yR13_3, yR13_4, yR13_5, yR13_6, yR13_7, yR21_1, yR21_2, yR21_3, yR21_4, yR21_5, yR21_6, yR21_7, yR29_0, yR29_1, yR29_2, yR35_0, yR35_1, yR35_2, yR35_3, yR35_4, yR36_4, yR36_5, yR36_6, yR36_7, yR36_8, yR36_9, yR36_10, yR36_11, yR45_0, yR50_0, yR50_1, yR50_2, yR50_3, yR50_4, yR50_5, yR50_6, yR50_7, yR59_1, yA3, yA5, yA6, yA7, yA8, yA9, yA10, yA11, yA12, yA14, yA15, yA16, yA17, yA18, yA19, yA20, yA22, yA23, yA24, yA25, yA26, yA27, yA28, yA30, yA31, yA32, yA33, yA37, yA38, yA39, yA40, yA41, yA42, yA43, yA44, yA46, yA47, yA48, yA49, yA51, yA52, yA53, yA54, yA55, yA56, yA57, yA58, yA60, yS3, yS5, yS6, yS7, yS8, yS9, yS10, yS11, yS12, yS14, yS15, yS16, yS17, yS18, yS19, yS20, yS22, yS23, yS24, yS25, yS26, yS27, yS28, yS30, yS31, yS32, yS33, yS37, yS38, yS39, yS40, yS41, yS42, yS43, yS44, yS46, yS47, yS48, yS49, yS51, yS52, yS53, yS54, yS55, yS56, yS57, yS58, yS60, i1, at1, q1, j1, j2, r1, r2, jp]
        rw [if_neg (nI_nlt (by omega) (by omega)), if_pos (show (15 : Int32) ≤ nI (nd + 11) from nI_le (a := 15) (by omega) (by omega)), if_neg (show ¬ nI (K k).1 < (2 : Int32) from nI_nlt (b := 2) hd2 (by omega)), e2, i3, K1, h3]
  · rintro rec g _
    unfold f_X3_percentOf_l1
    have i0 : nI (8 * (l + 1) + (nf A l - nf A l)) - 1 = nI (8 * (l + 1) - 1) := by
      rw [Nat.sub_self, n_1, nI_sub (by omega)]
      rfl
    dsimp only
    rw [i0, at1, if_pos (nI_lt (by omega) (by omega))]
/-! what a level takes -/
def opS (A : Nat → Int32) (S : Sn) (t n : Nat) : Bool := decide (nI (n + 1) ≤ A (15 + rnk A S t))
def whl (A : Nat → Int32) (S : Sn) (m : Nat) (am : Int32) (t n : Nat) : Int32 := am * pcS A S m t n / 100
def pyS (A : Nat → Int32) (S : Sn) (m : Nat) (am lf : Int32) (t n : Nat) : Int32 := if opS A S t n then les (whl A S m am t n) lf else 0
def fcS (A : Nat → Int32) (S : Sn) (m : Nat) (am lf : Int32) (t n k : Nat) : Nat → Int32 := fun f => match f with
  | 0 => nI t
  | 1 => pcS A S m t n
  | 2 => pyS A S m am lf t n
  | 3 => if opS A S t n then 0 else whl A S m am t n
  | 4 => if opS A S t n then whl A S m am t n - pyS A S m am lf t n else 0
  | 5 => nI (rnk A S t)
  | _ => nI k
def w7 (F : Nat → Int32) (o : Nat) (v : Nat → Int32) : Nat → Int32 := fun j => if o ≤ j ∧ j < o + 7 then v (j - o) else F j
theorem rk_le {A : Nat → Int32} {g l : Int32} : rkS A g l ≤ 3 := by
  unfold rkS
  split
  · omega
  · split
    · omega
    · split <;> omega
theorem rnk_le {A : Nat → Int32} {S : Sn} {t : Nat} : rnk A S t ≤ 3 := rk_le
theorem up6 {R : Nat → Int32} {o : Nat} {v : Nat → Int32} : upd (upd (upd (upd (upd (upd (upd R (o + 0) (v 0)) (o + 1) (v 1)) (o + 2) (v 2)) (o + 3) (v 3)) (o + 4) (v 4)) (o + 5) (v 5)) (o + 6) (v 6) = w7 R o v := by
  funext j
  unfold w7
  by_cases c : o ≤ j ∧ j < o + 7
  · rw [if_pos c]
    obtain ⟨f, hf⟩ : ∃ f, j = o + f := ⟨j - o, by omega⟩
    subst hf
    rw [show o + f - o = f by omega]
    have : f = 0 ∨ f = 1 ∨ f = 2 ∨ f = 3 ∨ f = 4 ∨ f = 5 ∨ f = 6 := by omega
    rcases this with rfl | rfl | rfl | rfl | rfl | rfl | rfl
    · rw [upd_o (by omega), upd_o (by omega), upd_o (by omega), upd_o (by omega), upd_o (by omega), upd_o (by omega), upd_s]
    · rw [upd_o (by omega), upd_o (by omega), upd_o (by omega), upd_o (by omega), upd_o (by omega), upd_s]
    · rw [upd_o (by omega), upd_o (by omega), upd_o (by omega), upd_o (by omega), upd_s]
    · rw [upd_o (by omega), upd_o (by omega), upd_o (by omega), upd_s]
    · rw [upd_o (by omega), upd_o (by omega), upd_s]
    · rw [upd_o (by omega), upd_s]
    · rw [upd_s]
  · rw [if_neg c, upd_o (by omega), upd_o (by omega), upd_o (by omega), upd_o (by omega), upd_o (by omega), upd_o (by omega), upd_o (by omega)]
theorem e_takesLevel {h : Z_H} (H : LY h) {S : Sn} {m : Nat} (M : MSn h S m) (hO : SOK S) (hN : VN (z_i h 62)) (hP : VP (z_i h 62)) {t n k : Nat} {am lf : Int32} (ht : t < nn (z_i h 62)) (hn : n < 5) (e24 : z_i h 61 24 = nI n) : ∃ h', f_X10_takesLevel h 61 (nI t) am lf (nI k) = some (pyS (z_i h 62) S m am lf t n, h') ∧ MW h h' ∧ (∀ a, a ≠ 61 → a ≠ 69 → a ≠ 70 → z_i h' a = z_i h a) ∧ (∀ j, j ≠ 24 → z_i h' 61 j = z_i h 61 j) ∧ z_i h' 61 24 = nI (n + 1) ∧ z_i h' 70 = w7 (z_i h 70) (7 * n) (fcS (z_i h 62) S m am lf t n k) := by
  let h4 := z_si h 61 24 (nI (n + 1))
  have H4 : LY h4 := H
  have e62 : z_i h4 62 = z_i h 62 := z_si_o (by omega)
  have M4 : MSn h4 S m := M.cg e62 (z_si_o (by omega)) (z_si_o (by omega)) (z_si_o (by omega)) (by show z_i (z_si h 61 24 _) 61 19 = _; rw [zi_si, if_pos rfl, if_neg (by omega)]) (by show z_i (z_si h 61 24 _) 61 20 = _; rw [zi_si, if_pos rfl, if_neg (by omega)])
  have h10 := hN.2.1
  have rk := e_rankOf (t := t) H4 M4 hO (by rw [e62]; exact hN) (by rw [e62]; exact hP.2.2.2.1) (by omega)
  rw [e62] at rk
  obtain ⟨h8, p1, p2⟩ := e_percentOf (t := t) (l := n) H4 M4 hO (by rw [e62]; exact hN) (by rw [e62]; exact hP) (by rw [e62]; exact ht) hn
  rw [e62] at p1
  have H8 := p2.ly H4
  have q62 : z_i h8 62 = z_i h 62 := (p2.2.2.2 62 (by omega) (by omega)).trans e62
  have q24 : z_i h8 61 24 = nI (n + 1) := by
    rw [p2.2.2.2 61 (by omega) (by omega)]
    rfl
  have f24 : z_i h4 61 24 = nI (n + 1) := rfl
  generalize eA : z_i h 62 = A at *
  have rl := rnk_le (A := A) (S := S) (t := t)
  have a15 : aI h8 62 ((15 : Int32) + nI (rnk A S t)) = some (A (15 + rnk A S t)) := by
    rw [n_15, nI_add, yA62 H8 (by omega), q62]
  let v := fcS A S m am lf t n k
  let o := 7 * n
  let g0 := z_si h8 70 (o + 0) (v 0)
  let g1 := z_si g0 70 (o + 1) (v 1)
  let g2 := z_si g1 70 (o + 2) (v 2)
  let g3 := z_si g2 70 (o + 3) (v 3)
  let g4 := z_si g3 70 (o + 4) (v 4)
  let g5 := z_si g4 70 (o + 5) (v 5)
  let g6 := z_si g5 70 (o + 6) (v 6)
  have G0 : LY g0 := H8
  have G1 : LY g1 := H8
  have G2 : LY g2 := H8
  have G3 : LY g3 := H8
  have G4 : LY g4 := H8
  have G5 : LY g5 := H8
  have on : ON h8 g6 70 := (TW_si (Or.inl rfl)).tr ((TW_si (Or.inl rfl)).tr ((TW_si (Or.inl rfl)).tr ((TW_si (Or.inl rfl)).tr ((TW_si (Or.inl rfl)).tr ((TW_si (Or.inl rfl)).tr (TW_si (Or.inl rfl)))))))
  have ho : o = 7 * n := rfl
  have s0 : ∀ x, sI h8 70 ((7 : Int32) * nI n + 0) x = some (z_si h8 70 (o + 0) x) := fun x => by
    rw [n_7, n_0, nI_mul, nI_add]; exact yS70 H8 (by omega)
  have s1 : ∀ x, sI g0 70 ((7 : Int32) * nI n + 1) x = some (z_si g0 70 (o + 1) x) := fun x => by
    rw [n_7, n_1, nI_mul, nI_add]; exact yS70 G0 (by omega)
  have s2 : ∀ x, sI g1 70 ((7 : Int32) * nI n + 2) x = some (z_si g1 70 (o + 2) x) := fun x => by
    rw [n_7, n_2, nI_mul, nI_add]; exact yS70 G1 (by omega)
  have s3 : ∀ x, sI g2 70 ((7 : Int32) * nI n + 3) x = some (z_si g2 70 (o + 3) x) := fun x => by
    rw [n_7, n_3, nI_mul, nI_add]; exact yS70 G2 (by omega)
  have s4 : ∀ x, sI g3 70 ((7 : Int32) * nI n + 4) x = some (z_si g3 70 (o + 4) x) := fun x => by
    rw [n_7, n_4, nI_mul, nI_add]; exact yS70 G3 (by omega)
  have s5 : ∀ x, sI g4 70 ((7 : Int32) * nI n + 5) x = some (z_si g4 70 (o + 5) x) := fun x => by
    rw [n_7, n_5, nI_mul, nI_add]; exact yS70 G4 (by omega)
  have s6 : ∀ x, sI g5 70 ((7 : Int32) * nI n + 6) x = some (z_si g5 70 (o + 6) x) := fun x => by
    rw [n_7, n_6, nI_mul, nI_add]; exact yS70 G5 (by omega)
  refine ⟨g6, ?_, ?_, fun a h1 h2 h3 => ?_, fun j hj => ?_, ?_, ?_⟩
  · unfold f_X10_takesLevel
    have x0 : z_si h8 70 (o + 0) (nI t) = g0 := rfl
    have x1 : z_si g0 70 (o + 1) (pcS A S m t n) = g1 := rfl
    have x5 : z_si g4 70 (o + 5) (nI (rnk A S t)) = g5 := rfl
    have x6 : z_si g5 70 (o + 6) (nI k) = g6 := rfl
    have h4e : z_si h 61 24 (nI (n + 1)) = h4 := rfl
    simp (disch := first | assumption | omega) only [gd, lt, bd2, Option.bind_some, LY_si, LY_sl, LY_row, decide_true, decide_false, if_true, ite_true, ite_false, decide_eq_true_eq, yg61, yI61, yP61, yR61_1, yR61_2, yR61_12, yR61_13, yR61_17, yR61_18, yR61_21, yR61_22, yR61_23, yR61_25, yA62, yA63, yA64, yA65, yA66, yA67, yA68, yA69, yA70, yA71, yS62, yS63, yS64, yS65, yS66, yS67, yS68, yS69, yS70, yS71, e24, nI_1, h4e, rk, f24, p1, a15, q24, e_lesser, s0, x0, s1, x1]
    dsimp only [jn]
    by_cases c : A (15 + rnk A S t) < nI (n + 1)
    · have co : opS A S t n = false := by unfold opS; simpa using Int32.not_le.mpr c
      have x2 : z_si g1 70 (o + 2) 0 = g2 := by
        show _ = z_si g1 70 (o + 2) (pyS A S m am lf t n)
        unfold pyS; rw [co]; rfl
      have x3 : z_si g2 70 (o + 3) (am * pcS A S m t n / 100) = g3 := by
        show _ = z_si g2 70 (o + 3) (if opS A S t n then 0 else whl A S m am t n)
        rw [co]; rfl
      have x4 : z_si g3 70 (o + 4) 0 = g4 := by
        show _ = z_si g3 70 (o + 4) (if opS A S t n then whl A S m am t n - pyS A S m am lf t n else 0)
        rw [co]; rfl
      rw [if_pos c, if_pos rfl]
      simp (disch := first | assumption | omega) only [gd, lt, jn, bd2, Option.bind_some, LY_si, LY_sl, LY_row, decide_true, decide_false, if_true, ite_true, ite_false, decide_eq_true_eq, yg61, yI61, yP61, yR61_1, yR61_2, yR61_12, yR61_13, yR61_17, yR61_18, yR61_21, yR61_22, yR61_23, yR61_25, yA62, yA63, yA64, yA65, yA66, yA67, yA68, yA69, yA70, yA71, yS62, yS63, yS64, yS65, yS66, yS67, yS68, yS69, yS70, yS71, s2, x2, s3, x3, s4, x4, s5, x5, s6, x6]
      unfold pyS
      rw [co]
      rfl
    · have co : opS A S t n = true := by unfold opS; simpa using Int32.not_lt.mp c
      have ep : pyS A S m am lf t n = les (am * pcS A S m t n / 100) lf := by unfold pyS; rw [co]; rfl
      have x2 : z_si g1 70 (o + 2) (les (am * pcS A S m t n / 100) lf) = g2 := by
        rw [← ep]
        rfl
      have x3 : z_si g2 70 (o + 3) 0 = g3 := by
        show _ = z_si g2 70 (o + 3) (if opS A S t n then 0 else whl A S m am t n)
        rw [co]; rfl
      have x4 : z_si g3 70 (o + 4) (am * pcS A S m t n / 100 - les (am * pcS A S m t n / 100) lf) = g4 := by
        show _ = z_si g3 70 (o + 4) (if opS A S t n then whl A S m am t n - pyS A S m am lf t n else 0)
        rw [co, ep]; rfl
      rw [if_neg c, if_neg (show ¬ (1 : Int32) = 0 by decide)]
      simp (disch := first | assumption | omega) only [gd, lt, jn, bd2, Option.bind_some, LY_si, LY_sl, LY_row, decide_true, decide_false, if_true, ite_true, ite_false, decide_eq_true_eq, yg61, yI61, yP61, yR61_1, yR61_2, yR61_12, yR61_13, yR61_17, yR61_18, yR61_21, yR61_22, yR61_23, yR61_25, yA62, yA63, yA64, yA65, yA66, yA67, yA68, yA69, yA70, yA71, yS62, yS63, yS64, yS65, yS66, yS67, yS68, yS69, yS70, yS71, s2, x2, if_neg (show ¬ (1 : Int32) = 0 by decide), s3, x3, s4, x4, s5, x5, s6, x6, ep]
  · exact (MW_s1 (by omega)).tr ((p2.mw (by omega)).tr (on.mw (by omega)))
  · rw [on.2.2.2 a h3 h3, p2.2.2.2 a h2 h2]
    exact z_si_o h1
  · rw [on.2.2.2 61 (by omega) (by omega), p2.2.2.2 61 (by omega) (by omega)]
    show z_i (z_si h 61 24 _) 61 j = _
    rw [zi_si, if_pos rfl, if_neg hj]
  · rw [on.2.2.2 61 (by omega) (by omega)]; exact q24
  · show z_i (z_si (z_si (z_si (z_si (z_si (z_si (z_si h8 70 (o + 0) (v 0)) 70 (o + 1) (v 1)) 70 (o + 2) (v 2)) 70 (o + 3) (v 3)) 70 (o + 4) (v 4)) 70 (o + 5) (v 5)) 70 (o + 6) (v 6)) 70 = _
    rw [z_si_i, z_si_i, z_si_i, z_si_i, z_si_i, z_si_i, z_si_i, up6, p2.2.2.2 70 (by omega) (by omega), z_si_o (by omega)]
