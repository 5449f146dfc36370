/-- whose a sale is -/
def sw (A : Nat → Int32) (i : Nat) : Nat := (A (1087 + 41 * i + 0)).toNatClampNeg
theorem sw_eq {A : Nat → Int32} (hN : VN A) (hS : VS A) {i : Nat} (hi : i < nk A) : sw A i < nn A ∧ A (1087 + 41 * i + 0) = nI (sw A i) := by
  obtain ⟨w, mo, to, h1, h2, -⟩ := (hS.2.2 i hi).1
  have := hN.2.1
  have e : sw A i = w := by unfold sw; rw [h2, nI_clamp (by omega)]
  rw [e]
  exact ⟨h1, h2⟩
def rpS (A : Nat → Int32) (i : Nat) : PS := puS A (sc0 A (nwN A)) (nwN A) (naS A i) (sw A i)
theorem th_now {A : Nat → Int32} {s : Nat} (h : VC A s) : sT (sc0 A (nwN A)) s = true := decide_eq_true h.2.1
/-- the model lays what a sale would pay now -/
theorem e_laysRepaid {h : Z_H} (H : LY h) {A T : Nat → Int32} {c : Nat → Nat → Int32} (eA : z_i h 62 = A) (R : RS c A T) (h14 : z_i h 61 14 = -1) {i : Nat} (hi : i < nk A) : ∃ h', f_X10_laysRepaid h 61 (nI i) = some (1, h') ∧ MW h h' ∧ (rpS A i).1 ≤ 5 ∧ z_i h' 61 24 = nI (rpS A i).1 ∧ ∀ j, j < 7 * (rpS A i).1 → z_i h' 70 j = (rpS A i).2.2 j := by
  have L := R.lk
  have hv := R.1
  have hN := hv.1
  have hS := hv.2.2.1
  have h40 := hS.1
  have h99 := hN.2.2.2.1
  have e144 : A 144 = nI (nwN A) := hN.2.2.2.2
  obtain ⟨hw, ew⟩ := sw_eq hN hS hi
  obtain ⟨k1, k2, b1, b2, b3, b4, b5, b6, b7⟩ := e_scene2 H eA L h14 h99
  have K1 := b2.ly H
  have K2 := b4.ly K1
  have d1 : z_i k1 62 = A := b2.a.trans eA
  have d2 : z_i k2 62 = A := b4.a.trans d1
  have hO : SOK (sc0 A (nwN A)) := L.ok h99
  obtain ⟨k4, v1, v2, v3, v4, v5, v6, v7⟩ := e_pays (h := k2) (am := naS A i) K2 b7 hO (by rw [d2]; exact hN) (by rw [d2]; exact hv.2.2.2.1) hw (th_now (hv.2.1 _ hw)) (by rw [d2]; exact fun k u _ e => hO.2.1.lt hw e)
  rw [d2] at v5 v6 v7
  refine ⟨k4, ?_, b2.tr (b4.tr v2), v5, v6, v7⟩
  have n2 : z_i k1 62 144 = nI (nwN A) := by rw [d1]; exact e144
  have o0 : f_X10_ofSale k2 61 (nI i) 0 = some (nI (sw A i)) := by rw [e_oa0 K2 (by omega), d2]; exact congrArg some ew
  have o1 : f_X10_ofSale k2 61 (nI i) 1 = some (A (1087 + 41 * i + 1)) := by rw [e_oa1 K2 (by omega), d2]
  have o2 : f_X10_net k2 61 (nI i) (A (1087 + 41 * i + 1)) = some (naS A i) := by
    rw [e_netS K2 (by omega), d2]
    rfl
  unfold f_X10_laysRepaid
  simp (disch := first | assumption | omega) only [gd, lt, jn, bd2, Option.bind_some, LY_si, LY_sl, LY_row, decide_true, decide_false, if_true, ite_true, ite_false, decide_eq_true_eq, yg61, yI61, yP61, yR61_1, yR61_2, yR61_12, yR61_13, yR61_17, yR61_18, yR61_21, yR61_22, yR61_23, yR61_25, yA62, yA63, yA64, yA65, yA66, yA67, yA68, yA69, yA70, yA71, yS62, yS63, yS64, yS65, yS66, yS67, yS68, yS69, yS70, yS71, b1, e_now, n2, b3, o0, o1, o2, v1]
theorem op_repaid {h : Z_H} (I : Inv h) {x y z : Int32} : ∃ r h1 h2, f_X9_repaid h 0 x y z = some (r, h1) ∧ f_X10_repaid h1 61 x y z = some (r, h2) ∧ Inv h2 := by
  have H := I.1
  have C := I.ca
  have hv := I.v
  have L : LK (cl h) (z_i h 62) := I.2.1.lk
  generalize eA : z_i h 62 = A at *
  have hN := hv.1
  have hS := hv.2.2.1
  have h10 := hN.2.1
  have h40 := hS.1
  obtain ⟨en, h99⟩ := C.now
  have H1 : LY (z_si h 61 0 0) := H
  rcases nI_or (x := x) (n := nk A) (by omega) with ⟨i, hi, rfl⟩ | ⟨-, hx⟩
  · obtain ⟨hw, ew⟩ := sw_eq hN hS hi
    obtain ⟨g4, p1, p2, p3, p4⟩ := c_look H h99 L
    have G4 := p2.ly H
    have hO : SOK (sc0 A (nwN A)) := L.ok h99
    obtain ⟨g8, u1, u2, u3, u4, u5⟩ := c_payUp (am := naS A i) G4 (p2.lk L) hO p3 p4 hw (fun k u _ e => hO.2.1.lt hw e)
    have G8 := u2.ly G4
    have q8 : QS h g8 := p2.qs.tr u2.qs
    have an := c_answer (x := y) (y := z) G8 u3 u4 u5
    have I8 := q8.inv I
    have Im := I8.m
    have e8 : z_i (z_si g8 61 0 0) 62 = A := by rw [m62, q8.a, eA]
    have R8 := Im.2.1
    rw [e8] at R8
    obtain ⟨k4, v1, v2, v5, v6, v7⟩ := e_laysRepaid Im.1 e8 R8 Im.2.2.1 hi
    have K4 := v2.ly Im.1
    refine ⟨ansS (rpS A i).1 (rpS A i).2.2 y z, g8, k4, ?_, ?_, v2.qs.inv Im⟩
    · have na := c_netAmount (i := i) G4 (p2.lk L).2.2.2.2.2.2.2.2 hi
      have wh : z_i g4 22 i = nI (sw A i) := by
        rw [p2.2.2.2 22 (by omega)]
        exact ((L.2.2.2.2.2.2.2.2.2.2.2 i hi).2 0 (by omega)).trans ew
      unfold f_X9_repaid
      simp (disch := first | assumption | omega) only [gd, lt, jn, bd2, Option.bind_some, LY_si, LY_sl, LY_row, decide_true, decide_false, if_true, ite_true, ite_false, decide_eq_true_eq, yg0, yg1, yg2, yg4, yg13, yg21, yg29, yg35, yg36, yg45, yg50, yg59, yI0, yI1, yI2, yI4, yI13, yI21, yI29, yI35, yI36, yI45, yI50, yI59, yP0, yP1, yP2, yP4, yP13, yP21, yP29, yP35, yP36, yP45, yP50, yP59, yR0_0, yR0_1, yR0_2, yR0_3, yR0_4, yR1_0, yR1_1, yR1_2, yR1_3, yR1_4, yR1_5, yR2_0, yR4_4, yR4_5, yR4_6, yR4_7, yR4_8, yR4_9, yR4_10, yR4_11, yR13_1, yR13_2, yR13_3, yR13_4, yR13_5, yR13_6, yR13_7, yR21_1, yR21_2, yR21_3, yR21_4, yR21_5, yR21_6, yR21_7, yR29_0, yR29_1, yR29_2, yR35_0, yR35_1, yR35_2, yR35_3, yR35_4, yR36_4, yR36_5, yR36_6, yR36_7, yR36_8, yR36_9, yR36_10, yR36_11, yR45_0, yR50_0, yR50_1, yR50_2, yR50_3, yR50_4, yR50_5, yR50_6, yR50_7, yR59_1, yA3, yA5, yA6, yA7, yA8, yA9, yA10, yA11, yA12, yA14, yA15, yA16, yA17, yA18, yA19, yA20, yA22, yA23, yA24, yA25, yA26, yA27, yA28, yA30, yA31, yA32, yA33, yA37, yA38, yA39, yA40, yA41, yA42, yA43, yA44, yA46, yA47, yA48, yA49, yA51, yA52, yA53, yA54, yA55, yA56, yA57, yA58, yA60, yS3, yS5, yS6, yS7, yS8, yS9, yS10, yS11, yS12, yS14, yS15, yS16, yS17, yS18, yS19, yS20, yS22, yS23, yS24, yS25, yS26, yS27, yS28, yS30, yS31, yS32, yS33, yS37, yS38, yS39, yS40, yS41, yS42, yS43, yS44, yS46, yS47, yS48, yS49, yS51, yS52, yS53, yS54, yS55, yS56, yS57, yS58, yS60, c_hasS_t C hi, en, p1, wh, na, u1, an]
      rw [if_neg (show ¬ (1 : Int32) = 0 by decide)]
      rfl
    · have Hm := Im.1
      unfold f_X10_repaid
      simp (disch := first | assumption | omega) only [gd, lt, jn, bd2, Option.bind_some, LY_si, LY_sl, LY_row, decide_true, decide_false, if_true, ite_true, ite_false, decide_eq_true_eq, yg61, yI61, yP61, yR61_1, yR61_2, yR61_12, yR61_13, yR61_17, yR61_18, yR61_21, yR61_22, yR61_23, yR61_25, yA62, yA63, yA64, yA65, yA66, yA67, yA68, yA69, yA70, yA71, yS62, yS63, yS64, yS65, yS66, yS67, yS68, yS69, yS70, yS71, e_isK_t (h := z_si g8 61 0 0) (s := i) Im.1 (by rw [e8]; exact hS) (by rw [e8]; exact hi), v1, v6]
      rw [if_neg (show ¬ (1 : Int32) = 0 by decide)]
      by_cases hz : y = 0
      · rw [if_pos hz]
        unfold ansS
        rw [if_pos hz]
      · rw [if_neg hz, e_ofPaid K4 v5 v6 v7 hz]
        rfl
  · refine ⟨-2, h, z_si h 61 0 0, ?_, ?_, I.m⟩
    · unfold f_X9_repaid
      simp (disch := first | assumption | omega) only [gd, lt, jn, bd2, Option.bind_some, LY_si, LY_sl, LY_row, decide_true, decide_false, if_true, ite_true, ite_false, decide_eq_true_eq, yg0, yg1, yg2, yg4, yg13, yg21, yg29, yg35, yg36, yg45, yg50, yg59, yI0, yI1, yI2, yI4, yI13, yI21, yI29, yI35, yI36, yI45, yI50, yI59, yP0, yP1, yP2, yP4, yP13, yP21, yP29, yP35, yP36, yP45, yP50, yP59, yR0_0, yR0_1, yR0_2, yR0_3, yR0_4, yR1_0, yR1_1, yR1_2, yR1_3, yR1_4, yR1_5, yR2_0, yR4_4, yR4_5, yR4_6, yR4_7, yR4_8, yR4_9, yR4_10, yR4_11, yR13_1, yR13_2, yR13_3, yR13_4, yR13_5, yR13_6, yR13_7, yR21_1, yR21_2, yR21_3, yR21_4, yR21_5, yR21_6, yR21_7, yR29_0, yR29_1, yR29_2, yR35_0, yR35_1, yR35_2, yR35_3, yR35_4, yR36_4, yR36_5, yR36_6, yR36_7, yR36_8, yR36_9, yR36_10, yR36_11, yR45_0, yR50_0, yR50_1, yR50_2, yR50_3, yR50_4, yR50_5, yR50_6, yR50_7, yR59_1, yA3, yA5, yA6, yA7, yA8, yA9, yA10, yA11, yA12, yA14, yA15, yA16, yA17, yA18, yA19, yA20, yA22, yA23, yA24, yA25, yA26, yA27, yA28, yA30, yA31, yA32, yA33, yA37, yA38, yA39, yA40, yA41, yA42, yA43, yA44, yA46, yA47, yA48, yA49, yA51, yA52, yA53, yA54, yA55, yA56, yA57, yA58, yA60, yS3, yS5, yS6, yS7, yS8, yS9, yS10, yS11, yS12, yS14, yS15, yS16, yS17, yS18, yS19, yS20, yS22, yS23, yS24, yS25, yS26, yS27, yS28, yS30, yS31, yS32, yS33, yS37, yS38, yS39, yS40, yS41, yS42, yS43, yS44, yS46, yS47, yS48, yS49, yS51, yS52, yS53, yS54, yS55, yS56, yS57, yS58, yS60, c_hasS_f C hx]
    · unfold f_X10_repaid
      simp (disch := first | assumption | omega) only [gd, lt, jn, bd2, Option.bind_some, LY_si, LY_sl, LY_row, decide_true, decide_false, if_true, ite_true, ite_false, decide_eq_true_eq, yg61, yI61, yP61, yR61_1, yR61_2, yR61_12, yR61_13, yR61_17, yR61_18, yR61_21, yR61_22, yR61_23, yR61_25, yA62, yA63, yA64, yA65, yA66, yA67, yA68, yA69, yA70, yA71, yS62, yS63, yS64, yS65, yS66, yS67, yS68, yS69, yS70, yS71, e_isK_f (h := z_si h 61 0 0) H1 (by rw [m62, eA]; exact hS) (by rw [m62, eA]; exact hx)]
