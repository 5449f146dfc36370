theorem op_back {h : Z_H} (I : Inv h) {x y : Int32} : ∃ r h1 h2, f_X9_back h 0 x y = some (r, h1) ∧ f_X10_back h1 61 x y = some (r, h2) ∧ Inv h2 := by
  have H := I.1
  have H1 := I.m.1
  have C := I.ca
  have hv := I.v
  obtain ⟨en, h99⟩ := C.now
  have h10 := hv.1.2.1
  have h40 := hv.2.2.1.1
  have e144 : z_i h 62 144 = nI (nwN (z_i h 62)) := hv.1.2.2.2.2
  have hs1 := I.m.v.2.2.1
  rcases nI_or (x := x) (n := nk (z_i h 62)) (by omega) with ⟨i, hi, rfl⟩ | ⟨hns, hx⟩
  · obtain ⟨-, -, ⟨b, hb, eb⟩, q5, eq5, hwh, hdis⟩ := hv.2.2.1.2.2 i hi
    have eb26 : z_i h 26 i = nI b := ((c_sale C.2.2.2.2.2.2.1 hi).2.2.2.2.1).trans eb
    have eo4 := e_oa4 (s := i) H1 (by omega)
    rw [m62, eb] at eo4
    by_cases h1 : y < 1
    · refine ⟨-1, h, z_si h 61 0 0, ?_, ?_, I.m⟩
      · unfold f_X9_back
        simp (disch := first | assumption | omega) only [gd, lt, jn, bd2, Option.bind_some, LY_si, LY_sl, LY_row, decide_true, decide_false, if_true, ite_true, ite_false, decide_eq_true_eq, yg0, yg1, yg2, yg4, yg13, yg21, yg29, yg35, yg36, yg45, yg50, yg59, yI0, yI1, yI2, yI4, yI13, yI21, yI29, yI35, yI36, yI45, yI50, yI59, yP0, yP1, yP2, yP4, yP13, yP21, yP29, yP35, yP36, yP45, yP50, yP59, yR0_0, yR0_1, yR0_2, yR0_3, yR0_4, yR1_0, yR1_1, yR1_2, yR1_3, yR1_4, yR1_5, yR2_0, yR4_4, yR4_5, yR4_6, yR4_7, yR4_8, yR4_9, yR4_10, yR4_11, yR13_1, yR13_2, yR13_3, yR13_4, yR13_5, yR13_6, yR13_7, yR21_1, yR21_2, yR21_3, yR21_4, yR21_5, yR21_6, yR21_7, yR29_0, yR29_1, yR29_2, yR35_0, yR35_1, yR35_2, yR35_3, yR35_4, yR36_4, yR36_5, yR36_6, yR36_7, yR36_8, yR36_9, yR36_10, yR36_11, yR45_0, yR50_0, yR50_1, yR50_2, yR50_3, yR50_4, yR50_5, yR50_6, yR50_7, yR59_1, yA3, yA5, yA6, yA7, yA8, yA9, yA10, yA11, yA12, yA14, yA15, yA16, yA17, yA18, yA19, yA20, yA22, yA23, yA24, yA25, yA26, yA27, yA28, yA30, yA31, yA32, yA33, yA37, yA38, yA39, yA40, yA41, yA42, yA43, yA44, yA46, yA47, yA48, yA49, yA51, yA52, yA53, yA54, yA55, yA56, yA57, yA58, yA60, yS3, yS5, yS6, yS7, yS8, yS9, yS10, yS11, yS12, yS14, yS15, yS16, yS17, yS18, yS19, yS20, yS22, yS23, yS24, yS25, yS26, yS27, yS28, yS30, yS31, yS32, yS33, yS37, yS38, yS39, yS40, yS41, yS42, yS43, yS44, yS46, yS47, yS48, yS49, yS51, yS52, yS53, yS54, yS55, yS56, yS57, yS58, yS60, c_hasS_t C hi]
        rw [if_neg (by decide), if_pos h1]
      · unfold f_X10_back
        simp (disch := first | assumption | omega) only [gd, lt, jn, bd2, Option.bind_some, LY_si, LY_sl, LY_row, decide_true, decide_false, if_true, ite_true, ite_false, decide_eq_true_eq, yg61, yI61, yP61, yR61_1, yR61_2, yR61_12, yR61_13, yR61_17, yR61_18, yR61_21, yR61_22, yR61_23, yR61_25, yA62, yA63, yA64, yA65, yA66, yA67, yA68, yA69, yA70, yA71, yS62, yS63, yS64, yS65, yS66, yS67, yS68, yS69, yS70, yS71, e_isK_t H1 hs1 hi, e_in_f (show ¬ ((1 : Int32) ≤ y ∧ y ≤ 100) from fun q => absurd h1 (Int32.not_lt.mpr q.1))]
        rw [if_neg (by decide)]
    · obtain ⟨p, hp, rfl⟩ := nI_of (x := y) (fun q => h1 (Int32.lt_of_lt_of_le q (by decide)))
      have n100 : (100 : Int32) - nI b = nI (100 - b) := nI_sub (a := 100) hb
      by_cases h2 : b + p ≤ 100
      · -- it comes back
        let A := z_i h 62
        let nb := b + p
        let ix := 1087 + 41 * i + 4
        let B := upd A ix (nI nb)
        let w : Nat → Nat := fun l => (whS A i l).toNatClampNeg
        let tk : Nat → Int32 := fun l => A (1087 + 41 * i + (6 + 7 * l + 2)) * (100 - nI b) / 100 - A (1087 + 41 * i + (6 + 7 * l + 2)) * (100 - nI nb) / 100
        have hw : ∀ l, l < nq A i → w l < nn A ∧ whS A i l = nI (w l) := by
          intro l hl
          obtain ⟨q, hq, e⟩ := hwh l hl
          have : w l = q := by show (whS A i l).toNatClampNeg = q; rw [e, nI_clamp (by omega)]
          rw [this]
          exact ⟨hq, e⟩
        have hw10 : ∀ l, l < nq A i → w l < 10 := fun l hl => by have := (hw l hl).1; have : nn A ≤ 10 := h10; omega
        have R9 : RS (cl (z_si h 26 i (nI nb))) B (z_i h 63) := RS_back I.2.1 hi (by show b + p ≤ 100; exact h2) (fun o h1 h2 => cl_si (by omega)) (show z_i (z_si h 26 i (nI nb)) 26 = _ from z_si_i)
        have G9 : LY (z_si h 26 i (nI nb)) := H
        have Bhi : ∀ k, k ≤ nq A i → ∀ j, 1087 ≤ j → j ≠ ix → jL B 1 (nI (nwN A)) (nI i) w tk k j = A j := fun k hk j hj hne => by
          rw [jL_hi hj k (fun l hl => hw10 l (by omega))]
          exact upd_o hne
        have Ahi : ∀ k, k ≤ nq A i → ∀ j, 1087 ≤ j → jL A 1 (nI (nwN A)) (nI i) w tk k j = A j := fun k hk j hj => jL_hi hj k (fun l hl => hw10 l (by omega))
        -- the class's loop
        have kc := lp_ex (b := f_X9_back_l1 0 (nI i) (nI p) 21 (nI b)) (fun k (q : Int32 × Z_H) => (q.1, nI (k + 1), q.2)) (fun k q => q.1 = sm tk k ∧ LY q.2 ∧ RS (cl q.2) (jL B 1 (nI (nwN A)) (nI i) w tk k) (z_i h 63) ∧ z_n q.2 = z_n h ∧ z_t q.2 = z_t h ∧ z_x q.2 = z_x h ∧ ∀ a, a ≠ 30 → a ≠ 31 → a ≠ 32 → z_i q.2 a = z_i (z_si h 26 i (nI nb)) a) some (nq A i) ?_ ?_ (nq A i) FU 0 (0, z_si h 26 i (nI nb)) (by omega) (by have : nq A i ≤ 5 := q5; unfold FU; omega) ⟨rfl, G9, R9, rfl, rfl, rfl, fun _ _ _ _ => rfl⟩
        · obtain ⟨⟨rc, g⟩, ⟨erc, Gg, Rg, g1, g2, g3, g4⟩, kc⟩ := kc
          have kc' : lp (f_X9_back_l1 0 (nI i) (nI p) 21 (nI b)) FU (0, 1, z_si h 26 i (nI (b + p))) = some (rc, g) := kc
          dsimp only at erc Gg Rg g1 g2 g3 g4
          have e62g : z_i g 62 = A := by rw [g4 62 (by omega) (by omega) (by omega), z_si_o (by omega)]
          have Gm : LY (z_si g 61 0 0) := Gg
          have em62 : z_i (z_si g 61 0 0) 62 = A := by rw [z_si_o (by omega), e62g]
          have hvm : VS (z_i (z_si g 61 0 0) 62) := by rw [em62]; exact hv.2.2.1
          have km := lp_ex (b := f_X10_back_l1 61 (nI i) (nI nb)) (fun k (q : Int32 × Z_H) => (q.1, nI k, q.2)) (fun k q => q.1 = sm tk k ∧ LY q.2 ∧ ON (z_si g 61 0 0) q.2 62 ∧ z_i q.2 62 = jL A 1 (nI (nwN A)) (nI i) w tk k) some (nq A i) ?_ ?_ (nq A i) FU 0 (0, z_si g 61 0 0) (by omega) (by have : nq A i ≤ 5 := q5; unfold FU; omega) ⟨rfl, Gm, TW.rf, em62⟩
          · obtain ⟨⟨rm, k⟩, ⟨erm, Gk, onk, ek⟩, km⟩ := km
            have km' : lp (f_X10_back_l1 61 (nI i) (nI nb)) FU (0, 0, z_si g 61 0 0) = some (rm, k) := km
            dsimp only at erm Gk onk ek
            have si : sI k 62 (((1087 : Int32) + ((41 : Int32) * nI i)) + 4) (nI nb) = some (z_si k 62 ix (nI nb)) := by
              rw [n_1087, n_41, n_4, nI_mul, nI_add, nI_add]
              exact yS62 Gk (by show 1087 + 41 * i + 4 < 10908; omega)
            refine ⟨sm tk (nq A i), g, z_si k 62 ix (nI nb), ?_, ?_, ?_⟩
            · unfold f_X9_back
              simp (disch := first | assumption | omega) only [gd, lt, jn, bd2, Option.bind_some, LY_si, LY_sl, LY_row, decide_true, decide_false, if_true, ite_true, ite_false, decide_eq_true_eq, yg0, yg1, yg2, yg4, yg13, yg21, yg29, yg35, yg36, yg45, yg50, yg59, yI0, yI1, yI2, yI4, yI13, yI21, yI29, yI35, yI36, yI45, yI50, yI59, yP0, yP1, yP2, yP4, yP13, yP21, yP29, yP35, yP36, yP45, yP50, yP59, yR0_0, yR0_1, yR0_2, yR0_3, yR0_4, yR1_0, yR1_1, yR1_2, yR1_3, yR1_4, yR1_5, yR2_0, yR4_4, yR4_5, yR4_6, yR4_7, yR4_8, yR4_9, yR4_10, yR4_11, yR13_1, yR13_2, yR13_3, yR13_4, yR13_5, yR13_6, yR13_7, yR21_1, yR21_2, yR21_3, yR21_4, yR21_5, yR21_6, yR21_7, yR29_0, yR29_1, yR29_2, yR35_0, yR35_1, yR35_2, yR35_3, yR35_4, yR36_4, yR36_5, yR36_6, yR36_7, yR36_8, yR36_9, yR36_10, yR36_11, yR45_0, yR50_0, yR50_1, yR50_2, yR50_3, yR50_4, yR50_5, yR50_6, yR50_7, yR59_1, yA3, yA5, yA6, yA7, yA8, yA9, yA10, yA11, yA12, yA14, yA15, yA16, yA17, yA18, yA19, yA20, yA22, yA23, yA24, yA25, yA26, yA27, yA28, yA30, yA31, yA32, yA33, yA37, yA38, yA39, yA40, yA41, yA42, yA43, yA44, yA46, yA47, yA48, yA49, yA51, yA52, yA53, yA54, yA55, yA56, yA57, yA58, yA60, yS3, yS5, yS6, yS7, yS8, yS9, yS10, yS11, yS12, yS14, yS15, yS16, yS17, yS18, yS19, yS20, yS22, yS23, yS24, yS25, yS26, yS27, yS28, yS30, yS31, yS32, yS33, yS37, yS38, yS39, yS40, yS41, yS42, yS43, yS44, yS46, yS47, yS48, yS49, yS51, yS52, yS53, yS54, yS55, yS56, yS57, yS58, yS60, c_hasS_t C hi, eb26, n100, nI_add, kc']
              rw [if_neg (by decide), if_neg h1, if_pos (nI_le (by omega) (by omega)), erc]
            · unfold f_X10_back
              have eo4' := e_oa4 (s := i) Gm (by omega)
              rw [em62, show A (1087 + 41 * i + 4) = nI b from eb] at eo4'
              simp (disch := first | assumption | omega) only [gd, lt, jn, bd2, Option.bind_some, LY_si, LY_sl, LY_row, decide_true, decide_false, if_true, ite_true, ite_false, decide_eq_true_eq, yg61, yI61, yP61, yR61_1, yR61_2, yR61_12, yR61_13, yR61_17, yR61_18, yR61_21, yR61_22, yR61_23, yR61_25, yA62, yA63, yA64, yA65, yA66, yA67, yA68, yA69, yA70, yA71, yS62, yS63, yS64, yS65, yS66, yS67, yS68, yS69, yS70, yS71, e_isK_t Gm hvm (by rw [em62]; exact hi), e_in_t (show (1 : Int32) ≤ nI p from Int32.not_lt.mp h1) (show nI p ≤ 100 from nI_le (b := 100) (by omega) (by omega)), eo4', nI_add, show nI (b + p) = nI nb from rfl, km', si]
              rw [if_neg (by decide), if_neg (by decide), if_pos (show nI nb ≤ (100 : Int32) from nI_le (b := 100) h2 (by omega)), erm]
            · have e62k : z_i (z_si k 62 ix (nI nb)) 62 = jL B 1 (nI (nwN A)) (nI i) w tk (nq A i) := by
                rw [z_si_i, ek, jL_upd (by show 1087 ≤ 1087 + 41 * i + 4; omega) _ hw10]
              have kz : ∀ a, a ≠ 61 → a ≠ 62 → z_i (z_si k 62 ix (nI nb)) a = z_i g a := fun a h1 h2 => by rw [z_si_o h2, onk.2.2.2 a h2 h2, z_si_o h1]
              refine I.of ⟨?_, ?_, ?_, fun a ha => ?_, fun j hj => ?_, fun j hj => ?_, ?_⟩ ?_ ?_
              · exact onk.1.trans g1
              · exact onk.2.1.trans g2
              · exact onk.2.2.1.trans g3
              · rw [kz a (by omega) (by omega), g4 a (by omega) (by omega) (by omega), z_si_o (by omega)]
              · rw [e62k, Bhi _ (Nat.le_refl _) j (by omega) (by show j ≠ 1087 + 41 * i + 4; omega)]
              · rw [kz 63 (by omega) (by omega), g4 63 (by omega) (by omega) (by omega), z_si_o (by omega)]
              · rw [kz 71 (by omega) (by omega), g4 71 (by omega) (by omega) (by omega), z_si_o (by omega)]
              · rw [e62k, kz 63 (by omega) (by omega), g4 63 (by omega) (by omega) (by omega), z_si_o (by omega)]
                exact ⟨Rg.1, RC_congr (fun o _ ho => kz (1 + o) (by omega) (by omega)) Rg.2⟩
              · rw [z_si_o (by omega), onk.2.2.2 61 (by omega) (by omega), zi_si, if_pos rfl, if_neg (by omega), g4 61 (by omega) (by omega) (by omega), z_si_o (by omega)]
                exact I.2.2.1
          · rintro k ⟨acc, q⟩ hk ⟨e1, e2, e3, e4⟩
            dsimp only at e1 e2 e3 e4
            have q5' : nq A i ≤ 5 := q5
            have o5 := e_oa5 (s := i) e2 (by omega)
            rw [e4, Ahi k (by omega) _ (by omega), show A (1087 + 41 * i + 5) = nI (nq A i) from eq5] at o5
            have o2 := e_ol2 (s := i) (l := k) e2 (by omega) (by omega)
            rw [e4, Ahi k (by omega) _ (by omega)] at o2
            have o0 := e_ol0 (s := i) (l := k) e2 (by omega) (by omega)
            rw [e4, Ahi k (by omega) _ (by omega), show A (1087 + 41 * i + (6 + 7 * k + 0)) = nI (w k) from (hw k hk).2] at o0
            have onp := e_netPay (k := i) (n := k) e2 (by omega) (by omega)
            rw [e4, show npS (jL A 1 (nI (nwN A)) (nI i) w tk k) i k = A (1087 + 41 * i + (6 + 7 * k + 2)) * (100 - nI b) / 100 from by
              unfold npS netS
              rw [Ahi k (by omega) _ (by omega), Ahi k (by omega) _ (by omega), show A (1087 + 41 * i + 4) = nI b from eb]] at onp
            by_cases ht : tk k ≤ 0
            · refine ⟨(acc + tk k, q), ⟨by rw [e1]; rfl, e2, e3, e4.trans (if_pos ht).symm⟩, fun rec => ?_⟩
              unfold f_X10_back_l1
              simp (disch := first | assumption | omega) only [gd, lt, jn, bd2, Option.bind_some, LY_si, LY_sl, LY_row, decide_true, decide_false, if_true, ite_true, ite_false, decide_eq_true_eq, yg61, yI61, yP61, yR61_1, yR61_2, yR61_12, yR61_13, yR61_17, yR61_18, yR61_21, yR61_22, yR61_23, yR61_25, yA62, yA63, yA64, yA65, yA66, yA67, yA68, yA69, yA70, yA71, yS62, yS63, yS64, yS65, yS66, yS67, yS68, yS69, yS70, yS71, o5, o2, onp, nI_1]
              rw [if_neg (nI_ge hk (by omega)), if_pos ht]
            · obtain ⟨q', y1, y2, y3⟩ := e_writes (h := q) (s := w k) (w := 1) (mu := tk k) (sa := nI i) e2 (hw10 k hk)
              refine ⟨(acc + tk k, q'), ⟨by rw [e1]; rfl, y2.ly e2, e3.tr y2, ?_⟩, fun rec => ?_⟩
              · rw [y3, e4]
                conv => rhs; unfold jL
                rw [if_neg ht, jL_lo (by omega), show A 144 = nI (nwN A) from e144]
              · unfold f_X10_back_l1
                simp (disch := first | assumption | omega) only [gd, lt, jn, bd2, Option.bind_some, LY_si, LY_sl, LY_row, decide_true, decide_false, if_true, ite_true, ite_false, decide_eq_true_eq, yg61, yI61, yP61, yR61_1, yR61_2, yR61_12, yR61_13, yR61_17, yR61_18, yR61_21, yR61_22, yR61_23, yR61_25, yA62, yA63, yA64, yA65, yA66, yA67, yA68, yA69, yA70, yA71, yS62, yS63, yS64, yS65, yS66, yS67, yS68, yS69, yS70, yS71, o5, o2, onp, o0, nI_1]
                rw [if_neg (nI_ge hk (by omega)), if_neg ht, y1]
                rfl
          · rintro rec ⟨acc, q⟩ ⟨e1, e2, e3, e4⟩
            dsimp only at e1 e2 e3 e4
            have q5' : nq A i ≤ 5 := q5
            have o5 := e_oa5 (s := i) e2 (by omega)
            rw [e4, Ahi _ (Nat.le_refl _) _ (by omega), show A (1087 + 41 * i + 5) = nI (nq A i) from eq5] at o5
            unfold f_X10_back_l1
            simp (disch := first | assumption | omega) only [gd, lt, jn, bd2, Option.bind_some, LY_si, LY_sl, LY_row, decide_true, decide_false, if_true, ite_true, ite_false, decide_eq_true_eq, yg61, yI61, yP61, yR61_1, yR61_2, yR61_12, yR61_13, yR61_17, yR61_18, yR61_21, yR61_22, yR61_23, yR61_25, yA62, yA63, yA64, yA65, yA66, yA67, yA68, yA69, yA70, yA71, yS62, yS63, yS64, yS65, yS66, yS67, yS68, yS69, yS70, yS71, o5]
            rw [if_pos (nI_le (Nat.le_refl _) (by omega))]
        · rintro k ⟨acc, q⟩ hk ⟨e1, e2, e3, e4, e5, e6, e7⟩
          dsimp only at e1 e2 e3 e4 e5 e6 e7
          have q5' : nq A i ≤ 5 := q5
          have eqk : nq (jL B 1 (nI (nwN A)) (nI i) w tk k) i = nq A i := by unfold nq; rw [Bhi k (by omega) _ (by omega) (by show _ ≠ 1087 + 41 * i + 4; omega)]
          have ekk : nk (jL B 1 (nI (nwN A)) (nI i) w tk k) = nk A := by
            unfold nk
            rw [jL_lo (by omega)]
            show (upd A ix (nI nb) 146).toNatClampNeg = _
            rw [upd_o (by show 146 ≠ 1087 + 41 * i + 4; omega)]
          have enk : nn (jL B 1 (nI (nwN A)) (nI i) w tk k) = nn A := by
            unfold nn
            rw [jL_lo (by omega)]
            show (upd A ix (nI nb) 145).toNatClampNeg = _
            rw [upd_o (by show 145 ≠ 1087 + 41 * i + 4; omega)]
          have t27 : z_i q 27 i = nI (nq A i) := by
            rw [e7 27 (by omega) (by omega) (by omega), z_si_o (by omega)]
            exact ((c_sale C.2.2.2.2.2.2.1 hi).2.2.2.2.2).trans eq5
          have f2 := c_fact2 (i := i) (l := k) e2 e3.2.2.1 e3.1.2.2.1 (by rw [ekk]; exact hi) (by rw [eqk]; exact hk)
          rw [Bhi k (by omega) _ (by omega) (ne41 (by omega) (by omega) (by omega))] at f2
          have f0 := c_fact0 (i := i) (l := k) e2 e3.2.2.1 e3.1.2.2.1 (by rw [ekk]; exact hi) (by rw [eqk]; exact hk)
          rw [show whS (jL B 1 (nI (nwN A)) (nI i) w tk k) i k = nI (w k) from by
            unfold whS
            rw [Bhi k (by omega) _ (by omega) (ne41 (by omega) (by omega) (by omega))]
            exact (hw k hk).2] at f0
          have now8 : z_i q 1 8 = nI (nwN A) := by
            rw [e7 1 (by omega) (by omega) (by omega), z_si_o (by omega)]
            exact en
          by_cases ht : tk k ≤ 0
          · have nt : f_X7_note q 1 (nI (w k)) 1 (tk k) (nI i) = some q := by
              unfold f_X7_note
              simp (disch := first | assumption | omega) only [gd, lt, jn, bd2, Option.bind_some, LY_si, LY_sl, LY_row, decide_true, decide_false, if_true, ite_true, ite_false, decide_eq_true_eq, yg0, yg1, yg2, yg4, yg13, yg21, yg29, yg35, yg36, yg45, yg50, yg59, yI0, yI1, yI2, yI4, yI13, yI21, yI29, yI35, yI36, yI45, yI50, yI59, yP0, yP1, yP2, yP4, yP13, yP21, yP29, yP35, yP36, yP45, yP50, yP59, yR0_0, yR0_1, yR0_2, yR0_3, yR0_4, yR1_0, yR1_1, yR1_2, yR1_3, yR1_4, yR1_5, yR2_0, yR4_4, yR4_5, yR4_6, yR4_7, yR4_8, yR4_9, yR4_10, yR4_11, yR13_1, yR13_2, yR13_3, yR13_4, yR13_5, yR13_6, yR13_7, yR21_1, yR21_2, yR21_3, yR21_4, yR21_5, yR21_6, yR21_7, yR29_0, yR29_1, yR29_2, yR35_0, yR35_1, yR35_2, yR35_3, yR35_4, yR36_4, yR36_5, yR36_6, yR36_7, yR36_8, yR36_9, yR36_10, yR36_11, yR45_0, yR50_0, yR50_1, yR50_2, yR50_3, yR50_4, yR50_5, yR50_6, yR50_7, yR59_1, yA3, yA5, yA6, yA7, yA8, yA9, yA10, yA11, yA12, yA14, yA15, yA16, yA17, yA18, yA19, yA20, yA22, yA23, yA24, yA25, yA26, yA27, yA28, yA30, yA31, yA32, yA33, yA37, yA38, yA39, yA40, yA41, yA42, yA43, yA44, yA46, yA47, yA48, yA49, yA51, yA52, yA53, yA54, yA55, yA56, yA57, yA58, yA60, yS3, yS5, yS6, yS7, yS8, yS9, yS10, yS11, yS12, yS14, yS15, yS16, yS17, yS18, yS19, yS20, yS22, yS23, yS24, yS25, yS26, yS27, yS28, yS30, yS31, yS32, yS33, yS37, yS38, yS39, yS40, yS41, yS42, yS43, yS44, yS46, yS47, yS48, yS49, yS51, yS52, yS53, yS54, yS55, yS56, yS57, yS58, yS60]
              rw [if_pos ht]
            refine ⟨(acc + tk k, q), ⟨by rw [e1]; rfl, e2, by unfold jL; rw [if_pos ht]; exact e3, e4, e5, e6, e7⟩, fun rec => ?_⟩
            unfold f_X9_back_l1
            simp (disch := first | assumption | omega) only [gd, lt, jn, bd2, Option.bind_some, LY_si, LY_sl, LY_row, decide_true, decide_false, if_true, ite_true, ite_false, decide_eq_true_eq, yg0, yg1, yg2, yg4, yg13, yg21, yg29, yg35, yg36, yg45, yg50, yg59, yI0, yI1, yI2, yI4, yI13, yI21, yI29, yI35, yI36, yI45, yI50, yI59, yP0, yP1, yP2, yP4, yP13, yP21, yP29, yP35, yP36, yP45, yP50, yP59, yR0_0, yR0_1, yR0_2, yR0_3, yR0_4, yR1_0, yR1_1, yR1_2, yR1_3, yR1_4, yR1_5, yR2_0, yR4_4, yR4_5, yR4_6, yR4_7, yR4_8, yR4_9, yR4_10, yR4_11, yR13_1, yR13_2, yR13_3, yR13_4, yR13_5, yR13_6, yR13_7, yR21_1, yR21_2, yR21_3, yR21_4, yR21_5, yR21_6, yR21_7, yR29_0, yR29_1, yR29_2, yR35_0, yR35_1, yR35_2, yR35_3, yR35_4, yR36_4, yR36_5, yR36_6, yR36_7, yR36_8, yR36_9, yR36_10, yR36_11, yR45_0, yR50_0, yR50_1, yR50_2, yR50_3, yR50_4, yR50_5, yR50_6, yR50_7, yR59_1, yA3, yA5, yA6, yA7, yA8, yA9, yA10, yA11, yA12, yA14, yA15, yA16, yA17, yA18, yA19, yA20, yA22, yA23, yA24, yA25, yA26, yA27, yA28, yA30, yA31, yA32, yA33, yA37, yA38, yA39, yA40, yA41, yA42, yA43, yA44, yA46, yA47, yA48, yA49, yA51, yA52, yA53, yA54, yA55, yA56, yA57, yA58, yA60, yS3, yS5, yS6, yS7, yS8, yS9, yS10, yS11, yS12, yS14, yS15, yS16, yS17, yS18, yS19, yS20, yS22, yS23, yS24, yS25, yS26, yS27, yS28, yS30, yS31, yS32, yS33, yS37, yS38, yS39, yS40, yS41, yS42, yS43, yS44, yS46, yS47, yS48, yS49, yS51, yS52, yS53, yS54, yS55, yS56, yS57, yS58, yS60, t27, f2, f_X9_net, f0, nI_1, nI_add]
            rw [if_neg (nI_nlt (by omega) (by omega))]
            rw [show A (1087 + 41 * i + (6 + 7 * k + 2)) * (100 - nI b) / 100 - A (1087 + 41 * i + (6 + 7 * k + 2)) * (100 - nI (b + p)) / 100 = tk k from rfl, nt]
            rfl
          · obtain ⟨g, x1, x2, x3, x4, x5, x6⟩ := c_line (s := w k) (w := 1) (m := nI (nwN A)) (mu := tk k) (sa := nI i) e2 e3 (by rw [enk]; exact (hw k hk).1)
            have nt : f_X7_note q 1 (nI (w k)) 1 (tk k) (nI i) = some g := by
              unfold f_X7_note
              simp (disch := first | assumption | omega) only [gd, lt, jn, bd2, Option.bind_some, LY_si, LY_sl, LY_row, decide_true, decide_false, if_true, ite_true, ite_false, decide_eq_true_eq, yg0, yg1, yg2, yg4, yg13, yg21, yg29, yg35, yg36, yg45, yg50, yg59, yI0, yI1, yI2, yI4, yI13, yI21, yI29, yI35, yI36, yI45, yI50, yI59, yP0, yP1, yP2, yP4, yP13, yP21, yP29, yP35, yP36, yP45, yP50, yP59, yR0_0, yR0_1, yR0_2, yR0_3, yR0_4, yR1_0, yR1_1, yR1_2, yR1_3, yR1_4, yR1_5, yR2_0, yR4_4, yR4_5, yR4_6, yR4_7, yR4_8, yR4_9, yR4_10, yR4_11, yR13_1, yR13_2, yR13_3, yR13_4, yR13_5, yR13_6, yR13_7, yR21_1, yR21_2, yR21_3, yR21_4, yR21_5, yR21_6, yR21_7, yR29_0, yR29_1, yR29_2, yR35_0, yR35_1, yR35_2, yR35_3, yR35_4, yR36_4, yR36_5, yR36_6, yR36_7, yR36_8, yR36_9, yR36_10, yR36_11, yR45_0, yR50_0, yR50_1, yR50_2, yR50_3, yR50_4, yR50_5, yR50_6, yR50_7, yR59_1, yA3, yA5, yA6, yA7, yA8, yA9, yA10, yA11, yA12, yA14, yA15, yA16, yA17, yA18, yA19, yA20, yA22, yA23, yA24, yA25, yA26, yA27, yA28, yA30, yA31, yA32, yA33, yA37, yA38, yA39, yA40, yA41, yA42, yA43, yA44, yA46, yA47, yA48, yA49, yA51, yA52, yA53, yA54, yA55, yA56, yA57, yA58, yA60, yS3, yS5, yS6, yS7, yS8, yS9, yS10, yS11, yS12, yS14, yS15, yS16, yS17, yS18, yS19, yS20, yS22, yS23, yS24, yS25, yS26, yS27, yS28, yS30, yS31, yS32, yS33, yS37, yS38, yS39, yS40, yS41, yS42, yS43, yS44, yS46, yS47, yS48, yS49, yS51, yS52, yS53, yS54, yS55, yS56, yS57, yS58, yS60, now8, x1]
              rw [if_neg ht]
            refine ⟨(acc + tk k, g), ⟨by rw [e1]; rfl, LY_x x2 x4 e2, by unfold jL; rw [if_neg ht]; exact x6, x2.trans e4, x3.trans e5, x4.trans e6, fun a h1 h2 h3 => (x5 a h1 h2 h3).trans (e7 a h1 h2 h3)⟩, fun rec => ?_⟩
            unfold f_X9_back_l1
            simp (disch := first | assumption | omega) only [gd, lt, jn, bd2, Option.bind_some, LY_si, LY_sl, LY_row, decide_true, decide_false, if_true, ite_true, ite_false, decide_eq_true_eq, yg0, yg1, yg2, yg4, yg13, yg21, yg29, yg35, yg36, yg45, yg50, yg59, yI0, yI1, yI2, yI4, yI13, yI21, yI29, yI35, yI36, yI45, yI50, yI59, yP0, yP1, yP2, yP4, yP13, yP21, yP29, yP35, yP36, yP45, yP50, yP59, yR0_0, yR0_1, yR0_2, yR0_3, yR0_4, yR1_0, yR1_1, yR1_2, yR1_3, yR1_4, yR1_5, yR2_0, yR4_4, yR4_5, yR4_6, yR4_7, yR4_8, yR4_9, yR4_10, yR4_11, yR13_1, yR13_2, yR13_3, yR13_4, yR13_5, yR13_6, yR13_7, yR21_1, yR21_2, yR21_3, yR21_4, yR21_5, yR21_6, yR21_7, yR29_0, yR29_1, yR29_2, yR35_0, yR35_1, yR35_2, yR35_3, yR35_4, yR36_4, yR36_5, yR36_6, yR36_7, yR36_8, yR36_9, yR36_10, yR36_11, yR45_0, yR50_0, yR50_1, yR50_2, yR50_3, yR50_4, yR50_5, yR50_6, yR50_7, yR59_1, yA3, yA5, yA6, yA7, yA8, yA9, yA10, yA11, yA12, yA14, yA15, yA16, yA17, yA18, yA19, yA20, yA22, yA23, yA24, yA25, yA26, yA27, yA28, yA30, yA31, yA32, yA33, yA37, yA38, yA39, yA40, yA41, yA42, yA43, yA44, yA46, yA47, yA48, yA49, yA51, yA52, yA53, yA54, yA55, yA56, yA57, yA58, yA60, yS3, yS5, yS6, yS7, yS8, yS9, yS10, yS11, yS12, yS14, yS15, yS16, yS17, yS18, yS19, yS20, yS22, yS23, yS24, yS25, yS26, yS27, yS28, yS30, yS31, yS32, yS33, yS37, yS38, yS39, yS40, yS41, yS42, yS43, yS44, yS46, yS47, yS48, yS49, yS51, yS52, yS53, yS54, yS55, yS56, yS57, yS58, yS60, t27, f2, f_X9_net, f0, nI_1, nI_add]
            rw [if_neg (nI_nlt (by omega) (by omega))]
            rw [show A (1087 + 41 * i + (6 + 7 * k + 2)) * (100 - nI b) / 100 - A (1087 + 41 * i + (6 + 7 * k + 2)) * (100 - nI (b + p)) / 100 = tk k from rfl, nt]
            rfl
        · rintro rec ⟨acc, q⟩ ⟨e1, e2, e3, e4, e5, e6, e7⟩
          dsimp only at e1 e2 e3 e4 e5 e6 e7
          have q5' : nq A i ≤ 5 := q5
          have t27 : z_i q 27 i = nI (nq A i) := by
            rw [e7 27 (by omega) (by omega) (by omega), z_si_o (by omega)]
            exact ((c_sale C.2.2.2.2.2.2.1 hi).2.2.2.2.2).trans eq5
          unfold f_X9_back_l1
          simp (disch := first | assumption | omega) only [gd, lt, jn, bd2, Option.bind_some, LY_si, LY_sl, LY_row, decide_true, decide_false, if_true, ite_true, ite_false, decide_eq_true_eq, yg0, yg1, yg2, yg4, yg13, yg21, yg29, yg35, yg36, yg45, yg50, yg59, yI0, yI1, yI2, yI4, yI13, yI21, yI29, yI35, yI36, yI45, yI50, yI59, yP0, yP1, yP2, yP4, yP13, yP21, yP29, yP35, yP36, yP45, yP50, yP59, yR0_0, yR0_1, yR0_2, yR0_3, yR0_4, yR1_0, yR1_1, yR1_2, yR1_3, yR1_4, yR1_5, yR2_0, yR4_4, yR4_5, yR4_6, yR4_7, yR4_8, yR4_9, yR4_10, yR4_11, yR13_1, yR13_2, yR13_3, yR13_4, yR13_5, yR13_6, yR13_7, yR21_1, yR21_2, yR21_3, yR21_4, yR21_5, yR21_6, yR21_7, yR29_0, yR29_1, yR29_2, yR35_0, yR35_1, yR35_2, yR35_3, yR35_4, yR36_4, yR36_5, yR36_6, yR36_7, yR36_8, yR36_9, yR36_10, yR36_11, yR45_0, yR50_0, yR50_1, yR50_2, yR50_3, yR50_4, yR50_5, yR50_6, yR50_7, yR59_1, yA3, yA5, yA6, yA7, yA8, yA9, yA10, yA11, yA12, yA14, yA15, yA16, yA17, yA18, yA19, yA20, yA22, yA23, yA24, yA25, yA26, yA27, yA28, yA30, yA31, yA32, yA33, yA37, yA38, yA39, yA40, yA41, yA42, yA43, yA44, yA46, yA47, yA48, yA49, yA51, yA52, yA53, yA54, yA55, yA56, yA57, yA58, yA60, yS3, yS5, yS6, yS7, yS8, yS9, yS10, yS11, yS12, yS14, yS15, yS16, yS17, yS18, yS19, yS20, yS22, yS23, yS24, yS25, yS26, yS27, yS28, yS30, yS31, yS32, yS33, yS37, yS38, yS39, yS40, yS41, yS42, yS43, yS44, yS46, yS47, yS48, yS49, yS51, yS52, yS53, yS54, yS55, yS56, yS57, yS58, yS60, t27]
          rw [if_pos (nI_lt (by omega) (by omega))]
      · refine ⟨-1, h, z_si h 61 0 0, ?_, ?_, I.m⟩
        · unfold f_X9_back
          simp (disch := first | assumption | omega) only [gd, lt, jn, bd2, Option.bind_some, LY_si, LY_sl, LY_row, decide_true, decide_false, if_true, ite_true, ite_false, decide_eq_true_eq, yg0, yg1, yg2, yg4, yg13, yg21, yg29, yg35, yg36, yg45, yg50, yg59, yI0, yI1, yI2, yI4, yI13, yI21, yI29, yI35, yI36, yI45, yI50, yI59, yP0, yP1, yP2, yP4, yP13, yP21, yP29, yP35, yP36, yP45, yP50, yP59, yR0_0, yR0_1, yR0_2, yR0_3, yR0_4, yR1_0, yR1_1, yR1_2, yR1_3, yR1_4, yR1_5, yR2_0, yR4_4, yR4_5, yR4_6, yR4_7, yR4_8, yR4_9, yR4_10, yR4_11, yR13_1, yR13_2, yR13_3, yR13_4, yR13_5, yR13_6, yR13_7, yR21_1, yR21_2, yR21_3, yR21_4, yR21_5, yR21_6, yR21_7, yR29_0, yR29_1, yR29_2, yR35_0, yR35_1, yR35_2, yR35_3, yR35_4, yR36_4, yR36_5, yR36_6, yR36_7, yR36_8, yR36_9, yR36_10, yR36_11, yR45_0, yR50_0, yR50_1, yR50_2, yR50_3, yR50_4, yR50_5, yR50_6, yR50_7, yR59_1, yA3, yA5, yA6, yA7, yA8, yA9, yA10, yA11, yA12, yA14, yA15, yA16, yA17, yA18, yA19, yA20, yA22, yA23, yA24, yA25, yA26, yA27, yA28, yA30, yA31, yA32, yA33, yA37, yA38, yA39, yA40, yA41, yA42, yA43, yA44, yA46, yA47, yA48, yA49, yA51, yA52, yA53, yA54, yA55, yA56, yA57, yA58, yA60, yS3, yS5, yS6, yS7, yS8, yS9, yS10, yS11, yS12, yS14, yS15, yS16, yS17, yS18, yS19, yS20, yS22, yS23, yS24, yS25, yS26, yS27, yS28, yS30, yS31, yS32, yS33, yS37, yS38, yS39, yS40, yS41, yS42, yS43, yS44, yS46, yS47, yS48, yS49, yS51, yS52, yS53, yS54, yS55, yS56, yS57, yS58, yS60, c_hasS_t C hi, eb26, n100]
          rw [if_neg (by decide), if_neg h1, if_neg (nI_ge (by omega) (by omega))]
        · unfold f_X10_back
          by_cases h3 : p ≤ 100
          · simp (disch := first | assumption | omega) only [gd, lt, jn, bd2, Option.bind_some, LY_si, LY_sl, LY_row, decide_true, decide_false, if_true, ite_true, ite_false, decide_eq_true_eq, yg61, yI61, yP61, yR61_1, yR61_2, yR61_12, yR61_13, yR61_17, yR61_18, yR61_21, yR61_22, yR61_23, yR61_25, yA62, yA63, yA64, yA65, yA66, yA67, yA68, yA69, yA70, yA71, yS62, yS63, yS64, yS65, yS66, yS67, yS68, yS69, yS70, yS71, e_isK_t H1 hs1 hi, e_in_t (show (1 : Int32) ≤ nI p from Int32.not_lt.mp h1) (show nI p ≤ 100 from nI_le (b := 100) h3 (by omega)), eo4, nI_add]
            rw [if_neg (by decide), if_neg (by decide), if_neg (show ¬ nI (b + p) ≤ (100 : Int32) from nI_ge (a := 100) (by omega) (by omega))]
          · simp (disch := first | assumption | omega) only [gd, lt, jn, bd2, Option.bind_some, LY_si, LY_sl, LY_row, decide_true, decide_false, if_true, ite_true, ite_false, decide_eq_true_eq, yg61, yI61, yP61, yR61_1, yR61_2, yR61_12, yR61_13, yR61_17, yR61_18, yR61_21, yR61_22, yR61_23, yR61_25, yA62, yA63, yA64, yA65, yA66, yA67, yA68, yA69, yA70, yA71, yS62, yS63, yS64, yS65, yS66, yS67, yS68, yS69, yS70, yS71, e_isK_t H1 hs1 hi, e_in_f (show ¬ ((1 : Int32) ≤ nI p ∧ nI p ≤ 100) from fun q => nI_ge (a := 100) (by omega) hp q.2)]
            rw [if_neg (by decide)]
  · refine ⟨-1, h, z_si h 61 0 0, ?_, ?_, I.m⟩
    · unfold f_X9_back
      simp (disch := first | assumption | omega) only [gd, lt, jn, bd2, Option.bind_some, LY_si, LY_sl, LY_row, decide_true, decide_false, if_true, ite_true, ite_false, decide_eq_true_eq, yg0, yg1, yg2, yg4, yg13, yg21, yg29, yg35, yg36, yg45, yg50, yg59, yI0, yI1, yI2, yI4, yI13, yI21, yI29, yI35, yI36, yI45, yI50, yI59, yP0, yP1, yP2, yP4, yP13, yP21, yP29, yP35, yP36, yP45, yP50, yP59, yR0_0, yR0_1, yR0_2, yR0_3, yR0_4, yR1_0, yR1_1, yR1_2, yR1_3, yR1_4, yR1_5, yR2_0, yR4_4, yR4_5, yR4_6, yR4_7, yR4_8, yR4_9, yR4_10, yR4_11, yR13_1, yR13_2, yR13_3, yR13_4, yR13_5, yR13_6, yR13_7, yR21_1, yR21_2, yR21_3, yR21_4, yR21_5, yR21_6, yR21_7, yR29_0, yR29_1, yR29_2, yR35_0, yR35_1, yR35_2, yR35_3, yR35_4, yR36_4, yR36_5, yR36_6, yR36_7, yR36_8, yR36_9, yR36_10, yR36_11, yR45_0, yR50_0, yR50_1, yR50_2, yR50_3, yR50_4, yR50_5, yR50_6, yR50_7, yR59_1, yA3, yA5, yA6, yA7, yA8, yA9, yA10, yA11, yA12, yA14, yA15, yA16, yA17, yA18, yA19, yA20, yA22, yA23, yA24, yA25, yA26, yA27, yA28, yA30, yA31, yA32, yA33, yA37, yA38, yA39, yA40, yA41, yA42, yA43, yA44, yA46, yA47, yA48, yA49, yA51, yA52, yA53, yA54, yA55, yA56, yA57, yA58, yA60, yS3, yS5, yS6, yS7, yS8, yS9, yS10, yS11, yS12, yS14, yS15, yS16, yS17, yS18, yS19, yS20, yS22, yS23, yS24, yS25, yS26, yS27, yS28, yS30, yS31, yS32, yS33, yS37, yS38, yS39, yS40, yS41, yS42, yS43, yS44, yS46, yS47, yS48, yS49, yS51, yS52, yS53, yS54, yS55, yS56, yS57, yS58, yS60, c_hasS_f C hx]
    · unfold f_X10_back
      simp (disch := first | assumption | omega) only [gd, lt, jn, bd2, Option.bind_some, LY_si, LY_sl, LY_row, decide_true, decide_false, if_true, ite_true, ite_false, decide_eq_true_eq, yg61, yI61, yP61, yR61_1, yR61_2, yR61_12, yR61_13, yR61_17, yR61_18, yR61_21, yR61_22, yR61_23, yR61_25, yA62, yA63, yA64, yA65, yA66, yA67, yA68, yA69, yA70, yA71, yS62, yS63, yS64, yS65, yS66, yS67, yS68, yS69, yS70, yS71, e_isK_f H1 hs1 (by rw [m62]; exact hx)]
