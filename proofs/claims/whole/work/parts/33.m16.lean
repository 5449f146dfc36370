theorem sp_pe {A : Nat → Int32} {s : Nat} (hM : VM A s) (hs : s < nn A) (hN : VN A) {m : Nat} (hm : m < 1000) : spS A s (nI m) = pe (pr A m s) := by
  rcases pr_spec hM hs hN hm with ⟨-, e1, e2⟩ | ⟨p, -, -, e1, e2, -⟩
  · rw [e1, e2]; rfl
  · rw [e1, e2]; rfl
theorem c_sponsorAt {h : Z_H} {A : Nat → Int32} (H : LY h) (hN : VN A) (hC : RCc (cl h) A) (hRm : RCm (cl h) A) {s m : Nat} (hM : VM A s) (hs : s < nn A) (hm : m < 1000) : f_X0_sponsorAt h 13 (nI s) (nI m) = some (spS A s (nI m)) := by
  have h10 := hN.2.1
  obtain ⟨a1, a2, a3, a4, a5, a6⟩ := id hM
  obtain ⟨-, -, e2, -, e4⟩ := hC.2.2 s hs
  have t20 : z_i h 20 s = A (147 + 94 * s + 2) := e2
  have t17 : z_i h 17 s = nI (mc A s) := Eq.trans e4 a2
  obtain ⟨b1, b2, b3⟩ := hRm s hs
  have b1 : ∀ i, i < mc A s → ∃ j, j < mc A s ∧ z_i h 18 (12 * s + i) = nI (mvm A s j) ∧ z_i h 19 (12 * s + i) = nI (mvt A s j) := fun i hi => by
    obtain ⟨j, j1, j2, j3⟩ := b1 i hi
    exact ⟨j, j1, Eq.trans j2 (a4 j j1).1, Eq.trans j3 (a4 j j1).2.1⟩
  have b2 : ∀ j, j < mc A s → ∃ i, i < mc A s ∧ z_i h 18 (12 * s + i) = nI (mvm A s j) := fun j hj => by
    obtain ⟨i, j1, j2, j3⟩ := b2 j hj
    exact ⟨i, j1, Eq.trans j2 (a4 j hj).1⟩
  have b3 : ∀ i i', i < i' → i' < mc A s → z_i h 18 (12 * s + i) < z_i h 18 (12 * s + i') := b3
  let N := mc A s
  let Post : Int32 → Prop := fun v => (v = A (147 + 94 * s + 2) ∧ ∀ j, j < N → nI m < z_i h 18 (12 * s + j)) ∨ ∃ j, j < N ∧ v = z_i h 19 (12 * s + j) ∧ z_i h 18 (12 * s + j) ≤ nI m ∧ ∀ j', j' < N → z_i h 18 (12 * s + j') ≤ nI m → j' ≤ j
  let Pre : Nat → Int32 → Prop := fun k v => ((k = 0 ∧ v = A (147 + 94 * s + 2)) ∨ (0 < k ∧ v = z_i h 19 (12 * s + (k - 1)))) ∧ ∀ j, j < k → z_i h 18 (12 * s + j) ≤ nI m
  have p0 : Pre 0 (A (147 + 94 * s + 2)) := ⟨Or.inl ⟨rfl, rfl⟩, fun j hj => by omega⟩
  have pN : ∀ v, Pre N v → Post v := by
    rintro v ⟨q1, q2⟩
    rcases q1 with ⟨z1, z2⟩ | ⟨z1, z2⟩
    · exact Or.inl ⟨z2, fun j hj => by omega⟩
    · exact Or.inr ⟨N - 1, by omega, z2, q2 (N - 1) (by omega), fun j' h1 _ => by omega⟩
  have key := lp_ex2 (b := f_X0_sponsorAt_l1 13 (nI s) (nI m) h) (fun k (v : Int32) => (v, nI k)) (fun k v => (k < N → Pre k v) ∧ (k = N → Post v)) some N ?_ ?_ N FU 0 (A (147 + 94 * s + 2)) (by omega) (by have : N ≤ 12 := a1; unfold FU; omega) ⟨fun _ => p0, fun q => pN _ (by rw [← q]; exact p0)⟩
  · obtain ⟨v, ⟨-, hP⟩, e⟩ := key
    have e' : lp (f_X0_sponsorAt_l1 13 (nI s) (nI m) h) FU (A (147 + 94 * s + 2), 0) = some v := e
    have hv : v = spS A s (nI m) := by
      rcases sp_cases hM hm with ⟨c1, c2⟩ | ⟨i, c1, c2, c3, c4⟩
      · rw [c1]
        rcases hP rfl with ⟨q1, q2⟩ | ⟨j, q1, q2, q3, q4⟩
        · exact q1
        · obtain ⟨j', j1, j2, j3⟩ := b1 j q1
          rw [j2] at q3
          have h99 := (a4 j' j1).2.2.1
          have := (nI_leI (by omega) (by omega)).mp q3
          have := c2 j' j1
          omega
      · rw [c2]
        obtain ⟨j, j1, j2⟩ := b2 i c1
        have h99 := (a4 i c1).2.2.1
        rcases hP rfl with ⟨q1, q2⟩ | ⟨j0, q1, q2, q3, q4⟩
        · have := q2 j j1
          rw [j2] at this
          have := (nI_ltI (by omega) (by omega)).mp this
          omega
        · obtain ⟨i0, k1, k2, k3⟩ := b1 j0 q1
          have h99' := (a4 i0 k1).2.2.1
          have jle : j ≤ j0 := q4 j j1 (by rw [j2]; exact nI_le c3 (by omega))
          have hle : mvm A s i ≤ mvm A s i0 := by
            by_cases ej : j = j0
            · subst ej
              rw [k2] at j2
              have := (nI_eq (by omega) (by omega)).mp j2
              omega
            · have := b3 j j0 (by omega) q1
              rw [j2, k2] at this
              have := (nI_ltI (by omega) (by omega)).mp this
              omega
          rw [k2] at q3
          have := (nI_leI (by omega) (by omega)).mp q3
          have := c4 i0 k1 this
          have : i0 = i := a5 i0 i k1 c1 (by omega)
          rw [q2, k3, this]
    unfold f_X0_sponsorAt
    simp (disch := first | assumption | omega) only [gd, lt, jn, bd2, Option.bind_some, LY_si, LY_sl, LY_row, decide_true, decide_false, if_true, ite_true, ite_false, decide_eq_true_eq, yg0, yg1, yg2, yg4, yg13, yg21, yg29, yg35, yg36, yg45, yg50, yg59, yI0, yI1, yI2, yI4, yI13, yI21, yI29, yI35, yI36, yI45, yI50, yI59, yP0, yP1, yP2, yP4, yP13, yP21, yP29, yP35, yP36, yP45, yP50, yP59, yR0_0, yR0_1, yR0_2, yR0_3, yR0_4, yR1_0, yR1_1, yR1_2, yR1_3, yR1_4, yR1_5, yR2_0, yR4_4, yR4_5, yR4_6, yR4_7, yR4_8, yR4_9, yR4_10, yR4_11, yR13_1, yR13_2, yR13_3, yR13_4, yR13_5, yR13_6, yR13_7, yR21_1, yR21_2, yR21_3, yR21_4, yR21_5, yR21_6, yR21_7, yR29_0, yR29_1, yR29_2, yR35_0, yR35_1, yR35_2, yR35_3, yR35_4, yR36_4, yR36_5, yR36_6, yR36_7, yR36_8, yR36_9, yR36_10, yR36_11, yR45_0, yR50_0, yR50_1, yR50_2, yR50_3, yR50_4, yR50_5, yR50_6, yR50_7, yR59_1, yA3, yA5, yA6, yA7, yA8, yA9, yA10, yA11, yA12, yA14, yA15, yA16, yA17, yA18, yA19, yA20, yA22, yA23, yA24, yA25, yA26, yA27, yA28, yA30, yA31, yA32, yA33, yA37, yA38, yA39, yA40, yA41, yA42, yA43, yA44, yA46, yA47, yA48, yA49, yA51, yA52, yA53, yA54, yA55, yA56, yA57, yA58, yA60, yS3, yS5, yS6, yS7, yS8, yS9, yS10, yS11, yS12, yS14, yS15, yS16, yS17, yS18, yS19, yS20, yS22, yS23, yS24, yS25, yS26, yS27, yS28, yS30, yS31, yS32, yS33, yS37, yS38, yS39, yS40, yS41, yS42, yS43, yS44, yS46, yS47, yS48, yS49, yS51, yS52, yS53, yS54, yS55, yS56, yS57, yS58, yS60, t20, e', hv]
  · rintro k v hk ⟨hI, -⟩
    have hk' : k < mc A s := hk
    obtain ⟨q1, q2⟩ := hI hk
    have ix : nI s * 12 + nI k = nI (12 * s + k) := by rw [n_12, nI_mul, nI_add, Nat.mul_comm]
    by_cases c : nI m < z_i h 18 (12 * s + k)
    · refine Or.inr ⟨⟨fun q => by omega, fun _ => ?_⟩, fun rec => ?_⟩
      · rcases q1 with ⟨z1, z2⟩ | ⟨z1, z2⟩
        · refine Or.inl ⟨z2, fun j hj => ?_⟩
          by_cases ej : j = k
          · rw [ej]; exact c
          · exact Int32.lt_of_lt_of_le c (Int32.le_of_lt (b3 k j (by omega) hj))
        · refine Or.inr ⟨k - 1, by omega, z2, q2 (k - 1) (by omega), fun j' h1 h2 => ?_⟩
          by_cases ej : j' < k
          · omega
          · by_cases ek : j' = k
            · rw [ek] at h2
              exact absurd c (Int32.not_lt.mpr h2)
            · have := b3 k j' (by omega) h1
              exact absurd (Int32.lt_of_lt_of_le c (Int32.le_of_lt this)) (Int32.not_lt.mpr h2)
      · unfold f_X0_sponsorAt_l1
        simp (disch := first | assumption | omega) only [gd, lt, jn, bd2, Option.bind_some, LY_si, LY_sl, LY_row, decide_true, decide_false, if_true, ite_true, ite_false, decide_eq_true_eq, yg0, yg1, yg2, yg4, yg13, yg21, yg29, yg35, yg36, yg45, yg50, yg59, yI0, yI1, yI2, yI4, yI13, yI21, yI29, yI35, yI36, yI45, yI50, yI59, yP0, yP1, yP2, yP4, yP13, yP21, yP29, yP35, yP36, yP45, yP50, yP59, yR0_0, yR0_1, yR0_2, yR0_3, yR0_4, yR1_0, yR1_1, yR1_2, yR1_3, yR1_4, yR1_5, yR2_0, yR4_4, yR4_5, yR4_6, yR4_7, yR4_8, yR4_9, yR4_10, yR4_11, yR13_1, yR13_2, yR13_3, yR13_4, yR13_5, yR13_6, yR13_7, yR21_1, yR21_2, yR21_3, yR21_4, yR21_5, yR21_6, yR21_7, yR29_0, yR29_1, yR29_2, yR35_0, yR35_1, yR35_2, yR35_3, yR35_4, yR36_4, yR36_5, yR36_6, yR36_7, yR36_8, yR36_9, yR36_10, yR36_11, yR45_0, yR50_0, yR50_1, yR50_2, yR50_3, yR50_4, yR50_5, yR50_6, yR50_7, yR59_1, yA3, yA5, yA6, yA7, yA8, yA9, yA10, yA11, yA12, yA14, yA15, yA16, yA17, yA18, yA19, yA20, yA22, yA23, yA24, yA25, yA26, yA27, yA28, yA30, yA31, yA32, yA33, yA37, yA38, yA39, yA40, yA41, yA42, yA43, yA44, yA46, yA47, yA48, yA49, yA51, yA52, yA53, yA54, yA55, yA56, yA57, yA58, yA60, yS3, yS5, yS6, yS7, yS8, yS9, yS10, yS11, yS12, yS14, yS15, yS16, yS17, yS18, yS19, yS20, yS22, yS23, yS24, yS25, yS26, yS27, yS28, yS30, yS31, yS32, yS33, yS37, yS38, yS39, yS40, yS41, yS42, yS43, yS44, yS46, yS47, yS48, yS49, yS51, yS52, yS53, yS54, yS55, yS56, yS57, yS58, yS60, t17, ix]
        rw [if_neg (nI_ge hk (by omega)), if_pos c]
    · refine Or.inl ⟨z_i h 19 (12 * s + k), ?_, fun rec => ?_⟩
      · have pk : Pre (k + 1) (z_i h 19 (12 * s + k)) := ⟨Or.inr ⟨by omega, rfl⟩, fun j hj => by
          by_cases ej : j = k
          · rw [ej]; exact Int32.not_lt.mp c
          · exact q2 j (by omega)⟩
        exact ⟨fun _ => pk, fun q => pN _ (by rw [← q]; exact pk)⟩
      · unfold f_X0_sponsorAt_l1
        simp (disch := first | assumption | omega) only [gd, lt, jn, bd2, Option.bind_some, LY_si, LY_sl, LY_row, decide_true, decide_false, if_true, ite_true, ite_false, decide_eq_true_eq, yg0, yg1, yg2, yg4, yg13, yg21, yg29, yg35, yg36, yg45, yg50, yg59, yI0, yI1, yI2, yI4, yI13, yI21, yI29, yI35, yI36, yI45, yI50, yI59, yP0, yP1, yP2, yP4, yP13, yP21, yP29, yP35, yP36, yP45, yP50, yP59, yR0_0, yR0_1, yR0_2, yR0_3, yR0_4, yR1_0, yR1_1, yR1_2, yR1_3, yR1_4, yR1_5, yR2_0, yR4_4, yR4_5, yR4_6, yR4_7, yR4_8, yR4_9, yR4_10, yR4_11, yR13_1, yR13_2, yR13_3, yR13_4, yR13_5, yR13_6, yR13_7, yR21_1, yR21_2, yR21_3, yR21_4, yR21_5, yR21_6, yR21_7, yR29_0, yR29_1, yR29_2, yR35_0, yR35_1, yR35_2, yR35_3, yR35_4, yR36_4, yR36_5, yR36_6, yR36_7, yR36_8, yR36_9, yR36_10, yR36_11, yR45_0, yR50_0, yR50_1, yR50_2, yR50_3, yR50_4, yR50_5, yR50_6, yR50_7, yR59_1, yA3, yA5, yA6, yA7, yA8, yA9, yA10, yA11, yA12, yA14, yA15, yA16, yA17, yA18, yA19, yA20, yA22, yA23, yA24, yA25, yA26, yA27, yA28, yA30, yA31, yA32, yA33, yA37, yA38, yA39, yA40, yA41, yA42, yA43, yA44, yA46, yA47, yA48, yA49, yA51, yA52, yA53, yA54, yA55, yA56, yA57, yA58, yA60, yS3, yS5, yS6, yS7, yS8, yS9, yS10, yS11, yS12, yS14, yS15, yS16, yS17, yS18, yS19, yS20, yS22, yS23, yS24, yS25, yS26, yS27, yS28, yS30, yS31, yS32, yS33, yS37, yS38, yS39, yS40, yS41, yS42, yS43, yS44, yS46, yS47, yS48, yS49, yS51, yS52, yS53, yS54, yS55, yS56, yS57, yS58, yS60, t17, ix, nI_1]
        rw [if_neg (nI_ge hk (by omega)), if_neg c]
  · intro rec v _
    unfold f_X0_sponsorAt_l1
    simp (disch := first | assumption | omega) only [gd, lt, jn, bd2, Option.bind_some, LY_si, LY_sl, LY_row, decide_true, decide_false, if_true, ite_true, ite_false, decide_eq_true_eq, yg0, yg1, yg2, yg4, yg13, yg21, yg29, yg35, yg36, yg45, yg50, yg59, yI0, yI1, yI2, yI4, yI13, yI21, yI29, yI35, yI36, yI45, yI50, yI59, yP0, yP1, yP2, yP4, yP13, yP21, yP29, yP35, yP36, yP45, yP50, yP59, yR0_0, yR0_1, yR0_2, yR0_3, yR0_4, yR1_0, yR1_1, yR1_2, yR1_3, yR1_4, yR1_5, yR2_0, yR4_4, yR4_5, yR4_6, yR4_7, yR4_8, yR4_9, yR4_10, yR4_11, yR13_1, yR13_2, yR13_3, yR13_4, yR13_5, yR13_6, yR13_7, yR21_1, yR21_2, yR21_3, yR21_4, yR21_5, yR21_6, yR21_7, yR29_0, yR29_1, yR29_2, yR35_0, yR35_1, yR35_2, yR35_3, yR35_4, yR36_4, yR36_5, yR36_6, yR36_7, yR36_8, yR36_9, yR36_10, yR36_11, yR45_0, yR50_0, yR50_1, yR50_2, yR50_3, yR50_4, yR50_5, yR50_6, yR50_7, yR59_1, yA3, yA5, yA6, yA7, yA8, yA9, yA10, yA11, yA12, yA14, yA15, yA16, yA17, yA18, yA19, yA20, yA22, yA23, yA24, yA25, yA26, yA27, yA28, yA30, yA31, yA32, yA33, yA37, yA38, yA39, yA40, yA41, yA42, yA43, yA44, yA46, yA47, yA48, yA49, yA51, yA52, yA53, yA54, yA55, yA56, yA57, yA58, yA60, yS3, yS5, yS6, yS7, yS8, yS9, yS10, yS11, yS12, yS14, yS15, yS16, yS17, yS18, yS19, yS20, yS22, yS23, yS24, yS25, yS26, yS27, yS28, yS30, yS31, yS32, yS33, yS37, yS38, yS39, yS40, yS41, yS42, yS43, yS44, yS46, yS47, yS48, yS49, yS51, yS52, yS53, yS54, yS55, yS56, yS57, yS58, yS60, t17]
    rw [if_pos (nI_le (Nat.le_refl _) (by omega))]
theorem e_os5 {h : Z_H} (H : LY h) {s k : Nat} (hs : s < 10) (hk : k < 12) : f_X10_ofSeller h 61 (nI s) ((5 : Int32) + nI k) = some (z_i h 62 (147 + 94 * s + (5 + k))) := by
  rw [n_5, nI_add]
  exact e_ofSeller H (by omega)
theorem e_os17 {h : Z_H} (H : LY h) {s k : Nat} (hs : s < 10) (hk : k < 12) : f_X10_ofSeller h 61 (nI s) ((17 : Int32) + nI k) = some (z_i h 62 (147 + 94 * s + (17 + k))) := by
  rw [n_17, nI_add]
  exact e_ofSeller H (by omega)
theorem e_sponsorAt0 {h : Z_H} (H : LY h) {s : Nat} (hs : s < 10) (hmc : mc (z_i h 62) s ≤ 12) (emc : z_i h 62 (147 + 94 * s + 4) = nI (mc (z_i h 62) s)) (h14 : ¬ nI s = z_i h 61 14) {m : Int32} : f_X10_sponsorAt h 61 (nI s) m = some (spS (z_i h 62) s m) := by
  have o4 := e_os4 (s := s) H (by omega)
  rw [emc] at o4
  have key := lp_for (b := f_X10_sponsorAt_l1 61 (nI s) m h 0) (fun k (q : Int32 × Int32) => (q.1, q.2, nI k)) (fun _ _ => True) (spG (z_i h 62) s m) some (mc (z_i h 62) s) ?_ (fun _ _ _ _ => trivial) ?_ (mc (z_i h 62) s) FU 0 (z_i h 62 (147 + 94 * s + 2), -1) (by omega) (by unfold FU; omega) trivial
  · have key' : lp (f_X10_sponsorAt_l1 61 (nI s) m h 0) FU (z_i h 62 (147 + 94 * s + 2), -1, 0) = some (itf (spG (z_i h 62) s m) 0 (mc (z_i h 62) s) (z_i h 62 (147 + 94 * s + 2), -1)) := key
    unfold f_X10_sponsorAt
    simp (disch := first | assumption | omega) only [gd, lt, jn, bd2, Option.bind_some, LY_si, LY_sl, LY_row, decide_true, decide_false, if_true, ite_true, ite_false, decide_eq_true_eq, yg61, yI61, yP61, yR61_1, yR61_2, yR61_12, yR61_13, yR61_17, yR61_18, yR61_21, yR61_22, yR61_23, yR61_25, yA62, yA63, yA64, yA65, yA66, yA67, yA68, yA69, yA70, yA71, yS62, yS63, yS64, yS65, yS66, yS67, yS68, yS69, yS70, yS71, e_os2]
    rw [if_neg h14, key']
    rfl
  · rintro rec k ⟨v, l⟩ hk _
    unfold f_X10_sponsorAt_l1 spG
    simp (disch := first | assumption | omega) only [gd, lt, jn, bd2, Option.bind_some, LY_si, LY_sl, LY_row, decide_true, decide_false, if_true, ite_true, ite_false, decide_eq_true_eq, yg61, yI61, yP61, yR61_1, yR61_2, yR61_12, yR61_13, yR61_17, yR61_18, yR61_21, yR61_22, yR61_23, yR61_25, yA62, yA63, yA64, yA65, yA66, yA67, yA68, yA69, yA70, yA71, yS62, yS63, yS64, yS65, yS66, yS67, yS68, yS69, yS70, yS71, o4, e_os5, e_os17, nI_1]
    rw [if_neg (nI_ge hk (by omega))]
    by_cases c1 : m < z_i h 62 (147 + 94 * s + (5 + k))
    · rw [if_pos c1, if_neg (fun q => absurd c1 (Int32.not_lt.mpr q.1))]
    · rw [if_neg c1]
      by_cases c2 : z_i h 62 (147 + 94 * s + (5 + k)) ≤ l
      · rw [if_pos c2, if_neg (fun q => absurd c2 (Int32.not_le.mpr q.2))]
      · rw [if_neg c2, if_pos ⟨Int32.not_lt.mp c1, Int32.not_le.mp c2⟩]
  · rintro rec ⟨v, l⟩ _
    unfold f_X10_sponsorAt_l1
    simp (disch := first | assumption | omega) only [gd, lt, jn, bd2, Option.bind_some, LY_si, LY_sl, LY_row, decide_true, decide_false, if_true, ite_true, ite_false, decide_eq_true_eq, yg61, yI61, yP61, yR61_1, yR61_2, yR61_12, yR61_13, yR61_17, yR61_18, yR61_21, yR61_22, yR61_23, yR61_25, yA62, yA63, yA64, yA65, yA66, yA67, yA68, yA69, yA70, yA71, yS62, yS63, yS64, yS65, yS66, yS67, yS68, yS69, yS70, yS71, o4]
    rw [if_pos (nI_le (Nat.le_refl _) (by omega))]
