theorem mx_nI {a b : Nat} (ha : a < 2 ^ 31) (hb : b < 2 ^ 31) : mx (nI a) (nI b) = nI (max a b) := by
  unfold mx
  by_cases c : a < b
  · rw [if_pos (nI_lt c hb), Nat.max_eq_right (by omega)]
  · rw [if_neg (fun q => c ((nI_ltI ha hb).mp q)), Nat.max_eq_left (by omega)]
theorem mn_nI {a b : Nat} (ha : a < 2 ^ 31) (hb : b < 2 ^ 31) : mn (nI a) (nI b) = nI (min a b) := by
  unfold mn
  by_cases c : b < a
  · rw [if_pos (nI_lt c ha), Nat.min_eq_right (by omega)]
  · rw [if_neg (fun q => c ((nI_ltI hb ha).mp q)), Nat.min_eq_left (by omega)]
theorem c_rankFor {h : Z_H} (H : LY h) {A : Nat → Int32} (h5 : ∀ r, r < 4 → z_i h 5 r = A (7 + r)) (h6 : ∀ r, r < 4 → z_i h 6 r = A (11 + r)) {g l : Int32} : f_X3_rankFor h 4 g l = some (nI (rkS A g l)) := by
  have key := lp_find (b := f_X3_rankFor_l1 4 g l h) (fun k => nI (3 - k)) (fun k => decide (A (7 + (3 - k)) ≤ g ∧ A (11 + (3 - k)) ≤ l)) (fun k => some (.inl (nI (3 - k)))) (some (.inr ())) 3 ?_ ?_ ?_ 3 FU 0 rfl (by unfold FU; omega)
  · unfold f_X3_rankFor
    have key' : lp (f_X3_rankFor_l1 4 g l h) FU 3 = _ := key
    rw [gd, if_pos (yg4 H), key']
    unfold rkS fnd
    by_cases c3 : A 10 ≤ g ∧ A 14 ≤ l
    · simp [c3]
    · rw [if_neg c3]
      have c3' : (decide (A (7 + (3 - 0)) ≤ g ∧ A (11 + (3 - 0)) ≤ l)) = false := by simpa using c3
      rw [if_neg (by rw [c3']; decide)]
      unfold fnd
      by_cases c2 : A 9 ≤ g ∧ A 13 ≤ l
      · simp [c2]
      · rw [if_neg c2]
        have c2' : (decide (A (7 + (3 - (0 + 1))) ≤ g ∧ A (11 + (3 - (0 + 1))) ≤ l)) = false := by simpa using c2
        rw [if_neg (by rw [c2']; decide)]
        unfold fnd
        by_cases c1 : A 8 ≤ g ∧ A 12 ≤ l
        · simp [c1]
        · rw [if_neg c1]
          have c1' : (decide (A (7 + (3 - (0 + 1 + 1))) ≤ g ∧ A (11 + (3 - (0 + 1 + 1))) ≤ l)) = false := by simpa using c1
          rw [if_neg (by rw [c1']; decide)]
          rfl
  · intro rec k hk hp
    have hp : A (7 + (3 - k)) ≤ g ∧ A (11 + (3 - k)) ≤ l := by simpa using hp
    unfold f_X3_rankFor_l1
    simp (disch := first | assumption | omega) only [gd, lt, jn, bd2, Option.bind_some, LY_si, LY_sl, LY_row, decide_true, decide_false, if_true, ite_true, ite_false, decide_eq_true_eq, yg0, yg1, yg2, yg4, yg13, yg21, yg29, yg35, yg36, yg45, yg50, yg59, yI0, yI1, yI2, yI4, yI13, yI21, yI29, yI35, yI36, yI45, yI50, yI59, yP0, yP1, yP2, yP4, yP13, yP21, yP29, yP35, yP36, yP45, yP50, yP59, yR0_0, yR0_1, yR0_2, yR0_3, yR0_4, yR1_0, yR1_1, yR1_2, yR1_3, yR1_4, yR1_5, yR2_0, yR4_4, yR4_5, yR4_6, yR4_7, yR4_8, yR4_9, yR4_10, yR4_11, yR13_1, yR13_2, yR13_3, yR13_4, yR13_5, yR13_6, yR13_7, yR21_1, yR21_2, yR21_3, yR21_4, yR21_5, yR21_6, yR21_7, yR29_0, yR29_1, yR29_2, yR35_0, yR35_1, yR35_2, yR35_3, yR35_4, yR36_4, yR36_5, yR36_6, yR36_7, yR36_8, yR36_9, yR36_10, yR36_11, yR45_0, yR50_0, yR50_1, yR50_2, yR50_3, yR50_4, yR50_5, yR50_6, yR50_7, yR59_1, yA3, yA5, yA6, yA7, yA8, yA9, yA10, yA11, yA12, yA14, yA15, yA16, yA17, yA18, yA19, yA20, yA22, yA23, yA24, yA25, yA26, yA27, yA28, yA30, yA31, yA32, yA33, yA37, yA38, yA39, yA40, yA41, yA42, yA43, yA44, yA46, yA47, yA48, yA49, yA51, yA52, yA53, yA54, yA55, yA56, yA57, yA58, yA60, yS3, yS5, yS6, yS7, yS8, yS9, yS10, yS11, yS12, yS14, yS15, yS16, yS17, yS18, yS19, yS20, yS22, yS23, yS24, yS25, yS26, yS27, yS28, yS30, yS31, yS32, yS33, yS37, yS38, yS39, yS40, yS41, yS42, yS43, yS44, yS46, yS47, yS48, yS49, yS51, yS52, yS53, yS54, yS55, yS56, yS57, yS58, yS60, h5, h6]
    rw [if_neg (show ¬ nI (3 - k) < (1 : Int32) from nI_nlt (b := 1) (by omega) (by omega)), if_neg (Int32.not_lt.mpr hp.1), if_neg (Int32.not_lt.mpr hp.2)]
  · intro rec k hk hp
    have hp : ¬ (A (7 + (3 - k)) ≤ g ∧ A (11 + (3 - k)) ≤ l) := by simpa using hp
    have i3 : nI (3 - k) + (-1) = nI (3 - (k + 1)) := by
      rw [sb_m1 (by omega)]
      congr 1
    unfold f_X3_rankFor_l1
    simp (disch := first | assumption | omega) only [gd, lt, jn, bd2, Option.bind_some, LY_si, LY_sl, LY_row, decide_true, decide_false, if_true, ite_true, ite_false, decide_eq_true_eq, yg0, yg1, yg2, yg4, yg13, yg21, yg29, yg35, yg36, yg45, yg50, yg59, yI0, yI1, yI2, yI4, yI13, yI21, yI29, yI35, yI36, yI45, yI50, yI59, yP0, yP1, yP2, yP4, yP13, yP21, yP29, yP35, yP36, yP45, yP50, yP59, yR0_0, yR0_1, yR0_2, yR0_3, yR0_4, yR1_0, yR1_1, yR1_2, yR1_3, yR1_4, yR1_5, yR2_0, yR4_4, yR4_5, yR4_6, yR4_7, yR4_8, yR4_9, yR4_10, yR4_11, yR13_1, yR13_2, yR13_3, yR13_4, yR13_5, yR13_6, yR13_7, yR21_1, yR21_2, yR21_3, yR21_4, yR21_5, yR21_6, yR21_7, yR29_0, yR29_1, yR29_2, yR35_0, yR35_1, yR35_2, yR35_3, yR35_4, yR36_4, yR36_5, yR36_6, yR36_7, yR36_8, yR36_9, yR36_10, yR36_11, yR45_0, yR50_0, yR50_1, yR50_2, yR50_3, yR50_4, yR50_5, yR50_6, yR50_7, yR59_1, yA3, yA5, yA6, yA7, yA8, yA9, yA10, yA11, yA12, yA14, yA15, yA16, yA17, yA18, yA19, yA20, yA22, yA23, yA24, yA25, yA26, yA27, yA28, yA30, yA31, yA32, yA33, yA37, yA38, yA39, yA40, yA41, yA42, yA43, yA44, yA46, yA47, yA48, yA49, yA51, yA52, yA53, yA54, yA55, yA56, yA57, yA58, yA60, yS3, yS5, yS6, yS7, yS8, yS9, yS10, yS11, yS12, yS14, yS15, yS16, yS17, yS18, yS19, yS20, yS22, yS23, yS24, yS25, yS26, yS27, yS28, yS30, yS31, yS32, yS33, yS37, yS38, yS39, yS40, yS41, yS42, yS43, yS44, yS46, yS47, yS48, yS49, yS51, yS52, yS53, yS54, yS55, yS56, yS57, yS58, yS60, h5, h6, i3]
    rw [if_neg (show ¬ nI (3 - k) < (1 : Int32) from nI_nlt (b := 1) (by omega) (by omega))]
    by_cases c : g < A (7 + (3 - k))
    · rw [if_pos c]
    · rw [if_neg c, if_pos (Int32.not_le.mp (fun q => hp ⟨Int32.not_lt.mp c, q⟩))]
  · intro rec
    unfold f_X3_rankFor_l1
    dsimp only [lt]
    rw [if_pos (by decide)]
theorem e_rankBy {h : Z_H} (H : LY h) {g l : Int32} : f_X10_rankBy h 61 g l = some (nI (rkS (z_i h 62) g l)) := by
  let A := z_i h 62
  let G : Nat → Int32 → Int32 := fun k s => if A (7 + (k + 1)) ≤ g ∧ A (11 + (k + 1)) ≤ l then nI (k + 1) else s
  have key := lp_for (b := f_X10_rankBy_l1 61 g l h) (fun k (s : Int32) => (s, nI (k + 1))) (fun _ _ => True) G some 3 ?_ (fun _ _ _ _ => trivial) ?_ 3 FU 0 0 rfl (by unfold FU; omega) trivial
  · unfold f_X10_rankBy
    have key' : lp (f_X10_rankBy_l1 61 g l h) FU (0, 1) = _ := key
    rw [gd, if_pos (yg61 H), key']
    show some (G 2 (G 1 (G 0 0))) = _
    congr 1
    show (if A 10 ≤ g ∧ A 14 ≤ l then nI 3 else if A 9 ≤ g ∧ A 13 ≤ l then nI 2 else if A 8 ≤ g ∧ A 12 ≤ l then nI 1 else 0) = nI (if A 10 ≤ g ∧ A 14 ≤ l then 3 else if A 9 ≤ g ∧ A 13 ≤ l then 2 else if A 8 ≤ g ∧ A 12 ≤ l then 1 else 0)
    split
    · rfl
    · split
      · rfl
      · split <;> rfl
  · intro rec k s hk _
    have i7 : (7 : Int32) + nI (k + 1) = nI (7 + (k + 1)) := by rw [n_7, nI_add]
    have i11 : (11 : Int32) + nI (k + 1) = nI (11 + (k + 1)) := by rw [n_11, nI_add]
    unfold f_X10_rankBy_l1
    simp (disch := first | assumption | omega) only [gd, lt, jn, bd2, Option.bind_some, LY_si, LY_sl, LY_row, decide_true, decide_false, if_true, ite_true, ite_false, decide_eq_true_eq, yg61, yI61, yP61, yR61_1, yR61_2, yR61_12, yR61_13, yR61_17, yR61_18, yR61_21, yR61_22, yR61_23, yR61_25, yA62, yA63, yA64, yA65, yA66, yA67, yA68, yA69, yA70, yA71, yS62, yS63, yS64, yS65, yS66, yS67, yS68, yS69, yS70, yS71, i7, i11, nI_1]
    rw [if_neg (show ¬ (3 : Int32) < nI (k + 1) from nI_nlt (a := 3) (by omega) (by omega))]
    show _ = rec ((if A (7 + (k + 1)) ≤ g ∧ A (11 + (k + 1)) ≤ l then nI (k + 1) else s), nI (k + 1 + 1))
    by_cases c : g < A (7 + (k + 1))
    · rw [if_pos c, if_neg (fun q => absurd c (Int32.not_lt.mpr q.1))]
    · rw [if_neg c]
      by_cases c2 : l < A (11 + (k + 1))
      · rw [if_pos c2, if_neg (fun q => absurd c2 (Int32.not_lt.mpr q.2))]
      · rw [if_neg c2, if_pos ⟨Int32.not_lt.mp c, Int32.not_lt.mp c2⟩]
  · intro rec s _
    unfold f_X10_rankBy_l1
    dsimp only
    rw [if_pos (by decide)]
def Lay (h : Z_H) (S : Sn) (m : Nat) : Prop := z_i h 50 8 = nI m ∧ z_i h 50 12 = nI S.1 ∧ z_i h 50 11 = nI (bsN (sT S) S.1) ∧ z_i h 50 10 = nI (bsN (sG S) S.1) ∧ ∀ t, t < S.1 → z_i h 51 t = pe (sP S t) ∧ z_i h 52 t = sO S t ∧ z_i h 53 t = sV S t
def Lay0 (h : Z_H) (S : Sn) : Prop := ∀ t, t < S.1 → z_i h 54 t = 0 ∧ z_i h 55 t = 0 ∧ z_i h 56 t = 0 ∧ z_i h 57 t = 0
/-- the scene, settled -/
def Scn (h : Z_H) (A : Nat → Int32) (S : Sn) : Prop := z_i h 50 9 = nI (bsN (inA S (A 3)) S.1) ∧ ∀ t, t < S.1 → z_i h 54 t = grp S t ∧ z_i h 55 t = nI (bsN (inB S t) S.1) ∧ z_i h 56 t = nI (bsN (inD S t) S.1) ∧ z_i h 57 t = nI (dpt S t) ∧ z_i h 58 t = nI (rnk A S t)
theorem mxs_le {f : Nat → Nat} {b : Nat} : ∀ n, (∀ k, k < n → f k ≤ b) → mxs f n ≤ b := by
  intro n
  induction n with
  | zero => intro _; exact Nat.zero_le _
  | succ n ih =>
    intro h
    have h1 := ih (fun k hk => h k (by omega))
    have h2 := h n (by omega)
    show max (mxs f n) (f n) ≤ b
    omega
theorem lv_le {P : Nat → Option Nat} {u t : Nat} : (lv P u t).getD 0 ≤ 11 := by
  cases hf : lv P u t with
  | none => exact Nat.zero_le _
  | some k =>
    have := (fnd_some _ _ _ hf).2.1
    show k ≤ 11
    omega
theorem c_settle {h : Z_H} (H : LY h) {A : Nat → Int32} {S : Sn} {m : Nat} (hS : SOK S) (h5 : ∀ r, r < 4 → z_i h 5 r = A (7 + r)) (h6 : ∀ r, r < 4 → z_i h 6 r = A (11 + r)) (h4 : z_i h 4 0 = A 3) (L : Lay h S m) (L0 : Lay0 h S) : ∃ h', f_X6_settle h 50 4 = some h' ∧ SCW h h' ∧ Lay h' S m ∧ Scn h' A S := by
  obtain ⟨hn, hA, -⟩ := hS
  obtain ⟨l1, l2, l3, l4, l5⟩ := L
  have H1 : LY (z_si h 50 9 0) := H
  have k1 := lp_ex (b := f_X6_settle_l1 50 4) (fun k (g : Z_H) => (nI k, g)) (fun k g => SCW h g ∧ (∀ a, 51 ≤ a → a ≤ 53 → z_i g a = z_i h a) ∧ (∀ j, j ≠ 9 → z_i g 50 j = z_i h 50 j) ∧ z_i g 50 9 = nI (bsN (inA S (A 3)) k) ∧ ∀ t, t < S.1 → z_i g 54 t = sm (fun u => if inB S t u then sV S u else 0) k ∧ z_i g 55 t = nI (bsN (inB S t) k) ∧ z_i g 56 t = nI (bsN (inD S t) k) ∧ z_i g 57 t = nI (mxs (fun u => if sT S u then (lv (sP S) u t).getD 0 else 0) k)) some S.1 ?_ ?_ S.1 FU 0 (z_si h 50 9 0) (by omega) (by unfold FU; omega) ⟨SCW_si (by omega), fun a h1 h2 => z_si_o (by omega), fun j hj => by rw [zi_si, if_pos rfl, if_neg hj], by rw [zi_si, if_pos rfl, if_pos rfl]; rfl, fun t ht => L0 t ht⟩
  · obtain ⟨g, ⟨g1, g2, g3, g4, g5⟩, e⟩ := k1
    have e1 : lp (f_X6_settle_l1 50 4) FU (0, z_si h 50 9 0) = some g := e
    have G := g1.ly H
    have k2 := lp_ex (b := f_X6_settle_l2 50 4) (fun k (q : Z_H) => (nI k, q)) (fun k q => SCW g q ∧ (∀ a, a ≠ 58 → z_i q a = z_i g a) ∧ ∀ t, t < k → z_i q 58 t = nI (rnk A S t)) some S.1 ?_ ?_ S.1 FU 0 g (by omega) (by unfold FU; omega) ⟨SCW.rf, fun _ _ => rfl, fun t ht => by omega⟩
    · obtain ⟨q, ⟨q1, q2, q3⟩, e2⟩ := k2
      have e2' : lp (f_X6_settle_l2 50 4) FU (0, g) = some q := e2
      refine ⟨q, ?_, g1.tr q1, ?_, ?_⟩
      · unfold f_X6_settle
        simp (disch := first | assumption | omega) only [gd, lt, jn, bd2, Option.bind_some, LY_si, LY_sl, LY_row, decide_true, decide_false, if_true, ite_true, ite_false, decide_eq_true_eq, yg0, yg1, yg2, yg4, yg13, yg21, yg29, yg35, yg36, yg45, yg50, yg59, yI0, yI1, yI2, yI4, yI13, yI21, yI29, yI35, yI36, yI45, yI50, yI59, yP0, yP1, yP2, yP4, yP13, yP21, yP29, yP35, yP36, yP45, yP50, yP59, yR0_0, yR0_1, yR0_2, yR0_3, yR0_4, yR1_0, yR1_1, yR1_2, yR1_3, yR1_4, yR1_5, yR2_0, yR4_4, yR4_5, yR4_6, yR4_7, yR4_8, yR4_9, yR4_10, yR4_11, yR13_1, yR13_2, yR13_3, yR13_4, yR13_5, yR13_6, yR13_7, yR21_1, yR21_2, yR21_3, yR21_4, yR21_5, yR21_6, yR21_7, yR29_0, yR29_1, yR29_2, yR35_0, yR35_1, yR35_2, yR35_3, yR35_4, yR36_4, yR36_5, yR36_6, yR36_7, yR36_8, yR36_9, yR36_10, yR36_11, yR45_0, yR50_0, yR50_1, yR50_2, yR50_3, yR50_4, yR50_5, yR50_6, yR50_7, yR59_1, yA3, yA5, yA6, yA7, yA8, yA9, yA10, yA11, yA12, yA14, yA15, yA16, yA17, yA18, yA19, yA20, yA22, yA23, yA24, yA25, yA26, yA27, yA28, yA30, yA31, yA32, yA33, yA37, yA38, yA39, yA40, yA41, yA42, yA43, yA44, yA46, yA47, yA48, yA49, yA51, yA52, yA53, yA54, yA55, yA56, yA57, yA58, yA60, yS3, yS5, yS6, yS7, yS8, yS9, yS10, yS11, yS12, yS14, yS15, yS16, yS17, yS18, yS19, yS20, yS22, yS23, yS24, yS25, yS26, yS27, yS28, yS30, yS31, yS32, yS33, yS37, yS38, yS39, yS40, yS41, yS42, yS43, yS44, yS46, yS47, yS48, yS49, yS51, yS52, yS53, yS54, yS55, yS56, yS57, yS58, yS60, e1, e2']
      · refine ⟨?_, ?_, ?_, ?_, fun t ht => ?_⟩
        · rw [q2 50 (by omega), g3 8 (by omega)]; exact l1
        · rw [q2 50 (by omega), g3 12 (by omega)]; exact l2
        · rw [q2 50 (by omega), g3 11 (by omega)]; exact l3
        · rw [q2 50 (by omega), g3 10 (by omega)]; exact l4
        · rw [q2 51 (by omega), q2 52 (by omega), q2 53 (by omega), g2 51 (by omega) (by omega), g2 52 (by omega) (by omega), g2 53 (by omega) (by omega)]
          exact l5 t ht
      · refine ⟨?_, fun t ht => ?_⟩
        · rw [q2 50 (by omega)]; exact g4
        · rw [q2 54 (by omega), q2 55 (by omega), q2 56 (by omega), q2 57 (by omega)]
          exact ⟨(g5 t ht).1, (g5 t ht).2.1, (g5 t ht).2.2.1, (g5 t ht).2.2.2, q3 t ht⟩
    · rintro k q hk ⟨q1, q2, q3⟩
      have Q := q1.ly G
      have c12 : z_i q 50 12 = nI S.1 := by rw [q2 50 (by omega), g3 12 (by omega)]; exact l2
      have c54 : z_i q 54 k = grp S k := by rw [q2 54 (by omega)]; exact (g5 k hk).1
      have c56 : z_i q 56 k = nI (bsN (inD S k) S.1) := by rw [q2 56 (by omega)]; exact (g5 k hk).2.2.1
      have c9 : z_i q 50 9 = nI (bsN (inA S (A 3)) S.1) := by rw [q2 50 (by omega)]; exact g4
      have cl : f_X6_activeLegs q 50 (nI k) = some (nI (lgs S (A 3) k)) := by
        unfold f_X6_activeLegs
        simp (disch := first | assumption | omega) only [gd, lt, jn, bd2, Option.bind_some, LY_si, LY_sl, LY_row, decide_true, decide_false, if_true, ite_true, ite_false, decide_eq_true_eq, yg0, yg1, yg2, yg4, yg13, yg21, yg29, yg35, yg36, yg45, yg50, yg59, yI0, yI1, yI2, yI4, yI13, yI21, yI29, yI35, yI36, yI45, yI50, yI59, yP0, yP1, yP2, yP4, yP13, yP21, yP29, yP35, yP36, yP45, yP50, yP59, yR0_0, yR0_1, yR0_2, yR0_3, yR0_4, yR1_0, yR1_1, yR1_2, yR1_3, yR1_4, yR1_5, yR2_0, yR4_4, yR4_5, yR4_6, yR4_7, yR4_8, yR4_9, yR4_10, yR4_11, yR13_1, yR13_2, yR13_3, yR13_4, yR13_5, yR13_6, yR13_7, yR21_1, yR21_2, yR21_3, yR21_4, yR21_5, yR21_6, yR21_7, yR29_0, yR29_1, yR29_2, yR35_0, yR35_1, yR35_2, yR35_3, yR35_4, yR36_4, yR36_5, yR36_6, yR36_7, yR36_8, yR36_9, yR36_10, yR36_11, yR45_0, yR50_0, yR50_1, yR50_2, yR50_3, yR50_4, yR50_5, yR50_6, yR50_7, yR59_1, yA3, yA5, yA6, yA7, yA8, yA9, yA10, yA11, yA12, yA14, yA15, yA16, yA17, yA18, yA19, yA20, yA22, yA23, yA24, yA25, yA26, yA27, yA28, yA30, yA31, yA32, yA33, yA37, yA38, yA39, yA40, yA41, yA42, yA43, yA44, yA46, yA47, yA48, yA49, yA51, yA52, yA53, yA54, yA55, yA56, yA57, yA58, yA60, yS3, yS5, yS6, yS7, yS8, yS9, yS10, yS11, yS12, yS14, yS15, yS16, yS17, yS18, yS19, yS20, yS22, yS23, yS24, yS25, yS26, yS27, yS28, yS30, yS31, yS32, yS33, yS37, yS38, yS39, yS40, yS41, yS42, yS43, yS44, yS46, yS47, yS48, yS49, yS51, yS52, yS53, yS54, yS55, yS56, yS57, yS58, yS60, c56, c9, nI_band, bsN_and, c_bitsS hn]
        rfl
      have cr := c_rankFor (h := q) (A := A) (g := grp S k) (l := nI (lgs S (A 3) k)) Q (fun r hr => by rw [q2 5 (by omega), g1.2.2.2 5 (by omega)]; exact h5 r hr) (fun r hr => by rw [q2 6 (by omega), g1.2.2.2 6 (by omega)]; exact h6 r hr)
      refine ⟨z_si q 58 k (nI (rnk A S k)), ⟨q1.tr (SCW_si (by omega)), fun a ha => (z_si_o ha).trans (q2 a ha), fun t ht => ?_⟩, fun rec => ?_⟩
      · rw [z_si_i]
        by_cases e : t = k
        · rw [e, upd_s]
        · rw [upd_o e]
          exact q3 t (by omega)
      · unfold f_X6_settle_l2
        simp (disch := first | assumption | omega) only [gd, lt, jn, bd2, Option.bind_some, LY_si, LY_sl, LY_row, decide_true, decide_false, if_true, ite_true, ite_false, decide_eq_true_eq, yg0, yg1, yg2, yg4, yg13, yg21, yg29, yg35, yg36, yg45, yg50, yg59, yI0, yI1, yI2, yI4, yI13, yI21, yI29, yI35, yI36, yI45, yI50, yI59, yP0, yP1, yP2, yP4, yP13, yP21, yP29, yP35, yP36, yP45, yP50, yP59, yR0_0, yR0_1, yR0_2, yR0_3, yR0_4, yR1_0, yR1_1, yR1_2, yR1_3, yR1_4, yR1_5, yR2_0, yR4_4, yR4_5, yR4_6, yR4_7, yR4_8, yR4_9, yR4_10, yR4_11, yR13_1, yR13_2, yR13_3, yR13_4, yR13_5, yR13_6, yR13_7, yR21_1, yR21_2, yR21_3, yR21_4, yR21_5, yR21_6, yR21_7, yR29_0, yR29_1, yR29_2, yR35_0, yR35_1, yR35_2, yR35_3, yR35_4, yR36_4, yR36_5, yR36_6, yR36_7, yR36_8, yR36_9, yR36_10, yR36_11, yR45_0, yR50_0, yR50_1, yR50_2, yR50_3, yR50_4, yR50_5, yR50_6, yR50_7, yR59_1, yA3, yA5, yA6, yA7, yA8, yA9, yA10, yA11, yA12, yA14, yA15, yA16, yA17, yA18, yA19, yA20, yA22, yA23, yA24, yA25, yA26, yA27, yA28, yA30, yA31, yA32, yA33, yA37, yA38, yA39, yA40, yA41, yA42, yA43, yA44, yA46, yA47, yA48, yA49, yA51, yA52, yA53, yA54, yA55, yA56, yA57, yA58, yA60, yS3, yS5, yS6, yS7, yS8, yS9, yS10, yS11, yS12, yS14, yS15, yS16, yS17, yS18, yS19, yS20, yS22, yS23, yS24, yS25, yS26, yS27, yS28, yS30, yS31, yS32, yS33, yS37, yS38, yS39, yS40, yS41, yS42, yS43, yS44, yS46, yS47, yS48, yS49, yS51, yS52, yS53, yS54, yS55, yS56, yS57, yS58, yS60, c12, c54, cl, cr, nI_1]
        rw [if_neg (nI_ge hk (by omega))]
        rfl
    · rintro rec q ⟨q1, q2, q3⟩
      have Q := q1.ly G
      have c12 : z_i q 50 12 = nI S.1 := by rw [q2 50 (by omega), g3 12 (by omega)]; exact l2
      unfold f_X6_settle_l2
      simp (disch := first | assumption | omega) only [gd, lt, jn, bd2, Option.bind_some, LY_si, LY_sl, LY_row, decide_true, decide_false, if_true, ite_true, ite_false, decide_eq_true_eq, yg0, yg1, yg2, yg4, yg13, yg21, yg29, yg35, yg36, yg45, yg50, yg59, yI0, yI1, yI2, yI4, yI13, yI21, yI29, yI35, yI36, yI45, yI50, yI59, yP0, yP1, yP2, yP4, yP13, yP21, yP29, yP35, yP36, yP45, yP50, yP59, yR0_0, yR0_1, yR0_2, yR0_3, yR0_4, yR1_0, yR1_1, yR1_2, yR1_3, yR1_4, yR1_5, yR2_0, yR4_4, yR4_5, yR4_6, yR4_7, yR4_8, yR4_9, yR4_10, yR4_11, yR13_1, yR13_2, yR13_3, yR13_4, yR13_5, yR13_6, yR13_7, yR21_1, yR21_2, yR21_3, yR21_4, yR21_5, yR21_6, yR21_7, yR29_0, yR29_1, yR29_2, yR35_0, yR35_1, yR35_2, yR35_3, yR35_4, yR36_4, yR36_5, yR36_6, yR36_7, yR36_8, yR36_9, yR36_10, yR36_11, yR45_0, yR50_0, yR50_1, yR50_2, yR50_3, yR50_4, yR50_5, yR50_6, yR50_7, yR59_1, yA3, yA5, yA6, yA7, yA8, yA9, yA10, yA11, yA12, yA14, yA15, yA16, yA17, yA18, yA19, yA20, yA22, yA23, yA24, yA25, yA26, yA27, yA28, yA30, yA31, yA32, yA33, yA37, yA38, yA39, yA40, yA41, yA42, yA43, yA44, yA46, yA47, yA48, yA49, yA51, yA52, yA53, yA54, yA55, yA56, yA57, yA58, yA60, yS3, yS5, yS6, yS7, yS8, yS9, yS10, yS11, yS12, yS14, yS15, yS16, yS17, yS18, yS19, yS20, yS22, yS23, yS24, yS25, yS26, yS27, yS28, yS30, yS31, yS32, yS33, yS37, yS38, yS39, yS40, yS41, yS42, yS43, yS44, yS46, yS47, yS48, yS49, yS51, yS52, yS53, yS54, yS55, yS56, yS57, yS58, yS60, c12]
      rw [if_pos (nI_le (Nat.le_refl _) (by omega))]
  · rintro k g hk ⟨g1, g2, g3, g4, g5⟩
    have G := g1.ly H
    have c12 : z_i g 50 12 = nI S.1 := by rw [g3 12 (by omega)]; exact l2
    have c11 : z_i g 50 11 = nI (bsN (sT S) S.1) := by rw [g3 11 (by omega)]; exact l3
    have b11 : ((nI (bsN (sT S) S.1) >>> (nI k &&& 31)) &&& 1) = if sT S k then 1 else 0 := by
      rw [nI_tb (bsN_2048 hn) (by omega), bsN_tb]
      simp [hk]
    cases hT : sT S k with
    | false =>
      rw [hT] at b11
      have iB : ∀ t, inB S t k = false := fun t => by unfold inB; rw [hT]; rfl
      have iD : ∀ t, inD S t k = false := fun t => by unfold inD; rw [hT]; rfl
      have iA : inA S (A 3) k = false := by unfold inA; rw [hT]; rfl
      have bz : ∀ p : Nat → Bool, p k = false → bsN p (k + 1) = bsN p k := fun p hp => by
        show bsN p k ||| (if p k then 2 ^ k else 0) = _
        rw [hp]
        exact Nat.or_zero _
      refine ⟨g, ⟨g1, g2, g3, by rw [bz _ iA]; exact g4, fun t ht => ?_⟩, fun rec => ?_⟩
      · obtain ⟨z1, z2, z3, z4⟩ := g5 t ht
        refine ⟨?_, by rw [bz _ (iB t)]; exact z2, by rw [bz _ (iD t)]; exact z3, ?_⟩
        · rw [z1]
          show _ = sm (fun u => if inB S t u then sV S u else 0) k + (if inB S t k then sV S k else 0)
          rw [iB t]
          exact (add_0 _).symm
        · rw [z4]
          congr 1
          show _ = max (mxs (fun u => if sT S u then (lv (sP S) u t).getD 0 else 0) k) (if sT S k then (lv (sP S) k t).getD 0 else 0)
          rw [hT]
          exact (Nat.max_eq_left (Nat.zero_le _)).symm
      · unfold f_X6_settle_l1
        simp (disch := first | assumption | omega) only [gd, lt, jn, bd2, Option.bind_some, LY_si, LY_sl, LY_row, decide_true, decide_false, if_true, ite_true, ite_false, decide_eq_true_eq, yg0, yg1, yg2, yg4, yg13, yg21, yg29, yg35, yg36, yg45, yg50, yg59, yI0, yI1, yI2, yI4, yI13, yI21, yI29, yI35, yI36, yI45, yI50, yI59, yP0, yP1, yP2, yP4, yP13, yP21, yP29, yP35, yP36, yP45, yP50, yP59, yR0_0, yR0_1, yR0_2, yR0_3, yR0_4, yR1_0, yR1_1, yR1_2, yR1_3, yR1_4, yR1_5, yR2_0, yR4_4, yR4_5, yR4_6, yR4_7, yR4_8, yR4_9, yR4_10, yR4_11, yR13_1, yR13_2, yR13_3, yR13_4, yR13_5, yR13_6, yR13_7, yR21_1, yR21_2, yR21_3, yR21_4, yR21_5, yR21_6, yR21_7, yR29_0, yR29_1, yR29_2, yR35_0, yR35_1, yR35_2, yR35_3, yR35_4, yR36_4, yR36_5, yR36_6, yR36_7, yR36_8, yR36_9, yR36_10, yR36_11, yR45_0, yR50_0, yR50_1, yR50_2, yR50_3, yR50_4, yR50_5, yR50_6, yR50_7, yR59_1, yA3, yA5, yA6, yA7, yA8, yA9, yA10, yA11, yA12, yA14, yA15, yA16, yA17, yA18, yA19, yA20, yA22, yA23, yA24, yA25, yA26, yA27, yA28, yA30, yA31, yA32, yA33, yA37, yA38, yA39, yA40, yA41, yA42, yA43, yA44, yA46, yA47, yA48, yA49, yA51, yA52, yA53, yA54, yA55, yA56, yA57, yA58, yA60, yS3, yS5, yS6, yS7, yS8, yS9, yS10, yS11, yS12, yS14, yS15, yS16, yS17, yS18, yS19, yS20, yS22, yS23, yS24, yS25, yS26, yS27, yS28, yS30, yS31, yS32, yS33, yS37, yS38, yS39, yS40, yS41, yS42, yS43, yS44, yS46, yS47, yS48, yS49, yS51, yS52, yS53, yS54, yS55, yS56, yS57, yS58, yS60, c12, c11, b11, nI_1]
        rw [if_neg (nI_ge hk (by omega))]
        rfl
    | true =>
      rw [hT] at b11
      obtain ⟨q, e, q1, q2, q3⟩ := c_count (u := k) G hn hA hk (fun t ht => by rw [g2 51 (by omega) (by omega)]; exact (l5 t ht).1)
      have Q := q1.ly G
      have c10 : z_i q 50 10 = nI (bsN (sG S) S.1) := by rw [q2 50 (by omega), g3 10 (by omega)]; exact l4
      have c9 : z_i q 50 9 = nI (bsN (inA S (A 3)) k) := by rw [q2 50 (by omega)]; exact g4
      have c52 : z_i q 52 k = sO S k := by rw [q2 52 (by omega), g2 52 (by omega) (by omega)]; exact (l5 k hk).2.1
      have c53 : z_i g 53 k = sV S k := by rw [g2 53 (by omega) (by omega)]; exact (l5 k hk).2.2
      have c4 : z_i q 4 0 = A 3 := by rw [q2 4 (by omega), g1.2.2.2 4 (by omega)]; exact h4
      have b10 : ((nI (bsN (sG S) S.1) >>> (nI k &&& 31)) &&& 1) = if sG S k then 1 else 0 := by
        rw [nI_tb (bsN_2048 hn) (by omega), bsN_tb]
        simp [hk]
      have iB : ∀ t, inB S t k = (lv (sP S) k t).isSome := fun t => by unfold inB; rw [hT]; rfl
      have iD : ∀ t, inD S t k = decide (sP S k = some t) := fun t => by unfold inD; rw [hT]; rfl
      have iA : inA S (A 3) k = (!sG S k && decide (A 3 ≤ sO S k)) := by unfold inA; rw [hT]; rfl
      have vA : nI (bsN (inA S (A 3)) k) ||| (if inA S (A 3) k then (1 : Int32) <<< (nI k &&& 31) else 0) = nI (bsN (inA S (A 3)) (k + 1)) := bs_or (by omega)
      refine ⟨z_si q 50 9 (nI (bsN (inA S (A 3)) (k + 1))), ⟨g1.tr (q1.tr (SCW_si (by omega))), fun a h1 h2 => ?_, fun j hj => ?_, ?_, fun t ht => ?_⟩, fun rec => ?_⟩
      · rw [z_si_o (by omega), q2 a (by omega)]
        exact g2 a h1 h2
      · rw [zi_si, if_pos rfl, if_neg hj, q2 50 (by omega)]
        exact g3 j hj
      · rw [zi_si, if_pos rfl, if_pos rfl]
      · obtain ⟨z1, z2, z3, z4⟩ := g5 t ht
        obtain ⟨w1, w2, w3, w4⟩ := q3 t ht
        rw [z_si_o (by omega), z_si_o (by omega), z_si_o (by omega), z_si_o (by omega)]
        refine ⟨?_, ?_, ?_, ?_⟩
        · rw [w3, z1, c53]
          show _ = sm (fun u => if inB S t u then sV S u else 0) k + (if inB S t k then sV S k else 0)
          rw [iB t]
        · rw [w2, z2, ← iB t, bs_or (by omega)]
        · rw [w1, z3]
          have := bs_or (p := inD S t) (k := k) (by omega)
          rw [iD t] at this
          rw [← this]
          simp only [decide_eq_true_eq]
        · rw [w4, z4]
          show _ = nI (max (mxs (fun u => if sT S u then (lv (sP S) u t).getD 0 else 0) k) (if sT S k then (lv (sP S) k t).getD 0 else 0))
          rw [hT, if_pos rfl]
          have hb : mxs (fun u => if sT S u then (lv (sP S) u t).getD 0 else 0) k ≤ 11 := mxs_le k (fun u _ => by
            split
            · exact lv_le
            · exact Nat.zero_le _)
          cases hl : lv (sP S) k t with
          | none => exact congrArg nI (Nat.max_eq_left (Nat.zero_le _)).symm
          | some j =>
            have := lv_le (P := sP S) (u := k) (t := t)
            rw [hl] at this
            have hj : j ≤ 11 := this
            exact mx_nI (by omega) (by omega)
      · unfold f_X6_settle_l1
        simp (disch := first | assumption | omega) only [gd, lt, jn, bd2, Option.bind_some, LY_si, LY_sl, LY_row, decide_true, decide_false, if_true, ite_true, ite_false, decide_eq_true_eq, yg0, yg1, yg2, yg4, yg13, yg21, yg29, yg35, yg36, yg45, yg50, yg59, yI0, yI1, yI2, yI4, yI13, yI21, yI29, yI35, yI36, yI45, yI50, yI59, yP0, yP1, yP2, yP4, yP13, yP21, yP29, yP35, yP36, yP45, yP50, yP59, yR0_0, yR0_1, yR0_2, yR0_3, yR0_4, yR1_0, yR1_1, yR1_2, yR1_3, yR1_4, yR1_5, yR2_0, yR4_4, yR4_5, yR4_6, yR4_7, yR4_8, yR4_9, yR4_10, yR4_11, yR13_1, yR13_2, yR13_3, yR13_4, yR13_5, yR13_6, yR13_7, yR21_1, yR21_2, yR21_3, yR21_4, yR21_5, yR21_6, yR21_7, yR29_0, yR29_1, yR29_2, yR35_0, yR35_1, yR35_2, yR35_3, yR35_4, yR36_4, yR36_5, yR36_6, yR36_7, yR36_8, yR36_9, yR36_10, yR36_11, yR45_0, yR50_0, yR50_1, yR50_2, yR50_3, yR50_4, yR50_5, yR50_6, yR50_7, yR59_1, yA3, yA5, yA6, yA7, yA8, yA9, yA10, yA11, yA12, yA14, yA15, yA16, yA17, yA18, yA19, yA20, yA22, yA23, yA24, yA25, yA26, yA27, yA28, yA30, yA31, yA32, yA33, yA37, yA38, yA39, yA40, yA41, yA42, yA43, yA44, yA46, yA47, yA48, yA49, yA51, yA52, yA53, yA54, yA55, yA56, yA57, yA58, yA60, yS3, yS5, yS6, yS7, yS8, yS9, yS10, yS11, yS12, yS14, yS15, yS16, yS17, yS18, yS19, yS20, yS22, yS23, yS24, yS25, yS26, yS27, yS28, yS30, yS31, yS32, yS33, yS37, yS38, yS39, yS40, yS41, yS42, yS43, yS44, yS46, yS47, yS48, yS49, yS51, yS52, yS53, yS54, yS55, yS56, yS57, yS58, yS60, c12, c11, b11, e, c10, b10, c9, c52, c4, nI_1]
        rw [if_neg (nI_ge hk (by omega)), ← vA, iA]
        cases hG : sG S k with
        | true => rfl
        | false =>
          by_cases c : A 3 ≤ sO S k
          · simp only [c, decide_true, Bool.not_false, Bool.and_self, if_true]
            rw [if_pos (by decide), if_neg (by decide), if_neg (Int32.not_lt.mpr c)]
          · simp only [c, decide_false, Bool.and_false]
            rw [if_pos (by decide), if_neg (by decide), if_pos (Int32.not_le.mp c)]
            rfl
  · rintro rec g ⟨g1, g2, g3, g4, g5⟩
    have G := g1.ly H
    have c12 : z_i g 50 12 = nI S.1 := by rw [g3 12 (by omega)]; exact l2
    unfold f_X6_settle_l1
    simp (disch := first | assumption | omega) only [gd, lt, jn, bd2, Option.bind_some, LY_si, LY_sl, LY_row, decide_true, decide_false, if_true, ite_true, ite_false, decide_eq_true_eq, yg0, yg1, yg2, yg4, yg13, yg21, yg29, yg35, yg36, yg45, yg50, yg59, yI0, yI1, yI2, yI4, yI13, yI21, yI29, yI35, yI36, yI45, yI50, yI59, yP0, yP1, yP2, yP4, yP13, yP21, yP29, yP35, yP36, yP45, yP50, yP59, yR0_0, yR0_1, yR0_2, yR0_3, yR0_4, yR1_0, yR1_1, yR1_2, yR1_3, yR1_4, yR1_5, yR2_0, yR4_4, yR4_5, yR4_6, yR4_7, yR4_8, yR4_9, yR4_10, yR4_11, yR13_1, yR13_2, yR13_3, yR13_4, yR13_5, yR13_6, yR13_7, yR21_1, yR21_2, yR21_3, yR21_4, yR21_5, yR21_6, yR21_7, yR29_0, yR29_1, yR29_2, yR35_0, yR35_1, yR35_2, yR35_3, yR35_4, yR36_4, yR36_5, yR36_6, yR36_7, yR36_8, yR36_9, yR36_10, yR36_11, yR45_0, yR50_0, yR50_1, yR50_2, yR50_3, yR50_4, yR50_5, yR50_6, yR50_7, yR59_1, yA3, yA5, yA6, yA7, yA8, yA9, yA10, yA11, yA12, yA14, yA15, yA16, yA17, yA18, yA19, yA20, yA22, yA23, yA24, yA25, yA26, yA27, yA28, yA30, yA31, yA32, yA33, yA37, yA38, yA39, yA40, yA41, yA42, yA43, yA44, yA46, yA47, yA48, yA49, yA51, yA52, yA53, yA54, yA55, yA56, yA57, yA58, yA60, yS3, yS5, yS6, yS7, yS8, yS9, yS10, yS11, yS12, yS14, yS15, yS16, yS17, yS18, yS19, yS20, yS22, yS23, yS24, yS25, yS26, yS27, yS28, yS30, yS31, yS32, yS33, yS37, yS38, yS39, yS40, yS41, yS42, yS43, yS44, yS46, yS47, yS48, yS49, yS51, yS52, yS53, yS54, yS55, yS56, yS57, yS58, yS60, c12]
    rw [if_pos (nI_le (Nat.le_refl _) (by omega))]
