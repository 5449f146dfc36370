/-! place -/
theorem ow_new {A : Nat → Int32} (hN : VN A) (hS : SLa A) (mo : Nat) : owS A mo (nn A) = 0 := by
  have := hN.2.1
  refine sm_zero _ (fun i hi => ?_)
  obtain ⟨w, w1, w2, -⟩ := hS.2.2 i hi
  unfold owT
  rw [w2, if_neg (fun q => by
    have := (nI_eq (by omega) (by omega)).mp q.1
    omega)]
theorem vo_new {A : Nat → Int32} (hN : VN A) (hS : SLa A) (mo : Nat) : voS A mo (nn A) = 0 := by
  have := hN.2.1
  refine sm_zero _ (fun i hi => ?_)
  obtain ⟨w, w1, w2, -⟩ := hS.2.2 i hi
  unfold voT
  rw [w2, if_neg (fun q => by
    have := (nI_eq (by omega) (by omega)).mp q.1
    omega)]
def nw4 (h : Z_H) (n m p : Nat) (a : Int32) : Z_H := z_si (z_si (z_si (z_si h 66 n (nI p)) 67 n ((1 : Int32) &&& 1)) 61 19 (nI (n + 1))) 68 (100 * n + m) a
/-- one more seller, in the model's scene -/
theorem MSn.new {h : Z_H} {A : Nat → Int32} (eA : z_i h 62 = A) (hN : VN A) (hS : SLa A) {m p : Nat} {a : Int32} (M : MSn h (sc0 A m) m) (hw : ∃ w, 1 ≤ w ∧ w ≤ 6 ∧ A 6 = nI w) (hO : ∀ t mo, t < 11 → mo < 100 → z_i h 68 (100 * t + mo) = owS A mo t) (hp : p < nn A) : MSn (nw4 h (nn A) m p a) (scN (sc0 A m) p a) m := by
  have h10 := hN.2.1
  obtain ⟨⟨t1, t2, t3, t4⟩, m2, m3, m4, m5⟩ := M
  obtain ⟨w, w1, w2, w3⟩ := hw
  have ew : wn A = w := by unfold wn; rw [w3, nI_clamp (by omega)]
  let g := nw4 h (nn A) m p a
  have g61 : ∀ j, j ≠ 19 → z_i g 61 j = z_i h 61 j := fun j hj => by
    show z_i (z_si (z_si (z_si (z_si h 66 (nn A) (nI p)) 67 (nn A) ((1 : Int32) &&& 1)) 61 19 (nI (nn A + 1))) 68 (100 * nn A + m) a) 61 j = _
    rw [z_si_o (by omega), z_si_i, upd_o hj, z_si_o (by omega), z_si_o (by omega)]
  have g62 : z_i g 62 = A := by
    show z_i (z_si (z_si (z_si (z_si h 66 (nn A) (nI p)) 67 (nn A) ((1 : Int32) &&& 1)) 61 19 (nI (nn A + 1))) 68 (100 * nn A + m) a) 62 = _
    rw [z_si_o (by omega), z_si_o (by omega), z_si_o (by omega), z_si_o (by omega), eA]
  have g66 : z_i g 66 = upd (z_i h 66) (nn A) (nI p) := by
    show z_i (z_si (z_si (z_si (z_si h 66 (nn A) (nI p)) 67 (nn A) ((1 : Int32) &&& 1)) 61 19 (nI (nn A + 1))) 68 (100 * nn A + m) a) 66 = _
    rw [z_si_o (by omega), z_si_o (by omega), z_si_o (by omega), z_si_i]
  have g67 : z_i g 67 = upd (z_i h 67) (nn A) 1 := by
    show z_i (z_si (z_si (z_si (z_si h 66 (nn A) (nI p)) 67 (nn A) ((1 : Int32) &&& 1)) 61 19 (nI (nn A + 1))) 68 (100 * nn A + m) a) 67 = _
    rw [z_si_o (by omega), z_si_o (by omega), z_si_i, z_si_o (by omega)]
    rfl
  have g68 : z_i g 68 = upd (z_i h 68) (100 * nn A + m) (z_i h 68 (100 * nn A + m) + a) := by
    show z_i (z_si (z_si (z_si (z_si h 66 (nn A) (nI p)) 67 (nn A) ((1 : Int32) &&& 1)) 61 19 (nI (nn A + 1))) 68 (100 * nn A + m) a) 68 = _
    rw [z_si_i, z_si_o (by omega), z_si_o (by omega), z_si_o (by omega), hO (nn A) m (by omega) (by omega), ow_new hN hS, Int32.zero_add]
  refine ⟨⟨rfl, by show nn A + 1 ≤ 11; omega, fun t ht => ?_, fun s q hs e => ?_⟩, (g61 20 (by omega)).trans m2, m3, fun t ht => ?_, fun t ht => ?_⟩
  · have ht : t < nn A + 1 := ht
    show z_i g 66 t = pe (if t = nn A then some p else pr A m t)
    rw [g66]
    by_cases e : t = nn A
    · rw [e, upd_s, if_pos rfl]
      rfl
    · rw [upd_o e, if_neg e]
      exact t3 t (by show t < nn A; omega)
  · have hs : s < nn A + 1 := hs
    have e : (if s = nn A then some p else pr A m s) = some q := e
    show q < nn A + 1
    by_cases c : s = nn A
    · rw [if_pos c] at e
      cases e
      omega
    · rw [if_neg c] at e
      have : q < nn A := t4 s q (by show s < nn A; omega) e
      omega
  · have ht : t < nn A + 1 := ht
    show z_i g 67 t = if (if t = nn A then true else thS A m t) then 1 else 0
    rw [g67]
    by_cases e : t = nn A
    · rw [e, upd_s, if_pos rfl]
      rfl
    · rw [upd_o e, if_neg e]
      exact m4 t (by show t < nn A; omega)
  · have ht : t < nn A + 1 := ht
    show z_i g 68 (100 * t + m) = (if t = nn A then a else owS A m t) ∧ vsm (z_i g 68) t m (wn (z_i g 62)) = (if t = nn A then a else voS A m t) ∧ (if t = nn A then false else gnS A m t) = gnM (z_i g 62) m t
    rw [g62, g68, vsm_upd m3 (by omega)]
    by_cases e : t = nn A
    · subst e
      rw [if_pos rfl, if_pos rfl, if_pos rfl, if_pos rfl, upd_s, hO (nn A) m (by omega) (by omega), ow_new hN hS, Int32.zero_add, vsm_own m3 (fun mo hmo => hO (nn A) mo (by omega) hmo), vo_new hN hS, Int32.zero_add]
      refine ⟨rfl, rfl, ?_⟩
      unfold gnM
      rw [decide_eq_false (by omega)]
      rfl
    · rw [if_neg e, if_neg e, if_neg e, if_neg e, upd_o (by omega), hO t m (by omega) (by omega), vsm_own m3 (fun mo hmo => hO t mo (by omega) hmo)]
      refine ⟨rfl, rfl, ?_⟩
      unfold gnM
      rw [decide_eq_true (by omega)]
      rfl
theorem up_new {A : Nat → Int32} {c : Nat → Nat → Int32} (L : LK c A) {p : Nat} {a : Int32} (hp : p < nn A) : ∀ k u, 1 ≤ k → upk (sP (scN (sc0 A (nwN A)) p a)) k (nn A) = some u → u < nn A := by
  intro k u hk e
  have h99 := L.1.2.2.2.1
  have ac := (L.ok h99).2.1
  cases k with
  | zero => omega
  | succ k =>
    have e1 : upk (sP (scN (sc0 A (nwN A)) p a)) (k + 1) (nn A) = upk (sP (scN (sc0 A (nwN A)) p a)) k p := by
      show ((if nn A = nn A then some p else pr A (nwN A) (nn A)) : Option Nat).bind _ = _
      rw [if_pos rfl]
      rfl
    have hc := upk_congr (P := pr A (nwN A)) (P' := sP (scN (sc0 A (nwN A)) p a)) (n := nn A) (fun s hs => by
      show (if s = nn A then some p else pr A (nwN A) s) = _
      exact if_neg (by omega)) (fun s q hs e => ac.1 s q hs e) k p hp
    rw [e1, hc] at e
    exact ac.lt hp e
/-- what s is paid -/
def ptS (q : PS) (s : Nat) : Int32 := sm (fun l => if q.2.2 (7 * l + 0) = nI s then q.2.2 (7 * l + 2) else 0) q.1
theorem c_paidBy {h : Z_H} (H : LY h) {A : Nat → Int32} (L : LK (cl h) A) {s p v : Nat} (hp : p < nn A) : ∃ h', f_X9_paidByNewcomer h 0 (nI s) (nI p) (nI v) = some (ptS (puS A (scN (sc0 A (nwN A)) p (nI v)) (nwN A) (nI v) (nn A)) s, h') ∧ QS h h' := by
  have h99 := L.1.2.2.2.1
  have h10 := L.1.2.1
  have hO0 := L.ok h99
  have hO : SOK (scN (sc0 A (nwN A)) p (nI v)) := scN_ok hO0 (show nn A ≤ 10 from h10) hp (th_now (L.2.1 p hp))
  obtain ⟨g3, p1, p2, p3, p4⟩ := c_lookNew H L hp (a := nI v)
  have G3 := p2.ly H
  obtain ⟨g8, u1, u2, u3, u4, u5⟩ := c_payUp (am := nI v) (s := nn A) G3 (p2.lk L) hO p3 p4 (show nn A < nn A + 1 by omega) (up_new L hp)
  have G8 := u2.ly G3
  generalize eq : puS A (scN (sc0 A (nwN A)) p (nI v)) (nwN A) (nI v) (nn A) = q at *
  refine ⟨g8, ?_, p2.qs.tr u2.qs⟩
  have cn_ : z_i g3 13 0 = nI (nn A) := by
    rw [p2.2.2.2 13 (by omega)]
    exact (L.2.2.2.2.2.1.1).trans L.1.2.2.1
  have key := lp_sum1 (b := f_X9_paidByNewcomer_l1 0 (nI s) g8) (N := q.1) (fun l => if q.2.2 (7 * l + 0) = nI s then q.2.2 (7 * l + 2) else 0) (by omega) ?_ ?_ 0
  · unfold f_X9_paidByNewcomer
    simp (disch := first | assumption | omega) only [gd, lt, jn, bd2, Option.bind_some, LY_si, LY_sl, LY_row, decide_true, decide_false, if_true, ite_true, ite_false, decide_eq_true_eq, yg0, yg1, yg2, yg4, yg13, yg21, yg29, yg35, yg36, yg45, yg50, yg59, yI0, yI1, yI2, yI4, yI13, yI21, yI29, yI35, yI36, yI45, yI50, yI59, yP0, yP1, yP2, yP4, yP13, yP21, yP29, yP35, yP36, yP45, yP50, yP59, yR0_0, yR0_1, yR0_2, yR0_3, yR0_4, yR1_0, yR1_1, yR1_2, yR1_3, yR1_4, yR1_5, yR2_0, yR4_4, yR4_5, yR4_6, yR4_7, yR4_8, yR4_9, yR4_10, yR4_11, yR13_1, yR13_2, yR13_3, yR13_4, yR13_5, yR13_6, yR13_7, yR21_1, yR21_2, yR21_3, yR21_4, yR21_5, yR21_6, yR21_7, yR29_0, yR29_1, yR29_2, yR35_0, yR35_1, yR35_2, yR35_3, yR35_4, yR36_4, yR36_5, yR36_6, yR36_7, yR36_8, yR36_9, yR36_10, yR36_11, yR45_0, yR50_0, yR50_1, yR50_2, yR50_3, yR50_4, yR50_5, yR50_6, yR50_7, yR59_1, yA3, yA5, yA6, yA7, yA8, yA9, yA10, yA11, yA12, yA14, yA15, yA16, yA17, yA18, yA19, yA20, yA22, yA23, yA24, yA25, yA26, yA27, yA28, yA30, yA31, yA32, yA33, yA37, yA38, yA39, yA40, yA41, yA42, yA43, yA44, yA46, yA47, yA48, yA49, yA51, yA52, yA53, yA54, yA55, yA56, yA57, yA58, yA60, yS3, yS5, yS6, yS7, yS8, yS9, yS10, yS11, yS12, yS14, yS15, yS16, yS17, yS18, yS19, yS20, yS22, yS23, yS24, yS25, yS26, yS27, yS28, yS30, yS31, yS32, yS33, yS37, yS38, yS39, yS40, yS41, yS42, yS43, yS44, yS46, yS47, yS48, yS49, yS51, yS52, yS53, yS54, yS55, yS56, yS57, yS58, yS60, p1, cn_, u1, key]
    rw [Int32.zero_add]
    rfl
  · intro rec l a hl
    have ft : ∀ f, f < 7 → f_X2_fact g8 59 (nI (l + 1)) (nI f) = some (q.2.2 (7 * l + f)) := fun f hf => by
      unfold f_X2_fact
      rw [nI_p1, n_7, nI_mul, nI_add, Nat.mul_comm l 7]
      simp (disch := first | assumption | omega) only [gd, lt, jn, bd2, Option.bind_some, LY_si, LY_sl, LY_row, decide_true, decide_false, if_true, ite_true, ite_false, decide_eq_true_eq, yg0, yg1, yg2, yg4, yg13, yg21, yg29, yg35, yg36, yg45, yg50, yg59, yI0, yI1, yI2, yI4, yI13, yI21, yI29, yI35, yI36, yI45, yI50, yI59, yP0, yP1, yP2, yP4, yP13, yP21, yP29, yP35, yP36, yP45, yP50, yP59, yR0_0, yR0_1, yR0_2, yR0_3, yR0_4, yR1_0, yR1_1, yR1_2, yR1_3, yR1_4, yR1_5, yR2_0, yR4_4, yR4_5, yR4_6, yR4_7, yR4_8, yR4_9, yR4_10, yR4_11, yR13_1, yR13_2, yR13_3, yR13_4, yR13_5, yR13_6, yR13_7, yR21_1, yR21_2, yR21_3, yR21_4, yR21_5, yR21_6, yR21_7, yR29_0, yR29_1, yR29_2, yR35_0, yR35_1, yR35_2, yR35_3, yR35_4, yR36_4, yR36_5, yR36_6, yR36_7, yR36_8, yR36_9, yR36_10, yR36_11, yR45_0, yR50_0, yR50_1, yR50_2, yR50_3, yR50_4, yR50_5, yR50_6, yR50_7, yR59_1, yA3, yA5, yA6, yA7, yA8, yA9, yA10, yA11, yA12, yA14, yA15, yA16, yA17, yA18, yA19, yA20, yA22, yA23, yA24, yA25, yA26, yA27, yA28, yA30, yA31, yA32, yA33, yA37, yA38, yA39, yA40, yA41, yA42, yA43, yA44, yA46, yA47, yA48, yA49, yA51, yA52, yA53, yA54, yA55, yA56, yA57, yA58, yA60, yS3, yS5, yS6, yS7, yS8, yS9, yS10, yS11, yS12, yS14, yS15, yS16, yS17, yS18, yS19, yS20, yS22, yS23, yS24, yS25, yS26, yS27, yS28, yS30, yS31, yS32, yS33, yS37, yS38, yS39, yS40, yS41, yS42, yS43, yS44, yS46, yS47, yS48, yS49, yS51, yS52, yS53, yS54, yS55, yS56, yS57, yS58, yS60]
      rw [u5 _ (by omega)]
    have f0 : f_X2_fact g8 59 (nI (l + 1)) 0 = some (q.2.2 (7 * l + 0)) := ft 0 (by omega)
    have f2 : f_X2_fact g8 59 (nI (l + 1)) 2 = some (q.2.2 (7 * l + 2)) := ft 2 (by omega)
    unfold f_X9_paidByNewcomer_l1
    simp (disch := first | assumption | omega) only [gd, lt, jn, bd2, Option.bind_some, LY_si, LY_sl, LY_row, decide_true, decide_false, if_true, ite_true, ite_false, decide_eq_true_eq, yg0, yg1, yg2, yg4, yg13, yg21, yg29, yg35, yg36, yg45, yg50, yg59, yI0, yI1, yI2, yI4, yI13, yI21, yI29, yI35, yI36, yI45, yI50, yI59, yP0, yP1, yP2, yP4, yP13, yP21, yP29, yP35, yP36, yP45, yP50, yP59, yR0_0, yR0_1, yR0_2, yR0_3, yR0_4, yR1_0, yR1_1, yR1_2, yR1_3, yR1_4, yR1_5, yR2_0, yR4_4, yR4_5, yR4_6, yR4_7, yR4_8, yR4_9, yR4_10, yR4_11, yR13_1, yR13_2, yR13_3, yR13_4, yR13_5, yR13_6, yR13_7, yR21_1, yR21_2, yR21_3, yR21_4, yR21_5, yR21_6, yR21_7, yR29_0, yR29_1, yR29_2, yR35_0, yR35_1, yR35_2, yR35_3, yR35_4, yR36_4, yR36_5, yR36_6, yR36_7, yR36_8, yR36_9, yR36_10, yR36_11, yR45_0, yR50_0, yR50_1, yR50_2, yR50_3, yR50_4, yR50_5, yR50_6, yR50_7, yR59_1, yA3, yA5, yA6, yA7, yA8, yA9, yA10, yA11, yA12, yA14, yA15, yA16, yA17, yA18, yA19, yA20, yA22, yA23, yA24, yA25, yA26, yA27, yA28, yA30, yA31, yA32, yA33, yA37, yA38, yA39, yA40, yA41, yA42, yA43, yA44, yA46, yA47, yA48, yA49, yA51, yA52, yA53, yA54, yA55, yA56, yA57, yA58, yA60, yS3, yS5, yS6, yS7, yS8, yS9, yS10, yS11, yS12, yS14, yS15, yS16, yS17, yS18, yS19, yS20, yS22, yS23, yS24, yS25, yS26, yS27, yS28, yS30, yS31, yS32, yS33, yS37, yS38, yS39, yS40, yS41, yS42, yS43, yS44, yS46, yS47, yS48, yS49, yS51, yS52, yS53, yS54, yS55, yS56, yS57, yS58, yS60, u4, f0, f2, nI_1]
    rw [if_neg (nI_nlt (by omega) (by omega))]
    split
    · rfl
    · rw [add_0]
  · intro rec a
    unfold f_X9_paidByNewcomer_l1
    simp (disch := first | assumption | omega) only [gd, lt, jn, bd2, Option.bind_some, LY_si, LY_sl, LY_row, decide_true, decide_false, if_true, ite_true, ite_false, decide_eq_true_eq, yg0, yg1, yg2, yg4, yg13, yg21, yg29, yg35, yg36, yg45, yg50, yg59, yI0, yI1, yI2, yI4, yI13, yI21, yI29, yI35, yI36, yI45, yI50, yI59, yP0, yP1, yP2, yP4, yP13, yP21, yP29, yP35, yP36, yP45, yP50, yP59, yR0_0, yR0_1, yR0_2, yR0_3, yR0_4, yR1_0, yR1_1, yR1_2, yR1_3, yR1_4, yR1_5, yR2_0, yR4_4, yR4_5, yR4_6, yR4_7, yR4_8, yR4_9, yR4_10, yR4_11, yR13_1, yR13_2, yR13_3, yR13_4, yR13_5, yR13_6, yR13_7, yR21_1, yR21_2, yR21_3, yR21_4, yR21_5, yR21_6, yR21_7, yR29_0, yR29_1, yR29_2, yR35_0, yR35_1, yR35_2, yR35_3, yR35_4, yR36_4, yR36_5, yR36_6, yR36_7, yR36_8, yR36_9, yR36_10, yR36_11, yR45_0, yR50_0, yR50_1, yR50_2, yR50_3, yR50_4, yR50_5, yR50_6, yR50_7, yR59_1, yA3, yA5, yA6, yA7, yA8, yA9, yA10, yA11, yA12, yA14, yA15, yA16, yA17, yA18, yA19, yA20, yA22, yA23, yA24, yA25, yA26, yA27, yA28, yA30, yA31, yA32, yA33, yA37, yA38, yA39, yA40, yA41, yA42, yA43, yA44, yA46, yA47, yA48, yA49, yA51, yA52, yA53, yA54, yA55, yA56, yA57, yA58, yA60, yS3, yS5, yS6, yS7, yS8, yS9, yS10, yS11, yS12, yS14, yS15, yS16, yS17, yS18, yS19, yS20, yS22, yS23, yS24, yS25, yS26, yS27, yS28, yS30, yS31, yS32, yS33, yS37, yS38, yS39, yS40, yS41, yS42, yS43, yS44, yS46, yS47, yS48, yS49, yS51, yS52, yS53, yS54, yS55, yS56, yS57, yS58, yS60, u4]
    rw [if_pos (nI_lt (by omega) (by omega))]
theorem e_paidBy {h : Z_H} (H : LY h) {A T : Nat → Int32} {c : Nat → Nat → Int32} (eA : z_i h 62 = A) (R : RS c A T) (h14 : z_i h 61 14 = -1) {s p v : Nat} (hs : s < nn A) (hp : p < nn A) (hv : v ≤ 9999) : ∃ h', f_X10_paidBy h 61 (nI s) (nI v) (nI p) = some (ptS (puS A (scN (sc0 A (nwN A)) p (nI v)) (nwN A) (nI v) (nn A)) s, h') ∧ MW h h' := by
  have L := R.lk
  have V := R.1
  have hN := V.1
  have h99 := hN.2.2.2.1
  have h10 := hN.2.1
  have e144 : A 144 = nI (nwN A) := hN.2.2.2.2
  have hO0 := L.ok h99
  have hO : SOK (scN (sc0 A (nwN A)) p (nI v)) := scN_ok hO0 (show nn A ≤ 10 from h10) hp (th_now (L.2.1 p hp))
  obtain ⟨k1, k2, b1, b2, b3, b4, b5, b6, b7⟩ := e_scene2 H eA L h14 h99
  have K1 := b2.ly H
  have K2 := b4.ly K1
  have d1 : z_i k1 62 = A := b2.a.trans eA
  have d2 : z_i k2 62 = A := b4.a.trans d1
  have M := b7.new (p := p) (a := nI v) d2 hN L.2.2.2.2.2.2.2.2.a V.2.2.2.1.2.2.2.1 b6 hp
  let k3 := nw4 k2 (nn A) (nwN A) p (nI v)
  have K3 : LY k3 := K2
  have w3 : MW k2 k3 := (MW_si (by omega)).tr ((MW_si (by omega)).tr ((MW_s1 (by omega)).tr (MW_si (by omega))))
  have d3 : z_i k3 62 = A := w3.a.trans d2
  have up := up_new (a := nI v) L hp
  obtain ⟨k4, v1, v2, v3, v4, v5, v6, v7⟩ := e_pays (h := k3) (am := nI v) (s := nn A) K3 M hO (by rw [d3]; exact hN) (by rw [d3]; exact V.2.2.2.1) (show nn A < nn A + 1 by omega) (by
    show (if nn A = nn A then true else thS A (nwN A) (nn A)) = true
    rw [if_pos rfl]) (by rw [d3]; exact up)
  rw [d3] at v5 v6 v7
  have K4 := v2.ly K3
  obtain ⟨uu, pp, a1, a2, a3, a4⟩ := pu_all (m := nwN A) (s := nn A) (v := v) hO V.2.2.2.1 (show nn A < nn A + 1 by omega) hv
  generalize eq : puS A (scN (sc0 A (nwN A)) p (nI v)) (nwN A) (nI v) (nn A) = q at *
  have n2 : z_i k1 62 144 = nI (nwN A) := by rw [d1]; exact e144
  have e19 : z_i k2 61 19 = nI (nn A) := b7.1.1
  have key := lp_find (b := f_X10_paidBy_l1 61 (nI s) k4) (fun l => nI l) (fun l => decide (q.2.2 (7 * l + 0) = nI s)) (fun l => some (.inl (nI l))) (some (.inr ())) q.1 ?_ ?_ ?_ q.1 FU 0 (by omega) (by unfold FU; omega)
  · let j1 := z_si k2 66 (nn A) (nI p)
    let j2 := z_si j1 67 (nn A) ((1 : Int32) &&& 1)
    let j3 := z_si j2 61 19 (nI (nn A + 1))
    have J1 : LY j1 := K2
    have J2 : LY j2 := K2
    have J3 : LY j3 := K2
    have s1 : sI k2 66 (nI (nn A)) (nI p) = some j1 := yS66 K2 (by omega)
    have s2 : sZ j1 67 (nI (nn A)) 1 = some j2 := yS67 J1 (by omega)
    have t9 : z_i j2 61 19 = nI (nn A) := e19
    have x3 : z_si j2 61 19 (nI (nn A + 1)) = j3 := rfl
    have n3 : z_i j3 62 144 = nI (nwN A) := by
      show z_i k2 62 144 = _
      rw [d2]
      exact e144
    have s4 : ∀ x, sI j3 68 ((100 : Int32) * nI (nn A) + nI (nwN A)) x = some (z_si j3 68 (100 * nn A + nwN A) x) := fun x => by
      rw [n_100, nI_mul, nI_add]
      exact yS68 J3 (by omega)
    have x4 : z_si j3 68 (100 * nn A + nwN A) (nI v) = k3 := rfl
    have key' : lp (f_X10_paidBy_l1 61 (nI s) k4) FU 0 = _ := key
    have body : f_X10_paidBy h 61 (nI s) (nI v) (nI p) = (lp (f_X10_paidBy_l1 61 (nI s) k4) FU 0).bind fun t => (match t with | (.inl v16) => ((gR k4 61 10 23).bind fun r21 => (aI k4 r21 (((7 : Int32) * v16) + 2)).bind fun t22 => some (t22, k4)) | (.inr _) => (some (0, k4))) := by
      unfold f_X10_paidBy
      simp (disch := first | assumption | omega) only [gd, lt, jn, bd2, Option.bind_some, LY_si, LY_sl, LY_row, decide_true, decide_false, if_true, ite_true, ite_false, decide_eq_true_eq, yg61, yI61, yP61, yR61_1, yR61_2, yR61_12, yR61_13, yR61_17, yR61_18, yR61_21, yR61_22, yR61_23, yR61_25, yA62, yA63, yA64, yA65, yA66, yA67, yA68, yA69, yA70, yA71, yS62, yS63, yS64, yS65, yS66, yS67, yS68, yS69, yS70, yS71, b1, e_now, n2, b3, e19, s1, s2, t9, nI_1, x3, n3, s4, x4, v1]
      rfl
    refine ⟨k4, ?_, b2.tr (b4.tr (w3.tr v2))⟩
    rw [body, key']
    unfold ptS
    cases hf : fnd (fun l => decide (q.2.2 (7 * l + 0) = nI s)) 0 q.1 with
    | none =>
      rw [sm_zero _ (fun l hl => if_neg (by
        have := fnd_none _ _ hf l (by omega) (by omega)
        simpa using this))]
      rfl
    | some l =>
      obtain ⟨-, f2, f3, -⟩ := fnd_some _ _ _ hf
      have f2 : l < q.1 := by omega
      have f3 : q.2.2 (7 * l + 0) = nI s := by simpa using f3
      rw [sm_one (t := fun l => if q.2.2 (7 * l + 0) = nI s then q.2.2 (7 * l + 2) else 0) q.1 l f2 (fun l' hl' hne => if_neg (fun e => hne (a3 l' l hl' f2 ?_)))]
      · dsimp only
        rw [if_pos f3]
        have ix : (7 : Int32) * nI l + 2 = nI (7 * l + 2) := by rw [n_7, n_2, nI_mul, nI_add]
        simp (disch := first | assumption | omega) only [gd, lt, jn, bd2, Option.bind_some, LY_si, LY_sl, LY_row, decide_true, decide_false, if_true, ite_true, ite_false, decide_eq_true_eq, yg61, yI61, yP61, yR61_1, yR61_2, yR61_12, yR61_13, yR61_17, yR61_18, yR61_21, yR61_22, yR61_23, yR61_25, yA62, yA63, yA64, yA65, yA66, yA67, yA68, yA69, yA70, yA71, yS62, yS63, yS64, yS65, yS66, yS67, yS68, yS69, yS70, yS71, ix]
        rw [v7 _ (by omega)]
      · have u1 := (a2 l' hl').2.1
        have u2 := (a2 l f2).2.1
        rw [e] at u1
        rw [f3] at u2
        have b1 := up _ (uu l') (a2 l' hl').1.choose_spec.1 (a2 l' hl').1.choose_spec.2
        have b2 := up _ (uu l) (a2 l f2).1.choose_spec.1 (a2 l f2).1.choose_spec.2
        have c1 := (nI_eq (by omega) (by omega)).mp u1
        have c2 := (nI_eq (by omega) (by omega)).mp u2
        omega
  · intro rec l hl hp
    have ix : (7 : Int32) * nI l = nI (7 * l) := by rw [n_7, nI_mul]
    unfold f_X10_paidBy_l1
    simp (disch := first | assumption | omega) only [gd, lt, jn, bd2, Option.bind_some, LY_si, LY_sl, LY_row, decide_true, decide_false, if_true, ite_true, ite_false, decide_eq_true_eq, yg61, yI61, yP61, yR61_1, yR61_2, yR61_12, yR61_13, yR61_17, yR61_18, yR61_21, yR61_22, yR61_23, yR61_25, yA62, yA63, yA64, yA65, yA66, yA67, yA68, yA69, yA70, yA71, yS62, yS63, yS64, yS65, yS66, yS67, yS68, yS69, yS70, yS71, v6, ix]
    rw [if_neg (nI_ge hl (by omega)), v7 _ (by omega), if_pos (by simpa using hp)]
  · intro rec l hl hp
    have ix : (7 : Int32) * nI l = nI (7 * l) := by rw [n_7, nI_mul]
    unfold f_X10_paidBy_l1
    simp (disch := first | assumption | omega) only [gd, lt, jn, bd2, Option.bind_some, LY_si, LY_sl, LY_row, decide_true, decide_false, if_true, ite_true, ite_false, decide_eq_true_eq, yg61, yI61, yP61, yR61_1, yR61_2, yR61_12, yR61_13, yR61_17, yR61_18, yR61_21, yR61_22, yR61_23, yR61_25, yA62, yA63, yA64, yA65, yA66, yA67, yA68, yA69, yA70, yA71, yS62, yS63, yS64, yS65, yS66, yS67, yS68, yS69, yS70, yS71, v6, ix, nI_1]
    rw [if_neg (nI_ge hl (by omega)), v7 _ (by omega), if_neg (by simpa using hp)]
  · intro rec
    unfold f_X10_paidBy_l1
    simp (disch := first | assumption | omega) only [gd, lt, jn, bd2, Option.bind_some, LY_si, LY_sl, LY_row, decide_true, decide_false, if_true, ite_true, ite_false, decide_eq_true_eq, yg61, yI61, yP61, yR61_1, yR61_2, yR61_12, yR61_13, yR61_17, yR61_18, yR61_21, yR61_22, yR61_23, yR61_25, yA62, yA63, yA64, yA65, yA66, yA67, yA68, yA69, yA70, yA71, yS62, yS63, yS64, yS65, yS66, yS67, yS68, yS69, yS70, yS71, v6]
    rw [if_pos (nI_le (Nat.le_refl _) (by omega))]
def plG (A : Nat → Int32) (v s k : Nat) (q : Int32 × Int32) : Int32 × Int32 :=
  let y := if A (147 + 94 * k + 1) = -1 then ptS (puS A (scN (sc0 A (nwN A)) k (nI v)) (nwN A) (nI v) (nn A)) s else -1
  if y ≤ q.2 then q else (nI k, y)
theorem op_place {h : Z_H} (I : Inv h) {x y z : Int32} : ∃ r h1 h2, f_X9_place h 0 x y z = some (r, h1) ∧ f_X10_place h1 61 x y z = some (r, h2) ∧ Inv h2 := by
  have H := I.1
  have C := I.ca
  have hv := I.v
  have Iq : ∀ g, QS h g → CA g (z_i h 62) ∧ LK (cl g) (z_i h 62) ∧ RS (cl g) (z_i h 62) (z_i h 63) ∧ z_i g 61 14 = -1 := fun g q => by
    have i := q.inv I
    have a := i.ca
    have b := i.2.1
    have d := i.2.1.lk
    rw [q.a] at a b d
    rw [q.t] at b
    exact ⟨a, d, b, i.2.2.1⟩
  generalize eA : z_i h 62 = A at *
  generalize eT : z_i h 63 = T at *
  have hN := hv.1
  have h10 := hN.2.1
  have H1 : LY (z_si h 61 0 0) := H
  have e1 : z_i (z_si h 61 0 0) 62 = A := by rw [m62, eA]
  have hN1 : VN (z_i (z_si h 61 0 0) 62) := by rw [e1]; exact hN
  have e145 : A 145 = nI (nn A) := hN.2.2.1
  rcases nI_or (x := x) (n := nn A) (by omega) with ⟨s, hs, rfl⟩ | ⟨-, hx⟩
  · have wt := c_has_t C hs
    have it := e_isS_t (h := z_si h 61 0 0) (s := s) H1 hN1 (by rw [e1]; exact hs)
    by_cases hy : (1 : Int32) ≤ y ∧ y ≤ 9999
    · obtain ⟨v, hv9, rfl⟩ := nI_of2 (x := y) (M := 9999) (n := 9999) rfl (Int32.not_lt.mpr (Int32.le_trans (show (0 : Int32) ≤ 1 by decide) hy.1)) hy.2
      have kc := lp_ex (b := f_X9_place_l1 0 (nI s) (nI v)) (fun k (g : Z_H) => ((itf (plG A v s) 0 k (-1, -1)).1, (itf (plG A v s) 0 k (-1, -1)).2, nI k, g)) (fun k g => QS h g) (fun g => some ((itf (plG A v s) 0 (nn A) (-1, -1)).1, (itf (plG A v s) 0 (nn A) (-1, -1)).2, g)) (nn A) ?_ ?_ (nn A) FU 0 h (by omega) (by unfold FU; omega) QS.rf
      · obtain ⟨g8, q8, kc⟩ := kc
        have Im := (q8.inv I).m
        have qm : QS h (z_si g8 61 0 0) := q8.tr (QS_si rfl (fun _ => by omega))
        have km := lp_ex (b := f_X10_place_l1 61 (nI s) (nI v)) (fun k (g : Z_H) => ((itf (plG A v s) 0 k (-1, -1)).1, (itf (plG A v s) 0 k (-1, -1)).2, nI k, g)) (fun k g => QS h g) (fun g => some ((itf (plG A v s) 0 (nn A) (-1, -1)).1, (itf (plG A v s) 0 (nn A) (-1, -1)).2, g)) (nn A) ?_ ?_ (nn A) FU 0 (z_si g8 61 0 0) (by omega) (by unfold FU; omega) qm
        · obtain ⟨k2, q2, km⟩ := km
          have kc' : lp (f_X9_place_l1 0 (nI s) (nI v)) FU (-1, -1, 0, h) = _ := kc
          have km' : lp (f_X10_place_l1 61 (nI s) (nI v)) FU (-1, -1, 0, z_si g8 61 0 0) = _ := km
          generalize itf (plG A v s) 0 (nn A) (-1, -1) = qq at *
          have e8 : z_i (z_si g8 61 0 0) 62 = A := by rw [m62, q8.a, eA]
          have it8 := e_isS_t (h := z_si g8 61 0 0) (s := s) Im.1 (by rw [e8]; exact hN) (by rw [e8]; exact hs)
          have Hm := Im.1
          have G8 := q8.ly H
          refine ⟨if z = 0 then qq.1 else qq.2, g8, k2, ?_, ?_, q2.inv I⟩
          · unfold f_X9_place
            simp (disch := first | assumption | omega) only [gd, lt, jn, bd2, Option.bind_some, LY_si, LY_sl, LY_row, decide_true, decide_false, if_true, ite_true, ite_false, decide_eq_true_eq, yg0, yg1, yg2, yg4, yg13, yg21, yg29, yg35, yg36, yg45, yg50, yg59, yI0, yI1, yI2, yI4, yI13, yI21, yI29, yI35, yI36, yI45, yI50, yI59, yP0, yP1, yP2, yP4, yP13, yP21, yP29, yP35, yP36, yP45, yP50, yP59, yR0_0, yR0_1, yR0_2, yR0_3, yR0_4, yR1_0, yR1_1, yR1_2, yR1_3, yR1_4, yR1_5, yR2_0, yR4_4, yR4_5, yR4_6, yR4_7, yR4_8, yR4_9, yR4_10, yR4_11, yR13_1, yR13_2, yR13_3, yR13_4, yR13_5, yR13_6, yR13_7, yR21_1, yR21_2, yR21_3, yR21_4, yR21_5, yR21_6, yR21_7, yR29_0, yR29_1, yR29_2, yR35_0, yR35_1, yR35_2, yR35_3, yR35_4, yR36_4, yR36_5, yR36_6, yR36_7, yR36_8, yR36_9, yR36_10, yR36_11, yR45_0, yR50_0, yR50_1, yR50_2, yR50_3, yR50_4, yR50_5, yR50_6, yR50_7, yR59_1, yA3, yA5, yA6, yA7, yA8, yA9, yA10, yA11, yA12, yA14, yA15, yA16, yA17, yA18, yA19, yA20, yA22, yA23, yA24, yA25, yA26, yA27, yA28, yA30, yA31, yA32, yA33, yA37, yA38, yA39, yA40, yA41, yA42, yA43, yA44, yA46, yA47, yA48, yA49, yA51, yA52, yA53, yA54, yA55, yA56, yA57, yA58, yA60, yS3, yS5, yS6, yS7, yS8, yS9, yS10, yS11, yS12, yS14, yS15, yS16, yS17, yS18, yS19, yS20, yS22, yS23, yS24, yS25, yS26, yS27, yS28, yS30, yS31, yS32, yS33, yS37, yS38, yS39, yS40, yS41, yS42, yS43, yS44, yS46, yS47, yS48, yS49, yS51, yS52, yS53, yS54, yS55, yS56, yS57, yS58, yS60, wt, kc']
            rw [if_neg (by decide), if_neg (Int32.not_lt.mpr hy.1), if_pos hy.2]
            split <;> rfl
          · unfold f_X10_place
            simp (disch := first | assumption | omega) only [gd, lt, jn, bd2, Option.bind_some, LY_si, LY_sl, LY_row, decide_true, decide_false, if_true, ite_true, ite_false, decide_eq_true_eq, yg61, yI61, yP61, yR61_1, yR61_2, yR61_12, yR61_13, yR61_17, yR61_18, yR61_21, yR61_22, yR61_23, yR61_25, yA62, yA63, yA64, yA65, yA66, yA67, yA68, yA69, yA70, yA71, yS62, yS63, yS64, yS65, yS66, yS67, yS68, yS69, yS70, yS71, it8, e_in_t hy.1 hy.2, km']
            rw [if_neg (by decide), if_neg (by decide)]
            split <;> rfl
        · intro k g hk hg
          have G := hg.ly H
          obtain ⟨-, lk, rs, g14⟩ := Iq g hg
          have g62 : z_i g 62 = A := hg.a.trans eA
          have hq := e_hasQuit (h := g) (s := k) G (by omega)
          rw [g62] at hq
          have a145 : aI g 62 145 = some (nI (nn A)) := by
            have := yA62 (k := 145) G (by omega)
            rw [g62, e145] at this
            exact this
          have il : itf (plG A v s) 0 (k + 1) (-1, -1) = plG A v s k (itf (plG A v s) 0 k (-1, -1)) := by rw [itf_last, Nat.zero_add]
          rw [il]
          generalize itf (plG A v s) 0 k (-1, -1) = qq
          by_cases c : A (147 + 94 * k + 1) = -1
          · rw [if_pos c] at hq
            obtain ⟨g', p1, p2⟩ := e_paidBy (s := s) (p := k) (v := v) G g62 rs g14 hs hk hv9
            refine ⟨g', hg.tr p2.qs, fun rec => ?_⟩
            unfold f_X10_place_l1 plG
            simp (disch := first | assumption | omega) only [gd, lt, bd2, Option.bind_some, LY_si, LY_sl, LY_row, decide_true, decide_false, if_true, ite_true, ite_false, decide_eq_true_eq, yg61, yI61, yP61, yR61_1, yR61_2, yR61_12, yR61_13, yR61_17, yR61_18, yR61_21, yR61_22, yR61_23, yR61_25, yA62, yA63, yA64, yA65, yA66, yA67, yA68, yA69, yA70, yA71, yS62, yS63, yS64, yS65, yS66, yS67, yS68, yS69, yS70, yS71, a145, hq, p1, e_greater]
            dsimp only [jn]
            rw [if_neg (nI_ge hk (by omega)), if_pos c, nI_1]
            unfold gre
            by_cases c2 : ptS (puS A (scN (sc0 A (nwN A)) k (nI v)) (nwN A) (nI v) (nn A)) s ≤ qq.2
            · rw [if_pos c2, if_pos c2]
              by_cases c3 : qq.2 ≤ ptS (puS A (scN (sc0 A (nwN A)) k (nI v)) (nwN A) (nI v) (nn A)) s
              · rw [if_pos c3, Int32.le_antisymm c2 c3]
              · rw [if_neg c3]
            · rw [if_neg c2, if_neg c2, if_pos (Int32.le_of_lt (Int32.not_le.mp c2))]
          · rw [if_neg c] at hq
            refine ⟨g, hg, fun rec => ?_⟩
            unfold f_X10_place_l1 plG
            simp (disch := first | assumption | omega) only [gd, lt, bd2, Option.bind_some, LY_si, LY_sl, LY_row, decide_true, decide_false, if_true, ite_true, ite_false, decide_eq_true_eq, yg61, yI61, yP61, yR61_1, yR61_2, yR61_12, yR61_13, yR61_17, yR61_18, yR61_21, yR61_22, yR61_23, yR61_25, yA62, yA63, yA64, yA65, yA66, yA67, yA68, yA69, yA70, yA71, yS62, yS63, yS64, yS65, yS66, yS67, yS68, yS69, yS70, yS71, a145, hq, e_greater]
            dsimp only [jn]
            rw [if_neg (nI_ge hk (by omega)), if_neg (show ¬ (1 : Int32) = 0 by decide), if_neg c, nI_1]
            unfold gre
            by_cases c2 : (-1 : Int32) ≤ qq.2
            · rw [if_pos c2, if_pos c2]
              by_cases c3 : qq.2 ≤ -1
              · rw [if_pos c3, Int32.le_antisymm c2 c3]
              · rw [if_neg c3]
            · rw [if_neg c2, if_neg c2, if_pos (Int32.le_of_lt (Int32.not_le.mp c2))]
        · intro rec g hg
          have G := hg.ly H
          have a145 : aI g 62 145 = some (nI (nn A)) := by
            have := yA62 (k := 145) G (by omega)
            rw [hg.a.trans eA, e145] at this
            exact this
          unfold f_X10_place_l1
          simp (disch := first | assumption | omega) only [gd, lt, jn, bd2, Option.bind_some, LY_si, LY_sl, LY_row, decide_true, decide_false, if_true, ite_true, ite_false, decide_eq_true_eq, yg61, yI61, yP61, yR61_1, yR61_2, yR61_12, yR61_13, yR61_17, yR61_18, yR61_21, yR61_22, yR61_23, yR61_25, yA62, yA63, yA64, yA65, yA66, yA67, yA68, yA69, yA70, yA71, yS62, yS63, yS64, yS65, yS66, yS67, yS68, yS69, yS70, yS71, a145]
          rw [if_pos (nI_le (Nat.le_refl _) (by omega))]
      · intro k g hk hg
        have G := hg.ly H
        obtain ⟨ca, lk, -, -⟩ := Iq g hg
        have en := ca.n.1
        have hq := c_hasLeft G ca.2.2.2.2.2.1 hN hk
        have il : itf (plG A v s) 0 (k + 1) (-1, -1) = plG A v s k (itf (plG A v s) 0 k (-1, -1)) := by rw [itf_last, Nat.zero_add]
        rw [il]
        generalize itf (plG A v s) 0 k (-1, -1) = qq
        by_cases c : A (147 + 94 * k + 1) = -1
        · rw [if_pos c] at hq
          obtain ⟨g', p1, p2⟩ := c_paidBy (s := s) (p := k) (v := v) G lk hk
          refine ⟨g', hg.tr p2, fun rec => ?_⟩
          unfold f_X9_place_l1 plG
          simp (disch := first | assumption | omega) only [gd, lt, bd2, Option.bind_some, LY_si, LY_sl, LY_row, decide_true, decide_false, if_true, ite_true, ite_false, decide_eq_true_eq, yg0, yg1, yg2, yg4, yg13, yg21, yg29, yg35, yg36, yg45, yg50, yg59, yI0, yI1, yI2, yI4, yI13, yI21, yI29, yI35, yI36, yI45, yI50, yI59, yP0, yP1, yP2, yP4, yP13, yP21, yP29, yP35, yP36, yP45, yP50, yP59, yR0_0, yR0_1, yR0_2, yR0_3, yR0_4, yR1_0, yR1_1, yR1_2, yR1_3, yR1_4, yR1_5, yR2_0, yR4_4, yR4_5, yR4_6, yR4_7, yR4_8, yR4_9, yR4_10, yR4_11, yR13_1, yR13_2, yR13_3, yR13_4, yR13_5, yR13_6, yR13_7, yR21_1, yR21_2, yR21_3, yR21_4, yR21_5, yR21_6, yR21_7, yR29_0, yR29_1, yR29_2, yR35_0, yR35_1, yR35_2, yR35_3, yR35_4, yR36_4, yR36_5, yR36_6, yR36_7, yR36_8, yR36_9, yR36_10, yR36_11, yR45_0, yR50_0, yR50_1, yR50_2, yR50_3, yR50_4, yR50_5, yR50_6, yR50_7, yR59_1, yA3, yA5, yA6, yA7, yA8, yA9, yA10, yA11, yA12, yA14, yA15, yA16, yA17, yA18, yA19, yA20, yA22, yA23, yA24, yA25, yA26, yA27, yA28, yA30, yA31, yA32, yA33, yA37, yA38, yA39, yA40, yA41, yA42, yA43, yA44, yA46, yA47, yA48, yA49, yA51, yA52, yA53, yA54, yA55, yA56, yA57, yA58, yA60, yS3, yS5, yS6, yS7, yS8, yS9, yS10, yS11, yS12, yS14, yS15, yS16, yS17, yS18, yS19, yS20, yS22, yS23, yS24, yS25, yS26, yS27, yS28, yS30, yS31, yS32, yS33, yS37, yS38, yS39, yS40, yS41, yS42, yS43, yS44, yS46, yS47, yS48, yS49, yS51, yS52, yS53, yS54, yS55, yS56, yS57, yS58, yS60, en, hq, p1]
          dsimp only [jn]
          rw [if_neg (nI_ge hk (by omega)), if_pos c, nI_1]
          split <;> rfl
        · rw [if_neg c] at hq
          refine ⟨g, hg, fun rec => ?_⟩
          unfold f_X9_place_l1 plG
          simp (disch := first | assumption | omega) only [gd, lt, bd2, Option.bind_some, LY_si, LY_sl, LY_row, decide_true, decide_false, if_true, ite_true, ite_false, decide_eq_true_eq, yg0, yg1, yg2, yg4, yg13, yg21, yg29, yg35, yg36, yg45, yg50, yg59, yI0, yI1, yI2, yI4, yI13, yI21, yI29, yI35, yI36, yI45, yI50, yI59, yP0, yP1, yP2, yP4, yP13, yP21, yP29, yP35, yP36, yP45, yP50, yP59, yR0_0, yR0_1, yR0_2, yR0_3, yR0_4, yR1_0, yR1_1, yR1_2, yR1_3, yR1_4, yR1_5, yR2_0, yR4_4, yR4_5, yR4_6, yR4_7, yR4_8, yR4_9, yR4_10, yR4_11, yR13_1, yR13_2, yR13_3, yR13_4, yR13_5, yR13_6, yR13_7, yR21_1, yR21_2, yR21_3, yR21_4, yR21_5, yR21_6, yR21_7, yR29_0, yR29_1, yR29_2, yR35_0, yR35_1, yR35_2, yR35_3, yR35_4, yR36_4, yR36_5, yR36_6, yR36_7, yR36_8, yR36_9, yR36_10, yR36_11, yR45_0, yR50_0, yR50_1, yR50_2, yR50_3, yR50_4, yR50_5, yR50_6, yR50_7, yR59_1, yA3, yA5, yA6, yA7, yA8, yA9, yA10, yA11, yA12, yA14, yA15, yA16, yA17, yA18, yA19, yA20, yA22, yA23, yA24, yA25, yA26, yA27, yA28, yA30, yA31, yA32, yA33, yA37, yA38, yA39, yA40, yA41, yA42, yA43, yA44, yA46, yA47, yA48, yA49, yA51, yA52, yA53, yA54, yA55, yA56, yA57, yA58, yA60, yS3, yS5, yS6, yS7, yS8, yS9, yS10, yS11, yS12, yS14, yS15, yS16, yS17, yS18, yS19, yS20, yS22, yS23, yS24, yS25, yS26, yS27, yS28, yS30, yS31, yS32, yS33, yS37, yS38, yS39, yS40, yS41, yS42, yS43, yS44, yS46, yS47, yS48, yS49, yS51, yS52, yS53, yS54, yS55, yS56, yS57, yS58, yS60, en, hq]
          dsimp only [jn]
          rw [if_neg (nI_ge hk (by omega)), if_neg (show ¬ (1 : Int32) = 0 by decide), if_neg c, nI_1]
          split <;> rfl
      · intro rec g hg
        have G := hg.ly H
        have en := (Iq g hg).1.n.1
        unfold f_X9_place_l1
        simp (disch := first | assumption | omega) only [gd, lt, jn, bd2, Option.bind_some, LY_si, LY_sl, LY_row, decide_true, decide_false, if_true, ite_true, ite_false, decide_eq_true_eq, yg0, yg1, yg2, yg4, yg13, yg21, yg29, yg35, yg36, yg45, yg50, yg59, yI0, yI1, yI2, yI4, yI13, yI21, yI29, yI35, yI36, yI45, yI50, yI59, yP0, yP1, yP2, yP4, yP13, yP21, yP29, yP35, yP36, yP45, yP50, yP59, yR0_0, yR0_1, yR0_2, yR0_3, yR0_4, yR1_0, yR1_1, yR1_2, yR1_3, yR1_4, yR1_5, yR2_0, yR4_4, yR4_5, yR4_6, yR4_7, yR4_8, yR4_9, yR4_10, yR4_11, yR13_1, yR13_2, yR13_3, yR13_4, yR13_5, yR13_6, yR13_7, yR21_1, yR21_2, yR21_3, yR21_4, yR21_5, yR21_6, yR21_7, yR29_0, yR29_1, yR29_2, yR35_0, yR35_1, yR35_2, yR35_3, yR35_4, yR36_4, yR36_5, yR36_6, yR36_7, yR36_8, yR36_9, yR36_10, yR36_11, yR45_0, yR50_0, yR50_1, yR50_2, yR50_3, yR50_4, yR50_5, yR50_6, yR50_7, yR59_1, yA3, yA5, yA6, yA7, yA8, yA9, yA10, yA11, yA12, yA14, yA15, yA16, yA17, yA18, yA19, yA20, yA22, yA23, yA24, yA25, yA26, yA27, yA28, yA30, yA31, yA32, yA33, yA37, yA38, yA39, yA40, yA41, yA42, yA43, yA44, yA46, yA47, yA48, yA49, yA51, yA52, yA53, yA54, yA55, yA56, yA57, yA58, yA60, yS3, yS5, yS6, yS7, yS8, yS9, yS10, yS11, yS12, yS14, yS15, yS16, yS17, yS18, yS19, yS20, yS22, yS23, yS24, yS25, yS26, yS27, yS28, yS30, yS31, yS32, yS33, yS37, yS38, yS39, yS40, yS41, yS42, yS43, yS44, yS46, yS47, yS48, yS49, yS51, yS52, yS53, yS54, yS55, yS56, yS57, yS58, yS60, en]
        rw [if_pos (nI_le (Nat.le_refl _) (by omega))]
    · refine ⟨-1, h, z_si h 61 0 0, ?_, ?_, I.m⟩
      · unfold f_X9_place
        simp (disch := first | assumption | omega) only [gd, lt, jn, bd2, Option.bind_some, LY_si, LY_sl, LY_row, decide_true, decide_false, if_true, ite_true, ite_false, decide_eq_true_eq, yg0, yg1, yg2, yg4, yg13, yg21, yg29, yg35, yg36, yg45, yg50, yg59, yI0, yI1, yI2, yI4, yI13, yI21, yI29, yI35, yI36, yI45, yI50, yI59, yP0, yP1, yP2, yP4, yP13, yP21, yP29, yP35, yP36, yP45, yP50, yP59, yR0_0, yR0_1, yR0_2, yR0_3, yR0_4, yR1_0, yR1_1, yR1_2, yR1_3, yR1_4, yR1_5, yR2_0, yR4_4, yR4_5, yR4_6, yR4_7, yR4_8, yR4_9, yR4_10, yR4_11, yR13_1, yR13_2, yR13_3, yR13_4, yR13_5, yR13_6, yR13_7, yR21_1, yR21_2, yR21_3, yR21_4, yR21_5, yR21_6, yR21_7, yR29_0, yR29_1, yR29_2, yR35_0, yR35_1, yR35_2, yR35_3, yR35_4, yR36_4, yR36_5, yR36_6, yR36_7, yR36_8, yR36_9, yR36_10, yR36_11, yR45_0, yR50_0, yR50_1, yR50_2, yR50_3, yR50_4, yR50_5, yR50_6, yR50_7, yR59_1, yA3, yA5, yA6, yA7, yA8, yA9, yA10, yA11, yA12, yA14, yA15, yA16, yA17, yA18, yA19, yA20, yA22, yA23, yA24, yA25, yA26, yA27, yA28, yA30, yA31, yA32, yA33, yA37, yA38, yA39, yA40, yA41, yA42, yA43, yA44, yA46, yA47, yA48, yA49, yA51, yA52, yA53, yA54, yA55, yA56, yA57, yA58, yA60, yS3, yS5, yS6, yS7, yS8, yS9, yS10, yS11, yS12, yS14, yS15, yS16, yS17, yS18, yS19, yS20, yS22, yS23, yS24, yS25, yS26, yS27, yS28, yS30, yS31, yS32, yS33, yS37, yS38, yS39, yS40, yS41, yS42, yS43, yS44, yS46, yS47, yS48, yS49, yS51, yS52, yS53, yS54, yS55, yS56, yS57, yS58, yS60, wt]
        rw [if_neg (by decide)]
        by_cases c1 : y < 1
        · rw [if_pos c1]
        · rw [if_neg c1, if_neg (fun q => hy ⟨Int32.not_lt.mp c1, q⟩)]
      · unfold f_X10_place
        simp (disch := first | assumption | omega) only [gd, lt, jn, bd2, Option.bind_some, LY_si, LY_sl, LY_row, decide_true, decide_false, if_true, ite_true, ite_false, decide_eq_true_eq, yg61, yI61, yP61, yR61_1, yR61_2, yR61_12, yR61_13, yR61_17, yR61_18, yR61_21, yR61_22, yR61_23, yR61_25, yA62, yA63, yA64, yA65, yA66, yA67, yA68, yA69, yA70, yA71, yS62, yS63, yS64, yS65, yS66, yS67, yS68, yS69, yS70, yS71, it, e_in_f hy]
        rw [if_neg (by decide)]
  · refine ⟨-1, h, z_si h 61 0 0, ?_, ?_, I.m⟩
    · unfold f_X9_place
      simp (disch := first | assumption | omega) only [gd, lt, jn, bd2, Option.bind_some, LY_si, LY_sl, LY_row, decide_true, decide_false, if_true, ite_true, ite_false, decide_eq_true_eq, yg0, yg1, yg2, yg4, yg13, yg21, yg29, yg35, yg36, yg45, yg50, yg59, yI0, yI1, yI2, yI4, yI13, yI21, yI29, yI35, yI36, yI45, yI50, yI59, yP0, yP1, yP2, yP4, yP13, yP21, yP29, yP35, yP36, yP45, yP50, yP59, yR0_0, yR0_1, yR0_2, yR0_3, yR0_4, yR1_0, yR1_1, yR1_2, yR1_3, yR1_4, yR1_5, yR2_0, yR4_4, yR4_5, yR4_6, yR4_7, yR4_8, yR4_9, yR4_10, yR4_11, yR13_1, yR13_2, yR13_3, yR13_4, yR13_5, yR13_6, yR13_7, yR21_1, yR21_2, yR21_3, yR21_4, yR21_5, yR21_6, yR21_7, yR29_0, yR29_1, yR29_2, yR35_0, yR35_1, yR35_2, yR35_3, yR35_4, yR36_4, yR36_5, yR36_6, yR36_7, yR36_8, yR36_9, yR36_10, yR36_11, yR45_0, yR50_0, yR50_1, yR50_2, yR50_3, yR50_4, yR50_5, yR50_6, yR50_7, yR59_1, yA3, yA5, yA6, yA7, yA8, yA9, yA10, yA11, yA12, yA14, yA15, yA16, yA17, yA18, yA19, yA20, yA22, yA23, yA24, yA25, yA26, yA27, yA28, yA30, yA31, yA32, yA33, yA37, yA38, yA39, yA40, yA41, yA42, yA43, yA44, yA46, yA47, yA48, yA49, yA51, yA52, yA53, yA54, yA55, yA56, yA57, yA58, yA60, yS3, yS5, yS6, yS7, yS8, yS9, yS10, yS11, yS12, yS14, yS15, yS16, yS17, yS18, yS19, yS20, yS22, yS23, yS24, yS25, yS26, yS27, yS28, yS30, yS31, yS32, yS33, yS37, yS38, yS39, yS40, yS41, yS42, yS43, yS44, yS46, yS47, yS48, yS49, yS51, yS52, yS53, yS54, yS55, yS56, yS57, yS58, yS60, c_has_f C hx]
    · unfold f_X10_place
      simp (disch := first | assumption | omega) only [gd, lt, jn, bd2, Option.bind_some, LY_si, LY_sl, LY_row, decide_true, decide_false, if_true, ite_true, ite_false, decide_eq_true_eq, yg61, yI61, yP61, yR61_1, yR61_2, yR61_12, yR61_13, yR61_17, yR61_18, yR61_21, yR61_22, yR61_23, yR61_25, yA62, yA63, yA64, yA65, yA66, yA67, yA68, yA69, yA70, yA71, yS62, yS63, yS64, yS65, yS66, yS67, yS68, yS69, yS70, yS71, e_isS_f (h := z_si h 61 0 0) H1 hN1 (by rw [e1]; exact hx)]
