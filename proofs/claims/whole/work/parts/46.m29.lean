/-! bounds of what is sold -/
theorem sm_bd {t : Nat → Int32} {n B : Nat} (h : ∀ k, k < n → ∃ v, v ≤ B ∧ t k = nI v) (hB : B < 2 ^ 31) : ∃ v, v ≤ n * B ∧ sm t n = nI v := by
  have e : ∀ k, k < n → (t k).toNatClampNeg ≤ B ∧ t k = nI (t k).toNatClampNeg := fun k hk => by
    obtain ⟨v, h1, h2⟩ := h k hk
    rw [h2, nI_clamp (by omega)]
    exact ⟨h1, rfl⟩
  exact ⟨snat (fun k => (t k).toNatClampNeg) n, snat_mul n (fun k hk => (e k hk).1), sm_natf n (fun k hk => (e k hk).2)⟩
theorem na_nat {A : Nat → Int32} (hS : VS A) {i : Nat} (hi : i < nk A) : ∃ v, v ≤ 9999 ∧ naS A i = nI v := by
  obtain ⟨-, ⟨v, h1, h2, h3⟩, ⟨b, hb, eb⟩, -⟩ := hS.2.2 i hi
  refine ⟨v * (100 - b) / 100, ?_, ?_⟩
  · have : v * (100 - b) ≤ v * 100 := Nat.mul_le_mul_left _ (by omega)
    omega
  · unfold naS
    rw [h3]
    exact net_nat h2 hb eb
theorem vo_nat {A : Nat → Int32} (hS : VS A) (m t : Nat) : ∃ v, v ≤ 399960 ∧ voS A m t = nI v := by
  obtain ⟨v, h1, h2⟩ := sm_bd (t := voT A m t) (n := nk A) (B := 9999) (fun i hi => by
    unfold voT
    split
    · exact na_nat hS hi
    · exact ⟨0, by omega, rfl⟩) (by omega)
  refine ⟨v, ?_, h2⟩
  have : nk A * 9999 ≤ 40 * 9999 := Nat.mul_le_mul_right _ hS.1
  omega
theorem grp_nat {A : Nat → Int32} (hN : VN A) (hS : VS A) (m t : Nat) : ∃ v, v ≤ 3999600 ∧ grp (sc0 A m) t = nI v := by
  obtain ⟨v, h1, h2⟩ := sm_bd (t := fun u => if inB (sc0 A m) t u then sV (sc0 A m) u else 0) (n := nn A) (B := 399960) (fun i hi => by
    split
    · exact vo_nat hS m i
    · exact ⟨0, by omega, rfl⟩) (by omega)
  refine ⟨v, ?_, h2⟩
  have : nn A * 399960 ≤ 10 * 399960 := Nat.mul_le_mul_right _ hN.2.1
  omega
theorem c_activeLegs {h : Z_H} (H : LY h) {A : Nat → Int32} {S : Sn} (hn : S.1 ≤ 11) (hS : Scn h A S) {t : Nat} (ht : t < S.1) : f_X6_activeLegs h 50 (nI t) = some (nI (lgs S (A 3) t)) := by
  obtain ⟨-, -, e, -⟩ := hS.2 t ht
  unfold f_X6_activeLegs
  simp (disch := first | assumption | omega) only [gd, lt, jn, bd2, Option.bind_some, LY_si, LY_sl, LY_row, decide_true, decide_false, if_true, ite_true, ite_false, decide_eq_true_eq, yg0, yg1, yg2, yg4, yg13, yg21, yg29, yg35, yg36, yg45, yg50, yg59, yI0, yI1, yI2, yI4, yI13, yI21, yI29, yI35, yI36, yI45, yI50, yI59, yP0, yP1, yP2, yP4, yP13, yP21, yP29, yP35, yP36, yP45, yP50, yP59, yR0_0, yR0_1, yR0_2, yR0_3, yR0_4, yR1_0, yR1_1, yR1_2, yR1_3, yR1_4, yR1_5, yR2_0, yR4_4, yR4_5, yR4_6, yR4_7, yR4_8, yR4_9, yR4_10, yR4_11, yR13_1, yR13_2, yR13_3, yR13_4, yR13_5, yR13_6, yR13_7, yR21_1, yR21_2, yR21_3, yR21_4, yR21_5, yR21_6, yR21_7, yR29_0, yR29_1, yR29_2, yR35_0, yR35_1, yR35_2, yR35_3, yR35_4, yR36_4, yR36_5, yR36_6, yR36_7, yR36_8, yR36_9, yR36_10, yR36_11, yR45_0, yR50_0, yR50_1, yR50_2, yR50_3, yR50_4, yR50_5, yR50_6, yR50_7, yR59_1, yA3, yA5, yA6, yA7, yA8, yA9, yA10, yA11, yA12, yA14, yA15, yA16, yA17, yA18, yA19, yA20, yA22, yA23, yA24, yA25, yA26, yA27, yA28, yA30, yA31, yA32, yA33, yA37, yA38, yA39, yA40, yA41, yA42, yA43, yA44, yA46, yA47, yA48, yA49, yA51, yA52, yA53, yA54, yA55, yA56, yA57, yA58, yA60, yS3, yS5, yS6, yS7, yS8, yS9, yS10, yS11, yS12, yS14, yS15, yS16, yS17, yS18, yS19, yS20, yS22, yS23, yS24, yS25, yS26, yS27, yS28, yS30, yS31, yS32, yS33, yS37, yS38, yS39, yS40, yS41, yS42, yS43, yS44, yS46, yS47, yS48, yS49, yS51, yS52, yS53, yS54, yS55, yS56, yS57, yS58, yS60, hS.1, e, nI_band, bsN_and, c_bitsS hn]
  rfl
/-! gap -/
def gpL (A : Nat → Int32) (g : Int32) (k : Nat) : Int32 := gre 0 (A (7 + k) - g)
def gpM (A : Nat → Int32) (g l : Int32) (k : Nat) (a : Int32) : Int32 := if l < A (11 + k) then a else les a (gpL A g k)
def gpC (A : Nat → Int32) (g l : Int32) (k : Nat) (a : Int32) : Int32 := if l < A (11 + k) then a else if a = -1 then gpL A g k else if a ≤ gpL A g k then a else gpL A g k
def gpV (x : Int32) : Int32 := if x ≤ 9999 then x else -1
theorem gpL_nat {A : Nat → Int32} {G q k : Nat} (hG : G ≤ 3999600) (hq : q ≤ 9999) (e : A (7 + k) = nI q) : ∃ v, v ≤ 9999 ∧ gpL A (nI G) k = nI v := by
  unfold gpL
  rw [e]
  by_cases c : G ≤ q
  · rw [nI_sub c]
    exact ⟨q - G, by omega, by rw [n_0, gre_nI (by omega) (by omega)]; exact congrArg nI (by omega)⟩
  · refine ⟨0, by omega, ?_⟩
    unfold gre
    rw [if_neg (Int32.not_le.mpr (sub_neg (by omega) (by omega)))]
    rfl
theorem gp_rel {A : Nat → Int32} {g l : Int32} : ∀ (n i : Nat) (a b : Int32), (∃ v, v ≤ 10000 ∧ b = nI v) → a = gpV b → (∀ k, i ≤ k → k < i + n → ∃ v, v ≤ 9999 ∧ gpL A g k = nI v) → itf (gpC A g l) i n a = gpV (itf (gpM A g l) i n b) := by
  intro n
  induction n with
  | zero => intro i a b _ e _; exact e
  | succ n ih =>
    intro i a b hb e hk
    obtain ⟨v, hv, eb⟩ := hb
    obtain ⟨w, hw, ew⟩ := hk i (Nat.le_refl _) (by omega)
    have hk' : ∀ k, i + 1 ≤ k → k < i + 1 + n → ∃ v, v ≤ 9999 ∧ gpL A g k = nI v := fun k h1 h2 => hk k (by omega) (by omega)
    show itf (gpC A g l) (i + 1) n (gpC A g l i a) = gpV (itf (gpM A g l) (i + 1) n (gpM A g l i b))
    by_cases c : l < A (11 + i)
    · refine ih (i + 1) _ _ ⟨v, hv, ?_⟩ ?_ hk'
      · unfold gpM; rw [if_pos c]; exact eb
      · unfold gpM gpC; rw [if_pos c, if_pos c]; exact e
    · have em : gpM A g l i b = nI (min v w) := by unfold gpM; rw [if_neg c, eb, ew, les_nI (by omega) (by omega)]
      refine ih (i + 1) _ _ ⟨min v w, by omega, em⟩ ?_ hk'
      rw [em]
      have e9 : gpV (nI (min v w)) = nI (min v w) := by
        unfold gpV
        rw [if_pos (show nI (min v w) ≤ (9999 : Int32) from nI_le (b := 9999) (by omega) (by omega))]
      rw [e9]
      unfold gpC
      rw [if_neg c, ew, e, eb]
      unfold gpV
      by_cases c9 : v ≤ 9999
      · rw [if_pos (show nI v ≤ (9999 : Int32) from nI_le (b := 9999) c9 (by omega)), if_neg (nI_m1 (by omega))]
        by_cases c2 : v ≤ w
        · rw [if_pos (nI_le c2 (by omega))]
          congr 1
          omega
        · rw [if_neg (nI_ge (by omega) (by omega))]
          congr 1
          omega
      · rw [if_neg (show ¬ nI v ≤ (9999 : Int32) from nI_ge (a := 9999) (by omega) (by omega)), if_pos rfl]
        congr 1
        omega
theorem op_gap {h : Z_H} (I : Inv h) {x y : Int32} : ∃ r h1 h2, f_X9_gap h 0 x y = some (r, h1) ∧ f_X10_gap h1 61 x y = some (r, h2) ∧ Inv h2 := by
  have H := I.1
  have C := I.ca
  have hv := I.v
  have L : LK (cl h) (z_i h 62) := I.2.1.lk
  generalize eA : z_i h 62 = A at *
  have hN := hv.1
  have h10 := hN.2.1
  have hP := hv.2.2.2.1
  obtain ⟨en, h99⟩ := C.now
  have e144 : A 144 = nI (nwN A) := hN.2.2.2.2
  have H1 : LY (z_si h 61 0 0) := H
  have e1 : z_i (z_si h 61 0 0) 62 = A := by rw [m62, eA]
  have hN1 : VN (z_i (z_si h 61 0 0) 62) := by rw [e1]; exact hN
  rcases nI_or (x := x) (n := nn A) (by omega) with ⟨s, hs, rfl⟩ | ⟨-, hx⟩
  · have wt := c_works_t C hs
    have it := e_isS_t (h := z_si h 61 0 0) (s := s) H1 hN1 (by rw [e1]; exact hs)
    have hq := e_hasQuit (h := z_si h 61 0 0) (s := s) H1 (by omega)
    rw [e1] at hq
    by_cases q : A (147 + 94 * s + 1) = -1
    · rw [if_pos q] at wt hq
      rcases nI_or (x := y) (n := 4) (by omega) with ⟨r, hr, rfl⟩ | ⟨-, hy⟩
      · by_cases r0 : r = 0
        · subst r0
          refine ⟨-1, h, z_si h 61 0 0, ?_, ?_, I.m⟩
          · unfold f_X9_gap
            simp (disch := first | assumption | omega) only [gd, lt, jn, bd2, Option.bind_some, LY_si, LY_sl, LY_row, decide_true, decide_false, if_true, ite_true, ite_false, decide_eq_true_eq, yg0, yg1, yg2, yg4, yg13, yg21, yg29, yg35, yg36, yg45, yg50, yg59, yI0, yI1, yI2, yI4, yI13, yI21, yI29, yI35, yI36, yI45, yI50, yI59, yP0, yP1, yP2, yP4, yP13, yP21, yP29, yP35, yP36, yP45, yP50, yP59, yR0_0, yR0_1, yR0_2, yR0_3, yR0_4, yR1_0, yR1_1, yR1_2, yR1_3, yR1_4, yR1_5, yR2_0, yR4_4, yR4_5, yR4_6, yR4_7, yR4_8, yR4_9, yR4_10, yR4_11, yR13_1, yR13_2, yR13_3, yR13_4, yR13_5, yR13_6, yR13_7, yR21_1, yR21_2, yR21_3, yR21_4, yR21_5, yR21_6, yR21_7, yR29_0, yR29_1, yR29_2, yR35_0, yR35_1, yR35_2, yR35_3, yR35_4, yR36_4, yR36_5, yR36_6, yR36_7, yR36_8, yR36_9, yR36_10, yR36_11, yR45_0, yR50_0, yR50_1, yR50_2, yR50_3, yR50_4, yR50_5, yR50_6, yR50_7, yR59_1, yA3, yA5, yA6, yA7, yA8, yA9, yA10, yA11, yA12, yA14, yA15, yA16, yA17, yA18, yA19, yA20, yA22, yA23, yA24, yA25, yA26, yA27, yA28, yA30, yA31, yA32, yA33, yA37, yA38, yA39, yA40, yA41, yA42, yA43, yA44, yA46, yA47, yA48, yA49, yA51, yA52, yA53, yA54, yA55, yA56, yA57, yA58, yA60, yS3, yS5, yS6, yS7, yS8, yS9, yS10, yS11, yS12, yS14, yS15, yS16, yS17, yS18, yS19, yS20, yS22, yS23, yS24, yS25, yS26, yS27, yS28, yS30, yS31, yS32, yS33, yS37, yS38, yS39, yS40, yS41, yS42, yS43, yS44, yS46, yS47, yS48, yS49, yS51, yS52, yS53, yS54, yS55, yS56, yS57, yS58, yS60, wt]
            rw [if_neg (by decide), if_pos (by decide)]
          · unfold f_X10_gap
            simp (disch := first | assumption | omega) only [gd, lt, jn, bd2, Option.bind_some, LY_si, LY_sl, LY_row, decide_true, decide_false, if_true, ite_true, ite_false, decide_eq_true_eq, yg61, yI61, yP61, yR61_1, yR61_2, yR61_12, yR61_13, yR61_17, yR61_18, yR61_21, yR61_22, yR61_23, yR61_25, yA62, yA63, yA64, yA65, yA66, yA67, yA68, yA69, yA70, yA71, yS62, yS63, yS64, yS65, yS66, yS67, yS68, yS69, yS70, yS71, it, hq, e_in_f (show ¬ ((1 : Int32) ≤ nI 0 ∧ nI 0 ≤ 3) by decide)]
            rw [if_neg (by decide)]
        · obtain ⟨g8, p1, p2, p3, p4⟩ := c_look H h99 L
          have G8 := p2.ly H
          have hO : SOK (sc0 A (nwN A)) := L.ok h99
          have Im := (p2.qs.inv I).m
          have e8 : z_i (z_si g8 61 0 0) 62 = A := by rw [m62, p2.qs.a, eA]
          obtain ⟨k1, k2, b1, b2, b3, b4, b5, b6, b7⟩ := e_scene2 (h := z_si g8 61 0 0) Im.1 e8 L Im.2.2.1 h99
          have K1 := b2.ly Im.1
          have K2 := b4.ly K1
          have d1 : z_i k1 62 = A := b2.a.trans e8
          have d2 : z_i k2 62 = A := b4.a.trans d1
          have gg := e_groupOf (t := s) K2 b7 hO (by rw [d2]; exact hP.2.2.2.1) (by omega)
          have ll := e_legsOf (t := s) K2 b7 (by rw [d2]; exact hN) (by omega)
          rw [d2] at ll
          obtain ⟨G, hG, eG⟩ := grp_nat hN hv.2.2.1 (nwN A) s
          have al := c_activeLegs G8 hO.1 p4 hs
          have gs : z_i g8 54 s = grp (sc0 A (nwN A)) s := (p4.2 s hs).1
          generalize el : nI (lgs (sc0 A (nwN A)) (A 3) s) = lg at *
          rw [eG] at gs gg
          have pl := (p2.lk L).pl
          have g5 : ∀ k, k < 4 → z_i g8 5 k = A (7 + k) := pl.1
          have g6 : ∀ k, k < 4 → z_i g8 6 k = A (11 + k) := pl.2.1
          have kc := lp_for (b := f_X9_gap_l1 0 (nI s) g8 4) (fun k (a : Int32) => (a, nI k)) (fun _ _ => True) (gpC A (nI G) lg) some 4 ?_ (fun _ _ _ _ => trivial) ?_ (4 - r) FU r (-1) (by omega) (by unfold FU; omega) trivial
          · have km := lp_for (b := f_X10_gap_l1 61 k2 (nI G) lg) (fun k (a : Int32) => (a, nI k)) (fun _ _ => True) (gpM A (nI G) lg) some 4 ?_ (fun _ _ _ _ => trivial) ?_ (4 - r) FU r 10000 (by omega) (by unfold FU; omega) trivial
            · have rel := gp_rel (A := A) (g := nI G) (l := lg) (4 - r) r (-1) 10000 ⟨10000, by omega, rfl⟩ (by decide) (fun k h1 h2 => by
                obtain ⟨⟨q, hq, eq⟩, -⟩ := hP.2.2.2.2.1 k (by omega)
                exact gpL_nat hG hq eq)
              refine ⟨gpV (itf (gpM A (nI G) lg) r (4 - r) 10000), g8, k2, ?_, ?_, (b2.tr b4).qs.inv Im⟩
              · unfold f_X9_gap
                simp (disch := first | assumption | omega) only [gd, lt, jn, bd2, Option.bind_some, LY_si, LY_sl, LY_row, decide_true, decide_false, if_true, ite_true, ite_false, decide_eq_true_eq, yg0, yg1, yg2, yg4, yg13, yg21, yg29, yg35, yg36, yg45, yg50, yg59, yI0, yI1, yI2, yI4, yI13, yI21, yI29, yI35, yI36, yI45, yI50, yI59, yP0, yP1, yP2, yP4, yP13, yP21, yP29, yP35, yP36, yP45, yP50, yP59, yR0_0, yR0_1, yR0_2, yR0_3, yR0_4, yR1_0, yR1_1, yR1_2, yR1_3, yR1_4, yR1_5, yR2_0, yR4_4, yR4_5, yR4_6, yR4_7, yR4_8, yR4_9, yR4_10, yR4_11, yR13_1, yR13_2, yR13_3, yR13_4, yR13_5, yR13_6, yR13_7, yR21_1, yR21_2, yR21_3, yR21_4, yR21_5, yR21_6, yR21_7, yR29_0, yR29_1, yR29_2, yR35_0, yR35_1, yR35_2, yR35_3, yR35_4, yR36_4, yR36_5, yR36_6, yR36_7, yR36_8, yR36_9, yR36_10, yR36_11, yR45_0, yR50_0, yR50_1, yR50_2, yR50_3, yR50_4, yR50_5, yR50_6, yR50_7, yR59_1, yA3, yA5, yA6, yA7, yA8, yA9, yA10, yA11, yA12, yA14, yA15, yA16, yA17, yA18, yA19, yA20, yA22, yA23, yA24, yA25, yA26, yA27, yA28, yA30, yA31, yA32, yA33, yA37, yA38, yA39, yA40, yA41, yA42, yA43, yA44, yA46, yA47, yA48, yA49, yA51, yA52, yA53, yA54, yA55, yA56, yA57, yA58, yA60, yS3, yS5, yS6, yS7, yS8, yS9, yS10, yS11, yS12, yS14, yS15, yS16, yS17, yS18, yS19, yS20, yS22, yS23, yS24, yS25, yS26, yS27, yS28, yS30, yS31, yS32, yS33, yS37, yS38, yS39, yS40, yS41, yS42, yS43, yS44, yS46, yS47, yS48, yS49, yS51, yS52, yS53, yS54, yS55, yS56, yS57, yS58, yS60, wt, en, p1, kc]
                rw [if_neg (by decide), if_neg (show ¬ nI r < (1 : Int32) from nI_nlt (b := 1) (by omega) (by omega)), if_pos (show nI r ≤ (3 : Int32) from nI_le (b := 3) (by omega) (by omega)), rel]
              · have n2 : z_i k1 62 144 = nI (nwN A) := by rw [d1]; exact e144
                have it8 := e_isS_t (h := z_si g8 61 0 0) (s := s) Im.1 (by rw [e8]; exact hN) (by rw [e8]; exact hs)
                have hq8 := e_hasQuit (h := z_si g8 61 0 0) (s := s) Im.1 (by omega)
                rw [e8, if_pos q] at hq8
                have Hm := Im.1
                unfold f_X10_gap
                simp (disch := first | assumption | omega) only [gd, lt, jn, bd2, Option.bind_some, LY_si, LY_sl, LY_row, decide_true, decide_false, if_true, ite_true, ite_false, decide_eq_true_eq, yg61, yI61, yP61, yR61_1, yR61_2, yR61_12, yR61_13, yR61_17, yR61_18, yR61_21, yR61_22, yR61_23, yR61_25, yA62, yA63, yA64, yA65, yA66, yA67, yA68, yA69, yA70, yA71, yS62, yS63, yS64, yS65, yS66, yS67, yS68, yS69, yS70, yS71, it8, hq8, e_in_t (show (1 : Int32) ≤ nI r from nI_le (a := 1) (by omega) (by omega)) (show nI r ≤ (3 : Int32) from nI_le (b := 3) (by omega) (by omega)), b1, e_now, n2, b3, gg, ll, km]
                rw [if_neg (by decide), if_neg (by decide)]
                unfold gpV
                split <;> rfl
            · intro rec k a hk _
              have a11 : aI k2 62 ((11 : Int32) + nI k) = some (A (11 + k)) := by rw [n_11, nI_add, yA62 K2 (by omega), d2]
              have a7 : aI k2 62 ((7 : Int32) + nI k) = some (A (7 + k)) := by rw [n_7, nI_add, yA62 K2 (by omega), d2]
              unfold f_X10_gap_l1 gpM gpL
              simp (disch := first | assumption | omega) only [gd, lt, jn, bd2, Option.bind_some, LY_si, LY_sl, LY_row, decide_true, decide_false, if_true, ite_true, ite_false, decide_eq_true_eq, yg61, yI61, yP61, yR61_1, yR61_2, yR61_12, yR61_13, yR61_17, yR61_18, yR61_21, yR61_22, yR61_23, yR61_25, yA62, yA63, yA64, yA65, yA66, yA67, yA68, yA69, yA70, yA71, yS62, yS63, yS64, yS65, yS66, yS67, yS68, yS69, yS70, yS71, a11, a7, e_greater, e_lesser, nI_1]
              rw [if_neg (show ¬ (3 : Int32) < nI k from nI_nlt (a := 3) (by omega) (by omega))]
              split <;> rfl
            · intro rec a _
              unfold f_X10_gap_l1
              dsimp only
              rw [if_pos (by decide)]
          · intro rec k a hk _
            unfold f_X9_gap_l1 gpC gpL
            simp (disch := first | assumption | omega) only [gd, lt, jn, bd2, Option.bind_some, LY_si, LY_sl, LY_row, decide_true, decide_false, if_true, ite_true, ite_false, decide_eq_true_eq, yg0, yg1, yg2, yg4, yg13, yg21, yg29, yg35, yg36, yg45, yg50, yg59, yI0, yI1, yI2, yI4, yI13, yI21, yI29, yI35, yI36, yI45, yI50, yI59, yP0, yP1, yP2, yP4, yP13, yP21, yP29, yP35, yP36, yP45, yP50, yP59, yR0_0, yR0_1, yR0_2, yR0_3, yR0_4, yR1_0, yR1_1, yR1_2, yR1_3, yR1_4, yR1_5, yR2_0, yR4_4, yR4_5, yR4_6, yR4_7, yR4_8, yR4_9, yR4_10, yR4_11, yR13_1, yR13_2, yR13_3, yR13_4, yR13_5, yR13_6, yR13_7, yR21_1, yR21_2, yR21_3, yR21_4, yR21_5, yR21_6, yR21_7, yR29_0, yR29_1, yR29_2, yR35_0, yR35_1, yR35_2, yR35_3, yR35_4, yR36_4, yR36_5, yR36_6, yR36_7, yR36_8, yR36_9, yR36_10, yR36_11, yR45_0, yR50_0, yR50_1, yR50_2, yR50_3, yR50_4, yR50_5, yR50_6, yR50_7, yR59_1, yA3, yA5, yA6, yA7, yA8, yA9, yA10, yA11, yA12, yA14, yA15, yA16, yA17, yA18, yA19, yA20, yA22, yA23, yA24, yA25, yA26, yA27, yA28, yA30, yA31, yA32, yA33, yA37, yA38, yA39, yA40, yA41, yA42, yA43, yA44, yA46, yA47, yA48, yA49, yA51, yA52, yA53, yA54, yA55, yA56, yA57, yA58, yA60, yS3, yS5, yS6, yS7, yS8, yS9, yS10, yS11, yS12, yS14, yS15, yS16, yS17, yS18, yS19, yS20, yS22, yS23, yS24, yS25, yS26, yS27, yS28, yS30, yS31, yS32, yS33, yS37, yS38, yS39, yS40, yS41, yS42, yS43, yS44, yS46, yS47, yS48, yS49, yS51, yS52, yS53, yS54, yS55, yS56, yS57, yS58, yS60, g5 k hk, g6 k hk, gs, al, mx_gre, nI_1]
            rw [if_neg (show ¬ (3 : Int32) < nI k from nI_nlt (a := 3) (by omega) (by omega))]
            split
            · rfl
            · split
              · rfl
              · split <;> rfl
          · intro rec a _
            unfold f_X9_gap_l1
            dsimp only
            rw [if_pos (by decide)]
      · have hy3 : ¬ ((1 : Int32) ≤ y ∧ y ≤ 3) := in_g (n := 3) (by omega) hy
        refine ⟨-1, h, z_si h 61 0 0, ?_, ?_, I.m⟩
        · unfold f_X9_gap
          simp (disch := first | assumption | omega) only [gd, lt, jn, bd2, Option.bind_some, LY_si, LY_sl, LY_row, decide_true, decide_false, if_true, ite_true, ite_false, decide_eq_true_eq, yg0, yg1, yg2, yg4, yg13, yg21, yg29, yg35, yg36, yg45, yg50, yg59, yI0, yI1, yI2, yI4, yI13, yI21, yI29, yI35, yI36, yI45, yI50, yI59, yP0, yP1, yP2, yP4, yP13, yP21, yP29, yP35, yP36, yP45, yP50, yP59, yR0_0, yR0_1, yR0_2, yR0_3, yR0_4, yR1_0, yR1_1, yR1_2, yR1_3, yR1_4, yR1_5, yR2_0, yR4_4, yR4_5, yR4_6, yR4_7, yR4_8, yR4_9, yR4_10, yR4_11, yR13_1, yR13_2, yR13_3, yR13_4, yR13_5, yR13_6, yR13_7, yR21_1, yR21_2, yR21_3, yR21_4, yR21_5, yR21_6, yR21_7, yR29_0, yR29_1, yR29_2, yR35_0, yR35_1, yR35_2, yR35_3, yR35_4, yR36_4, yR36_5, yR36_6, yR36_7, yR36_8, yR36_9, yR36_10, yR36_11, yR45_0, yR50_0, yR50_1, yR50_2, yR50_3, yR50_4, yR50_5, yR50_6, yR50_7, yR59_1, yA3, yA5, yA6, yA7, yA8, yA9, yA10, yA11, yA12, yA14, yA15, yA16, yA17, yA18, yA19, yA20, yA22, yA23, yA24, yA25, yA26, yA27, yA28, yA30, yA31, yA32, yA33, yA37, yA38, yA39, yA40, yA41, yA42, yA43, yA44, yA46, yA47, yA48, yA49, yA51, yA52, yA53, yA54, yA55, yA56, yA57, yA58, yA60, yS3, yS5, yS6, yS7, yS8, yS9, yS10, yS11, yS12, yS14, yS15, yS16, yS17, yS18, yS19, yS20, yS22, yS23, yS24, yS25, yS26, yS27, yS28, yS30, yS31, yS32, yS33, yS37, yS38, yS39, yS40, yS41, yS42, yS43, yS44, yS46, yS47, yS48, yS49, yS51, yS52, yS53, yS54, yS55, yS56, yS57, yS58, yS60, wt]
          rw [if_neg (by decide)]
          by_cases c1 : y < 1
          · rw [if_pos c1]
          · rw [if_neg c1, if_neg (fun q => hy3 ⟨Int32.not_lt.mp c1, q⟩)]
        · unfold f_X10_gap
          simp (disch := first | assumption | omega) only [gd, lt, jn, bd2, Option.bind_some, LY_si, LY_sl, LY_row, decide_true, decide_false, if_true, ite_true, ite_false, decide_eq_true_eq, yg61, yI61, yP61, yR61_1, yR61_2, yR61_12, yR61_13, yR61_17, yR61_18, yR61_21, yR61_22, yR61_23, yR61_25, yA62, yA63, yA64, yA65, yA66, yA67, yA68, yA69, yA70, yA71, yS62, yS63, yS64, yS65, yS66, yS67, yS68, yS69, yS70, yS71, it, hq, e_in_f hy3]
          rw [if_neg (by decide)]
    · rw [if_neg q] at wt hq
      refine ⟨-1, h, z_si h 61 0 0, ?_, ?_, I.m⟩
      · unfold f_X9_gap
        simp (disch := first | assumption | omega) only [gd, lt, jn, bd2, Option.bind_some, LY_si, LY_sl, LY_row, decide_true, decide_false, if_true, ite_true, ite_false, decide_eq_true_eq, yg0, yg1, yg2, yg4, yg13, yg21, yg29, yg35, yg36, yg45, yg50, yg59, yI0, yI1, yI2, yI4, yI13, yI21, yI29, yI35, yI36, yI45, yI50, yI59, yP0, yP1, yP2, yP4, yP13, yP21, yP29, yP35, yP36, yP45, yP50, yP59, yR0_0, yR0_1, yR0_2, yR0_3, yR0_4, yR1_0, yR1_1, yR1_2, yR1_3, yR1_4, yR1_5, yR2_0, yR4_4, yR4_5, yR4_6, yR4_7, yR4_8, yR4_9, yR4_10, yR4_11, yR13_1, yR13_2, yR13_3, yR13_4, yR13_5, yR13_6, yR13_7, yR21_1, yR21_2, yR21_3, yR21_4, yR21_5, yR21_6, yR21_7, yR29_0, yR29_1, yR29_2, yR35_0, yR35_1, yR35_2, yR35_3, yR35_4, yR36_4, yR36_5, yR36_6, yR36_7, yR36_8, yR36_9, yR36_10, yR36_11, yR45_0, yR50_0, yR50_1, yR50_2, yR50_3, yR50_4, yR50_5, yR50_6, yR50_7, yR59_1, yA3, yA5, yA6, yA7, yA8, yA9, yA10, yA11, yA12, yA14, yA15, yA16, yA17, yA18, yA19, yA20, yA22, yA23, yA24, yA25, yA26, yA27, yA28, yA30, yA31, yA32, yA33, yA37, yA38, yA39, yA40, yA41, yA42, yA43, yA44, yA46, yA47, yA48, yA49, yA51, yA52, yA53, yA54, yA55, yA56, yA57, yA58, yA60, yS3, yS5, yS6, yS7, yS8, yS9, yS10, yS11, yS12, yS14, yS15, yS16, yS17, yS18, yS19, yS20, yS22, yS23, yS24, yS25, yS26, yS27, yS28, yS30, yS31, yS32, yS33, yS37, yS38, yS39, yS40, yS41, yS42, yS43, yS44, yS46, yS47, yS48, yS49, yS51, yS52, yS53, yS54, yS55, yS56, yS57, yS58, yS60, wt]
      · unfold f_X10_gap
        simp (disch := first | assumption | omega) only [gd, lt, jn, bd2, Option.bind_some, LY_si, LY_sl, LY_row, decide_true, decide_false, if_true, ite_true, ite_false, decide_eq_true_eq, yg61, yI61, yP61, yR61_1, yR61_2, yR61_12, yR61_13, yR61_17, yR61_18, yR61_21, yR61_22, yR61_23, yR61_25, yA62, yA63, yA64, yA65, yA66, yA67, yA68, yA69, yA70, yA71, yS62, yS63, yS64, yS65, yS66, yS67, yS68, yS69, yS70, yS71, it, hq]
        rw [if_neg (by decide), if_neg (by decide)]
  · refine ⟨-1, h, z_si h 61 0 0, ?_, ?_, I.m⟩
    · unfold f_X9_gap
      simp (disch := first | assumption | omega) only [gd, lt, jn, bd2, Option.bind_some, LY_si, LY_sl, LY_row, decide_true, decide_false, if_true, ite_true, ite_false, decide_eq_true_eq, yg0, yg1, yg2, yg4, yg13, yg21, yg29, yg35, yg36, yg45, yg50, yg59, yI0, yI1, yI2, yI4, yI13, yI21, yI29, yI35, yI36, yI45, yI50, yI59, yP0, yP1, yP2, yP4, yP13, yP21, yP29, yP35, yP36, yP45, yP50, yP59, yR0_0, yR0_1, yR0_2, yR0_3, yR0_4, yR1_0, yR1_1, yR1_2, yR1_3, yR1_4, yR1_5, yR2_0, yR4_4, yR4_5, yR4_6, yR4_7, yR4_8, yR4_9, yR4_10, yR4_11, yR13_1, yR13_2, yR13_3, yR13_4, yR13_5, yR13_6, yR13_7, yR21_1, yR21_2, yR21_3, yR21_4, yR21_5, yR21_6, yR21_7, yR29_0, yR29_1, yR29_2, yR35_0, yR35_1, yR35_2, yR35_3, yR35_4, yR36_4, yR36_5, yR36_6, yR36_7, yR36_8, yR36_9, yR36_10, yR36_11, yR45_0, yR50_0, yR50_1, yR50_2, yR50_3, yR50_4, yR50_5, yR50_6, yR50_7, yR59_1, yA3, yA5, yA6, yA7, yA8, yA9, yA10, yA11, yA12, yA14, yA15, yA16, yA17, yA18, yA19, yA20, yA22, yA23, yA24, yA25, yA26, yA27, yA28, yA30, yA31, yA32, yA33, yA37, yA38, yA39, yA40, yA41, yA42, yA43, yA44, yA46, yA47, yA48, yA49, yA51, yA52, yA53, yA54, yA55, yA56, yA57, yA58, yA60, yS3, yS5, yS6, yS7, yS8, yS9, yS10, yS11, yS12, yS14, yS15, yS16, yS17, yS18, yS19, yS20, yS22, yS23, yS24, yS25, yS26, yS27, yS28, yS30, yS31, yS32, yS33, yS37, yS38, yS39, yS40, yS41, yS42, yS43, yS44, yS46, yS47, yS48, yS49, yS51, yS52, yS53, yS54, yS55, yS56, yS57, yS58, yS60, c_works_f C hx]
    · unfold f_X10_gap
      simp (disch := first | assumption | omega) only [gd, lt, jn, bd2, Option.bind_some, LY_si, LY_sl, LY_row, decide_true, decide_false, if_true, ite_true, ite_false, decide_eq_true_eq, yg61, yI61, yP61, yR61_1, yR61_2, yR61_12, yR61_13, yR61_17, yR61_18, yR61_21, yR61_22, yR61_23, yR61_25, yA62, yA63, yA64, yA65, yA66, yA67, yA68, yA69, yA70, yA71, yS62, yS63, yS64, yS65, yS66, yS67, yS68, yS69, yS70, yS71, e_isS_f (h := z_si h 61 0 0) H1 hN1 (by rw [e1]; exact hx)]
