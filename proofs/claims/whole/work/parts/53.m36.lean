theorem RC12 {c c' : Nat → Nat → Int32} {A T : Nat → Int32} (h : ∀ o, o ≠ 11 → c o = c' o) (R : RS c A T) : RS c' A T := ⟨R.1, RC_congr (fun o h1 _ => (h o h1).symm) R.2⟩
theorem slC_lo {A : Nat → Int32} {s v mo k j : Nat} (hj : j < 147) : slC A s v mo k j = slB A s v mo j := jL_lo hj k
theorem c_sell {h : Z_H} {A T : Nat → Int32} {s v mo : Nat} (H : LY h) (R : RS (cl h) A T) (hK : nk A < 40) (hs : s < nn A) (hq : A (147 + 94 * s + 1) = -1) (hv : 1 ≤ v ∧ v ≤ 9999) (hj : jo A s ≤ mo) (hmo : mo ≤ nwN A) (hmo2 : nwN A ≤ mo + 2) : ∃ h1, f_X9_sell h 0 (nI s) (nI v) (nI mo) = some (nI (nk A), h1) ∧ z_n h1 = z_n h ∧ z_t h1 = z_t h ∧ z_x h1 = z_x h ∧ (∀ a, 61 ≤ a → z_i h1 a = z_i h a) ∧ RS (cl h1) (slC A s v mo (slP A s v mo).1) T := by
  have C : CA h A := RS.ca H R
  have hV := R.1
  have hN := hV.1
  have h10 := hN.2.1
  obtain ⟨ek, h40⟩ := C.k
  obtain ⟨en, h99⟩ := C.now
  have L := sl_lk (v := v) R hK hs (show mo ≤ 99 by omega)
  obtain ⟨p, f1, f2, f3, f4⟩ := sl_facts L hN hs hv.2 (show mo ≤ 99 by omega)
  obtain ⟨n1, n2, n3⟩ := slB_ns f1
  have enn : nn (slA A s v mo) = nn A := slA_ns.lo.n.1
  let g16 := ad7 h (nk A) (nI s) (nI v) (nI mo) (nI (nwN A))
  have G16 : LY g16 := H
  obtain ⟨g19, p1, p2, p3, p4⟩ := c_look (h := g16) G16 (show mo ≤ 99 by omega) L
  have G19 := p2.ly G16
  have hO : SOK (sc0 (slA A s v mo) mo) := L.ok (show mo ≤ 99 by omega)
  obtain ⟨g23, u1, u2, u3, u4, u5⟩ := c_payUp (am := nI v) (s := s) G19 (p2.lk L) hO p3 p4 (show s < nn (slA A s v mo) by omega) (fun k u _ e => hO.2.1.lt (show s < nn (slA A s v mo) by omega) e)
  have G23 := u2.ly G19
  have u4 : z_i g23 59 0 = nI (slP A s v mo).1 := u4
  have u5 : ∀ i, i < 7 * (slP A s v mo).1 → z_i g23 60 i = (slP A s v mo).2.2 i := u5
  have kp := c_keep G23 hK f1 u4
  let g25 := z_row (z_si g23 27 (nk A) (nI (slP A s v mo).1)) 28 (va_cpy (z_i g23 60) (z_i g23 28) 0 (nk A * 35) (7 * (slP A s v mo).1))
  have G25 : LY g25 := G23
  have o23 : ∀ a, a ≠ 12 → (a < 50 ∨ 60 < a) → z_i g23 a = z_i g16 a := fun a h1 h2 => by
    rw [u2.2.2.2 a h1 (by omega) (by omega), p2.2.2.2 a (by omega)]
  have o25 : ∀ a, a ≠ 12 → (a < 21 ∨ (27 < a ∧ a ≠ 28 ∧ a < 50) ∨ 60 < a) → z_i g25 a = z_i h a := fun a h1 h2 => by
    show z_i (z_row (z_si g23 27 (nk A) (nI (slP A s v mo).1)) 28 _) a = _
    rw [z_row_o (by omega), z_si_o (by omega), o23 a h1 (by omega)]
    exact ad7_o (by omega)
  have R25 : RS (cl g25) (slB A s v mo) T := by
    refine RC12 (c := fun o => if o = 11 then cl h 11 else cl g25 o) (fun o h1 => if_neg h1) ?_
    refine n1.rs (F := (slP A s v mo).2.2) (uu := slW A s v mo) (p := p) (n := (slP A s v mo).1) R hK hs hj hmo hmo2 hv f1 n2 n3 f2 f3 f4 (fun o h1 h2 => ?_) ?_ (fun f hf => ?_) ?_ (fun j => ?_)
    · by_cases e : o = 11
      · rw [e]
        rfl
      · show (if o = 11 then cl h 11 else cl g25 o) = cl h o
        rw [if_neg e]
        exact o25 (1 + o) (by omega) (by omega)
    · show z_i g25 21 0 = _
      show z_i (z_row (z_si g23 27 (nk A) (nI (slP A s v mo).1)) 28 _) 21 0 = _
      rw [z_row_o (by omega), z_si_o (by omega), o23 21 (by omega) (by omega)]
      rfl
    · show (if 21 + f = 11 then cl h 11 else cl g25 (21 + f)) = _
      rw [if_neg (by omega)]
      have e1 : cl g25 (21 + f) = cl g16 (21 + f) := by
        show z_i (z_row (z_si g23 27 (nk A) (nI (slP A s v mo).1)) 28 _) (1 + (21 + f)) = z_i g16 (1 + (21 + f))
        rw [z_row_o (by omega), z_si_o (by omega), o23 _ (by omega) (by omega)]
      rw [e1, ad7_cl f hf]
      congr 1
      have lo : slB A s v mo (1087 + 41 * nk A + f) = slA A s v mo (1087 + 41 * nk A + f) := by
        unfold slB slK
        rw [if_neg (by omega), upd_o (by omega)]
      exact lo.symm
    · show z_i g25 27 = upd (z_i h 27) (nk A) (nI (slP A s v mo).1)
      show z_i (z_row (z_si g23 27 (nk A) (nI (slP A s v mo).1)) 28 _) 27 = _
      rw [z_row_o (by omega), z_si_i, o23 27 (by omega) (by omega), ad7_26]
      funext j
      unfold upd
      split <;> rfl
    · show z_i g25 28 j = if nk A * 35 ≤ j ∧ j < nk A * 35 + 7 * (slP A s v mo).1 then (slP A s v mo).2.2 (j - nk A * 35) else z_i h 28 j
      show z_i (z_row (z_si g23 27 (nk A) (nI (slP A s v mo).1)) 28 _) 28 j = _
      rw [z_row_i]
      unfold va_cpy
      by_cases c : nk A * 35 ≤ j ∧ j < nk A * 35 + 7 * (slP A s v mo).1
      · rw [if_pos c, if_pos c, u5 _ (by omega), Nat.zero_add]
      · rw [if_neg c, if_neg c, o23 28 (by omega) (by omega)]
        exact congrFun (ad7_o (by omega)) j
  have hw10 : ∀ l, l < (slP A s v mo).1 → slW A s v mo l < 10 := fun l hl => by have := (f2 l hl).1; omega
  have ft : ∀ q : Z_H, LY q → (∀ a, a ≠ 30 → a ≠ 31 → a ≠ 32 → z_i q a = z_i g25 a) → ∀ l f, l < (slP A s v mo).1 → f < 7 → f_X2_fact q 59 (nI (l + 1)) (nI f) = some ((slP A s v mo).2.2 (7 * l + f)) := fun q Q hq l f hl hf => by
    unfold f_X2_fact
    rw [nI_p1, n_7, nI_mul, nI_add, Nat.mul_comm l 7]
    simp (disch := first | assumption | omega) only [gd, lt, jn, bd2, Option.bind_some, LY_si, LY_sl, LY_row, decide_true, decide_false, if_true, ite_true, ite_false, decide_eq_true_eq, yg0, yg1, yg2, yg4, yg13, yg21, yg29, yg35, yg36, yg45, yg50, yg59, yI0, yI1, yI2, yI4, yI13, yI21, yI29, yI35, yI36, yI45, yI50, yI59, yP0, yP1, yP2, yP4, yP13, yP21, yP29, yP35, yP36, yP45, yP50, yP59, yR0_0, yR0_1, yR0_2, yR0_3, yR0_4, yR1_0, yR1_1, yR1_2, yR1_3, yR1_4, yR1_5, yR2_0, yR4_4, yR4_5, yR4_6, yR4_7, yR4_8, yR4_9, yR4_10, yR4_11, yR13_1, yR13_2, yR13_3, yR13_4, yR13_5, yR13_6, yR13_7, yR21_1, yR21_2, yR21_3, yR21_4, yR21_5, yR21_6, yR21_7, yR29_0, yR29_1, yR29_2, yR35_0, yR35_1, yR35_2, yR35_3, yR35_4, yR36_4, yR36_5, yR36_6, yR36_7, yR36_8, yR36_9, yR36_10, yR36_11, yR45_0, yR50_0, yR50_1, yR50_2, yR50_3, yR50_4, yR50_5, yR50_6, yR50_7, yR59_1, yA3, yA5, yA6, yA7, yA8, yA9, yA10, yA11, yA12, yA14, yA15, yA16, yA17, yA18, yA19, yA20, yA22, yA23, yA24, yA25, yA26, yA27, yA28, yA30, yA31, yA32, yA33, yA37, yA38, yA39, yA40, yA41, yA42, yA43, yA44, yA46, yA47, yA48, yA49, yA51, yA52, yA53, yA54, yA55, yA56, yA57, yA58, yA60, yS3, yS5, yS6, yS7, yS8, yS9, yS10, yS11, yS12, yS14, yS15, yS16, yS17, yS18, yS19, yS20, yS22, yS23, yS24, yS25, yS26, yS27, yS28, yS30, yS31, yS32, yS33, yS37, yS38, yS39, yS40, yS41, yS42, yS43, yS44, yS46, yS47, yS48, yS49, yS51, yS52, yS53, yS54, yS55, yS56, yS57, yS58, yS60]
    rw [hq 60 (by omega) (by omega) (by omega), show z_i g25 60 = z_i g23 60 from by
      show z_i (z_row (z_si g23 27 (nk A) (nI (slP A s v mo).1)) 28 _) 60 = _
      rw [z_row_o (by omega), z_si_o (by omega)], u5 _ (by omega)]
  have tk : ∀ q : Z_H, (∀ a, a ≠ 30 → a ≠ 31 → a ≠ 32 → z_i q a = z_i g25 a) → z_i q 59 0 = nI (slP A s v mo).1 := fun q hq => by
    rw [hq 59 (by omega) (by omega) (by omega), show z_i g25 59 = z_i g23 59 from by
      show z_i (z_row (z_si g23 27 (nk A) (nI (slP A s v mo).1)) 28 _) 59 = _
      rw [z_row_o (by omega), z_si_o (by omega)], u4]
  have kc := lp_ex (b := f_X9_sell_l1 0 (nI (nk A))) (fun k (q : Z_H) => (nI (k + 1), q)) (fun k q => LY q ∧ RS (cl q) (slC A s v mo k) T ∧ z_n q = z_n g25 ∧ z_t q = z_t g25 ∧ z_x q = z_x g25 ∧ ∀ a, a ≠ 30 → a ≠ 31 → a ≠ 32 → z_i q a = z_i g25 a) some (slP A s v mo).1 ?_ ?_ (slP A s v mo).1 FU 0 g25 (by omega) (by unfold FU; omega) ⟨G25, R25, rfl, rfl, rfl, fun _ _ _ _ => rfl⟩
  · obtain ⟨g, ⟨Gg, Rg, g1, g2, g3, g4⟩, kc⟩ := kc
    have kc' : lp (f_X9_sell_l1 0 (nI (nk A))) FU (1, g25) = some g := kc
    refine ⟨g, ?_, g1.trans (u2.1.trans p2.1), g2.trans (u2.2.1.trans p2.2.1), g3.trans (u2.2.2.1.trans p2.2.2.1), fun a ha => ?_, Rg⟩
    · have cs := c_canSell_t C hs (y := nI v)
      have hcs : csS A s (nI v) = true := decide_eq_true ⟨hq, nI_le (a := 1) hv.1 (by omega), nI_le (b := 9999) hv.2 (by omega)⟩
      rw [hcs] at cs
      have cs : f_X9_canSell h 0 (nI s) (nI v) = some 1 := cs
      have ej : z_i h 14 s = nI (jo A s) := (R.2.1.2.2 s hs).1.trans (hV.2.1 s hs).1
      have x2 : ¬ nI mo < nI (nwN A) - 2 := by
        by_cases c : 2 ≤ nwN A
        · rw [n_2, nI_sub c]
          exact nI_nlt (by omega) (by omega)
        · have : nI (nwN A) - 2 < 0 := by
            have : nwN A = 0 ∨ nwN A = 1 := by omega
            rcases this with e | e <;> rw [e] <;> decide
          exact fun q => nI_pos (by omega : mo < 2 ^ 31) (Int32.lt_trans q this)
      unfold f_X9_sell
      refine gdE (yg0 H) ?_
      refine bnd (yR0_0 H) ?_
      refine bnd (yR1_3 H) ?_
      refine bnd cs ?_
      refine (if_neg (show ¬ (1 : Int32) = 0 by decide)).trans ?_
      refine bnd ((yI21 H 0).trans (congrArg some ek)) ?_
      refine (if_pos (show nI (nk A) < (40 : Int32) from nI_lt (b := 40) hK (by omega))).trans ?_
      refine bnd (yR0_0 H) ?_
      refine bnd ((yI1 H 8).trans (congrArg some en)) ?_
      refine (if_neg x2).trans ?_
      refine bnd (yR0_0 H) ?_
      refine bnd ((yI1 H 8).trans (congrArg some en)) ?_
      refine (if_neg (nI_nlt hmo (by omega))).trans ?_
      refine bnd (yR0_0 H) ?_
      refine bnd (yR1_2 H) ?_
      refine bnd (yR13_1 H) ?_
      refine bnd ((yA14 H (show s < 10 by omega)).trans (congrArg some ej)) ?_
      refine (if_pos (nI_le hj (by omega))).trans ?_
      refine bnd (yR0_0 H) ?_
      refine bnd ((yI1 H 8).trans (congrArg some en)) ?_
      refine bd2E (c_add H hK ek) ?_
      refine bnd (yR0_3 G16) ?_
      refine bnd (yR0_0 G16) ?_
      refine bnd p1 ?_
      refine bnd (yR0_4 G19) ?_
      refine bnd (yR0_0 G19) ?_
      refine bnd (yR0_3 G19) ?_
      refine bnd u1 ?_
      refine bnd (yR0_4 G23) ?_
      refine bnd kp ?_
      refine bnd kc' ?_
      rfl
    · rw [g4 a (by omega) (by omega) (by omega)]
      exact o25 a (by omega) (by omega)
  · rintro k q hk ⟨e1, e2, e3, e4, e5, e6⟩
    have w10 := hw10 k hk
    obtain ⟨a1, a2, a3⟩ := f2 k hk
    have fa := ft q e1 e6 k 0 hk (by omega)
    rw [a2] at fa
    have fb := ft q e1 e6 k 2 hk (by omega)
    have fa : f_X2_fact q 59 (nI (k + 1)) 0 = some (nI (slW A s v mo k)) := fa
    have fb : f_X2_fact q 59 (nI (k + 1)) 2 = some (slT A s v mo k) := fb
    have tq := tk q e6
    have now8 : z_i q 1 8 = nI (nwN A) := by
      rw [e6 1 (by omega) (by omega) (by omega), o25 1 (by omega) (by omega)]
      exact en
    have enk : nn (slC A s v mo k) = nn A := by
      unfold nn
      rw [slC_lo (by omega), n1.1 145 (by omega) (by omega)]
    have ex : ∀ g, f_X7_note q 1 (nI (slW A s v mo k)) 0 (slT A s v mo k) (nI (nk A)) = some g → ∀ rec, f_X9_sell_l1 0 (nI (nk A)) rec (nI (k + 1), q) = rec (nI (k + 1 + 1), g) := by
      intro g hg rec
      unfold f_X9_sell_l1
      refine bnd (yR0_4 e1) ?_
      refine bnd ((yI59 e1 0).trans (congrArg some tq)) ?_
      refine (if_neg (nI_nlt (by omega) (by omega))).trans ?_
      refine bnd (yR0_0 e1) ?_
      refine bnd (yR0_4 e1) ?_
      refine bnd fa ?_
      refine bnd (yR0_4 e1) ?_
      refine bnd fb ?_
      refine bnd hg ?_
      rw [nI_1]
    by_cases ht : slT A s v mo k ≤ 0
    · have nt : f_X7_note q 1 (nI (slW A s v mo k)) 0 (slT A s v mo k) (nI (nk A)) = some q := by
        unfold f_X7_note
        simp (disch := first | assumption | omega) only [gd, lt, jn, bd2, Option.bind_some, LY_si, LY_sl, LY_row, decide_true, decide_false, if_true, ite_true, ite_false, decide_eq_true_eq, yg0, yg1, yg2, yg4, yg13, yg21, yg29, yg35, yg36, yg45, yg50, yg59, yI0, yI1, yI2, yI4, yI13, yI21, yI29, yI35, yI36, yI45, yI50, yI59, yP0, yP1, yP2, yP4, yP13, yP21, yP29, yP35, yP36, yP45, yP50, yP59, yR0_0, yR0_1, yR0_2, yR0_3, yR0_4, yR1_0, yR1_1, yR1_2, yR1_3, yR1_4, yR1_5, yR2_0, yR4_4, yR4_5, yR4_6, yR4_7, yR4_8, yR4_9, yR4_10, yR4_11, yR13_1, yR13_2, yR13_3, yR13_4, yR13_5, yR13_6, yR13_7, yR21_1, yR21_2, yR21_3, yR21_4, yR21_5, yR21_6, yR21_7, yR29_0, yR29_1, yR29_2, yR35_0, yR35_1, yR35_2, yR35_3, yR35_4, yR36_4, yR36_5, yR36_6, yR36_7, yR36_8, yR36_9, yR36_10, yR36_11, yR45_0, yR50_0, yR50_1, yR50_2, yR50_3, yR50_4, yR50_5, yR50_6, yR50_7, yR59_1, yA3, yA5, yA6, yA7, yA8, yA9, yA10, yA11, yA12, yA14, yA15, yA16, yA17, yA18, yA19, yA20, yA22, yA23, yA24, yA25, yA26, yA27, yA28, yA30, yA31, yA32, yA33, yA37, yA38, yA39, yA40, yA41, yA42, yA43, yA44, yA46, yA47, yA48, yA49, yA51, yA52, yA53, yA54, yA55, yA56, yA57, yA58, yA60, yS3, yS5, yS6, yS7, yS8, yS9, yS10, yS11, yS12, yS14, yS15, yS16, yS17, yS18, yS19, yS20, yS22, yS23, yS24, yS25, yS26, yS27, yS28, yS30, yS31, yS32, yS33, yS37, yS38, yS39, yS40, yS41, yS42, yS43, yS44, yS46, yS47, yS48, yS49, yS51, yS52, yS53, yS54, yS55, yS56, yS57, yS58, yS60]
        rw [if_pos ht]
      refine ⟨q, ⟨e1, ?_, e3, e4, e5, e6⟩, fun rec => ex q nt rec⟩
      unfold slC jL
      rw [if_pos ht]
      exact e2
    · obtain ⟨g, x1, x2, x3, x4, x5, x6⟩ := c_line (s := slW A s v mo k) (w := 0) (m := nI (nwN A)) (mu := slT A s v mo k) (sa := nI (nk A)) e1 e2 (by rw [enk]; exact a1)
      have nt : f_X7_note q 1 (nI (slW A s v mo k)) 0 (slT A s v mo k) (nI (nk A)) = some g := by
        unfold f_X7_note
        simp (disch := first | assumption | omega) only [gd, lt, jn, bd2, Option.bind_some, LY_si, LY_sl, LY_row, decide_true, decide_false, if_true, ite_true, ite_false, decide_eq_true_eq, yg0, yg1, yg2, yg4, yg13, yg21, yg29, yg35, yg36, yg45, yg50, yg59, yI0, yI1, yI2, yI4, yI13, yI21, yI29, yI35, yI36, yI45, yI50, yI59, yP0, yP1, yP2, yP4, yP13, yP21, yP29, yP35, yP36, yP45, yP50, yP59, yR0_0, yR0_1, yR0_2, yR0_3, yR0_4, yR1_0, yR1_1, yR1_2, yR1_3, yR1_4, yR1_5, yR2_0, yR4_4, yR4_5, yR4_6, yR4_7, yR4_8, yR4_9, yR4_10, yR4_11, yR13_1, yR13_2, yR13_3, yR13_4, yR13_5, yR13_6, yR13_7, yR21_1, yR21_2, yR21_3, yR21_4, yR21_5, yR21_6, yR21_7, yR29_0, yR29_1, yR29_2, yR35_0, yR35_1, yR35_2, yR35_3, yR35_4, yR36_4, yR36_5, yR36_6, yR36_7, yR36_8, yR36_9, yR36_10, yR36_11, yR45_0, yR50_0, yR50_1, yR50_2, yR50_3, yR50_4, yR50_5, yR50_6, yR50_7, yR59_1, yA3, yA5, yA6, yA7, yA8, yA9, yA10, yA11, yA12, yA14, yA15, yA16, yA17, yA18, yA19, yA20, yA22, yA23, yA24, yA25, yA26, yA27, yA28, yA30, yA31, yA32, yA33, yA37, yA38, yA39, yA40, yA41, yA42, yA43, yA44, yA46, yA47, yA48, yA49, yA51, yA52, yA53, yA54, yA55, yA56, yA57, yA58, yA60, yS3, yS5, yS6, yS7, yS8, yS9, yS10, yS11, yS12, yS14, yS15, yS16, yS17, yS18, yS19, yS20, yS22, yS23, yS24, yS25, yS26, yS27, yS28, yS30, yS31, yS32, yS33, yS37, yS38, yS39, yS40, yS41, yS42, yS43, yS44, yS46, yS47, yS48, yS49, yS51, yS52, yS53, yS54, yS55, yS56, yS57, yS58, yS60, now8, x1]
        rw [if_neg ht]
      refine ⟨g, ⟨LY_x x2 x4 e1, ?_, x2.trans e3, x3.trans e4, x4.trans e5, fun a h1 h2 h3 => (x5 a h1 h2 h3).trans (e6 a h1 h2 h3)⟩, fun rec => ex g nt rec⟩
      unfold slC jL
      rw [if_neg ht]
      exact x6
  · rintro rec q ⟨e1, e2, e3, e4, e5, e6⟩
    have tq := tk q e6
    unfold f_X9_sell_l1
    refine bnd (yR0_4 e1) ?_
    refine bnd ((yI59 e1 0).trans (congrArg some tq)) ?_
    exact if_pos (nI_lt (by omega) (by omega))
