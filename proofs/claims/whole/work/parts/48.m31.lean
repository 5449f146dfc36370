def fw (b : Option Nat) : Int32 := match b with
  | none => 11
  | some b => nI (cn b.testBit 11)
def b10 (b : Option Nat) : Prop := ∀ v, b = some v → v < 1024
theorem lfG_10 {A : Nat → Int32} {S : Sn} {s r v : Nat} {b : Option Nat} (hb : b10 b) (hv : v < 1024) : b10 (lfG A S s r v b) := by
  unfold lfG
  cases (sbS (may A S s) S.1 v && lfC v b) && lfB A S s r v with
  | false => exact hb
  | true =>
    intro w e
    have e : some v = some w := e
    injection e with e
    omega
theorem lfG_n {A : Nat → Int32} {S : Sn} {s r v : Nat} {b : Option Nat} (h : sbS (may A S s) S.1 v = false) : lfG A S s r v b = b := by
  unfold lfG
  rw [h]
  rfl
theorem lfG_c {A : Nat → Int32} {S : Sn} {s r v : Nat} {b : Option Nat} (h : lfC v b = false) : lfG A S s r v b = b := by
  unfold lfG
  rw [h, Bool.and_false]
  rfl
theorem lfG_f {A : Nat → Int32} {S : Sn} {s r v : Nat} {b : Option Nat} (h : lfB A S s r v = false) : lfG A S s r v b = b := by
  unfold lfG
  rw [h, Bool.and_false]
  rfl
theorem lfG_t {A : Nat → Int32} {S : Sn} {s r v : Nat} {b : Option Nat} (h1 : sbS (may A S s) S.1 v = true) (h2 : lfC v b = true) (h3 : lfB A S s r v = true) : lfG A S s r v b = some v := by
  unfold lfG
  rw [h1, h2, h3]
  rfl
theorem fw_C {b : Option Nat} {k : Nat} (hb : b10 b) (hk : k < 1024) : (fw b ≤ nI (cn k.testBit 11) ∧ lfC k b = false) ∨ (¬ fw b ≤ nI (cn k.testBit 11) ∧ lfC k b = true) := by
  have c10 := cn_10 hk
  cases b with
  | none => exact Or.inr ⟨nI_ge (b := 11) (by omega) (by omega), rfl⟩
  | some b =>
    have c11 := cn_10 (hb b rfl)
    by_cases cc : cn k.testBit 11 < cn b.testBit 11
    · exact Or.inr ⟨nI_ge cc (by omega), decide_eq_true cc⟩
    · exact Or.inl ⟨nI_le (by omega) (by omega), decide_eq_false cc⟩
theorem c_leastLift {h : Z_H} (H : LY h) {A : Nat → Int32} {m s r : Nat} (hA : CA h A) (pl5 : ∀ k, k < 4 → z_i h 5 k = A (7 + k)) (pl6 : ∀ k, k < 4 → z_i h 6 k = A (11 + k)) (pl4 : z_i h 4 0 = A 3) (hL : Lay h (sc0 A m) m) (hS : Scn h A (sc0 A m)) (hs : s < nn A) (hr : r < 4) : f_X9_leastLift h 0 (nI s) (nI r) = some (pe (itf (lfG A (sc0 A m) s r) 0 1024 none)) ∧ b10 (itf (lfG A (sc0 A m) s r) 0 1024 none) := by
  obtain ⟨en, h10⟩ := hA.n
  have hs1 : s < (sc0 A m).1 := hs
  obtain ⟨-, g2, -, -, -⟩ := hS.2 s hs1
  have g2 : z_i h 55 s = nI (bsN (inB (sc0 A m) s) (nn A)) := g2
  have g9 : z_i h 50 9 = nI (bsN (inA (sc0 A m) (A 3)) (nn A)) := hS.1
  have g10 : z_i h 50 10 = nI (bsN (sG (sc0 A m)) (nn A)) := hL.2.2.2.1
  have ei : ((nI (bsN (inB (sc0 A m) s) (nn A)) &&& (nI (bsN (inA (sc0 A m) (A 3)) (nn A)) ^^^ (-1))) &&& (nI (bsN (sG (sc0 A m)) (nn A)) ^^^ (-1))) &&& (((1 : Int32) <<< (nI s &&& 31)) ^^^ (-1)) = nI (bsN (may A (sc0 A m) s) (nn A)) := by
    rw [bs_andn, bs_andn, nI_shl s (by omega), bs_two hs, bs_andn]
    rfl
  have inv : ∀ n, n ≤ 1024 → b10 (itf (lfG A (sc0 A m) s r) 0 n none) := fun n hn => itf_inv (P := fun _ b => b10 b) n 0 none (fun v e => by cases e) (fun k b h1 h2 hb => lfG_10 hb (by omega))
  have key := lp_for (b := f_X9_leastLift_l1 0 (nI s) (nI r) h (nI (bsN (may A (sc0 A m) s) (nn A)))) (fun k b => (pe b, fw b, nI k)) (fun _ b => b10 b) (lfG A (sc0 A m) s r) (fun b => some (pe b)) 1024 ?_ (fun k b hk hb => lfG_10 hb hk) ?_ 1024 FU 0 none (by omega) (by unfold FU; omega) (fun v e => by cases e)
  · refine ⟨?_, inv 1024 (Nat.le_refl _)⟩
    have key' : lp (f_X9_leastLift_l1 0 (nI s) (nI r) h (nI (bsN (may A (sc0 A m) s) (nn A)))) FU (-1, 11, 0) = _ := key
    unfold f_X9_leastLift
    simp (disch := first | assumption | omega) only [gd, lt, jn, bd2, Option.bind_some, LY_si, LY_sl, LY_row, decide_true, decide_false, if_true, ite_true, ite_false, decide_eq_true_eq, yg0, yg1, yg2, yg4, yg13, yg21, yg29, yg35, yg36, yg45, yg50, yg59, yI0, yI1, yI2, yI4, yI13, yI21, yI29, yI35, yI36, yI45, yI50, yI59, yP0, yP1, yP2, yP4, yP13, yP21, yP29, yP35, yP36, yP45, yP50, yP59, yR0_0, yR0_1, yR0_2, yR0_3, yR0_4, yR1_0, yR1_1, yR1_2, yR1_3, yR1_4, yR1_5, yR2_0, yR4_4, yR4_5, yR4_6, yR4_7, yR4_8, yR4_9, yR4_10, yR4_11, yR13_1, yR13_2, yR13_3, yR13_4, yR13_5, yR13_6, yR13_7, yR21_1, yR21_2, yR21_3, yR21_4, yR21_5, yR21_6, yR21_7, yR29_0, yR29_1, yR29_2, yR35_0, yR35_1, yR35_2, yR35_3, yR35_4, yR36_4, yR36_5, yR36_6, yR36_7, yR36_8, yR36_9, yR36_10, yR36_11, yR45_0, yR50_0, yR50_1, yR50_2, yR50_3, yR50_4, yR50_5, yR50_6, yR50_7, yR59_1, yA3, yA5, yA6, yA7, yA8, yA9, yA10, yA11, yA12, yA14, yA15, yA16, yA17, yA18, yA19, yA20, yA22, yA23, yA24, yA25, yA26, yA27, yA28, yA30, yA31, yA32, yA33, yA37, yA38, yA39, yA40, yA41, yA42, yA43, yA44, yA46, yA47, yA48, yA49, yA51, yA52, yA53, yA54, yA55, yA56, yA57, yA58, yA60, yS3, yS5, yS6, yS7, yS8, yS9, yS10, yS11, yS12, yS14, yS15, yS16, yS17, yS18, yS19, yS20, yS22, yS23, yS24, yS25, yS26, yS27, yS28, yS30, yS31, yS32, yS33, yS37, yS38, yS39, yS40, yS41, yS42, yS43, yS44, yS46, yS47, yS48, yS49, yS51, yS52, yS53, yS54, yS55, yS56, yS57, yS58, yS60, g2, g9, g10, ei, key']
  · intro rec k b hk hb
    have sc := sb_c (r := may A (sc0 A m) s) (n := nn A) (v := k) (by omega) (by omega)
    have cb := c_bits (h := h) (v := k) (by omega)
    have cl_ := c_lifts (r := r) H hA pl5 pl6 pl4 hL hS hs hk hr
    unfold f_X9_leastLift_l1
    dsimp only [jn]
    rw [if_neg (show ¬ (1024 : Int32) ≤ nI k from nI_ge (b := 1024) hk (by omega)), nI_1]
    by_cases hsb : sbS (may A (sc0 A m) s) (nn A) k = true
    · rw [if_pos (sc.mpr hsb)]
      rcases fw_C hb hk with ⟨c1, c2⟩ | ⟨c1, c2⟩
      · refine bnd cb ?_
        refine (if_pos c1).trans ?_
        rw [lfG_c c2]
      · refine bnd cb ?_
        refine (if_neg c1).trans ?_
        cases hB : lfB A (sc0 A m) s r k with
        | false =>
          rw [hB] at cl_
          have cl_ : f_X9_lifts h 0 (nI s) (nI r) (nI k) = some 0 := cl_
          refine bnd cl_ ?_
          refine (if_pos rfl).trans ?_
          rw [lfG_f hB]
        | true =>
          rw [hB] at cl_
          have cl_ : f_X9_lifts h 0 (nI s) (nI r) (nI k) = some 1 := cl_
          refine bnd cl_ ?_
          refine (if_neg (show ¬ (1 : Int32) = 0 by decide)).trans ?_
          refine bnd cb ?_
          rw [lfG_t hsb c2 hB]
          rfl
    · rw [if_neg (fun q => hsb (sc.mp q)), lfG_n (Bool.eq_false_iff.mpr hsb)]
  · intro rec b _
    unfold f_X9_leastLift_l1
    dsimp only
    rw [if_pos (by decide)]
theorem qt_now {A : Nat → Int32} (hN : VN A) {t : Nat} (hC : VC A t) : gnS A (nwN A) t = decide (¬ A (147 + 94 * t + 1) = -1) := by
  unfold gnS
  have := hN.2.2.2.1
  rcases hC.2.2.1 with e | ⟨q, h1, h2, e⟩
  · rw [e]
    simp
  · rw [e]
    have h3 : ¬ nI q = -1 := nI_m1 (by omega)
    have h4 : nI q ≤ nI (nwN A) := nI_le h2 (by omega)
    simp [h3, h4]
theorem op_lift {h : Z_H} (I : Inv h) {x y z : Int32} : ∃ r h1 h2, f_X9_lift h 0 x y z = some (r, h1) ∧ f_X10_lift h1 61 x y z = some (r, h2) ∧ Inv h2 := by
  have H := I.1
  have C := I.ca
  have hv := I.v
  have L : LK (cl h) (z_i h 62) := I.2.1.lk
  have Iq : ∀ g, QS h g → CA g (z_i h 62) := fun g q => by
    have := (q.inv I).ca
    rw [q.a] at this
    exact this
  generalize eA : z_i h 62 = A at *
  have hN := hv.1
  have h10 := hN.2.1
  have hP := hv.2.2.2.1
  obtain ⟨en, h99⟩ := C.now
  have e144 : A 144 = nI (nwN A) := hN.2.2.2.2
  have H1 : LY (z_si h 61 0 0) := H
  have e1 : z_i (z_si h 61 0 0) 62 = A := by rw [m62, eA]
  have hN1 : VN (z_i (z_si h 61 0 0) 62) := by rw [e1]; exact hN
  rcases nI_or (x := x) (n := nn A) (by omega) with ⟨s, hs, rfl⟩ | ⟨-, hx⟩
  · have wt := c_has_t C hs
    have it := e_isS_t (h := z_si h 61 0 0) (s := s) H1 hN1 (by rw [e1]; exact hs)
    by_cases hy : (1 : Int32) ≤ y ∧ y ≤ 3
    · obtain ⟨r, hr, rfl⟩ := nI_of2 (x := y) (M := 3) (n := 3) rfl (Int32.not_lt.mpr (Int32.le_trans (show (0 : Int32) ≤ 1 by decide) hy.1)) hy.2
      obtain ⟨g8, p1, p2, p3, p4⟩ := c_look H h99 L
      have G8 := p2.ly H
      have hO : SOK (sc0 A (nwN A)) := L.ok h99
      have h11 := hO.1
      have Im := (p2.qs.inv I).m
      have e8 : z_i (z_si g8 61 0 0) 62 = A := by rw [m62, p2.qs.a, eA]
      obtain ⟨k1, k2, b1, b2, b3, b4, b5, b6, b7⟩ := e_scene2 (h := z_si g8 61 0 0) Im.1 e8 L Im.2.2.1 h99
      have K1 := b2.ly Im.1
      have K2 := b4.ly K1
      have d1 : z_i k1 62 = A := b2.a.trans e8
      have d2 : z_i k2 62 = A := b4.a.trans d1
      have pl := (p2.lk L).pl
      obtain ⟨ll, l10⟩ := c_leastLift (s := s) (r := r) G8 (Iq g8 p2.qs) pl.1 pl.2.1 pl.2.2.2.1 p3 p4 hs (by omega)
      have e19 : z_i k2 61 19 = nI (nn A) := b7.1.1
      have n3 : z_i k2 62 144 = nI (nwN A) := by rw [d2]; exact e144
      have bl := e_belowOf (t := s) K2 b7 hO (by omega)
      let cd : Nat → Bool := fun t => decide (t = s) || (decide (¬ A (147 + 94 * t + 1) = -1) || (!sG (sc0 A (nwN A)) t && decide (A 3 ≤ sO (sc0 A (nwN A)) t)))
      let mk : Nat → Nat → Bool := fun k t => inB (sc0 A (nwN A)) s t && !(decide (t < k) && cd t)
      have k1m := lp_for (b := f_X10_lift_l1 61 (nI s) k2) (fun k (_ : Unit) => (nI (bsN (mk k) (nn A)), nI k)) (fun _ _ => True) (fun _ u => u) (fun _ => some (nI (bsN (mk (nn A)) (nn A)))) (nn A) ?_ (fun _ _ _ _ => trivial) ?_ (nn A) FU 0 () (by omega) (by unfold FU; omega) trivial
      · have emay : bsN (mk (nn A)) (nn A) = bsN (may A (sc0 A (nwN A)) s) (nn A) := by
          refine bsN_congr (fun t ht => ?_)
          have qn := qt_now hN (hv.2.1 t ht)
          have qn : sG (sc0 A (nwN A)) t = _ := qn
          show (inB (sc0 A (nwN A)) s t && !(decide (t < nn A) && cd t)) = (((inB (sc0 A (nwN A)) s t && !inA (sc0 A (nwN A)) (A 3) t) && !sG (sc0 A (nwN A)) t) && !decide (t = s))
          rw [decide_eq_true ht, Bool.true_and]
          show (inB (sc0 A (nwN A)) s t && !(decide (t = s) || (decide (¬ A (147 + 94 * t + 1) = -1) || (!sG (sc0 A (nwN A)) t && decide (A 3 ≤ sO (sc0 A (nwN A)) t))))) = _
          rw [← qn]
          unfold inA inB
          cases sT (sc0 A (nwN A)) t <;> cases (lv (sP (sc0 A (nwN A))) t s).isSome <;> cases decide (t = s) <;> cases sG (sc0 A (nwN A)) t <;> cases decide (A 3 ≤ sO (sc0 A (nwN A)) t) <;> rfl
        have m0 : bsN (mk 0) (nn A) = bsN (inB (sc0 A (nwN A)) s) (nn A) := bsN_congr (fun t _ => by
          show (inB (sc0 A (nwN A)) s t && !(decide (t < 0) && cd t)) = _
          rw [decide_eq_false (by omega)]
          simp)
        have k1m : lp (f_X10_lift_l1 61 (nI s) k2) FU (nI (bsN (mk 0) (nn A)), 0) = some (nI (bsN (mk (nn A)) (nn A))) := k1m
        rw [m0, emay] at k1m
        have p2n : 2 ^ nn A ≤ 1024 := by
          have : 2 ^ nn A ≤ 2 ^ 10 := Nat.pow_le_pow_right (by omega) h10
          omega
        have k2m := lp_for (b := f_X10_lift_l2 61 (nI s) (nI r) k2 (nI (bsN (may A (sc0 A (nwN A)) s) (nn A)))) (fun k b => (pe b, nI k)) (fun _ b => b10 b) (lfG A (sc0 A (nwN A)) s r) (fun b => some (pe b)) (2 ^ nn A) ?_ (fun k b hk hb => lfG_10 hb (by omega)) ?_ (2 ^ nn A) FU 0 none (by omega) (by unfold FU; omega) (fun v e => by cases e)
        · have same : itf (lfG A (sc0 A (nwN A)) s r) 0 1024 none = itf (lfG A (sc0 A (nwN A)) s r) 0 (2 ^ nn A) none := itf_stay 1024 p2n (fun k h1 _ => lfG_n (sb_hi (by
            show 2 ^ nn A ≤ k
            omega)))
          have k2m : lp (f_X10_lift_l2 61 (nI s) (nI r) k2 (nI (bsN (may A (sc0 A (nwN A)) s) (nn A)))) FU (-1, 0) = _ := k2m
          rw [← same] at k2m
          have bl : f_X10_belowOf k2 61 (nI s) = some (nI (bsN (inB (sc0 A (nwN A)) s) (nn A))) := bl
          have wt8 := c_has_t (Iq g8 p2.qs) hs
          have it8 := e_isS_t (h := z_si g8 61 0 0) (s := s) Im.1 (by rw [e8]; exact hN) (by rw [e8]; exact hs)
          have n2 : z_i k1 62 144 = nI (nwN A) := by rw [d1]; exact e144
          have Hm := Im.1
          have c1 : ¬ nI r < (1 : Int32) := Int32.not_lt.mpr hy.1
          generalize itf (lfG A (sc0 A (nwN A)) s r) 0 1024 none = bo at *
          have bc : ∀ g : Z_H, ¬ pe bo = -1 → ∃ c, f_J6_bitCount_0f7a4 g (pe bo) = some c ∧ ∀ g', f_X10_ones g' (pe bo) = some c := by
            intro g hne
            cases bo with
            | none => exact absurd rfl hne
            | some b =>
              have := l10 b rfl
              exact ⟨nI (cn b.testBit 11), c_bits (by omega), fun g' => e_onesV (by omega)⟩
          by_cases hz : z = 0
          · by_cases hn1 : pe bo = -1
            · refine ⟨pe bo, g8, k2, ?_, ?_, (b2.tr b4).qs.inv Im⟩
              · unfold f_X9_lift
                simp (disch := first | assumption | omega) only [gd, lt, jn, bd2, Option.bind_some, LY_si, LY_sl, LY_row, decide_true, decide_false, if_true, ite_true, ite_false, decide_eq_true_eq, yg0, yg1, yg2, yg4, yg13, yg21, yg29, yg35, yg36, yg45, yg50, yg59, yI0, yI1, yI2, yI4, yI13, yI21, yI29, yI35, yI36, yI45, yI50, yI59, yP0, yP1, yP2, yP4, yP13, yP21, yP29, yP35, yP36, yP45, yP50, yP59, yR0_0, yR0_1, yR0_2, yR0_3, yR0_4, yR1_0, yR1_1, yR1_2, yR1_3, yR1_4, yR1_5, yR2_0, yR4_4, yR4_5, yR4_6, yR4_7, yR4_8, yR4_9, yR4_10, yR4_11, yR13_1, yR13_2, yR13_3, yR13_4, yR13_5, yR13_6, yR13_7, yR21_1, yR21_2, yR21_3, yR21_4, yR21_5, yR21_6, yR21_7, yR29_0, yR29_1, yR29_2, yR35_0, yR35_1, yR35_2, yR35_3, yR35_4, yR36_4, yR36_5, yR36_6, yR36_7, yR36_8, yR36_9, yR36_10, yR36_11, yR45_0, yR50_0, yR50_1, yR50_2, yR50_3, yR50_4, yR50_5, yR50_6, yR50_7, yR59_1, yA3, yA5, yA6, yA7, yA8, yA9, yA10, yA11, yA12, yA14, yA15, yA16, yA17, yA18, yA19, yA20, yA22, yA23, yA24, yA25, yA26, yA27, yA28, yA30, yA31, yA32, yA33, yA37, yA38, yA39, yA40, yA41, yA42, yA43, yA44, yA46, yA47, yA48, yA49, yA51, yA52, yA53, yA54, yA55, yA56, yA57, yA58, yA60, yS3, yS5, yS6, yS7, yS8, yS9, yS10, yS11, yS12, yS14, yS15, yS16, yS17, yS18, yS19, yS20, yS22, yS23, yS24, yS25, yS26, yS27, yS28, yS30, yS31, yS32, yS33, yS37, yS38, yS39, yS40, yS41, yS42, yS43, yS44, yS46, yS47, yS48, yS49, yS51, yS52, yS53, yS54, yS55, yS56, yS57, yS58, yS60, wt, en, p1, ll]
                rw [if_neg (by decide), if_neg c1, if_pos hy.2, if_pos hz, if_pos hn1]
              · unfold f_X10_lift
                simp (disch := first | assumption | omega) only [gd, lt, jn, bd2, Option.bind_some, LY_si, LY_sl, LY_row, decide_true, decide_false, if_true, ite_true, ite_false, decide_eq_true_eq, yg61, yI61, yP61, yR61_1, yR61_2, yR61_12, yR61_13, yR61_17, yR61_18, yR61_21, yR61_22, yR61_23, yR61_25, yA62, yA63, yA64, yA65, yA66, yA67, yA68, yA69, yA70, yA71, yS62, yS63, yS64, yS65, yS66, yS67, yS68, yS69, yS70, yS71, it8, e_in_t hy.1 hy.2, b1, e_now, n2, b3, bl, k1m, k2m]
                rw [if_neg (by decide), if_neg (by decide), if_pos hz, if_pos hn1]
            · obtain ⟨c, c2, c3⟩ := bc g8 hn1
              refine ⟨c, g8, k2, ?_, ?_, (b2.tr b4).qs.inv Im⟩
              · unfold f_X9_lift
                simp (disch := first | assumption | omega) only [gd, lt, jn, bd2, Option.bind_some, LY_si, LY_sl, LY_row, decide_true, decide_false, if_true, ite_true, ite_false, decide_eq_true_eq, yg0, yg1, yg2, yg4, yg13, yg21, yg29, yg35, yg36, yg45, yg50, yg59, yI0, yI1, yI2, yI4, yI13, yI21, yI29, yI35, yI36, yI45, yI50, yI59, yP0, yP1, yP2, yP4, yP13, yP21, yP29, yP35, yP36, yP45, yP50, yP59, yR0_0, yR0_1, yR0_2, yR0_3, yR0_4, yR1_0, yR1_1, yR1_2, yR1_3, yR1_4, yR1_5, yR2_0, yR4_4, yR4_5, yR4_6, yR4_7, yR4_8, yR4_9, yR4_10, yR4_11, yR13_1, yR13_2, yR13_3, yR13_4, yR13_5, yR13_6, yR13_7, yR21_1, yR21_2, yR21_3, yR21_4, yR21_5, yR21_6, yR21_7, yR29_0, yR29_1, yR29_2, yR35_0, yR35_1, yR35_2, yR35_3, yR35_4, yR36_4, yR36_5, yR36_6, yR36_7, yR36_8, yR36_9, yR36_10, yR36_11, yR45_0, yR50_0, yR50_1, yR50_2, yR50_3, yR50_4, yR50_5, yR50_6, yR50_7, yR59_1, yA3, yA5, yA6, yA7, yA8, yA9, yA10, yA11, yA12, yA14, yA15, yA16, yA17, yA18, yA19, yA20, yA22, yA23, yA24, yA25, yA26, yA27, yA28, yA30, yA31, yA32, yA33, yA37, yA38, yA39, yA40, yA41, yA42, yA43, yA44, yA46, yA47, yA48, yA49, yA51, yA52, yA53, yA54, yA55, yA56, yA57, yA58, yA60, yS3, yS5, yS6, yS7, yS8, yS9, yS10, yS11, yS12, yS14, yS15, yS16, yS17, yS18, yS19, yS20, yS22, yS23, yS24, yS25, yS26, yS27, yS28, yS30, yS31, yS32, yS33, yS37, yS38, yS39, yS40, yS41, yS42, yS43, yS44, yS46, yS47, yS48, yS49, yS51, yS52, yS53, yS54, yS55, yS56, yS57, yS58, yS60, wt, en, p1, ll, c2]
                rw [if_neg (by decide), if_neg c1, if_pos hy.2, if_pos hz, if_neg hn1]
              · unfold f_X10_lift
                simp (disch := first | assumption | omega) only [gd, lt, jn, bd2, Option.bind_some, LY_si, LY_sl, LY_row, decide_true, decide_false, if_true, ite_true, ite_false, decide_eq_true_eq, yg61, yI61, yP61, yR61_1, yR61_2, yR61_12, yR61_13, yR61_17, yR61_18, yR61_21, yR61_22, yR61_23, yR61_25, yA62, yA63, yA64, yA65, yA66, yA67, yA68, yA69, yA70, yA71, yS62, yS63, yS64, yS65, yS66, yS67, yS68, yS69, yS70, yS71, it8, e_in_t hy.1 hy.2, b1, e_now, n2, b3, bl, k1m, k2m, c3]
                rw [if_neg (by decide), if_neg (by decide), if_pos hz, if_neg hn1]
          · refine ⟨pe bo, g8, k2, ?_, ?_, (b2.tr b4).qs.inv Im⟩
            · unfold f_X9_lift
              simp (disch := first | assumption | omega) only [gd, lt, jn, bd2, Option.bind_some, LY_si, LY_sl, LY_row, decide_true, decide_false, if_true, ite_true, ite_false, decide_eq_true_eq, yg0, yg1, yg2, yg4, yg13, yg21, yg29, yg35, yg36, yg45, yg50, yg59, yI0, yI1, yI2, yI4, yI13, yI21, yI29, yI35, yI36, yI45, yI50, yI59, yP0, yP1, yP2, yP4, yP13, yP21, yP29, yP35, yP36, yP45, yP50, yP59, yR0_0, yR0_1, yR0_2, yR0_3, yR0_4, yR1_0, yR1_1, yR1_2, yR1_3, yR1_4, yR1_5, yR2_0, yR4_4, yR4_5, yR4_6, yR4_7, yR4_8, yR4_9, yR4_10, yR4_11, yR13_1, yR13_2, yR13_3, yR13_4, yR13_5, yR13_6, yR13_7, yR21_1, yR21_2, yR21_3, yR21_4, yR21_5, yR21_6, yR21_7, yR29_0, yR29_1, yR29_2, yR35_0, yR35_1, yR35_2, yR35_3, yR35_4, yR36_4, yR36_5, yR36_6, yR36_7, yR36_8, yR36_9, yR36_10, yR36_11, yR45_0, yR50_0, yR50_1, yR50_2, yR50_3, yR50_4, yR50_5, yR50_6, yR50_7, yR59_1, yA3, yA5, yA6, yA7, yA8, yA9, yA10, yA11, yA12, yA14, yA15, yA16, yA17, yA18, yA19, yA20, yA22, yA23, yA24, yA25, yA26, yA27, yA28, yA30, yA31, yA32, yA33, yA37, yA38, yA39, yA40, yA41, yA42, yA43, yA44, yA46, yA47, yA48, yA49, yA51, yA52, yA53, yA54, yA55, yA56, yA57, yA58, yA60, yS3, yS5, yS6, yS7, yS8, yS9, yS10, yS11, yS12, yS14, yS15, yS16, yS17, yS18, yS19, yS20, yS22, yS23, yS24, yS25, yS26, yS27, yS28, yS30, yS31, yS32, yS33, yS37, yS38, yS39, yS40, yS41, yS42, yS43, yS44, yS46, yS47, yS48, yS49, yS51, yS52, yS53, yS54, yS55, yS56, yS57, yS58, yS60, wt, en, p1, ll]
              rw [if_neg (by decide), if_neg c1, if_pos hy.2, if_neg hz]
            · unfold f_X10_lift
              simp (disch := first | assumption | omega) only [gd, lt, jn, bd2, Option.bind_some, LY_si, LY_sl, LY_row, decide_true, decide_false, if_true, ite_true, ite_false, decide_eq_true_eq, yg61, yI61, yP61, yR61_1, yR61_2, yR61_12, yR61_13, yR61_17, yR61_18, yR61_21, yR61_22, yR61_23, yR61_25, yA62, yA63, yA64, yA65, yA66, yA67, yA68, yA69, yA70, yA71, yS62, yS63, yS64, yS65, yS66, yS67, yS68, yS69, yS70, yS71, it8, e_in_t hy.1 hy.2, b1, e_now, n2, b3, bl, k1m, k2m]
              rw [if_neg (by decide), if_neg (by decide), if_neg hz]
        · intro rec k b hk hb
          have hk10 : k < 1024 := by omega
          have sm_ := sb_m (r := may A (sc0 A (nwN A)) s) (n := nn A) (v := k) (by omega)
          have cb := e_onesV (h := k2) (v := k) (by omega)
          unfold f_X10_lift_l2
          dsimp only [jn]
          refine bnd ((yI61 K2 19).trans (congrArg some e19)) ?_
          refine (if_neg (by rw [nI_shl (nn A) (by omega)]; exact nI_ge hk (by omega))).trans ?_
          rw [nI_1]
          by_cases hsb : sbS (may A (sc0 A (nwN A)) s) (nn A) k = true
          · have cl_ := e_lifts (r := r) (v := k) K2 d2 b7 e144 hO hN hP.2.2.2.1 (show s < 1000 by omega) (by omega) (by omega) hsb
            refine (if_pos (sm_.mpr hsb)).trans ?_
            have fin : lfC k b = true → ((f_X10_lifts k2 61 (nI s) (nI k) (nI r)).bind fun t27 => if t27 = 0 then rec (pe b, nI (k + 1)) else rec (nI k, nI (k + 1))) = rec (pe (lfG A (sc0 A (nwN A)) s r k b), nI (k + 1)) := fun c2 => by
              cases hB : lfB A (sc0 A (nwN A)) s r k with
              | false =>
                rw [hB] at cl_
                have cl_ : f_X10_lifts k2 61 (nI s) (nI k) (nI r) = some 0 := cl_
                refine bnd cl_ ?_
                refine (if_pos rfl).trans ?_
                rw [lfG_f hB]
              | true =>
                rw [hB] at cl_
                have cl_ : f_X10_lifts k2 61 (nI s) (nI k) (nI r) = some 1 := cl_
                refine bnd cl_ ?_
                refine (if_neg (show ¬ (1 : Int32) = 0 by decide)).trans ?_
                rw [lfG_t hsb c2 hB]
                rfl
            cases b with
            | none =>
              refine (if_pos (show pe none = -1 from rfl)).trans ?_
              exact fin rfl
            | some b =>
              have hb' := hb b rfl
              have cb2 : f_X10_ones k2 (pe (some b)) = some (fw (some b)) := e_onesV (h := k2) (v := b) (by omega)
              refine (if_neg (show ¬ pe (some b) = -1 from nI_m1 (by omega))).trans ?_
              refine bnd cb ?_
              refine bnd cb2 ?_
              rcases fw_C hb hk10 with ⟨c1, c2⟩ | ⟨c1, c2⟩
              · refine (if_pos c1).trans ?_
                rw [lfG_c c2]
              · refine (if_neg c1).trans ?_
                exact fin c2
          · refine (if_neg (fun q => hsb (sm_.mp q))).trans ?_
            rw [lfG_n (Bool.eq_false_iff.mpr hsb)]
        · intro rec b _
          unfold f_X10_lift_l2
          simp (disch := first | assumption | omega) only [gd, lt, jn, bd2, Option.bind_some, LY_si, LY_sl, LY_row, decide_true, decide_false, if_true, ite_true, ite_false, decide_eq_true_eq, yg61, yI61, yP61, yR61_1, yR61_2, yR61_12, yR61_13, yR61_17, yR61_18, yR61_21, yR61_22, yR61_23, yR61_25, yA62, yA63, yA64, yA65, yA66, yA67, yA68, yA69, yA70, yA71, yS62, yS63, yS64, yS65, yS66, yS67, yS68, yS69, yS70, yS71, e19, nI_shl (nn A) (by omega)]
          rw [if_pos (nI_le (Nat.le_refl _) (by omega))]
      · intro rec k u hk _
        have hk1 : k < (sc0 A (nwN A)).1 := hk
        have hq := e_hasQuit (h := k2) (s := k) K2 (by omega)
        rw [d2] at hq
        have ia := e_isActive (t := k) K2 b7 (by rw [d2]; exact hN) hk1
        rw [d2] at ia
        have ecut : nI (bsN (mk k) (nn A)) &&& (((1 : Int32) <<< (nI k &&& 31)) ^^^ (-1)) = nI (bsN (fun t => mk k t && !decide (t = k)) (nn A)) := by rw [nI_shl k (by omega), bs_two hk, bs_andn]
        have ey : cd k = true → nI (bsN (fun t => mk k t && !decide (t = k)) (nn A)) = nI (bsN (mk (k + 1)) (nn A)) := fun hc => by
          congr 1
          refine bsN_congr (fun t ht => ?_)
          show ((inB (sc0 A (nwN A)) s t && !(decide (t < k) && cd t)) && !decide (t = k)) = (inB (sc0 A (nwN A)) s t && !(decide (t < k + 1) && cd t))
          by_cases e : t = k
          · subst e
            rw [hc, decide_eq_true (rfl : t = t), decide_eq_true (show t < t + 1 by omega)]
            cases inB (sc0 A (nwN A)) s t <;> simp
          · rw [decide_eq_false e]
            by_cases e2 : t < k
            · rw [decide_eq_true e2, decide_eq_true (show t < k + 1 by omega)]
              simp
            · rw [decide_eq_false e2, decide_eq_false (show ¬ t < k + 1 by omega)]
              simp
        have en_ : cd k = false → nI (bsN (mk k) (nn A)) = nI (bsN (mk (k + 1)) (nn A)) := fun hc => by
          congr 1
          refine bsN_congr (fun t ht => ?_)
          show (inB (sc0 A (nwN A)) s t && !(decide (t < k) && cd t)) = (inB (sc0 A (nwN A)) s t && !(decide (t < k + 1) && cd t))
          by_cases e : t = k
          · subst e
            rw [hc]
            simp
          · by_cases e2 : t < k
            · rw [decide_eq_true e2, decide_eq_true (show t < k + 1 by omega)]
            · rw [decide_eq_false e2, decide_eq_false (show ¬ t < k + 1 by omega)]
        have hcd : cd k = (decide (k = s) || (decide (¬ A (147 + 94 * k + 1) = -1) || (!sG (sc0 A (nwN A)) k && decide (A 3 ≤ sO (sc0 A (nwN A)) k)))) := rfl
        unfold f_X10_lift_l1
        simp (disch := first | assumption | omega) only [gd, lt, bd2, Option.bind_some, LY_si, LY_sl, LY_row, decide_true, decide_false, if_true, ite_true, ite_false, decide_eq_true_eq, yg61, yI61, yP61, yR61_1, yR61_2, yR61_12, yR61_13, yR61_17, yR61_18, yR61_21, yR61_22, yR61_23, yR61_25, yA62, yA63, yA64, yA65, yA66, yA67, yA68, yA69, yA70, yA71, yS62, yS63, yS64, yS65, yS66, yS67, yS68, yS69, yS70, yS71, e19, hq, e_now, n3, ia, ecut]
        dsimp only [jn]
        rw [if_neg (nI_ge hk (by omega)), nI_1]
        by_cases c1 : k = s
        · rw [if_pos (by rw [c1]), ey (by rw [hcd, decide_eq_true c1]; rfl)]
        · rw [if_neg (fun q => c1 ((nI_eq (by omega) (by omega)).mp q))]
          by_cases c2 : A (147 + 94 * k + 1) = -1
          · rw [if_pos c2, if_pos rfl]
            cases c3 : (!sG (sc0 A (nwN A)) k && decide (A 3 ≤ sO (sc0 A (nwN A)) k)) with
            | true =>
              rw [if_pos rfl, if_neg (by decide), ey (by rw [hcd, c3]; simp)]
            | false =>
              rw [if_pos (show (if false = true then (1 : Int32) else 0) = 0 by decide), en_ (by rw [hcd, c3, decide_eq_false c1]; simp [c2])]
          · rw [if_neg c2, if_neg (by decide), ey (by rw [hcd]; simp [c2])]
      · intro rec u _
        unfold f_X10_lift_l1
        simp (disch := first | assumption | omega) only [gd, lt, jn, bd2, Option.bind_some, LY_si, LY_sl, LY_row, decide_true, decide_false, if_true, ite_true, ite_false, decide_eq_true_eq, yg61, yI61, yP61, yR61_1, yR61_2, yR61_12, yR61_13, yR61_17, yR61_18, yR61_21, yR61_22, yR61_23, yR61_25, yA62, yA63, yA64, yA65, yA66, yA67, yA68, yA69, yA70, yA71, yS62, yS63, yS64, yS65, yS66, yS67, yS68, yS69, yS70, yS71, e19]
        rw [if_pos (nI_le (Nat.le_refl _) (by omega))]
    · refine ⟨-1, h, z_si h 61 0 0, ?_, ?_, I.m⟩
      · unfold f_X9_lift
        simp (disch := first | assumption | omega) only [gd, lt, jn, bd2, Option.bind_some, LY_si, LY_sl, LY_row, decide_true, decide_false, if_true, ite_true, ite_false, decide_eq_true_eq, yg0, yg1, yg2, yg4, yg13, yg21, yg29, yg35, yg36, yg45, yg50, yg59, yI0, yI1, yI2, yI4, yI13, yI21, yI29, yI35, yI36, yI45, yI50, yI59, yP0, yP1, yP2, yP4, yP13, yP21, yP29, yP35, yP36, yP45, yP50, yP59, yR0_0, yR0_1, yR0_2, yR0_3, yR0_4, yR1_0, yR1_1, yR1_2, yR1_3, yR1_4, yR1_5, yR2_0, yR4_4, yR4_5, yR4_6, yR4_7, yR4_8, yR4_9, yR4_10, yR4_11, yR13_1, yR13_2, yR13_3, yR13_4, yR13_5, yR13_6, yR13_7, yR21_1, yR21_2, yR21_3, yR21_4, yR21_5, yR21_6, yR21_7, yR29_0, yR29_1, yR29_2, yR35_0, yR35_1, yR35_2, yR35_3, yR35_4, yR36_4, yR36_5, yR36_6, yR36_7, yR36_8, yR36_9, yR36_10, yR36_11, yR45_0, yR50_0, yR50_1, yR50_2, yR50_3, yR50_4, yR50_5, yR50_6, yR50_7, yR59_1, yA3, yA5, yA6, yA7, yA8, yA9, yA10, yA11, yA12, yA14, yA15, yA16, yA17, yA18, yA19, yA20, yA22, yA23, yA24, yA25, yA26, yA27, yA28, yA30, yA31, yA32, yA33, yA37, yA38, yA39, yA40, yA41, yA42, yA43, yA44, yA46, yA47, yA48, yA49, yA51, yA52, yA53, yA54, yA55, yA56, yA57, yA58, yA60, yS3, yS5, yS6, yS7, yS8, yS9, yS10, yS11, yS12, yS14, yS15, yS16, yS17, yS18, yS19, yS20, yS22, yS23, yS24, yS25, yS26, yS27, yS28, yS30, yS31, yS32, yS33, yS37, yS38, yS39, yS40, yS41, yS42, yS43, yS44, yS46, yS47, yS48, yS49, yS51, yS52, yS53, yS54, yS55, yS56, yS57, yS58, yS60, wt]
        rw [if_neg (by decide)]
        by_cases c1 : y < 1
        · rw [if_pos c1]
        · rw [if_neg c1, if_neg (fun q => hy ⟨Int32.not_lt.mp c1, q⟩)]
      · unfold f_X10_lift
        simp (disch := first | assumption | omega) only [gd, lt, jn, bd2, Option.bind_some, LY_si, LY_sl, LY_row, decide_true, decide_false, if_true, ite_true, ite_false, decide_eq_true_eq, yg61, yI61, yP61, yR61_1, yR61_2, yR61_12, yR61_13, yR61_17, yR61_18, yR61_21, yR61_22, yR61_23, yR61_25, yA62, yA63, yA64, yA65, yA66, yA67, yA68, yA69, yA70, yA71, yS62, yS63, yS64, yS65, yS66, yS67, yS68, yS69, yS70, yS71, it, e_in_f hy]
        rw [if_neg (by decide)]
  · refine ⟨-1, h, z_si h 61 0 0, ?_, ?_, I.m⟩
    · unfold f_X9_lift
      simp (disch := first | assumption | omega) only [gd, lt, jn, bd2, Option.bind_some, LY_si, LY_sl, LY_row, decide_true, decide_false, if_true, ite_true, ite_false, decide_eq_true_eq, yg0, yg1, yg2, yg4, yg13, yg21, yg29, yg35, yg36, yg45, yg50, yg59, yI0, yI1, yI2, yI4, yI13, yI21, yI29, yI35, yI36, yI45, yI50, yI59, yP0, yP1, yP2, yP4, yP13, yP21, yP29, yP35, yP36, yP45, yP50, yP59, yR0_0, yR0_1, yR0_2, yR0_3, yR0_4, yR1_0, yR1_1, yR1_2, yR1_3, yR1_4, yR1_5, yR2_0, yR4_4, yR4_5, yR4_6, yR4_7, yR4_8, yR4_9, yR4_10, yR4_11, yR13_1, yR13_2, yR13_3, yR13_4, yR13_5, yR13_6, yR13_7, yR21_1, yR21_2, yR21_3, yR21_4, yR21_5, yR21_6, yR21_7, yR29_0, yR29_1, yR29_2, yR35_0, yR35_1, yR35_2, yR35_3, yR35_4, yR36_4, yR36_5, yR36_6, yR36_7, yR36_8, yR36_9, yR36_10, yR36_11, yR45_0, yR50_0, yR50_1, yR50_2, yR50_3, yR50_4, yR50_5, yR50_6, yR50_7, yR59_1, yA3, yA5, yA6, yA7, yA8, yA9, yA10, yA11, yA12, yA14, yA15, yA16, yA17, yA18, yA19, yA20, yA22, yA23, yA24, yA25, yA26, yA27, yA28, yA30, yA31, yA32, yA33, yA37, yA38, yA39, yA40, yA41, yA42, yA43, yA44, yA46, yA47, yA48, yA49, yA51, yA52, yA53, yA54, yA55, yA56, yA57, yA58, yA60, yS3, yS5, yS6, yS7, yS8, yS9, yS10, yS11, yS12, yS14, yS15, yS16, yS17, yS18, yS19, yS20, yS22, yS23, yS24, yS25, yS26, yS27, yS28, yS30, yS31, yS32, yS33, yS37, yS38, yS39, yS40, yS41, yS42, yS43, yS44, yS46, yS47, yS48, yS49, yS51, yS52, yS53, yS54, yS55, yS56, yS57, yS58, yS60, c_has_f C hx]
    · unfold f_X10_lift
      simp (disch := first | assumption | omega) only [gd, lt, jn, bd2, Option.bind_some, LY_si, LY_sl, LY_row, decide_true, decide_false, if_true, ite_true, ite_false, decide_eq_true_eq, yg61, yI61, yP61, yR61_1, yR61_2, yR61_12, yR61_13, yR61_17, yR61_18, yR61_21, yR61_22, yR61_23, yR61_25, yA62, yA63, yA64, yA65, yA66, yA67, yA68, yA69, yA70, yA71, yS62, yS63, yS64, yS65, yS66, yS67, yS68, yS69, yS70, yS71, e_isS_f (h := z_si h 61 0 0) H1 hN1 (by rw [e1]; exact hx)]
