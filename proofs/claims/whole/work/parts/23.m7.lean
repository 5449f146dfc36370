def by4 (x : Int32) (k : Nat) : Int32 := ((x >>> (Int32.ofInt (24 - 8 * (k : Int)) &&& 31)) : Int32).toInt8.toInt32.toInt8.toInt32
def ap4 (f : Nat → Int32) (t : Nat) (x : Int32) : Nat → Int32 := fun i => if t ≤ i ∧ i < t + 4 then by4 x (i - t) else f i
def apk (f : Nat → Int32) (t : Nat) (x : Int32) (k : Nat) : Nat → Int32 := fun i => if t ≤ i ∧ i < t + k then by4 x (i - t) else f i
theorem apk_0 {f : Nat → Int32} {t : Nat} {x : Int32} : apk f t x 0 = f := by
  funext i
  unfold apk
  rw [if_neg (by omega)]
theorem apk_s {f : Nat → Int32} {t k : Nat} {x : Int32} : upd (apk f t x k) (t + k) (by4 x k) = apk f t x (k + 1) := by
  funext i
  unfold upd apk
  by_cases e : i = t + k
  · subst e
    rw [if_pos rfl, if_pos (by omega), Nat.add_sub_cancel_left]
  · rw [if_neg e]
    by_cases q : t ≤ i ∧ i < t + k
    · rw [if_pos q, if_pos (by omega)]
    · rw [if_neg q, if_neg (by omega)]
theorem k24 : ∀ k : Nat, k < 4 → ¬ Int32.ofInt (24 - 8 * (k : Int)) < 0 ∧ Int32.ofInt (24 - 8 * (k : Int)) + (-8) = Int32.ofInt (24 - 8 * ((k + 1 : Nat) : Int)) := by decide
/-- two rows alone are others: their cells a (ints) and b (one field) -/
def TW (h h' : Z_H) (a b : Nat) : Prop := z_n h' = z_n h ∧ z_t h' = z_t h ∧ z_x h' = z_x h ∧ ∀ q, q ≠ a → q ≠ b → z_i h' q = z_i h q
theorem TW.rf {h : Z_H} {a b : Nat} : TW h h a b := ⟨rfl, rfl, rfl, fun _ _ _ => rfl⟩
theorem TW.tr {h h1 h2 : Z_H} {a b : Nat} (x : TW h h1 a b) (y : TW h1 h2 a b) : TW h h2 a b := ⟨y.1.trans x.1, y.2.1.trans x.2.1, y.2.2.1.trans x.2.2.1, fun q h1 h2 => (y.2.2.2 q h1 h2).trans (x.2.2.2 q h1 h2)⟩
theorem TW.ly {h h' : Z_H} {a b : Nat} (x : TW h h' a b) (H : LY h) : LY h' := LY_x x.1 x.2.2.1 H
theorem TW_si {h : Z_H} {a b q k : Nat} {v : Int32} (e : q = a ∨ q = b) : TW h (z_si h q k v) a b := ⟨rfl, rfl, rfl, fun p h1 h2 => z_si_o (by rcases e with e | e <;> (rw [e]; assumption))⟩
theorem c_append {h : Z_H} (H : LY h) {t : Nat} {x : Int32} (ht : z_i h 2 1 = nI t) (h6 : t + 4 ≤ 600) : ∃ h', f_X8_append h 2 x = some h' ∧ TW h h' 3 2 ∧ z_i h' 2 1 = nI (t + 4) ∧ z_i h' 3 = ap4 (z_i h 3) t x := by
  let g : Nat → Z_H → Z_H := fun k q => z_si (z_si q 3 (t + k) (by4 x k)) 2 1 (nI (t + k + 1))
  have inv : ∀ k, k ≤ 4 → ∀ q : Z_H, q = itf g 0 k h → LY q ∧ TW h q 3 2 ∧ z_i q 2 1 = nI (t + k) ∧ z_i q 3 = apk (z_i h 3) t x k := by
    intro k
    have gen : ∀ (n i : Nat) (q : Z_H), LY q ∧ TW h q 3 2 ∧ z_i q 2 1 = nI (t + i) ∧ z_i q 3 = apk (z_i h 3) t x i → LY (itf g i n q) ∧ TW h (itf g i n q) 3 2 ∧ z_i (itf g i n q) 2 1 = nI (t + (i + n)) ∧ z_i (itf g i n q) 3 = apk (z_i h 3) t x (i + n) := by
      intro n
      induction n with
      | zero => intro i q hq; exact hq
      | succ n ih =>
        intro i q hq
        have := ih (i + 1) (g i q) ⟨hq.1, hq.2.1.tr ((TW_si (Or.inl rfl)).tr (TW_si (Or.inr rfl))), rfl, by
          show z_i (z_si (z_si q 3 (t + i) (by4 x i)) 2 1 (nI (t + i + 1))) 3 = _
          rw [z_si_o (by omega), z_si_i, hq.2.2.2, apk_s]⟩
        rw [show i + 1 + n = i + (n + 1) by omega] at this
        exact this
    intro hk q hq
    have := gen k 0 h ⟨H, TW.rf, ht, apk_0.symm⟩
    rw [Nat.zero_add] at this
    rw [hq]
    exact this
  have key := lp_for (b := f_X8_append_l1 2 x) (fun k (q : Z_H) => (Int32.ofInt (24 - 8 * (k : Int)), q)) (fun k q => LY q ∧ z_i q 2 1 = nI (t + k)) g some 4 ?_ ?_ ?_ 4 FU 0 h rfl (by unfold FU; omega) ⟨H, ht⟩
  · obtain ⟨-, i2, i3, i4⟩ := inv 4 (by omega) _ rfl
    refine ⟨itf g 0 4 h, ?_, i2, i3, i4⟩
    unfold f_X8_append
    have key' : lp (f_X8_append_l1 2 x) FU (24, h) = some (itf g 0 4 h) := key
    simp (disch := first | assumption | omega) only [gd, lt, jn, bd2, Option.bind_some, LY_si, LY_sl, LY_row, decide_true, decide_false, if_true, ite_true, ite_false, decide_eq_true_eq, yg0, yg1, yg2, yg4, yg13, yg21, yg29, yg35, yg36, yg45, yg50, yg59, yI0, yI1, yI2, yI4, yI13, yI21, yI29, yI35, yI36, yI45, yI50, yI59, yP0, yP1, yP2, yP4, yP13, yP21, yP29, yP35, yP36, yP45, yP50, yP59, yR0_0, yR0_1, yR0_2, yR0_3, yR0_4, yR1_0, yR1_1, yR1_2, yR1_3, yR1_4, yR1_5, yR2_0, yR4_4, yR4_5, yR4_6, yR4_7, yR4_8, yR4_9, yR4_10, yR4_11, yR13_1, yR13_2, yR13_3, yR13_4, yR13_5, yR13_6, yR13_7, yR21_1, yR21_2, yR21_3, yR21_4, yR21_5, yR21_6, yR21_7, yR29_0, yR29_1, yR29_2, yR35_0, yR35_1, yR35_2, yR35_3, yR35_4, yR36_4, yR36_5, yR36_6, yR36_7, yR36_8, yR36_9, yR36_10, yR36_11, yR45_0, yR50_0, yR50_1, yR50_2, yR50_3, yR50_4, yR50_5, yR50_6, yR50_7, yR59_1, yA3, yA5, yA6, yA7, yA8, yA9, yA10, yA11, yA12, yA14, yA15, yA16, yA17, yA18, yA19, yA20, yA22, yA23, yA24, yA25, yA26, yA27, yA28, yA30, yA31, yA32, yA33, yA37, yA38, yA39, yA40, yA41, yA42, yA43, yA44, yA46, yA47, yA48, yA49, yA51, yA52, yA53, yA54, yA55, yA56, yA57, yA58, yA60, yS3, yS5, yS6, yS7, yS8, yS9, yS10, yS11, yS12, yS14, yS15, yS16, yS17, yS18, yS19, yS20, yS22, yS23, yS24, yS25, yS26, yS27, yS28, yS30, yS31, yS32, yS33, yS37, yS38, yS39, yS40, yS41, yS42, yS43, yS44, yS46, yS47, yS48, yS49, yS51, yS52, yS53, yS54, yS55, yS56, yS57, yS58, yS60, key']
  · intro rec k q hk hI
    have hl := hI.1
    unfold f_X8_append_l1
    have H2 : LY (z_si q 3 (t + k) (by4 x k)) := hI.1
    have e1 : z_i (z_si q 3 (t + k) (by4 x k)) 2 1 = nI (t + k) := hI.2
    have es : sB q 3 (nI (t + k)) ((x >>> (Int32.ofInt (24 - 8 * (k : Int)) &&& 31)) : Int32).toInt8.toInt32 = some (z_si q 3 (t + k) (by4 x k)) := yS3 hI.1 (by omega)
    simp (disch := first | assumption | omega) only [gd, lt, jn, bd2, Option.bind_some, LY_si, LY_sl, LY_row, decide_true, decide_false, if_true, ite_true, ite_false, decide_eq_true_eq, yg0, yg1, yg2, yg4, yg13, yg21, yg29, yg35, yg36, yg45, yg50, yg59, yI0, yI1, yI2, yI4, yI13, yI21, yI29, yI35, yI36, yI45, yI50, yI59, yP0, yP1, yP2, yP4, yP13, yP21, yP29, yP35, yP36, yP45, yP50, yP59, yR0_0, yR0_1, yR0_2, yR0_3, yR0_4, yR1_0, yR1_1, yR1_2, yR1_3, yR1_4, yR1_5, yR2_0, yR4_4, yR4_5, yR4_6, yR4_7, yR4_8, yR4_9, yR4_10, yR4_11, yR13_1, yR13_2, yR13_3, yR13_4, yR13_5, yR13_6, yR13_7, yR21_1, yR21_2, yR21_3, yR21_4, yR21_5, yR21_6, yR21_7, yR29_0, yR29_1, yR29_2, yR35_0, yR35_1, yR35_2, yR35_3, yR35_4, yR36_4, yR36_5, yR36_6, yR36_7, yR36_8, yR36_9, yR36_10, yR36_11, yR45_0, yR50_0, yR50_1, yR50_2, yR50_3, yR50_4, yR50_5, yR50_6, yR50_7, yR59_1, yA3, yA5, yA6, yA7, yA8, yA9, yA10, yA11, yA12, yA14, yA15, yA16, yA17, yA18, yA19, yA20, yA22, yA23, yA24, yA25, yA26, yA27, yA28, yA30, yA31, yA32, yA33, yA37, yA38, yA39, yA40, yA41, yA42, yA43, yA44, yA46, yA47, yA48, yA49, yA51, yA52, yA53, yA54, yA55, yA56, yA57, yA58, yA60, yS3, yS5, yS6, yS7, yS8, yS9, yS10, yS11, yS12, yS14, yS15, yS16, yS17, yS18, yS19, yS20, yS22, yS23, yS24, yS25, yS26, yS27, yS28, yS30, yS31, yS32, yS33, yS37, yS38, yS39, yS40, yS41, yS42, yS43, yS44, yS46, yS47, yS48, yS49, yS51, yS52, yS53, yS54, yS55, yS56, yS57, yS58, yS60, hI.2, es, e1, nI_1]
    rw [if_neg (k24 k hk).1, if_neg (show ¬ (600 : Int32) ≤ nI (t + k) from nI_ge (b := 600) (by omega) (by omega)), (k24 k hk).2]
  · intro k q hk hI
    exact ⟨hI.1, rfl⟩
  · intro rec q hI
    unfold f_X8_append_l1
    rfl
theorem e_four {h : Z_H} (H : LY h) {t : Nat} {x : Int32} (ht : z_i h 62 0 = nI t) (h6 : t + 4 ≤ 600) : ∃ h', f_X10_four h 61 x = some h' ∧ TW h h' 63 62 ∧ z_i h' 62 = upd (z_i h 62) 0 (nI (t + 4)) ∧ z_i h' 63 = ap4 (z_i h 63) t x := by
  let g : Nat → Z_H → Z_H := fun k q => z_si (z_si q 63 (t + k) (by4 x k)) 62 0 (nI (t + k + 1))
  have gen : ∀ (n i : Nat) (q : Z_H), LY q ∧ TW h q 63 62 ∧ z_i q 62 = upd (z_i h 62) 0 (nI (t + i)) ∧ z_i q 63 = apk (z_i h 63) t x i → LY (itf g i n q) ∧ TW h (itf g i n q) 63 62 ∧ z_i (itf g i n q) 62 = upd (z_i h 62) 0 (nI (t + (i + n))) ∧ z_i (itf g i n q) 63 = apk (z_i h 63) t x (i + n) := by
    intro n
    induction n with
    | zero => intro i q hq; exact hq
    | succ n ih =>
      intro i q hq
      have := ih (i + 1) (g i q) ⟨hq.1, hq.2.1.tr ((TW_si (Or.inl rfl)).tr (TW_si (Or.inr rfl))), by
        show z_i (z_si (z_si q 63 (t + i) (by4 x i)) 62 0 (nI (t + i + 1))) 62 = _
        rw [z_si_i, z_si_o (by omega), hq.2.2.1]
        funext j
        unfold upd
        split <;> rfl, by
        show z_i (z_si (z_si q 63 (t + i) (by4 x i)) 62 0 (nI (t + i + 1))) 63 = _
        rw [z_si_o (by omega), z_si_i, hq.2.2.2, apk_s]⟩
      rw [show i + 1 + n = i + (n + 1) by omega] at this
      exact this
  have e00 : upd (z_i h 62) 0 (nI (t + 0)) = z_i h 62 := by
    funext j
    unfold upd
    split
    · rename_i e; rw [e]; exact ht.symm
    · rfl
  have inv := gen 4 0 h ⟨H, TW.rf, e00.symm, apk_0.symm⟩
  have key := lp_for (b := f_X10_four_l1 61 x) (fun k (q : Z_H) => (Int32.ofInt (24 - 8 * (k : Int)), q)) (fun k q => LY q ∧ z_i q 62 0 = nI (t + k)) g some 4 ?_ ?_ ?_ 4 FU 0 h rfl (by unfold FU; omega) ⟨H, ht⟩
  · obtain ⟨-, i2, i3, i4⟩ := inv
    refine ⟨itf g 0 4 h, ?_, i2, i3, i4⟩
    unfold f_X10_four
    have key' : lp (f_X10_four_l1 61 x) FU (24, h) = some (itf g 0 4 h) := key
    simp (disch := first | assumption | omega) only [gd, lt, jn, bd2, Option.bind_some, LY_si, LY_sl, LY_row, decide_true, decide_false, if_true, ite_true, ite_false, decide_eq_true_eq, yg61, yI61, yP61, yR61_1, yR61_2, yR61_12, yR61_13, yR61_17, yR61_18, yR61_21, yR61_22, yR61_23, yR61_25, yA62, yA63, yA64, yA65, yA66, yA67, yA68, yA69, yA70, yA71, yS62, yS63, yS64, yS65, yS66, yS67, yS68, yS69, yS70, yS71, key']
  · intro rec k q hk hI
    have hl := hI.1
    unfold f_X10_four_l1
    have H2 : LY (z_si q 63 (t + k) (by4 x k)) := hI.1
    have a0 : ∀ g : Z_H, LY g → aI g 62 0 = some (z_i g 62 0) := fun g G => yA62 G (k := 0) (by omega)
    have s0 : ∀ (g : Z_H) (v : Int32), LY g → sI g 62 0 v = some (z_si g 62 0 v) := fun g v G => yS62 G (k := 0) (by omega)
    have e1 : z_i (z_si q 63 (t + k) (by4 x k)) 62 0 = nI (t + k) := hI.2
    have es : sB q 63 (nI (t + k)) ((x >>> (Int32.ofInt (24 - 8 * (k : Int)) &&& 31)) : Int32).toInt8.toInt32 = some (z_si q 63 (t + k) (by4 x k)) := yS63 hI.1 (by omega)
    simp (disch := first | assumption | omega) only [gd, lt, jn, bd2, Option.bind_some, LY_si, LY_sl, LY_row, decide_true, decide_false, if_true, ite_true, ite_false, decide_eq_true_eq, yg61, yI61, yP61, yR61_1, yR61_2, yR61_12, yR61_13, yR61_17, yR61_18, yR61_21, yR61_22, yR61_23, yR61_25, yA62, yA63, yA64, yA65, yA66, yA67, yA68, yA69, yA70, yA71, yS62, yS63, yS64, yS65, yS66, yS67, yS68, yS69, yS70, yS71, a0 q hl, hI.2, es, a0 _ H2, e1, s0 _ _ H2, nI_1]
    rw [if_neg (k24 k hk).1, (k24 k hk).2]
  · intro k q hk hI
    exact ⟨hI.1, rfl⟩
  · intro rec q hI
    unfold f_X10_four_l1
    rfl
theorem by4_fit (x : Int32) (k : Nat) : -128 ≤ by4 x k ∧ by4 x k ≤ 127 := by
  unfold by4
  generalize ((x >>> (Int32.ofInt (24 - 8 * (k : Int)) &&& 31)) : Int32).toInt8.toInt32.toInt8 = y
  rw [Int32.le_iff_toInt_le, Int32.le_iff_toInt_le, Int8.toInt_toInt32]
  have h1 := Int8.le_toInt y
  have h2 := Int8.toInt_lt y
  have e1 : (-128 : Int32).toInt = -128 := rfl
  have e2 : (127 : Int32).toInt = 127 := rfl
  rw [e1, e2]
  omega
def ap20 (f : Nat → Int32) (t : Nat) (a b c d e : Int32) : Nat → Int32 := ap4 (ap4 (ap4 (ap4 (ap4 f t a) (t + 4) b) (t + 8) c) (t + 12) d) (t + 16) e
theorem ap4_c {f g : Nat → Int32} {t : Nat} {x : Int32} (h : ∀ i, i < t → f i = g i) : ∀ i, i < t + 4 → ap4 f t x i = ap4 g t x i := by
  intro i hi
  unfold ap4
  by_cases q : t ≤ i ∧ i < t + 4
  · rw [if_pos q, if_pos q]
  · rw [if_neg q, if_neg q]
    exact h i (by omega)
theorem ap4_fit {f : Nat → Int32} {t : Nat} {x : Int32} (h : ∀ i, i < t → -128 ≤ f i ∧ f i ≤ 127) : ∀ i, i < t + 4 → -128 ≤ ap4 f t x i ∧ ap4 f t x i ≤ 127 := by
  intro i hi
  unfold ap4
  by_cases q : t ≤ i ∧ i < t + 4
  · rw [if_pos q]
    exact by4_fit _ _
  · rw [if_neg q]
    exact h i (by omega)
theorem ap20_c {f g : Nat → Int32} {t : Nat} {a b c d e : Int32} (h : ∀ i, i < t → f i = g i) : ∀ i, i < t + 20 → ap20 f t a b c d e i = ap20 g t a b c d e i := ap4_c (ap4_c (ap4_c (ap4_c (ap4_c h))))
theorem ap20_fit {f : Nat → Int32} {t : Nat} {a b c d e : Int32} (h : ∀ i, i < t → -128 ≤ f i ∧ f i ≤ 127) : ∀ i, i < t + 20 → -128 ≤ ap20 f t a b c d e i ∧ ap20 f t a b c d e i ≤ 127 := ap4_fit (ap4_fit (ap4_fit (ap4_fit (ap4_fit h))))
theorem ap20_hi {f : Nat → Int32} {t : Nat} {a b c d e : Int32} {i : Nat} (hi : t + 20 ≤ i) : ap20 f t a b c d e i = f i := by
  unfold ap20 ap4
  rw [if_neg (by omega), if_neg (by omega), if_neg (by omega), if_neg (by omega), if_neg (by omega)]
theorem op_feed {h : Z_H} (I : Inv h) {a b c d e : Int32} : ∃ r h1 h2, f_X9_feed h 0 a b c d e = some (r, h1) ∧ f_X10_feed h1 61 a b c d e = some (r, h2) ∧ Inv h2 := by
  have H := I.1
  obtain ⟨-, -, -, -, -, -, -, -, t1, t2, t3⟩ := I.v
  obtain ⟨r1, r2, r3, r4⟩ := I.2.1.2.2.2.2.2.2
  have et : z_i h 2 1 = nI (nt (z_i h 62)) := Eq.trans r1 t2
  have a0 : ∀ g : Z_H, LY g → aI g 62 0 = some (z_i g 62 0) := fun g G => yA62 G (k := 0) (by omega)
  generalize ht : nt (z_i h 62) = t at *
  by_cases h6 : t + 20 ≤ 600
  · obtain ⟨g1, x1, y1, z1, w1⟩ := c_append H (x := a) et (by omega)
    obtain ⟨g2, x2, y2, z2, w2⟩ := c_append (y1.ly H) (x := b) z1 (by omega)
    obtain ⟨g3, x3, y3, z3, w3⟩ := c_append (y2.ly (y1.ly H)) (x := c) z2 (by omega)
    obtain ⟨g4, x4, y4, z4, w4⟩ := c_append (y3.ly (y2.ly (y1.ly H))) (x := d) z3 (by omega)
    obtain ⟨g5, x5, y5, z5, w5⟩ := c_append (y4.ly (y3.ly (y2.ly (y1.ly H)))) (x := e) z4 (by omega)
    have yc := (((y1.tr y2).tr y3).tr y4).tr y5
    have Hc := yc.ly H
    have wc : z_i g5 3 = ap20 (z_i h 3) t a b c d e := by rw [w5, w4, w3, w2, w1]; rfl
    have H0 : LY (z_si g5 61 0 0) := Hc
    have e0 : z_i (z_si g5 61 0 0) 62 0 = nI t := by
      rw [z_si_o (by omega), yc.2.2.2 62 (by omega) (by omega)]
      exact t2
    obtain ⟨k1, p1, q1, u1, v1⟩ := e_four H0 (x := a) e0 (by omega)
    obtain ⟨k2, p2, q2, u2, v2⟩ := e_four (q1.ly H0) (x := b) (t := t + 4) (by rw [u1]; exact upd_s) (by omega)
    obtain ⟨k3, p3, q3, u3, v3⟩ := e_four (q2.ly (q1.ly H0)) (x := c) (t := t + 8) (by rw [u2]; exact upd_s) (by omega)
    obtain ⟨k4, p4, q4, u4, v4⟩ := e_four (q3.ly (q2.ly (q1.ly H0))) (x := d) (t := t + 12) (by rw [u3]; exact upd_s) (by omega)
    obtain ⟨k5, p5, q5, u5, v5⟩ := e_four (q4.ly (q3.ly (q2.ly (q1.ly H0)))) (x := e) (t := t + 16) (by rw [u4]; exact upd_s) (by omega)
    have ym := (((q1.tr q2).tr q3).tr q4).tr q5
    have H5 := ym.ly H0
    have wm : z_i k5 63 = ap20 (z_i h 63) t a b c d e := by
      rw [v5, v4, v3, v2, v1, z_si_o (by omega), yc.2.2.2 63 (by omega) (by omega)]
      rfl
    have um : z_i k5 62 = upd (z_i h 62) 0 (nI (t + 20)) := by
      rw [u5, u4, u3, u2, u1, z_si_o (by omega), yc.2.2.2 62 (by omega) (by omega)]
      funext j
      unfold upd
      repeat' split
      all_goals rfl
    refine ⟨nI (t + 20), g5, k5, ?_, ?_, ?_⟩
    · unfold f_X9_feed
      simp (disch := first | assumption | omega) only [gd, lt, jn, bd2, Option.bind_some, LY_si, LY_sl, LY_row, decide_true, decide_false, if_true, ite_true, ite_false, decide_eq_true_eq, yg0, yg1, yg2, yg4, yg13, yg21, yg29, yg35, yg36, yg45, yg50, yg59, yI0, yI1, yI2, yI4, yI13, yI21, yI29, yI35, yI36, yI45, yI50, yI59, yP0, yP1, yP2, yP4, yP13, yP21, yP29, yP35, yP36, yP45, yP50, yP59, yR0_0, yR0_1, yR0_2, yR0_3, yR0_4, yR1_0, yR1_1, yR1_2, yR1_3, yR1_4, yR1_5, yR2_0, yR4_4, yR4_5, yR4_6, yR4_7, yR4_8, yR4_9, yR4_10, yR4_11, yR13_1, yR13_2, yR13_3, yR13_4, yR13_5, yR13_6, yR13_7, yR21_1, yR21_2, yR21_3, yR21_4, yR21_5, yR21_6, yR21_7, yR29_0, yR29_1, yR29_2, yR35_0, yR35_1, yR35_2, yR35_3, yR35_4, yR36_4, yR36_5, yR36_6, yR36_7, yR36_8, yR36_9, yR36_10, yR36_11, yR45_0, yR50_0, yR50_1, yR50_2, yR50_3, yR50_4, yR50_5, yR50_6, yR50_7, yR59_1, yA3, yA5, yA6, yA7, yA8, yA9, yA10, yA11, yA12, yA14, yA15, yA16, yA17, yA18, yA19, yA20, yA22, yA23, yA24, yA25, yA26, yA27, yA28, yA30, yA31, yA32, yA33, yA37, yA38, yA39, yA40, yA41, yA42, yA43, yA44, yA46, yA47, yA48, yA49, yA51, yA52, yA53, yA54, yA55, yA56, yA57, yA58, yA60, yS3, yS5, yS6, yS7, yS8, yS9, yS10, yS11, yS12, yS14, yS15, yS16, yS17, yS18, yS19, yS20, yS22, yS23, yS24, yS25, yS26, yS27, yS28, yS30, yS31, yS32, yS33, yS37, yS38, yS39, yS40, yS41, yS42, yS43, yS44, yS46, yS47, yS48, yS49, yS51, yS52, yS53, yS54, yS55, yS56, yS57, yS58, yS60, et, n_20, nI_add]
      rw [if_pos (show nI (t + 20) ≤ (600 : Int32) from nI_le (b := 600) h6 (by omega)), x1, Option.bind_some, x2, Option.bind_some, x3, Option.bind_some, x4, Option.bind_some, x5]
      simp (disch := first | assumption | omega) only [gd, lt, jn, bd2, Option.bind_some, LY_si, LY_sl, LY_row, decide_true, decide_false, if_true, ite_true, ite_false, decide_eq_true_eq, yg0, yg1, yg2, yg4, yg13, yg21, yg29, yg35, yg36, yg45, yg50, yg59, yI0, yI1, yI2, yI4, yI13, yI21, yI29, yI35, yI36, yI45, yI50, yI59, yP0, yP1, yP2, yP4, yP13, yP21, yP29, yP35, yP36, yP45, yP50, yP59, yR0_0, yR0_1, yR0_2, yR0_3, yR0_4, yR1_0, yR1_1, yR1_2, yR1_3, yR1_4, yR1_5, yR2_0, yR4_4, yR4_5, yR4_6, yR4_7, yR4_8, yR4_9, yR4_10, yR4_11, yR13_1, yR13_2, yR13_3, yR13_4, yR13_5, yR13_6, yR13_7, yR21_1, yR21_2, yR21_3, yR21_4, yR21_5, yR21_6, yR21_7, yR29_0, yR29_1, yR29_2, yR35_0, yR35_1, yR35_2, yR35_3, yR35_4, yR36_4, yR36_5, yR36_6, yR36_7, yR36_8, yR36_9, yR36_10, yR36_11, yR45_0, yR50_0, yR50_1, yR50_2, yR50_3, yR50_4, yR50_5, yR50_6, yR50_7, yR59_1, yA3, yA5, yA6, yA7, yA8, yA9, yA10, yA11, yA12, yA14, yA15, yA16, yA17, yA18, yA19, yA20, yA22, yA23, yA24, yA25, yA26, yA27, yA28, yA30, yA31, yA32, yA33, yA37, yA38, yA39, yA40, yA41, yA42, yA43, yA44, yA46, yA47, yA48, yA49, yA51, yA52, yA53, yA54, yA55, yA56, yA57, yA58, yA60, yS3, yS5, yS6, yS7, yS8, yS9, yS10, yS11, yS12, yS14, yS15, yS16, yS17, yS18, yS19, yS20, yS22, yS23, yS24, yS25, yS26, yS27, yS28, yS30, yS31, yS32, yS33, yS37, yS38, yS39, yS40, yS41, yS42, yS43, yS44, yS46, yS47, yS48, yS49, yS51, yS52, yS53, yS54, yS55, yS56, yS57, yS58, yS60, z5]
    · unfold f_X10_feed
      simp (disch := first | assumption | omega) only [gd, lt, jn, bd2, Option.bind_some, LY_si, LY_sl, LY_row, decide_true, decide_false, if_true, ite_true, ite_false, decide_eq_true_eq, yg61, yI61, yP61, yR61_1, yR61_2, yR61_12, yR61_13, yR61_17, yR61_18, yR61_21, yR61_22, yR61_23, yR61_25, yA62, yA63, yA64, yA65, yA66, yA67, yA68, yA69, yA70, yA71, yS62, yS63, yS64, yS65, yS66, yS67, yS68, yS69, yS70, yS71, a0 _ H0, e0, n_20, nI_add]
      rw [if_pos (show nI (t + 20) ≤ (600 : Int32) from nI_le (b := 600) h6 (by omega)), p1, Option.bind_some, p2, Option.bind_some, p3, Option.bind_some, p4, Option.bind_some, p5]
      simp (disch := first | assumption | omega) only [gd, lt, jn, bd2, Option.bind_some, LY_si, LY_sl, LY_row, decide_true, decide_false, if_true, ite_true, ite_false, decide_eq_true_eq, yg61, yI61, yP61, yR61_1, yR61_2, yR61_12, yR61_13, yR61_17, yR61_18, yR61_21, yR61_22, yR61_23, yR61_25, yA62, yA63, yA64, yA65, yA66, yA67, yA68, yA69, yA70, yA71, yS62, yS63, yS64, yS65, yS66, yS67, yS68, yS69, yS70, yS71, a0 _ H5, um, upd_s]
    · have ent : nt (upd (z_i h 62) 0 (nI (t + 20))) = t + 20 := by unfold nt; rw [upd_s, nI_clamp (by omega)]
      refine I.of ⟨?_, ?_, ?_, fun q hq => ?_, fun j hj => ?_, fun j hj => ?_, ?_⟩ ?_ ?_
      · rw [ym.1]; exact yc.1
      · rw [ym.2.1]; exact yc.2.1
      · rw [ym.2.2.1]; exact yc.2.2.1
      · rw [ym.2.2.2 q (by omega) (by omega), z_si_o (by omega), yc.2.2.2 q (by omega) (by omega)]
      · rw [um, upd_o (by omega)]
      · rw [wm, ap20_hi (by omega)]
      · rw [ym.2.2.2 71 (by omega) (by omega), z_si_o (by omega), yc.2.2.2 71 (by omega) (by omega)]
      · rw [um, wm]
        have ec : ∀ o, o < 32 → o ≠ 1 → o ≠ 2 → cl k5 o = cl h o := fun o h1 h2 h3 => by
          show z_i k5 (1 + o) = z_i h (1 + o)
          rw [ym.2.2.2 _ (by omega) (by omega), z_si_o (by omega), yc.2.2.2 _ (by omega) (by omega)]
        have e2 : z_i k5 2 = z_i g5 2 := by rw [ym.2.2.2 _ (by omega) (by omega), z_si_o (by omega)]
        have e3 : z_i k5 3 = z_i g5 3 := by rw [ym.2.2.2 _ (by omega) (by omega), z_si_o (by omega)]
        refine RS_low I.2.1 (fun j hj => upd_o (by omega)) (fun o h1 h2 => ec o h2 (by omega) (by omega)) (congrFun (ec 0 (by omega) (by omega) (by omega)) 8) ⟨by rw [ent]; exact h6, by rw [ent]; exact upd_s, fun i hi => ap20_fit t3 i (by rw [ent] at hi; exact hi)⟩ ⟨?_, ?_, ?_, fun i hi => ?_⟩
        · show z_i k5 2 1 = _
          rw [e2, z5]
          exact upd_s.symm
        · rw [ec 0 (by omega) (by omega) (by omega)]; exact r2
        · rw [ec 0 (by omega) (by omega) (by omega)]; exact r3
        · show z_i k5 3 i = _
          rw [e3, wc]
          exact ap20_c (fun i hi => r4 i hi) i (by rw [ent] at hi; exact hi)
      · rw [ym.2.2.2 61 (by omega) (by omega), zi_si, if_pos rfl, if_neg (by omega), yc.2.2.2 61 (by omega) (by omega)]
        exact I.2.2.1
  · refine ⟨-1, h, z_si h 61 0 0, ?_, ?_, I.m⟩
    · unfold f_X9_feed
      simp (disch := first | assumption | omega) only [gd, lt, jn, bd2, Option.bind_some, LY_si, LY_sl, LY_row, decide_true, decide_false, if_true, ite_true, ite_false, decide_eq_true_eq, yg0, yg1, yg2, yg4, yg13, yg21, yg29, yg35, yg36, yg45, yg50, yg59, yI0, yI1, yI2, yI4, yI13, yI21, yI29, yI35, yI36, yI45, yI50, yI59, yP0, yP1, yP2, yP4, yP13, yP21, yP29, yP35, yP36, yP45, yP50, yP59, yR0_0, yR0_1, yR0_2, yR0_3, yR0_4, yR1_0, yR1_1, yR1_2, yR1_3, yR1_4, yR1_5, yR2_0, yR4_4, yR4_5, yR4_6, yR4_7, yR4_8, yR4_9, yR4_10, yR4_11, yR13_1, yR13_2, yR13_3, yR13_4, yR13_5, yR13_6, yR13_7, yR21_1, yR21_2, yR21_3, yR21_4, yR21_5, yR21_6, yR21_7, yR29_0, yR29_1, yR29_2, yR35_0, yR35_1, yR35_2, yR35_3, yR35_4, yR36_4, yR36_5, yR36_6, yR36_7, yR36_8, yR36_9, yR36_10, yR36_11, yR45_0, yR50_0, yR50_1, yR50_2, yR50_3, yR50_4, yR50_5, yR50_6, yR50_7, yR59_1, yA3, yA5, yA6, yA7, yA8, yA9, yA10, yA11, yA12, yA14, yA15, yA16, yA17, yA18, yA19, yA20, yA22, yA23, yA24, yA25, yA26, yA27, yA28, yA30, yA31, yA32, yA33, yA37, yA38, yA39, yA40, yA41, yA42, yA43, yA44, yA46, yA47, yA48, yA49, yA51, yA52, yA53, yA54, yA55, yA56, yA57, yA58, yA60, yS3, yS5, yS6, yS7, yS8, yS9, yS10, yS11, yS12, yS14, yS15, yS16, yS17, yS18, yS19, yS20, yS22, yS23, yS24, yS25, yS26, yS27, yS28, yS30, yS31, yS32, yS33, yS37, yS38, yS39, yS40, yS41, yS42, yS43, yS44, yS46, yS47, yS48, yS49, yS51, yS52, yS53, yS54, yS55, yS56, yS57, yS58, yS60, et, n_20, nI_add]
      rw [if_neg (show ¬ nI (t + 20) ≤ (600 : Int32) from nI_ge (a := 600) (by omega) (by omega))]
    · unfold f_X10_feed
      have H1 := I.m.1
      have e1 : z_i (z_si h 61 0 0) 62 0 = nI t := t2
      simp (disch := first | assumption | omega) only [gd, lt, jn, bd2, Option.bind_some, LY_si, LY_sl, LY_row, decide_true, decide_false, if_true, ite_true, ite_false, decide_eq_true_eq, yg61, yI61, yP61, yR61_1, yR61_2, yR61_12, yR61_13, yR61_17, yR61_18, yR61_21, yR61_22, yR61_23, yR61_25, yA62, yA63, yA64, yA65, yA66, yA67, yA68, yA69, yA70, yA71, yS62, yS63, yS64, yS65, yS66, yS67, yS68, yS69, yS70, yS71, a0 _ H1, e1, n_20, nI_add]
      rw [if_neg (show ¬ nI (t + 20) ≤ (600 : Int32) from nI_ge (a := 600) (by omega) (by omega))]
