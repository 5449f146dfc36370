def smo (A : Nat → Int32) (i : Nat) : Nat := (A (1087 + 41 * i + 2)).toNatClampNeg
def wn (A : Nat → Int32) : Nat := (A 6).toNatClampNeg
def naS (A : Nat → Int32) (i : Nat) : Int32 := netS A i (A (1087 + 41 * i + 1))
def owT (A : Nat → Int32) (m t i : Nat) : Int32 := if A (1087 + 41 * i + 0) = nI t ∧ smo A i = m then naS A i else 0
def voT (A : Nat → Int32) (m t i : Nat) : Int32 := if A (1087 + 41 * i + 0) = nI t ∧ smo A i ≤ m ∧ m < smo A i + wn A then naS A i else 0
def owS (A : Nat → Int32) (m t : Nat) : Int32 := sm (owT A m t) (nk A)
def voS (A : Nat → Int32) (m t : Nat) : Int32 := sm (voT A m t) (nk A)
def gnS (A : Nat → Int32) (m t : Nat) : Bool := decide (¬ A (147 + 94 * t + 1) = -1 ∧ A (147 + 94 * t + 1) ≤ nI m)
def thS (A : Nat → Int32) (m t : Nat) : Bool := decide (jo A t ≤ m)
def sc0 (A : Nat → Int32) (m : Nat) : Sn := (nn A, pr A m, thS A m, gnS A m, owS A m, voS A m)
def SLs (c : Nat → Nat → Int32) (A : Nat → Int32) : Prop := nk A ≤ 40 ∧ A 146 = nI (nk A) ∧ c 20 0 = A 146 ∧ ∀ i, i < nk A → (∃ w, w < nn A ∧ A (1087 + 41 * i + 0) = nI w ∧ A (1087 + 41 * i + 2) = nI (smo A i) ∧ smo A i ≤ 99) ∧ ∀ f, f < 5 → c (21 + f) i = A (1087 + 41 * i + f)
def LK (c : Nat → Nat → Int32) (A : Nat → Int32) : Prop := VN A ∧ (∀ s, s < nn A → VC A s) ∧ VP A ∧ (∀ s, s < nn A → VM A s) ∧ VT A ∧ RCc c A ∧ RCp c A ∧ RCm c A ∧ SLs c A
theorem RS.lk {c : Nat → Nat → Int32} {A T : Nat → Int32} (R : RS c A T) : LK c A := by
  obtain ⟨⟨v1, v2, v3, v4, v5, v6, v7, v8, v9⟩, r1, r2, r3, r4, r5, r6⟩ := R
  refine ⟨v1, v2, v4, v5, v6, r1, r3, r4, v3.1, v3.2.1, r2.1, fun i hi => ⟨?_, (r2.2 i hi).1⟩⟩
  obtain ⟨⟨w, mo, to, b1, b2, b3, b4, b5, b6, b7, b8⟩, -⟩ := v3.2.2 i hi
  have h99 := v1.2.2.2.1
  have : smo A i = mo := by unfold smo; rw [b3, nI_clamp (by omega)]
  exact ⟨w, b1, b2, by rw [this]; exact b3, by omega⟩
theorem LK.cg {c c' : Nat → Nat → Int32} {A : Nat → Int32} (L : LK c A) (h : ∀ o, o < 32 → c' o = c o) : LK c' A := by
  obtain ⟨v1, v2, v4, v5, v6, r1, r3, r4, v3, w3, u3, x3⟩ := L
  refine ⟨v1, v2, v4, v5, v6, ?_, ?_, ?_, v3, w3, ?_, fun i hi => ⟨(x3 i hi).1, fun f hf => ?_⟩⟩
  · unfold RCc at *
    rw [h 12 (by omega), h 0 (by omega), h 13 (by omega), h 14 (by omega), h 19 (by omega), h 15 (by omega), h 16 (by omega)]
    exact r1
  · unfold RCp at *
    rw [h 3 (by omega), h 4 (by omega), h 5 (by omega), h 6 (by omega), h 7 (by omega), h 8 (by omega), h 9 (by omega), h 10 (by omega)]
    exact r3
  · unfold RCm at *
    rw [h 17 (by omega), h 18 (by omega)]
    exact r4
  · rw [h 20 (by omega)]; exact u3
  · rw [h (21 + f) (by omega)]; exact (x3 i hi).2 f hf
theorem SCW.lk {h h' : Z_H} (x : SCW h h') {A : Nat → Int32} (L : LK (cl h) A) : LK (cl h') A := L.cg (fun o ho => x.2.2.2 (1 + o) (by omega))
theorem pr_lt {A : Nat → Int32} (hN : VN A) (hM : ∀ s, s < nn A → VM A s) {m : Nat} (hm : m < 1000) : ∀ s p, s < nn A → pr A m s = some p → p < nn A := by
  intro s p hs e
  rcases pr_spec (hM s hs) hs hN hm with ⟨-, -, q⟩ | ⟨p', q1, -, -, q2, -⟩
  · rw [q] at e; cases e
  · rw [q2] at e; cases e; exact q1
theorem VT.ac {A : Nat → Int32} (hT : VT A) (hN : VN A) (hM : ∀ s, s < nn A → VM A s) {m : Nat} (hm : m ≤ 99) : ACy (pr A m) (nn A) := by
  refine ⟨pr_lt hN hM (by omega), fun s hs => ?_⟩
  obtain ⟨k, hk, e⟩ := hT m hm s hs
  exact upk_mono e hk
theorem LK.ok {c : Nat → Nat → Int32} {A : Nat → Int32} (L : LK c A) {m : Nat} (hm : m ≤ 99) : SOK (sc0 A m) := by
  obtain ⟨v1, v2, v4, v5, v6, -⟩ := L
  refine ⟨by have := v1.2.1; show nn A ≤ 11; omega, v6.ac v1 v5 hm, fun s p hs ht hp => ?_⟩
  have hs : s < nn A := hs
  have ht : thS A m s = true := ht
  have hp : pr A m s = some p := hp
  show thS A m p = true
  unfold thS at *
  rw [decide_eq_true_eq] at *
  rcases pr_spec (v5 s hs) hs v1 (m := m) (by omega) with ⟨-, -, q⟩ | ⟨p', q1, -, -, q2, q3⟩
  · rw [q] at hp; cases hp
  · rw [q2] at hp; cases hp; exact q3 ht
def cr6 (h : Z_H) (k : Nat) : Z_H := z_si (z_si (z_si (z_si (z_si (z_si h 52 k 0) 53 k 0) 54 k 0) 55 k 0) 56 k 0) 57 k 0
theorem c_clearRow {h : Z_H} (H : LY h) {k : Nat} (hk : k < 11) : f_X6_clearRow h 50 (nI k) = some (cr6 h k) := by
  unfold f_X6_clearRow cr6
  have H1 : LY (z_si h 52 k 0) := H
  have H2 : LY (z_si (z_si h 52 k 0) 53 k 0) := H
  have H3 : LY (z_si (z_si (z_si h 52 k 0) 53 k 0) 54 k 0) := H
  have H4 : LY (z_si (z_si (z_si (z_si h 52 k 0) 53 k 0) 54 k 0) 55 k 0) := H
  have H5 : LY (z_si (z_si (z_si (z_si (z_si h 52 k 0) 53 k 0) 54 k 0) 55 k 0) 56 k 0) := H
  simp (disch := first | assumption | omega) only [gd, lt, jn, bd2, Option.bind_some, LY_si, LY_sl, LY_row, decide_true, decide_false, if_true, ite_true, ite_false, decide_eq_true_eq, yg0, yg1, yg2, yg4, yg13, yg21, yg29, yg35, yg36, yg45, yg50, yg59, yI0, yI1, yI2, yI4, yI13, yI21, yI29, yI35, yI36, yI45, yI50, yI59, yP0, yP1, yP2, yP4, yP13, yP21, yP29, yP35, yP36, yP45, yP50, yP59, yR0_0, yR0_1, yR0_2, yR0_3, yR0_4, yR1_0, yR1_1, yR1_2, yR1_3, yR1_4, yR1_5, yR2_0, yR4_4, yR4_5, yR4_6, yR4_7, yR4_8, yR4_9, yR4_10, yR4_11, yR13_1, yR13_2, yR13_3, yR13_4, yR13_5, yR13_6, yR13_7, yR21_1, yR21_2, yR21_3, yR21_4, yR21_5, yR21_6, yR21_7, yR29_0, yR29_1, yR29_2, yR35_0, yR35_1, yR35_2, yR35_3, yR35_4, yR36_4, yR36_5, yR36_6, yR36_7, yR36_8, yR36_9, yR36_10, yR36_11, yR45_0, yR50_0, yR50_1, yR50_2, yR50_3, yR50_4, yR50_5, yR50_6, yR50_7, yR59_1, yA3, yA5, yA6, yA7, yA8, yA9, yA10, yA11, yA12, yA14, yA15, yA16, yA17, yA18, yA19, yA20, yA22, yA23, yA24, yA25, yA26, yA27, yA28, yA30, yA31, yA32, yA33, yA37, yA38, yA39, yA40, yA41, yA42, yA43, yA44, yA46, yA47, yA48, yA49, yA51, yA52, yA53, yA54, yA55, yA56, yA57, yA58, yA60, yS3, yS5, yS6, yS7, yS8, yS9, yS10, yS11, yS12, yS14, yS15, yS16, yS17, yS18, yS19, yS20, yS22, yS23, yS24, yS25, yS26, yS27, yS28, yS30, yS31, yS32, yS33, yS37, yS38, yS39, yS40, yS41, yS42, yS43, yS44, yS46, yS47, yS48, yS49, yS51, yS52, yS53, yS54, yS55, yS56, yS57, yS58, yS60]
theorem cr6_o {h : Z_H} {k a : Nat} (ha : a < 52 ∨ 57 < a) : z_i (cr6 h k) a = z_i h a := by
  unfold cr6
  rw [z_si_o (by omega), z_si_o (by omega), z_si_o (by omega), z_si_o (by omega), z_si_o (by omega), z_si_o (by omega)]
theorem cr6_i {h : Z_H} {k a : Nat} (ha : 52 ≤ a ∧ a ≤ 57) : z_i (cr6 h k) a = upd (z_i h a) k 0 := by
  unfold cr6
  have : a = 52 ∨ a = 53 ∨ a = 54 ∨ a = 55 ∨ a = 56 ∨ a = 57 := by omega
  rcases this with rfl | rfl | rfl | rfl | rfl | rfl
  · rw [z_si_o (by omega), z_si_o (by omega), z_si_o (by omega), z_si_o (by omega), z_si_o (by omega), z_si_i]
  · rw [z_si_o (by omega), z_si_o (by omega), z_si_o (by omega), z_si_o (by omega), z_si_i, z_si_o (by omega)]
  · rw [z_si_o (by omega), z_si_o (by omega), z_si_o (by omega), z_si_i, z_si_o (by omega), z_si_o (by omega)]
  · rw [z_si_o (by omega), z_si_o (by omega), z_si_i, z_si_o (by omega), z_si_o (by omega), z_si_o (by omega)]
  · rw [z_si_o (by omega), z_si_i, z_si_o (by omega), z_si_o (by omega), z_si_o (by omega), z_si_o (by omega)]
  · rw [z_si_i, z_si_o (by omega), z_si_o (by omega), z_si_o (by omega), z_si_o (by omega), z_si_o (by omega)]
theorem cr6_w {h : Z_H} {k : Nat} : SCW h (cr6 h k) := (SCW_si (by omega)).tr ((SCW_si (by omega)).tr ((SCW_si (by omega)).tr ((SCW_si (by omega)).tr ((SCW_si (by omega)).tr (SCW_si (by omega))))))
theorem c_netAmount {h : Z_H} (H : LY h) {A : Nat → Int32} (hR : SLs (cl h) A) {i : Nat} (hi : i < nk A) : f_X5_netAmount h 21 (nI i) = some (naS A i) := by
  have h40 := hR.1
  have e1 : z_i h 23 i = A (1087 + 41 * i + 1) := (hR.2.2.2 i hi).2 1 (by omega)
  have e4 : z_i h 26 i = A (1087 + 41 * i + 4) := (hR.2.2.2 i hi).2 4 (by omega)
  unfold f_X5_netAmount
  simp (disch := first | assumption | omega) only [gd, lt, jn, bd2, Option.bind_some, LY_si, LY_sl, LY_row, decide_true, decide_false, if_true, ite_true, ite_false, decide_eq_true_eq, yg0, yg1, yg2, yg4, yg13, yg21, yg29, yg35, yg36, yg45, yg50, yg59, yI0, yI1, yI2, yI4, yI13, yI21, yI29, yI35, yI36, yI45, yI50, yI59, yP0, yP1, yP2, yP4, yP13, yP21, yP29, yP35, yP36, yP45, yP50, yP59, yR0_0, yR0_1, yR0_2, yR0_3, yR0_4, yR1_0, yR1_1, yR1_2, yR1_3, yR1_4, yR1_5, yR2_0, yR4_4, yR4_5, yR4_6, yR4_7, yR4_8, yR4_9, yR4_10, yR4_11, yR13_1, yR13_2, yR13_3, yR13_4, yR13_5, yR13_6, yR13_7, yR21_1, yR21_2, yR21_3, yR21_4, yR21_5, yR21_6, yR21_7, yR29_0, yR29_1, yR29_2, yR35_0, yR35_1, yR35_2, yR35_3, yR35_4, yR36_4, yR36_5, yR36_6, yR36_7, yR36_8, yR36_9, yR36_10, yR36_11, yR45_0, yR50_0, yR50_1, yR50_2, yR50_3, yR50_4, yR50_5, yR50_6, yR50_7, yR59_1, yA3, yA5, yA6, yA7, yA8, yA9, yA10, yA11, yA12, yA14, yA15, yA16, yA17, yA18, yA19, yA20, yA22, yA23, yA24, yA25, yA26, yA27, yA28, yA30, yA31, yA32, yA33, yA37, yA38, yA39, yA40, yA41, yA42, yA43, yA44, yA46, yA47, yA48, yA49, yA51, yA52, yA53, yA54, yA55, yA56, yA57, yA58, yA60, yS3, yS5, yS6, yS7, yS8, yS9, yS10, yS11, yS12, yS14, yS15, yS16, yS17, yS18, yS19, yS20, yS22, yS23, yS24, yS25, yS26, yS27, yS28, yS30, yS31, yS32, yS33, yS37, yS38, yS39, yS40, yS41, yS42, yS43, yS44, yS46, yS47, yS48, yS49, yS51, yS52, yS53, yS54, yS55, yS56, yS57, yS58, yS60, e1, e4, f_X9_net]
  rfl
theorem c_laySales {h : Z_H} (H : LY h) {A : Nat → Int32} {m : Nat} (hm : m ≤ 99) (L : LK (cl h) A) (h8 : z_i h 50 8 = nI m) (h0 : ∀ t, t < nn A → z_i h 52 t = 0 ∧ z_i h 53 t = 0) : ∃ h', f_X6_laySales h 50 21 (nI (wn A)) = some h' ∧ SCW h h' ∧ (∀ a, a ≠ 52 → a ≠ 53 → z_i h' a = z_i h a) ∧ ∀ t, t < nn A → z_i h' 52 t = owS A m t ∧ z_i h' 53 t = voS A m t := by
  have hN := L.1
  have h10 := hN.2.1
  have hS := L.2.2.2.2.2.2.2.2
  obtain ⟨s1, s2, s3, s4⟩ := hS
  obtain ⟨w, w1, w2, w3⟩ := L.2.2.1.2.2.2.1
  have ew : wn A = w := by unfold wn; rw [w3, nI_clamp (by omega)]
  have key := lp_ex (b := f_X6_laySales_l1 50 21 (nI (wn A))) (fun k (g : Z_H) => (nI k, g)) (fun k g => SCW h g ∧ (∀ a, a ≠ 52 → a ≠ 53 → z_i g a = z_i h a) ∧ ∀ t, t < nn A → z_i g 52 t = sm (owT A m t) k ∧ z_i g 53 t = sm (voT A m t) k) some (nk A) ?_ ?_ (nk A) FU 0 h (by omega) (by unfold FU; omega) ⟨SCW.rf, fun _ _ _ => rfl, fun t ht => h0 t ht⟩
  · obtain ⟨g, ⟨g1, g2, g3⟩, e⟩ := key
    have e' : lp (f_X6_laySales_l1 50 21 (nI (wn A))) FU (0, h) = some g := e
    refine ⟨g, ?_, g1, g2, g3⟩
    unfold f_X6_laySales
    simp (disch := first | assumption | omega) only [gd, lt, jn, bd2, Option.bind_some, LY_si, LY_sl, LY_row, decide_true, decide_false, if_true, ite_true, ite_false, decide_eq_true_eq, yg0, yg1, yg2, yg4, yg13, yg21, yg29, yg35, yg36, yg45, yg50, yg59, yI0, yI1, yI2, yI4, yI13, yI21, yI29, yI35, yI36, yI45, yI50, yI59, yP0, yP1, yP2, yP4, yP13, yP21, yP29, yP35, yP36, yP45, yP50, yP59, yR0_0, yR0_1, yR0_2, yR0_3, yR0_4, yR1_0, yR1_1, yR1_2, yR1_3, yR1_4, yR1_5, yR2_0, yR4_4, yR4_5, yR4_6, yR4_7, yR4_8, yR4_9, yR4_10, yR4_11, yR13_1, yR13_2, yR13_3, yR13_4, yR13_5, yR13_6, yR13_7, yR21_1, yR21_2, yR21_3, yR21_4, yR21_5, yR21_6, yR21_7, yR29_0, yR29_1, yR29_2, yR35_0, yR35_1, yR35_2, yR35_3, yR35_4, yR36_4, yR36_5, yR36_6, yR36_7, yR36_8, yR36_9, yR36_10, yR36_11, yR45_0, yR50_0, yR50_1, yR50_2, yR50_3, yR50_4, yR50_5, yR50_6, yR50_7, yR59_1, yA3, yA5, yA6, yA7, yA8, yA9, yA10, yA11, yA12, yA14, yA15, yA16, yA17, yA18, yA19, yA20, yA22, yA23, yA24, yA25, yA26, yA27, yA28, yA30, yA31, yA32, yA33, yA37, yA38, yA39, yA40, yA41, yA42, yA43, yA44, yA46, yA47, yA48, yA49, yA51, yA52, yA53, yA54, yA55, yA56, yA57, yA58, yA60, yS3, yS5, yS6, yS7, yS8, yS9, yS10, yS11, yS12, yS14, yS15, yS16, yS17, yS18, yS19, yS20, yS22, yS23, yS24, yS25, yS26, yS27, yS28, yS30, yS31, yS32, yS33, yS37, yS38, yS39, yS40, yS41, yS42, yS43, yS44, yS46, yS47, yS48, yS49, yS51, yS52, yS53, yS54, yS55, yS56, yS57, yS58, yS60, e']
  · rintro k g hk ⟨g1, g2, g3⟩
    have G := g1.ly H
    have Lg := g1.lk L
    obtain ⟨⟨v, v1, v2, v3, v4⟩, v5⟩ := s4 k hk
    have c0 : z_i g 21 0 = nI (nk A) := by rw [g2 21 (by omega) (by omega)]; exact Eq.trans s3 s2
    have c8 : z_i g 50 8 = nI m := by rw [g2 50 (by omega) (by omega)]; exact h8
    have c24 : z_i g 24 k = nI (smo A k) := by rw [g2 24 (by omega) (by omega)]; exact Eq.trans (v5 2 (by omega)) v3
    have c22 : z_i g 22 k = nI v := by rw [g2 22 (by omega) (by omega)]; exact Eq.trans (v5 0 (by omega)) v2
    have cn := c_netAmount (i := k) G Lg.2.2.2.2.2.2.2.2 hk
    have skip : ∀ t, ¬ (smo A k ≤ m ∧ m < smo A k + wn A) → owT A m t k = 0 ∧ voT A m t k = 0 := by
      intro t hw
      unfold owT voT
      exact ⟨if_neg (fun q => hw (by rw [ew]; omega)), if_neg (fun q => hw q.2)⟩
    by_cases hw : smo A k ≤ m ∧ m < smo A k + wn A
    · have ea : nI m - nI (smo A k) = nI (m - smo A k) := nI_sub hw.1
      obtain ⟨g32, g33⟩ := g3 v v1
      let o' := sm (owT A m v) k + (if nI (m - smo A k) = 0 then naS A k else 0)
      let g' := z_si (z_si g 53 v (sm (voT A m v) k + naS A k)) 52 v o'
      have G1 : LY (z_si g 53 v (sm (voT A m v) k + naS A k)) := G
      refine ⟨g', ⟨g1.tr ((SCW_si (by omega)).tr (SCW_si (by omega))), fun a h1 h2 => ?_, fun t ht => ?_⟩, fun rec => ?_⟩
      · show z_i (z_si (z_si g 53 v _) 52 v _) a = _
        rw [z_si_o h1, z_si_o h2]
        exact g2 a h1 h2
      · have w52 : z_i g' 52 = upd (z_i g 52) v o' := by
          show z_i (z_si (z_si g 53 v _) 52 v _) 52 = _
          rw [z_si_i]
          rfl
        have w53 : z_i g' 53 = upd (z_i g 53) v (sm (voT A m v) k + naS A k) := by
          show z_i (z_si (z_si g 53 v _) 52 v _) 53 = _
          rw [z_si_o (by omega), z_si_i]
        rw [w52, w53]
        show _ = sm (owT A m t) k + owT A m t k ∧ _ = sm (voT A m t) k + voT A m t k
        by_cases e : t = v
        · rw [e, upd_s, upd_s]
          constructor
          · show sm (owT A m v) k + (if nI (m - smo A k) = 0 then naS A k else 0) = sm (owT A m v) k + owT A m v k
            congr 1
            unfold owT
            by_cases e0 : smo A k = m
            · rw [if_pos (by rw [e0, Nat.sub_self]; rfl), if_pos ⟨v2, e0⟩]
            · rw [if_neg (fun q => by
                have := (nI_eq (b := 0) (by omega) (by omega)).mp q
                omega), if_neg (fun q => e0 q.2)]
          · congr 1
            unfold voT
            rw [if_pos ⟨v2, hw⟩]
        · have en : ¬ A (1087 + 41 * k + 0) = nI t := fun q => e (by
            rw [v2] at q
            exact ((nI_eq (by omega) (by omega)).mp q).symm)
          rw [upd_o e, upd_o e]
          unfold owT voT
          rw [if_neg (fun q => en q.1), if_neg (fun q => en q.1), add_0, add_0]
          exact g3 t ht
      · unfold f_X6_laySales_l1
        have c52 : z_i (z_si g 53 v (sm (voT A m v) k + naS A k)) 52 v = sm (owT A m v) k := g32
        simp (disch := first | assumption | omega) only [gd, lt, jn, bd2, Option.bind_some, LY_si, LY_sl, LY_row, decide_true, decide_false, if_true, ite_true, ite_false, decide_eq_true_eq, yg0, yg1, yg2, yg4, yg13, yg21, yg29, yg35, yg36, yg45, yg50, yg59, yI0, yI1, yI2, yI4, yI13, yI21, yI29, yI35, yI36, yI45, yI50, yI59, yP0, yP1, yP2, yP4, yP13, yP21, yP29, yP35, yP36, yP45, yP50, yP59, yR0_0, yR0_1, yR0_2, yR0_3, yR0_4, yR1_0, yR1_1, yR1_2, yR1_3, yR1_4, yR1_5, yR2_0, yR4_4, yR4_5, yR4_6, yR4_7, yR4_8, yR4_9, yR4_10, yR4_11, yR13_1, yR13_2, yR13_3, yR13_4, yR13_5, yR13_6, yR13_7, yR21_1, yR21_2, yR21_3, yR21_4, yR21_5, yR21_6, yR21_7, yR29_0, yR29_1, yR29_2, yR35_0, yR35_1, yR35_2, yR35_3, yR35_4, yR36_4, yR36_5, yR36_6, yR36_7, yR36_8, yR36_9, yR36_10, yR36_11, yR45_0, yR50_0, yR50_1, yR50_2, yR50_3, yR50_4, yR50_5, yR50_6, yR50_7, yR59_1, yA3, yA5, yA6, yA7, yA8, yA9, yA10, yA11, yA12, yA14, yA15, yA16, yA17, yA18, yA19, yA20, yA22, yA23, yA24, yA25, yA26, yA27, yA28, yA30, yA31, yA32, yA33, yA37, yA38, yA39, yA40, yA41, yA42, yA43, yA44, yA46, yA47, yA48, yA49, yA51, yA52, yA53, yA54, yA55, yA56, yA57, yA58, yA60, yS3, yS5, yS6, yS7, yS8, yS9, yS10, yS11, yS12, yS14, yS15, yS16, yS17, yS18, yS19, yS20, yS22, yS23, yS24, yS25, yS26, yS27, yS28, yS30, yS31, yS32, yS33, yS37, yS38, yS39, yS40, yS41, yS42, yS43, yS44, yS46, yS47, yS48, yS49, yS51, yS52, yS53, yS54, yS55, yS56, yS57, yS58, yS60, c0, c8, c24, ea, c22, cn, g33, c52, nI_1]
        rw [if_neg (nI_ge hk (by omega)), if_neg (nI_pos (by omega)), if_neg (nI_ge (by omega) (by omega))]
        show _ = rec (nI (k + 1), z_si (z_si g 53 v (sm (voT A m v) k + naS A k)) 52 v (sm (owT A m v) k + (if nI (m - smo A k) = 0 then naS A k else 0)))
        split <;> rfl
    · refine ⟨g, ⟨g1, g2, fun t ht => ?_⟩, fun rec => ?_⟩
      · show _ = sm (owT A m t) k + owT A m t k ∧ _ = sm (voT A m t) k + voT A m t k
        rw [(skip t hw).1, (skip t hw).2, add_0, add_0]
        exact g3 t ht
      · unfold f_X6_laySales_l1
        simp (disch := first | assumption | omega) only [gd, lt, jn, bd2, Option.bind_some, LY_si, LY_sl, LY_row, decide_true, decide_false, if_true, ite_true, ite_false, decide_eq_true_eq, yg0, yg1, yg2, yg4, yg13, yg21, yg29, yg35, yg36, yg45, yg50, yg59, yI0, yI1, yI2, yI4, yI13, yI21, yI29, yI35, yI36, yI45, yI50, yI59, yP0, yP1, yP2, yP4, yP13, yP21, yP29, yP35, yP36, yP45, yP50, yP59, yR0_0, yR0_1, yR0_2, yR0_3, yR0_4, yR1_0, yR1_1, yR1_2, yR1_3, yR1_4, yR1_5, yR2_0, yR4_4, yR4_5, yR4_6, yR4_7, yR4_8, yR4_9, yR4_10, yR4_11, yR13_1, yR13_2, yR13_3, yR13_4, yR13_5, yR13_6, yR13_7, yR21_1, yR21_2, yR21_3, yR21_4, yR21_5, yR21_6, yR21_7, yR29_0, yR29_1, yR29_2, yR35_0, yR35_1, yR35_2, yR35_3, yR35_4, yR36_4, yR36_5, yR36_6, yR36_7, yR36_8, yR36_9, yR36_10, yR36_11, yR45_0, yR50_0, yR50_1, yR50_2, yR50_3, yR50_4, yR50_5, yR50_6, yR50_7, yR59_1, yA3, yA5, yA6, yA7, yA8, yA9, yA10, yA11, yA12, yA14, yA15, yA16, yA17, yA18, yA19, yA20, yA22, yA23, yA24, yA25, yA26, yA27, yA28, yA30, yA31, yA32, yA33, yA37, yA38, yA39, yA40, yA41, yA42, yA43, yA44, yA46, yA47, yA48, yA49, yA51, yA52, yA53, yA54, yA55, yA56, yA57, yA58, yA60, yS3, yS5, yS6, yS7, yS8, yS9, yS10, yS11, yS12, yS14, yS15, yS16, yS17, yS18, yS19, yS20, yS22, yS23, yS24, yS25, yS26, yS27, yS28, yS30, yS31, yS32, yS33, yS37, yS38, yS39, yS40, yS41, yS42, yS43, yS44, yS46, yS47, yS48, yS49, yS51, yS52, yS53, yS54, yS55, yS56, yS57, yS58, yS60, c0, c8, c24, nI_1]
        rw [if_neg (nI_ge hk (by omega))]
        by_cases c : smo A k ≤ m
        · have ea : nI m - nI (smo A k) = nI (m - smo A k) := nI_sub c
          rw [ea, if_neg (nI_pos (by omega)), if_pos (nI_le (by omega) (by omega))]
        · rw [if_pos (sub_neg (by omega) (by omega))]
  · rintro rec g ⟨g1, g2, g3⟩
    have G := g1.ly H
    have c0 : z_i g 21 0 = nI (nk A) := by rw [g2 21 (by omega) (by omega)]; exact Eq.trans s3 s2
    unfold f_X6_laySales_l1
    simp (disch := first | assumption | omega) only [gd, lt, jn, bd2, Option.bind_some, LY_si, LY_sl, LY_row, decide_true, decide_false, if_true, ite_true, ite_false, decide_eq_true_eq, yg0, yg1, yg2, yg4, yg13, yg21, yg29, yg35, yg36, yg45, yg50, yg59, yI0, yI1, yI2, yI4, yI13, yI21, yI29, yI35, yI36, yI45, yI50, yI59, yP0, yP1, yP2, yP4, yP13, yP21, yP29, yP35, yP36, yP45, yP50, yP59, yR0_0, yR0_1, yR0_2, yR0_3, yR0_4, yR1_0, yR1_1, yR1_2, yR1_3, yR1_4, yR1_5, yR2_0, yR4_4, yR4_5, yR4_6, yR4_7, yR4_8, yR4_9, yR4_10, yR4_11, yR13_1, yR13_2, yR13_3, yR13_4, yR13_5, yR13_6, yR13_7, yR21_1, yR21_2, yR21_3, yR21_4, yR21_5, yR21_6, yR21_7, yR29_0, yR29_1, yR29_2, yR35_0, yR35_1, yR35_2, yR35_3, yR35_4, yR36_4, yR36_5, yR36_6, yR36_7, yR36_8, yR36_9, yR36_10, yR36_11, yR45_0, yR50_0, yR50_1, yR50_2, yR50_3, yR50_4, yR50_5, yR50_6, yR50_7, yR59_1, yA3, yA5, yA6, yA7, yA8, yA9, yA10, yA11, yA12, yA14, yA15, yA16, yA17, yA18, yA19, yA20, yA22, yA23, yA24, yA25, yA26, yA27, yA28, yA30, yA31, yA32, yA33, yA37, yA38, yA39, yA40, yA41, yA42, yA43, yA44, yA46, yA47, yA48, yA49, yA51, yA52, yA53, yA54, yA55, yA56, yA57, yA58, yA60, yS3, yS5, yS6, yS7, yS8, yS9, yS10, yS11, yS12, yS14, yS15, yS16, yS17, yS18, yS19, yS20, yS22, yS23, yS24, yS25, yS26, yS27, yS28, yS30, yS31, yS32, yS33, yS37, yS38, yS39, yS40, yS41, yS42, yS43, yS44, yS46, yS47, yS48, yS49, yS51, yS52, yS53, yS54, yS55, yS56, yS57, yS58, yS60, c0]
    rw [if_pos (nI_le (Nat.le_refl _) (by omega))]
theorem c_lay {h : Z_H} (H : LY h) {A : Nat → Int32} {m : Nat} (hm : m ≤ 99) (L : LK (cl h) A) : ∃ h', f_X6_lay h 50 1 (nI m) = some h' ∧ SCW h h' ∧ Lay h' (sc0 A m) m ∧ Lay0 h' (sc0 A m) := by
  have hN := L.1
  have h10 := hN.2.1
  obtain ⟨w, w1, w2, w3⟩ := L.2.2.1.2.2.2.1
  have ew : wn A = w := by unfold wn; rw [w3, nI_clamp (by omega)]
  have e13 : z_i h 13 0 = nI (nn A) := Eq.trans L.2.2.2.2.2.1.1 hN.2.2.1
  let h6 := z_si (z_si (z_si (z_si h 50 8 (nI m)) 50 12 (nI (nn A))) 50 11 0) 50 10 0
  have W6 : SCW h h6 := (SCW_si (by omega)).tr ((SCW_si (by omega)).tr ((SCW_si (by omega)).tr (SCW_si (by omega))))
  have H6 : LY h6 := H
  have key := lp_ex (b := f_X6_lay_l1 50 13) (fun k (g : Z_H) => (nI k, g)) (fun k g => SCW h g ∧ z_i g 50 8 = nI m ∧ z_i g 50 12 = nI (nn A) ∧ z_i g 50 11 = nI (bsN (thS A m) k) ∧ z_i g 50 10 = nI (bsN (gnS A m) k) ∧ ∀ t, t < k → z_i g 51 t = pe (pr A m t) ∧ ∀ a, 52 ≤ a → a ≤ 57 → z_i g a t = 0) some (nn A) ?_ ?_ (nn A) FU 0 h6 (by omega) (by unfold FU; omega) ⟨W6, rfl, rfl, rfl, rfl, fun t ht => by omega⟩
  · obtain ⟨g, ⟨g1, g2, g3, g4, g5, g6⟩, e⟩ := key
    have e' : lp (f_X6_lay_l1 50 13) FU (0, h6) = some g := e
    have G := g1.ly H
    have Lg := g1.lk L
    obtain ⟨q, x1, x2, x3, x4⟩ := c_laySales G hm Lg g2 (fun t ht => ⟨(g6 t ht).2 52 (by omega) (by omega), (g6 t ht).2 53 (by omega) (by omega)⟩)
    have c43 : z_i g 4 3 = nI (wn A) := by
      rw [g1.2.2.2 4 (by omega), ew]
      exact Eq.trans (L.2.2.2.2.2.2.1.1 3 (by omega)) w3
    refine ⟨q, ?_, g1.tr x2, ⟨?_, ?_, ?_, ?_, fun t ht => ⟨?_, (x4 t ht).1, (x4 t ht).2⟩⟩, fun t ht => ?_⟩
    · unfold f_X6_lay
      have d1 : z_i (z_si h 50 8 (nI m)) 13 0 = nI (nn A) := e13
      have Ha : LY (z_si h 50 8 (nI m)) := H
      have Hb : LY (z_si (z_si h 50 8 (nI m)) 50 12 (nI (nn A))) := H
      have Hc : LY (z_si (z_si (z_si h 50 8 (nI m)) 50 12 (nI (nn A))) 50 11 0) := H
      have e'' : lp (f_X6_lay_l1 50 13) FU (0, z_si (z_si (z_si (z_si h 50 8 (nI m)) 50 12 (nI (nn A))) 50 11 0) 50 10 0) = some g := e'
      simp (disch := first | assumption | omega) only [gd, lt, jn, bd2, Option.bind_some, LY_si, LY_sl, LY_row, decide_true, decide_false, if_true, ite_true, ite_false, decide_eq_true_eq, yg0, yg1, yg2, yg4, yg13, yg21, yg29, yg35, yg36, yg45, yg50, yg59, yI0, yI1, yI2, yI4, yI13, yI21, yI29, yI35, yI36, yI45, yI50, yI59, yP0, yP1, yP2, yP4, yP13, yP21, yP29, yP35, yP36, yP45, yP50, yP59, yR0_0, yR0_1, yR0_2, yR0_3, yR0_4, yR1_0, yR1_1, yR1_2, yR1_3, yR1_4, yR1_5, yR2_0, yR4_4, yR4_5, yR4_6, yR4_7, yR4_8, yR4_9, yR4_10, yR4_11, yR13_1, yR13_2, yR13_3, yR13_4, yR13_5, yR13_6, yR13_7, yR21_1, yR21_2, yR21_3, yR21_4, yR21_5, yR21_6, yR21_7, yR29_0, yR29_1, yR29_2, yR35_0, yR35_1, yR35_2, yR35_3, yR35_4, yR36_4, yR36_5, yR36_6, yR36_7, yR36_8, yR36_9, yR36_10, yR36_11, yR45_0, yR50_0, yR50_1, yR50_2, yR50_3, yR50_4, yR50_5, yR50_6, yR50_7, yR59_1, yA3, yA5, yA6, yA7, yA8, yA9, yA10, yA11, yA12, yA14, yA15, yA16, yA17, yA18, yA19, yA20, yA22, yA23, yA24, yA25, yA26, yA27, yA28, yA30, yA31, yA32, yA33, yA37, yA38, yA39, yA40, yA41, yA42, yA43, yA44, yA46, yA47, yA48, yA49, yA51, yA52, yA53, yA54, yA55, yA56, yA57, yA58, yA60, yS3, yS5, yS6, yS7, yS8, yS9, yS10, yS11, yS12, yS14, yS15, yS16, yS17, yS18, yS19, yS20, yS22, yS23, yS24, yS25, yS26, yS27, yS28, yS30, yS31, yS32, yS33, yS37, yS38, yS39, yS40, yS41, yS42, yS43, yS44, yS46, yS47, yS48, yS49, yS51, yS52, yS53, yS54, yS55, yS56, yS57, yS58, yS60, d1, e'', c43, x1]
    · rw [x3 50 (by omega) (by omega)]; exact g2
    · rw [x3 50 (by omega) (by omega)]; exact g3
    · rw [x3 50 (by omega) (by omega)]; exact g4
    · rw [x3 50 (by omega) (by omega)]; exact g5
    · rw [x3 51 (by omega) (by omega)]; exact (g6 t ht).1
    · rw [x3 54 (by omega) (by omega), x3 55 (by omega) (by omega), x3 56 (by omega) (by omega), x3 57 (by omega) (by omega)]
      exact ⟨(g6 t ht).2 54 (by omega) (by omega), (g6 t ht).2 55 (by omega) (by omega), (g6 t ht).2 56 (by omega) (by omega), (g6 t ht).2 57 (by omega) (by omega)⟩
  · rintro k g hk ⟨g1, g2, g3, g4, g5, g6⟩
    have G := g1.ly H
    have W1 : SCW h (cr6 g k) := g1.tr cr6_w
    have G1 := W1.ly H
    have L1 := W1.lk L
    have d8 : z_i (cr6 g k) 50 8 = nI m := by rw [cr6_o (by omega)]; exact g2
    have sp := c_sponsorAt (s := k) (m := m) G1 hN L1.2.2.2.2.2.1 L1.2.2.2.2.2.2.2.1 (L.2.2.2.1 k hk) hk (by omega)
    rw [sp_pe (L.2.2.2.1 k hk) hk hN (by omega)] at sp
    let a1 := z_si (cr6 g k) 51 k (pe (pr A m k))
    have W2 : SCW h a1 := W1.tr (SCW_si (by omega))
    have A1 : LY a1 := W2.ly H
    have c14 : z_i a1 14 k = nI (jo A k) := by
      show z_i (z_si (cr6 g k) 51 k (pe (pr A m k))) 14 k = _
      rw [z_si_o (by omega), W1.2.2.2 14 (by omega)]
      exact Eq.trans (L.2.2.2.2.2.1.2.2 k hk).1 (L.2.1 k hk).1
    have f11 : z_i a1 50 11 = nI (bsN (thS A m) k) := by
      show z_i (z_si (cr6 g k) 51 k (pe (pr A m k))) 50 11 = _
      rw [z_si_o (by omega), cr6_o (by omega)]
      exact g4
    have f8 : z_i a1 50 8 = nI m := by
      show z_i (z_si (cr6 g k) 51 k (pe (pr A m k))) 50 8 = _
      rw [z_si_o (by omega)]
      exact d8
    have hjo : jo A k ≤ 99 := by have := (L.2.1 k hk).2.1; have := hN.2.2.2.1; omega
    have vT : nI (bsN (thS A m) k) ||| (if thS A m k then (1 : Int32) <<< (nI k &&& 31) else 0) = nI (bsN (thS A m) (k + 1)) := bs_or (by omega)
    let a2 := z_si a1 50 11 (nI (bsN (thS A m) (k + 1)))
    have W3 : SCW h a2 := W2.tr (SCW_si (by omega))
    have A2 : LY a2 := W3.ly H
    have L3 := W3.lk L
    have hl := c_hasLeft (s := k) A2 L3.2.2.2.2.2.1 hN hk
    have c15 : z_i a2 15 k = A (147 + 94 * k + 1) := by
      rw [W3.2.2.2 15 (by omega)]
      exact (L.2.2.2.2.2.1.2.2 k hk).2.1
    have f10 : z_i a2 50 10 = nI (bsN (gnS A m) k) := by
      show z_i (z_si (z_si (cr6 g k) 51 k (pe (pr A m k))) 50 11 _) 50 10 = _
      rw [zi_si, if_pos rfl, if_neg (by omega), z_si_o (by omega), cr6_o (by omega)]
      exact g5
    have f8' : z_i a2 50 8 = nI m := by
      show z_i (z_si a1 50 11 _) 50 8 = _
      rw [zi_si, if_pos rfl, if_neg (by omega)]
      exact f8
    have vG : nI (bsN (gnS A m) k) ||| (if gnS A m k then (1 : Int32) <<< (nI k &&& 31) else 0) = nI (bsN (gnS A m) (k + 1)) := bs_or (by omega)
    let a3 := z_si a2 50 10 (nI (bsN (gnS A m) (k + 1)))
    have W4 : SCW h a3 := W3.tr (SCW_si (by omega))
    have r50 : ∀ j, z_i a3 50 j = if j = 10 then nI (bsN (gnS A m) (k + 1)) else if j = 11 then nI (bsN (thS A m) (k + 1)) else z_i g 50 j := by
      intro j
      show z_i (z_si (z_si (z_si (cr6 g k) 51 k (pe (pr A m k))) 50 11 _) 50 10 _) 50 j = _
      rw [zi_si, if_pos rfl, zi_si, if_pos rfl, z_si_o (by omega), cr6_o (by omega)]
    have r51 : z_i a3 51 = upd (z_i g 51) k (pe (pr A m k)) := by
      show z_i (z_si (z_si (z_si (cr6 g k) 51 k (pe (pr A m k))) 50 11 _) 50 10 _) 51 = _
      rw [z_si_o (by omega), z_si_o (by omega), z_si_i, cr6_o (by omega)]
    have r6 : ∀ a, 52 ≤ a → a ≤ 57 → z_i a3 a = upd (z_i g a) k 0 := by
      intro a h1 h2
      show z_i (z_si (z_si (z_si (cr6 g k) 51 k (pe (pr A m k))) 50 11 _) 50 10 _) a = _
      rw [z_si_o (by omega), z_si_o (by omega), z_si_o (by omega), cr6_i ⟨h1, h2⟩]
    refine ⟨a3, ⟨W4, ?_, ?_, ?_, ?_, fun t ht => ?_⟩, fun rec => ?_⟩
    · rw [r50, if_neg (by omega), if_neg (by omega)]; exact g2
    · rw [r50, if_neg (by omega), if_neg (by omega)]; exact g3
    · rw [r50, if_neg (by omega), if_pos rfl]
    · rw [r50, if_pos rfl]
    · rw [r51]
      by_cases e : t = k
      · rw [e, upd_s]
        exact ⟨rfl, fun a h1 h2 => by rw [r6 a h1 h2, upd_s]⟩
      · rw [upd_o e]
        exact ⟨(g6 t (by omega)).1, fun a h1 h2 => by rw [r6 a h1 h2, upd_o e]; exact (g6 t (by omega)).2 a h1 h2⟩
    · unfold f_X6_lay_l1
      have s1 : sI (cr6 g k) 51 (nI k) (pe (pr A m k)) = some a1 := yS51 G1 (by omega)
      have p11 : ∀ v, pI a1 50 6 11 v = some (z_si a1 50 11 v) := fun v => yP50 A1 11 v
      have cT : (nI m < nI (jo A k) ∧ nI (bsN (thS A m) k) ||| 0 = nI (bsN (thS A m) (k + 1))) ∨ (¬ nI m < nI (jo A k) ∧ nI (bsN (thS A m) k) ||| ((1 : Int32) <<< (nI k &&& 31)) = nI (bsN (thS A m) (k + 1))) := by
        unfold thS at vT ⊢
        by_cases c : jo A k ≤ m
        · rw [if_pos (by simpa using c)] at vT
          exact Or.inr ⟨nI_nlt c (by omega), vT⟩
        · rw [if_neg (by simpa using c)] at vT
          exact Or.inl ⟨nI_lt (by omega) (by omega), vT⟩
      have cG : (A (147 + 94 * k + 1) = -1 ∧ nI (bsN (gnS A m) k) ||| 0 = nI (bsN (gnS A m) (k + 1))) ∨ (¬ A (147 + 94 * k + 1) = -1 ∧ nI m < A (147 + 94 * k + 1) ∧ nI (bsN (gnS A m) k) ||| 0 = nI (bsN (gnS A m) (k + 1))) ∨ (¬ A (147 + 94 * k + 1) = -1 ∧ ¬ nI m < A (147 + 94 * k + 1) ∧ nI (bsN (gnS A m) k) ||| ((1 : Int32) <<< (nI k &&& 31)) = nI (bsN (gnS A m) (k + 1))) := by
        by_cases c : A (147 + 94 * k + 1) = -1
        · rw [if_neg (by unfold gnS; simp [c])] at vG
          exact Or.inl ⟨c, vG⟩
        · by_cases c2 : nI m < A (147 + 94 * k + 1)
          · rw [if_neg (by
              unfold gnS
              simp only [decide_eq_true_eq]
              exact fun q => absurd c2 (Int32.not_lt.mpr q.2))] at vG
            exact Or.inr (Or.inl ⟨c, c2, vG⟩)
          · rw [if_pos (by
              unfold gnS
              simp only [decide_eq_true_eq]
              exact ⟨c, Int32.not_lt.mp c2⟩)] at vG
            exact Or.inr (Or.inr ⟨c, c2, vG⟩)
      have ea2 : z_si a1 50 11 (nI (bsN (thS A m) (k + 1))) = a2 := rfl
      simp (disch := first | assumption | omega) only [gd, lt, jn, bd2, Option.bind_some, LY_si, LY_sl, LY_row, decide_true, decide_false, if_true, ite_true, ite_false, decide_eq_true_eq, yg0, yg1, yg2, yg4, yg13, yg21, yg29, yg35, yg36, yg45, yg50, yg59, yI0, yI1, yI2, yI4, yI13, yI21, yI29, yI35, yI36, yI45, yI50, yI59, yP0, yP1, yP2, yP4, yP13, yP21, yP29, yP35, yP36, yP45, yP50, yP59, yR0_0, yR0_1, yR0_2, yR0_3, yR0_4, yR1_0, yR1_1, yR1_2, yR1_3, yR1_4, yR1_5, yR2_0, yR4_4, yR4_5, yR4_6, yR4_7, yR4_8, yR4_9, yR4_10, yR4_11, yR13_1, yR13_2, yR13_3, yR13_4, yR13_5, yR13_6, yR13_7, yR21_1, yR21_2, yR21_3, yR21_4, yR21_5, yR21_6, yR21_7, yR29_0, yR29_1, yR29_2, yR35_0, yR35_1, yR35_2, yR35_3, yR35_4, yR36_4, yR36_5, yR36_6, yR36_7, yR36_8, yR36_9, yR36_10, yR36_11, yR45_0, yR50_0, yR50_1, yR50_2, yR50_3, yR50_4, yR50_5, yR50_6, yR50_7, yR59_1, yA3, yA5, yA6, yA7, yA8, yA9, yA10, yA11, yA12, yA14, yA15, yA16, yA17, yA18, yA19, yA20, yA22, yA23, yA24, yA25, yA26, yA27, yA28, yA30, yA31, yA32, yA33, yA37, yA38, yA39, yA40, yA41, yA42, yA43, yA44, yA46, yA47, yA48, yA49, yA51, yA52, yA53, yA54, yA55, yA56, yA57, yA58, yA60, yS3, yS5, yS6, yS7, yS8, yS9, yS10, yS11, yS12, yS14, yS15, yS16, yS17, yS18, yS19, yS20, yS22, yS23, yS24, yS25, yS26, yS27, yS28, yS30, yS31, yS32, yS33, yS37, yS38, yS39, yS40, yS41, yS42, yS43, yS44, yS46, yS47, yS48, yS49, yS51, yS52, yS53, yS54, yS55, yS56, yS57, yS58, yS60, g3, c_clearRow G (show k < 11 by omega), d8, sp, s1, f11, c14, f8, nI_1]
      rw [if_neg (nI_ge hk (by omega))]
      rcases cT with ⟨c, v⟩ | ⟨c, v⟩
      · rw [if_pos c, v, ea2]
        simp (disch := first | assumption | omega) only [gd, lt, jn, bd2, Option.bind_some, LY_si, LY_sl, LY_row, decide_true, decide_false, if_true, ite_true, ite_false, decide_eq_true_eq, yg0, yg1, yg2, yg4, yg13, yg21, yg29, yg35, yg36, yg45, yg50, yg59, yI0, yI1, yI2, yI4, yI13, yI21, yI29, yI35, yI36, yI45, yI50, yI59, yP0, yP1, yP2, yP4, yP13, yP21, yP29, yP35, yP36, yP45, yP50, yP59, yR0_0, yR0_1, yR0_2, yR0_3, yR0_4, yR1_0, yR1_1, yR1_2, yR1_3, yR1_4, yR1_5, yR2_0, yR4_4, yR4_5, yR4_6, yR4_7, yR4_8, yR4_9, yR4_10, yR4_11, yR13_1, yR13_2, yR13_3, yR13_4, yR13_5, yR13_6, yR13_7, yR21_1, yR21_2, yR21_3, yR21_4, yR21_5, yR21_6, yR21_7, yR29_0, yR29_1, yR29_2, yR35_0, yR35_1, yR35_2, yR35_3, yR35_4, yR36_4, yR36_5, yR36_6, yR36_7, yR36_8, yR36_9, yR36_10, yR36_11, yR45_0, yR50_0, yR50_1, yR50_2, yR50_3, yR50_4, yR50_5, yR50_6, yR50_7, yR59_1, yA3, yA5, yA6, yA7, yA8, yA9, yA10, yA11, yA12, yA14, yA15, yA16, yA17, yA18, yA19, yA20, yA22, yA23, yA24, yA25, yA26, yA27, yA28, yA30, yA31, yA32, yA33, yA37, yA38, yA39, yA40, yA41, yA42, yA43, yA44, yA46, yA47, yA48, yA49, yA51, yA52, yA53, yA54, yA55, yA56, yA57, yA58, yA60, yS3, yS5, yS6, yS7, yS8, yS9, yS10, yS11, yS12, yS14, yS15, yS16, yS17, yS18, yS19, yS20, yS22, yS23, yS24, yS25, yS26, yS27, yS28, yS30, yS31, yS32, yS33, yS37, yS38, yS39, yS40, yS41, yS42, yS43, yS44, yS46, yS47, yS48, yS49, yS51, yS52, yS53, yS54, yS55, yS56, yS57, yS58, yS60, f10, hl, c15, f8']
        rcases cG with ⟨d1, d2⟩ | ⟨d1, d2, d3⟩ | ⟨d1, d2, d3⟩
        · rw [if_pos d1, if_pos rfl, d2]
        · rw [if_neg d1, if_neg (by decide), if_pos d2, d3]
        · rw [if_neg d1, if_neg (by decide), if_neg d2, d3]
      · rw [if_neg c, v, ea2]
        simp (disch := first | assumption | omega) only [gd, lt, jn, bd2, Option.bind_some, LY_si, LY_sl, LY_row, decide_true, decide_false, if_true, ite_true, ite_false, decide_eq_true_eq, yg0, yg1, yg2, yg4, yg13, yg21, yg29, yg35, yg36, yg45, yg50, yg59, yI0, yI1, yI2, yI4, yI13, yI21, yI29, yI35, yI36, yI45, yI50, yI59, yP0, yP1, yP2, yP4, yP13, yP21, yP29, yP35, yP36, yP45, yP50, yP59, yR0_0, yR0_1, yR0_2, yR0_3, yR0_4, yR1_0, yR1_1, yR1_2, yR1_3, yR1_4, yR1_5, yR2_0, yR4_4, yR4_5, yR4_6, yR4_7, yR4_8, yR4_9, yR4_10, yR4_11, yR13_1, yR13_2, yR13_3, yR13_4, yR13_5, yR13_6, yR13_7, yR21_1, yR21_2, yR21_3, yR21_4, yR21_5, yR21_6, yR21_7, yR29_0, yR29_1, yR29_2, yR35_0, yR35_1, yR35_2, yR35_3, yR35_4, yR36_4, yR36_5, yR36_6, yR36_7, yR36_8, yR36_9, yR36_10, yR36_11, yR45_0, yR50_0, yR50_1, yR50_2, yR50_3, yR50_4, yR50_5, yR50_6, yR50_7, yR59_1, yA3, yA5, yA6, yA7, yA8, yA9, yA10, yA11, yA12, yA14, yA15, yA16, yA17, yA18, yA19, yA20, yA22, yA23, yA24, yA25, yA26, yA27, yA28, yA30, yA31, yA32, yA33, yA37, yA38, yA39, yA40, yA41, yA42, yA43, yA44, yA46, yA47, yA48, yA49, yA51, yA52, yA53, yA54, yA55, yA56, yA57, yA58, yA60, yS3, yS5, yS6, yS7, yS8, yS9, yS10, yS11, yS12, yS14, yS15, yS16, yS17, yS18, yS19, yS20, yS22, yS23, yS24, yS25, yS26, yS27, yS28, yS30, yS31, yS32, yS33, yS37, yS38, yS39, yS40, yS41, yS42, yS43, yS44, yS46, yS47, yS48, yS49, yS51, yS52, yS53, yS54, yS55, yS56, yS57, yS58, yS60, f10, hl, c15, f8']
        rcases cG with ⟨d1, d2⟩ | ⟨d1, d2, d3⟩ | ⟨d1, d2, d3⟩
        · rw [if_pos d1, if_pos rfl, d2]
        · rw [if_neg d1, if_neg (by decide), if_pos d2, d3]
        · rw [if_neg d1, if_neg (by decide), if_neg d2, d3]
  · rintro rec g ⟨g1, g2, g3, g4, g5, g6⟩
    have G := g1.ly H
    unfold f_X6_lay_l1
    simp (disch := first | assumption | omega) only [gd, lt, jn, bd2, Option.bind_some, LY_si, LY_sl, LY_row, decide_true, decide_false, if_true, ite_true, ite_false, decide_eq_true_eq, yg0, yg1, yg2, yg4, yg13, yg21, yg29, yg35, yg36, yg45, yg50, yg59, yI0, yI1, yI2, yI4, yI13, yI21, yI29, yI35, yI36, yI45, yI50, yI59, yP0, yP1, yP2, yP4, yP13, yP21, yP29, yP35, yP36, yP45, yP50, yP59, yR0_0, yR0_1, yR0_2, yR0_3, yR0_4, yR1_0, yR1_1, yR1_2, yR1_3, yR1_4, yR1_5, yR2_0, yR4_4, yR4_5, yR4_6, yR4_7, yR4_8, yR4_9, yR4_10, yR4_11, yR13_1, yR13_2, yR13_3, yR13_4, yR13_5, yR13_6, yR13_7, yR21_1, yR21_2, yR21_3, yR21_4, yR21_5, yR21_6, yR21_7, yR29_0, yR29_1, yR29_2, yR35_0, yR35_1, yR35_2, yR35_3, yR35_4, yR36_4, yR36_5, yR36_6, yR36_7, yR36_8, yR36_9, yR36_10, yR36_11, yR45_0, yR50_0, yR50_1, yR50_2, yR50_3, yR50_4, yR50_5, yR50_6, yR50_7, yR59_1, yA3, yA5, yA6, yA7, yA8, yA9, yA10, yA11, yA12, yA14, yA15, yA16, yA17, yA18, yA19, yA20, yA22, yA23, yA24, yA25, yA26, yA27, yA28, yA30, yA31, yA32, yA33, yA37, yA38, yA39, yA40, yA41, yA42, yA43, yA44, yA46, yA47, yA48, yA49, yA51, yA52, yA53, yA54, yA55, yA56, yA57, yA58, yA60, yS3, yS5, yS6, yS7, yS8, yS9, yS10, yS11, yS12, yS14, yS15, yS16, yS17, yS18, yS19, yS20, yS22, yS23, yS24, yS25, yS26, yS27, yS28, yS30, yS31, yS32, yS33, yS37, yS38, yS39, yS40, yS41, yS42, yS43, yS44, yS46, yS47, yS48, yS49, yS51, yS52, yS53, yS54, yS55, yS56, yS57, yS58, yS60, g3]
    rw [if_pos (nI_le (Nat.le_refl _) (by omega))]
