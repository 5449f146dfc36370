def sm (t : Nat → Int32) : Nat → Int32
  | 0 => 0
  | n + 1 => sm t n + t n
theorem sm_congr {t t' : Nat → Int32} : ∀ n, (∀ k, k < n → t k = t' k) → sm t n = sm t' n := by
  intro n
  induction n with
  | zero => intro _; rfl
  | succ n ih =>
    intro h
    show sm t n + t n = sm t' n + t' n
    rw [ih (fun k hk => h k (by omega)), h n (by omega)]
theorem sm_zero {t : Nat → Int32} : ∀ n, (∀ k, k < n → t k = 0) → sm t n = 0 := by
  intro n
  induction n with
  | zero => intro _; rfl
  | succ n ih =>
    intro h
    show sm t n + t n = 0
    rw [ih (fun k hk => h k (by omega)), h n (by omega)]
    rfl
theorem sm_one {t : Nat → Int32} : ∀ n l, l < n → (∀ k, k < n → k ≠ l → t k = 0) → sm t n = t l := by
  intro n
  induction n with
  | zero => intro l hl; omega
  | succ n ih =>
    intro l hl h
    show sm t n + t n = t l
    by_cases e : l = n
    · subst e
      rw [sm_zero l (fun k hk => h k (by omega) (by omega))]
      simp
    · rw [ih l (by omega) (fun k hk hne => h k (by omega) hne), h n (by omega) (fun q => e q.symm)]
      simp
theorem sm_add {t u : Nat → Int32} : ∀ n, sm (fun k => t k + u k) n = sm t n + sm u n := by
  intro n
  induction n with
  | zero => rfl
  | succ n ih =>
    show sm (fun k => t k + u k) n + (t n + u n) = (sm t n + t n) + (sm u n + u n)
    rw [ih]
    grind
theorem itf_sm {t : Nat → Int32} : ∀ (n i : Nat) (a : Int32), itf (fun k a => a + t k) i n (a + sm t i) = a + sm t (i + n) := by
  intro n
  induction n with
  | zero => intro i a; rfl
  | succ n ih =>
    intro i a
    show itf (fun k a => a + t k) (i + 1) n ((a + sm t i) + t i) = _
    have e : (a + sm t i) + t i = a + sm t (i + 1) := by
      show _ = a + (sm t i + t i)
      grind
    rw [e, ih (i + 1) a]
    congr 2
    omega
theorem itf_sum {t : Nat → Int32} (n : Nat) (a : Int32) : itf (fun k a => a + t k) 0 n a = a + sm t n := by
  have := itf_sm (t := t) n 0 a
  rw [Nat.zero_add] at this
  rw [← this]
  congr 1
  show a = a + 0
  simp
theorem lp_sum {b : ((Int32 × Int32) → Option Int32) → (Int32 × Int32) → Option Int32} {N : Nat} (t : Nat → Int32) (hN : N < 4000) (step : ∀ rec k s, k < N → b rec (s, nI k) = rec (s + t k, nI (k + 1))) (stop : ∀ rec s, b rec (s, nI N) = some s) (a : Int32) : lp b FU (a, 0) = some (a + sm t N) := by
  have := lp_for (b := b) (fun n (s : Int32) => (s, nI n)) (fun _ _ => True) (fun k a => a + t k) some N (fun rec k s hk _ => step rec k s hk) (fun _ _ _ _ => trivial) (fun rec s _ => stop rec s) N FU 0 a (by omega) (by unfold FU; omega) trivial
  rw [itf_sum] at this
  exact this
theorem lp_sum1 {b : ((Int32 × Int32) → Option Int32) → (Int32 × Int32) → Option Int32} {N : Nat} (t : Nat → Int32) (hN : N < 4000) (step : ∀ rec k s, k < N → b rec (s, nI (k + 1)) = rec (s + t k, nI (k + 1 + 1))) (stop : ∀ rec s, b rec (s, nI (N + 1)) = some s) (a : Int32) : lp b FU (a, 1) = some (a + sm t N) := by
  have := lp_for (b := b) (fun n (s : Int32) => (s, nI (n + 1))) (fun _ _ => True) (fun k a => a + t k) some N (fun rec k s hk _ => step rec k s hk) (fun _ _ _ _ => trivial) (fun rec s _ => stop rec s) N FU 0 a (by omega) (by unfold FU; omega) trivial
  rw [itf_sum] at this
  exact this
theorem eR_eq {A : Nat → Int32} {x m x3 a : Int32} {k : Nat} : eR A x m x3 k a = a + sm (fun n => if nI k = x3 then 0 else if whS A k n = x then vS A k n m else 0) (nq A k) := itf_sum _ _
theorem eS_eq {A : Nat → Int32} {x m x3 : Int32} : eS A x m x3 = sm (fun k => sm (fun n => if nI k = x3 then 0 else if whS A k n = x then vS A k n m else 0) (nq A k)) (nk A) := by
  unfold eS
  have e : eR A x m x3 = fun k a => a + sm (fun n => if nI k = x3 then 0 else if whS A k n = x then vS A k n m else 0) (nq A k) := by
    funext k a
    exact eR_eq
  rw [e, itf_sum]
  simp
/-! what holds of the model's row, and of the class's cells against it -/
def isN (x : Int32) (b : Nat) : Prop := ∃ m, m ≤ b ∧ x = nI m
def nn (A : Nat → Int32) : Nat := (A 145).toNatClampNeg
def nwN (A : Nat → Int32) : Nat := (A 144).toNatClampNeg
def jo (A : Nat → Int32) (s : Nat) : Nat := (A (147 + 94 * s + 0)).toNatClampNeg
def VN (A : Nat → Int32) : Prop := 1 ≤ nn A ∧ nn A ≤ 10 ∧ A 145 = nI (nn A) ∧ nwN A ≤ 99 ∧ A 144 = nI (nwN A)
def VC (A : Nat → Int32) (s : Nat) : Prop := A (147 + 94 * s + 0) = nI (jo A s) ∧ jo A s ≤ nwN A ∧ (A (147 + 94 * s + 1) = -1 ∨ ∃ q, jo A s ≤ q ∧ q ≤ nwN A ∧ A (147 + 94 * s + 1) = nI q) ∧ isN (A (147 + 94 * s + 3)) 400000
def VK (A : Nat → Int32) (i : Nat) : Prop := (∃ w mo to, w < nn A ∧ A (1087 + 41 * i + 0) = nI w ∧ A (1087 + 41 * i + 2) = nI mo ∧ A (1087 + 41 * i + 3) = nI to ∧ jo A w ≤ mo ∧ mo ≤ to ∧ to ≤ mo + 2 ∧ to ≤ nwN A) ∧ (∃ v, 1 ≤ v ∧ v ≤ 9999 ∧ A (1087 + 41 * i + 1) = nI v) ∧ isN (A (1087 + 41 * i + 4)) 100 ∧ nq A i ≤ 5 ∧ A (1087 + 41 * i + 5) = nI (nq A i) ∧ (∀ l, l < nq A i → ∃ w, w < nn A ∧ whS A i l = nI w) ∧ (∀ l l', l < nq A i → l' < nq A i → whS A i l = whS A i l' → l = l')
def VS (A : Nat → Int32) : Prop := nk A ≤ 40 ∧ A 146 = nI (nk A) ∧ ∀ i, i < nk A → VK A i
def VV (A : Nat → Int32) : Prop := isN (A 5) 12
def cl (h : Z_H) : Nat → Nat → Int32 := fun o => z_i h (1 + o)
def RCc (c : Nat → Nat → Int32) (A : Nat → Int32) : Prop := c 12 0 = A 145 ∧ c 0 8 = A 144 ∧ ∀ s, s < nn A → c 13 s = A (147 + 94 * s + 0) ∧ c 14 s = A (147 + 94 * s + 1) ∧ c 19 s = A (147 + 94 * s + 2) ∧ c 15 s = A (147 + 94 * s + 3) ∧ c 16 s = A (147 + 94 * s + 4)
def RCs (c : Nat → Nat → Int32) (A : Nat → Int32) : Prop := c 20 0 = A 146 ∧ ∀ i, i < nk A → (∀ f, f < 5 → c (21 + f) i = A (1087 + 41 * i + f)) ∧ c 26 i = A (1087 + 41 * i + 5) ∧ ∀ l, l < nq A i → ∀ f, f < 7 → c 27 ((i * 5 + l) * 7 + f) = A (1087 + 41 * i + (6 + 7 * l + f))
theorem VS.m {A : Nat → Int32} (hN : VN A) (h : VS A) : MSale A := ⟨nk A, h.1, h.2.1, fun i hi => by
  obtain ⟨-, -, -, h4, h5, h6, -⟩ := h.2.2 i hi
  refine ⟨nq A i, h4, h5, fun l hl => ?_⟩
  obtain ⟨w, hw, e⟩ := h6 l hl
  exact ⟨w, by have := hN.2.1; omega, e⟩⟩
/-! the accounts of the class -/
theorem c_fact {h : Z_H} (H : LY h) {i l f : Nat} (hi : i < 40) (hl : l < 5) (hf : f < 7) : f_X5_fact h 21 (nI i) (nI (l + 1)) (nI f) = some (z_i h 28 ((i * 5 + l) * 7 + f)) := by
  unfold f_X5_fact
  have e : nI i * 5 + nI (l + 1) - 1 = nI (i * 5 + l) := by
    rw [n_5, nI_mul, nI_add, n_1, nI_sub (by omega)]
    congr 1
  rw [e, n_7, nI_mul, nI_add]
  simp (disch := first | assumption | omega) only [gd, lt, jn, bd2, Option.bind_some, LY_si, LY_sl, LY_row, decide_true, decide_false, if_true, ite_true, ite_false, decide_eq_true_eq, yg0, yg1, yg2, yg4, yg13, yg21, yg29, yg35, yg36, yg45, yg50, yg59, yI0, yI1, yI2, yI4, yI13, yI21, yI29, yI35, yI36, yI45, yI50, yI59, yP0, yP1, yP2, yP4, yP13, yP21, yP29, yP35, yP36, yP45, yP50, yP59, yR0_0, yR0_1, yR0_2, yR0_3, yR0_4, yR1_0, yR1_1, yR1_2, yR1_3, yR1_4, yR1_5, yR2_0, yR4_4, yR4_5, yR4_6, yR4_7, yR4_8, yR4_9, yR4_10, yR4_11, yR13_1, yR13_2, yR13_3, yR13_4, yR13_5, yR13_6, yR13_7, yR21_1, yR21_2, yR21_3, yR21_4, yR21_5, yR21_6, yR21_7, yR29_0, yR29_1, yR29_2, yR35_0, yR35_1, yR35_2, yR35_3, yR35_4, yR36_4, yR36_5, yR36_6, yR36_7, yR36_8, yR36_9, yR36_10, yR36_11, yR45_0, yR50_0, yR50_1, yR50_2, yR50_3, yR50_4, yR50_5, yR50_6, yR50_7, yR59_1, yA3, yA5, yA6, yA7, yA8, yA9, yA10, yA11, yA12, yA14, yA15, yA16, yA17, yA18, yA19, yA20, yA22, yA23, yA24, yA25, yA26, yA27, yA28, yA30, yA31, yA32, yA33, yA37, yA38, yA39, yA40, yA41, yA42, yA43, yA44, yA46, yA47, yA48, yA49, yA51, yA52, yA53, yA54, yA55, yA56, yA57, yA58, yA60, yS3, yS5, yS6, yS7, yS8, yS9, yS10, yS11, yS12, yS14, yS15, yS16, yS17, yS18, yS19, yS20, yS22, yS23, yS24, yS25, yS26, yS27, yS28, yS30, yS31, yS32, yS33, yS37, yS38, yS39, yS40, yS41, yS42, yS43, yS44, yS46, yS47, yS48, yS49, yS51, yS52, yS53, yS54, yS55, yS56, yS57, yS58, yS60]
theorem c_factA {h : Z_H} (H : LY h) {A : Nat → Int32} (hR : RCs (cl h) A) (hS : VS A) {i l f : Nat} (hi : i < nk A) (hl : l < nq A i) (hf : f < 7) : f_X5_fact h 21 (nI i) (nI (l + 1)) (nI f) = some (A (1087 + 41 * i + (6 + 7 * l + f))) := by
  have h5 := (hS.2.2 i hi).2.2.2.1
  rw [c_fact H (by have := hS.1; omega) (by omega) hf]
  exact congrArg some ((hR.2 i hi).2.2 l hl f hf)
theorem c_fact0 {h : Z_H} (H : LY h) {A : Nat → Int32} (hR : RCs (cl h) A) (hS : VS A) {i l : Nat} (hi : i < nk A) (hl : l < nq A i) : f_X5_fact h 21 (nI i) (nI (l + 1)) 0 = some (whS A i l) := c_factA (f := 0) H hR hS hi hl (by omega)
theorem c_fact2 {h : Z_H} (H : LY h) {A : Nat → Int32} (hR : RCs (cl h) A) (hS : VS A) {i l : Nat} (hi : i < nk A) (hl : l < nq A i) : f_X5_fact h 21 (nI i) (nI (l + 1)) 2 = some (A (1087 + 41 * i + (6 + 7 * l + 2))) := c_factA (f := 2) H hR hS hi hl (by omega)
theorem c_sale {h : Z_H} {A : Nat → Int32} (hR : RCs (cl h) A) {i : Nat} (hi : i < nk A) : z_i h 22 i = A (1087 + 41 * i + 0) ∧ z_i h 23 i = A (1087 + 41 * i + 1) ∧ z_i h 24 i = A (1087 + 41 * i + 2) ∧ z_i h 25 i = A (1087 + 41 * i + 3) ∧ z_i h 26 i = A (1087 + 41 * i + 4) ∧ z_i h 27 i = A (1087 + 41 * i + 5) :=
  ⟨(hR.2 i hi).1 0 (by omega), (hR.2 i hi).1 1 (by omega), (hR.2 i hi).1 2 (by omega), (hR.2 i hi).1 3 (by omega), (hR.2 i hi).1 4 (by omega), (hR.2 i hi).2.1⟩
theorem c_netPay {h : Z_H} (H : LY h) {A : Nat → Int32} (hR : RCs (cl h) A) (hS : VS A) {i l : Nat} (hi : i < nk A) (hl : l < nq A i) : f_X5_netPay h 21 (nI i) (nI (l + 1)) = some (npS A i l) := by
  have hk := hS.1
  unfold f_X5_netPay
  simp (disch := first | assumption | omega) only [gd, lt, jn, bd2, Option.bind_some, LY_si, LY_sl, LY_row, decide_true, decide_false, if_true, ite_true, ite_false, decide_eq_true_eq, yg0, yg1, yg2, yg4, yg13, yg21, yg29, yg35, yg36, yg45, yg50, yg59, yI0, yI1, yI2, yI4, yI13, yI21, yI29, yI35, yI36, yI45, yI50, yI59, yP0, yP1, yP2, yP4, yP13, yP21, yP29, yP35, yP36, yP45, yP50, yP59, yR0_0, yR0_1, yR0_2, yR0_3, yR0_4, yR1_0, yR1_1, yR1_2, yR1_3, yR1_4, yR1_5, yR2_0, yR4_4, yR4_5, yR4_6, yR4_7, yR4_8, yR4_9, yR4_10, yR4_11, yR13_1, yR13_2, yR13_3, yR13_4, yR13_5, yR13_6, yR13_7, yR21_1, yR21_2, yR21_3, yR21_4, yR21_5, yR21_6, yR21_7, yR29_0, yR29_1, yR29_2, yR35_0, yR35_1, yR35_2, yR35_3, yR35_4, yR36_4, yR36_5, yR36_6, yR36_7, yR36_8, yR36_9, yR36_10, yR36_11, yR45_0, yR50_0, yR50_1, yR50_2, yR50_3, yR50_4, yR50_5, yR50_6, yR50_7, yR59_1, yA3, yA5, yA6, yA7, yA8, yA9, yA10, yA11, yA12, yA14, yA15, yA16, yA17, yA18, yA19, yA20, yA22, yA23, yA24, yA25, yA26, yA27, yA28, yA30, yA31, yA32, yA33, yA37, yA38, yA39, yA40, yA41, yA42, yA43, yA44, yA46, yA47, yA48, yA49, yA51, yA52, yA53, yA54, yA55, yA56, yA57, yA58, yA60, yS3, yS5, yS6, yS7, yS8, yS9, yS10, yS11, yS12, yS14, yS15, yS16, yS17, yS18, yS19, yS20, yS22, yS23, yS24, yS25, yS26, yS27, yS28, yS30, yS31, yS32, yS33, yS37, yS38, yS39, yS40, yS41, yS42, yS43, yS44, yS46, yS47, yS48, yS49, yS51, yS52, yS53, yS54, yS55, yS56, yS57, yS58, yS60, c_fact2 H hR hS hi hl, f_X9_net]
  rw [(c_sale hR hi).2.2.2.2.1]
  rfl
theorem c_hasLeft {h : Z_H} (H : LY h) {A : Nat → Int32} (hR : RCc (cl h) A) (hN : VN A) {s : Nat} (hs : s < nn A) : f_X0_hasLeft h 13 (nI s) = some (if A (147 + 94 * s + 1) = -1 then 0 else 1) := by
  have e : z_i h 15 s = A (147 + 94 * s + 1) := (hR.2.2 s hs).2.1
  have := hN.2.1
  unfold f_X0_hasLeft
  simp (disch := first | assumption | omega) only [gd, lt, jn, bd2, Option.bind_some, LY_si, LY_sl, LY_row, decide_true, decide_false, if_true, ite_true, ite_false, decide_eq_true_eq, yg0, yg1, yg2, yg4, yg13, yg21, yg29, yg35, yg36, yg45, yg50, yg59, yI0, yI1, yI2, yI4, yI13, yI21, yI29, yI35, yI36, yI45, yI50, yI59, yP0, yP1, yP2, yP4, yP13, yP21, yP29, yP35, yP36, yP45, yP50, yP59, yR0_0, yR0_1, yR0_2, yR0_3, yR0_4, yR1_0, yR1_1, yR1_2, yR1_3, yR1_4, yR1_5, yR2_0, yR4_4, yR4_5, yR4_6, yR4_7, yR4_8, yR4_9, yR4_10, yR4_11, yR13_1, yR13_2, yR13_3, yR13_4, yR13_5, yR13_6, yR13_7, yR21_1, yR21_2, yR21_3, yR21_4, yR21_5, yR21_6, yR21_7, yR29_0, yR29_1, yR29_2, yR35_0, yR35_1, yR35_2, yR35_3, yR35_4, yR36_4, yR36_5, yR36_6, yR36_7, yR36_8, yR36_9, yR36_10, yR36_11, yR45_0, yR50_0, yR50_1, yR50_2, yR50_3, yR50_4, yR50_5, yR50_6, yR50_7, yR59_1, yA3, yA5, yA6, yA7, yA8, yA9, yA10, yA11, yA12, yA14, yA15, yA16, yA17, yA18, yA19, yA20, yA22, yA23, yA24, yA25, yA26, yA27, yA28, yA30, yA31, yA32, yA33, yA37, yA38, yA39, yA40, yA41, yA42, yA43, yA44, yA46, yA47, yA48, yA49, yA51, yA52, yA53, yA54, yA55, yA56, yA57, yA58, yA60, yS3, yS5, yS6, yS7, yS8, yS9, yS10, yS11, yS12, yS14, yS15, yS16, yS17, yS18, yS19, yS20, yS22, yS23, yS24, yS25, yS26, yS27, yS28, yS30, yS31, yS32, yS33, yS37, yS38, yS39, yS40, yS41, yS42, yS43, yS44, yS46, yS47, yS48, yS49, yS51, yS52, yS53, yS54, yS55, yS56, yS57, yS58, yS60, e]
  split <;> rfl
theorem tz : (0 : Int32).toInt = 0 := rfl
theorem mm_eq {v x : Int32} (h : 0 ≤ v) : mx 0 (mn v x) = les v (gre 0 x) := by
  have h0 : (0 : Int) ≤ v.toInt := by
    have := Int32.le_iff_toInt_le.mp h
    rw [tz] at this
    exact this
  unfold mx mn les gre
  simp only [Int32.lt_iff_toInt_lt, Int32.le_iff_toInt_le, tz]
  by_cases a1 : x.toInt < v.toInt
  · rw [if_pos a1]
    by_cases a2 : (0 : Int) < x.toInt
    · rw [if_pos a2, if_pos (show (0 : Int) ≤ x.toInt by omega), if_pos (by omega)]
    · rw [if_neg a2]
      by_cases a3 : (0 : Int) ≤ x.toInt
      · rw [if_pos a3, if_pos (by omega)]
        exact Int32.toInt_inj.mp (by rw [tz]; omega)
      · rw [if_neg a3, if_pos (by rw [tz]; omega)]
  · rw [if_neg a1]
    have a3 : (0 : Int) ≤ x.toInt := by omega
    rw [if_pos a3]
    by_cases a4 : x.toInt ≤ v.toInt
    · rw [if_pos a4]
      have : v = x := Int32.toInt_inj.mp (by omega)
      subst this
      split
      · rfl
      · exact Int32.toInt_inj.mp (by rw [tz]; omega)
    · rw [if_neg a4]
      split
      · rfl
      · exact Int32.toInt_inj.mp (by rw [tz]; omega)
theorem c_vested {h : Z_H} (H : LY h) {A : Nat → Int32} (hR : RCs (cl h) A) (hC : RCc (cl h) A) (hN : VN A) (hS : VS A) (hv : z_i h 4 2 = A 5) (hv2 : VV A) {i l : Nat} {m : Int32} (hi : i < nk A) (hl : l < nq A i) (hm : ∀ w, w < nn A → A (147 + 94 * w + 1) = -1 ∨ A (147 + 94 * w + 1) ≤ m) : f_X7_vested h 1 (nI i) (nI (l + 1)) m = some (vS A i l m) := by
  have hk := hS.1
  have hn10 := hN.2.1
  obtain ⟨w, hw, ew⟩ := (hS.2.2 i hi).2.2.2.2.2.1 l hl
  obtain ⟨ve, hve, eve⟩ := hv2
  have hcl : (whS A i l).toNatClampNeg = w := by rw [ew]; exact nI_clamp (by omega)
  have eq : z_i h 15 w = A (147 + 94 * w + 1) := (hC.2.2 w hw).2.1
  have et : z_i h 25 i = A (1087 + 41 * i + 3) := (c_sale hR hi).2.2.2.1
  unfold f_X7_vested vS
  rw [hcl]
  simp (disch := first | assumption | omega) only [gd, lt, jn, bd2, Option.bind_some, LY_si, LY_sl, LY_row, decide_true, decide_false, if_true, ite_true, ite_false, decide_eq_true_eq, yg0, yg1, yg2, yg4, yg13, yg21, yg29, yg35, yg36, yg45, yg50, yg59, yI0, yI1, yI2, yI4, yI13, yI21, yI29, yI35, yI36, yI45, yI50, yI59, yP0, yP1, yP2, yP4, yP13, yP21, yP29, yP35, yP36, yP45, yP50, yP59, yR0_0, yR0_1, yR0_2, yR0_3, yR0_4, yR1_0, yR1_1, yR1_2, yR1_3, yR1_4, yR1_5, yR2_0, yR4_4, yR4_5, yR4_6, yR4_7, yR4_8, yR4_9, yR4_10, yR4_11, yR13_1, yR13_2, yR13_3, yR13_4, yR13_5, yR13_6, yR13_7, yR21_1, yR21_2, yR21_3, yR21_4, yR21_5, yR21_6, yR21_7, yR29_0, yR29_1, yR29_2, yR35_0, yR35_1, yR35_2, yR35_3, yR35_4, yR36_4, yR36_5, yR36_6, yR36_7, yR36_8, yR36_9, yR36_10, yR36_11, yR45_0, yR50_0, yR50_1, yR50_2, yR50_3, yR50_4, yR50_5, yR50_6, yR50_7, yR59_1, yA3, yA5, yA6, yA7, yA8, yA9, yA10, yA11, yA12, yA14, yA15, yA16, yA17, yA18, yA19, yA20, yA22, yA23, yA24, yA25, yA26, yA27, yA28, yA30, yA31, yA32, yA33, yA37, yA38, yA39, yA40, yA41, yA42, yA43, yA44, yA46, yA47, yA48, yA49, yA51, yA52, yA53, yA54, yA55, yA56, yA57, yA58, yA60, yS3, yS5, yS6, yS7, yS8, yS9, yS10, yS11, yS12, yS14, yS15, yS16, yS17, yS18, yS19, yS20, yS22, yS23, yS24, yS25, yS26, yS27, yS28, yS30, yS31, yS32, yS33, yS37, yS38, yS39, yS40, yS41, yS42, yS43, yS44, yS46, yS47, yS48, yS49, yS51, yS52, yS53, yS54, yS55, yS56, yS57, yS58, yS60, c_netPay H hR hS hi hl, c_fact0 H hR hS hi hl, ew, c_hasLeft H hC hN hw, hv, eq, et]
  have h0 : (0 : Int32) ≤ A 5 := by rw [eve]; exact nI_pos' (by omega)
  by_cases h5 : A 5 = 0
  · rw [if_neg (by rw [h5]; decide), if_pos h5]
  · have hpos : (0 : Int32) < A 5 := by
      rw [eve]
      have : ve ≠ 0 := fun q => h5 (by rw [eve, q]; rfl)
      exact nI_lt (a := 0) (by omega) (by omega)
    rw [if_pos hpos, if_neg h5]
    unfold unS
    by_cases hq : A (147 + 94 * w + 1) = -1
    · simp only [hq, if_true, h5, not_false_eq_true, decide_true]
      rw [mm_eq h0]
    · have hle := (hm w hw).resolve_left hq
      have e : les m (A (147 + 94 * w + 1)) = A (147 + 94 * w + 1) := by unfold les; rw [if_pos hle]
      simp only [hq, if_false, show ¬ (1 : Int32) = 0 by decide, h5, not_false_eq_true, decide_true, if_true, e]
      rw [mm_eq h0]
