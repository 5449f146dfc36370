def fnd (p : Nat → Bool) : Nat → Nat → Option Nat
  | _, 0 => none
  | i, n + 1 => if p i then some i else fnd p (i + 1) n
theorem fnd_some {p : Nat → Bool} : ∀ (n i l : Nat), fnd p i n = some l → i ≤ l ∧ l < i + n ∧ p l = true ∧ ∀ j, i ≤ j → j < l → p j = false := by
  intro n
  induction n with
  | zero => intro i l h; cases h
  | succ n ih =>
    intro i l h
    unfold fnd at h
    by_cases hp : p i = true
    · rw [if_pos hp] at h
      cases h
      exact ⟨Nat.le_refl _, by omega, hp, fun j h1 h2 => by omega⟩
    · rw [if_neg hp] at h
      obtain ⟨a, b, c, d⟩ := ih (i + 1) l h
      refine ⟨by omega, by omega, c, fun j h1 h2 => ?_⟩
      by_cases e : j = i
      · subst e; simpa using hp
      · exact d j (by omega) h2
theorem fnd_none {p : Nat → Bool} : ∀ (n i : Nat), fnd p i n = none → ∀ j, i ≤ j → j < i + n → p j = false := by
  intro n
  induction n with
  | zero => intro i _ j h1 h2; omega
  | succ n ih =>
    intro i h j h1 h2
    unfold fnd at h
    by_cases hp : p i = true
    · rw [if_pos hp] at h; cases h
    · rw [if_neg hp] at h
      by_cases e : j = i
      · subst e; simpa using hp
      · exact ih (i + 1) h j (by omega) (by omega)
theorem lp_find {S γ : Type} {b : (S → Option γ) → S → Option γ} (enc : Nat → S) (p : Nat → Bool) (e1 : Nat → Option γ) (e2 : Option γ) (N : Nat)
    (hit : ∀ rec k, k < N → p k = true → b rec (enc k) = e1 k) (miss : ∀ rec k, k < N → p k = false → b rec (enc k) = rec (enc (k + 1))) (stop : ∀ rec, b rec (enc N) = e2) :
    ∀ (n f i : Nat), i + n = N → n < f → lp b f (enc i) = match fnd p i n with | some l => e1 l | none => e2 := by
  intro n
  induction n with
  | zero =>
    intro f i hi hf
    cases f with
    | zero => omega
    | succ f =>
      have : i = N := by omega
      subst this
      exact stop (lp b f)
  | succ n ih =>
    intro f i hi hf
    cases f with
    | zero => omega
    | succ f =>
      show b (lp b f) (enc i) = _
      unfold fnd
      cases hp : p i with
      | true => rw [hit (lp b f) i (by omega) hp]; rfl
      | false =>
        rw [miss (lp b f) i (by omega) hp, ih f (i + 1) (by omega) (by omega)]
        rfl
theorem nI_m1 {i : Nat} (h : i < 2 ^ 31) : ¬ nI i = -1 := by
  intro e
  have := nI_pos h
  rw [e] at this
  exact this (by decide)
def lvO (A : Nat → Int32) (i : Nat) (x : Int32) : Option Nat := fnd (fun l => decide (whS A i l = x)) 0 (nq A i)
def lvS (o : Option Nat) : Int32 := match o with
  | some l => nI (l + 1)
  | none => -1
def pkS (A : Nat → Int32) (i : Nat) (x : Int32) (g : Nat → Int32) : Int32 := match lvO A i x with
  | some l => g l
  | none => 0
theorem pkS_eq {A : Nat → Int32} {i : Nat} (hK : VK A i) {x : Int32} {g : Nat → Int32} : pkS A i x g = sm (fun n => if whS A i n = x then g n else 0) (nq A i) := by
  obtain ⟨-, -, -, -, -, -, hd⟩ := hK
  unfold pkS lvO
  cases hf : fnd (fun l => decide (whS A i l = x)) 0 (nq A i) with
  | none =>
    refine (sm_zero _ (fun k hk => ?_)).symm
    have := fnd_none _ _ hf k (by omega) (by omega)
    rw [if_neg (by simpa using this)]
  | some l =>
    obtain ⟨-, h2, h3, -⟩ := fnd_some _ _ _ hf
    have h3 : whS A i l = x := by simpa using h3
    rw [sm_one (t := fun n => if whS A i n = x then g n else 0) (nq A i) l (by omega) (fun k hk hne => ?_)]
    · show g l = if whS A i l = x then g l else 0
      rw [if_pos h3]
    · exact if_neg (fun q => hne (hd k l hk (by omega) (q.trans h3.symm)))
/-- the class's cells hold what the model's row A tells, as far as the accounts ask -/
def CA (h : Z_H) (A : Nat → Int32) : Prop := LY h ∧ VN A ∧ (∀ s, s < nn A → VC A s) ∧ VS A ∧ VV A ∧ RCc (cl h) A ∧ RCs (cl h) A ∧ z_i h 4 2 = A 5
theorem CA.k {h : Z_H} {A : Nat → Int32} (C : CA h A) : z_i h 21 0 = nI (nk A) ∧ nk A ≤ 40 := ⟨(C.2.2.2.2.2.2.1.1).trans C.2.2.2.1.2.1, C.2.2.2.1.1⟩
theorem CA.n {h : Z_H} {A : Nat → Int32} (C : CA h A) : z_i h 13 0 = nI (nn A) ∧ nn A ≤ 10 := ⟨(C.2.2.2.2.2.1.1).trans C.2.1.2.2.1, C.2.1.2.1⟩
theorem CA.now {h : Z_H} {A : Nat → Int32} (C : CA h A) : z_i h 1 8 = nI (nwN A) ∧ nwN A ≤ 99 := ⟨(C.2.2.2.2.2.1.2.1).trans C.2.1.2.2.2.2, C.2.1.2.2.2.1⟩
/-- no one has quit behind m -/
def qOK (A : Nat → Int32) (m : Int32) : Prop := ∀ w, w < nn A → A (147 + 94 * w + 1) = -1 ∨ A (147 + 94 * w + 1) ≤ m
theorem qOK_now {A : Nat → Int32} (hN : VN A) (hC : ∀ s, s < nn A → VC A s) {m : Nat} (hm : nwN A ≤ m) (hm2 : m < 2 ^ 31) : qOK A (nI m) := by
  intro w hw
  rcases (hC w hw).2.2.1 with e | ⟨q, h1, h2, e⟩
  · exact Or.inl e
  · exact Or.inr (by rw [e]; exact nI_le (by omega) hm2)
theorem CA.ve {h : Z_H} {A : Nat → Int32} (C : CA h A) {i l : Nat} {m : Int32} (hi : i < nk A) (hl : l < nq A i) (hm : qOK A m) : f_X7_vested h 1 (nI i) (nI (l + 1)) m = some (vS A i l m) := c_vested C.1 C.2.2.2.2.2.2.1 C.2.2.2.2.2.1 C.2.1 C.2.2.2.1 C.2.2.2.2.2.2.2 C.2.2.2.2.1 hi hl hm
theorem c_levelOf {h : Z_H} {A : Nat → Int32} (C : CA h A) {i : Nat} {x : Int32} (hi : i < nk A) : f_X5_levelOf h 21 (nI i) x = some (lvS (lvO A i x)) := by
  have H := C.1
  have hR := C.2.2.2.2.2.2.1
  have hS := C.2.2.2.1
  obtain ⟨-, h40⟩ := C.k
  obtain ⟨-, -, -, h5, e5, -, -⟩ := hS.2.2 i hi
  have et : z_i h 27 i = nI (nq A i) := ((c_sale hR hi).2.2.2.2.2).trans e5
  have key := lp_find (b := f_X5_levelOf_l1 21 (nI i) x h) (fun l => nI (l + 1)) (fun l => decide (whS A i l = x)) (fun l => some (.inl (nI (l + 1)))) (some (.inr ())) (nq A i) ?_ ?_ ?_ (nq A i) FU 0 (by omega) (by unfold FU; omega)
  · unfold f_X5_levelOf
    have key' : lp (f_X5_levelOf_l1 21 (nI i) x h) FU 1 = _ := key
    simp (disch := first | assumption | omega) only [gd, lt, jn, bd2, Option.bind_some, LY_si, LY_sl, LY_row, decide_true, decide_false, if_true, ite_true, ite_false, decide_eq_true_eq, yg0, yg1, yg2, yg4, yg13, yg21, yg29, yg35, yg36, yg45, yg50, yg59, yI0, yI1, yI2, yI4, yI13, yI21, yI29, yI35, yI36, yI45, yI50, yI59, yP0, yP1, yP2, yP4, yP13, yP21, yP29, yP35, yP36, yP45, yP50, yP59, yR0_0, yR0_1, yR0_2, yR0_3, yR0_4, yR1_0, yR1_1, yR1_2, yR1_3, yR1_4, yR1_5, yR2_0, yR4_4, yR4_5, yR4_6, yR4_7, yR4_8, yR4_9, yR4_10, yR4_11, yR13_1, yR13_2, yR13_3, yR13_4, yR13_5, yR13_6, yR13_7, yR21_1, yR21_2, yR21_3, yR21_4, yR21_5, yR21_6, yR21_7, yR29_0, yR29_1, yR29_2, yR35_0, yR35_1, yR35_2, yR35_3, yR35_4, yR36_4, yR36_5, yR36_6, yR36_7, yR36_8, yR36_9, yR36_10, yR36_11, yR45_0, yR50_0, yR50_1, yR50_2, yR50_3, yR50_4, yR50_5, yR50_6, yR50_7, yR59_1, yA3, yA5, yA6, yA7, yA8, yA9, yA10, yA11, yA12, yA14, yA15, yA16, yA17, yA18, yA19, yA20, yA22, yA23, yA24, yA25, yA26, yA27, yA28, yA30, yA31, yA32, yA33, yA37, yA38, yA39, yA40, yA41, yA42, yA43, yA44, yA46, yA47, yA48, yA49, yA51, yA52, yA53, yA54, yA55, yA56, yA57, yA58, yA60, yS3, yS5, yS6, yS7, yS8, yS9, yS10, yS11, yS12, yS14, yS15, yS16, yS17, yS18, yS19, yS20, yS22, yS23, yS24, yS25, yS26, yS27, yS28, yS30, yS31, yS32, yS33, yS37, yS38, yS39, yS40, yS41, yS42, yS43, yS44, yS46, yS47, yS48, yS49, yS51, yS52, yS53, yS54, yS55, yS56, yS57, yS58, yS60, key']
    unfold lvO
    cases fnd (fun l => decide (whS A i l = x)) 0 (nq A i) <;> rfl
  · intro rec k hk hp
    unfold f_X5_levelOf_l1
    simp (disch := first | assumption | omega) only [gd, lt, jn, bd2, Option.bind_some, LY_si, LY_sl, LY_row, decide_true, decide_false, if_true, ite_true, ite_false, decide_eq_true_eq, yg0, yg1, yg2, yg4, yg13, yg21, yg29, yg35, yg36, yg45, yg50, yg59, yI0, yI1, yI2, yI4, yI13, yI21, yI29, yI35, yI36, yI45, yI50, yI59, yP0, yP1, yP2, yP4, yP13, yP21, yP29, yP35, yP36, yP45, yP50, yP59, yR0_0, yR0_1, yR0_2, yR0_3, yR0_4, yR1_0, yR1_1, yR1_2, yR1_3, yR1_4, yR1_5, yR2_0, yR4_4, yR4_5, yR4_6, yR4_7, yR4_8, yR4_9, yR4_10, yR4_11, yR13_1, yR13_2, yR13_3, yR13_4, yR13_5, yR13_6, yR13_7, yR21_1, yR21_2, yR21_3, yR21_4, yR21_5, yR21_6, yR21_7, yR29_0, yR29_1, yR29_2, yR35_0, yR35_1, yR35_2, yR35_3, yR35_4, yR36_4, yR36_5, yR36_6, yR36_7, yR36_8, yR36_9, yR36_10, yR36_11, yR45_0, yR50_0, yR50_1, yR50_2, yR50_3, yR50_4, yR50_5, yR50_6, yR50_7, yR59_1, yA3, yA5, yA6, yA7, yA8, yA9, yA10, yA11, yA12, yA14, yA15, yA16, yA17, yA18, yA19, yA20, yA22, yA23, yA24, yA25, yA26, yA27, yA28, yA30, yA31, yA32, yA33, yA37, yA38, yA39, yA40, yA41, yA42, yA43, yA44, yA46, yA47, yA48, yA49, yA51, yA52, yA53, yA54, yA55, yA56, yA57, yA58, yA60, yS3, yS5, yS6, yS7, yS8, yS9, yS10, yS11, yS12, yS14, yS15, yS16, yS17, yS18, yS19, yS20, yS22, yS23, yS24, yS25, yS26, yS27, yS28, yS30, yS31, yS32, yS33, yS37, yS38, yS39, yS40, yS41, yS42, yS43, yS44, yS46, yS47, yS48, yS49, yS51, yS52, yS53, yS54, yS55, yS56, yS57, yS58, yS60, et, c_fact0 H hR hS hi hk]
    rw [if_neg (nI_nlt (by omega) (by omega)), if_pos (by simpa using hp)]
  · intro rec k hk hp
    unfold f_X5_levelOf_l1
    simp (disch := first | assumption | omega) only [gd, lt, jn, bd2, Option.bind_some, LY_si, LY_sl, LY_row, decide_true, decide_false, if_true, ite_true, ite_false, decide_eq_true_eq, yg0, yg1, yg2, yg4, yg13, yg21, yg29, yg35, yg36, yg45, yg50, yg59, yI0, yI1, yI2, yI4, yI13, yI21, yI29, yI35, yI36, yI45, yI50, yI59, yP0, yP1, yP2, yP4, yP13, yP21, yP29, yP35, yP36, yP45, yP50, yP59, yR0_0, yR0_1, yR0_2, yR0_3, yR0_4, yR1_0, yR1_1, yR1_2, yR1_3, yR1_4, yR1_5, yR2_0, yR4_4, yR4_5, yR4_6, yR4_7, yR4_8, yR4_9, yR4_10, yR4_11, yR13_1, yR13_2, yR13_3, yR13_4, yR13_5, yR13_6, yR13_7, yR21_1, yR21_2, yR21_3, yR21_4, yR21_5, yR21_6, yR21_7, yR29_0, yR29_1, yR29_2, yR35_0, yR35_1, yR35_2, yR35_3, yR35_4, yR36_4, yR36_5, yR36_6, yR36_7, yR36_8, yR36_9, yR36_10, yR36_11, yR45_0, yR50_0, yR50_1, yR50_2, yR50_3, yR50_4, yR50_5, yR50_6, yR50_7, yR59_1, yA3, yA5, yA6, yA7, yA8, yA9, yA10, yA11, yA12, yA14, yA15, yA16, yA17, yA18, yA19, yA20, yA22, yA23, yA24, yA25, yA26, yA27, yA28, yA30, yA31, yA32, yA33, yA37, yA38, yA39, yA40, yA41, yA42, yA43, yA44, yA46, yA47, yA48, yA49, yA51, yA52, yA53, yA54, yA55, yA56, yA57, yA58, yA60, yS3, yS5, yS6, yS7, yS8, yS9, yS10, yS11, yS12, yS14, yS15, yS16, yS17, yS18, yS19, yS20, yS22, yS23, yS24, yS25, yS26, yS27, yS28, yS30, yS31, yS32, yS33, yS37, yS38, yS39, yS40, yS41, yS42, yS43, yS44, yS46, yS47, yS48, yS49, yS51, yS52, yS53, yS54, yS55, yS56, yS57, yS58, yS60, et, c_fact0 H hR hS hi hk, nI_1]
    rw [if_neg (nI_nlt (by omega) (by omega)), if_neg (by simpa using hp)]
  · intro rec
    unfold f_X5_levelOf_l1
    simp (disch := first | assumption | omega) only [gd, lt, jn, bd2, Option.bind_some, LY_si, LY_sl, LY_row, decide_true, decide_false, if_true, ite_true, ite_false, decide_eq_true_eq, yg0, yg1, yg2, yg4, yg13, yg21, yg29, yg35, yg36, yg45, yg50, yg59, yI0, yI1, yI2, yI4, yI13, yI21, yI29, yI35, yI36, yI45, yI50, yI59, yP0, yP1, yP2, yP4, yP13, yP21, yP29, yP35, yP36, yP45, yP50, yP59, yR0_0, yR0_1, yR0_2, yR0_3, yR0_4, yR1_0, yR1_1, yR1_2, yR1_3, yR1_4, yR1_5, yR2_0, yR4_4, yR4_5, yR4_6, yR4_7, yR4_8, yR4_9, yR4_10, yR4_11, yR13_1, yR13_2, yR13_3, yR13_4, yR13_5, yR13_6, yR13_7, yR21_1, yR21_2, yR21_3, yR21_4, yR21_5, yR21_6, yR21_7, yR29_0, yR29_1, yR29_2, yR35_0, yR35_1, yR35_2, yR35_3, yR35_4, yR36_4, yR36_5, yR36_6, yR36_7, yR36_8, yR36_9, yR36_10, yR36_11, yR45_0, yR50_0, yR50_1, yR50_2, yR50_3, yR50_4, yR50_5, yR50_6, yR50_7, yR59_1, yA3, yA5, yA6, yA7, yA8, yA9, yA10, yA11, yA12, yA14, yA15, yA16, yA17, yA18, yA19, yA20, yA22, yA23, yA24, yA25, yA26, yA27, yA28, yA30, yA31, yA32, yA33, yA37, yA38, yA39, yA40, yA41, yA42, yA43, yA44, yA46, yA47, yA48, yA49, yA51, yA52, yA53, yA54, yA55, yA56, yA57, yA58, yA60, yS3, yS5, yS6, yS7, yS8, yS9, yS10, yS11, yS12, yS14, yS15, yS16, yS17, yS18, yS19, yS20, yS22, yS23, yS24, yS25, yS26, yS27, yS28, yS30, yS31, yS32, yS33, yS37, yS38, yS39, yS40, yS41, yS42, yS43, yS44, yS46, yS47, yS48, yS49, yS51, yS52, yS53, yS54, yS55, yS56, yS57, yS58, yS60, et]
    rw [if_pos (nI_lt (by omega) (by omega))]
theorem lv_cases {o : Option Nat} (h : ∀ l, o = some l → l < 1000) : (lvS o = -1 ∧ o = none) ∨ ∃ l, o = some l ∧ lvS o = nI (l + 1) ∧ ¬ lvS o = -1 := by
  cases o with
  | none => exact Or.inl ⟨rfl, rfl⟩
  | some l => exact Or.inr ⟨l, rfl, rfl, nI_m1 (by have := h l rfl; omega)⟩
theorem c_earned {h : Z_H} {A : Nat → Int32} (C : CA h A) {x m : Int32} (hm : qOK A m) : f_X7_earned h 1 x m = some (eS A x m (-1)) := by
  have H := C.1
  obtain ⟨ek, h40⟩ := C.k
  have key := lp_sum (b := f_X7_earned_l1 1 x m h) (N := nk A) (fun i => pkS A i x (fun l => vS A i l m)) (by omega) ?_ ?_ 0
  · unfold f_X7_earned
    simp (disch := first | assumption | omega) only [gd, lt, jn, bd2, Option.bind_some, LY_si, LY_sl, LY_row, decide_true, decide_false, if_true, ite_true, ite_false, decide_eq_true_eq, yg0, yg1, yg2, yg4, yg13, yg21, yg29, yg35, yg36, yg45, yg50, yg59, yI0, yI1, yI2, yI4, yI13, yI21, yI29, yI35, yI36, yI45, yI50, yI59, yP0, yP1, yP2, yP4, yP13, yP21, yP29, yP35, yP36, yP45, yP50, yP59, yR0_0, yR0_1, yR0_2, yR0_3, yR0_4, yR1_0, yR1_1, yR1_2, yR1_3, yR1_4, yR1_5, yR2_0, yR4_4, yR4_5, yR4_6, yR4_7, yR4_8, yR4_9, yR4_10, yR4_11, yR13_1, yR13_2, yR13_3, yR13_4, yR13_5, yR13_6, yR13_7, yR21_1, yR21_2, yR21_3, yR21_4, yR21_5, yR21_6, yR21_7, yR29_0, yR29_1, yR29_2, yR35_0, yR35_1, yR35_2, yR35_3, yR35_4, yR36_4, yR36_5, yR36_6, yR36_7, yR36_8, yR36_9, yR36_10, yR36_11, yR45_0, yR50_0, yR50_1, yR50_2, yR50_3, yR50_4, yR50_5, yR50_6, yR50_7, yR59_1, yA3, yA5, yA6, yA7, yA8, yA9, yA10, yA11, yA12, yA14, yA15, yA16, yA17, yA18, yA19, yA20, yA22, yA23, yA24, yA25, yA26, yA27, yA28, yA30, yA31, yA32, yA33, yA37, yA38, yA39, yA40, yA41, yA42, yA43, yA44, yA46, yA47, yA48, yA49, yA51, yA52, yA53, yA54, yA55, yA56, yA57, yA58, yA60, yS3, yS5, yS6, yS7, yS8, yS9, yS10, yS11, yS12, yS14, yS15, yS16, yS17, yS18, yS19, yS20, yS22, yS23, yS24, yS25, yS26, yS27, yS28, yS30, yS31, yS32, yS33, yS37, yS38, yS39, yS40, yS41, yS42, yS43, yS44, yS46, yS47, yS48, yS49, yS51, yS52, yS53, yS54, yS55, yS56, yS57, yS58, yS60, key]
    rw [eS_eq]
    congr 1
    rw [Int32.zero_add]
    refine sm_congr _ (fun i hi => ?_)
    rw [pkS_eq (C.2.2.2.1.2.2 i hi)]
    refine sm_congr _ (fun n hn => ?_)
    rw [if_neg (nI_m1 (by omega))]
  · intro rec i s hi
    obtain ⟨-, -, -, h5, -, -, -⟩ := C.2.2.2.1.2.2 i hi
    have hlt : ∀ l, lvO A i x = some l → l < nq A i := fun l e => by have := (fnd_some _ _ _ e).2.1; omega
    unfold f_X7_earned_l1 pkS
    simp (disch := first | assumption | omega) only [gd, lt, jn, bd2, Option.bind_some, LY_si, LY_sl, LY_row, decide_true, decide_false, if_true, ite_true, ite_false, decide_eq_true_eq, yg0, yg1, yg2, yg4, yg13, yg21, yg29, yg35, yg36, yg45, yg50, yg59, yI0, yI1, yI2, yI4, yI13, yI21, yI29, yI35, yI36, yI45, yI50, yI59, yP0, yP1, yP2, yP4, yP13, yP21, yP29, yP35, yP36, yP45, yP50, yP59, yR0_0, yR0_1, yR0_2, yR0_3, yR0_4, yR1_0, yR1_1, yR1_2, yR1_3, yR1_4, yR1_5, yR2_0, yR4_4, yR4_5, yR4_6, yR4_7, yR4_8, yR4_9, yR4_10, yR4_11, yR13_1, yR13_2, yR13_3, yR13_4, yR13_5, yR13_6, yR13_7, yR21_1, yR21_2, yR21_3, yR21_4, yR21_5, yR21_6, yR21_7, yR29_0, yR29_1, yR29_2, yR35_0, yR35_1, yR35_2, yR35_3, yR35_4, yR36_4, yR36_5, yR36_6, yR36_7, yR36_8, yR36_9, yR36_10, yR36_11, yR45_0, yR50_0, yR50_1, yR50_2, yR50_3, yR50_4, yR50_5, yR50_6, yR50_7, yR59_1, yA3, yA5, yA6, yA7, yA8, yA9, yA10, yA11, yA12, yA14, yA15, yA16, yA17, yA18, yA19, yA20, yA22, yA23, yA24, yA25, yA26, yA27, yA28, yA30, yA31, yA32, yA33, yA37, yA38, yA39, yA40, yA41, yA42, yA43, yA44, yA46, yA47, yA48, yA49, yA51, yA52, yA53, yA54, yA55, yA56, yA57, yA58, yA60, yS3, yS5, yS6, yS7, yS8, yS9, yS10, yS11, yS12, yS14, yS15, yS16, yS17, yS18, yS19, yS20, yS22, yS23, yS24, yS25, yS26, yS27, yS28, yS30, yS31, yS32, yS33, yS37, yS38, yS39, yS40, yS41, yS42, yS43, yS44, yS46, yS47, yS48, yS49, yS51, yS52, yS53, yS54, yS55, yS56, yS57, yS58, yS60, ek, c_levelOf C hi, nI_1]
    rw [if_neg (nI_ge hi (by omega))]
    rcases lv_cases (o := lvO A i x) (fun l e => by have := hlt l e; omega) with ⟨e1, e2⟩ | ⟨l, e1, e2, e3⟩
    · rw [if_pos e1, e2]
    · rw [if_neg e3, e2, C.ve hi (hlt l e1) hm, e1]
      rfl
  · intro rec s
    unfold f_X7_earned_l1
    simp (disch := first | assumption | omega) only [gd, lt, jn, bd2, Option.bind_some, LY_si, LY_sl, LY_row, decide_true, decide_false, if_true, ite_true, ite_false, decide_eq_true_eq, yg0, yg1, yg2, yg4, yg13, yg21, yg29, yg35, yg36, yg45, yg50, yg59, yI0, yI1, yI2, yI4, yI13, yI21, yI29, yI35, yI36, yI45, yI50, yI59, yP0, yP1, yP2, yP4, yP13, yP21, yP29, yP35, yP36, yP45, yP50, yP59, yR0_0, yR0_1, yR0_2, yR0_3, yR0_4, yR1_0, yR1_1, yR1_2, yR1_3, yR1_4, yR1_5, yR2_0, yR4_4, yR4_5, yR4_6, yR4_7, yR4_8, yR4_9, yR4_10, yR4_11, yR13_1, yR13_2, yR13_3, yR13_4, yR13_5, yR13_6, yR13_7, yR21_1, yR21_2, yR21_3, yR21_4, yR21_5, yR21_6, yR21_7, yR29_0, yR29_1, yR29_2, yR35_0, yR35_1, yR35_2, yR35_3, yR35_4, yR36_4, yR36_5, yR36_6, yR36_7, yR36_8, yR36_9, yR36_10, yR36_11, yR45_0, yR50_0, yR50_1, yR50_2, yR50_3, yR50_4, yR50_5, yR50_6, yR50_7, yR59_1, yA3, yA5, yA6, yA7, yA8, yA9, yA10, yA11, yA12, yA14, yA15, yA16, yA17, yA18, yA19, yA20, yA22, yA23, yA24, yA25, yA26, yA27, yA28, yA30, yA31, yA32, yA33, yA37, yA38, yA39, yA40, yA41, yA42, yA43, yA44, yA46, yA47, yA48, yA49, yA51, yA52, yA53, yA54, yA55, yA56, yA57, yA58, yA60, yS3, yS5, yS6, yS7, yS8, yS9, yS10, yS11, yS12, yS14, yS15, yS16, yS17, yS18, yS19, yS20, yS22, yS23, yS24, yS25, yS26, yS27, yS28, yS30, yS31, yS32, yS33, yS37, yS38, yS39, yS40, yS41, yS42, yS43, yS44, yS46, yS47, yS48, yS49, yS51, yS52, yS53, yS54, yS55, yS56, yS57, yS58, yS60, ek]
    rw [if_pos (nI_le (Nat.le_refl _) (by omega))]
def nvS (A : Nat → Int32) (x : Int32) : Int32 := sm (fun i => sm (fun n => if whS A i n = x then npS A i n - vS A i n (A 144) else 0) (nq A i)) (nk A)
theorem c_notVested {h : Z_H} {A : Nat → Int32} (C : CA h A) {x : Int32} : f_X7_notVested h 1 x = some (nvS A x) := by
  have H := C.1
  obtain ⟨ek, h40⟩ := C.k
  obtain ⟨en, h99⟩ := C.now
  have hm : qOK A (nI (nwN A)) := qOK_now C.2.1 C.2.2.1 (Nat.le_refl _) (by omega)
  have e144 : A 144 = nI (nwN A) := C.2.1.2.2.2.2
  have key := lp_sum (b := f_X7_notVested_l1 1 x h) (N := nk A) (fun i => pkS A i x (fun l => npS A i l - vS A i l (A 144))) (by omega) ?_ ?_ 0
  · unfold f_X7_notVested
    simp (disch := first | assumption | omega) only [gd, lt, jn, bd2, Option.bind_some, LY_si, LY_sl, LY_row, decide_true, decide_false, if_true, ite_true, ite_false, decide_eq_true_eq, yg0, yg1, yg2, yg4, yg13, yg21, yg29, yg35, yg36, yg45, yg50, yg59, yI0, yI1, yI2, yI4, yI13, yI21, yI29, yI35, yI36, yI45, yI50, yI59, yP0, yP1, yP2, yP4, yP13, yP21, yP29, yP35, yP36, yP45, yP50, yP59, yR0_0, yR0_1, yR0_2, yR0_3, yR0_4, yR1_0, yR1_1, yR1_2, yR1_3, yR1_4, yR1_5, yR2_0, yR4_4, yR4_5, yR4_6, yR4_7, yR4_8, yR4_9, yR4_10, yR4_11, yR13_1, yR13_2, yR13_3, yR13_4, yR13_5, yR13_6, yR13_7, yR21_1, yR21_2, yR21_3, yR21_4, yR21_5, yR21_6, yR21_7, yR29_0, yR29_1, yR29_2, yR35_0, yR35_1, yR35_2, yR35_3, yR35_4, yR36_4, yR36_5, yR36_6, yR36_7, yR36_8, yR36_9, yR36_10, yR36_11, yR45_0, yR50_0, yR50_1, yR50_2, yR50_3, yR50_4, yR50_5, yR50_6, yR50_7, yR59_1, yA3, yA5, yA6, yA7, yA8, yA9, yA10, yA11, yA12, yA14, yA15, yA16, yA17, yA18, yA19, yA20, yA22, yA23, yA24, yA25, yA26, yA27, yA28, yA30, yA31, yA32, yA33, yA37, yA38, yA39, yA40, yA41, yA42, yA43, yA44, yA46, yA47, yA48, yA49, yA51, yA52, yA53, yA54, yA55, yA56, yA57, yA58, yA60, yS3, yS5, yS6, yS7, yS8, yS9, yS10, yS11, yS12, yS14, yS15, yS16, yS17, yS18, yS19, yS20, yS22, yS23, yS24, yS25, yS26, yS27, yS28, yS30, yS31, yS32, yS33, yS37, yS38, yS39, yS40, yS41, yS42, yS43, yS44, yS46, yS47, yS48, yS49, yS51, yS52, yS53, yS54, yS55, yS56, yS57, yS58, yS60, key]
    unfold nvS
    congr 1
    rw [Int32.zero_add]
    exact sm_congr _ (fun i hi => pkS_eq (C.2.2.2.1.2.2 i hi))
  · intro rec i s hi
    obtain ⟨-, -, -, h5, -, -, -⟩ := C.2.2.2.1.2.2 i hi
    have hlt : ∀ l, lvO A i x = some l → l < nq A i := fun l e => by have := (fnd_some _ _ _ e).2.1; omega
    unfold f_X7_notVested_l1 pkS
    simp (disch := first | assumption | omega) only [gd, lt, jn, bd2, Option.bind_some, LY_si, LY_sl, LY_row, decide_true, decide_false, if_true, ite_true, ite_false, decide_eq_true_eq, yg0, yg1, yg2, yg4, yg13, yg21, yg29, yg35, yg36, yg45, yg50, yg59, yI0, yI1, yI2, yI4, yI13, yI21, yI29, yI35, yI36, yI45, yI50, yI59, yP0, yP1, yP2, yP4, yP13, yP21, yP29, yP35, yP36, yP45, yP50, yP59, yR0_0, yR0_1, yR0_2, yR0_3, yR0_4, yR1_0, yR1_1, yR1_2, yR1_3, yR1_4, yR1_5, yR2_0, yR4_4, yR4_5, yR4_6, yR4_7, yR4_8, yR4_9, yR4_10, yR4_11, yR13_1, yR13_2, yR13_3, yR13_4, yR13_5, yR13_6, yR13_7, yR21_1, yR21_2, yR21_3, yR21_4, yR21_5, yR21_6, yR21_7, yR29_0, yR29_1, yR29_2, yR35_0, yR35_1, yR35_2, yR35_3, yR35_4, yR36_4, yR36_5, yR36_6, yR36_7, yR36_8, yR36_9, yR36_10, yR36_11, yR45_0, yR50_0, yR50_1, yR50_2, yR50_3, yR50_4, yR50_5, yR50_6, yR50_7, yR59_1, yA3, yA5, yA6, yA7, yA8, yA9, yA10, yA11, yA12, yA14, yA15, yA16, yA17, yA18, yA19, yA20, yA22, yA23, yA24, yA25, yA26, yA27, yA28, yA30, yA31, yA32, yA33, yA37, yA38, yA39, yA40, yA41, yA42, yA43, yA44, yA46, yA47, yA48, yA49, yA51, yA52, yA53, yA54, yA55, yA56, yA57, yA58, yA60, yS3, yS5, yS6, yS7, yS8, yS9, yS10, yS11, yS12, yS14, yS15, yS16, yS17, yS18, yS19, yS20, yS22, yS23, yS24, yS25, yS26, yS27, yS28, yS30, yS31, yS32, yS33, yS37, yS38, yS39, yS40, yS41, yS42, yS43, yS44, yS46, yS47, yS48, yS49, yS51, yS52, yS53, yS54, yS55, yS56, yS57, yS58, yS60, ek, c_levelOf C hi, nI_1]
    rw [if_neg (nI_ge hi (by omega))]
    rcases lv_cases (o := lvO A i x) (fun l e => by have := hlt l e; omega) with ⟨e1, e2⟩ | ⟨l, e1, e2, e3⟩
    · rw [if_pos e1, e2]
    · rw [if_neg e3, e2, c_netPay H C.2.2.2.2.2.2.1 C.2.2.2.1 hi (hlt l e1)]
      simp (disch := first | assumption | omega) only [gd, lt, jn, bd2, Option.bind_some, LY_si, LY_sl, LY_row, decide_true, decide_false, if_true, ite_true, ite_false, decide_eq_true_eq, yg0, yg1, yg2, yg4, yg13, yg21, yg29, yg35, yg36, yg45, yg50, yg59, yI0, yI1, yI2, yI4, yI13, yI21, yI29, yI35, yI36, yI45, yI50, yI59, yP0, yP1, yP2, yP4, yP13, yP21, yP29, yP35, yP36, yP45, yP50, yP59, yR0_0, yR0_1, yR0_2, yR0_3, yR0_4, yR1_0, yR1_1, yR1_2, yR1_3, yR1_4, yR1_5, yR2_0, yR4_4, yR4_5, yR4_6, yR4_7, yR4_8, yR4_9, yR4_10, yR4_11, yR13_1, yR13_2, yR13_3, yR13_4, yR13_5, yR13_6, yR13_7, yR21_1, yR21_2, yR21_3, yR21_4, yR21_5, yR21_6, yR21_7, yR29_0, yR29_1, yR29_2, yR35_0, yR35_1, yR35_2, yR35_3, yR35_4, yR36_4, yR36_5, yR36_6, yR36_7, yR36_8, yR36_9, yR36_10, yR36_11, yR45_0, yR50_0, yR50_1, yR50_2, yR50_3, yR50_4, yR50_5, yR50_6, yR50_7, yR59_1, yA3, yA5, yA6, yA7, yA8, yA9, yA10, yA11, yA12, yA14, yA15, yA16, yA17, yA18, yA19, yA20, yA22, yA23, yA24, yA25, yA26, yA27, yA28, yA30, yA31, yA32, yA33, yA37, yA38, yA39, yA40, yA41, yA42, yA43, yA44, yA46, yA47, yA48, yA49, yA51, yA52, yA53, yA54, yA55, yA56, yA57, yA58, yA60, yS3, yS5, yS6, yS7, yS8, yS9, yS10, yS11, yS12, yS14, yS15, yS16, yS17, yS18, yS19, yS20, yS22, yS23, yS24, yS25, yS26, yS27, yS28, yS30, yS31, yS32, yS33, yS37, yS38, yS39, yS40, yS41, yS42, yS43, yS44, yS46, yS47, yS48, yS49, yS51, yS52, yS53, yS54, yS55, yS56, yS57, yS58, yS60]
      rw [en, C.ve hi (hlt l e1) hm, e1, e144]
      rfl
  · intro rec s
    unfold f_X7_notVested_l1
    simp (disch := first | assumption | omega) only [gd, lt, jn, bd2, Option.bind_some, LY_si, LY_sl, LY_row, decide_true, decide_false, if_true, ite_true, ite_false, decide_eq_true_eq, yg0, yg1, yg2, yg4, yg13, yg21, yg29, yg35, yg36, yg45, yg50, yg59, yI0, yI1, yI2, yI4, yI13, yI21, yI29, yI35, yI36, yI45, yI50, yI59, yP0, yP1, yP2, yP4, yP13, yP21, yP29, yP35, yP36, yP45, yP50, yP59, yR0_0, yR0_1, yR0_2, yR0_3, yR0_4, yR1_0, yR1_1, yR1_2, yR1_3, yR1_4, yR1_5, yR2_0, yR4_4, yR4_5, yR4_6, yR4_7, yR4_8, yR4_9, yR4_10, yR4_11, yR13_1, yR13_2, yR13_3, yR13_4, yR13_5, yR13_6, yR13_7, yR21_1, yR21_2, yR21_3, yR21_4, yR21_5, yR21_6, yR21_7, yR29_0, yR29_1, yR29_2, yR35_0, yR35_1, yR35_2, yR35_3, yR35_4, yR36_4, yR36_5, yR36_6, yR36_7, yR36_8, yR36_9, yR36_10, yR36_11, yR45_0, yR50_0, yR50_1, yR50_2, yR50_3, yR50_4, yR50_5, yR50_6, yR50_7, yR59_1, yA3, yA5, yA6, yA7, yA8, yA9, yA10, yA11, yA12, yA14, yA15, yA16, yA17, yA18, yA19, yA20, yA22, yA23, yA24, yA25, yA26, yA27, yA28, yA30, yA31, yA32, yA33, yA37, yA38, yA39, yA40, yA41, yA42, yA43, yA44, yA46, yA47, yA48, yA49, yA51, yA52, yA53, yA54, yA55, yA56, yA57, yA58, yA60, yS3, yS5, yS6, yS7, yS8, yS9, yS10, yS11, yS12, yS14, yS15, yS16, yS17, yS18, yS19, yS20, yS22, yS23, yS24, yS25, yS26, yS27, yS28, yS30, yS31, yS32, yS33, yS37, yS38, yS39, yS40, yS41, yS42, yS43, yS44, yS46, yS47, yS48, yS49, yS51, yS52, yS53, yS54, yS55, yS56, yS57, yS58, yS60, ek]
    rw [if_pos (nI_le (Nat.le_refl _) (by omega))]
theorem e_notVested_l2 {h : Z_H} (H : LY h) (hM : MSale (z_i h 62)) {x a : Int32} {k : Nat} (hk : k < nk (z_i h 62)) : lp (f_X10_notVested_l2 61 x h (nI k)) FU (a, 0) = some (a + sm (fun n => if whS (z_i h 62) k n = x then npS (z_i h 62) k n - vS (z_i h 62) k n (z_i h 62 144) else 0) (nq (z_i h 62) k)) := by
  obtain ⟨h40, -⟩ := hM.k
  obtain ⟨hq5, eq, hw⟩ := hM.q hk
  refine lp_sum (b := f_X10_notVested_l2 61 x h (nI k)) _ (by omega) ?_ ?_ a
  · intro rec n s hn
    obtain ⟨w, hw1, hw2⟩ := hw n hn
    unfold f_X10_notVested_l2
    have e0 : f_X10_ofLevel h 61 (nI k) (nI n) 0 = some (whS (z_i h 62) k n) := e_ol0 H (by omega) (by omega)
    simp (disch := first | assumption | omega) only [gd, lt, jn, bd2, Option.bind_some, LY_si, LY_sl, LY_row, decide_true, decide_false, if_true, ite_true, ite_false, decide_eq_true_eq, yg61, yI61, yP61, yR61_1, yR61_2, yR61_12, yR61_13, yR61_17, yR61_18, yR61_21, yR61_22, yR61_23, yR61_25, yA62, yA63, yA64, yA65, yA66, yA67, yA68, yA69, yA70, yA71, yS62, yS63, yS64, yS65, yS66, yS67, yS68, yS69, yS70, yS71, e_oa5, eq, e0, e_netPay, e_now, e_vestedAt H (by omega : k < 40) (by omega : n < 5) hw1 hw2, nI_1]
    rw [if_neg (nI_ge hn (by omega))]
    split <;> rfl
  · intro rec s
    unfold f_X10_notVested_l2
    simp (disch := first | assumption | omega) only [gd, lt, jn, bd2, Option.bind_some, LY_si, LY_sl, LY_row, decide_true, decide_false, if_true, ite_true, ite_false, decide_eq_true_eq, yg61, yI61, yP61, yR61_1, yR61_2, yR61_12, yR61_13, yR61_17, yR61_18, yR61_21, yR61_22, yR61_23, yR61_25, yA62, yA63, yA64, yA65, yA66, yA67, yA68, yA69, yA70, yA71, yS62, yS63, yS64, yS65, yS66, yS67, yS68, yS69, yS70, yS71, e_oa5, eq]
    rw [if_pos (nI_le (Nat.le_refl _) (by omega))]
theorem e_notVested {h : Z_H} (H : LY h) (hM : MSale (z_i h 62)) {x : Int32} : f_X10_notVested h 61 x = some (nvS (z_i h 62) x) := by
  obtain ⟨h40, ek⟩ := hM.k
  have e146 : aI h 62 146 = some (z_i h 62 146) := yA62 H (k := 146) (by omega)
  have key := lp_sum (b := f_X10_notVested_l1 61 x h) (N := nk (z_i h 62)) (fun k => sm (fun n => if whS (z_i h 62) k n = x then npS (z_i h 62) k n - vS (z_i h 62) k n (z_i h 62 144) else 0) (nq (z_i h 62) k)) (by omega) ?_ ?_ 0
  · unfold f_X10_notVested
    simp (disch := first | assumption | omega) only [gd, lt, jn, bd2, Option.bind_some, LY_si, LY_sl, LY_row, decide_true, decide_false, if_true, ite_true, ite_false, decide_eq_true_eq, yg61, yI61, yP61, yR61_1, yR61_2, yR61_12, yR61_13, yR61_17, yR61_18, yR61_21, yR61_22, yR61_23, yR61_25, yA62, yA63, yA64, yA65, yA66, yA67, yA68, yA69, yA70, yA71, yS62, yS63, yS64, yS65, yS66, yS67, yS68, yS69, yS70, yS71, key]
    rw [Int32.zero_add]
    rfl
  · intro rec n s hn
    unfold f_X10_notVested_l1
    simp (disch := first | assumption | omega) only [gd, lt, jn, bd2, Option.bind_some, LY_si, LY_sl, LY_row, decide_true, decide_false, if_true, ite_true, ite_false, decide_eq_true_eq, yg61, yI61, yP61, yR61_1, yR61_2, yR61_12, yR61_13, yR61_17, yR61_18, yR61_21, yR61_22, yR61_23, yR61_25, yA62, yA63, yA64, yA65, yA66, yA67, yA68, yA69, yA70, yA71, yS62, yS63, yS64, yS65, yS66, yS67, yS68, yS69, yS70, yS71, e146, ek, e_notVested_l2 H hM hn, nI_1]
    rw [if_neg (nI_ge hn (by omega))]
  · intro rec s
    unfold f_X10_notVested_l1
    simp (disch := first | assumption | omega) only [gd, lt, jn, bd2, Option.bind_some, LY_si, LY_sl, LY_row, decide_true, decide_false, if_true, ite_true, ite_false, decide_eq_true_eq, yg61, yI61, yP61, yR61_1, yR61_2, yR61_12, yR61_13, yR61_17, yR61_18, yR61_21, yR61_22, yR61_23, yR61_25, yA62, yA63, yA64, yA65, yA66, yA67, yA68, yA69, yA70, yA71, yS62, yS63, yS64, yS65, yS66, yS67, yS68, yS69, yS70, yS71, e146, ek]
    rw [if_pos (nI_le (Nat.le_refl _) (by omega))]
