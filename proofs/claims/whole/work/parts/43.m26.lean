/-! what the class pays -/
def PW (h h' : Z_H) : Prop := z_n h' = z_n h ∧ z_t h' = z_t h ∧ z_x h' = z_x h ∧ ∀ a, a ≠ 12 → a ≠ 59 → a ≠ 60 → z_i h' a = z_i h a
theorem PW.rf {h : Z_H} : PW h h := ⟨rfl, rfl, rfl, fun _ _ _ _ => rfl⟩
theorem PW.tr {h h1 h2 : Z_H} (x : PW h h1) (y : PW h1 h2) : PW h h2 := ⟨y.1.trans x.1, y.2.1.trans x.2.1, y.2.2.1.trans x.2.2.1, fun q h1 h2 h3 => (y.2.2.2 q h1 h2 h3).trans (x.2.2.2 q h1 h2 h3)⟩
theorem PW.ly {h h' : Z_H} (x : PW h h') (H : LY h) : LY h' := LY_x x.1 x.2.2.1 H
theorem PW_si {h : Z_H} {q k : Nat} {v : Int32} (e : q = 12 ∨ q = 59 ∨ q = 60) : PW h (z_si h q k v) := ⟨rfl, rfl, rfl, fun p h1 h2 h3 => z_si_o (by omega)⟩
theorem TW.pw {h h' : Z_H} (x : TW h h' 12 60) : PW h h' := ⟨x.1, x.2.1, x.2.2.1, fun q h1 _ h3 => x.2.2.2 q h1 h3⟩
theorem PW.qs {h h' : Z_H} (x : PW h h') : QS h h' := by
  refine ⟨x.1, x.2.1, x.2.2.1, fun a ha => x.2.2.2 a ?_ ?_ ?_, by rw [x.2.2.2 61 (by omega) (by omega) (by omega)]⟩
  all_goals
    intro e
    rw [e] at ha
    cases ha
theorem PW.lk {h h' : Z_H} (x : PW h h') {A : Nat → Int32} (L : LK (cl h) A) : LK (cl h') A := by
  obtain ⟨l1, l2, l3, l4, l5, l6, l7, l8, l9⟩ := L
  have e : ∀ o, o ≠ 11 → o < 32 → cl h' o = cl h o := fun o h1 h2 => x.2.2.2 (1 + o) (by omega) (by omega) (by omega)
  refine ⟨l1, l2, l3, l4, l5, ?_, ?_, ?_, ?_⟩
  · unfold RCc at *
    rw [e 12 (by omega) (by omega), e 0 (by omega) (by omega), e 13 (by omega) (by omega), e 14 (by omega) (by omega), e 19 (by omega) (by omega), e 15 (by omega) (by omega), e 16 (by omega) (by omega)]
    exact l6
  · unfold RCp at *
    rw [e 3 (by omega) (by omega), e 4 (by omega) (by omega), e 5 (by omega) (by omega), e 6 (by omega) (by omega), e 7 (by omega) (by omega), e 8 (by omega) (by omega), e 9 (by omega) (by omega), e 10 (by omega) (by omega)]
    exact l7
  · unfold RCm at *
    rw [e 17 (by omega) (by omega), e 18 (by omega) (by omega)]
    exact l8
  · obtain ⟨s1, s2, s3, s4⟩ := l9
    refine ⟨s1, s2, by rw [e 20 (by omega) (by omega)]; exact s3, fun i hi => ⟨(s4 i hi).1, fun f hf => ?_⟩⟩
    rw [e (21 + f) (by omega) (by omega)]
    exact (s4 i hi).2 f hf
theorem PW.lay {h h' : Z_H} (x : PW h h') {S : Sn} {m : Nat} (L : Lay h S m) : Lay h' S m := by
  unfold Lay at *
  rw [x.2.2.2 50 (by omega) (by omega) (by omega), x.2.2.2 51 (by omega) (by omega) (by omega), x.2.2.2 52 (by omega) (by omega) (by omega), x.2.2.2 53 (by omega) (by omega) (by omega)]
  exact L
theorem PW.scn {h h' : Z_H} (x : PW h h') {A : Nat → Int32} {S : Sn} (L : Scn h A S) : Scn h' A S := by
  unfold Scn at *
  rw [x.2.2.2 50 (by omega) (by omega) (by omega), x.2.2.2 54 (by omega) (by omega) (by omega), x.2.2.2 55 (by omega) (by omega) (by omega), x.2.2.2 56 (by omega) (by omega) (by omega), x.2.2.2 57 (by omega) (by omega) (by omega), x.2.2.2 58 (by omega) (by omega) (by omega)]
  exact L
def six (R : Nat → Int32) (o : Nat) (v : Nat → Int32) : Nat → Int32 := upd (upd (upd (upd (upd (upd R (o + 0) (v 0)) (o + 1) (v 1)) (o + 2) (v 2)) (o + 3) (v 3)) (o + 4) (v 4)) (o + 5) (v 5)
theorem gdE {α : Type} {c : Bool} {r q : Option α} (h : c = true) (k : r = q) : gd c r = q := by
  unfold gd
  rw [if_pos h]
  exact k
theorem bnd {α β : Type} {x : Option α} {a : α} {f : α → Option β} {r : Option β} (h : x = some a) (k : f a = r) : x.bind f = r := by
  rw [h]
  exact k
theorem bd2E {α β γ : Type} {x : Option (α × β)} {a : α} {b : β} {f : α → β → Option γ} {r : Option γ} (h : x = some (a, b)) (k : f a b = r) : bd2 x f = r := by
  rw [h]
  exact k
theorem ltE {α β : Type} {x : α} {k : α → β} {r : β} (h : k x = r) : lt x k = r := h
theorem jnE {α β : Type} {k : α → β} {f : (α → β) → β} {r : β} (h : f k = r) : jn k f = r := h
def sx6 (h : Z_H) (o : Nat) (a b c d e f : Int32) : Z_H := z_si (z_si (z_si (z_si (z_si (z_si h 60 (o + 0) a) 60 (o + 1) b) 60 (o + 2) c) 60 (o + 3) d) 60 (o + 4) e) 60 (o + 5) f
theorem tl_stage {h h8 : Z_H} (H : LY h) (H8 : LY h8) {t n rk : Nat} {b cb mm jj pc op am lf : Int32} (ht : t < 11) (ht0 : t < 10) (hn : n < 5) (rl : rk ≤ 3) (s5 : z_i h 58 t = nI rk) (s3 : z_i h 56 t = b) (bc : f_J6_bitCount_0f7a4 h b = some cb) (em : z_i h 50 8 = mm) (ej : z_i h 14 t = jj) (e0 : z_i h 59 0 = nI (n + 1)) (p1 : f_X3_percentOf h 4 (nI (n + 1)) (nI rk) cb (mm - jj) = some (pc, h8)) (a7 : z_i h8 7 rk = op) (q59 : z_i h8 59 0 = nI (n + 1)) : f_X2_takeLevel h 59 1 50 (nI t) am lf = some (if op < nI (n + 1) then sx6 h8 (7 * n) (nI t) pc 0 (am * pc / 100) 0 (nI rk) else sx6 h8 (7 * n) (nI t) pc (les (am * pc / 100) lf) 0 (am * pc / 100 - les (am * pc / 100) lf) (nI rk)) := by
  have vi : ∀ f, (nI (n + 1) - 1) * 7 + nI f = nI (7 * n + f) := fun f => by rw [nI_p1, n_7, nI_mul, nI_add, Nat.mul_comm n 7]
  have ss : ∀ g : Z_H, LY g → ∀ f x, f < 7 → sI g 60 ((nI (n + 1) - 1) * 7 + nI f) x = some (z_si g 60 (7 * n + f) x) := fun g G f x hf => by
    rw [vi]; exact yS60 G (by omega)
  unfold f_X2_takeLevel sx6
  refine gdE (yg59 H) ?_
  refine bnd (yR1_1 H) ?_
  refine bnd (yR50_7 H) ?_
  refine bnd ((yA58 H ht).trans (congrArg some s5)) ?_
  refine bnd (yR50_5 H) ?_
  refine bnd ((yA56 H ht).trans (congrArg some s3)) ?_
  refine bnd bc ?_
  refine bnd ((yI50 H 8).trans (congrArg some em)) ?_
  refine bnd (yR1_2 H) ?_
  refine bnd (yR13_1 H) ?_
  refine bnd ((yA14 H ht0).trans (congrArg some ej)) ?_
  refine ltE ?_
  refine bnd ((yI59 H 0).trans (congrArg some e0)) ?_
  refine bd2E p1 ?_
  refine ltE ?_
  refine bnd (yR4_6 H8) ?_
  refine bnd ((yA7 H8 (show rk < 4 by omega)).trans (congrArg some a7)) ?_
  refine bnd ((yI59 H8 0).trans (congrArg some q59)) ?_
  refine jnE ?_
  have H8a : ∀ x1, LY (z_si h8 60 (7 * n + 0) x1) := fun _ => H8
  have H8b : ∀ x1 x2, LY (z_si (z_si h8 60 (7 * n + 0) x1) 60 (7 * n + 1) x2) := fun _ _ => H8
  have H8c : ∀ x1 x2 x3, LY (z_si (z_si (z_si h8 60 (7 * n + 0) x1) 60 (7 * n + 1) x2) 60 (7 * n + 2) x3) := fun _ _ _ => H8
  have H8d : ∀ x1 x2 x3 x4, LY (z_si (z_si (z_si (z_si h8 60 (7 * n + 0) x1) 60 (7 * n + 1) x2) 60 (7 * n + 2) x3) 60 (7 * n + 3) x4) := fun _ _ _ _ => H8
  have H8e : ∀ x1 x2 x3 x4 x5, LY (z_si (z_si (z_si (z_si (z_si h8 60 (7 * n + 0) x1) 60 (7 * n + 1) x2) 60 (7 * n + 2) x3) 60 (7 * n + 3) x4) 60 (7 * n + 4) x5) := fun _ _ _ _ _ => H8
  by_cases c : op < nI (n + 1)
  · rw [if_pos c, if_pos c]
    refine jnE ?_
    refine (if_pos rfl).trans ?_
    refine bnd ((yI59 H8 0).trans (congrArg some q59)) ?_
    refine ltE ?_
    refine bnd (yR59_1 H8) ?_
    refine bnd (ss _ H8 0 _ (by omega)) ?_
    refine bnd (yR59_1 (H8a _)) ?_
    refine bnd (ss _ (H8a _) 1 _ (by omega)) ?_
    refine bnd (yR59_1 (H8b _ _)) ?_
    refine bnd (ss _ (H8b _ _) 2 _ (by omega)) ?_
    refine bnd (yR59_1 (H8c _ _ _)) ?_
    refine jnE ?_
    refine (if_pos rfl).trans ?_
    refine bnd (ss _ (H8c _ _ _) 3 _ (by omega)) ?_
    refine bnd (yR59_1 (H8d _ _ _ _)) ?_
    refine jnE ?_
    refine (if_pos rfl).trans ?_
    refine bnd (ss _ (H8d _ _ _ _) 4 _ (by omega)) ?_
    refine bnd (yR59_1 (H8e _ _ _ _ _)) ?_
    refine bnd (ss _ (H8e _ _ _ _ _) 5 _ (by omega)) ?_
    rfl
  · rw [if_neg c, if_neg c]
    refine jnE ?_
    refine (if_neg (show ¬ (1 : Int32) = 0 by decide)).trans ?_
    rw [← mn_les]
    refine bnd ((yI59 H8 0).trans (congrArg some q59)) ?_
    refine ltE ?_
    refine bnd (yR59_1 H8) ?_
    refine bnd (ss _ H8 0 _ (by omega)) ?_
    refine bnd (yR59_1 (H8a _)) ?_
    refine bnd (ss _ (H8a _) 1 _ (by omega)) ?_
    refine bnd (yR59_1 (H8b _ _)) ?_
    refine bnd (ss _ (H8b _ _) 2 _ (by omega)) ?_
    refine bnd (yR59_1 (H8c _ _ _)) ?_
    refine jnE ?_
    refine (if_neg (show ¬ (1 : Int32) = 0 by decide)).trans ?_
    refine bnd (ss _ (H8c _ _ _) 3 _ (by omega)) ?_
    refine bnd (yR59_1 (H8d _ _ _ _)) ?_
    refine jnE ?_
    refine (if_neg (show ¬ (1 : Int32) = 0 by decide)).trans ?_
    refine bnd (ss _ (H8d _ _ _ _) 4 _ (by omega)) ?_
    refine bnd (yR59_1 (H8e _ _ _ _ _)) ?_
    refine bnd (ss _ (H8e _ _ _ _ _) 5 _ (by omega)) ?_
    rfl
theorem sx6_60 {h : Z_H} {o : Nat} {a b c d e f : Int32} : TW h (sx6 h o a b c d e f) 12 60 ∧ z_i (sx6 h o a b c d e f) 60 = upd (upd (upd (upd (upd (upd (z_i h 60) (o + 0) a) (o + 1) b) (o + 2) c) (o + 3) d) (o + 4) e) (o + 5) f := by
  unfold sx6
  refine ⟨(TW_si (Or.inr rfl)).tr ((TW_si (Or.inr rfl)).tr ((TW_si (Or.inr rfl)).tr ((TW_si (Or.inr rfl)).tr ((TW_si (Or.inr rfl)).tr (TW_si (Or.inr rfl)))))), ?_⟩
  rw [z_si_i, z_si_i, z_si_i, z_si_i, z_si_i, z_si_i]
theorem c_takeLevel {h : Z_H} (H : LY h) {A : Nat → Int32} (L : LK (cl h) A) {S : Sn} {m : Nat} (hn11 : S.1 ≤ 11) (hL : Lay h S m) (hS : Scn h A S) {t n k : Nat} {am lf : Int32} (ht : t < S.1) (htn : t < nn A) (hn : n < 5) (e0 : z_i h 59 0 = nI (n + 1)) : ∃ h', f_X2_takeLevel h 59 1 50 (nI t) am lf = some h' ∧ TW h h' 12 60 ∧ z_i h' 60 = six (z_i h 60) (7 * n) (fcS A S m am lf t n k) := by
  have h10 := L.1.2.1
  obtain ⟨-, -, s3, s4, s5⟩ := (hS.2 t ht)
  obtain ⟨h8, p1, p2⟩ := c_percentOf (S := S) (m := m) (t := t) (l := n) H L.2.2.2.2.2.2.1 L.2.2.1 hn
  have H8 := p2.ly H
  have q50 : ∀ a, a ≠ 12 → z_i h8 a = z_i h a := fun a ha => p2.2.2.2 a ha ha
  have q59 : z_i h8 59 0 = nI (n + 1) := by rw [q50 59 (by omega)]; exact e0
  have rl := rnk_le (A := A) (S := S) (t := t)
  have ej : z_i h 14 t = A (147 + 94 * t + 0) := (L.2.2.2.2.2.1.2.2 t htn).1
  have a7' : z_i h8 7 (rnk A S t) = A (15 + rnk A S t) := by
    rw [q50 7 (by omega)]
    exact L.pl.2.2.1 (rnk A S t) (by omega)
  have em : z_i h 50 8 = nI m := hL.1
  have bc := c_bitsS (h := h) (p := inD S t) hn11
  have st := tl_stage (am := am) (lf := lf) H H8 (by omega) (by omega) hn rl s5 s3 bc em ej e0 p1 a7' q59
  have tw8 : TW h h8 12 60 := ⟨p2.1, p2.2.1, p2.2.2.1, fun q h1 _ => q50 q h1⟩
  by_cases c : A (15 + rnk A S t) < nI (n + 1)
  · rw [if_pos c] at st
    have co : opS A S t n = false := by unfold opS; simpa using Int32.not_le.mpr c
    refine ⟨_, st, tw8.tr sx6_60.1, ?_⟩
    rw [sx6_60.2, q50 60 (by omega)]
    unfold six fcS pyS whl
    rw [co]
    rfl
  · rw [if_neg c] at st
    have co : opS A S t n = true := by unfold opS; simpa using Int32.not_lt.mp c
    refine ⟨_, st, tw8.tr sx6_60.1, ?_⟩
    rw [sx6_60.2, q50 60 (by omega)]
    unfold six fcS pyS whl
    rw [co]
    rfl
theorem c_isActive {h : Z_H} (H : LY h) {A : Nat → Int32} {S : Sn} (hn : S.1 ≤ 11) (hS : Scn h A S) {t : Nat} (ht : t < S.1) : f_X6_isActive h 50 (nI t) = some (if inA S (A 3) t then 1 else 0) := by
  unfold f_X6_isActive
  simp (disch := first | assumption | omega) only [gd, lt, jn, bd2, Option.bind_some, LY_si, LY_sl, LY_row, decide_true, decide_false, if_true, ite_true, ite_false, decide_eq_true_eq, yg0, yg1, yg2, yg4, yg13, yg21, yg29, yg35, yg36, yg45, yg50, yg59, yI0, yI1, yI2, yI4, yI13, yI21, yI29, yI35, yI36, yI45, yI50, yI59, yP0, yP1, yP2, yP4, yP13, yP21, yP29, yP35, yP36, yP45, yP50, yP59, yR0_0, yR0_1, yR0_2, yR0_3, yR0_4, yR1_0, yR1_1, yR1_2, yR1_3, yR1_4, yR1_5, yR2_0, yR4_4, yR4_5, yR4_6, yR4_7, yR4_8, yR4_9, yR4_10, yR4_11, yR13_1, yR13_2, yR13_3, yR13_4, yR13_5, yR13_6, yR13_7, yR21_1, yR21_2, yR21_3, yR21_4, yR21_5, yR21_6, yR21_7, yR29_0, yR29_1, yR29_2, yR35_0, yR35_1, yR35_2, yR35_3, yR35_4, yR36_4, yR36_5, yR36_6, yR36_7, yR36_8, yR36_9, yR36_10, yR36_11, yR45_0, yR50_0, yR50_1, yR50_2, yR50_3, yR50_4, yR50_5, yR50_6, yR50_7, yR59_1, yA3, yA5, yA6, yA7, yA8, yA9, yA10, yA11, yA12, yA14, yA15, yA16, yA17, yA18, yA19, yA20, yA22, yA23, yA24, yA25, yA26, yA27, yA28, yA30, yA31, yA32, yA33, yA37, yA38, yA39, yA40, yA41, yA42, yA43, yA44, yA46, yA47, yA48, yA49, yA51, yA52, yA53, yA54, yA55, yA56, yA57, yA58, yA60, yS3, yS5, yS6, yS7, yS8, yS9, yS10, yS11, yS12, yS14, yS15, yS16, yS17, yS18, yS19, yS20, yS22, yS23, yS24, yS25, yS26, yS27, yS28, yS30, yS31, yS32, yS33, yS37, yS38, yS39, yS40, yS41, yS42, yS43, yS44, yS46, yS47, yS48, yS49, yS51, yS52, yS53, yS54, yS55, yS56, yS57, yS58, yS60, hS.1]
  rw [nI_tb (bsN_2048 hn) (by omega), bsN_tb, decide_eq_true ht]
  cases inA S (A 3) t <;> rfl
theorem c_payUp {h : Z_H} (H : LY h) {A : Nat → Int32} (L : LK (cl h) A) {S : Sn} {m : Nat} (hO : SOK S) (hL : Lay h S m) (hS : Scn h A S) {s : Nat} {am : Int32} (hs : s < S.1) (hU : ∀ k u, 1 ≤ k → upk (sP S) k s = some u → u < nn A) : ∃ h', f_X2_payUp h 59 1 50 (nI s) am = some h' ∧ PW h h' ∧ (puS A S m am s).1 ≤ 5 ∧ z_i h' 59 0 = nI (puS A S m am s).1 ∧ ∀ i, i < 7 * (puS A S m am s).1 → z_i h' 60 i = (puS A S m am s).2.2 i := by
  have hn := hO.1
  let g := puG A S m am s
  let q0 := pu0 A am
  let h1 := z_si h 59 0 0
  have H1 : LY h1 := H
  have upe : ∀ k, ∀ p, upk (sP S) k s = some p → p < 1000 := fun k p e => by
    have := hO.2.1.lt hs e
    omega
  have key := lp_ex2 (b := f_X2_payUp_l1 59 1 50 am) (fun j (x : Int32 × Z_H) => (x.1, pe (upk (sP S) (j + 1) s), nI (j + 1), x.2)) (fun j x => PW h x.2 ∧ (itf g 1 j q0).1 ≤ 5 ∧ z_i x.2 59 0 = nI (itf g 1 j q0).1 ∧ x.1 = (itf g 1 j q0).2.1 ∧ ∀ i, i < 7 * (itf g 1 j q0).1 → z_i x.2 60 i = (itf g 1 j q0).2.2 i) (fun x => some x.2) 10 ?_ ?_ 10 FU 0 (am * A 4 / 100, h1) rfl (by unfold FU; omega) ⟨PW_si (by omega), by show 0 ≤ 5; omega, rfl, rfl, fun i hi => by
    have : i < 7 * 0 := hi
    omega⟩
  · obtain ⟨⟨lf, g'⟩, ⟨g1, g4, g5, g6, g7⟩, e⟩ := key
    have e' : lp (f_X2_payUp_l1 59 1 50 am) FU (am * A 4 / 100, pe (sP S s), 1, h1) = some g' := by
      have : upk (sP S) 1 s = sP S s := by
        rw [upk_next]
        rfl
      rw [← this]
      exact e
    refine ⟨g', ?_, g1, g4, g5, g7⟩
    have a4 : z_i h1 4 1 = A 4 := by
      rw [show z_i h1 4 = z_i h 4 from z_si_o (by omega)]
      exact L.pl.2.2.2.2
    have a66 : z_i h1 51 s = pe (sP S s) := by
      rw [show z_i h1 51 = z_i h 51 from z_si_o (by omega)]
      exact (hL.2.2.2.2 s hs).1
    unfold f_X2_payUp
    have x1 : z_si h 59 0 0 = h1 := rfl
    simp (disch := first | assumption | omega) only [gd, lt, jn, bd2, Option.bind_some, LY_si, LY_sl, LY_row, decide_true, decide_false, if_true, ite_true, ite_false, decide_eq_true_eq, yg0, yg1, yg2, yg4, yg13, yg21, yg29, yg35, yg36, yg45, yg50, yg59, yI0, yI1, yI2, yI4, yI13, yI21, yI29, yI35, yI36, yI45, yI50, yI59, yP0, yP1, yP2, yP4, yP13, yP21, yP29, yP35, yP36, yP45, yP50, yP59, yR0_0, yR0_1, yR0_2, yR0_3, yR0_4, yR1_0, yR1_1, yR1_2, yR1_3, yR1_4, yR1_5, yR2_0, yR4_4, yR4_5, yR4_6, yR4_7, yR4_8, yR4_9, yR4_10, yR4_11, yR13_1, yR13_2, yR13_3, yR13_4, yR13_5, yR13_6, yR13_7, yR21_1, yR21_2, yR21_3, yR21_4, yR21_5, yR21_6, yR21_7, yR29_0, yR29_1, yR29_2, yR35_0, yR35_1, yR35_2, yR35_3, yR35_4, yR36_4, yR36_5, yR36_6, yR36_7, yR36_8, yR36_9, yR36_10, yR36_11, yR45_0, yR50_0, yR50_1, yR50_2, yR50_3, yR50_4, yR50_5, yR50_6, yR50_7, yR59_1, yA3, yA5, yA6, yA7, yA8, yA9, yA10, yA11, yA12, yA14, yA15, yA16, yA17, yA18, yA19, yA20, yA22, yA23, yA24, yA25, yA26, yA27, yA28, yA30, yA31, yA32, yA33, yA37, yA38, yA39, yA40, yA41, yA42, yA43, yA44, yA46, yA47, yA48, yA49, yA51, yA52, yA53, yA54, yA55, yA56, yA57, yA58, yA60, yS3, yS5, yS6, yS7, yS8, yS9, yS10, yS11, yS12, yS14, yS15, yS16, yS17, yS18, yS19, yS20, yS22, yS23, yS24, yS25, yS26, yS27, yS28, yS30, yS31, yS32, yS33, yS37, yS38, yS39, yS40, yS41, yS42, yS43, yS44, yS46, yS47, yS48, yS49, yS51, yS52, yS53, yS54, yS55, yS56, yS57, yS58, yS60, x1, a4, a66, e']
  · rintro j ⟨lf, x⟩ hj ⟨g1, g4, g5, g6, g7⟩
    dsimp only at g1 g4 g5 g6 g7
    have X := g1.ly H
    have il : itf g 1 (j + 1) q0 = g (1 + j) (itf g 1 j q0) := itf_last j 1 q0
    rw [show 1 + j = j + 1 by omega] at il
    generalize eq : itf g 1 j q0 = q at *
    cases hu : upk (sP S) (j + 1) s with
    | none =>
      have st : itf g 1 10 q0 = q := by
        rw [← eq]
        refine itf_stay 10 (by omega) (fun k h1 _ => puG_n (upk_mono hu (by omega)))
      refine Or.inr ⟨?_, fun rec => ?_⟩
      · dsimp only
        rw [st]
        exact ⟨g1, g4, g5, g6, g7⟩
      · unfold f_X2_payUp_l1
        dsimp only
        rw [if_neg (show ¬ (10 : Int32) < nI (j + 1) from nI_nlt (a := 10) (by omega) (by omega)), if_pos (show pe none = -1 from rfl)]
    | some u =>
      have hun := hU (j + 1) u (by omega) hu
      have hu11 := hO.2.1.lt hs hu
      have pes : pe (some u) = nI u := rfl
      have c10 : ¬ (10 : Int32) < nI (j + 1) := nI_nlt (a := 10) (by omega) (by omega)
      by_cases c5 : q.1 < 5
      · have gs := puG_s (A := A) (m := m) (am := am) hu c5
        have il : itf g 1 (j + 1) q0 = _ := il.trans gs
        have ia := c_isActive (t := u) X hn (g1.scn hS) hu11
        have e66 : ∀ y : Z_H, PW h y → z_i y 51 u = pe (upk (sP S) (j + 1 + 1) s) := fun y e => by
          rw [e.2.2.2 51 (by omega) (by omega) (by omega), (hL.2.2.2.2 u hu11).1, upk_next, hu]
          rfl
        cases hI : inA S (A 3) u with
        | false =>
          rw [hI] at il ia
          have il : itf g 1 (j + 1) q0 = q := il
          refine Or.inl ⟨(lf, x), ?_, fun rec => ?_⟩
          · dsimp only
            rw [il]
            exact ⟨g1, g4, g5, g6, g7⟩
          · unfold f_X2_payUp_l1
            simp (disch := first | assumption | omega) only [gd, lt, jn, bd2, Option.bind_some, LY_si, LY_sl, LY_row, decide_true, decide_false, if_true, ite_true, ite_false, decide_eq_true_eq, yg0, yg1, yg2, yg4, yg13, yg21, yg29, yg35, yg36, yg45, yg50, yg59, yI0, yI1, yI2, yI4, yI13, yI21, yI29, yI35, yI36, yI45, yI50, yI59, yP0, yP1, yP2, yP4, yP13, yP21, yP29, yP35, yP36, yP45, yP50, yP59, yR0_0, yR0_1, yR0_2, yR0_3, yR0_4, yR1_0, yR1_1, yR1_2, yR1_3, yR1_4, yR1_5, yR2_0, yR4_4, yR4_5, yR4_6, yR4_7, yR4_8, yR4_9, yR4_10, yR4_11, yR13_1, yR13_2, yR13_3, yR13_4, yR13_5, yR13_6, yR13_7, yR21_1, yR21_2, yR21_3, yR21_4, yR21_5, yR21_6, yR21_7, yR29_0, yR29_1, yR29_2, yR35_0, yR35_1, yR35_2, yR35_3, yR35_4, yR36_4, yR36_5, yR36_6, yR36_7, yR36_8, yR36_9, yR36_10, yR36_11, yR45_0, yR50_0, yR50_1, yR50_2, yR50_3, yR50_4, yR50_5, yR50_6, yR50_7, yR59_1, yA3, yA5, yA6, yA7, yA8, yA9, yA10, yA11, yA12, yA14, yA15, yA16, yA17, yA18, yA19, yA20, yA22, yA23, yA24, yA25, yA26, yA27, yA28, yA30, yA31, yA32, yA33, yA37, yA38, yA39, yA40, yA41, yA42, yA43, yA44, yA46, yA47, yA48, yA49, yA51, yA52, yA53, yA54, yA55, yA56, yA57, yA58, yA60, yS3, yS5, yS6, yS7, yS8, yS9, yS10, yS11, yS12, yS14, yS15, yS16, yS17, yS18, yS19, yS20, yS22, yS23, yS24, yS25, yS26, yS27, yS28, yS30, yS31, yS32, yS33, yS37, yS38, yS39, yS40, yS41, yS42, yS43, yS44, yS46, yS47, yS48, yS49, yS51, yS52, yS53, yS54, yS55, yS56, yS57, yS58, yS60, pes, g5, ia, e66 x g1, nI_1]
            rw [if_neg c10, if_neg (nI_m1 (by omega)), if_neg (show ¬ (5 : Int32) ≤ nI q.1 from nI_ge (b := 5) c5 (by omega))]
            rfl
        | true =>
          rw [hI] at il ia
          have il : itf g 1 (j + 1) q0 = (q.1 + 1, q.2.1 - pyS A S m am q.2.1 u q.1, w7 q.2.2 (7 * q.1) (fcS A S m am q.2.1 u q.1 (j + 1))) := il
          let x2 := z_si x 59 0 (nI (q.1 + 1))
          have w2 : PW h x2 := g1.tr (PW_si (by omega))
          have X2 : LY x2 := X
          obtain ⟨y, t1, t2, t3⟩ := c_takeLevel (t := u) (n := q.1) (k := j + 1) (am := am) (lf := q.2.1) X2 (w2.lk L) hn (w2.lay hL) (w2.scn hS) hu11 hun c5 rfl
          have Y := t2.ly X2
          have wy : PW h y := w2.tr t2.pw
          have y59 : z_i y 59 0 = nI (q.1 + 1) := by rw [t2.2.2.2 59 (by omega) (by omega)]; rfl
          let y2 := z_si y 60 (7 * q.1 + 6) (nI (j + 1))
          have Y2 : LY y2 := Y
          have wy2 : PW h y2 := wy.tr (PW_si (by omega))
          have y60 : z_i y2 60 = w7 (z_i x 60) (7 * q.1) (fcS A S m am q.2.1 u q.1 (j + 1)) := by
            show z_i (z_si y 60 (7 * q.1 + 6) (nI (j + 1))) 60 = _
            rw [z_si_i, t3, show z_i x2 60 = z_i x 60 from z_si_o (by omega), ← up6]
            rfl
          have sx : ∀ v, sI y 60 ((nI (q.1 + 1) - 1) * 7 + 6) v = some (z_si y 60 (7 * q.1 + 6) v) := fun v => by
            rw [nI_p1, n_7, n_6, nI_mul, nI_add, Nat.mul_comm q.1 7]; exact yS60 Y (by omega)
          have ft : f_X2_fact y2 59 (nI (q.1 + 1)) 2 = some (pyS A S m am q.2.1 u q.1) := by
            unfold f_X2_fact
            rw [nI_p1, n_7, n_2, nI_mul, nI_add, Nat.mul_comm q.1 7]
            simp (disch := first | assumption | omega) only [gd, lt, jn, bd2, Option.bind_some, LY_si, LY_sl, LY_row, decide_true, decide_false, if_true, ite_true, ite_false, decide_eq_true_eq, yg0, yg1, yg2, yg4, yg13, yg21, yg29, yg35, yg36, yg45, yg50, yg59, yI0, yI1, yI2, yI4, yI13, yI21, yI29, yI35, yI36, yI45, yI50, yI59, yP0, yP1, yP2, yP4, yP13, yP21, yP29, yP35, yP36, yP45, yP50, yP59, yR0_0, yR0_1, yR0_2, yR0_3, yR0_4, yR1_0, yR1_1, yR1_2, yR1_3, yR1_4, yR1_5, yR2_0, yR4_4, yR4_5, yR4_6, yR4_7, yR4_8, yR4_9, yR4_10, yR4_11, yR13_1, yR13_2, yR13_3, yR13_4, yR13_5, yR13_6, yR13_7, yR21_1, yR21_2, yR21_3, yR21_4, yR21_5, yR21_6, yR21_7, yR29_0, yR29_1, yR29_2, yR35_0, yR35_1, yR35_2, yR35_3, yR35_4, yR36_4, yR36_5, yR36_6, yR36_7, yR36_8, yR36_9, yR36_10, yR36_11, yR45_0, yR50_0, yR50_1, yR50_2, yR50_3, yR50_4, yR50_5, yR50_6, yR50_7, yR59_1, yA3, yA5, yA6, yA7, yA8, yA9, yA10, yA11, yA12, yA14, yA15, yA16, yA17, yA18, yA19, yA20, yA22, yA23, yA24, yA25, yA26, yA27, yA28, yA30, yA31, yA32, yA33, yA37, yA38, yA39, yA40, yA41, yA42, yA43, yA44, yA46, yA47, yA48, yA49, yA51, yA52, yA53, yA54, yA55, yA56, yA57, yA58, yA60, yS3, yS5, yS6, yS7, yS8, yS9, yS10, yS11, yS12, yS14, yS15, yS16, yS17, yS18, yS19, yS20, yS22, yS23, yS24, yS25, yS26, yS27, yS28, yS30, yS31, yS32, yS33, yS37, yS38, yS39, yS40, yS41, yS42, yS43, yS44, yS46, yS47, yS48, yS49, yS51, yS52, yS53, yS54, yS55, yS56, yS57, yS58, yS60]
            rw [y60]
            unfold w7
            rw [if_pos (by omega), show 7 * q.1 + 2 - 7 * q.1 = 2 by omega]
            rfl
          have y259 : z_i y2 59 0 = nI (q.1 + 1) := y59
          refine Or.inl ⟨(q.2.1 - pyS A S m am q.2.1 u q.1, y2), ?_, fun rec => ?_⟩
          · dsimp only
            rw [il]
            refine ⟨wy2, by show q.1 + 1 ≤ 5; omega, y259, rfl, fun i hi => ?_⟩
            have hi : i < 7 * (q.1 + 1) := hi
            rw [y60]
            show w7 (z_i x 60) (7 * q.1) _ i = w7 q.2.2 (7 * q.1) _ i
            unfold w7
            by_cases c : 7 * q.1 ≤ i ∧ i < 7 * q.1 + 7
            · rw [if_pos c, if_pos c]
            · rw [if_neg c, if_neg c]
              exact g7 i (by omega)
          · unfold f_X2_payUp_l1
            rw [g6]
            have x2e : z_si x 59 0 (nI (q.1 + 1)) = x2 := rfl
            have y2e : z_si y 60 (7 * q.1 + 6) (nI (j + 1)) = y2 := rfl
            simp (disch := first | assumption | omega) only [gd, lt, jn, bd2, Option.bind_some, LY_si, LY_sl, LY_row, decide_true, decide_false, if_true, ite_true, ite_false, decide_eq_true_eq, yg0, yg1, yg2, yg4, yg13, yg21, yg29, yg35, yg36, yg45, yg50, yg59, yI0, yI1, yI2, yI4, yI13, yI21, yI29, yI35, yI36, yI45, yI50, yI59, yP0, yP1, yP2, yP4, yP13, yP21, yP29, yP35, yP36, yP45, yP50, yP59, yR0_0, yR0_1, yR0_2, yR0_3, yR0_4, yR1_0, yR1_1, yR1_2, yR1_3, yR1_4, yR1_5, yR2_0, yR4_4, yR4_5, yR4_6, yR4_7, yR4_8, yR4_9, yR4_10, yR4_11, yR13_1, yR13_2, yR13_3, yR13_4, yR13_5, yR13_6, yR13_7, yR21_1, yR21_2, yR21_3, yR21_4, yR21_5, yR21_6, yR21_7, yR29_0, yR29_1, yR29_2, yR35_0, yR35_1, yR35_2, yR35_3, yR35_4, yR36_4, yR36_5, yR36_6, yR36_7, yR36_8, yR36_9, yR36_10, yR36_11, yR45_0, yR50_0, yR50_1, yR50_2, yR50_3, yR50_4, yR50_5, yR50_6, yR50_7, yR59_1, yA3, yA5, yA6, yA7, yA8, yA9, yA10, yA11, yA12, yA14, yA15, yA16, yA17, yA18, yA19, yA20, yA22, yA23, yA24, yA25, yA26, yA27, yA28, yA30, yA31, yA32, yA33, yA37, yA38, yA39, yA40, yA41, yA42, yA43, yA44, yA46, yA47, yA48, yA49, yA51, yA52, yA53, yA54, yA55, yA56, yA57, yA58, yA60, yS3, yS5, yS6, yS7, yS8, yS9, yS10, yS11, yS12, yS14, yS15, yS16, yS17, yS18, yS19, yS20, yS22, yS23, yS24, yS25, yS26, yS27, yS28, yS30, yS31, yS32, yS33, yS37, yS38, yS39, yS40, yS41, yS42, yS43, yS44, yS46, yS47, yS48, yS49, yS51, yS52, yS53, yS54, yS55, yS56, yS57, yS58, yS60, pes, g5, ia, nI_1, x2e, t1, y59, sx, y2e, y259, ft, e66 y2 wy2]
            rw [if_neg c10, if_neg (nI_m1 (by omega)), if_neg (show ¬ (5 : Int32) ≤ nI q.1 from nI_ge (b := 5) c5 (by omega))]
            rfl
      · have st : itf g 1 10 q0 = q := by
          rw [← eq]
          refine itf_stay 10 (by omega) (fun k h1 _ => puG_5 (by rw [eq]; exact c5))
        refine Or.inr ⟨?_, fun rec => ?_⟩
        · dsimp only
          rw [st]
          exact ⟨g1, g4, g5, g6, g7⟩
        · unfold f_X2_payUp_l1
          simp (disch := first | assumption | omega) only [gd, lt, jn, bd2, Option.bind_some, LY_si, LY_sl, LY_row, decide_true, decide_false, if_true, ite_true, ite_false, decide_eq_true_eq, yg0, yg1, yg2, yg4, yg13, yg21, yg29, yg35, yg36, yg45, yg50, yg59, yI0, yI1, yI2, yI4, yI13, yI21, yI29, yI35, yI36, yI45, yI50, yI59, yP0, yP1, yP2, yP4, yP13, yP21, yP29, yP35, yP36, yP45, yP50, yP59, yR0_0, yR0_1, yR0_2, yR0_3, yR0_4, yR1_0, yR1_1, yR1_2, yR1_3, yR1_4, yR1_5, yR2_0, yR4_4, yR4_5, yR4_6, yR4_7, yR4_8, yR4_9, yR4_10, yR4_11, yR13_1, yR13_2, yR13_3, yR13_4, yR13_5, yR13_6, yR13_7, yR21_1, yR21_2, yR21_3, yR21_4, yR21_5, yR21_6, yR21_7, yR29_0, yR29_1, yR29_2, yR35_0, yR35_1, yR35_2, yR35_3, yR35_4, yR36_4, yR36_5, yR36_6, yR36_7, yR36_8, yR36_9, yR36_10, yR36_11, yR45_0, yR50_0, yR50_1, yR50_2, yR50_3, yR50_4, yR50_5, yR50_6, yR50_7, yR59_1, yA3, yA5, yA6, yA7, yA8, yA9, yA10, yA11, yA12, yA14, yA15, yA16, yA17, yA18, yA19, yA20, yA22, yA23, yA24, yA25, yA26, yA27, yA28, yA30, yA31, yA32, yA33, yA37, yA38, yA39, yA40, yA41, yA42, yA43, yA44, yA46, yA47, yA48, yA49, yA51, yA52, yA53, yA54, yA55, yA56, yA57, yA58, yA60, yS3, yS5, yS6, yS7, yS8, yS9, yS10, yS11, yS12, yS14, yS15, yS16, yS17, yS18, yS19, yS20, yS22, yS23, yS24, yS25, yS26, yS27, yS28, yS30, yS31, yS32, yS33, yS37, yS38, yS39, yS40, yS41, yS42, yS43, yS44, yS46, yS47, yS48, yS49, yS51, yS52, yS53, yS54, yS55, yS56, yS57, yS58, yS60, pes, g5]
          rw [if_neg c10, if_neg (nI_m1 (by omega)), if_pos (show (5 : Int32) ≤ nI q.1 from nI_le (a := 5) (by omega) (by omega))]
  · rintro rec ⟨lf, x⟩ _
    unfold f_X2_payUp_l1
    dsimp only
    rw [if_pos (show (10 : Int32) < nI (10 + 1) by decide)]
