/-! one month's scene: how many, who is whose sponsor, who is there, who is gone, what each sold, what in the window -/
abbrev Sn : Type := Nat × (Nat → Option Nat) × (Nat → Bool) × (Nat → Bool) × (Nat → Int32) × (Nat → Int32)
abbrev sP (S : Sn) : Nat → Option Nat := S.2.1
abbrev sT (S : Sn) : Nat → Bool := S.2.2.1
abbrev sG (S : Sn) : Nat → Bool := S.2.2.2.1
abbrev sO (S : Sn) : Nat → Int32 := S.2.2.2.2.1
abbrev sV (S : Sn) : Nat → Int32 := S.2.2.2.2.2
def lv (P : Nat → Option Nat) (u t : Nat) : Option Nat := fnd (fun k => decide (upk P k u = some t)) 0 11
def inB (S : Sn) (t u : Nat) : Bool := sT S u && (lv (sP S) u t).isSome
def inD (S : Sn) (t u : Nat) : Bool := sT S u && decide (sP S u = some t)
def inA (S : Sn) (q : Int32) (u : Nat) : Bool := sT S u && (!sG S u && decide (q ≤ sO S u))
def grp (S : Sn) (t : Nat) : Int32 := sm (fun u => if inB S t u then sV S u else 0) S.1
def mxs (f : Nat → Nat) : Nat → Nat
  | 0 => 0
  | k + 1 => max (mxs f k) (f k)
def dpt (S : Sn) (t : Nat) : Nat := mxs (fun u => if sT S u then (lv (sP S) u t).getD 0 else 0) S.1
def lgs (S : Sn) (q : Int32) (t : Nat) : Nat := cn (fun u => inD S t u && inA S q u) S.1
def rkS (A : Nat → Int32) (g l : Int32) : Nat := if A 10 ≤ g ∧ A 14 ≤ l then 3 else if A 9 ≤ g ∧ A 13 ≤ l then 2 else if A 8 ≤ g ∧ A 12 ≤ l then 1 else 0
def rnk (A : Nat → Int32) (S : Sn) (t : Nat) : Nat := rkS A (grp S t) (nI (lgs S (A 3) t))
/-- a scene that can be settled -/
def SOK (S : Sn) : Prop := S.1 ≤ 11 ∧ ACy (sP S) S.1 ∧ ∀ s p, s < S.1 → sT S s = true → sP S s = some p → sT S p = true
theorem fnd_stop {p : Nat → Bool} {k : Nat} : ∀ n, k ≤ n → (∀ j, k ≤ j → j < n → p j = false) → fnd p 0 n = fnd p 0 k := by
  intro n
  induction n with
  | zero => intro h _; rw [show k = 0 by omega]
  | succ n ih =>
    intro h h2
    by_cases e : k = n + 1
    · rw [e]
    · rw [fnd_app, ih (by omega) (fun j h3 h4 => h2 j h3 (by omega)), Nat.zero_add, h2 n (by omega) (by omega)]
      cases fnd p 0 k <;> rfl
theorem lv_some {P : Nat → Option Nat} {n : Nat} (hA : ACy P n) {u t k : Nat} (hu : u < n) (hn : n ≤ 11) : lv P u t = some k ↔ upk P k u = some t := by
  constructor
  · intro e
    have := (fnd_some _ _ _ e).2.2.1
    simpa using this
  · intro e
    have hk := hA.k hu e
    cases hf : lv P u t with
    | none =>
      have := fnd_none _ _ hf k (by omega) (by omega)
      simp [e] at this
    | some j =>
      have := (fnd_some _ _ _ hf).2.2.1
      have := hA.inj hu (by simpa using this) e
      rw [this]
theorem peN {P : Nat → Option Nat} {n : Nat} (hA : ACy P n) (hn : n ≤ 11) {k u : Nat} (hu : u < n) : ∀ p, upk P k u = some p → p < 1000 := fun p e => by
  have := hA.lt hu e
  omega
theorem or_0 (x : Int32) : x ||| 0 = x := Int32.or_zero
theorem add_0 (x : Int32) : x + 0 = x := Int32.add_zero x
def SCW (h h' : Z_H) : Prop := z_n h' = z_n h ∧ z_t h' = z_t h ∧ z_x h' = z_x h ∧ ∀ a, a < 50 ∨ 58 < a → z_i h' a = z_i h a
theorem SCW.rf {h : Z_H} : SCW h h := ⟨rfl, rfl, rfl, fun _ _ => rfl⟩
theorem SCW.tr {h h1 h2 : Z_H} (x : SCW h h1) (y : SCW h1 h2) : SCW h h2 := ⟨y.1.trans x.1, y.2.1.trans x.2.1, y.2.2.1.trans x.2.2.1, fun q h1 => (y.2.2.2 q h1).trans (x.2.2.2 q h1)⟩
theorem SCW.ly {h h' : Z_H} (x : SCW h h') (H : LY h) : LY h' := LY_x x.1 x.2.2.1 H
theorem SCW_si {h : Z_H} {q k : Nat} {v : Int32} (e : 50 ≤ q ∧ q ≤ 58) : SCW h (z_si h q k v) := ⟨rfl, rfl, rfl, fun p h1 => z_si_o (by omega)⟩
theorem SCW.qs {h h' : Z_H} (x : SCW h h') : QS h h' := by
  refine ⟨x.1, x.2.1, x.2.2.1, fun a ha => x.2.2.2 a ?_, congrFun (x.2.2.2 61 (by omega)) 14⟩
  unfold scr at ha
  simp only [Bool.or_eq_false_iff, Bool.and_eq_false_iff, decide_eq_false_iff_not] at ha
  omega
theorem c_count {h : Z_H} (H : LY h) {P : Nat → Option Nat} {n u : Nat} (hn : n ≤ 11) (hA : ACy P n) (hu : u < n) (hP : ∀ t, t < n → z_i h 51 t = pe (P t)) : ∃ h', f_X6_countUpwards h 50 (nI u) = some h' ∧ SCW h h' ∧ (∀ a, a ≤ 53 ∨ a = 58 → z_i h' a = z_i h a) ∧ ∀ t, t < n → z_i h' 56 t = z_i h 56 t ||| (if P u = some t then (1 : Int32) <<< (nI u &&& 31) else 0) ∧ z_i h' 55 t = z_i h 55 t ||| (if (lv P u t).isSome then (1 : Int32) <<< (nI u &&& 31) else 0) ∧ z_i h' 54 t = z_i h 54 t + (if (lv P u t).isSome then z_i h 53 u else 0) ∧ z_i h' 57 t = (match lv P u t with | some k => mx (z_i h 57 t) (nI k) | none => z_i h 57 t) := by
  have loop : ∀ h : Z_H, LY h → (∀ t, t < n → z_i h 51 t = pe (P t)) → ∃ h', lp (f_X6_countUpwards_l1 50 (nI u)) FU (nI u, 0, h) = some h' ∧ SCW h h' ∧ (∀ a, a ≤ 53 ∨ a = 58 ∨ a = 56 → z_i h' a = z_i h a) ∧ ∀ t, t < n → z_i h' 55 t = z_i h 55 t ||| (if (lv P u t).isSome then (1 : Int32) <<< (nI u &&& 31) else 0) ∧ z_i h' 54 t = z_i h 54 t + (if (lv P u t).isSome then z_i h 53 u else 0) ∧ z_i h' 57 t = (match lv P u t with | some k => mx (z_i h 57 t) (nI k) | none => z_i h 57 t) := by
    intro h H hP
    let F : Nat → Nat → Option Nat := fun k t => fnd (fun k => decide (upk P k u = some t)) 0 k
    have key := lp_ex2 (b := f_X6_countUpwards_l1 50 (nI u)) (fun k (g : Z_H) => (pe (upk P k u), nI k, g)) (fun k g => SCW h g ∧ (∀ a, a ≤ 53 ∨ a = 58 ∨ a = 56 → z_i g a = z_i h a) ∧ ∀ t, t < n → z_i g 55 t = z_i h 55 t ||| (if (F k t).isSome then (1 : Int32) <<< (nI u &&& 31) else 0) ∧ z_i g 54 t = z_i h 54 t + (if (F k t).isSome then z_i h 53 u else 0) ∧ z_i g 57 t = (match F k t with | some k => mx (z_i h 57 t) (nI k) | none => z_i h 57 t)) some 11 ?_ ?_ 11 FU 0 h rfl (by unfold FU; omega) ⟨SCW.rf, fun _ _ => rfl, fun t _ => ⟨(or_0 _).symm, (add_0 _).symm, rfl⟩⟩
    · obtain ⟨g, ⟨g1, g2, g3⟩, e⟩ := key
      exact ⟨g, e, g1, g2, g3⟩
    · rintro k g hk ⟨g1, g2, g3⟩
      have G := g1.ly H
      cases hq : upk P k u with
      | none =>
        refine Or.inr ⟨⟨g1, g2, fun t ht => ?_⟩, fun rec => ?_⟩
        · have e : F 11 t = F k t := fnd_stop 11 (by omega) (fun j h1 _ => by rw [upk_mono hq h1]; rfl)
          rw [e]
          exact g3 t ht
        · unfold f_X6_countUpwards_l1
          dsimp only
          rw [if_neg (show ¬ (10 : Int32) < nI k from nI_nlt (a := 10) (by omega) (by omega)), if_pos (show pe none = -1 from rfl)]
      | some p =>
        have hp := hA.lt hu hq
        have e51 : z_i g 51 p = pe (upk P (k + 1) u) := by
          rw [g2 51 (by omega), hP p hp, upk_next, hq]
          rfl
        have e53 : z_i g 53 u = z_i h 53 u := by rw [g2 53 (by omega)]
        have Fp : F k p = none := by
          cases hf : F k p with
          | none => rfl
          | some j =>
            obtain ⟨-, q1, q2, -⟩ := fnd_some _ _ _ hf
            have := hA.inj hu (by simpa using q2) hq
            omega
        obtain ⟨z1, z2, z3⟩ := g3 p hp
        rw [Fp] at z1 z2 z3
        have z1 : z_i g 55 p = z_i h 55 p := z1.trans (or_0 _)
        have z2 : z_i g 54 p = z_i h 54 p := z2.trans (add_0 _)
        have z3 : z_i g 57 p = z_i h 57 p := z3
        have F1 : ∀ t, F (k + 1) t = if t = p then some k else F k t := by
          intro t
          show fnd _ 0 (k + 1) = _
          rw [fnd_app, Nat.zero_add, hq]
          by_cases e : t = p
          · rw [if_pos e, e]
            have : fnd (fun k => decide (upk P k u = some p)) 0 k = none := Fp
            rw [this]
            simp
          · rw [if_neg e]
            show _ = fnd (fun k => decide (upk P k u = some t)) 0 k
            cases fnd (fun k => decide (upk P k u = some t)) 0 k with
            | some l => rfl
            | none =>
              have : ¬ some p = some t := fun q => e (by cases q; rfl)
              simp [this]
        let b := (1 : Int32) <<< (nI u &&& 31)
        let g' := z_si (z_si (z_si g 55 p (z_i h 55 p ||| b)) 54 p (z_i h 54 p + z_i h 53 u)) 57 p (mx (z_i h 57 p) (nI k))
        have Ga : LY (z_si g 55 p (z_i h 55 p ||| b)) := G
        have Gb : LY (z_si (z_si g 55 p (z_i h 55 p ||| b)) 54 p (z_i h 54 p + z_i h 53 u)) := G
        have Gc : LY g' := G
        refine Or.inl ⟨g', ⟨g1.tr ((SCW_si (by omega)).tr ((SCW_si (by omega)).tr (SCW_si (by omega)))), fun a ha => ?_, fun t ht => ?_⟩, fun rec => ?_⟩
        · show z_i (z_si (z_si (z_si g 55 p _) 54 p _) 57 p _) a = _
          rw [z_si_o (by omega), z_si_o (by omega), z_si_o (by omega)]
          exact g2 a ha
        · have w5 : z_i g' 55 = upd (z_i g 55) p (z_i h 55 p ||| b) := by
            show z_i (z_si (z_si (z_si g 55 p _) 54 p _) 57 p _) 55 = _
            rw [z_si_o (by omega), z_si_o (by omega), z_si_i]
          have w4 : z_i g' 54 = upd (z_i g 54) p (z_i h 54 p + z_i h 53 u) := by
            show z_i (z_si (z_si (z_si g 55 p _) 54 p _) 57 p _) 54 = _
            rw [z_si_o (by omega), z_si_i]
            rfl
          have w7 : z_i g' 57 = upd (z_i g 57) p (mx (z_i h 57 p) (nI k)) := by
            show z_i (z_si (z_si (z_si g 55 p _) 54 p _) 57 p _) 57 = _
            rw [z_si_i]
            rfl
          rw [w5, w4, w7, F1 t]
          by_cases e : t = p
          · rw [if_pos e, e, upd_s, upd_s, upd_s]
            exact ⟨rfl, rfl, rfl⟩
          · rw [if_neg e, upd_o e, upd_o e, upd_o e]
            exact g3 t ht
        · unfold f_X6_countUpwards_l1
          have f1 : z_i (z_si g 55 p (z_i h 55 p ||| b)) 54 p = z_i h 54 p := z2
          have f2 : z_i (z_si g 55 p (z_i h 55 p ||| b)) 53 u = z_i h 53 u := e53
          have f3 : z_i (z_si (z_si g 55 p (z_i h 55 p ||| b)) 54 p (z_i h 54 p + z_i h 53 u)) 57 p = z_i h 57 p := z3
          have f4 : z_i (z_si (z_si (z_si g 55 p (z_i h 55 p ||| b)) 54 p (z_i h 54 p + z_i h 53 u)) 57 p (mx (z_i h 57 p) (nI k))) 51 p = pe (upk P (k + 1) u) := e51
          have pes : pe (some p) = nI p := rfl
          have hb : (1 : Int32) <<< (nI u &&& 31) = b := rfl
          simp (disch := first | assumption | omega) only [gd, lt, jn, bd2, Option.bind_some, LY_si, LY_sl, LY_row, decide_true, decide_false, if_true, ite_true, ite_false, decide_eq_true_eq, yg0, yg1, yg2, yg4, yg13, yg21, yg29, yg35, yg36, yg45, yg50, yg59, yI0, yI1, yI2, yI4, yI13, yI21, yI29, yI35, yI36, yI45, yI50, yI59, yP0, yP1, yP2, yP4, yP13, yP21, yP29, yP35, yP36, yP45, yP50, yP59, yR0_0, yR0_1, yR0_2, yR0_3, yR0_4, yR1_0, yR1_1, yR1_2, yR1_3, yR1_4, yR1_5, yR2_0, yR4_4, yR4_5, yR4_6, yR4_7, yR4_8, yR4_9, yR4_10, yR4_11, yR13_1, yR13_2, yR13_3, yR13_4, yR13_5, yR13_6, yR13_7, yR21_1, yR21_2, yR21_3, yR21_4, yR21_5, yR21_6, yR21_7, yR29_0, yR29_1, yR29_2, yR35_0, yR35_1, yR35_2, yR35_3, yR35_4, yR36_4, yR36_5, yR36_6, yR36_7, yR36_8, yR36_9, yR36_10, yR36_11, yR45_0, yR50_0, yR50_1, yR50_2, yR50_3, yR50_4, yR50_5, yR50_6, yR50_7, yR59_1, yA3, yA5, yA6, yA7, yA8, yA9, yA10, yA11, yA12, yA14, yA15, yA16, yA17, yA18, yA19, yA20, yA22, yA23, yA24, yA25, yA26, yA27, yA28, yA30, yA31, yA32, yA33, yA37, yA38, yA39, yA40, yA41, yA42, yA43, yA44, yA46, yA47, yA48, yA49, yA51, yA52, yA53, yA54, yA55, yA56, yA57, yA58, yA60, yS3, yS5, yS6, yS7, yS8, yS9, yS10, yS11, yS12, yS14, yS15, yS16, yS17, yS18, yS19, yS20, yS22, yS23, yS24, yS25, yS26, yS27, yS28, yS30, yS31, yS32, yS33, yS37, yS38, yS39, yS40, yS41, yS42, yS43, yS44, yS46, yS47, yS48, yS49, yS51, yS52, yS53, yS54, yS55, yS56, yS57, yS58, yS60, pes, z1, hb, f1, f2, f3, f4, nI_1]
          rw [if_neg (show ¬ (10 : Int32) < nI k from nI_nlt (a := 10) (by omega) (by omega)), if_neg (nI_m1 (by omega))]
    · rintro rec g _
      unfold f_X6_countUpwards_l1
      dsimp only
      rw [if_pos (by decide)]
  unfold f_X6_countUpwards
  have eP := hP u hu
  cases hp : P u with
  | none =>
    obtain ⟨g, e, g1, g2, g3⟩ := loop h H hP
    rw [hp] at eP
    refine ⟨g, ?_, g1, fun a ha => g2 a (by omega), fun t ht => ⟨?_, g3 t ht⟩⟩
    · simp (disch := first | assumption | omega) only [gd, lt, jn, bd2, Option.bind_some, LY_si, LY_sl, LY_row, decide_true, decide_false, if_true, ite_true, ite_false, decide_eq_true_eq, yg0, yg1, yg2, yg4, yg13, yg21, yg29, yg35, yg36, yg45, yg50, yg59, yI0, yI1, yI2, yI4, yI13, yI21, yI29, yI35, yI36, yI45, yI50, yI59, yP0, yP1, yP2, yP4, yP13, yP21, yP29, yP35, yP36, yP45, yP50, yP59, yR0_0, yR0_1, yR0_2, yR0_3, yR0_4, yR1_0, yR1_1, yR1_2, yR1_3, yR1_4, yR1_5, yR2_0, yR4_4, yR4_5, yR4_6, yR4_7, yR4_8, yR4_9, yR4_10, yR4_11, yR13_1, yR13_2, yR13_3, yR13_4, yR13_5, yR13_6, yR13_7, yR21_1, yR21_2, yR21_3, yR21_4, yR21_5, yR21_6, yR21_7, yR29_0, yR29_1, yR29_2, yR35_0, yR35_1, yR35_2, yR35_3, yR35_4, yR36_4, yR36_5, yR36_6, yR36_7, yR36_8, yR36_9, yR36_10, yR36_11, yR45_0, yR50_0, yR50_1, yR50_2, yR50_3, yR50_4, yR50_5, yR50_6, yR50_7, yR59_1, yA3, yA5, yA6, yA7, yA8, yA9, yA10, yA11, yA12, yA14, yA15, yA16, yA17, yA18, yA19, yA20, yA22, yA23, yA24, yA25, yA26, yA27, yA28, yA30, yA31, yA32, yA33, yA37, yA38, yA39, yA40, yA41, yA42, yA43, yA44, yA46, yA47, yA48, yA49, yA51, yA52, yA53, yA54, yA55, yA56, yA57, yA58, yA60, yS3, yS5, yS6, yS7, yS8, yS9, yS10, yS11, yS12, yS14, yS15, yS16, yS17, yS18, yS19, yS20, yS22, yS23, yS24, yS25, yS26, yS27, yS28, yS30, yS31, yS32, yS33, yS37, yS38, yS39, yS40, yS41, yS42, yS43, yS44, yS46, yS47, yS48, yS49, yS51, yS52, yS53, yS54, yS55, yS56, yS57, yS58, yS60, eP]
      rw [if_pos (show pe none = -1 from rfl), e]
      rfl
    · rw [if_neg (by intro q; cases q), or_0, g2 56 (by omega)]
  | some p =>
    have hpn := hA.1 u p hu hp
    rw [hp] at eP
    have eP' : z_i h 51 u = nI p := eP
    let b := (1 : Int32) <<< (nI u &&& 31)
    have H1 : LY (z_si h 56 p (z_i h 56 p ||| b)) := H
    obtain ⟨g, e, g1, g2, g3⟩ := loop (z_si h 56 p (z_i h 56 p ||| b)) H1 hP
    refine ⟨g, ?_, (SCW_si (by omega)).tr g1, fun a ha => (g2 a (by omega)).trans (z_si_o (by omega)), fun t ht => ⟨?_, g3 t ht⟩⟩
    · have hb : (1 : Int32) <<< (nI u &&& 31) = b := rfl
      simp (disch := first | assumption | omega) only [gd, lt, jn, bd2, Option.bind_some, LY_si, LY_sl, LY_row, decide_true, decide_false, if_true, ite_true, ite_false, decide_eq_true_eq, yg0, yg1, yg2, yg4, yg13, yg21, yg29, yg35, yg36, yg45, yg50, yg59, yI0, yI1, yI2, yI4, yI13, yI21, yI29, yI35, yI36, yI45, yI50, yI59, yP0, yP1, yP2, yP4, yP13, yP21, yP29, yP35, yP36, yP45, yP50, yP59, yR0_0, yR0_1, yR0_2, yR0_3, yR0_4, yR1_0, yR1_1, yR1_2, yR1_3, yR1_4, yR1_5, yR2_0, yR4_4, yR4_5, yR4_6, yR4_7, yR4_8, yR4_9, yR4_10, yR4_11, yR13_1, yR13_2, yR13_3, yR13_4, yR13_5, yR13_6, yR13_7, yR21_1, yR21_2, yR21_3, yR21_4, yR21_5, yR21_6, yR21_7, yR29_0, yR29_1, yR29_2, yR35_0, yR35_1, yR35_2, yR35_3, yR35_4, yR36_4, yR36_5, yR36_6, yR36_7, yR36_8, yR36_9, yR36_10, yR36_11, yR45_0, yR50_0, yR50_1, yR50_2, yR50_3, yR50_4, yR50_5, yR50_6, yR50_7, yR59_1, yA3, yA5, yA6, yA7, yA8, yA9, yA10, yA11, yA12, yA14, yA15, yA16, yA17, yA18, yA19, yA20, yA22, yA23, yA24, yA25, yA26, yA27, yA28, yA30, yA31, yA32, yA33, yA37, yA38, yA39, yA40, yA41, yA42, yA43, yA44, yA46, yA47, yA48, yA49, yA51, yA52, yA53, yA54, yA55, yA56, yA57, yA58, yA60, yS3, yS5, yS6, yS7, yS8, yS9, yS10, yS11, yS12, yS14, yS15, yS16, yS17, yS18, yS19, yS20, yS22, yS23, yS24, yS25, yS26, yS27, yS28, yS30, yS31, yS32, yS33, yS37, yS38, yS39, yS40, yS41, yS42, yS43, yS44, yS46, yS47, yS48, yS49, yS51, yS52, yS53, yS54, yS55, yS56, yS57, yS58, yS60, eP', hb]
      rw [if_neg (nI_m1 (by omega)), e]
      rfl
    · rw [g2 56 (by omega), z_si_i]
      by_cases e : t = p
      · rw [e, upd_s, if_pos rfl]
      · rw [upd_o e, if_neg (fun q => e (by cases q; rfl)), or_0]
