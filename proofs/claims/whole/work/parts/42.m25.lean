abbrev PS : Type := Nat × Int32 × (Nat → Int32)
def puG (A : Nat → Int32) (S : Sn) (m : Nat) (am : Int32) (s k : Nat) (q : PS) : PS := match upk (sP S) k s with
  | none => q
  | some u => if decide (q.1 < 5) && inA S (A 3) u then (q.1 + 1, q.2.1 - pyS A S m am q.2.1 u q.1, w7 q.2.2 (7 * q.1) (fcS A S m am q.2.1 u q.1 k)) else q
def pu0 (A : Nat → Int32) (am : Int32) : PS := (0, am * A 4 / 100, fun _ => 0)
def puS (A : Nat → Int32) (S : Sn) (m : Nat) (am : Int32) (s : Nat) : PS := itf (puG A S m am s) 1 10 (pu0 A am)
theorem itf_last {β : Type} {g : Nat → β → β} : ∀ (n i : Nat) (s : β), itf g i (n + 1) s = g (i + n) (itf g i n s) := by
  intro n
  induction n with
  | zero => intro i s; rfl
  | succ n ih =>
    intro i s
    show itf g (i + 1) (n + 1) (g i s) = g (i + (n + 1)) (itf g (i + 1) n (g i s))
    rw [ih (i + 1) (g i s), show i + 1 + n = i + (n + 1) by omega]
theorem itf_stay {β : Type} {g : Nat → β → β} {i j : Nat} {s : β} : ∀ n, j ≤ n → (∀ k, i + j ≤ k → k < i + n → g k (itf g i j s) = itf g i j s) → itf g i n s = itf g i j s := by
  intro n
  induction n with
  | zero => intro h _; rw [show j = 0 by omega]
  | succ n ih =>
    intro h hs
    by_cases e : j = n + 1
    · rw [e]
    · rw [itf_last, ih (by omega) (fun k h1 h2 => hs k h1 (by omega))]
      exact hs _ (by omega) (by omega)
theorem sT_up {S : Sn} (hO : SOK S) {s : Nat} (hs : s < S.1) (hT : sT S s = true) : ∀ {k u : Nat}, upk (sP S) k s = some u → sT S u = true := by
  intro k
  induction k with
  | zero => intro u e; cases e; exact hT
  | succ k ih =>
    intro u e
    rw [upk_next] at e
    cases hu : upk (sP S) k s with
    | none => rw [hu] at e; cases e
    | some p => rw [hu] at e; exact hO.2.2 p u (hO.2.1.lt hs hu) (ih hu) e
theorem inA_t {S : Sn} {q : Int32} {u : Nat} (h : sT S u = true) : (!sG S u && decide (q ≤ sO S u)) = inA S q u := by
  unfold inA
  rw [h]
  rfl
theorem puG_n {A : Nat → Int32} {S : Sn} {m : Nat} {am : Int32} {s k : Nat} {q : PS} (h : upk (sP S) k s = none) : puG A S m am s k q = q := by
  unfold puG
  rw [h]
theorem puG_5 {A : Nat → Int32} {S : Sn} {m : Nat} {am : Int32} {s k : Nat} {q : PS} (h : ¬ q.1 < 5) : puG A S m am s k q = q := by
  unfold puG
  split
  · rfl
  · rw [decide_eq_false h]
    rfl
theorem puG_s {A : Nat → Int32} {S : Sn} {m : Nat} {am : Int32} {s k u : Nat} {q : PS} (h : upk (sP S) k s = some u) (h5 : q.1 < 5) : puG A S m am s k q = if inA S (A 3) u then (q.1 + 1, q.2.1 - pyS A S m am q.2.1 u q.1, w7 q.2.2 (7 * q.1) (fcS A S m am q.2.1 u q.1 k)) else q := by
  unfold puG
  rw [h]
  dsimp only
  rw [decide_eq_true h5]
  rfl
theorem e_pays {h : Z_H} (H : LY h) {S : Sn} {m : Nat} (M : MSn h S m) (hO : SOK S) (hN : VN (z_i h 62)) (hP : VP (z_i h 62)) {s : Nat} {am : Int32} (hs : s < S.1) (hT : sT S s = true) (hU : ∀ k u, 1 ≤ k → upk (sP S) k s = some u → u < nn (z_i h 62)) : ∃ h', f_X10_pays h 61 (nI s) am = some h' ∧ MW h h' ∧ (∀ a, a ≠ 61 → a ≠ 69 → a ≠ 70 → z_i h' a = z_i h a) ∧ (∀ j, j ≠ 24 → z_i h' 61 j = z_i h 61 j) ∧ (puS (z_i h 62) S m am s).1 ≤ 5 ∧ z_i h' 61 24 = nI (puS (z_i h 62) S m am s).1 ∧ ∀ i, i < 7 * (puS (z_i h 62) S m am s).1 → z_i h' 70 i = (puS (z_i h 62) S m am s).2.2 i := by
  generalize eA : z_i h 62 = A at *
  have hn := hO.1
  let g := puG A S m am s
  let q0 := pu0 A am
  let h1 := z_si h 61 24 0
  have H1 : LY h1 := H
  have upe : ∀ k, ∀ p, upk (sP S) k s = some p → p < 1000 := fun k p e => by
    have := hO.2.1.lt hs e
    omega
  have key := lp_ex2 (b := f_X10_pays_l1 61 am) (fun j (x : Int32 × Z_H) => (x.1, nI (j + 1), pe (upk (sP S) (j + 1) s), x.2)) (fun j x => MW h x.2 ∧ (∀ a, a ≠ 61 → a ≠ 69 → a ≠ 70 → z_i x.2 a = z_i h a) ∧ (∀ j, j ≠ 24 → z_i x.2 61 j = z_i h 61 j) ∧ (itf g 1 j q0).1 ≤ 5 ∧ z_i x.2 61 24 = nI (itf g 1 j q0).1 ∧ x.1 = (itf g 1 j q0).2.1 ∧ ∀ i, i < 7 * (itf g 1 j q0).1 → z_i x.2 70 i = (itf g 1 j q0).2.2 i) (fun x => some x.2) 10 ?_ ?_ 10 FU 0 (am * A 4 / 100, h1) rfl (by unfold FU; omega) ⟨MW_s1 (by omega), fun a h1 _ _ => z_si_o h1, fun j hj => by
    show z_i (z_si h 61 24 0) 61 j = _
    rw [zi_si, if_pos rfl, if_neg hj], by show 0 ≤ 5; omega, rfl, rfl, fun i hi => by
    have : i < 7 * 0 := hi
    omega⟩
  · obtain ⟨⟨lf, g'⟩, ⟨g1, g2, g3, g4, g5, g6, g7⟩, e⟩ := key
    have e' : lp (f_X10_pays_l1 61 am) FU (am * A 4 / 100, 1, pe (sP S s), h1) = some g' := by
      have : upk (sP S) 1 s = sP S s := by
        rw [upk_next]
        rfl
      rw [← this]
      exact e
    refine ⟨g', ?_, g1, g2, g3, g4, g5, g7⟩
    have a4 : aI h1 62 4 = some (A 4) := by
      have := yA62 (k := 4) H1 (by omega)
      rw [show z_i h1 62 = A from (z_si_o (by omega)).trans eA] at this
      exact this
    have a66 : aI h1 66 (nI s) = some (pe (sP S s)) := by
      rw [yA66 H1 (by omega), show z_i h1 66 = z_i h 66 from z_si_o (by omega), M.1.2.2.1 s hs]
    unfold f_X10_pays
    have x1 : z_si h 61 24 0 = h1 := rfl
    simp (disch := first | assumption | omega) only [gd, lt, jn, bd2, Option.bind_some, LY_si, LY_sl, LY_row, decide_true, decide_false, if_true, ite_true, ite_false, decide_eq_true_eq, yg61, yI61, yP61, yR61_1, yR61_2, yR61_12, yR61_13, yR61_17, yR61_18, yR61_21, yR61_22, yR61_23, yR61_25, yA62, yA63, yA64, yA65, yA66, yA67, yA68, yA69, yA70, yA71, yS62, yS63, yS64, yS65, yS66, yS67, yS68, yS69, yS70, yS71, x1, a4, a66, e']
  · rintro j ⟨lf, x⟩ hj ⟨g1, g2, g3, g4, g5, g6, g7⟩
    dsimp only at g1 g2 g3 g4 g5 g6 g7
    have X := g1.ly H
    have il : itf g 1 (j + 1) q0 = g (1 + j) (itf g 1 j q0) := itf_last j 1 q0
    rw [show 1 + j = j + 1 by omega] at il
    generalize eq : itf g 1 j q0 = q at *
    cases hu : upk (sP S) (j + 1) s with
    | none =>
      have st : itf g 1 10 q0 = q := by
        rw [← eq]
        refine itf_stay 10 (by omega) (fun k h1 _ => puG_n (upk_mono hu (by omega)))
      refine Or.inr ⟨?_, fun rec => ?_⟩
      · dsimp only
        rw [st]
        exact ⟨g1, g2, g3, g4, g5, g6, g7⟩
      · unfold f_X10_pays_l1
        dsimp only
        rw [if_pos (show pe none = -1 from rfl)]
    | some u =>
      have hun := hU (j + 1) u (by omega) hu
      have hu11 := hO.2.1.lt hs hu
      have pes : pe (some u) = nI u := rfl
      by_cases c5 : q.1 < 5
      · have gs := puG_s (A := A) (m := m) (am := am) hu c5
        have il : itf g 1 (j + 1) q0 = _ := il.trans gs
        have x62 : z_i x 62 = A := g1.a.trans eA
        have Mx : MSn x S m := M.cg (by rw [x62, eA]) (g2 66 (by omega) (by omega) (by omega)) (g2 67 (by omega) (by omega) (by omega)) (g2 68 (by omega) (by omega) (by omega)) (g3 19 (by omega)) (g3 20 (by omega))
        have ia := e_isActive (t := u) X Mx (by rw [x62]; exact hN) hu11
        rw [x62, inA_t (sT_up hO hs hT hu)] at ia
        have e20 : z_i x 61 20 = nI m := Mx.2.1
        have e66 : ∀ y : Z_H, LY y → z_i y 66 = z_i h 66 → aI y 66 (nI u) = some (pe (upk (sP S) (j + 1 + 1) s)) := fun y Y e => by
          rw [yA66 Y (by omega), e, M.1.2.2.1 u hu11, upk_next, hu]
          rfl
        cases hI : inA S (A 3) u with
        | false =>
          rw [hI] at il ia
          have il : itf g 1 (j + 1) q0 = q := il
          refine Or.inl ⟨(lf, x), ?_, fun rec => ?_⟩
          · dsimp only
            rw [il]
            exact ⟨g1, g2, g3, g4, g5, g6, g7⟩
          · unfold f_X10_pays_l1
            simp (disch := first | assumption | omega) only [gd, lt, jn, bd2, Option.bind_some, LY_si, LY_sl, LY_row, decide_true, decide_false, if_true, ite_true, ite_false, decide_eq_true_eq, yg61, yI61, yP61, yR61_1, yR61_2, yR61_12, yR61_13, yR61_17, yR61_18, yR61_21, yR61_22, yR61_23, yR61_25, yA62, yA63, yA64, yA65, yA66, yA67, yA68, yA69, yA70, yA71, yS62, yS63, yS64, yS65, yS66, yS67, yS68, yS69, yS70, yS71, pes, g5, e20, ia, e66 x X (g2 66 (by omega) (by omega) (by omega)), nI_1]
            rw [if_neg (nI_m1 (by omega)), if_neg (show ¬ (5 : Int32) ≤ nI q.1 from nI_ge (b := 5) c5 (by omega))]
            rfl
        | true =>
          rw [hI] at il ia
          have il : itf g 1 (j + 1) q0 = (q.1 + 1, q.2.1 - pyS A S m am q.2.1 u q.1, w7 q.2.2 (7 * q.1) (fcS A S m am q.2.1 u q.1 (j + 1))) := il
          obtain ⟨y, t1, t2, t3, t4, t5, t6⟩ := e_takesLevel (t := u) (n := q.1) (k := j + 1) (am := am) (lf := q.2.1) X Mx hO (by rw [x62]; exact hN) (by rw [x62]; exact hP) (by rw [x62]; exact hun) c5 g5
          rw [x62] at t1 t6
          have Y := t2.ly X
          refine Or.inl ⟨(q.2.1 - pyS A S m am q.2.1 u q.1, y), ?_, fun rec => ?_⟩
          · dsimp only
            rw [il]
            refine ⟨g1.tr t2, fun a h1 h2 h3 => (t3 a h1 h2 h3).trans (g2 a h1 h2 h3), fun i hi => (t4 i hi).trans (g3 i hi), by show q.1 + 1 ≤ 5; omega, t5, rfl, fun i hi => ?_⟩
            have hi : i < 7 * (q.1 + 1) := hi
            rw [t6]
            show w7 (z_i x 70) (7 * q.1) _ i = w7 q.2.2 (7 * q.1) _ i
            unfold w7
            by_cases c : 7 * q.1 ≤ i ∧ i < 7 * q.1 + 7
            · rw [if_pos c, if_pos c]
            · rw [if_neg c, if_neg c]
              exact g7 i (by omega)
          · unfold f_X10_pays_l1
            rw [g6]
            simp (disch := first | assumption | omega) only [gd, lt, jn, bd2, Option.bind_some, LY_si, LY_sl, LY_row, decide_true, decide_false, if_true, ite_true, ite_false, decide_eq_true_eq, yg61, yI61, yP61, yR61_1, yR61_2, yR61_12, yR61_13, yR61_17, yR61_18, yR61_21, yR61_22, yR61_23, yR61_25, yA62, yA63, yA64, yA65, yA66, yA67, yA68, yA69, yA70, yA71, yS62, yS63, yS64, yS65, yS66, yS67, yS68, yS69, yS70, yS71, pes, g5, e20, ia, t1, e66 y Y ((t3 66 (by omega) (by omega) (by omega)).trans (g2 66 (by omega) (by omega) (by omega))), nI_1]
            rw [if_neg (nI_m1 (by omega)), if_neg (show ¬ (5 : Int32) ≤ nI q.1 from nI_ge (b := 5) c5 (by omega))]
            rfl
      · have st : itf g 1 10 q0 = q := by
          rw [← eq]
          refine itf_stay 10 (by omega) (fun k h1 _ => puG_5 (by rw [eq]; exact c5))
        refine Or.inr ⟨?_, fun rec => ?_⟩
        · dsimp only
          rw [st]
          exact ⟨g1, g2, g3, g4, g5, g6, g7⟩
        · unfold f_X10_pays_l1
          simp (disch := first | assumption | omega) only [gd, lt, jn, bd2, Option.bind_some, LY_si, LY_sl, LY_row, decide_true, decide_false, if_true, ite_true, ite_false, decide_eq_true_eq, yg61, yI61, yP61, yR61_1, yR61_2, yR61_12, yR61_13, yR61_17, yR61_18, yR61_21, yR61_22, yR61_23, yR61_25, yA62, yA63, yA64, yA65, yA66, yA67, yA68, yA69, yA70, yA71, yS62, yS63, yS64, yS65, yS66, yS67, yS68, yS69, yS70, yS71, pes, g5]
          rw [if_neg (nI_m1 (by omega)), if_pos (show (5 : Int32) ≤ nI q.1 from nI_le (a := 5) (by omega) (by omega))]
  · rintro rec ⟨lf, x⟩ _
    have : upk (sP S) 11 s = none := upk_mono (hO.2.1.2 s hs) hn
    unfold f_X10_pays_l1
    dsimp only
    rw [this, if_pos (show pe none = -1 from rfl)]
