theorem mx_gre (a b : Int32) : mx a b = gre a b := by
  unfold mx gre
  simp only [Int32.lt_iff_toInt_lt, Int32.le_iff_toInt_le]
  by_cases c : a.toInt < b.toInt
  · rw [if_pos c, if_pos (by omega)]
  · rw [if_neg c]
    by_cases c2 : a.toInt ≤ b.toInt
    · rw [if_pos c2]
      exact Int32.toInt_inj.mp (by omega)
    · rw [if_neg c2]
theorem mn_les (a b : Int32) : mn a b = les a b := by
  unfold mn les
  simp only [Int32.lt_iff_toInt_lt, Int32.le_iff_toInt_le]
  by_cases c : b.toInt < a.toInt
  · rw [if_pos c, if_pos (by omega)]
  · rw [if_neg c]
    by_cases c2 : b.toInt ≤ a.toInt
    · rw [if_pos c2]
      exact Int32.toInt_inj.mp (by omega)
    · rw [if_neg c2]
theorem gre_nI {a b : Nat} (ha : a < 2 ^ 31) (hb : b < 2 ^ 31) : gre (nI a) (nI b) = nI (max a b) := by rw [← mx_gre, mx_nI ha hb]
theorem les_nI {a b : Nat} (ha : a < 2 ^ 31) (hb : b < 2 ^ 31) : les (nI a) (nI b) = nI (min a b) := by rw [← mn_les, mn_nI ha hb]
theorem e_generations {h : Z_H} (H : LY h) {S : Sn} {m : Nat} (M : MSn h S m) (hO : SOK S) {t : Nat} (ht : t < 1000) : f_X10_generations h 61 (nI t) = some (nI (dpt S t)) := by
  have hn := hO.1
  let f : Nat → Nat := fun u => if sT S u then (lv (sP S) u t).getD 0 else 0
  have hf : ∀ u, f u ≤ 11 := fun u => by
    show (if sT S u then (lv (sP S) u t).getD 0 else 0) ≤ 11
    split
    · exact lv_le
    · exact Nat.zero_le _
  have key := lp_for (b := f_X10_generations_l1 61 (nI t) h (nI (bsN (inB S t) S.1))) (fun k (s : Int32) => (s, nI k)) (fun k s => s = nI (mxs f k)) (fun k _ => nI (mxs f (k + 1))) some S.1 ?_ (fun _ _ _ _ => rfl) ?_ S.1 FU 0 0 (by omega) (by unfold FU; omega) rfl
  · have key' : lp (f_X10_generations_l1 61 (nI t) h (nI (bsN (inB S t) S.1))) FU (0, 0) = _ := key
    have := itf_inv (g := fun k _ => nI (mxs f (k + 1))) (P := fun k s => s = nI (mxs f k)) S.1 0 (0 : Int32) rfl (fun _ _ _ _ _ => rfl)
    rw [Nat.zero_add] at this
    unfold f_X10_generations
    simp (disch := first | assumption | omega) only [gd, lt, jn, bd2, Option.bind_some, LY_si, LY_sl, LY_row, decide_true, decide_false, if_true, ite_true, ite_false, decide_eq_true_eq, yg61, yI61, yP61, yR61_1, yR61_2, yR61_12, yR61_13, yR61_17, yR61_18, yR61_21, yR61_22, yR61_23, yR61_25, yA62, yA63, yA64, yA65, yA66, yA67, yA68, yA69, yA70, yA71, yS62, yS63, yS64, yS65, yS66, yS67, yS68, yS69, yS70, yS71, e_belowOf H M hO ht, key', this]
    rfl
  · rintro rec k s hk rfl
    have st := e_stepsT (s := k) (t := t) H M.1 hO.2.1 hk ht
    have hb : mxs f k ≤ 11 := mxs_le k (fun u _ => hf u)
    unfold f_X10_generations_l1
    simp (disch := first | assumption | omega) only [gd, lt, jn, bd2, Option.bind_some, LY_si, LY_sl, LY_row, decide_true, decide_false, if_true, ite_true, ite_false, decide_eq_true_eq, yg61, yI61, yP61, yR61_1, yR61_2, yR61_12, yR61_13, yR61_17, yR61_18, yR61_21, yR61_22, yR61_23, yR61_25, yA62, yA63, yA64, yA65, yA66, yA67, yA68, yA69, yA70, yA71, yS62, yS63, yS64, yS65, yS66, yS67, yS68, yS69, yS70, yS71, M.1.1, e_has hn hk, st, e_greater, nI_1]
    rw [if_neg (nI_ge hk (by omega))]
    show _ = rec (nI (max (mxs f k) (if sT S k then (lv (sP S) k t).getD 0 else 0)), nI (k + 1))
    unfold inB
    cases hT : sT S k with
    | false =>
      show rec (nI (mxs f k), nI (k + 1)) = rec (nI (max (mxs f k) 0), nI (k + 1))
      rw [Nat.max_eq_left (Nat.zero_le _)]
    | true =>
      cases hl : lv (sP S) k t with
      | none =>
        show rec (nI (mxs f k), nI (k + 1)) = rec (nI (max (mxs f k) 0), nI (k + 1))
        rw [Nat.max_eq_left (Nat.zero_le _)]
      | some j =>
        have := (fnd_some _ _ _ hl).2.1
        show rec (gre (nI (mxs f k)) (nI j), nI (k + 1)) = rec (nI (max (mxs f k) j), nI (k + 1))
        rw [gre_nI (by omega) (by omega)]
  · rintro rec s rfl
    unfold f_X10_generations_l1
    simp (disch := first | assumption | omega) only [gd, lt, jn, bd2, Option.bind_some, LY_si, LY_sl, LY_row, decide_true, decide_false, if_true, ite_true, ite_false, decide_eq_true_eq, yg61, yI61, yP61, yR61_1, yR61_2, yR61_12, yR61_13, yR61_17, yR61_18, yR61_21, yR61_22, yR61_23, yR61_25, yA62, yA63, yA64, yA65, yA66, yA67, yA68, yA69, yA70, yA71, yS62, yS63, yS64, yS65, yS66, yS67, yS68, yS69, yS70, yS71, M.1.1]
    rw [if_pos (nI_le (Nat.le_refl _) (by omega))]
/-! forms -/
def jop (nd a b : Int32) : Int32 := if nd = 4 then gre a b else if nd = 5 then les a b else les 100 (a + b)
def stk (nd lf : Nat → Int32) (n : Nat) : Nat → Nat × (Nat → Int32)
  | 0 => (0, fun _ => 0)
  | k + 1 => if nd (n - 1 - k) ≤ 3 then ((stk nd lf n k).1 + 1, upd (stk nd lf n k).2 (stk nd lf n k).1 (lf (n - 1 - k))) else ((stk nd lf n k).1 - 1, upd (stk nd lf n k).2 ((stk nd lf n k).1 - 2) (jop (nd (n - 1 - k)) ((stk nd lf n k).2 ((stk nd lf n k).1 - 1)) ((stk nd lf n k).2 ((stk nd lf n k).1 - 2))))
def lfS (A : Nat → Int32) (S : Sn) (m t l j : Nat) : Int32 := if A (19 + 25 * l + (1 + j)) = 0 then A (19 + 25 * l + (17 + j)) else if A (19 + 25 * l + (1 + j)) = 1 then A (19 + 25 * l + (17 + j)) * nI (rnk A S t) else if A (19 + 25 * l + (1 + j)) = 2 then A (19 + 25 * l + (17 + j)) * les 5 (nI (cn (inD S t) S.1)) else if nI m - A (147 + 94 * t + 0) < A (19 + 25 * l + (9 + j)) then 0 else A (19 + 25 * l + (17 + j))
def ndS (A : Nat → Int32) (l j : Nat) : Int32 := A (19 + 25 * l + (1 + j))
def pcS (A : Nat → Int32) (S : Sn) (m t l : Nat) : Int32 := (stk (ndS A l) (lfS A S m t l) (nf A l) (nf A l)).2 0
/-- the depth of the stack goes by the form -/
theorem stk_d {A : Nat → Int32} {l : Nat} (hF : VF A l) {lf : Nat → Int32} : ∃ d : Nat → Nat, d (nf A l) = 0 ∧ d 0 = 1 ∧ (∀ j, j ≤ nf A l → d j ≤ nf A l - j) ∧ (∀ k, k ≤ nf A l → (stk (ndS A l) lf (nf A l) k).1 = d (nf A l - k)) ∧ ∀ j, j < nf A l → (∃ nd, nd ≤ 3 ∧ ndS A l j = nI nd ∧ d j = d (j + 1) + 1) ∨ (∃ nd, 4 ≤ nd ∧ nd ≤ 6 ∧ ndS A l j = nI nd ∧ 2 ≤ d (j + 1) ∧ d j + 1 = d (j + 1)) := by
  obtain ⟨a1, a2, a3, ⟨d, d1, d2, d3⟩, a5⟩ := hF
  refine ⟨d, d1, d2, ?_, ?_, d3⟩
  · intro j hj
    have : ∀ i, i ≤ nf A l → d (nf A l - i) ≤ i := by
      intro i
      induction i with
      | zero => intro _; rw [Nat.sub_zero, d1]; exact Nat.le_refl _
      | succ i ih =>
        intro hi
        have := ih (by omega)
        have e : nf A l - (i + 1) + 1 = nf A l - i := by omega
        rcases d3 (nf A l - (i + 1)) (by omega) with ⟨nd, -, -, q⟩ | ⟨nd, -, -, -, -, q⟩
        · rw [e] at q; omega
        · rw [e] at q; omega
    have := this (nf A l - j) (by omega)
    rw [show nf A l - (nf A l - j) = j by omega] at this
    exact this
  · intro k
    induction k with
    | zero => intro _; rw [Nat.sub_zero, d1]; rfl
    | succ k ih =>
      intro hk
      have ih := ih (by omega)
      have e : nf A l - 1 - k + 1 = nf A l - k := by omega
      have e2 : nf A l - (k + 1) = nf A l - 1 - k := by omega
      rw [e2]
      unfold stk
      rcases d3 (nf A l - 1 - k) (by omega) with ⟨nd, h1, h2, q⟩ | ⟨nd, h1, h2, h3, h4, q⟩
      · rw [if_pos (show ndS A l (nf A l - 1 - k) ≤ 3 by
          rw [show ndS A l (nf A l - 1 - k) = nI nd from h2]
          exact nI_le (b := 3) h1 (by omega))]
        show (stk (ndS A l) lf (nf A l) k).1 + 1 = _
        rw [ih, q, e]
      · rw [if_neg (show ¬ ndS A l (nf A l - 1 - k) ≤ 3 by
          rw [show ndS A l (nf A l - 1 - k) = nI nd from h3]
          exact nI_ge (a := 3) (by omega) (by omega))]
        show (stk (ndS A l) lf (nf A l) k).1 - 1 = _
        rw [ih]
        rw [e] at q
        omega
theorem MSn.cg {h h' : Z_H} {S : Sn} {m : Nat} (M : MSn h S m) (e62 : z_i h' 62 = z_i h 62) (e66 : z_i h' 66 = z_i h 66) (e67 : z_i h' 67 = z_i h 67) (e68 : z_i h' 68 = z_i h 68) (e19 : z_i h' 61 19 = z_i h 61 19) (e20 : z_i h' 61 20 = z_i h 61 20) : MSn h' S m := by
  obtain ⟨⟨a1, a2, a3, a4⟩, a5, a6, a7, a8⟩ := M
  refine ⟨⟨e19.trans a1, a2, by rw [e66]; exact a3, a4⟩, e20.trans a5, a6, by rw [e67]; exact a7, ?_⟩
  rw [e68, e62]
  exact a8
theorem MSn.on {h h' : Z_H} {S : Sn} {m a : Nat} (M : MSn h S m) (x : ON h h' a) (ha : a = 69 ∨ a = 70) : MSn h' S m := M.cg (x.2.2.2 62 (by omega) (by omega)) (x.2.2.2 66 (by omega) (by omega)) (x.2.2.2 67 (by omega) (by omega)) (x.2.2.2 68 (by omega) (by omega)) (congrFun (x.2.2.2 61 (by omega) (by omega)) 19) (congrFun (x.2.2.2 61 (by omega) (by omega)) 20)
theorem e_leaf {h : Z_H} (H : LY h) {S : Sn} {m : Nat} (M : MSn h S m) (hO : SOK S) (hN : VN (z_i h 62)) (hP : VP (z_i h 62)) {t l j : Nat} (ht : t < nn (z_i h 62)) (hl : l < 5) (hj : j < nf (z_i h 62) l) : f_X10_leaf h 61 (nI (19 + 25 * l + (1 + j))) (nI t) = some (lfS (z_i h 62) S m t l j) := by
  have h10 := hN.2.1
  have h8 := (hP.2.2.2.2.2 l hl).2.1
  have e145 : aI h 62 145 = some (nI (nn (z_i h 62))) := by
    have := yA62 (k := 145) H (by omega)
    rw [hN.2.2.1] at this
    exact this
  have i16 : nI (19 + 25 * l + (1 + j)) + 16 = nI (19 + 25 * l + (17 + j)) := by
    rw [n_16, nI_add]
    congr 1
    omega
  have i8 : nI (19 + 25 * l + (1 + j)) + 8 = nI (19 + 25 * l + (9 + j)) := by
    rw [n_8, nI_add]
    congr 1
    omega
  unfold f_X10_leaf lfS
  simp (disch := first | assumption | omega) only [gd, lt, jn, bd2, Option.bind_some, LY_si, LY_sl, LY_row, decide_true, decide_false, if_true, ite_true, ite_false, decide_eq_true_eq, yg61, yI61, yP61, yR61_1, yR61_2, yR61_12, yR61_13, yR61_17, yR61_18, yR61_21, yR61_22, yR61_23, yR61_25, yA62, yA63, yA64, yA65, yA66, yA67, yA68, yA69, yA70, yA71, yS62, yS63, yS64, yS65, yS66, yS67, yS68, yS69, yS70, yS71, i16, i8, e145, e_os0, e_rankOf H M hO hN hP.2.2.2.1 (show t < 1000 by omega), e_directOf H M (show t < 1000 by omega), e_ones M.1.2.1, e_lesser, M.2.1]
  rw [if_neg (nI_ge ht (by omega))]
  split
  · rfl
  · split
    · rfl
    · split
      · rfl
      · split <;> rfl
theorem e_percentOf {h : Z_H} (H : LY h) {S : Sn} {m : Nat} (M : MSn h S m) (hO : SOK S) (hN : VN (z_i h 62)) (hP : VP (z_i h 62)) {t l : Nat} (ht : t < nn (z_i h 62)) (hl : l < 5) : ∃ h', f_X10_percentOf h 61 (nI (l + 1)) (nI t) = some (pcS (z_i h 62) S m t l, h') ∧ ON h h' 69 := by
  generalize eA : z_i h 62 = A at *
  have hF := hP.2.2.2.2.2 l hl
  obtain ⟨d, d1, d2, d4, d5, d3⟩ := stk_d hF (lf := lfS A S m t l)
  obtain ⟨a1, a2, a3, -, -⟩ := hF
  let K := fun k => stk (ndS A l) (lfS A S m t l) (nf A l) k
  have at1 : (19 : Int32) + (25 : Int32) * (nI (l + 1) - 1) = nI (19 + 25 * l) := by rw [nI_p1, n_19, n_25, nI_mul, nI_add]
  have key := lp_ex (b := f_X10_percentOf_l1 61 (nI t) (nI (19 + 25 * l))) (fun k (q : Z_H) => (nI (K k).1, nI (nf A l - k) - 1, q)) (fun k q => ON h q 69 ∧ ∀ i, i < (K k).1 → z_i q 69 i = (K k).2 i) some (nf A l) ?_ ?_ (nf A l) FU 0 h (by omega) (by unfold FU; omega) ⟨TW.rf, fun i hi => by
    have : i < 0 := hi
    omega⟩
  · obtain ⟨g, ⟨g1, g2⟩, e⟩ := key
    have G := g1.ly H
    have e' : lp (f_X10_percentOf_l1 61 (nI t) (nI (19 + 25 * l))) FU (0, nI (nf A l) - 1, h) = some g := by
      rw [Nat.sub_zero] at e
      exact e
    have dN : (K (nf A l)).1 = 1 := by
      have := d5 (nf A l) (Nat.le_refl _)
      rw [Nat.sub_self, d2] at this
      exact this
    have a69 : aI g 69 0 = some (pcS A S m t l) := by
      have := yA69 (k := 0) G (by omega)
      rw [g2 0 (by omega)] at this
      exact this
    refine ⟨g, ?_, g1⟩
    have e62 : z_i h 62 (19 + 25 * l) = nI (nf A l) := by rw [eA]; exact a3
    unfold f_X10_percentOf
    simp (disch := first | assumption | omega) only [gd, lt, jn, bd2, Option.bind_some, LY_si, LY_sl, LY_row, decide_true, decide_false, if_true, ite_true, ite_false, decide_eq_true_eq, yg61, yI61, yP61, yR61_1, yR61_2, yR61_12, yR61_13, yR61_17, yR61_18, yR61_21, yR61_22, yR61_23, yR61_25, yA62, yA63, yA64, yA65, yA66, yA67, yA68, yA69, yA70, yA71, yS62, yS63, yS64, yS65, yS66, yS67, yS68, yS69, yS70, yS71, at1, e62, e', a69]
  · rintro k g hk ⟨g1, g2⟩
    have G := g1.ly H
    have g62 : z_i g 62 = A := (g1.2.2.2 62 (by omega) (by omega)).trans eA
    have Mg := M.on g1 (by omega)
    have dk := d5 k (by omega)
    have dle := d4 (nf A l - k) (by omega)
    have i1 : nI (nf A l - k) - 1 = nI (nf A l - 1 - k) := by
      rw [n_1, nI_sub (by omega)]
      congr 1
      omega
    have ix : nI (19 + 25 * l) + 1 + nI (nf A l - 1 - k) = nI (19 + 25 * l + (1 + (nf A l - 1 - k))) := by
      rw [n_1, nI_add, nI_add]
      congr 1
      omega
    have e2 : nf A l - (k + 1) = nf A l - 1 - k := by omega
    have i3 : nI (nf A l - 1 - k) + (-1) = nI (nf A l - 1 - k) - 1 := by
      rw [Int32.sub_eq_add_neg]
    have lf := e_leaf (t := t) (l := l) (j := nf A l - 1 - k) G Mg hO (by rw [g62]; exact hN) (by rw [g62]; exact hP) (by rw [g62]; exact ht) hl (by rw [g62]; omega)
    rw [g62] at lf
    have e : nf A l - 1 - k + 1 = nf A l - k := by omega
    have K1 : K (k + 1) = if ndS A l (nf A l - 1 - k) ≤ 3 then ((K k).1 + 1, upd (K k).2 (K k).1 (lfS A S m t l (nf A l - 1 - k))) else ((K k).1 - 1, upd (K k).2 ((K k).1 - 2) (jop (ndS A l (nf A l - 1 - k)) ((K k).2 ((K k).1 - 1)) ((K k).2 ((K k).1 - 2)))) := rfl
    have dk : (K k).1 = d (nf A l - k) := dk
    have and : aI g 62 (nI (19 + 25 * l + (1 + (nf A l - 1 - k)))) = some (ndS A l (nf A l - 1 - k)) := by
      rw [yA62 G (by omega), g62]
      rfl
    rcases d3 (nf A l - 1 - k) (by omega) with ⟨nd, h1, h2, q⟩ | ⟨nd, h1, h2, h3, h4, q⟩
    · have c : ndS A l (nf A l - 1 - k) ≤ 3 := by
        rw [h2]
        exact nI_le (b := 3) h1 (by omega)
      rw [if_pos c] at K1
      refine ⟨z_si g 69 (K k).1 (lfS A S m t l (nf A l - 1 - k)), ⟨g1.tr (TW_si (Or.inl rfl)), fun i hi => ?_⟩, fun rec => ?_⟩
      · rw [K1] at hi ⊢
        have hi : i < (K k).1 + 1 := hi
        show _ = upd (K k).2 (K k).1 _ i
        rw [z_si_i]
        by_cases ei : i = (K k).1
        · rw [ei, upd_s, upd_s]
        · rw [upd_o ei, upd_o ei]
          exact g2 i (by omega)
      · unfold f_X10_percentOf_l1
        simp (disch := first | assumption | omega) only [gd, lt, jn, bd2, Option.bind_some, LY_si, LY_sl, LY_row, decide_true, decide_false, if_true, ite_true, ite_false, decide_eq_true_eq, yg61, yI61, yP61, yR61_1, yR61_2, yR61_12, yR61_13, yR61_17, yR61_18, yR61_21, yR61_22, yR61_23, yR61_25, yA62, yA63, yA64, yA65, yA66, yA67, yA68, yA69, yA70, yA71, yS62, yS63, yS64, yS65, yS66, yS67, yS68, yS69, yS70, yS71, i1, ix, and, lf]
        rw [if_neg (nI_pos (by omega)), if_neg (Int32.not_lt.mpr c), e2, i3, K1, nI_1]
    · have c : ¬ ndS A l (nf A l - 1 - k) ≤ 3 := by
        rw [h3]
        exact nI_ge (a := 3) (by omega) (by omega)
      rw [if_neg c] at K1
      have hd2 : 2 ≤ (K k).1 := by rw [dk, ← e]; exact h4
      have j1 : nI (K k).1 + (-1) = nI ((K k).1 - 1) := sb_m1 (by omega)
      have j2 : nI ((K k).1 - 1) - 1 = nI ((K k).1 - 2) := by
        rw [n_1, nI_sub (by omega)]
        congr 1
      have r1 : z_i g 69 ((K k).1 - 1) = (K k).2 ((K k).1 - 1) := g2 _ (by omega)
      have r2 : z_i g 69 ((K k).1 - 2) = (K k).2 ((K k).1 - 2) := g2 _ (by omega)
      refine ⟨z_si g 69 ((K k).1 - 2) (jop (ndS A l (nf A l - 1 - k)) ((K k).2 ((K k).1 - 1)) ((K k).2 ((K k).1 - 2))), ⟨g1.tr (TW_si (Or.inl rfl)), fun i hi => ?_⟩, fun rec => ?_⟩
      · rw [K1] at hi ⊢
        have hi : i < (K k).1 - 1 := hi
        show _ = upd (K k).2 ((K k).1 - 2) _ i
        rw [z_si_i]
        by_cases ei : i = (K k).1 - 2
        · rw [ei, upd_s, upd_s]
        · rw [upd_o ei, upd_o ei]
          exact g2 i (by omega)
      · unfold f_X10_percentOf_l1
        simp (disch := first | assumption | omega) only [gd, lt, jn, bd2, Option.bind_some, LY_si, LY_sl, LY_row, decide_true, decide_false, if_true, ite_true, ite_false, decide_eq_true_eq, yg61, yI61, yP61, yR61_1, yR61_2, yR61_12, yR61_13, yR61_17, yR61_18, yR61_21, yR61_22, yR61_23, yR61_25, yA62, yA63, yA64, yA65, yA66, yA67, yA68, yA69, yA70, yA71, yS62, yS63, yS64, yS65, yS66, yS67, yS68, yS69, yS70, yS71, i1, ix, and, j1, j2, r1, r2, e_greater, e_lesser]
        rw [if_neg (nI_pos (by omega)), if_pos (Int32.not_le.mp c), e2, i3, K1]
        unfold jop
        split
        · rfl
        · split <;> rfl
  · rintro rec g _
    unfold f_X10_percentOf_l1
    dsimp only
    rw [Nat.sub_self, if_pos (by decide)]
