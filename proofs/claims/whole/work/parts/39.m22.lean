/-- the model's rows that are laid anew -/
def MW (h h' : Z_H) : Prop := z_n h' = z_n h ∧ z_t h' = z_t h ∧ z_x h' = z_x h ∧ (∀ a, a < 61 ∨ a = 62 ∨ a = 63 ∨ 70 < a → z_i h' a = z_i h a) ∧ ∀ j, j = 14 ∨ j = 15 ∨ j = 16 → z_i h' 61 j = z_i h 61 j
theorem MW.rf {h : Z_H} : MW h h := ⟨rfl, rfl, rfl, fun _ _ => rfl, fun _ _ => rfl⟩
theorem MW.tr {h h1 h2 : Z_H} (x : MW h h1) (y : MW h1 h2) : MW h h2 := ⟨y.1.trans x.1, y.2.1.trans x.2.1, y.2.2.1.trans x.2.2.1, fun q h1 => (y.2.2.2.1 q h1).trans (x.2.2.2.1 q h1), fun q h1 => (y.2.2.2.2 q h1).trans (x.2.2.2.2 q h1)⟩
theorem MW.ly {h h' : Z_H} (x : MW h h') (H : LY h) : LY h' := LY_x x.1 x.2.2.1 H
theorem MW_si {h : Z_H} {q k : Nat} {v : Int32} (e : 64 ≤ q ∧ q ≤ 70) : MW h (z_si h q k v) := ⟨rfl, rfl, rfl, fun p h1 => z_si_o (by omega), fun j _ => by rw [z_si_o (by omega)]⟩
theorem MW_s1 {h : Z_H} {k : Nat} {v : Int32} (e : k ≠ 14 ∧ k ≠ 15 ∧ k ≠ 16) : MW h (z_si h 61 k v) := ⟨rfl, rfl, rfl, fun p h1 => z_si_o (by omega), fun j hj => by rw [zi_si, if_pos rfl, if_neg (by omega)]⟩
theorem MW.a {h h' : Z_H} (x : MW h h') : z_i h' 62 = z_i h 62 := x.2.2.2.1 62 (by omega)
theorem MW.qs {h h' : Z_H} (x : MW h h') : QS h h' := by
  refine ⟨x.1, x.2.1, x.2.2.1, fun a ha => x.2.2.2.1 a ?_, x.2.2.2.2 14 (by omega)⟩
  unfold scr at ha
  simp only [Bool.or_eq_false_iff, Bool.and_eq_false_iff, decide_eq_false_iff_not] at ha
  omega
theorem e_laysMonth {h : Z_H} (H : LY h) {A : Nat → Int32} (eA : z_i h 62 = A) (hN : VN A) (hC : ∀ s, s < nn A → VC A s) {m : Nat} (hm : m < 1000) {sp : Nat → Int32} (hsp : ∀ g s, MW h g → s < nn A → f_X10_sponsorAt g 61 (nI s) (nI m) = some (sp s)) : ∃ h', f_X10_laysMonth h 61 (nI m) = some h' ∧ MW h h' ∧ (∀ a, a ≠ 61 → a ≠ 66 → a ≠ 67 → z_i h' a = z_i h a) ∧ (∀ j, j ≠ 19 → j ≠ 20 → z_i h' 61 j = z_i h 61 j) ∧ z_i h' 61 19 = nI (nn A) ∧ z_i h' 61 20 = nI m ∧ ∀ t, t < nn A → z_i h' 66 t = sp t ∧ z_i h' 67 t = if thS A m t then 1 else 0 := by
  have h10 := hN.2.1
  have h99 := hN.2.2.2.1
  let h1 := z_si h 61 20 (nI m)
  let h4 := z_si h1 61 19 (nI (nn A))
  have W4 : MW h h4 := (MW_s1 (by omega)).tr (MW_s1 (by omega))
  have key := lp_ex (b := f_X10_laysMonth_l1 61 (nI m)) (fun k (g : Z_H) => (nI k, g)) (fun k g => MW h g ∧ (∀ a, a ≠ 61 → a ≠ 66 → a ≠ 67 → z_i g a = z_i h a) ∧ (∀ j, z_i g 61 j = z_i h4 61 j) ∧ ∀ t, t < k → z_i g 66 t = sp t ∧ z_i g 67 t = if thS A m t then 1 else 0) some (nn A) ?_ ?_ (nn A) FU 0 h4 (by omega) (by unfold FU; omega) ⟨W4, fun a h1 h2 h3 => by
    show z_i (z_si (z_si h 61 20 _) 61 19 _) a = _
    rw [z_si_o h1, z_si_o h1], fun _ => rfl, fun t ht => by omega⟩
  · obtain ⟨g, ⟨g1, g2, g3, g4⟩, e⟩ := key
    have e' : lp (f_X10_laysMonth_l1 61 (nI m)) FU (0, z_si (z_si h 61 20 (nI m)) 61 19 (nI (nn A))) = some g := e
    have H1 : LY (z_si h 61 20 (nI m)) := H
    have a145 : aI (z_si h 61 20 (nI m)) 62 145 = some (nI (nn A)) := by
      have := yA62 (k := 145) H1 (by omega)
      rw [z_si_o (by omega), eA, hN.2.2.1] at this
      exact this
    refine ⟨g, ?_, g1, g2, fun j h1 h2 => ?_, ?_, ?_, g4⟩
    · unfold f_X10_laysMonth
      simp (disch := first | assumption | omega) only [gd, lt, jn, bd2, Option.bind_some, LY_si, LY_sl, LY_row, decide_true, decide_false, if_true, ite_true, ite_false, decide_eq_true_eq, yg61, yI61, yP61, yR61_1, yR61_2, yR61_12, yR61_13, yR61_17, yR61_18, yR61_21, yR61_22, yR61_23, yR61_25, yA62, yA63, yA64, yA65, yA66, yA67, yA68, yA69, yA70, yA71, yS62, yS63, yS64, yS65, yS66, yS67, yS68, yS69, yS70, yS71, a145, e']
    · rw [g3]
      show z_i (z_si (z_si h 61 20 _) 61 19 _) 61 j = _
      rw [zi_si, if_pos rfl, if_neg h1, zi_si, if_pos rfl, if_neg h2]
    · rw [g3]; rfl
    · rw [g3]; rfl
  · rintro k g hk ⟨g1, g2, g3, g4⟩
    have G := g1.ly H
    have c19 : z_i g 61 19 = nI (nn A) := g3 19
    have s1 := hsp g k g1 hk
    let g' := z_si g 66 k (sp k)
    have G' : LY g' := G
    have hjo : jo A k ≤ 99 := by have := (hC k hk).2.1; omega
    have o0 : f_X10_ofSeller g' 61 (nI k) 0 = some (nI (jo A k)) := by
      have := e_os0 (s := k) G' (by omega)
      rw [show z_i g' 62 = A from (z_si_o (by omega)).trans ((g2 62 (by omega) (by omega) (by omega)).trans eA), (hC k hk).1] at this
      exact this
    refine ⟨z_si g' 67 k (if thS A m k then 1 else 0), ⟨g1.tr ((MW_si (by omega)).tr (MW_si (by omega))), fun a h1 h2 h3 => ?_, fun j => ?_, fun t ht => ?_⟩, fun rec => ?_⟩
    · show z_i (z_si (z_si g 66 k _) 67 k _) a = _
      rw [z_si_o h3, z_si_o h2]
      exact g2 a h1 h2 h3
    · show z_i (z_si (z_si g 66 k _) 67 k _) 61 j = _
      rw [z_si_o (by omega), z_si_o (by omega)]
      exact g3 j
    · have r66 : z_i (z_si g' 67 k (if thS A m k then 1 else 0)) 66 = upd (z_i g 66) k (sp k) := by
        show z_i (z_si (z_si g 66 k _) 67 k _) 66 = _
        rw [z_si_o (by omega), z_si_i]
      have r67 : z_i (z_si g' 67 k (if thS A m k then 1 else 0)) 67 = upd (z_i g 67) k (if thS A m k then 1 else 0) := by
        show z_i (z_si (z_si g 66 k _) 67 k _) 67 = _
        rw [z_si_i, z_si_o (by omega)]
      rw [r66, r67]
      by_cases e : t = k
      · rw [e, upd_s, upd_s]
        exact ⟨rfl, rfl⟩
      · rw [upd_o e, upd_o e]
        exact g4 t (by omega)
    · unfold f_X10_laysMonth_l1
      have sI' : sI g 66 (nI k) (sp k) = some g' := yS66 G (by omega)
      simp (disch := first | assumption | omega) only [gd, lt, jn, bd2, Option.bind_some, LY_si, LY_sl, LY_row, decide_true, decide_false, if_true, ite_true, ite_false, decide_eq_true_eq, yg61, yI61, yP61, yR61_1, yR61_2, yR61_12, yR61_13, yR61_17, yR61_18, yR61_21, yR61_22, yR61_23, yR61_25, yA62, yA63, yA64, yA65, yA66, yA67, yA68, yA69, yA70, yA71, yS62, yS63, yS64, yS65, yS66, yS67, yS68, yS69, yS70, yS71, c19, s1, sI', o0, nI_1]
      rw [if_neg (nI_ge hk (by omega))]
      unfold thS
      by_cases c : jo A k ≤ m
      · rw [if_neg (nI_nlt c (by omega)), if_pos (by simpa using c)]
        rfl
      · rw [if_pos (nI_lt (by omega) (by omega)), if_neg (by simpa using c)]
        rfl
  · rintro rec g ⟨g1, g2, g3, g4⟩
    have G := g1.ly H
    have c19 : z_i g 61 19 = nI (nn A) := g3 19
    unfold f_X10_laysMonth_l1
    simp (disch := first | assumption | omega) only [gd, lt, jn, bd2, Option.bind_some, LY_si, LY_sl, LY_row, decide_true, decide_false, if_true, ite_true, ite_false, decide_eq_true_eq, yg61, yI61, yP61, yR61_1, yR61_2, yR61_12, yR61_13, yR61_17, yR61_18, yR61_21, yR61_22, yR61_23, yR61_25, yA62, yA63, yA64, yA65, yA66, yA67, yA68, yA69, yA70, yA71, yS62, yS63, yS64, yS65, yS66, yS67, yS68, yS69, yS70, yS71, c19]
    rw [if_pos (nI_le (Nat.le_refl _) (by omega))]
def SLa (A : Nat → Int32) : Prop := nk A ≤ 40 ∧ A 146 = nI (nk A) ∧ ∀ i, i < nk A → ∃ w, w < nn A ∧ A (1087 + 41 * i + 0) = nI w ∧ A (1087 + 41 * i + 2) = nI (smo A i) ∧ smo A i ≤ 99
theorem SLs.a {c : Nat → Nat → Int32} {A : Nat → Int32} (h : SLs c A) : SLa A := ⟨h.1, h.2.1, fun i hi => (h.2.2.2 i hi).1⟩
theorem e_laysOwn {h : Z_H} (H : LY h) {A : Nat → Int32} (eA : z_i h 62 = A) (hN : VN A) (hS : SLa A) : ∃ h', f_X10_laysOwn h 61 = some h' ∧ ON h h' 68 ∧ ∀ t mo, t < 11 → mo < 100 → z_i h' 68 (100 * t + mo) = owS A mo t := by
  have h10 := hN.2.1
  have k1 := lp_ex (b := f_X10_laysOwn_l1 61) (fun k (g : Z_H) => (nI k, g)) (fun k g => ON h g 68 ∧ ∀ j, j < k → z_i g 68 j = 0) some 1100 ?_ ?_ 1100 FU 0 h rfl (by unfold FU; omega) ⟨TW.rf, fun j hj => by omega⟩
  · obtain ⟨g, ⟨g1, g2⟩, e1⟩ := k1
    have e1' : lp (f_X10_laysOwn_l1 61) FU (0, h) = some g := e1
    have G := g1.ly H
    have k2 := lp_ex (b := f_X10_laysOwn_l2 61) (fun k (q : Z_H) => (nI k, q)) (fun k q => ON h q 68 ∧ ∀ t mo, t < 11 → mo < 100 → z_i q 68 (100 * t + mo) = sm (owT A mo t) k) some (nk A) ?_ ?_ (nk A) FU 0 g (by omega) (by have := hS.1; unfold FU; omega) ⟨g1, fun t mo ht hmo => g2 _ (by omega)⟩
    · obtain ⟨q, ⟨q1, q2⟩, e2⟩ := k2
      have e2' : lp (f_X10_laysOwn_l2 61) FU (0, g) = some q := e2
      refine ⟨q, ?_, q1, q2⟩
      unfold f_X10_laysOwn
      simp (disch := first | assumption | omega) only [gd, lt, jn, bd2, Option.bind_some, LY_si, LY_sl, LY_row, decide_true, decide_false, if_true, ite_true, ite_false, decide_eq_true_eq, yg61, yI61, yP61, yR61_1, yR61_2, yR61_12, yR61_13, yR61_17, yR61_18, yR61_21, yR61_22, yR61_23, yR61_25, yA62, yA63, yA64, yA65, yA66, yA67, yA68, yA69, yA70, yA71, yS62, yS63, yS64, yS65, yS66, yS67, yS68, yS69, yS70, yS71, e1', e2']
    · rintro k q hk ⟨q1, q2⟩
      have Q := q1.ly H
      have q62 : z_i q 62 = A := (q1.2.2.2 62 (by omega) (by omega)).trans eA
      have hk40 := hS.1
      obtain ⟨w, w1, w2, w3, w4⟩ := hS.2.2 k hk
      have a146 : aI q 62 146 = some (nI (nk A)) := by
        have := yA62 (k := 146) Q (by omega)
        rw [q62, hS.2.1] at this
        exact this
      have o0 : f_X10_ofSale q 61 (nI k) 0 = some (nI w) := by rw [e_oa0 Q (by omega), q62, w2]
      have o2 : f_X10_ofSale q 61 (nI k) 2 = some (nI (smo A k)) := by rw [e_oa2 Q (by omega), q62, w3]
      have o1 : f_X10_ofSale q 61 (nI k) 1 = some (A (1087 + 41 * k + 1)) := by rw [e_oa1 Q (by omega), q62]
      have on : f_X10_net q 61 (nI k) (A (1087 + 41 * k + 1)) = some (naS A k) := by rw [e_netS Q (by omega), q62]; rfl
      have ix : (100 : Int32) * nI w + nI (smo A k) = nI (100 * w + smo A k) := by rw [n_100, nI_mul, nI_add]
      have e68 := q2 w (smo A k) (by omega) (by omega)
      refine ⟨z_si q 68 (100 * w + smo A k) (sm (owT A (smo A k) w) k + naS A k), ⟨q1.tr (TW_si (Or.inl rfl)), fun t mo ht hmo => ?_⟩, fun rec => ?_⟩
      · rw [z_si_i]
        show _ = sm (owT A mo t) k + owT A mo t k
        by_cases e : t = w ∧ mo = smo A k
        · rw [e.1, e.2, upd_s]
          congr 1
          unfold owT
          rw [if_pos ⟨w2, rfl⟩]
        · rw [upd_o (by omega), q2 t mo ht hmo]
          unfold owT
          rw [if_neg (fun z => e ⟨by
            rw [w2] at z
            exact ((nI_eq (by omega) (by omega)).mp z.1).symm, z.2.symm⟩), add_0]
      · unfold f_X10_laysOwn_l2
        simp (disch := first | assumption | omega) only [gd, lt, jn, bd2, Option.bind_some, LY_si, LY_sl, LY_row, decide_true, decide_false, if_true, ite_true, ite_false, decide_eq_true_eq, yg61, yI61, yP61, yR61_1, yR61_2, yR61_12, yR61_13, yR61_17, yR61_18, yR61_21, yR61_22, yR61_23, yR61_25, yA62, yA63, yA64, yA65, yA66, yA67, yA68, yA69, yA70, yA71, yS62, yS63, yS64, yS65, yS66, yS67, yS68, yS69, yS70, yS71, a146, o0, o2, ix, o1, on, e68, nI_1]
        rw [if_neg (nI_ge hk (by omega))]
    · rintro rec q ⟨q1, q2⟩
      have Q := q1.ly H
      have q62 : z_i q 62 = A := (q1.2.2.2 62 (by omega) (by omega)).trans eA
      have hk40 := hS.1
      have a146 : aI q 62 146 = some (nI (nk A)) := by
        have := yA62 (k := 146) Q (by omega)
        rw [q62, hS.2.1] at this
        exact this
      unfold f_X10_laysOwn_l2
      simp (disch := first | assumption | omega) only [gd, lt, jn, bd2, Option.bind_some, LY_si, LY_sl, LY_row, decide_true, decide_false, if_true, ite_true, ite_false, decide_eq_true_eq, yg61, yI61, yP61, yR61_1, yR61_2, yR61_12, yR61_13, yR61_17, yR61_18, yR61_21, yR61_22, yR61_23, yR61_25, yA62, yA63, yA64, yA65, yA66, yA67, yA68, yA69, yA70, yA71, yS62, yS63, yS64, yS65, yS66, yS67, yS68, yS69, yS70, yS71, a146]
      rw [if_pos (nI_le (Nat.le_refl _) (by omega))]
  · rintro k g hk ⟨g1, g2⟩
    have G := g1.ly H
    refine ⟨z_si g 68 k 0, ⟨g1.tr (TW_si (Or.inl rfl)), fun j hj => ?_⟩, fun rec => ?_⟩
    · rw [z_si_i]
      by_cases e : j = k
      · rw [e, upd_s]
      · rw [upd_o e]; exact g2 j (by omega)
    · unfold f_X10_laysOwn_l1
      simp (disch := first | assumption | omega) only [gd, lt, jn, bd2, Option.bind_some, LY_si, LY_sl, LY_row, decide_true, decide_false, if_true, ite_true, ite_false, decide_eq_true_eq, yg61, yI61, yP61, yR61_1, yR61_2, yR61_12, yR61_13, yR61_17, yR61_18, yR61_21, yR61_22, yR61_23, yR61_25, yA62, yA63, yA64, yA65, yA66, yA67, yA68, yA69, yA70, yA71, yS62, yS63, yS64, yS65, yS66, yS67, yS68, yS69, yS70, yS71, nI_1]
      rw [if_neg (show ¬ (1100 : Int32) ≤ nI k from nI_ge (b := 1100) hk (by omega))]
  · rintro rec g _
    unfold f_X10_laysOwn_l1
    dsimp only
    rw [if_pos (by decide)]
theorem sm_swap {f : Nat → Nat → Int32} {N : Nat} : ∀ J, sm (fun j => sm (f j) N) J = sm (fun i => sm (fun j => f j i) J) N := by
  intro J
  induction J with
  | zero => exact (sm_zero N (fun _ _ => rfl)).symm
  | succ J ih =>
    show sm (fun j => sm (f j) N) J + sm (f J) N = sm (fun i => sm (fun j => f j i) J + f J i) N
    rw [ih, sm_add]
theorem vsm_own {A O : Nat → Int32} {t m : Nat} (hm : m ≤ 99) (h : ∀ mo, mo < 100 → O (100 * t + mo) = owS A mo t) : vsm O t m (wn A) = voS A m t := by
  unfold vsm voS
  rw [sm_congr _ (fun j hj => h (m + 1 - wn A + j) (by omega))]
  unfold owS
  rw [sm_swap]
  refine sm_congr _ (fun i hi => ?_)
  unfold voT
  by_cases c : A (1087 + 41 * i + 0) = nI t ∧ smo A i ≤ m ∧ m < smo A i + wn A
  · rw [if_pos c, sm_one (t := fun j => owT A (m + 1 - wn A + j) t i) _ (smo A i - (m + 1 - wn A)) (by omega) (fun j hj hne => ?_)]
    · show owT A (m + 1 - wn A + (smo A i - (m + 1 - wn A))) t i = _
      unfold owT
      rw [if_pos ⟨c.1, by omega⟩]
    · unfold owT
      exact if_neg (fun q => hne (by omega))
  · rw [if_neg c]
    refine sm_zero _ (fun j hj => ?_)
    unfold owT
    exact if_neg (fun q => c ⟨q.1, by omega, by omega⟩)
theorem vsm_upd {O : Nat → Int32} {s t m w : Nat} {a : Int32} (hm : m ≤ 99) (hw : 1 ≤ w) : vsm (upd O (100 * s + m) (O (100 * s + m) + a)) t m w = if t = s then vsm O t m w + a else vsm O t m w := by
  unfold vsm
  by_cases e : t = s
  · rw [if_pos e, e]
    have : ∀ j, j < m + 1 - (m + 1 - w) → upd O (100 * s + m) (O (100 * s + m) + a) (100 * s + (m + 1 - w + j)) = O (100 * s + (m + 1 - w + j)) + (if j = m - (m + 1 - w) then a else 0) := by
      intro j hj
      by_cases c : j = m - (m + 1 - w)
      · rw [if_pos c, show m + 1 - w + j = m by omega, upd_s]
      · rw [if_neg c, upd_o (by omega), add_0]
    rw [sm_congr _ this, sm_add]
    congr 1
    rw [sm_one (t := fun j => if j = m - (m + 1 - w) then a else 0) _ (m - (m + 1 - w)) (by omega) (fun k hk hne => if_neg hne)]
    exact if_pos rfl
  · rw [if_neg e]
    refine sm_congr _ (fun j hj => upd_o ?_)
    omega
/-- the model lays a month as it is -/
theorem e_scene {h : Z_H} (H : LY h) {A : Nat → Int32} {c : Nat → Nat → Int32} (eA : z_i h 62 = A) (L : LK c A) (h14 : z_i h 61 14 = -1) {m : Nat} (hm : m ≤ 99) (hO : ∀ t mo, t < 11 → mo < 100 → z_i h 68 (100 * t + mo) = owS A mo t) : ∃ h', f_X10_laysMonth h 61 (nI m) = some h' ∧ MW h h' ∧ z_i h' 68 = z_i h 68 ∧ MSn h' (sc0 A m) m := by
  have hN := L.1
  have h10 := hN.2.1
  obtain ⟨g, e1, e2, e3, e4, e5, e6, e7⟩ := e_laysMonth (m := m) (sp := fun s => pe (pr A m s)) H eA hN L.2.1 (by omega) (fun g s w hs => by
    have hM := L.2.2.2.1 s hs
    have q62 : z_i g 62 = A := w.a.trans eA
    have := e_sponsorAt0 (s := s) (m := nI m) (w.ly H) (by omega) (by rw [q62]; exact hM.1) (by rw [q62]; exact hM.2.1) (by rw [w.2.2.2.2 14 (by omega), h14]; exact nI_m1 (by omega))
    rw [q62, sp_pe hM hs hN (by omega)] at this
    exact this)
  have q62 : z_i g 62 = A := e2.a.trans eA
  have q68 := e3 68 (by omega) (by omega) (by omega)
  refine ⟨g, e1, e2, q68, ⟨e5, by show nn A ≤ 11; omega, fun t ht => (e7 t ht).1, pr_lt hN L.2.2.2.1 (by omega)⟩, e6, hm, fun t ht => (e7 t ht).2, fun t ht => ⟨?_, ?_, ?_⟩⟩
  · have ht : t < nn A := ht
    rw [q68]; exact hO t m (by omega) (by omega)
  · have ht : t < nn A := ht
    rw [q68, q62]
    exact vsm_own hm (fun mo hmo => hO t mo (by omega) hmo)
  · have ht : t < nn A := ht
    rw [q62]
    show gnS A m t = gnM A m t
    unfold gnM
    rw [decide_eq_true ht]
    rfl
theorem ON.mw {h h' : Z_H} {a : Nat} (x : ON h h' a) (ha : 64 ≤ a ∧ a ≤ 70) : MW h h' := ⟨x.1, x.2.1, x.2.2.1, fun q hq => x.2.2.2 q (by omega) (by omega), fun j _ => by rw [x.2.2.2 61 (by omega) (by omega)]⟩
/-- laysOwn and laysMonth -/
theorem e_scene2 {h : Z_H} (H : LY h) {A : Nat → Int32} {c : Nat → Nat → Int32} (eA : z_i h 62 = A) (L : LK c A) (h14 : z_i h 61 14 = -1) {m : Nat} (hm : m ≤ 99) : ∃ h1 h2, f_X10_laysOwn h 61 = some h1 ∧ MW h h1 ∧ f_X10_laysMonth h1 61 (nI m) = some h2 ∧ MW h1 h2 ∧ z_i h2 68 = z_i h1 68 ∧ (∀ t mo, t < 11 → mo < 100 → z_i h2 68 (100 * t + mo) = owS A mo t) ∧ MSn h2 (sc0 A m) m := by
  obtain ⟨h1, e1, e2, e3⟩ := e_laysOwn H eA L.1 L.2.2.2.2.2.2.2.2.a
  have W1 := e2.mw (by omega)
  obtain ⟨h2, e4, e5, e6, e7⟩ := e_scene (W1.ly H) (W1.a.trans eA) L ((W1.2.2.2.2 14 (by omega)).trans h14) hm e3
  exact ⟨h1, h2, e1, W1, e4, e5, e6, fun t mo ht hmo => by rw [e6]; exact e3 t mo ht hmo, e7⟩
