/-! the model's told row, and a house that begins anew -/
def x1R (F : Nat → Int32) (k : Nat) : Nat → Int32 := fun j => if 3 ≤ j ∧ j < k then 0 else F j
def x2R (F : Nat → Int32) : Nat → Nat → Int32
  | 0 => F
  | k + 1 => upd (upd (upd (x2R F k) (7 + k) (nI (1000 * k))) (11 + k) (nI k)) (15 + k) (nI (k + 1))
def x3R (F : Nat → Int32) : Nat → Nat → Int32
  | 0 => F
  | k + 1 => upd (upd (x3R F k) (19 + 25 * k) 1) (19 + 25 * k + 17) (fq k)
def x4R (F : Nat → Int32) : Nat → Int32 := upd (upd (upd (upd F 3 100) 4 30) 5 3) 6 2
def eqR (F G : Nat → Int32) : Prop := ∀ j, 3 ≤ j → j < 147 → F j = G j
theorem eqR.up {F G : Nat → Int32} (e : eqR F G) (k : Nat) (v : Int32) : eqR (upd F k v) (upd G k v) := fun j h1 h2 => by
  unfold upd
  rw [e j h1 h2]
theorem eqR.x2 {F G : Nat → Int32} (e : eqR F G) : ∀ k, eqR (x2R F k) (x2R G k)
  | 0 => e
  | k + 1 => (((eqR.x2 e k).up _ _).up _ _).up _ _
theorem eqR.x3 {F G : Nat → Int32} (e : eqR F G) : ∀ k, eqR (x3R F k) (x3R G k)
  | 0 => e
  | k + 1 => ((eqR.x3 e k).up _ _).up _ _
def atK (j : Nat) : Int32 := x3R (x2R (x4R (fun _ => 0)) 4) 5 j
theorem e_atFirst {h : Z_H} (H : LY h) : ∃ h', f_X10_atFirst h 61 = some h' ∧ ON h h' 64 ∧ eqR (z_i h' 64) atK := by
  have k1 := lp_ex (b := f_X10_atFirst_l1 61) (fun k (g : Z_H) => (nI k, g)) (fun k g => 3 ≤ k ∧ ON h g 64 ∧ z_i g 64 = x1R (z_i h 64) k) some 147 ?_ ?_ 144 FU 3 h rfl (by unfold FU; omega) ⟨Nat.le_refl _, TW.rf, by
    funext j
    unfold x1R
    rw [if_neg (by omega)]⟩
  · obtain ⟨g, ⟨-, g1, g2⟩, k1⟩ := k1
    have k1' : lp (f_X10_atFirst_l1 61) FU (3, h) = some g := k1
    have G := g1.ly H
    let g4 := z_si (z_si (z_si (z_si g 64 3 100) 64 4 30) 64 5 3) 64 6 2
    have G4 : LY g4 := G
    have on4 : ON h g4 64 := (((g1.tr (TW_si (Or.inl rfl))).tr (TW_si (Or.inl rfl))).tr (TW_si (Or.inl rfl))).tr (TW_si (Or.inl rfl))
    have i4 : z_i g4 64 = x4R (z_i g 64) := by
      show z_i (z_si (z_si (z_si (z_si g 64 3 100) 64 4 30) 64 5 3) 64 6 2) 64 = _
      rw [z_si_i, z_si_i, z_si_i, z_si_i]
      rfl
    have k2 := lp_ex (b := f_X10_atFirst_l2 61) (fun k (q : Z_H) => (nI k, q)) (fun k q => ON h q 64 ∧ z_i q 64 = x2R (z_i g4 64) k) some 4 ?_ ?_ 4 FU 0 g4 rfl (by unfold FU; omega) ⟨on4, rfl⟩
    · obtain ⟨q, ⟨q1, q2⟩, k2⟩ := k2
      have k2' : lp (f_X10_atFirst_l2 61) FU (0, g4) = some q := k2
      have Q := q1.ly H
      have k3 := lp_ex (b := f_X10_atFirst_l3 61) (fun k (w : Z_H) => (nI k, w)) (fun k w => ON h w 64 ∧ z_i w 64 = x3R (z_i q 64) k) some 5 ?_ ?_ 5 FU 0 q rfl (by unfold FU; omega) ⟨q1, rfl⟩
      · obtain ⟨w, ⟨w1, w2⟩, k3⟩ := k3
        have k3' : lp (f_X10_atFirst_l3 61) FU (0, q) = some w := k3
        refine ⟨w, ?_, w1, ?_⟩
        · unfold f_X10_atFirst
          exact gdE (yg61 H) (bnd k1' (bnd (yR61_12 G) (bnd (yS64 (k := 3) G (by omega)) (bnd (a := 64) (yR61_12 G) (bnd (yS64 (k := 4) (h := z_si g 64 3 100) G (by omega)) (bnd (a := 64) (yR61_12 G) (bnd (yS64 (k := 5) (h := z_si (z_si g 64 3 100) 64 4 30) G (by omega)) (bnd (a := 64) (yR61_12 G) (bnd (yS64 (k := 6) (h := z_si (z_si (z_si g 64 3 100) 64 4 30) 64 5 3) G (by omega)) (bnd k2' (bnd k3' rfl)))))))))))
        · rw [w2, q2, i4, g2]
          have e0 : eqR (x1R (z_i h 64) 147) (fun _ => 0) := fun j h1 h2 => by
            unfold x1R
            rw [if_pos ⟨h1, h2⟩]
          exact ((((((e0.up _ _).up _ _).up _ _).up _ _)).x2 4).x3 5
      · rintro k w hk ⟨w1, w2⟩
        have W := w1.ly H
        refine ⟨z_si (z_si w 64 (19 + 25 * k) 1) 64 (19 + 25 * k + 17) (fq k), ⟨(w1.tr (TW_si (Or.inl rfl))).tr (TW_si (Or.inl rfl)), ?_⟩, fun rec => ?_⟩
        · rw [z_si_i, z_si_i, w2]
          rfl
        · have e1 : (19 : Int32) + (25 : Int32) * nI k = nI (19 + 25 * k) := by rw [n_19, n_25, nI_mul, nI_add]
          have e2 : nI (19 + 25 * k) + (17 : Int32) = nI (19 + 25 * k + 17) := by rw [n_17, nI_add]
          have fin : ((sI (z_si w 64 (19 + 25 * k) 1) 64 ((19 : Int32) + (25 : Int32) * nI k + 17) (fq k)).bind fun h34 => rec (nI k + 1, h34)) = rec (nI (k + 1), z_si (z_si w 64 (19 + 25 * k) 1) 64 (19 + 25 * k + 17) (fq k)) := by
            rw [e1, e2, nI_1]
            exact bnd (yS64 (h := z_si w 64 (19 + 25 * k) 1) W (by omega)) rfl
          unfold f_X10_atFirst_l3
          refine (if_neg (show ¬ (5 : Int32) ≤ nI k from nI_ge (b := 5) hk (by omega))).trans (bnd (yR61_12 W) ?_)
          refine bnd (a := z_si w 64 (19 + 25 * k) 1) (by rw [e1]; exact yS64 W (by omega)) (bnd (a := 64) (yR61_12 W) (jnE ?_))
          have : k = 0 ∨ k = 1 ∨ k = 2 ∨ k = 3 ∨ k = 4 := by omega
          rcases this with rfl | rfl | rfl | rfl | rfl
          · exact (if_pos rfl).trans fin
          · exact (if_neg (by decide)).trans ((if_pos rfl).trans fin)
          · exact (if_neg (by decide)).trans ((if_neg (by decide)).trans fin)
          · exact (if_neg (by decide)).trans ((if_neg (by decide)).trans fin)
          · exact (if_neg (by decide)).trans ((if_neg (by decide)).trans fin)
      · rintro rec w _
        unfold f_X10_atFirst_l3
        exact if_pos (by decide)
    · rintro k q hk ⟨q1, q2⟩
      have Q := q1.ly H
      refine ⟨z_si (z_si (z_si q 64 (7 + k) (nI (1000 * k))) 64 (11 + k) (nI k)) 64 (15 + k) (nI (k + 1)), ⟨((q1.tr (TW_si (Or.inl rfl))).tr (TW_si (Or.inl rfl))).tr (TW_si (Or.inl rfl)), ?_⟩, fun rec => ?_⟩
      · rw [z_si_i, z_si_i, z_si_i, q2]
        rfl
      · have e7 : (7 : Int32) + nI k = nI (7 + k) := by rw [n_7, nI_add]
        have e11 : (11 : Int32) + nI k = nI (11 + k) := by rw [n_11, nI_add]
        have e15 : (15 : Int32) + nI k = nI (15 + k) := by rw [n_15, nI_add]
        have em : (1000 : Int32) * nI k = nI (1000 * k) := by rw [show (1000 : Int32) = nI 1000 from rfl, nI_mul]
        unfold f_X10_atFirst_l2
        refine (if_neg (show ¬ (3 : Int32) < nI k from nI_nlt (a := 3) (by omega) (by omega))).trans (bnd (yR61_12 Q) ?_)
        rw [e7, e11, e15, em, nI_1]
        exact bnd (yS64 Q (by omega)) (bnd (a := 64) (yR61_12 Q) (bnd (yS64 (h := z_si q 64 (7 + k) (nI (1000 * k))) Q (by omega)) (bnd (a := 64) (yR61_12 Q) (bnd (yS64 (h := z_si (z_si q 64 (7 + k) (nI (1000 * k))) 64 (11 + k) (nI k)) Q (by omega)) rfl))))
    · rintro rec q _
      unfold f_X10_atFirst_l2
      exact if_pos (by decide)
  · rintro k g hk ⟨k3, g1, g2⟩
    have G := g1.ly H
    refine ⟨z_si g 64 k 0, ⟨by omega, g1.tr (TW_si (Or.inl rfl)), ?_⟩, fun rec => ?_⟩
    · rw [z_si_i, g2]
      funext j
      unfold upd x1R
      by_cases c : j = k
      · rw [if_pos c, if_pos (by omega)]
      · rw [if_neg c]
        by_cases d : 3 ≤ j ∧ j < k
        · rw [if_pos d, if_pos (by omega)]
        · rw [if_neg d, if_neg (by omega)]
    · unfold f_X10_atFirst_l1
      refine (if_neg (show ¬ (147 : Int32) ≤ nI k from nI_ge (b := 147) hk (by omega))).trans (bnd (yR61_12 G) (bnd (yS64 G hk) ?_))
      rw [nI_1]
  · rintro rec g _
    unfold f_X10_atFirst_l1
    exact if_pos (by decide)
def tkR (A K : Nat → Int32) (k : Nat) : Nat → Int32 := fun j => if 3 ≤ j ∧ j < k then K j else A j
def tkn (A K : Nat → Int32) : Nat → Int32 := jnR (upd (tkR A K 147) 145 0) 0 (-1)
theorem e_taken {h : Z_H} (H : LY h) : ∃ h', f_X10_taken h 61 = some h' ∧ ON h h' 62 ∧ z_i h' 62 = tkn (z_i h 62) (z_i h 64) := by
  have k1 := lp_ex (b := f_X10_taken_l1 61) (fun k (g : Z_H) => (nI k, g)) (fun k g => 3 ≤ k ∧ ON h g 62 ∧ z_i g 62 = tkR (z_i h 62) (z_i h 64) k) some 147 ?_ ?_ 144 FU 3 h rfl (by unfold FU; omega) ⟨Nat.le_refl _, TW.rf, by
    funext j
    unfold tkR
    rw [if_neg (by omega)]⟩
  · obtain ⟨g, ⟨-, g1, g2⟩, k1⟩ := k1
    have k1' : lp (f_X10_taken_l1 61) FU (3, h) = some g := k1
    have G := g1.ly H
    let g4 := z_si g 62 145 0
    have G4 : LY g4 := G
    have i4 : z_i g4 62 = upd (tkR (z_i h 62) (z_i h 64) 147) 145 0 := by
      show z_i (z_si g 62 145 0) 62 = _
      rw [z_si_i, g2]
    obtain ⟨q, q1, q2, q3⟩ := e_joins (h := g4) (n := 0) (sp := -1) G4 (by omega) (by rw [i4, upd_s]; rfl)
    refine ⟨q, ?_, (g1.tr (TW_si (Or.inl rfl))).tr q2, by rw [q3, i4]; rfl⟩
    unfold f_X10_taken
    exact gdE (yg61 H) (bnd k1' (bnd (yR61_1 G) (bnd (yS62 (k := 145) G (by omega)) (bnd q1 rfl))))
  · rintro k g hk ⟨k3, g1, g2⟩
    have G := g1.ly H
    refine ⟨z_si g 62 k (z_i h 64 k), ⟨by omega, g1.tr (TW_si (Or.inl rfl)), ?_⟩, fun rec => ?_⟩
    · rw [z_si_i, g2]
      funext j
      unfold upd tkR
      by_cases c : j = k
      · rw [if_pos c, if_pos (by omega), c]
      · rw [if_neg c]
        by_cases d : 3 ≤ j ∧ j < k
        · rw [if_pos d, if_pos (by omega)]
        · rw [if_neg d, if_neg (by omega)]
    · unfold f_X10_taken_l1
      refine (if_neg (show ¬ (147 : Int32) ≤ nI k from nI_ge (b := 147) hk (by omega))).trans (bnd (yR61_1 G) (bnd (yR61_12 G) (bnd (a := z_i h 64 k) ?_ (bnd (yS62 G (by omega)) ?_))))
      · rw [yA64 G hk, g1.2.2.2 64 (by omega) (by omega)]
      · rw [nI_1]
  · rintro rec g _
    unfold f_X10_taken_l1
    exact if_pos (by decide)
theorem tkn_p {A K : Nat → Int32} {j : Nat} (h1 : 3 ≤ j) (h2 : j < 147) (h3 : j ≠ 145) : tkn A K j = K j := by
  unfold tkn
  rw [jnR_o h3 (by omega), upd_o h3]
  unfold tkR
  rw [if_pos ⟨h1, h2⟩]
theorem tkn_l {A K : Nat → Int32} {j : Nat} (h1 : j < 3) : tkn A K j = A j := by
  unfold tkn
  rw [jnR_o (by omega) (by omega), upd_o (by omega)]
  unfold tkR
  rw [if_neg (by omega)]
theorem tkn_h {A K : Nat → Int32} {j : Nat} (h1 : 241 ≤ j) : tkn A K j = A j := by
  unfold tkn
  rw [jnR_o (by omega) (by omega), upd_o (by omega)]
  unfold tkR
  rw [if_neg (by omega)]
theorem VP_congr {A A' : Nat → Int32} (e : ∀ j, 3 ≤ j → j < 144 → A' j = A j) (h : VP A) : VP A' := by
  obtain ⟨a, b, c, d, f, g⟩ := h
  refine ⟨by rw [e 3 (by omega) (by omega)]; exact a, by rw [e 4 (by omega) (by omega)]; exact b, by rw [e 5 (by omega) (by omega)]; exact c, by rw [e 6 (by omega) (by omega)]; exact d, fun r hr => by rw [e (7 + r) (by omega) (by omega), e (11 + r) (by omega) (by omega), e (15 + r) (by omega) (by omega)]; exact f r hr, fun l hl => ?_⟩
  have en : nf A' l = nf A l := by unfold nf; rw [e (19 + 25 * l) (by omega) (by omega)]
  obtain ⟨v1, v2, v3, ⟨dd, w1, w2, w3⟩, v5⟩ := g l hl
  unfold VF
  rw [en, e (19 + 25 * l) (by omega) (by omega)]
  refine ⟨v1, v2, v3, ⟨dd, w1, w2, fun j hj => ?_⟩, fun j hj => ?_⟩
  · rw [e (19 + 25 * l + (1 + j)) (by omega) (by omega)]
    exact w3 j hj
  · rw [e (19 + 25 * l + (9 + j)) (by omega) (by omega), e (19 + 25 * l + (17 + j)) (by omega) (by omega)]
    exact v5 j hj
theorem RCp_congr {c : Nat → Nat → Int32} {A A' : Nat → Int32} (e : ∀ j, 3 ≤ j → j < 144 → A' j = A j) (hv : VP A) (h : RCp c A) : RCp c A' := by
  obtain ⟨a, b, d⟩ := h
  refine ⟨fun i hi => by rw [e (3 + i) (by omega) (by omega)]; exact a i hi, fun r hr => by rw [e (7 + r) (by omega) (by omega), e (11 + r) (by omega) (by omega), e (15 + r) (by omega) (by omega)]; exact b r hr, fun l hl => ?_⟩
  have en : nf A' l = nf A l := by unfold nf; rw [e (19 + 25 * l) (by omega) (by omega)]
  have v2 := (hv.2.2.2.2.2 l hl).2.1
  rw [en, e (19 + 25 * l) (by omega) (by omega)]
  refine ⟨(d l hl).1, fun j hj => ?_⟩
  rw [e (19 + 25 * l + (1 + j)) (by omega) (by omega), e (19 + 25 * l + (9 + j)) (by omega) (by omega), e (19 + 25 * l + (17 + j)) (by omega) (by omega)]
  exact (d l hl).2 j hj
