def shM (F : Nat → Int32) (a b : Nat) : Nat → Int32 := fun x => if a < x ∧ x ≤ b then F (x - 1) else F x
def fsM (F : Nat → Int32) (s m : Nat) (mo : Int32) : Nat := (fnd (fun j => decide (mo ≤ F (12 * s + j))) 0 m).getD m
theorem m1_pred {x : Nat} : nI (x + 1) + (-1) = nI x := by
  have := nI_p1 x
  rw [Int32.sub_eq_add_neg] at this
  exact this
theorem c_putMove {h : Z_H} (H : LY h) {s to mo m : Nat} (hs : s < 10) (hm : m ≤ 12) (e17 : z_i h 17 s = nI m) : (fsM (z_i h 18) s m (nI mo) < m ∧ z_i h 18 (12 * s + fsM (z_i h 18) s m (nI mo)) = nI mo → f_X0_putMove h 13 (nI s) (nI to) (nI mo) = some (z_si (z_si h 18 (12 * s + fsM (z_i h 18) s m (nI mo)) (nI mo)) 19 (12 * s + fsM (z_i h 18) s m (nI mo)) (nI to))) ∧ (m < 12 → ¬ (fsM (z_i h 18) s m (nI mo) < m ∧ z_i h 18 (12 * s + fsM (z_i h 18) s m (nI mo)) = nI mo) → ∃ h', f_X0_putMove h 13 (nI s) (nI to) (nI mo) = some h' ∧ z_n h' = z_n h ∧ z_t h' = z_t h ∧ z_x h' = z_x h ∧ (∀ a, a ≠ 17 → a ≠ 18 → a ≠ 19 → z_i h' a = z_i h a) ∧ z_i h' 17 = upd (z_i h 17) s (nI (m + 1)) ∧ z_i h' 18 = upd (shM (z_i h 18) (12 * s + fsM (z_i h 18) s m (nI mo)) (12 * s + m)) (12 * s + fsM (z_i h 18) s m (nI mo)) (nI mo) ∧ z_i h' 19 = upd (shM (z_i h 19) (12 * s + fsM (z_i h 18) s m (nI mo)) (12 * s + m)) (12 * s + fsM (z_i h 18) s m (nI mo)) (nI to)) := by
  have key := lp_find (b := f_X0_putMove_l1 13 (nI s) (nI mo) h (nI (12 * s))) (fun k => nI k) (fun j => decide (nI mo ≤ z_i h 18 (12 * s + j))) (fun k => some (nI k)) (some (nI m)) m ?_ ?_ ?_ m FU 0 (by omega) (by unfold FU; omega)
  · have hk : fsM (z_i h 18) s m (nI mo) ≤ m := by
      unfold fsM
      cases hf : fnd (fun j => decide (nI mo ≤ z_i h 18 (12 * s + j))) 0 m with
      | none => exact Nat.le_refl _
      | some l =>
        have := (fnd_some _ _ _ hf).2.1
        show l ≤ m
        omega
    have key' : lp (f_X0_putMove_l1 13 (nI s) (nI mo) h (nI (12 * s))) FU 0 = some (nI (fsM (z_i h 18) s m (nI mo))) := by
      refine Eq.trans (show lp (f_X0_putMove_l1 13 (nI s) (nI mo) h (nI (12 * s))) FU 0 = _ from key) ?_
      unfold fsM
      cases fnd (fun j => decide (nI mo ≤ z_i h 18 (12 * s + j))) 0 m <;> rfl
    generalize fsM (z_i h 18) s m (nI mo) = k at *
    have eb : nI s * 12 = nI (12 * s) := by rw [n_12, nI_mul, Nat.mul_comm]
    have t17 := (yA17 H (show s < 10 by omega)).trans (congrArg some e17)
    have ix : nI (12 * s) + nI k = nI (12 * s + k) := nI_add _ _
    refine ⟨fun ⟨q1, q2⟩ => ?_, fun hm12 hne => ?_⟩
    · unfold f_X0_putMove
      refine gdE (yg13 H) (ltE ?_)
      rw [eb]
      refine bnd key' (bnd (yR13_4 H) (bnd t17 ?_))
      refine jnE ?_
      refine jnE ?_
      refine (if_neg (nI_ge q1 (by omega))).trans ?_
      refine bnd (yR13_5 H) ?_
      rw [ix]
      refine bnd ((yA18 H (show 12 * s + k < 120 by omega)).trans (congrArg some q2)) ?_
      refine (if_pos rfl).trans ?_
      refine jnE ?_
      refine (if_neg (show ¬ (1 : Int32) = 0 by decide)).trans ?_
      refine bnd (yR13_5 H) ?_
      refine bnd (yS18 H (show 12 * s + k < 120 by omega)) ?_
      refine bnd (yR13_6 (h := z_si h 18 (12 * s + k) (nI mo)) H) ?_
      refine bnd (yS19 (h := z_si h 18 (12 * s + k) (nI mo)) H (show 12 * s + k < 120 by omega)) ?_
      rfl
    · have l2 := lp_ex (b := f_X0_putMove_l2 13 (nI (12 * s)) (nI k)) (fun j (g : Z_H) => (nI (m - j), g)) (fun j g => TW h g 18 19 ∧ z_i g 18 = shM (z_i h 18) (12 * s + (m - j)) (12 * s + m) ∧ z_i g 19 = shM (z_i h 19) (12 * s + (m - j)) (12 * s + m)) some (m - k) ?_ ?_ (m - k) FU 0 h (by omega) (by unfold FU; omega) ⟨TW.rf, by
        funext x
        unfold shM
        rw [if_neg (by omega)], by
        funext x
        unfold shM
        rw [if_neg (by omega)]⟩
      · obtain ⟨g, ⟨g1, g2, g3⟩, l2⟩ := l2
        rw [Nat.sub_zero] at l2
        rw [show m - (m - k) = k by omega] at g2 g3
        have G := g1.ly H
        let g4 := z_si g 17 s (nI (m + 1))
        let g5 := z_si g4 18 (12 * s + k) (nI mo)
        let g6 := z_si g5 19 (12 * s + k) (nI to)
        have G4 : LY g4 := G
        have G5 : LY g5 := G
        have e17g : z_i g 17 s = nI m := by rw [g1.2.2.2 17 (by omega) (by omega)]; exact e17
        have tail : ∀ R, (((gR h 13 0 4).bind fun r19 => (aI h r19 (nI s)).bind fun t20 => if t20 < 12 then ((gR h 13 0 4).bind fun r21 => (aI h r21 (nI s)).bind fun t22 => (lp (f_X0_putMove_l2 13 (nI (12 * s)) (nI k)) FU (t22, h)).bind fun (h25 : Z_H) => (gR h25 13 0 4).bind fun r35 => (aI h25 r35 (nI s)).bind fun t36 => (sI h25 r35 (nI s) (t36 + 1)).bind fun h37 => (gR h37 13 0 5).bind fun r15 => (sI h37 r15 (nI (12 * s) + nI k) (nI mo)).bind fun h16 => (gR h16 13 0 6).bind fun r17 => (sI h16 r17 (nI (12 * s) + nI k) (nI to)).bind fun h18 => some h18) else (some h)) = some R) → f_X0_putMove h 13 (nI s) (nI to) (nI mo) = some R := by
          intro R hR
          unfold f_X0_putMove
          refine gdE (yg13 H) (ltE ?_)
          rw [eb]
          refine bnd key' (bnd (yR13_4 H) (bnd t17 ?_))
          refine jnE ?_
          refine jnE ?_
          by_cases c1 : m ≤ k
          · refine (if_pos (nI_le c1 (by omega))).trans ?_
            refine jnE ?_
            refine (if_pos rfl).trans ?_
            exact hR
          · refine (if_neg (nI_ge (by omega) (by omega))).trans ?_
            refine bnd (yR13_5 H) ?_
            rw [ix]
            refine bnd (yA18 H (show 12 * s + k < 120 by omega)) ?_
            refine (if_neg (fun e => hne ⟨by omega, e⟩)).trans ?_
            refine jnE ?_
            refine (if_pos rfl).trans ?_
            rw [← ix]
            exact hR
        refine ⟨g6, tail g6 ?_, g1.1, g1.2.1, g1.2.2.1, fun a h1 h2 h3 => ?_, ?_, ?_, ?_⟩
        · refine bnd (yR13_4 H) (bnd t17 ?_)
          refine (if_pos (show nI m < (12 : Int32) from nI_lt (b := 12) hm12 (by omega))).trans ?_
          refine bnd (yR13_4 H) (bnd t17 (bnd l2 ?_))
          refine bnd (yR13_4 G) (bnd ((yA17 G (show s < 10 by omega)).trans (congrArg some e17g)) ?_)
          rw [nI_1]
          refine bnd (a := g4) (yS17 G hs) ?_
          refine bnd (yR13_5 G4) ?_
          rw [ix]
          refine bnd (a := g5) (yS18 G4 (show 12 * s + k < 120 by omega)) ?_
          refine bnd (yR13_6 G5) ?_
          refine bnd (a := g6) (yS19 G5 (show 12 * s + k < 120 by omega)) ?_
          rfl
        · show z_i (z_si (z_si (z_si g 17 s (nI (m + 1))) 18 (12 * s + k) (nI mo)) 19 (12 * s + k) (nI to)) a = _
          rw [z_si_o h3, z_si_o h2, z_si_o h1, g1.2.2.2 a h2 h3]
        · show z_i (z_si (z_si (z_si g 17 s (nI (m + 1))) 18 (12 * s + k) (nI mo)) 19 (12 * s + k) (nI to)) 17 = _
          rw [z_si_o (by omega), z_si_o (by omega), z_si_i, g1.2.2.2 17 (by omega) (by omega)]
        · show z_i (z_si (z_si (z_si g 17 s (nI (m + 1))) 18 (12 * s + k) (nI mo)) 19 (12 * s + k) (nI to)) 18 = _
          rw [z_si_o (by omega), z_si_i, z_si_o (by omega), g2]
        · show z_i (z_si (z_si (z_si g 17 s (nI (m + 1))) 18 (12 * s + k) (nI mo)) 19 (12 * s + k) (nI to)) 19 = _
          rw [z_si_i, z_si_o (by omega), z_si_o (by omega), g3]
      · rintro j g hj ⟨g1, g2, g3⟩
        have G := g1.ly H
        obtain ⟨i, hi⟩ : ∃ i, m - j = i + 1 := ⟨m - j - 1, by omega⟩
        have ix2 : nI (12 * s) + nI (i + 1) = nI (12 * s + i + 1) := by rw [nI_add]; rfl
        have ix3 : nI (12 * s + i + 1) - 1 = nI (12 * s + i) := nI_p1 _
        let g4 := z_si g 18 (12 * s + i + 1) (z_i g 18 (12 * s + i))
        have G4 : LY g4 := G
        have e19 : z_i g4 19 (12 * s + i) = z_i g 19 (12 * s + i) := by
          show z_i (z_si g 18 (12 * s + i + 1) (z_i g 18 (12 * s + i))) 19 (12 * s + i) = _
          rw [z_si_o (by omega)]
        refine ⟨z_si g4 19 (12 * s + i + 1) (z_i g 19 (12 * s + i)), ⟨g1.tr ((TW_si (Or.inl rfl)).tr (TW_si (Or.inr rfl))), ?_, ?_⟩, fun rec => ?_⟩
        · show z_i (z_si (z_si g 18 (12 * s + i + 1) (z_i g 18 (12 * s + i))) 19 (12 * s + i + 1) (z_i g 19 (12 * s + i))) 18 = _
          rw [z_si_o (by omega), z_si_i, g2]
          funext x
          by_cases e : x = 12 * s + i + 1
          · rw [e, upd_s]
            unfold shM
            rw [if_neg (by omega), if_pos (by omega)]
            rfl
          · rw [upd_o e]
            unfold shM
            by_cases c : 12 * s + (m - j) < x ∧ x ≤ 12 * s + m
            · rw [if_pos c, if_pos (by omega)]
            · rw [if_neg c, if_neg (by omega)]
        · show z_i (z_si (z_si g 18 (12 * s + i + 1) (z_i g 18 (12 * s + i))) 19 (12 * s + i + 1) (z_i g 19 (12 * s + i))) 19 = _
          rw [z_si_i, z_si_o (by omega), g3]
          funext x
          by_cases e : x = 12 * s + i + 1
          · rw [e, upd_s]
            unfold shM
            rw [if_neg (by omega), if_pos (by omega)]
            rfl
          · rw [upd_o e]
            unfold shM
            by_cases c : 12 * s + (m - j) < x ∧ x ≤ 12 * s + m
            · rw [if_pos c, if_pos (by omega)]
            · rw [if_neg c, if_neg (by omega)]
        · rw [hi]
          unfold f_X0_putMove_l2
          refine (if_neg (nI_ge (by omega) (by omega))).trans ?_
          refine bnd (yR13_5 G) (bnd (yR13_5 G) ?_)
          rw [ix2, ix3]
          refine bnd (yA18 G (show 12 * s + i < 120 by omega)) ?_
          refine bnd (a := g4) (yS18 G (show 12 * s + i + 1 < 120 by omega)) ?_
          refine bnd (yR13_6 G4) (bnd (yR13_6 G4) ?_)
          refine bnd ((yA19 G4 (show 12 * s + i < 120 by omega)).trans (congrArg some e19)) ?_
          refine bnd (yS19 G4 (show 12 * s + i + 1 < 120 by omega)) ?_
          rw [m1_pred, show m - (j + 1) = i by omega]
      · rintro rec g _
        unfold f_X0_putMove_l2
        exact if_pos (nI_le (by omega) (by omega))
  · intro rec k hk hp
    unfold f_X0_putMove_l1
    refine ltE (bnd (yR13_4 H) (bnd ((yA17 H (show s < 10 by omega)).trans (congrArg some e17)) ?_))
    refine (if_neg (nI_ge hk (by omega))).trans (bnd (yR13_5 H) ?_)
    rw [nI_add]
    refine bnd (yA18 H (show 12 * s + k < 120 by omega)) ?_
    exact if_pos (of_decide_eq_true hp)
  · intro rec k hk hp
    unfold f_X0_putMove_l1
    refine ltE (bnd (yR13_4 H) (bnd ((yA17 H (show s < 10 by omega)).trans (congrArg some e17)) ?_))
    refine (if_neg (nI_ge hk (by omega))).trans (bnd (yR13_5 H) ?_)
    rw [nI_add]
    refine bnd (yA18 H (show 12 * s + k < 120 by omega)) ?_
    refine (if_neg (of_decide_eq_false hp)).trans ?_
    rw [nI_1]
  · intro rec
    unfold f_X0_putMove_l1
    refine ltE (bnd (yR13_4 H) (bnd ((yA17 H (show s < 10 by omega)).trans (congrArg some e17)) ?_))
    exact if_pos (nI_le (Nat.le_refl _) (by omega))
/-- the class's rows after a move, against the model's -/
theorem c_move {h : Z_H} {A T : Nat → Int32} (H : LY h) (R : RS (cl h) A T) {s to mo : Nat} (hs : s < nn A) (hs0 : s ≠ 0) (hto : to < nn A) (hmo : nwN A ≤ mo) (hmo2 : mo ≤ lastN A) (hrg : rgB A s to mo = false) (h12 : mc A s < 12 ∨ (hmO A s mo).isSome = true) : ∃ h', f_X0_putMove h 13 (nI s) (nI to) (nI mo) = some h' ∧ z_n h' = z_n h ∧ z_t h' = z_t h ∧ z_x h' = z_x h ∧ (∀ a, 61 ≤ a → z_i h' a = z_i h a) ∧ RS (cl h') (mvA A s to mo) T := by
  have hN := R.1.1
  have h10 := hN.2.1
  have h99 := hN.2.2.2.1
  have hl99 : lastN A ≤ 99 := by unfold lastN; omega
  have hM := R.1.2.2.2.2.1 s hs
  obtain ⟨a1, a2, a3, a4, a5, a6⟩ := id hM
  obtain ⟨b1, b2, b3⟩ := R.2.2.2.2.1 s hs
  have e17 : z_i h 17 s = nI (mc A s) := ((R.2.1.2.2 s hs).2.2.2.2).trans a2
  obtain ⟨x1, x2, x3, x4⟩ := ixM_s h12 a1
  have x12 : ixM A s mo < 12 := by omega
  obtain ⟨p1, p2⟩ := c_putMove (to := to) (mo := mo) H (show s < 10 by omega) a1 e17
  -- the class's row is a row of months
  have b1 : ∀ i, i < mc A s → ∃ j, j < mc A s ∧ z_i h 18 (12 * s + i) = nI (mvm A s j) ∧ z_i h 19 (12 * s + i) = A (147 + 94 * s + (17 + j)) := fun i hi => by
    obtain ⟨j, j1, j2, j3⟩ := b1 i hi
    exact ⟨j, j1, Eq.trans j2 (a4 j j1).1, j3⟩
  have b2 : ∀ j, j < mc A s → ∃ i, i < mc A s ∧ z_i h 18 (12 * s + i) = nI (mvm A s j) ∧ z_i h 19 (12 * s + i) = A (147 + 94 * s + (17 + j)) := fun j hj => by
    obtain ⟨i, j1, j2, j3⟩ := b2 j hj
    exact ⟨i, j1, Eq.trans j2 (a4 j hj).1, j3⟩
  have b3 : ∀ i i', i < i' → i' < mc A s → z_i h 18 (12 * s + i) < z_i h 18 (12 * s + i') := b3
  have mle : ∀ j, j < mc A s → mvm A s j ≤ 99 := fun j hj => (a4 j hj).2.2.1
  have q5 : ∀ i, i < 12 → mvA A s to mo (147 + 94 * s + (5 + i)) = if i = ixM A s mo then nI mo else A (147 + 94 * s + (5 + i)) := fun i hi => mvA_5 hi x12
  have q17 : ∀ i, i < 12 → mvA A s to mo (147 + 94 * s + (17 + i)) = if i = ixM A s mo then nI to else A (147 + 94 * s + (17 + i)) := fun i hi => mvA_17 hi x12
  have hk : fsM (z_i h 18) s (mc A s) (nI mo) ≤ mc A s ∧ (∀ j, j < fsM (z_i h 18) s (mc A s) (nI mo) → z_i h 18 (12 * s + j) < nI mo) ∧ (fsM (z_i h 18) s (mc A s) (nI mo) < mc A s → nI mo ≤ z_i h 18 (12 * s + fsM (z_i h 18) s (mc A s) (nI mo))) := by
    unfold fsM
    cases hf : fnd (fun j => decide (nI mo ≤ z_i h 18 (12 * s + j))) 0 (mc A s) with
    | none => exact ⟨Nat.le_refl _, fun j hj => Int32.not_le.mp (of_decide_eq_false (fnd_none _ _ hf j (by omega) (by
        have : j < mc A s := hj
        omega))), fun q => absurd q (by show ¬ mc A s < mc A s; omega)⟩
    | some l =>
      obtain ⟨-, f2, f3, f4⟩ := fnd_some _ _ _ hf
      exact ⟨by show l ≤ mc A s; omega, fun j hj => Int32.not_le.mp (of_decide_eq_false (f4 j (by omega) hj)), fun _ => of_decide_eq_true f3⟩
  obtain ⟨k1, k2, k3⟩ := hk
  generalize eK : fsM (z_i h 18) s (mc A s) (nI mo) = k at *
  by_cases told : k < mc A s ∧ z_i h 18 (12 * s + k) = nI mo
  · have hsome : (hmO A s mo).isSome = true := by
      obtain ⟨j, j1, j2, -⟩ := b1 k told.1
      rw [told.2] at j2
      have := mle j j1
      exact fnd_is.mpr ⟨j, j1, decide_eq_true ((nI_eq (by omega) (by omega)).mp j2).symm⟩
    have emc : mcN A s mo = mc A s := by unfold mcN; rw [if_pos hsome]
    have ixv : mvm A s (ixM A s mo) = mo := by
      unfold ixM
      cases hh : hmO A s mo with
      | none => rw [hh] at hsome; cases hsome
      | some i => exact of_decide_eq_true (fnd_some _ _ _ hh).2.2.1
    have ixm : ∀ j, j < mc A s → (z_i h 18 (12 * s + k) = nI (mvm A s j) ↔ j = ixM A s mo) := fun j hj => by
      rw [told.2]
      have := mle j hj
      constructor
      · intro e
        have := (nI_eq (by omega) (by omega)).mp e
        exact a5 j _ hj (by omega) (by omega)
      · intro e
        rw [e, ixv]
    have kinj : ∀ i, i < mc A s → ∀ j, j < mc A s → z_i h 18 (12 * s + i) = nI (mvm A s j) → (i = k ↔ j = ixM A s mo) := fun i hi j hj e => by
      rw [← ixm j hj]
      constructor
      · intro q
        rw [← q]
        exact e
      · intro q
        rw [← e] at q
        rcases Nat.lt_trichotomy i k with c | c | c
        · have := b3 i k c told.1
          rw [q] at this
          exact absurd this Int32.lt_irrefl
        · exact c
        · have := b3 k i c hi
          rw [q] at this
          exact absurd this Int32.lt_irrefl
    let g := z_si (z_si h 18 (12 * s + k) (nI mo)) 19 (12 * s + k) (nI to)
    have g18 : ∀ x, z_i g 18 x = z_i h 18 x := fun x => by
      show z_i (z_si (z_si h 18 (12 * s + k) (nI mo)) 19 (12 * s + k) (nI to)) 18 x = _
      rw [z_si_o (by omega), z_si_i]
      by_cases e : x = 12 * s + k
      · rw [e, upd_s, told.2]
      · rw [upd_o e]
    have g19 : z_i g 19 = upd (z_i h 19) (12 * s + k) (nI to) := by
      show z_i (z_si (z_si h 18 (12 * s + k) (nI mo)) 19 (12 * s + k) (nI to)) 19 = _
      rw [z_si_i, z_si_o (by omega)]
    have go : ∀ a, a ≠ 18 → a ≠ 19 → z_i g a = z_i h a := fun a h1 h2 => by
      show z_i (z_si (z_si h 18 (12 * s + k) (nI mo)) 19 (12 * s + k) (nI to)) a = _
      rw [z_si_o h2, z_si_o h1]
    have pair : ∀ i j, i < mc A s → j < mc A s → z_i h 18 (12 * s + i) = nI (mvm A s j) → z_i h 19 (12 * s + i) = A (147 + 94 * s + (17 + j)) → z_i g 18 (12 * s + i) = mvA A s to mo (147 + 94 * s + (5 + j)) ∧ z_i g 19 (12 * s + i) = mvA A s to mo (147 + 94 * s + (17 + j)) := fun i j hi hj e1 e2 => by
      rw [g18, g19, q5 j (by omega), q17 j (by omega)]
      have kj := kinj i hi j hj e1
      by_cases c : i = k
      · have cj := kj.mp c
        rw [if_pos cj, if_pos cj, c, upd_s, told.2]
        exact ⟨rfl, rfl⟩
      · have cj : ¬ j = ixM A s mo := fun q => c (kj.mpr q)
        rw [if_neg cj, if_neg cj, upd_o (by omega), e1, (a4 j hj).1]
        exact ⟨rfl, e2⟩
    refine ⟨g, p1 told, rfl, rfl, rfl, fun a ha => go a (by omega) (by omega), ?_⟩
    refine RS_move R hs hs0 hto hmo hmo2 hrg h12 (fun o h1 h2 h3 h4 => go (1 + o) (by omega) (by omega)) ?_ (fun x hx => ⟨?_, ?_⟩) ⟨fun i hi => ?_, fun j hj => ?_, fun i i' h1 h2 => ?_⟩
    · show z_i g 17 = upd (z_i h 17) s (nI (mcN A s mo))
      rw [go 17 (by omega) (by omega), emc]
      funext x
      by_cases e : x = s
      · rw [e, upd_s, e17]
      · rw [upd_o e]
    · exact g18 x
    · show z_i g 19 x = z_i h 19 x
      rw [g19, upd_o (by omega)]
    · rw [emc] at hi ⊢
      obtain ⟨j, j1, j2, j3⟩ := b1 i hi
      exact ⟨j, j1, pair i j hi j1 j2 j3⟩
    · rw [emc] at hj ⊢
      obtain ⟨i, j1, j2, j3⟩ := b2 j hj
      exact ⟨i, j1, pair i j j1 hj j2 j3⟩
    · rw [emc] at h2
      show z_i g 18 _ < z_i g 18 _
      rw [g18, g18]
      exact b3 i i' h1 h2
  · have hnone : hmO A s mo = none := by
      cases hh : hmO A s mo with
      | none => rfl
      | some j =>
        exfalso
        obtain ⟨-, f2, f3, -⟩ := fnd_some _ _ _ hh
        have f3 : mvm A s j = mo := of_decide_eq_true f3
        obtain ⟨i, i1, i2, -⟩ := b2 j (by omega)
        rw [f3] at i2
        rcases Nat.lt_trichotomy i k with c | c | c
        · have := k2 i c
          rw [i2] at this
          exact absurd this Int32.lt_irrefl
        · exact told ⟨by omega, by rw [← c]; exact i2⟩
        · have e1 := b3 k i c i1
          rw [i2] at e1
          exact absurd (k3 (by omega)) (Int32.not_le.mpr e1)
    have hm12 : mc A s < 12 := h12.resolve_right (by rw [hnone]; simp)
    have emc : mcN A s mo = mc A s + 1 := by unfold mcN; rw [hnone]; rfl
    have eix : ixM A s mo = mc A s := by unfold ixM; rw [hnone]; rfl
    obtain ⟨g, t1, t2, t3, t4, t5, t6, t7, t8⟩ := p2 hm12 told
    have r18 : ∀ i, z_i g 18 (12 * s + i) = if i < k then z_i h 18 (12 * s + i) else if i = k then nI mo else if i ≤ mc A s then z_i h 18 (12 * s + (i - 1)) else z_i h 18 (12 * s + i) := fun i => by
      rw [t7]
      by_cases c : i = k
      · rw [c, upd_s, if_neg (by omega), if_pos rfl]
      · rw [upd_o (by omega)]
        unfold shM
        by_cases c2 : i < k
        · rw [if_neg (by omega), if_pos c2]
        · rw [if_neg c2, if_neg c]
          by_cases c3 : i ≤ mc A s
          · rw [if_pos (by omega), if_pos c3, show 12 * s + i - 1 = 12 * s + (i - 1) by omega]
          · rw [if_neg (by omega), if_neg c3]
    have r19 : ∀ i, z_i g 19 (12 * s + i) = if i < k then z_i h 19 (12 * s + i) else if i = k then nI to else if i ≤ mc A s then z_i h 19 (12 * s + (i - 1)) else z_i h 19 (12 * s + i) := fun i => by
      rw [t8]
      by_cases c : i = k
      · rw [c, upd_s, if_neg (by omega), if_pos rfl]
      · rw [upd_o (by omega)]
        unfold shM
        by_cases c2 : i < k
        · rw [if_neg (by omega), if_pos c2]
        · rw [if_neg c2, if_neg c]
          by_cases c3 : i ≤ mc A s
          · rw [if_pos (by omega), if_pos c3, show 12 * s + i - 1 = 12 * s + (i - 1) by omega]
          · rw [if_neg (by omega), if_neg c3]
    have kgt : k < mc A s → nI mo < z_i h 18 (12 * s + k) := fun q => by
      rcases Int32.lt_or_eq_of_le (k3 q) with w | w
      · exact w
      · exact absurd ⟨q, w.symm⟩ told
    refine ⟨g, t1, t2, t3, t4, fun a ha => t5 a (by omega) (by omega) (by omega), ?_⟩
    refine RS_move R hs hs0 hto hmo hmo2 hrg h12 (fun o h1 h2 h3 h4 => t5 (1 + o) (by omega) (by omega) (by omega)) ?_ (fun x hx => ⟨?_, ?_⟩) ⟨fun i hi => ?_, fun j hj => ?_, fun i i' h1 h2 => ?_⟩
    · show z_i g 17 = upd (z_i h 17) s (nI (mcN A s mo))
      rw [emc]
      exact t6
    · show z_i g 18 x = z_i h 18 x
      rw [t7, upd_o (by omega)]
      unfold shM
      rw [if_neg (by omega)]
    · show z_i g 19 x = z_i h 19 x
      rw [t8, upd_o (by omega)]
      unfold shM
      rw [if_neg (by omega)]
    · rw [emc] at hi ⊢
      show ∃ j, j < mc A s + 1 ∧ z_i g 18 (12 * s + i) = _ ∧ z_i g 19 (12 * s + i) = _
      rw [r18, r19]
      by_cases c : i = k
      · refine ⟨mc A s, by omega, ?_⟩
        rw [q5 _ (by omega), q17 _ (by omega), if_pos eix.symm, if_pos eix.symm, if_neg (by omega), if_pos c, if_neg (by omega), if_pos c]
        exact ⟨rfl, rfl⟩
      · by_cases c2 : i < k
        · obtain ⟨j, j1, j2, j3⟩ := b1 i (by omega)
          refine ⟨j, by omega, ?_⟩
          rw [q5 _ (by omega), q17 _ (by omega), if_pos c2, if_pos c2, if_neg (show ¬ j = ixM A s mo by omega), if_neg (show ¬ j = ixM A s mo by omega), (a4 j j1).1]
          exact ⟨j2, j3⟩
        · obtain ⟨j, j1, j2, j3⟩ := b1 (i - 1) (by omega)
          refine ⟨j, by omega, ?_⟩
          rw [q5 _ (by omega), q17 _ (by omega), if_neg (show ¬ j = ixM A s mo by omega), if_neg (show ¬ j = ixM A s mo by omega), if_neg c2, if_neg c, if_pos (by omega), if_neg c2, if_neg c, if_pos (by omega), (a4 j j1).1]
          exact ⟨j2, j3⟩
    · rw [emc] at hj ⊢
      show ∃ i, i < mc A s + 1 ∧ z_i g 18 (12 * s + i) = _ ∧ z_i g 19 (12 * s + i) = _
      rw [q5 _ (by omega), q17 _ (by omega)]
      by_cases c : j = mc A s
      · refine ⟨k, by omega, ?_⟩
        have kk : ¬ k < k := by omega
        have ke : k = k := rfl
        have jx : j = ixM A s mo := by omega
        rw [r18, r19, if_neg kk, if_pos ke, if_neg kk, if_pos ke, if_pos jx, if_pos jx]
        exact ⟨rfl, rfl⟩
      · obtain ⟨i, j1, j2, j3⟩ := b2 j (by omega)
        rw [if_neg (by omega), if_neg (by omega), (a4 j (by omega)).1]
        by_cases c2 : i < k
        · refine ⟨i, by omega, ?_⟩
          rw [r18, r19, if_pos c2, if_pos c2]
          exact ⟨j2, j3⟩
        · refine ⟨i + 1, by omega, ?_⟩
          rw [r18, r19, if_neg (by omega), if_neg (by omega), if_pos (by omega), if_neg (by omega), if_neg (by omega), if_pos (by omega), Nat.add_sub_cancel]
          exact ⟨j2, j3⟩
    · rw [emc] at h2
      show z_i g 18 _ < z_i g 18 _
      rw [r18, r18]
      by_cases c : i < k
      · rw [if_pos c]
        by_cases d : i' < k
        · rw [if_pos d]
          exact b3 i i' h1 (by omega)
        · rw [if_neg d]
          by_cases d2 : i' = k
          · rw [if_pos d2]
            exact k2 i c
          · rw [if_neg d2, if_pos (by omega)]
            rcases Nat.lt_or_ge i (i' - 1) with w | w
            · exact b3 i (i' - 1) w (by omega)
            · omega
      · rw [if_neg c, if_neg (show ¬ i' < k by omega), if_neg (show ¬ i' = k by omega), if_pos (show i' ≤ mc A s by omega)]
        by_cases d : i = k
        · rw [if_pos d]
          have hkm : k < mc A s := by omega
          rcases Nat.lt_or_ge k (i' - 1) with w | w
          · exact Int32.lt_trans (kgt hkm) (b3 k (i' - 1) w (by omega))
          · rw [show i' - 1 = k by omega]
            exact kgt hkm
        · rw [if_neg d, if_pos (by omega)]
          exact b3 (i - 1) (i' - 1) (by omega) (by omega)
theorem op_move {h : Z_H} (I : Inv h) {x y z : Int32} : ∃ r h1 h2, f_X9_move h 0 x y z = some (r, h1) ∧ f_X10_move h1 61 x y z = some (r, h2) ∧ Inv h2 := by
  have H := I.1
  obtain ⟨r, r1, r2, r3⟩ := rsn I (x := x) (y := y) (z := z)
  by_cases hr : r = 0
  · obtain ⟨s, to, mo, rfl, rfl, rfl, hs, hto, hs0, hmo, hmo2, q3, hrg, h12⟩ := r3 hr
    have R := I.2.1
    have h14 := I.2.2.1
    have hv := I.v
    generalize eA : z_i h 62 = A at *
    generalize eT : z_i h 63 = T at *
    have hN := hv.1
    have h10 := hN.2.1
    have hl99 : lastN A ≤ 99 := by unfold lastN; omega
    have hM := hv.2.2.2.2.1 s hs
    obtain ⟨x1, x2, x3, x4⟩ := ixM_s h12 hM.1
    obtain ⟨g, c1, c2, c3, c4, c5, c6⟩ := c_move H R hs hs0 hto hmo hmo2 hrg h12
    have G := LY_x c2 c4 H
    let k0 := z_si g 61 0 0
    have K0 : LY k0 := G
    have e0 : z_i k0 62 = A := (z_si_o (by omega)).trans ((c5 62 (by omega)).trans eA)
    have e14 : z_i k0 61 14 = -1 := by
      show z_i (z_si g 61 0 0) 61 14 = -1
      rw [zi_si, if_pos rfl, if_neg (by omega), c5 61 (by omega)]
      exact h14
    obtain ⟨k, k1, k2⟩ := r2 k0 ⟨K0, e0, e14⟩
    have K := k2.ly K0
    have ek : z_i k 62 = A := k2.a.trans e0
    have ma := e_moveAt (m := mo) K ek (show s < 10 by omega) hM (by omega)
    have o4 : f_X10_ofSeller k 61 (nI s) 4 = some (nI (mc A s)) := by rw [e_os4 K (by omega), ek, hM.2.1]
    have hr0 := hr
    subst hr0
    -- the two last rows
    have fin : ∀ (k3 : Z_H) (K3 : LY k3) (i : Nat), i < 12 → f_X10_setSeller k3 61 (nI s) ((5 : Int32) + nI i) (nI mo) = some (z_si k3 62 (147 + 94 * s + (5 + i)) (nI mo)) ∧ f_X10_setSeller (z_si k3 62 (147 + 94 * s + (5 + i)) (nI mo)) 61 (nI s) ((17 : Int32) + nI i) (nI to) = some (z_si (z_si k3 62 (147 + 94 * s + (5 + i)) (nI mo)) 62 (147 + 94 * s + (17 + i)) (nI to)) := fun k3 K3 i hi => by
      rw [n_5, n_17, nI_add, nI_add]
      exact ⟨e_setSeller K3 (by omega), e_setSeller (h := z_si k3 62 (147 + 94 * s + (5 + i)) (nI mo)) K3 (by omega)⟩
    have res : ∃ k', f_X10_move g 61 (nI s) (nI to) (nI mo) = some (0, k') ∧ ON k k' 62 ∧ z_i k' 62 = mvA A s to mo := by
      cases hh : hmO A s mo with
      | none =>
        rw [hh] at ma
        have eix : ixM A s mo = mc A s := by unfold ixM; rw [hh]; rfl
        have emc : mcN A s mo = mc A s + 1 := by unfold mcN; rw [hh]; rfl
        let k3 := z_si k 62 (147 + 94 * s + 4) (nI (mc A s + 1))
        have K3 : LY k3 := K
        have s4 : f_X10_setSeller k 61 (nI s) 4 (nI (mc A s + 1)) = some k3 := e_setSeller (w := 4) K (by omega)
        obtain ⟨f1, f2⟩ := fin k3 K3 (mc A s) (by omega)
        refine ⟨z_si (z_si k3 62 (147 + 94 * s + (5 + mc A s)) (nI mo)) 62 (147 + 94 * s + (17 + mc A s)) (nI to), ?_, (TW_si (Or.inl rfl)).tr ((TW_si (Or.inl rfl)).tr (TW_si (Or.inl rfl))), ?_⟩
        · unfold f_X10_move
          refine gdE (yg61 G) (bnd (yP61 G 0 0) (bd2E k1 ?_))
          refine (if_pos rfl).trans (bnd ma ?_)
          refine jnE ?_
          refine (if_pos (show pe none = -1 from rfl)).trans (bnd o4 ?_)
          rw [nI_1]
          refine bnd s4 ?_
          refine bnd f1 (bnd f2 ?_)
          rfl
        · show z_i (z_si (z_si (z_si k 62 (147 + 94 * s + 4) (nI (mc A s + 1))) 62 (147 + 94 * s + (5 + mc A s)) (nI mo)) 62 (147 + 94 * s + (17 + mc A s)) (nI to)) 62 = _
          rw [z_si_i, z_si_i, z_si_i, ek]
          funext j
          unfold mvA
          rw [eix, emc]
          by_cases q1 : j = 147 + 94 * s + 4
          · rw [if_pos q1, upd_o (by omega), upd_o (by omega), q1, upd_s]
          · rw [if_neg q1]
            by_cases q2 : j = 147 + 94 * s + (5 + mc A s)
            · rw [if_pos q2, upd_o (by omega), q2, upd_s]
            · rw [if_neg q2]
              by_cases q3 : j = 147 + 94 * s + (17 + mc A s)
              · rw [if_pos q3, q3, upd_s]
              · rw [if_neg q3, upd_o q3, upd_o q2, upd_o q1]
      | some i =>
        rw [hh] at ma
        have hi := (fnd_some _ _ _ hh).2.1
        have hm12 := hM.1
        have eix : ixM A s mo = i := by unfold ixM; rw [hh]; rfl
        have emc : mcN A s mo = mc A s := by unfold mcN; rw [hh]; rfl
        obtain ⟨f1, f2⟩ := fin k K i (by omega)
        refine ⟨z_si (z_si k 62 (147 + 94 * s + (5 + i)) (nI mo)) 62 (147 + 94 * s + (17 + i)) (nI to), ?_, (TW_si (Or.inl rfl)).tr (TW_si (Or.inl rfl)), ?_⟩
        · unfold f_X10_move
          refine gdE (yg61 G) (bnd (yP61 G 0 0) (bd2E k1 ?_))
          refine (if_pos rfl).trans (bnd ma ?_)
          refine jnE ?_
          refine (if_neg (show ¬ pe (some i) = -1 from nI_m1 (by omega))).trans ?_
          refine bnd f1 (bnd f2 ?_)
          rfl
        · show z_i (z_si (z_si k 62 (147 + 94 * s + (5 + i)) (nI mo)) 62 (147 + 94 * s + (17 + i)) (nI to)) 62 = _
          rw [z_si_i, z_si_i, ek]
          funext j
          unfold mvA
          rw [eix, emc]
          by_cases q1 : j = 147 + 94 * s + 4
          · rw [if_pos q1, upd_o (by omega), upd_o (by omega), q1, hM.2.1]
          · rw [if_neg q1]
            by_cases q2 : j = 147 + 94 * s + (5 + i)
            · rw [if_pos q2, upd_o (by omega), q2, upd_s]
            · rw [if_neg q2]
              by_cases q3 : j = 147 + 94 * s + (17 + i)
              · rw [if_pos q3, q3, upd_s]
              · rw [if_neg q3, upd_o q3, upd_o q2]
    obtain ⟨k', w1, w2, w3⟩ := res
    have oo : ∀ a, a ≠ 61 → a ≠ 62 → scr a = false → z_i k' a = z_i g a := fun a h1 h2 h3 => by
      rw [w2.2.2.2 a h2 h2, k2.2.2.2.1 a h3]
      exact z_si_o h1
    have sc : ∀ a, 71 ≤ a → scr a = false := fun a ha => by
      unfold scr
      simp only [Bool.or_eq_false_iff, Bool.and_eq_false_iff, decide_eq_false_iff_not]
      omega
    refine ⟨0, g, k', ?_, w1, I.of ⟨w2.1.trans (k2.1.trans c2), w2.2.1.trans (k2.2.1.trans c3), w2.2.2.1.trans (k2.2.2.1.trans c4), fun a ha => ?_, fun j hj => ?_, fun j _ => ?_, ?_⟩ ?_ ?_⟩
    · unfold f_X9_move
      refine gdE (yg0 H) (bnd r1 ?_)
      refine (if_pos rfl).trans ?_
      exact bnd (yR0_0 H) (bnd (yR1_2 H) (bnd c1 rfl))
    · rw [oo a (by omega) (by omega) (sc a (by omega)), c5 a (by omega)]
    · rw [w3, mvA_o (by omega) (by omega), eA]
    · rw [oo 63 (by omega) (by omega) rfl, c5 63 (by omega)]
    · rw [oo 71 (by omega) (by omega) rfl, c5 71 (by omega)]
    · rw [w3, oo 63 (by omega) (by omega) rfl, c5 63 (by omega), eT]
      refine ⟨c6.1, RC_congr (fun o h1 h2 => oo (1 + o) (by omega) (by omega) ?_) c6.2⟩
      unfold scr
      simp only [Bool.or_eq_false_iff, Bool.and_eq_false_iff, decide_eq_false_iff_not]
      omega
    · rw [w2.2.2.2 61 (by omega) (by omega)]
      exact k2.2.2.2.2.trans e14
  · obtain ⟨k, k1, k2⟩ := r2 (z_si h 61 0 0) ⟨H, m62, I.m.2.2.1⟩
    refine ⟨r, h, k, ?_, ?_, k2.inv I.m⟩
    · unfold f_X9_move
      refine gdE (yg0 H) (bnd r1 ?_)
      exact if_neg hr
    · unfold f_X10_move
      refine gdE (yg61 H) (bnd (yP61 H 0 0) (bd2E k1 ?_))
      exact if_neg hr
