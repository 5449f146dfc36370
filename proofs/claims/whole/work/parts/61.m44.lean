/-! the moves by month -/
theorem cn_lt {n k : Nat} (hk : k ≤ n) : cn (fun i => decide (i < k)) n = k := by
  have h1 : ∀ m, m ≤ k → cn (fun i => decide (i < k)) m = m := by
    intro m
    induction m with
    | zero => intro _; rfl
    | succ m ih =>
      intro hm
      show cn (fun i => decide (i < k)) m + (if decide (m < k) then 1 else 0) = m + 1
      rw [ih (by omega), decide_eq_true (show m < k by omega)]
      rfl
  rw [cn_ext n hk (fun t h1 _ => decide_eq_false (by omega)), h1 k (Nat.le_refl _)]
theorem mv_ahead {A F : Nat → Int32} {s n : Nat} (hn : n ≤ 12) (m99 : ∀ j, j < n → mvm A s j ≤ 99) (b1 : ∀ i, i < n → ∃ j, j < n ∧ F i = nI (mvm A s j)) (b2 : ∀ j, j < n → ∃ i, i < n ∧ F i = nI (mvm A s j)) (b3 : ∀ i i', i < i' → i' < n → F i < F i') (b5 : ∀ j j', j < n → j' < n → mvm A s j = mvm A s j' → j = j') {k i0 : Nat} (hk : k < n) (hi : i0 < n) (e : F k = nI (mvm A s i0)) : cn (fun j => decide (mvm A s j < mvm A s i0)) n = k := by
  have key : nI (cn (fun j => decide (mvm A s j < mvm A s i0)) n) = nI (cn (fun i => decide (i < k)) n) := by
    rw [← sm_cn, ← sm_cn]
    have e1 : sm (fun j => if decide (mvm A s j < mvm A s i0) = true then (1 : Int32) else 0) n = sm (fun j => sm (fun i => if F i = nI (mvm A s j) ∧ mvm A s j < mvm A s i0 then (1 : Int32) else 0) n) n := by
      refine sm_congr n (fun j hj => ?_)
      obtain ⟨i, i1, i2⟩ := b2 j hj
      rw [sm_one (t := fun i => if F i = nI (mvm A s j) ∧ mvm A s j < mvm A s i0 then (1 : Int32) else 0) n i i1 (fun i' h1 h2 => if_neg (fun q => ?_))]
      · by_cases c : mvm A s j < mvm A s i0
        · rw [decide_eq_true c, if_pos rfl, if_pos ⟨i2, c⟩]
        · rw [decide_eq_false c, if_neg (by simp), if_neg (fun q => c q.2)]
      · have q1 := q.1
        rw [← i2] at q1
        rcases Nat.lt_trichotomy i' i with w | w | w
        · have := b3 i' i w i1
          rw [q1] at this
          exact Int32.lt_irrefl this
        · exact h2 w
        · have := b3 i i' w h1
          rw [q1] at this
          exact Int32.lt_irrefl this
    rw [e1, sm_swap]
    refine sm_congr n (fun i hi' => ?_)
    obtain ⟨j, j1, j2⟩ := b1 i hi'
    have := m99 j j1
    have := m99 i0 hi
    rw [sm_one (t := fun j => if F i = nI (mvm A s j) ∧ mvm A s j < mvm A s i0 then (1 : Int32) else 0) n j j1 (fun j' h1 h2 => if_neg (fun q => ?_))]
    · have lt_iff : mvm A s j < mvm A s i0 ↔ i < k := by
        constructor
        · intro q
          have q2 : F i < F k := by
            rw [j2, e]
            exact nI_lt q (by omega)
          rcases Nat.lt_or_ge i k with w | w
          · exact w
          · rcases Nat.lt_or_ge k i with w2 | w2
            · exact absurd (Int32.lt_trans q2 (b3 k i w2 hi')) Int32.lt_irrefl
            · have : i = k := by omega
              rw [this] at q2
              exact absurd q2 Int32.lt_irrefl
        · intro q
          have q2 := b3 i k q hk
          rw [j2, e] at q2
          exact (nI_ltI (by omega) (by omega)).mp q2
      by_cases c : i < k
      · rw [if_pos ⟨j2, lt_iff.mpr c⟩, decide_eq_true c, if_pos rfl]
      · rw [if_neg (fun q => c (lt_iff.mp q.2)), decide_eq_false c, if_neg (by simp)]
    · have q1 := q.1
      rw [j2] at q1
      have := m99 j' h1
      exact h2 (b5 j' j h1 j1 ((nI_eq (by omega) (by omega)).mp q1).symm)
  have c1 := cn_le (p := fun j => decide (mvm A s j < mvm A s i0)) n
  have c2 := cn_le (p := fun i => decide (i < k)) n
  have := (nI_eq (by omega) (by omega)).mp key
  rw [this]
  exact cn_lt (by omega)
theorem op_moved {h : Z_H} (I : Inv h) {x y z : Int32} : ∃ r h2, f_X9_moved h 0 x y z = some r ∧ f_X10_moved h 61 x y z = some (r, h2) ∧ Inv h2 := by
  have H := I.1
  have C := I.ca
  have hv := I.v
  have R := I.2.1
  generalize eA : z_i h 62 = A at *
  have hN := hv.1
  have h10 := hN.2.1
  have H1 : LY (z_si h 61 0 0) := H
  have e1 : z_i (z_si h 61 0 0) 62 = A := by rw [m62, eA]
  have hN1 : VN (z_i (z_si h 61 0 0) 62) := by rw [e1]; exact hN
  have z1 : ¬ (1 : Int32) = 0 := by decide
  rcases nI_or (x := x) (n := nn A) (by omega) with ⟨s, hs, rfl⟩ | ⟨-, hx⟩
  · have wt := c_has_t C hs
    have it := e_isS_t (h := z_si h 61 0 0) (s := s) H1 hN1 (by rw [e1]; exact hs)
    have hM := hv.2.2.2.2.1 s hs
    obtain ⟨a1, a2, a3, a4, a5, a6⟩ := id hM
    obtain ⟨b1, b2, b3⟩ := R.2.2.2.2.1 s hs
    have t17 : z_i h 17 s = nI (mc A s) := ((R.2.1.2.2 s hs).2.2.2.2).trans a2
    have o4 : f_X10_ofSeller (z_si h 61 0 0) 61 (nI s) 4 = some (nI (mc A s)) := by rw [e_os4 H1 (by omega), e1, a2]
    rcases nI_or (x := y) (n := mc A s) (by omega) with ⟨k, hk, rfl⟩ | ⟨-, hy⟩
    · have ik := in_t hk (show mc A s < 2 ^ 31 by omega)
      have b1' : ∀ i, i < mc A s → ∃ j, j < mc A s ∧ z_i h 18 (12 * s + i) = nI (mvm A s j) ∧ z_i h 19 (12 * s + i) = A (147 + 94 * s + (17 + j)) := fun i hi => by
        obtain ⟨j, j1, j2, j3⟩ := b1 i hi
        exact ⟨j, j1, Eq.trans j2 (a4 j j1).1, j3⟩
      have b2' : ∀ j, j < mc A s → ∃ i, i < mc A s ∧ z_i h 18 (12 * s + i) = nI (mvm A s j) := fun j hj => by
        obtain ⟨i, j1, j2, j3⟩ := b2 j hj
        exact ⟨i, j1, Eq.trans j2 (a4 j hj).1⟩
      have ahead : ∀ i k, i < mc A s → k < mc A s → z_i h 18 (12 * s + k) = nI (mvm A s i) → cn (fun j => decide (mvm A s j < mvm A s i)) (mc A s) = k := fun i k hi hk e =>
        mv_ahead (F := fun i => z_i h 18 (12 * s + i)) a1 (fun j hj => (a4 j hj).2.2.1) (fun i hi => by
          obtain ⟨j, j1, j2, -⟩ := b1' i hi
          exact ⟨j, j1, j2⟩) b2' b3 a5 hk hi e
      have l2 : ∀ i, i < mc A s → lp (f_X10_moved_l2 61 (nI s) (z_si h 61 0 0) (nI i)) FU (0, 0) = some (nI (cn (fun j => decide (mvm A s j < mvm A s i)) (mc A s))) := fun i hi => by
        have o5 : ∀ k, k < mc A s → f_X10_ofSeller (z_si h 61 0 0) 61 (nI s) ((5 : Int32) + nI k) = some (nI (mvm A s k)) := fun k hk => by
          rw [e_os5 H1 (by omega) (by omega), e1, (a4 k hk).1]
        have key := lp_sum (b := f_X10_moved_l2 61 (nI s) (z_si h 61 0 0) (nI i)) (N := mc A s) (fun j => if decide (mvm A s j < mvm A s i) = true then 1 else 0) (by omega) ?_ ?_ 0
        · rw [key, sm_cn, Int32.zero_add]
        · intro rec j a hj
          have p1 := (a4 j hj).2.2.1
          have p2 := (a4 i hi).2.2.1
          unfold f_X10_moved_l2
          refine bnd o4 ?_
          refine (if_neg (nI_ge hj (by omega))).trans ?_
          refine bnd (o5 j hj) (bnd (o5 i hi) ?_)
          refine jnE ?_
          by_cases c : mvm A s j < mvm A s i
          · refine (if_neg (nI_ge c (by omega))).trans ?_
            rw [decide_eq_true c, if_pos rfl]
            refine ltE ?_
            rw [nI_1]
          · refine (if_pos (nI_le (by omega) (by omega))).trans ?_
            rw [decide_eq_false c, if_neg (by simp)]
            refine ltE ?_
            rw [nI_1]
        · intro rec a
          unfold f_X10_moved_l2
          refine bnd o4 ?_
          exact if_pos (nI_le (Nat.le_refl _) (by omega))
      have key := lp_find (b := f_X10_moved_l1 61 (nI s) (nI k) (z_si h 61 0 0)) (fun i => nI i) (fun i => decide (cn (fun j => decide (mvm A s j < mvm A s i)) (mc A s) = k)) (fun i => some (.inl (nI i))) (some (.inr ())) (mc A s) ?_ ?_ ?_ (mc A s) FU 0 (by omega) (by unfold FU; omega)
      · have key' : lp (f_X10_moved_l1 61 (nI s) (nI k) (z_si h 61 0 0)) FU 0 = _ := key
        obtain ⟨j, j1, j2, j3⟩ := b1' k hk
        have hex : (fnd (fun i => decide (cn (fun j => decide (mvm A s j < mvm A s i)) (mc A s) = k)) 0 (mc A s)).isSome = true := fnd_is.mpr ⟨j, j1, decide_eq_true (ahead j k j1 hk j2)⟩
        cases hf : fnd (fun i => decide (cn (fun j => decide (mvm A s j < mvm A s i)) (mc A s) = k)) 0 (mc A s) with
        | none => rw [hf] at hex; cases hex
        | some l =>
          rw [hf] at key'
          have key' : lp (f_X10_moved_l1 61 (nI s) (nI k) (z_si h 61 0 0)) FU 0 = some (.inl (nI l)) := key'
          obtain ⟨-, f2, f3, -⟩ := fnd_some _ _ _ hf
          have f2 : l < mc A s := by omega
          have f3 := of_decide_eq_true f3
          obtain ⟨i, i1, i2⟩ := b2' l f2
          have hik := ahead l i f2 i1 i2
          have : i = k := by omega
          subst this
          have lj : l = j := by
            rw [j2] at i2
            have p1 := (a4 j j1).2.2.1
            have p2 := (a4 l f2).2.2.1
            exact (a5 j l j1 f2 ((nI_eq (by omega) (by omega)).mp i2)).symm
          subst lj
          have ix : nI s * 12 + nI i = nI (12 * s + i) := by rw [n_12, nI_mul, nI_add, Nat.mul_comm]
          have cpre : ∀ R, (if z = 0 then ((gR h 13 0 5).bind fun r6 => (aI h r6 (nI s * 12 + nI i)).bind fun t7 => some t7) else (if z = 1 then ((gR h 13 0 6).bind fun r8 => (aI h r8 (nI s * 12 + nI i)).bind fun t9 => some t9) else (some (-2)))) = some R → f_X9_moved h 0 (nI s) (nI i) z = some R := fun R hR => by
            unfold f_X9_moved
            refine gdE (yg0 H) (bnd (yR0_0 H) (bnd (yR1_2 H) (bnd wt ?_)))
            refine (if_neg z1).trans ((if_neg (nI_pos (by omega))).trans ?_)
            refine bnd (yR13_4 H) (bnd ((yA17 H (show s < 10 by omega)).trans (congrArg some t17)) ?_)
            refine (if_pos (nI_lt hk (by omega))).trans ?_
            exact hR
          have mpre : ∀ R, f_X10_in (z_si h 61 0 0) z 0 1 = some 1 → (jn (fun (y20 : Int32) => (f_X10_ofSeller (z_si h 61 0 0) 61 (nI s) (y20 + nI l)).bind fun t22 => some (t22, z_si h 61 0 0)) (fun j21 => if z = 0 then (j21 5) else (j21 17))) = some R → f_X10_moved h 61 (nI s) (nI i) z = some R := fun R hin hR => by
            unfold f_X10_moved
            refine gdE (yg61 H) (bnd (yP61 H 0 0) (bnd it ?_))
            refine (if_neg z1).trans (bnd o4 (bnd (e_in_t ik.1 ik.2) ?_))
            refine (if_neg z1).trans (bnd hin ?_)
            refine (if_neg z1).trans (bnd key' ?_)
            exact hR
          by_cases c0 : z = 0
          · subst c0
            refine ⟨nI (mvm A s l), z_si h 61 0 0, cpre _ ?_, mpre _ (e_in_t (by decide) (by decide)) ?_, I.m⟩
            · refine (if_pos rfl).trans (bnd (yR13_5 H) ?_)
              rw [ix]
              exact bnd ((yA18 H (show 12 * s + i < 120 by omega)).trans (congrArg some j2)) rfl
            · refine jnE ((if_pos rfl).trans ?_)
              refine bnd (e_os5 H1 (by omega) (by omega)) ?_
              rw [e1, (a4 l j1).1]
          · by_cases c1 : z = 1
            · subst c1
              refine ⟨A (147 + 94 * s + (17 + l)), z_si h 61 0 0, cpre _ ?_, mpre _ (e_in_t (by decide) (by decide)) ?_, I.m⟩
              · refine (if_neg z1).trans ((if_pos rfl).trans (bnd (yR13_6 H) ?_))
                rw [ix]
                exact bnd ((yA19 H (show 12 * s + i < 120 by omega)).trans (congrArg some j3)) rfl
              · refine jnE ((if_neg z1).trans ?_)
                refine bnd (e_os17 H1 (by omega) (by omega)) ?_
                rw [e1]
            · refine ⟨-2, z_si h 61 0 0, cpre _ ((if_neg c0).trans (if_neg c1)), ?_, I.m⟩
              have nz : ¬ ((0 : Int32) ≤ z ∧ z ≤ 1) := fun q => by
                obtain ⟨w, hw, rfl⟩ := nI_of2 (x := z) (M := 1) (n := 1) rfl (Int32.not_lt.mpr q.1) q.2
                have : w = 0 ∨ w = 1 := by omega
                rcases this with rfl | rfl
                · exact c0 rfl
                · exact c1 rfl
              unfold f_X10_moved
              refine gdE (yg61 H) (bnd (yP61 H 0 0) (bnd it ?_))
              refine (if_neg z1).trans (bnd o4 (bnd (e_in_t ik.1 ik.2) ?_))
              refine (if_neg z1).trans (bnd (e_in_f nz) ?_)
              exact if_pos rfl
      · intro rec i hi hp
        have hp := of_decide_eq_true hp
        unfold f_X10_moved_l1
        refine ltE (bnd o4 ?_)
        refine (if_neg (nI_ge hi (by omega))).trans (bnd (l2 i hi) ?_)
        exact if_pos (by rw [hp])
      · intro rec i hi hp
        have hp := of_decide_eq_false hp
        have c1 := cn_le (p := fun j => decide (mvm A s j < mvm A s i)) (mc A s)
        unfold f_X10_moved_l1
        refine ltE (bnd o4 ?_)
        refine (if_neg (nI_ge hi (by omega))).trans (bnd (l2 i hi) ?_)
        refine (if_neg (fun e => hp ((nI_eq (by omega) (by omega)).mp e))).trans ?_
        rw [nI_1]
      · intro rec
        unfold f_X10_moved_l1
        refine ltE (bnd o4 ?_)
        exact if_pos (nI_le (Nat.le_refl _) (by omega))
    · refine ⟨-2, z_si h 61 0 0, ?_, ?_, I.m⟩
      · unfold f_X9_moved
        refine gdE (yg0 H) (bnd (yR0_0 H) (bnd (yR1_2 H) (bnd wt ?_)))
        refine (if_neg z1).trans ?_
        rcases hy with q | ⟨q1, q2⟩
        · exact if_pos q
        · refine (if_neg q1).trans ?_
          refine bnd (yR13_4 H) (bnd ((yA17 H (show s < 10 by omega)).trans (congrArg some t17)) ?_)
          exact if_neg (Int32.not_lt.mpr q2)
      · unfold f_X10_moved
        refine gdE (yg61 H) (bnd (yP61 H 0 0) (bnd it ?_))
        refine (if_neg z1).trans (bnd o4 (bnd (e_in_f (in_f (by omega) hy)) ?_))
        exact if_pos rfl
  · refine ⟨-2, z_si h 61 0 0, ?_, ?_, I.m⟩
    · unfold f_X9_moved
      refine gdE (yg0 H) (bnd (yR0_0 H) (bnd (yR1_2 H) (bnd (c_has_f C hx) ?_)))
      exact if_pos rfl
    · unfold f_X10_moved
      refine gdE (yg61 H) (bnd (yP61 H 0 0) (bnd (e_isS_f (h := z_si h 61 0 0) H1 hN1 (by rw [e1]; exact hx)) ?_))
      exact if_pos rfl
/-! whom two have in common -/
theorem up_root {A : Nat → Int32} (hN : VN A) (hM : ∀ t, t < nn A → VM A t) (hT : VT A) {m t : Nat} (hm : m ≤ 99) (ht : t < nn A) : ∃ k, k < nn A ∧ upk (pr A m) k t = some 0 := by
  have ac := hT.ac hN hM hm
  have hx : (fnd (fun k => decide (upk (pr A m) k t = none)) 0 (nn A + 1)).isSome = true := fnd_is.mpr ⟨nn A, by omega, decide_eq_true (ac.2 t ht)⟩
  cases hf : fnd (fun k => decide (upk (pr A m) k t = none)) 0 (nn A + 1) with
  | none => rw [hf] at hx; cases hx
  | some l =>
    obtain ⟨-, f2, f3, f4⟩ := fnd_some _ _ _ hf
    have f3 := of_decide_eq_true f3
    cases l with
    | zero => cases f3
    | succ l =>
      have hl := of_decide_eq_false (f4 l (by omega) (by omega))
      cases hu : upk (pr A m) l t with
      | none => exact absurd hu hl
      | some p =>
        have hp := ac.lt ht hu
        rw [upk_next, hu] at f3
        have f3 : pr A m p = none := f3
        rcases pr_spec (hM p hp) hp hN (show m < 1000 by omega) with ⟨q, -⟩ | ⟨p', -, -, -, q, -⟩
        · exact ⟨l, by omega, by rw [hu, q]⟩
        · rw [q] at f3
          cases f3
theorem e_isAt {h : Z_H} (H : LY h) {A : Nat → Int32} (eA : z_i h 62 = A) (hN : VN A) {s : Nat} (hs : s < nn A) (hC : VC A s) {z : Int32} : f_X10_isAt h 61 (nI s) z = some (if nI (jo A s) ≤ z ∧ z ≤ nI (lastN A) then 1 else 0) := by
  have h10 := hN.2.1
  have o0 := e_os0 (s := s) H (by omega)
  rw [eA, hC.1] at o0
  obtain ⟨n1, n2⟩ := e_last H eA hN
  unfold f_X10_isAt
  refine gdE (yg61 H) (bnd (e_isS_t H (by rw [eA]; exact hN) (by rw [eA]; exact hs)) ?_)
  refine (if_neg (show ¬ (1 : Int32) = 0 by decide)).trans (bnd o0 (bnd n1 (bnd n2 (bnd e_in ?_))))
  by_cases c : nI (jo A s) ≤ z ∧ z ≤ nI (lastN A)
  · rw [if_pos c, if_neg (by decide)]
  · rw [if_neg c, if_pos rfl]
theorem op_common {h : Z_H} (I : Inv h) {x y z : Int32} : ∃ r h1 h2, f_X9_common h 0 x y z = some (r, h1) ∧ f_X10_common h1 61 x y z = some (r, h2) ∧ Inv h2 := by
  have H := I.1
  have C := I.ca
  have hv := I.v
  have L : LK (cl h) (z_i h 62) := I.2.1.lk
  have h14 := I.2.2.1
  generalize eA : z_i h 62 = A at *
  have hN := hv.1
  have h10 := hN.2.1
  have h99 := hN.2.2.2.1
  have hl99 : lastN A ≤ 99 := by unfold lastN; omega
  have H1 : LY (z_si h 61 0 0) := H
  have e1 : z_i (z_si h 61 0 0) 62 = A := by rw [m62, eA]
  have hN1 : VN (z_i (z_si h 61 0 0) 62) := by rw [e1]; exact hN
  have z1 : ¬ (1 : Int32) = 0 := by decide
  have no : f_X9_common h 0 x y z = some (-1, h) → (f_X10_isAt (z_si h 61 0 0) 61 x z = some 0 ∨ (f_X10_isAt (z_si h 61 0 0) 61 x z = some 1 ∧ f_X10_isAt (z_si h 61 0 0) 61 y z = some 0)) → ∃ r h1 h2, f_X9_common h 0 x y z = some (r, h1) ∧ f_X10_common h1 61 x y z = some (r, h2) ∧ Inv h2 := fun c1 c2 => by
    refine ⟨-1, h, z_si h 61 0 0, c1, ?_, I.m⟩
    unfold f_X10_common
    refine gdE (yg61 H) (bnd (yP61 H 0 0) ?_)
    rcases c2 with c2 | ⟨c2, c3⟩
    · exact bnd c2 (if_pos rfl)
    · exact bnd c2 ((if_neg z1).trans (bnd c3 (if_pos rfl)))
  have isF : ∀ x, (x < 0 ∨ (¬ x < 0 ∧ nI (nn A) ≤ x)) → f_X10_isAt (z_si h 61 0 0) 61 x z = some 0 := fun x hx => by
    unfold f_X10_isAt
    refine gdE (yg61 H1) (bnd (e_isS_f H1 hN1 (by rw [e1]; exact hx)) ?_)
    exact if_pos rfl
  rcases nI_or (x := x) (n := nn A) (by omega) with ⟨a, ha, rfl⟩ | ⟨-, hx⟩
  · have iA := e_isAt (z := z) H1 e1 hN ha (hv.2.1 a ha)
    have ja : z_i h 14 a = nI (jo A a) := (I.2.1.2.1.2.2 a (by rw [eA]; exact ha)).1.trans (by rw [eA]; exact (hv.2.1 a ha).1)
    rcases nI_or (x := y) (n := nn A) (by omega) with ⟨b, hb, rfl⟩ | ⟨-, hy⟩
    · have iB := e_isAt (z := z) H1 e1 hN hb (hv.2.1 b hb)
      have jb : z_i h 14 b = nI (jo A b) := (I.2.1.2.1.2.2 b (by rw [eA]; exact hb)).1.trans (by rw [eA]; exact (hv.2.1 b hb).1)
      have cpre : ∀ R, (if z ≤ nI (lastN A) then (if z < nI (jo A a) then (some ((-1), h)) else (if nI (jo A b) ≤ z then ((gR h 0 9 3).bind fun r10 => (gR h 0 9 0).bind fun r11 => (f_X6_look h r10 r11 z).bind fun h12 => (lp (f_X9_common_l1 0 (nI b) h12) FU (nI a, 0)).bind fun t => (match t with | (.inl v15) => (some (v15, h12)) | (.inr _) => (some ((-1), h12)))) else (some ((-1), h)))) else (some ((-1), h))) = some R → f_X9_common h 0 (nI a) (nI b) z = some R := fun R hR => by
        unfold f_X9_common
        refine gdE (yg0 H) (bnd (yR0_0 H) (bnd (yR1_2 H) (bnd (c_has_t C ha) ?_)))
        refine (if_neg z1).trans (bnd (c_has_t C hb) ?_)
        refine (if_neg z1).trans (bnd (c_last C) ?_)
        by_cases c1 : z ≤ nI (lastN A)
        · rw [if_pos c1] at hR
          refine (if_pos c1).trans (bnd (yR13_1 H) (bnd ((yA14 H (show a < 10 by omega)).trans (congrArg some ja)) ?_))
          by_cases c2 : z < nI (jo A a)
          · rw [if_pos c2] at hR
            exact (if_pos c2).trans hR
          · rw [if_neg c2] at hR
            refine (if_neg c2).trans (bnd (yR13_1 H) (bnd ((yA14 H (show b < 10 by omega)).trans (congrArg some jb)) ?_))
            exact hR
        · rw [if_neg c1] at hR
          exact (if_neg c1).trans hR
      by_cases c1 : z ≤ nI (lastN A)
      · by_cases c2 : nI (jo A a) ≤ z
        · by_cases c3 : nI (jo A b) ≤ z
          · obtain ⟨m, hm0, rfl⟩ := nI_of (x := z) (fun q => nI_pos (show jo A a < 2 ^ 31 by have := (hv.2.1 a ha).2.1; omega) (Int32.lt_of_le_of_lt c2 q))
            have hja := (hv.2.1 a ha).2.1
            have hjb := (hv.2.1 b hb).2.1
            have hm : m ≤ lastN A := (nI_leI (by omega) (by omega)).mp c1
            have hma : jo A a ≤ m := (nI_leI (by omega) (by omega)).mp c2
            have hmb : jo A b ≤ m := (nI_leI (by omega) (by omega)).mp c3
            have hm99 : m ≤ 99 := by omega
            obtain ⟨g, p1, p2, p3, p4⟩ := c_look H hm99 L
            have G := p2.ly H
            have hO := L.ok hm99
            have ac : ACy (pr A m) (nn A) := hO.2.1
            -- the first that is above both
            let pk : Nat → Bool := fun k => match upk (pr A m) k a with
              | some u => (lv (pr A m) b u).isSome
              | none => false
            obtain ⟨ka, ka1, ka2⟩ := up_root hN hv.2.2.2.2.1 hv.2.2.2.2.2.1 hm99 ha
            obtain ⟨kb, kb1, kb2⟩ := up_root hN hv.2.2.2.2.1 hv.2.2.2.2.2.1 hm99 hb
            have hex : (fnd pk 0 (nn A)).isSome = true := fnd_is.mpr ⟨ka, ka1, by
              show (match upk (pr A m) ka a with | some u => (lv (pr A m) b u).isSome | none => false) = true
              rw [ka2]
              show (lv (pr A m) b 0).isSome = true
              rw [(lv_some ac hb (by omega)).mpr kb2]
              rfl⟩
            cases hf : fnd pk 0 (nn A) with
            | none => rw [hf] at hex; cases hex
            | some l =>
              obtain ⟨-, f2, f3, f4⟩ := fnd_some _ _ _ hf
              have f2 : l < nn A := by omega
              cases hu : upk (pr A m) l a with
              | none =>
                have f3 : (match upk (pr A m) l a with | some u => (lv (pr A m) b u).isSome | none => false) = true := f3
                rw [hu] at f3
                cases f3
              | some u =>
                have f3 : (match upk (pr A m) l a with | some u => (lv (pr A m) b u).isSome | none => false) = true := f3
                rw [hu] at f3
                have f3 : (lv (pr A m) b u).isSome = true := f3
                have hun := ac.lt ha hu
                have before : ∀ k, k < l → ∃ v, upk (pr A m) k a = some v ∧ v < nn A ∧ lv (pr A m) b v = none := fun k hk => by
                  cases hv' : upk (pr A m) k a with
                  | none =>
                    have := upk_mono hv' (show k ≤ l by omega)
                    rw [hu] at this
                    cases this
                  | some v =>
                    have f5 : (match upk (pr A m) k a with | some u => (lv (pr A m) b u).isSome | none => false) = false := f4 k (by omega) hk
                    rw [hv'] at f5
                    have f5 : (lv (pr A m) b v).isSome = false := f5
                    refine ⟨v, rfl, ac.lt ha hv', ?_⟩
                    cases hl : lv (pr A m) b v with
                    | none => rfl
                    | some _ => rw [hl] at f5; cases f5
                have bit : ∀ v, v < nn A → ∃ t, aI g 55 (nI v) = some t ∧ ((t >>> (nI b &&& 31)) &&& 1) = if (lv (pr A m) b v).isSome then 1 else 0 := fun v hvn => by
                  refine ⟨nI (bsN (inB (sc0 A m) v) (nn A)), (yA55 G (by omega)).trans (congrArg some (p4.2 v hvn).2.1), ?_⟩
                  rw [nI_tb (bsN_2048 (by omega)) (by omega), bsN_tb, decide_eq_true hb]
                  unfold inB
                  rw [show sT (sc0 A m) b = true from decide_eq_true hmb]
                  rfl
                have kc := lp_for (b := f_X9_common_l1 0 (nI b) g) (fun k (_ : Unit) => (pe (upk (pr A m) k a), nI k)) (fun _ _ => True) (fun _ w => w) (fun _ => some (.inl (nI u))) l ?_ (fun _ _ _ _ => trivial) ?_ l FU 0 () (by omega) (by unfold FU; omega) trivial
                · have kc' : lp (f_X9_common_l1 0 (nI b) g) FU (nI a, 0) = some (.inl (nI u)) := kc
                  have Im := (p2.qs.inv I).m
                  have e8 : z_i (z_si g 61 0 0) 62 = A := by rw [m62, p2.qs.a, eA]
                  obtain ⟨k2, b3, b4, b5, b7⟩ := e_laysMonth (h := z_si g 61 0 0) Im.1 e8 hN hv.2.1 (show m < 1000 by omega) (sp := fun t => pe (pr A m t)) (fun q t mw ht => by
                    have hMt := hv.2.2.2.2.1 t ht
                    have := e_sponsorAt0 (m := nI m) (s := t) (mw.ly Im.1) (by omega) (by rw [mw.a, e8]; exact hMt.1) (by rw [mw.a, e8]; exact hMt.2.1) (by rw [mw.2.2.2.2 14 (by omega), Im.2.2.1]; exact nI_m1 (by omega))
                    rw [this, mw.a, e8, sp_pe hMt ht hN (by omega)])
                  have K2 := b4.ly Im.1
                  have M : MTr k2 (nn A) (pr A m) := ⟨b7.2.1, by omega, fun t ht => (b7.2.2.2 t ht).1, fun t p ht e => ac.1 t p ht e⟩
                  have km := lp_for (b := f_X10_common_l1 61 (nI b) k2) (fun k (_ : Unit) => pe (upk (pr A m) k a)) (fun _ _ => True) (fun _ w => w) (fun _ => some (nI u)) l ?_ (fun _ _ _ _ => trivial) ?_ l FU 0 () (by omega) (by unfold FU; omega) trivial
                  · have km' : lp (f_X10_common_l1 61 (nI b) k2) FU (nI a) = some (nI u) := km
                    refine ⟨nI u, g, k2, cpre _ ?_, ?_, b4.qs.inv Im⟩
                    · refine (if_pos c1).trans ((if_neg (Int32.not_lt.mpr c2)).trans ((if_pos c3).trans ?_))
                      exact bnd (yR0_3 H) (bnd (yR0_0 H) (bnd p1 (bnd kc' rfl)))
                    · have iA8 := e_isAt (z := nI m) Im.1 e8 hN ha (hv.2.1 a ha)
                      rw [if_pos ⟨c2, c1⟩] at iA8
                      have iB8 := e_isAt (z := nI m) Im.1 e8 hN hb (hv.2.1 b hb)
                      rw [if_pos ⟨c3, c1⟩] at iB8
                      unfold f_X10_common
                      refine gdE (yg61 G) (bnd (yP61 G 0 0) (bnd iA8 ?_))
                      refine (if_neg z1).trans (bnd iB8 ?_)
                      refine (if_neg z1).trans (bnd b3 (bnd km' ?_))
                      rfl
                  · intro rec k w hk _
                    obtain ⟨v, v1, v2, v3⟩ := before k hk
                    have st := e_stepsT K2 M ac hb (show v < 1000 by omega)
                    rw [v3] at st
                    have st : f_X10_stepsUp k2 61 (nI b) (nI v) = some (-1) := st
                    have e66 : aI k2 66 (nI v) = some (pe (upk (pr A m) (k + 1) a)) := by
                      rw [yA66 K2 (by omega), M.2.2.1 v v2, upk_next, v1]
                      rfl
                    rw [v1]
                    unfold f_X10_common_l1
                    refine ltE (bnd st ?_)
                    refine (if_neg (by decide)).trans (bnd (yR61_17 K2) (bnd e66 ?_))
                    rfl
                  · intro rec w _
                    have st := e_stepsT K2 M ac hb (show u < 1000 by omega)
                    cases hl : lv (pr A m) b u with
                    | none => rw [hl] at f3; cases f3
                    | some d =>
                      have hd := (fnd_some _ _ _ hl).2.1
                      rw [hl] at st
                      have st : f_X10_stepsUp k2 61 (nI b) (nI u) = some (nI d) := st
                      rw [hu]
                      unfold f_X10_common_l1
                      refine ltE (bnd st ?_)
                      exact if_pos (nI_pos' (by omega))
                · intro rec k w hk _
                  obtain ⟨v, v1, v2, v3⟩ := before k hk
                  obtain ⟨t, t1, t2⟩ := bit v v2
                  rw [v3] at t2
                  have e51 : aI g 51 (nI v) = some (pe (upk (pr A m) (k + 1) a)) := by
                    rw [yA51 G (by omega), (p3.2.2.2.2 v v2).1, upk_next, v1]
                    rfl
                  rw [v1]
                  unfold f_X9_common_l1
                  refine (if_neg (show ¬ (10 : Int32) ≤ nI k from nI_ge (b := 10) (by omega) (by omega))).trans ?_
                  refine (if_neg (show ¬ pe (some v) = -1 from nI_m1 (by omega))).trans ?_
                  refine bnd (yR0_3 G) (bnd (yR50_4 G) (bnd t1 ?_))
                  refine (if_neg (by rw [t2]; decide)).trans ?_
                  refine bnd (yR0_3 G) (bnd (yR50_0 G) (bnd e51 ?_))
                  rw [nI_1]
                · intro rec w _
                  obtain ⟨t, t1, t2⟩ := bit u hun
                  rw [f3] at t2
                  rw [hu]
                  unfold f_X9_common_l1
                  refine (if_neg (show ¬ (10 : Int32) ≤ nI l from nI_ge (b := 10) (by omega) (by omega))).trans ?_
                  refine (if_neg (show ¬ pe (some u) = -1 from nI_m1 (by omega))).trans ?_
                  refine bnd (yR0_3 G) (bnd (yR50_4 G) (bnd t1 ?_))
                  exact if_pos t2
          · refine no (cpre _ ?_) (Or.inr ⟨?_, ?_⟩)
            · exact (if_pos c1).trans ((if_neg (Int32.not_lt.mpr c2)).trans (if_neg c3))
            · rw [iA, if_pos ⟨c2, c1⟩]
            · rw [iB, if_neg (fun q => c3 q.1)]
        · refine no (cpre _ ?_) (Or.inl ?_)
          · exact (if_pos c1).trans (if_pos (Int32.not_le.mp c2))
          · rw [iA, if_neg (fun q => c2 q.1)]
      · refine no (cpre _ ?_) (Or.inl ?_)
        · exact if_neg c1
        · rw [iA, if_neg (fun q => c1 q.2)]
    · refine no ?_ ?_
      · unfold f_X9_common
        refine gdE (yg0 H) (bnd (yR0_0 H) (bnd (yR1_2 H) (bnd (c_has_t C ha) ?_)))
        refine (if_neg z1).trans (bnd (c_has_f C hy) ?_)
        exact if_pos rfl
      · by_cases c : nI (jo A a) ≤ z ∧ z ≤ nI (lastN A)
        · rw [if_pos c] at iA
          exact Or.inr ⟨iA, isF y hy⟩
        · rw [if_neg c] at iA
          exact Or.inl iA
  · refine no ?_ (Or.inl (isF x hx))
    unfold f_X9_common
    refine gdE (yg0 H) (bnd (yR0_0 H) (bnd (yR1_2 H) (bnd (c_has_f C hx) ?_)))
    exact if_pos rfl
