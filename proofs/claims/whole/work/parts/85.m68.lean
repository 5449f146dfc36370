/-! the class reads -/
def slp (f : Nat → Int32) (k p : Int32) : Nat → Int32 := if f 9 = 0 then upd (upd f 9 k) 10 p else f
def brk (f : Nat → Int32) (p : Int32) : Nat → Int32 := if f 8 = -1 then upd f 8 p else f
def RDS (g : Z_H) (N i : Nat) : Prop := LY g ∧ N ≤ 600 ∧ z_i g 35 5 = nI N ∧ z_i g 35 7 = nI i ∧ i ≤ N
theorem RDS.a7 {g : Z_H} {N i : Nat} (r : RDS g N i) : gI g 35 4 7 = some (nI i) := (yI35 r.1 7).trans (congrArg some r.2.2.2.1)
theorem RDS.a5 {g : Z_H} {N i : Nat} (r : RDS g N i) : gI g 35 4 5 = some (nI N) := (yI35 r.1 5).trans (congrArg some r.2.2.1)
theorem RDS.k {g : Z_H} {N i : Nat} (r : RDS g N i) : aI g 47 (nI i) = some (z_i g 47 i) := yA47 r.1 (by have := r.2.1; have := r.2.2.2.2; omega)
theorem RDS.p {g : Z_H} {N i : Nat} (r : RDS g N i) : aI g 48 (nI i) = some (z_i g 48 i) := yA48 r.1 (by have := r.2.1; have := r.2.2.2.2; omega)
theorem RDS.v {g : Z_H} {N i : Nat} (r : RDS g N i) : aI g 49 (nI i) = some (z_i g 49 i) := yA49 r.1 (by have := r.2.1; have := r.2.2.2.2; omega)
theorem slp_5 {f : Nat → Int32} {k p : Int32} {j : Nat} (h1 : j ≠ 9) (h2 : j ≠ 10) : slp f k p j = f j := by
  unfold slp
  split
  · rw [upd_o h2, upd_o h1]
  · rfl
theorem brk_o {f : Nat → Int32} {p : Int32} {j : Nat} (h1 : j ≠ 8) : brk f p j = f j := by
  unfold brk
  split
  · rw [upd_o h1]
  · rfl
theorem c_goOn {g : Z_H} {N i : Nat} (r : RDS g N i) (hi : i < N) : f_X4_goOn g 35 = some (z_si g 35 7 (nI (i + 1))) := by
  have := r.2.1
  unfold f_X4_goOn
  refine gdE (r.1.is rfl rfl) (bnd r.a7 (bnd r.a5 ((if_neg (nI_ge hi (by omega))).trans (bnd r.a7 ?_))))
  rw [nI_1]
  exact bnd (yP35 r.1 7 _) rfl
theorem c_goOn_e {g : Z_H} {N : Nat} (r : RDS g N N) : f_X4_goOn g 35 = some g := by
  have := r.2.1
  unfold f_X4_goOn
  exact gdE (r.1.is rfl rfl) (bnd r.a7 (bnd r.a5 (if_pos (nI_le (Nat.le_refl _) (by omega)))))
theorem c_break {g : Z_H} {N i : Nat} (r : RDS g N i) : ∃ g', f_X4_breakOff g 35 = some g' ∧ ON g g' 35 ∧ z_i g' 35 = brk (z_i g 35) (z_i g 48 i) := by
  unfold brk
  by_cases c : z_i g 35 8 = -1
  · refine ⟨z_si g 35 8 (z_i g 48 i), ?_, TW_si (Or.inl rfl), by rw [if_pos c, z_si_i]⟩
    unfold f_X4_breakOff
    exact gdE (r.1.is rfl rfl) (bnd (yI35 r.1 8) ((if_pos c).trans (bnd (yR35_3 r.1) (bnd r.a7 (bnd r.p (bnd (yP35 r.1 8 _) rfl))))))
  · refine ⟨g, ?_, TW.rf, by rw [if_neg c]⟩
    unfold f_X4_breakOff
    exact gdE (r.1.is rfl rfl) (bnd (yI35 r.1 8) (if_neg c))
theorem c_slip {g : Z_H} {N i : Nat} (r : RDS g N i) (k : Int32) : ∃ g', f_X4_slipHere g 35 k = some g' ∧ ON g g' 35 ∧ z_i g' 35 = slp (z_i g 35) k (z_i g 48 i) := by
  unfold slp
  by_cases c : z_i g 35 9 = 0
  · let g1 := z_si g 35 9 k
    have r1 : RDS g1 N i := ⟨r.1, r.2.1, (show z_i (z_si g 35 9 k) 35 5 = nI N by rw [z_si_i, upd_o (by omega)]; exact r.2.2.1), (show z_i (z_si g 35 9 k) 35 7 = nI i by rw [z_si_i, upd_o (by omega)]; exact r.2.2.2.1), r.2.2.2.2⟩
    have p1 : aI g1 48 (nI i) = some (z_i g 48 i) := r1.p.trans (congrArg some (congrFun (z_si_o (by omega)) i))
    refine ⟨z_si g1 35 10 (z_i g 48 i), ?_, (TW_si (h := g) (k := 9) (v := k) (Or.inl rfl)).tr (TW_si (Or.inl rfl)), ?_⟩
    · unfold f_X4_slipHere
      exact gdE (r.1.is rfl rfl) (bnd (yI35 r.1 9) ((if_pos c).trans (bnd (yP35 r.1 9 k) (bnd (yR35_3 r1.1) (bnd r1.a7 (bnd p1 (bnd (yP35 r1.1 10 _) rfl)))))))
    · rw [if_pos c, z_si_i]
      show upd (z_i (z_si g 35 9 k) 35) 10 _ = _
      rw [z_si_i]
  · refine ⟨g, ?_, TW.rf, by rw [if_neg c]⟩
    unfold f_X4_slipHere
    exact gdE (r.1.is rfl rfl) (bnd (yI35 r.1 9) (if_neg c))
/-- a number is read -/
def NUM (g g' : Z_H) (i lo hi t : Nat) : Prop := ON g g' 35 ∧ lo ≤ t ∧ t ≤ hi ∧ ((z_i g 47 i = 3 ∧ z_i g 49 i = nI t ∧ z_i g' 35 = upd (z_i g 35) 7 (nI (i + 1))) ∨ (z_i g 47 i = 3 ∧ (¬ (nI lo ≤ z_i g 49 i ∧ z_i g 49 i ≤ nI hi)) ∧ t = lo ∧ z_i g' 35 = upd (slp (z_i g 35) 2 (z_i g 48 i)) 7 (nI (i + 1))) ∨ (z_i g 47 i ≠ 3 ∧ t = lo ∧ z_i g' 35 = brk (z_i g 35) (z_i g 48 i)))
theorem c_number {g : Z_H} {N i lo hi : Nat} (r : RDS g N i) (hN : z_i g 47 N = 0) (h1 : lo ≤ hi) (h2 : hi ≤ 9999) : ∃ t g', f_X4_number g 35 (nI lo) (nI hi) = some (nI t, g') ∧ NUM g g' i lo hi t := by
  by_cases c : z_i g 47 i = 3
  · have iN : i < N := by
      have := r.2.2.2.2
      rcases Nat.lt_or_ge i N with q | q
      · exact q
      · have e : i = N := by omega
        rw [e, hN] at c
        exact absurd c (by decide)
    have slips : (¬ (nI lo ≤ z_i g 49 i ∧ z_i g 49 i ≤ nI hi)) → ∃ t g', ((f_X4_slipHere g 35 2).bind fun h12 => (f_X4_goOn h12 35).bind fun h10 => some (nI lo, h10)) = some (nI t, g') ∧ NUM g g' i lo hi t := fun bad => by
      obtain ⟨g1, s1, s2, s3⟩ := c_slip r 2
      have r1 : RDS g1 N i := ⟨s2.ly r.1, r.2.1, by rw [s3, slp_5 (by omega) (by omega)]; exact r.2.2.1, by rw [s3, slp_5 (by omega) (by omega)]; exact r.2.2.2.1, r.2.2.2.2⟩
      refine ⟨lo, z_si g1 35 7 (nI (i + 1)), bnd s1 (bnd (c_goOn r1 iN) rfl), s2.tr (TW_si (Or.inl rfl)), Nat.le_refl _, h1, Or.inr (Or.inl ⟨c, bad, rfl, by rw [z_si_i, s3]⟩)⟩
    have head : ∀ (res : Option (Int32 × Z_H)), (jn (fun ((v7, h8) : Int32 × Z_H) => (f_X4_goOn h8 35).bind fun h10 => some (v7, h10)) (fun j9 => jn (fun (_ : Unit) => (f_X4_slipHere g 35 2).bind fun h12 => j9 (nI lo, h12)) (fun j11 => if z_i g 49 i < nI lo then (j11 ()) else (if z_i g 49 i ≤ nI hi then (j9 (z_i g 49 i, g)) else (j11 ()))))) = res → f_X4_number g 35 (nI lo) (nI hi) = res := fun res e => by
      unfold f_X4_number
      exact gdE (r.1.is rfl rfl) (bnd (yR35_2 r.1) (bnd r.a7 (bnd r.k ((if_pos c).trans (bnd (yR35_4 r.1) (bnd r.a7 (bnd r.v e)))))))
    by_cases a : z_i g 49 i < nI lo
    · obtain ⟨t, g', e1, e2⟩ := slips (fun q => absurd a (Int32.not_lt.mpr q.1))
      exact ⟨t, g', head _ (jnE (jnE ((if_pos a).trans e1))), e2⟩
    · by_cases b : z_i g 49 i ≤ nI hi
      · have a' := Int32.not_lt.mp a
        rcases nI_or (x := z_i g 49 i) (n := hi + 1) (by omega) with ⟨t, ht, et⟩ | ⟨-, q | ⟨q1, q2⟩⟩
        · refine ⟨t, z_si g 35 7 (nI (i + 1)), head _ (jnE (jnE ((if_neg a).trans ((if_pos b).trans ?_)))), TW_si (Or.inl rfl), ?_, by omega, Or.inl ⟨c, et, z_si_i⟩⟩
          · rw [← et]
            exact bnd (c_goOn r iN) rfl
          · rw [et] at a'
            rcases Nat.lt_or_ge t lo with z | z
            · exact absurd a' (nI_ge z (by omega))
            · exact z
        · have : (0 : Int32) ≤ z_i g 49 i := Int32.le_trans (nI_pos' (by omega)) a'
          exact absurd q (Int32.not_lt.mpr this)
        · have : nI (hi + 1) ≤ nI hi := Int32.le_trans q2 b
          exact absurd this (nI_ge (by omega) (by omega))
      · obtain ⟨t, g', e1, e2⟩ := slips (fun q => b q.2)
        exact ⟨t, g', head _ (jnE (jnE ((if_neg a).trans ((if_neg b).trans e1)))), e2⟩
  · obtain ⟨g', b1, b2, b3⟩ := c_break r
    refine ⟨lo, g', ?_, b2, Nat.le_refl _, h1, Or.inr (Or.inr ⟨c, rfl, b3⟩)⟩
    unfold f_X4_number
    exact gdE (r.1.is rfl rfl) (bnd (yR35_2 r.1) (bnd r.a7 (bnd r.k ((if_neg c).trans (bnd b1 rfl)))))
theorem NUM.rds {g g' : Z_H} {N i lo hi t : Nat} (m : NUM g g' i lo hi t) (r : RDS g N i) (hN : z_i g 47 N = 0) : ∃ i', RDS g' N i' ∧ i ≤ i' ∧ (z_i g 35 8 ≠ -1 → z_i g' 35 8 = z_i g 35 8) := by
  obtain ⟨m1, m2, m3, m4⟩ := m
  have iN : z_i g 47 i = 3 → i < N := fun c => by
    have := r.2.2.2.2
    rcases Nat.lt_or_ge i N with q | q
    · exact q
    · have e : i = N := by omega
      rw [e, hN] at c
      exact absurd c (by decide)
  rcases m4 with ⟨c, -, e⟩ | ⟨c, -, -, e⟩ | ⟨c, -, e⟩
  · exact ⟨i + 1, ⟨m1.ly r.1, r.2.1, by rw [e, upd_o (by omega)]; exact r.2.2.1, by rw [e, upd_s], iN c⟩, by omega, fun _ => by rw [e, upd_o (by omega)]⟩
  · exact ⟨i + 1, ⟨m1.ly r.1, r.2.1, by rw [e, upd_o (by omega), slp_5 (by omega) (by omega)]; exact r.2.2.1, by rw [e, upd_s], iN c⟩, by omega, fun _ => by rw [e, upd_o (by omega), slp_5 (by omega) (by omega)]⟩
  · refine ⟨i, ⟨m1.ly r.1, r.2.1, by rw [e, brk_o (by omega)]; exact r.2.2.1, by rw [e, brk_o (by omega)]; exact r.2.2.2.1, r.2.2.2.2⟩, Nat.le_refl _, fun q => ?_⟩
    rw [e]
    unfold brk
    rw [if_neg q]
