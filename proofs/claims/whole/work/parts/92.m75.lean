theorem op_ln {T : Nat → Int32} {n N : Nat} {Kf Pf Vf : Nat → Int32} {q : Nat → Nat} (t : TS T n N Kf Pf Vf q) {g w : Z_H} {i : Nat} (R : REL g w T n N Kf Pf Vf q i) : ∃ g2, f_X4_readOpens g 35 = some g2 ∧ CW g g2 ∧ ((∃ w1, f_X10_takes w 61 0 0 3 = some (0, w1) ∧ MF w w1 ∧ BR g2 N (z_i w1 61 9)) ∨ (∃ w1 w2, f_X10_takes w 61 0 0 3 = some (1, w1) ∧ f_X10_takes w1 61 1 0 5 = some (0, w2) ∧ MF w w2 ∧ BR g2 N (z_i w2 61 9)) ∨ (∃ w1 w2 a b, f_X10_takes w 61 0 0 3 = some (1, w1) ∧ f_X10_takes w1 61 1 0 5 = some (1, w2) ∧ a ≤ 3 ∧ b ≤ 5 ∧ z_i w2 65 = upd (upd (z_i w 65) 0 (nI a)) 1 (nI b) ∧ z_i w2 64 = z_i w 64 ∧ MF w w2 ∧ REL g2 w2 T n N Kf Pf Vf q (i + 2) ∧ i + 1 < N ∧ (z_i g2 35 9 = 0 → z_i g 35 9 = 0) ∧ z_i g2 39 = upd (z_i g 39) a (nI b) ∧ ∀ o, o ≠ 35 → o ≠ 39 → z_i g2 o = z_i g o)) := by
  have G := R.1.1.1
  have hN : z_i g 47 N = 0 := (R.1.2 N (Nat.le_refl _)).1.trans t.2.2.2.2
  have s39 : ∀ {h : Z_H} (H : LY h) {k : Nat} {v : Int32} (hk : k < 4), sI h 39 (nI k) v = some (z_si h 39 k v) := fun H _ _ hk => H.xsI rfl rfl rfl hk
  obtain ⟨a, g1, ok1, w1, c1, d1, nm1, mf1, k641, res1⟩ := num_tk t R (x := 0) (lo := 0) (hi := 3) (by omega) (by omega) (by omega)
  have a3 := nm1.2.2.1
  have G1 := nm1.1.ly G
  have cw1 : CW g g1 := CW_on nm1.1 (by omega) (by omega)
  have whole : ∀ {b : Nat} {h2 : Z_H}, f_X4_number g1 35 0 5 = some (nI b, h2) → LY h2 → f_X4_readOpens g 35 = some (z_si h2 39 a (nI b)) := fun {b h2} e2 H2 => by
    unfold f_X4_readOpens
    exact gdE (G.is rfl rfl) (bd2E c1 (bnd (yR35_0 G1) (bnd (yR36_6 G1) (bd2E e2 (bnd (s39 H2 (by omega)) rfl)))))
  rcases res1 with ⟨rfl, iN1, R1, k651, s91⟩ | ⟨rfl, b1⟩
  · obtain ⟨b, g2, ok2, w2, c2, d2, nm2, mf2, k642, res2⟩ := num_tk t R1 (x := 1) (lo := 0) (hi := 5) (by omega) (by omega) (by omega)
    have G2 := nm2.1.ly G1
    have hN1 : z_i g1 47 N = 0 := (R1.1.2 N (Nat.le_refl _)).1.trans t.2.2.2.2
    refine ⟨z_si g2 39 a (nI b), whole c2 G2, (cw1.tr (CW_on nm2.1 (by omega) (by omega))).tr (CW_si (by omega) (by omega)), ?_⟩
    rcases res2 with ⟨rfl, iN2, R2, k652, s92⟩ | ⟨rfl, b2⟩
    · refine Or.inr (Or.inr ⟨w1, w2, a, b, d1, d2, a3, nm2.2.2.1, by rw [k652, k651], k642.trans k641, mf1.tr mf2, R2.draft (by omega) (by omega), iN2, fun h => ?_, ?_, fun o h1 h2 => ?_⟩)
      · rw [z_si_o (by omega)] at h
        exact s91 (s92 h)
      · rw [z_si_i, nm2.1.2.2.2 39 (by omega) (by omega), nm1.1.2.2.2 39 (by omega) (by omega)]
      · rw [z_si_o h2, nm2.1.2.2.2 o h1 h1, nm1.1.2.2.2 o h1 h1]
    · obtain ⟨i', r', -, -⟩ := nm2.rds R1.1.1 hN1
      exact Or.inr (Or.inl ⟨w1, w2, d1, d2, mf1.tr mf2, BR.si ⟨⟨i', r'⟩, by rw [nm2.1.2.2.2 47 (by omega) (by omega)]; exact hN1, b2.1, by rw [← b2.1]; exact b2.2⟩ (by omega) (by omega)⟩)
  · obtain ⟨i', r', -, -⟩ := nm1.rds R.1.1 hN
    have B1 : BR g1 N (z_i w1 61 9) := ⟨⟨i', r'⟩, by rw [nm1.1.2.2.2 47 (by omega) (by omega)]; exact hN, b1.1, by rw [← b1.1]; exact b1.2⟩
    obtain ⟨b, g2, e2, -, -, B2, cw2, on2⟩ := B1.number (lo := 0) (hi := 5) (by omega) (by omega)
    exact ⟨z_si g2 39 a (nI b), whole e2 (on2.ly G1), (cw1.tr cw2).tr (CW_si (by omega) (by omega)), Or.inl ⟨w1, d1, mf1, B2.si (by omega) (by omega)⟩⟩
