/-! rank, opens -/
theorem VP_rk {K K' : Nat → Int32} (h : VP K) {r0 : Nat} (e : ∀ j, 3 ≤ j → j < 144 → j ≠ 7 + r0 → j ≠ 11 + r0 → j ≠ 15 + r0 → K' j = K j) (hr : r0 < 4) (k7 : isN (K' (7 + r0)) 9999) (k11 : isN (K' (11 + r0)) 4) (k15 : isN (K' (15 + r0)) 5) : VP K' := by
  obtain ⟨a, b, c, d, r, l⟩ := h
  refine ⟨by rw [e 3 (by omega) (by omega) (by omega) (by omega) (by omega)]; exact a, by rw [e 4 (by omega) (by omega) (by omega) (by omega) (by omega)]; exact b, by rw [e 5 (by omega) (by omega) (by omega) (by omega) (by omega)]; exact c, by rw [e 6 (by omega) (by omega) (by omega) (by omega) (by omega)]; exact d, fun x hx => ?_, fun x hx => VF_congr (fun j hj => e _ (by omega) (by omega) (by omega) (by omega) (by omega)) (l x hx)⟩
  by_cases q : x = r0
  · rw [q]
    exact ⟨k7, k11, k15⟩
  · rw [e (7 + x) (by omega) (by omega) (by omega) (by omega) (by omega), e (11 + x) (by omega) (by omega) (by omega) (by omega) (by omega), e (15 + x) (by omega) (by omega) (by omega) (by omega) (by omega)]
    exact r x hx
theorem rk_ln {T : Nat → Int32} {n N : Nat} {Kf Pf Vf : Nat → Int32} {q : Nat → Nat} (t : TS T n N Kf Pf Vf q) {g w : Z_H} {i : Nat} (R : REL g w T n N Kf Pf Vf q i) : ∃ g2, f_X4_readRank g 35 = some g2 ∧ CW g g2 ∧ ((∃ w1, f_X10_takes w 61 0 1 3 = some (0, w1) ∧ MF w w1 ∧ BR g2 N (z_i w1 61 9)) ∨ (∃ w1 w2, f_X10_takes w 61 0 1 3 = some (1, w1) ∧ f_X10_takes w1 61 1 0 9999 = some (0, w2) ∧ MF w w2 ∧ BR g2 N (z_i w2 61 9)) ∨ (∃ w1 w2 w3, f_X10_takes w 61 0 1 3 = some (1, w1) ∧ f_X10_takes w1 61 1 0 9999 = some (1, w2) ∧ f_X10_takes w2 61 2 0 4 = some (0, w3) ∧ MF w w3 ∧ BR g2 N (z_i w3 61 9)) ∨ (∃ w1 w2 w3 a b c, f_X10_takes w 61 0 1 3 = some (1, w1) ∧ f_X10_takes w1 61 1 0 9999 = some (1, w2) ∧ f_X10_takes w2 61 2 0 4 = some (1, w3) ∧ 1 ≤ a ∧ a ≤ 3 ∧ b ≤ 9999 ∧ c ≤ 4 ∧ z_i w3 65 = upd (upd (upd (z_i w 65) 0 (nI a)) 1 (nI b)) 2 (nI c) ∧ z_i w3 64 = z_i w 64 ∧ MF w w3 ∧ REL g2 w3 T n N Kf Pf Vf q (i + 3) ∧ i + 2 < N ∧ (z_i g2 35 9 = 0 → z_i g 35 9 = 0) ∧ z_i g2 37 = upd (z_i g 37) a (nI b) ∧ z_i g2 38 = upd (z_i g 38) a (nI c) ∧ ∀ o, o ≠ 35 → o ≠ 37 → o ≠ 38 → z_i g2 o = z_i g o)) := by
  have G := R.1.1.1
  have hN : z_i g 47 N = 0 := (R.1.2 N (Nat.le_refl _)).1.trans t.2.2.2.2
  have s38 : ∀ {h : Z_H} (H : LY h) {k : Nat} {v : Int32} (hk : k < 4), sI h 38 (nI k) v = some (z_si h 38 k v) := fun H _ _ hk => H.xsI rfl rfl rfl hk
  obtain ⟨a, g1, ok1, w1, c1, d1, nm1, mf1, k641, res1⟩ := num_tk t R (x := 0) (lo := 1) (hi := 3) (by omega) (by omega) (by omega)
  have a3 := nm1.2.2.1
  have a1 := nm1.2.1
  have G1 := nm1.1.ly G
  have cw1 : CW g g1 := CW_on nm1.1 (by omega) (by omega)
  have whole : ∀ {b c : Nat} {h2 h3 : Z_H}, f_X4_number g1 35 0 9999 = some (nI b, h2) → LY h2 → f_X4_number (z_si h2 37 a (nI b)) 35 0 4 = some (nI c, h3) → LY h3 → f_X4_readRank g 35 = some (z_si h3 38 a (nI c)) := fun {b c h2 h3} e2 H2 e3 H3 => by
    unfold f_X4_readRank
    exact gdE (G.is rfl rfl) (bd2E c1 (bnd (yR35_0 G1) (bnd (yR36_4 G1) (bd2E e2 (bnd (yS37 H2 (by omega)) (bnd (a := 36) (yR35_0 H2) (bnd (a := 38) (yR36_5 H2) (bd2E e3 (bnd (s38 H3 (by omega)) rfl)))))))))
  rcases res1 with ⟨rfl, iN1, R1, k651, s91⟩ | ⟨rfl, b1⟩
  · obtain ⟨b, g2, ok2, w2, c2, d2, nm2, mf2, k642, res2⟩ := num_tk t R1 (x := 1) (lo := 0) (hi := 9999) (by omega) (by omega) (by omega)
    have G2 := nm2.1.ly G1
    have b9 := nm2.2.2.1
    have hN1 : z_i g1 47 N = 0 := (R1.1.2 N (Nat.le_refl _)).1.trans t.2.2.2.2
    have cw2 : CW g (z_si g2 37 a (nI b)) := (cw1.tr (CW_on nm2.1 (by omega) (by omega))).tr (CW_si (by omega) (by omega))
    rcases res2 with ⟨rfl, iN2, R2, k652, s92⟩ | ⟨rfl, b2⟩
    · have R2' := R2.draft (a := 37) (k := a) (v := nI b) (by omega) (by omega)
      obtain ⟨c, g3, ok3, w3, c3, d3, nm3, mf3, k643, res3⟩ := num_tk t R2' (x := 2) (lo := 0) (hi := 4) (by omega) (by omega) (by omega)
      have G3 : LY g3 := nm3.1.ly G2
      have hN2 : z_i (z_si g2 37 a (nI b)) 47 N = 0 := (R2'.1.2 N (Nat.le_refl _)).1.trans t.2.2.2.2
      refine ⟨z_si g3 38 a (nI c), whole c2 G2 c3 G3, (cw2.tr (CW_on nm3.1 (by omega) (by omega))).tr (CW_si (by omega) (by omega)), ?_⟩
      rcases res3 with ⟨rfl, iN3, R3, k653, s93⟩ | ⟨rfl, b3⟩
      · refine Or.inr (Or.inr (Or.inr ⟨w1, w2, w3, a, b, c, d1, d2, d3, a1, a3, b9, nm3.2.2.1, by rw [k653, k652, k651], k643.trans (k642.trans k641), (mf1.tr mf2).tr mf3, R3.draft (by omega) (by omega), iN3, fun h => ?_, ?_, ?_, fun o h1 h2 h3 => ?_⟩))
        · rw [z_si_o (by omega)] at h
          have h' := s93 h
          rw [z_si_o (by omega)] at h'
          exact s91 (s92 h')
        · rw [z_si_o (by omega), nm3.1.2.2.2 37 (by omega) (by omega), z_si_i, nm2.1.2.2.2 37 (by omega) (by omega), nm1.1.2.2.2 37 (by omega) (by omega)]
        · rw [z_si_i, nm3.1.2.2.2 38 (by omega) (by omega), z_si_o (by omega), nm2.1.2.2.2 38 (by omega) (by omega), nm1.1.2.2.2 38 (by omega) (by omega)]
        · rw [z_si_o h3, nm3.1.2.2.2 o h1 h1, z_si_o h2, nm2.1.2.2.2 o h1 h1, nm1.1.2.2.2 o h1 h1]
      · obtain ⟨i', r', -, -⟩ := nm3.rds R2'.1.1 hN2
        exact Or.inr (Or.inr (Or.inl ⟨w1, w2, w3, d1, d2, d3, (mf1.tr mf2).tr mf3, BR.si ⟨⟨i', r'⟩, by rw [nm3.1.2.2.2 47 (by omega) (by omega)]; exact hN2, b3.1, by rw [← b3.1]; exact b3.2⟩ (by omega) (by omega)⟩))
    · obtain ⟨i', r', -, -⟩ := nm2.rds R1.1.1 hN1
      have B2 : BR (z_si g2 37 a (nI b)) N (z_i w2 61 9) := BR.si ⟨⟨i', r'⟩, by rw [nm2.1.2.2.2 47 (by omega) (by omega)]; exact hN1, b2.1, by rw [← b2.1]; exact b2.2⟩ (by omega) (by omega)
      obtain ⟨c, g3, e3, -, -, B3, cw3, on3⟩ := B2.number (lo := 0) (hi := 4) (by omega) (by omega)
      exact ⟨z_si g3 38 a (nI c), whole c2 G2 e3 (on3.ly G2), (cw2.tr cw3).tr (CW_si (by omega) (by omega)), Or.inr (Or.inl ⟨w1, w2, d1, d2, mf1.tr mf2, B3.si (by omega) (by omega)⟩)⟩
  · obtain ⟨i', r', -, -⟩ := nm1.rds R.1.1 hN
    have B1 : BR g1 N (z_i w1 61 9) := ⟨⟨i', r'⟩, by rw [nm1.1.2.2.2 47 (by omega) (by omega)]; exact hN, b1.1, by rw [← b1.1]; exact b1.2⟩
    obtain ⟨b, g2, e2, -, -, B2, cw2, on2⟩ := B1.number (lo := 0) (hi := 9999) (by omega) (by omega)
    have G2 := on2.ly G1
    obtain ⟨c, g3, e3, -, -, B3, cw3, on3⟩ := (B2.si (a := 37) (k := a) (v := nI b) (by omega) (by omega)).number (lo := 0) (hi := 4) (by omega) (by omega)
    exact ⟨z_si g3 38 a (nI c), whole e2 G2 e3 (on3.ly G2), (((cw1.tr cw2).tr (CW_si (by omega) (by omega))).tr cw3).tr (CW_si (by omega) (by omega)), Or.inl ⟨w1, d1, mf1, B3.si (by omega) (by omega)⟩⟩
