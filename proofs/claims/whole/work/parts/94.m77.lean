/-! a node of a form, on both sides -/
theorem REL.r65 {g w : Z_H} {T : Nat → Int32} {n N : Nat} {Kf Pf Vf : Nat → Int32} {q : Nat → Nat} {i : Nat} (R : REL g w T n N Kf Pf Vf q i) {k : Nat} {v : Int32} : REL g (z_si w 65 k v) T n N Kf Pf Vf q i := by
  have e : z_i (z_si w 65 k v) 61 = z_i w 61 := z_si_o (by omega)
  obtain ⟨c, ⟨m, w3, w5, mt⟩, sl, e8⟩ := R
  refine ⟨c, ⟨m.mf MF_65, by rw [e]; exact w3, by rw [e]; exact w5, ?_⟩, by rw [e]; exact sl, e8⟩
  unfold MT at *
  rw [e]
  exact mt
theorem SL.to {f u f' u' Pf : Nat → Int32} {i i' : Nat} (s : SL f u Pf i) (a : f' 9 = f 9) (b : f' 10 = f 10) (c : u' 10 = u 10) (d : u' 11 = u 11) (hi : i ≤ i') : SL f' u' Pf i' := by
  unfold SL at *
  rw [a, b, c, d]
  obtain ⟨s1, s2 | ⟨s3, s4, j, s5, s6⟩⟩ := s
  · exact ⟨s1, Or.inl s2⟩
  · exact ⟨s1, Or.inr ⟨s3, s4, j, by omega, s6⟩⟩
theorem MT.wd {w : Z_H} {K v : Int32} (m : MT w K v) (h : 4 ≤ K) : z_i w 61 6 = 2 ∧ K = wkd (z_l w 61 8) z_wrds := by
  rcases m with ⟨a, -⟩ | ⟨a, -⟩ | ⟨a, -⟩ | ⟨a, -⟩ | m
  · rw [a] at h; exact absurd h (by decide)
  · rw [a] at h; exact absurd h (by decide)
  · rw [a] at h; exact absurd h (by decide)
  · rw [a] at h; exact absurd h (by decide)
  · exact m
theorem MT.nw {w : Z_H} {K v : Int32} (m : MT w K v) : (z_i w 61 6 = 2 ∧ K = wkd (z_l w 61 8) z_wrds) ∨ (z_i w 61 6 ≠ 2 ∧ ¬ 4 ≤ K) := by
  rcases m with ⟨a, b⟩ | ⟨a, b⟩ | ⟨a, b⟩ | ⟨a, b, -⟩ | m
  · exact Or.inr ⟨by rw [b]; decide, by rw [a]; decide⟩
  · exact Or.inr ⟨by rw [b]; decide, by rw [a]; decide⟩
  · exact Or.inr ⟨by rw [b]; decide, by rw [a]; decide⟩
  · exact Or.inr ⟨by rw [b]; decide, by rw [a]; decide⟩
  · exact Or.inl m
theorem nd_nm {T : Nat → Int32} {n N : Nat} {Kf Pf Vf : Nat → Int32} {q : Nat → Nat} (t : TS T n N Kf Pf Vf q) {g w : Z_H} {i : Nat} (R : REL g w T n N Kf Pf Vf q i) {k : Nat} (h1 : 11 ≤ k) (h2 : k ≤ 17) (z1 : z_i w 65 1 = 0) (z2 : z_i w 65 2 = 0) : ∃ a b g2, (∀ (C : Int32 → Int32 → Z_H → Option Z_H), (jn (fun ((y7, h8) : Int32 × Z_H) => jn (fun ((y10, h11) : Int32 × Z_H) => C y7 y10 h11) (fun j12 => if (15 : Int32) ≤ nI k then (j12 (0, h8)) else (bd2 (f_X4_number h8 35 0 20) fun t15 h16 => j12 (t15, h16)))) (fun j9 => if nI k = 14 then (bd2 (f_X4_number g 35 0 99) fun t17 h18 => j9 (t17, h18)) else (j9 (0, g)))) = C (nI a) (nI b) g2) ∧ ON g g2 35 ∧ ((∃ w2 i2, (∀ D : Z_H → Option (Z_H ⊕ Z_H ⊕ (Int32 × Z_H)), (jn (fun (h20 : Z_H) => jn (fun (h22 : Z_H) => D h22) (fun j23 => if (3 : Int32) < nI (k - 11) then (j23 h20) else (bd2 (f_X10_takes h20 61 2 0 20) fun t39 h40 => if t39 = 0 then (some (.inr (.inl h40))) else (j23 h40)))) (fun j21 => if nI (k - 11) = 3 then (bd2 (f_X10_takes w 61 1 0 99) fun t41 h42 => if t41 = 0 then (some (.inr (.inl h42))) else (j21 h42)) else (j21 w))) = D w2) ∧ MF w w2 ∧ z_i w2 64 = z_i w 64 ∧ REL g2 w2 T n N Kf Pf Vf q i2 ∧ i ≤ i2 ∧ z_i w2 65 1 = nI a ∧ z_i w2 65 2 = nI b ∧ a ≤ 99 ∧ b ≤ 20 ∧ (z_i g2 35 9 = 0 → z_i g 35 9 = 0)) ∨ (∃ w2, (∀ D : Z_H → Option (Z_H ⊕ Z_H ⊕ (Int32 × Z_H)), (jn (fun (h20 : Z_H) => jn (fun (h22 : Z_H) => D h22) (fun j23 => if (3 : Int32) < nI (k - 11) then (j23 h20) else (bd2 (f_X10_takes h20 61 2 0 20) fun t39 h40 => if t39 = 0 then (some (.inr (.inl h40))) else (j23 h40)))) (fun j21 => if nI (k - 11) = 3 then (bd2 (f_X10_takes w 61 1 0 99) fun t41 h42 => if t41 = 0 then (some (.inr (.inl h42))) else (j21 h42)) else (j21 w))) = some (.inr (.inl w2))) ∧ MF w w2 ∧ BR g2 N (z_i w2 61 9))) := by
  have z10 : ¬ (1 : Int32) = 0 := by decide
  have hN : z_i g 47 N = 0 := (R.1.2 N (Nat.le_refl _)).1.trans t.2.2.2.2
  have k14 : nI k = 14 ↔ k = 14 := nI_eq (b := 14) (by omega) (by omega)
  have k3 : nI (k - 11) = 3 ↔ k - 11 = 3 := nI_eq (b := 3) (by omega) (by omega)
  have k15 : (15 : Int32) ≤ nI k ↔ 15 ≤ k := nI_leI (a := 15) (by omega) (by omega)
  have k3l : (3 : Int32) < nI (k - 11) ↔ 3 < k - 11 := nI_ltI (a := 3) (by omega) (by omega)
  by_cases c15 : 15 ≤ k
  · refine ⟨0, 0, g, fun C => jnE ((if_neg (fun e => absurd (k14.mp e) (by omega))).trans (jnE (if_pos (k15.mpr c15)))), TW.rf, Or.inl ⟨w, i, fun D => jnE ((if_neg (fun e => absurd (k3.mp e) (by omega))).trans (jnE (if_pos (k3l.mpr (by omega))))), MF.rf, rfl, R, Nat.le_refl _, z1, z2, by omega, by omega, id⟩⟩
  · by_cases c14 : k = 14
    · obtain ⟨a, g1, ok1, w1, e1, d1, nm1, mf1, k641, res1⟩ := num_tk t R (x := 1) (lo := 0) (hi := 99) (by omega) (by omega) (by omega)
      rcases res1 with ⟨rfl, iN1, R1, k651, s91⟩ | ⟨rfl, b1⟩
      · obtain ⟨b, g2, ok2, w2, e2, d2, nm2, mf2, k642, res2⟩ := num_tk t R1 (x := 2) (lo := 0) (hi := 20) (by omega) (by omega) (by omega)
        have hN1 : z_i g1 47 N = 0 := (R1.1.2 N (Nat.le_refl _)).1.trans t.2.2.2.2
        refine ⟨a, b, g2, fun C => jnE ((if_pos (k14.mpr c14)).trans (bd2E e1 (jnE ((if_neg (fun e => absurd (k15.mp e) c15)).trans (bd2E e2 rfl))))), nm1.1.tr nm2.1, ?_⟩
        rcases res2 with ⟨rfl, iN2, R2, k652, s92⟩ | ⟨rfl, b2⟩
        · refine Or.inl ⟨w2, i + 1 + 1, fun D => jnE ((if_pos (k3.mpr (by omega))).trans (bd2E d1 ((if_neg z10).trans (jnE ((if_neg (fun e => absurd (k3l.mp e) (by omega))).trans (bd2E d2 (if_neg z10))))))), mf1.tr mf2, k642.trans k641, R2, by omega, ?_, ?_, nm1.2.2.1, nm2.2.2.1, fun h => s91 (s92 h)⟩
          · rw [k652, upd_o (by omega), k651, upd_s]
          · rw [k652, upd_s]
        · obtain ⟨i', r', -, -⟩ := nm2.rds R1.1.1 hN1
          exact Or.inr ⟨w2, fun D => jnE ((if_pos (k3.mpr (by omega))).trans (bd2E d1 ((if_neg z10).trans (jnE ((if_neg (fun e => absurd (k3l.mp e) (by omega))).trans (bd2E d2 (if_pos rfl))))))), mf1.tr mf2, ⟨⟨i', r'⟩, by rw [nm2.1.2.2.2 47 (by omega) (by omega)]; exact hN1, b2.1, by rw [← b2.1]; exact b2.2⟩⟩
      · obtain ⟨i', r', -, -⟩ := nm1.rds R.1.1 hN
        have B1 : BR g1 N (z_i w1 61 9) := ⟨⟨i', r'⟩, by rw [nm1.1.2.2.2 47 (by omega) (by omega)]; exact hN, b1.1, by rw [← b1.1]; exact b1.2⟩
        obtain ⟨b, g2, e2, -, -, B2, -, on2⟩ := B1.number (lo := 0) (hi := 20) (by omega) (by omega)
        exact ⟨a, b, g2, fun C => jnE ((if_pos (k14.mpr c14)).trans (bd2E e1 (jnE ((if_neg (fun e => absurd (k15.mp e) c15)).trans (bd2E e2 rfl))))), nm1.1.tr on2, Or.inr ⟨w1, fun D => jnE ((if_pos (k3.mpr (by omega))).trans (bd2E d1 (if_pos rfl))), mf1, B2⟩⟩
    · obtain ⟨b, g2, ok2, w2, e2, d2, nm2, mf2, k642, res2⟩ := num_tk t R (x := 2) (lo := 0) (hi := 20) (by omega) (by omega) (by omega)
      refine ⟨0, b, g2, fun C => jnE ((if_neg (fun e => c14 (k14.mp e))).trans (jnE ((if_neg (fun e => absurd (k15.mp e) c15)).trans (bd2E e2 rfl)))), nm2.1, ?_⟩
      rcases res2 with ⟨rfl, iN2, R2, k652, s92⟩ | ⟨rfl, b2⟩
      · refine Or.inl ⟨w2, i + 1, fun D => jnE ((if_neg (fun e => absurd (k3.mp e) (by omega))).trans (jnE ((if_neg (fun e => absurd (k3l.mp e) (by omega))).trans (bd2E d2 (if_neg z10))))), mf2, k642, R2, by omega, ?_, ?_, by omega, nm2.2.2.1, s92⟩
        · rw [k652, upd_o (by omega)]
          exact z1
        · rw [k652, upd_s]
      · obtain ⟨i', r', -, -⟩ := nm2.rds R.1.1 hN
        exact Or.inr ⟨w2, fun D => jnE ((if_neg (fun e => absurd (k3.mp e) (by omega))).trans (jnE ((if_neg (fun e => absurd (k3l.mp e) (by omega))).trans (bd2E d2 (if_pos rfl))))), mf2, ⟨⟨i', r'⟩, by rw [nm2.1.2.2.2 47 (by omega) (by omega)]; exact hN, b2.1, by rw [← b2.1]; exact b2.2⟩⟩
theorem nd_hd {T : Nat → Int32} {n N : Nat} {Kf Pf Vf : Nat → Int32} {q : Nat → Nat} (t : TS T n N Kf Pf Vf q) {g w : Z_H} {i : Nat} (R : REL g w T n N Kf Pf Vf q i) (iN : i < N) {v : Nat} (hv : v ≤ 600) (hs : 8 < v → z_i g 35 9 ≠ 0) : ∃ g2 w2, (∀ (C : Z_H → Option Z_H), (jn (fun (h4 : Z_H) => (f_X4_goOn h4 35).bind fun h6 => C h6) (fun j5 => if nI v < 8 then (j5 g) else ((f_X4_slipHere g 35 3).bind fun h19 => j5 h19))) = C g2) ∧ (∀ (D : Z_H → Option (Z_H ⊕ Z_H ⊕ (Int32 × Z_H))), (jn (fun (h13 : Z_H) => (f_X10_token h13 61).bind fun h15 => (gR h15 61 10 13).bind fun r16 => (sI h15 r16 1 0).bind fun h17 => (gR h17 61 10 13).bind fun r18 => (sI h17 r18 2 0).bind fun h19 => D h19) (fun j14 => if nI v = 8 then ((gI w 61 10 5).bind fun t43 => (f_X10_addsFault w 61 3 t43).bind fun h44 => j14 h44) else (j14 w))) = D w2) ∧ ON g g2 35 ∧ MF w w2 ∧ z_i w2 64 = z_i w 64 ∧ REL g2 w2 T n N Kf Pf Vf q (i + 1) ∧ z_i w2 65 1 = 0 ∧ z_i w2 65 2 = 0 ∧ (z_i g2 35 9 = 0 → z_i g 35 9 = 0 ∧ v < 8) := by
  obtain ⟨C, ⟨m, w3, w5, mt⟩, sl, e8⟩ := R
  have k48 := (C.2 i (by omega)).2.1
  have ltv : nI v < 8 ↔ v < 8 := nI_ltI (b := 8) (by omega) (by omega)
  have eqv : nI v = 8 ↔ v = 8 := nI_eq (b := 8) (by omega) (by omega)
  have st : ∃ g1 w1, (∀ j : Z_H → Option Z_H, (if nI v < 8 then (j g) else ((f_X4_slipHere g 35 3).bind fun h19 => j h19)) = j g1) ∧ (∀ j : Z_H → Option (Z_H ⊕ Z_H ⊕ (Int32 × Z_H)), (if nI v = 8 then ((gI w 61 10 5).bind fun t43 => (f_X10_addsFault w 61 3 t43).bind fun h44 => j h44) else (j w)) = j w1) ∧ ON g g1 35 ∧ M1A w w1 ∧ SL (z_i g1 35) (z_i w1 61) Pf (i + 1) ∧ (∀ k, k ≠ 9 → k ≠ 10 → z_i g1 35 k = z_i g 35 k) ∧ (z_i g1 35 9 = 0 → z_i g 35 9 = 0 ∧ v < 8) := by
    rcases Nat.lt_trichotomy v 8 with c | c | c
    · exact ⟨g, w, fun j => if_pos (ltv.mpr c), fun j => if_neg (fun e => absurd (eqv.mp e) (by omega)), TW.rf, ⟨TW.rf, fun _ _ _ => rfl⟩, sl.to rfl rfl rfl rfl (by omega), fun _ _ _ => rfl, fun h => ⟨h, c⟩⟩
    · obtain ⟨g1, s1, s2, s3⟩ := c_slip C.1 3
      rw [k48] at s3
      obtain ⟨w1, b1, b2, -, b4⟩ := e_adds t (w := w) m.1 (Nat.le_of_lt iN) (k := 3) (Or.inr rfl) (f := z_i g 35) sl
      have a5 : gI w 61 10 5 = some (Pf i) := (yI61 m.1 5).trans (congrArg some w5)
      refine ⟨g1, w1, fun j => (if_neg (fun e => absurd (ltv.mp e) (by omega))).trans (bnd s1 rfl), fun j => (if_pos (eqv.mpr c)).trans (bnd a5 (bnd b1 rfl)), s2, b2, by rw [s3]; exact b4, fun k h1 h2 => by rw [s3, slp_5 h1 h2], fun h => ?_⟩
      rw [s3] at h
      unfold slp at h
      by_cases c9 : z_i g 35 9 = 0
      · rw [if_pos c9, upd_o (by omega), upd_s] at h
        exact absurd h (by decide)
      · rw [if_neg c9] at h
        exact absurd h c9
    · have n9 := hs c
      refine ⟨g, w, fun j => (if_neg (fun e => absurd (ltv.mp e) (by omega))).trans (bnd (a := g) ?_ rfl), fun j => if_neg (fun e => absurd (eqv.mp e) (by omega)), TW.rf, ⟨TW.rf, fun _ _ _ => rfl⟩, sl.to rfl rfl rfl rfl (by omega), fun _ _ _ => rfl, fun h => absurd h n9⟩
      unfold f_X4_slipHere
      exact gdE (C.1.1.is rfl rfl) (bnd (yI35 C.1.1 9) (if_neg n9))
  obtain ⟨g1, w1, c1, d1, on1, ma, sl1, k35, s9⟩ := st
  have r1 : RDS g1 N i := ⟨on1.ly C.1.1, C.1.2.1, by rw [k35 5 (by omega) (by omega)]; exact C.1.2.2.1, by rw [k35 7 (by omega) (by omega)]; exact C.1.2.2.2.1, C.1.2.2.2.2⟩
  have on2 : ON g (z_si g1 35 7 (nI (i + 1))) 35 := on1.tr (TW_si (Or.inl rfl))
  have m1 := m.mf ma.mf
  obtain ⟨w2, b1, b2, b3⟩ := MR_next t (w := w1) (i := i) m1 ((ma.2 3 (by omega) (by omega)).trans w3) iN
  have W2 := b3.1.1
  have i35 : z_i (z_si g1 35 7 (nI (i + 1))) 35 = upd (z_i g1 35) 7 (nI (i + 1)) := z_si_i
  have R2 : REL (z_si g1 35 7 (nI (i + 1))) w2 T n N Kf Pf Vf q (i + 1) := ⟨C.to on2 (by rw [i35, upd_o (by omega), k35 5 (by omega) (by omega)]) (by rw [i35, upd_s]) iN, b3, sl1.to (by rw [i35, upd_o (by omega)]) (by rw [i35, upd_o (by omega)]) (b2.2.2.2.2 10 (by omega) (by omega) (by omega) (by omega)) (b2.2.2.2.2 11 (by omega) (by omega) (by omega) (by omega)) (Nat.le_refl _), by rw [i35, upd_o (by omega), k35 8 (by omega) (by omega)]; exact e8⟩
  have s65 : ∀ {h : Z_H} (H : LY h), sI h 65 1 0 = some (z_si h 65 1 0) ∧ sI h 65 2 0 = some (z_si h 65 2 0) := fun H => ⟨yS65 (k := 1) H (by omega), yS65 (k := 2) H (by omega)⟩
  refine ⟨z_si g1 35 7 (nI (i + 1)), z_si (z_si w2 65 1 0) 65 2 0, fun K => jnE ((c1 _).trans (bnd (c_goOn r1 iN) rfl)), fun D => jnE ((d1 _).trans (bnd b1 (bnd (a := 65) (yR61_13 W2) (bnd (s65 W2).1 (bnd (a := 65) (yR61_13 (h := z_si w2 65 1 0) W2) (bnd (s65 (h := z_si w2 65 1 0) W2).2 rfl)))))), on2, ((ma.mf.tr b2.mf).tr MF_65).tr MF_65, ?_, R2.r65.r65, ?_, ?_, fun h => s9 ?_⟩
  · rw [z_si_o (by omega), z_si_o (by omega), b2.2.2.2.1 64 (by omega)]
    exact ma.1.2.2.2 64 (by omega) (by omega)
  · rw [z_si_i, upd_o (by omega), z_si_i, upd_s]
  · rw [z_si_i, upd_s]
  · rw [i35, upd_o (by omega)] at h
    exact h
