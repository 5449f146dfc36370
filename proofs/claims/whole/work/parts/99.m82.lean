/-! clauses, on both sides, put together -/
theorem sc_j {A : Option Nat} {B : Option (Int32 × Z_H)} {P : Nat → Int32 → Z_H → Option Z_H} {g2 : Z_H} (j : Z_H → Option Z_H) (e : (A.bind fun r => bd2 B fun t h => (P r t h).bind fun h20 => some h20) = some g2) : (A.bind fun r => bd2 B fun t h => (P r t h).bind fun h20 => j h20) = j g2 := by
  cases A with
  | none => cases e
  | some r =>
    cases B with
    | none => cases e
    | some b =>
      obtain ⟨t, h⟩ := b
      have e' : ((P r t h).bind fun h20 => some h20) = some g2 := e
      show (P r t h).bind (fun h20 => j h20) = j g2
      cases hp : P r t h with
      | none => rw [hp] at e'; cases e'
      | some x => rw [hp] at e'; cases e'; rfl
theorem ln_7 {T : Nat → Int32} {n N : Nat} {Kf Pf Vf : Nat → Int32} {q : Nat → Nat} (t : TS T n N Kf Pf Vf q) {g w : Z_H} {i : Nat} (R : REL g w T n N Kf Pf Vf q i) (D : DR g w) (hi : i < N) : ∃ g7 ok w7, (∀ C : Z_H → Option Z_H, ((gR (z_si g 35 7 (nI (i + 1))) 35 4 0).bind fun r17 => bd2 (f_X4_number (z_si g 35 7 (nI (i + 1))) 35 0 9999) fun t18 h19 => (pI h19 r17 3 0 t18).bind fun h20 => C h20) = C g7) ∧ f_X10_line w 61 487301543009 = some (ok, w7) ∧ LN g w g7 w7 ok T n N Kf Pf Vf q i := by
  have l0 : ¬ lg_cmp 487301543009 465558725996 = 0 := fun e => absurd (lgE.mp e) (by decide)
  have l1 : ¬ lg_cmp 487301543009 1918987883 = 0 := fun e => absurd (lgE.mp e) (by decide)
  have l2 : ¬ lg_cmp 487301543009 478627065459 = 0 := fun e => absurd (lgE.mp e) (by decide)
  obtain ⟨w6, -, d6, mf6, R6, D6⟩ := go_on t R D hi
  obtain ⟨g7, ok, w7, c7, d7, cw7, mf7, res⟩ := sc_ln t R6 D6 (f := 0) (lo := 0) (hi := 9999) (by omega)
  refine ⟨g7, ok, w7, fun C => sc_j C c7, ?_, (CW_si (by omega) (by omega)).tr cw7, mf6.tr mf7, ?_⟩
  · unfold f_X10_line
    exact gdE (yg61 R.2.1.1.1) ((if_neg l0).trans (jnE ((if_neg l1).trans ((if_neg l2).trans (jnE ((if_pos (lgE.mpr rfl)).trans ((if_neg (by decide)).trans (bnd d6 (jnE ((if_neg (by decide)).trans (jnE ((if_pos rfl).trans (d7)))))))))))))
  · rcases res with ⟨e, a, b, d⟩ | b
    · exact Or.inl ⟨e, i + 1 + 1, by omega, b, d⟩
    · exact Or.inr b
theorem ln_8 {T : Nat → Int32} {n N : Nat} {Kf Pf Vf : Nat → Int32} {q : Nat → Nat} (t : TS T n N Kf Pf Vf q) {g w : Z_H} {i : Nat} (R : REL g w T n N Kf Pf Vf q i) (D : DR g w) (hi : i < N) : ∃ g7 ok w7, (∀ C : Z_H → Option Z_H, ((gR (z_si g 35 7 (nI (i + 1))) 35 4 0).bind fun r17 => bd2 (f_X4_number (z_si g 35 7 (nI (i + 1))) 35 0 99) fun t18 h19 => (pI h19 r17 3 1 t18).bind fun h20 => C h20) = C g7) ∧ f_X10_line w 61 6513008 = some (ok, w7) ∧ LN g w g7 w7 ok T n N Kf Pf Vf q i := by
  have l0 : ¬ lg_cmp 6513008 465558725996 = 0 := fun e => absurd (lgE.mp e) (by decide)
  have l1 : ¬ lg_cmp 6513008 1918987883 = 0 := fun e => absurd (lgE.mp e) (by decide)
  have l2 : ¬ lg_cmp 6513008 478627065459 = 0 := fun e => absurd (lgE.mp e) (by decide)
  have l3 : ¬ lg_cmp 6513008 487301543009 = 0 := fun e => absurd (lgE.mp e) (by decide)
  obtain ⟨w6, -, d6, mf6, R6, D6⟩ := go_on t R D hi
  obtain ⟨g7, ok, w7, c7, d7, cw7, mf7, res⟩ := sc_ln t R6 D6 (f := 1) (lo := 0) (hi := 99) (by omega)
  refine ⟨g7, ok, w7, fun C => sc_j C c7, ?_, (CW_si (by omega) (by omega)).tr cw7, mf6.tr mf7, ?_⟩
  · unfold f_X10_line
    exact gdE (yg61 R.2.1.1.1) ((if_neg l0).trans (jnE ((if_neg l1).trans ((if_neg l2).trans (jnE ((if_neg l3).trans ((if_pos (lgE.mpr rfl)).trans ((if_neg (by decide)).trans (bnd d6 (jnE ((if_neg (by decide)).trans (jnE ((if_neg (by decide)).trans ((if_pos rfl).trans (d7)))))))))))))))
  · rcases res with ⟨e, a, b, d⟩ | b
    · exact Or.inl ⟨e, i + 1 + 1, by omega, b, d⟩
    · exact Or.inr b
theorem ln_9 {T : Nat → Int32} {n N : Nat} {Kf Pf Vf : Nat → Int32} {q : Nat → Nat} (t : TS T n N Kf Pf Vf q) {g w : Z_H} {i : Nat} (R : REL g w T n N Kf Pf Vf q i) (D : DR g w) (hi : i < N) : ∃ g7 ok w7, (∀ C : Z_H → Option Z_H, ((gR (z_si g 35 7 (nI (i + 1))) 35 4 0).bind fun r17 => bd2 (f_X4_number (z_si g 35 7 (nI (i + 1))) 35 0 12) fun t18 h19 => (pI h19 r17 3 2 t18).bind fun h20 => C h20) = C g7) ∧ f_X10_line w 61 1986360180 = some (ok, w7) ∧ LN g w g7 w7 ok T n N Kf Pf Vf q i := by
  have l0 : ¬ lg_cmp 1986360180 465558725996 = 0 := fun e => absurd (lgE.mp e) (by decide)
  have l1 : ¬ lg_cmp 1986360180 1918987883 = 0 := fun e => absurd (lgE.mp e) (by decide)
  have l2 : ¬ lg_cmp 1986360180 478627065459 = 0 := fun e => absurd (lgE.mp e) (by decide)
  have l3 : ¬ lg_cmp 1986360180 487301543009 = 0 := fun e => absurd (lgE.mp e) (by decide)
  have l4 : ¬ lg_cmp 1986360180 6513008 = 0 := fun e => absurd (lgE.mp e) (by decide)
  obtain ⟨w6, -, d6, mf6, R6, D6⟩ := go_on t R D hi
  obtain ⟨g7, ok, w7, c7, d7, cw7, mf7, res⟩ := sc_ln t R6 D6 (f := 2) (lo := 0) (hi := 12) (by omega)
  refine ⟨g7, ok, w7, fun C => sc_j C c7, ?_, (CW_si (by omega) (by omega)).tr cw7, mf6.tr mf7, ?_⟩
  · unfold f_X10_line
    exact gdE (yg61 R.2.1.1.1) ((if_neg l0).trans (jnE ((if_neg l1).trans ((if_neg l2).trans (jnE ((if_neg l3).trans ((if_neg l4).trans ((if_pos (lgE.mpr rfl)).trans ((if_neg (by decide)).trans (bnd d6 (jnE ((if_neg (by decide)).trans (jnE ((if_neg (by decide)).trans ((if_neg (by decide)).trans ((if_pos rfl).trans (d7)))))))))))))))))
  · rcases res with ⟨e, a, b, d⟩ | b
    · exact Or.inl ⟨e, i + 1 + 1, by omega, b, d⟩
    · exact Or.inr b
theorem ln_10 {T : Nat → Int32} {n N : Nat} {Kf Pf Vf : Nat → Int32} {q : Nat → Nat} (t : TS T n N Kf Pf Vf q) {g w : Z_H} {i : Nat} (R : REL g w T n N Kf Pf Vf q i) (D : DR g w) (hi : i < N) : ∃ g7 ok w7, (∀ C : Z_H → Option Z_H, ((gR (z_si g 35 7 (nI (i + 1))) 35 4 0).bind fun r17 => bd2 (f_X4_number (z_si g 35 7 (nI (i + 1))) 35 1 6) fun t18 h19 => (pI h19 r17 3 3 t18).bind fun h20 => C h20) = C g7) ∧ f_X10_line w 61 131294707347319 = some (ok, w7) ∧ LN g w g7 w7 ok T n N Kf Pf Vf q i := by
  have l0 : ¬ lg_cmp 131294707347319 465558725996 = 0 := fun e => absurd (lgE.mp e) (by decide)
  have l1 : ¬ lg_cmp 131294707347319 1918987883 = 0 := fun e => absurd (lgE.mp e) (by decide)
  have l2 : ¬ lg_cmp 131294707347319 478627065459 = 0 := fun e => absurd (lgE.mp e) (by decide)
  have l3 : ¬ lg_cmp 131294707347319 487301543009 = 0 := fun e => absurd (lgE.mp e) (by decide)
  have l4 : ¬ lg_cmp 131294707347319 6513008 = 0 := fun e => absurd (lgE.mp e) (by decide)
  have l5 : ¬ lg_cmp 131294707347319 1986360180 = 0 := fun e => absurd (lgE.mp e) (by decide)
  obtain ⟨w6, -, d6, mf6, R6, D6⟩ := go_on t R D hi
  obtain ⟨g7, ok, w7, c7, d7, cw7, mf7, res⟩ := sc_ln t R6 D6 (f := 3) (lo := 1) (hi := 6) (by omega)
  refine ⟨g7, ok, w7, fun C => sc_j C c7, ?_, (CW_si (by omega) (by omega)).tr cw7, mf6.tr mf7, ?_⟩
  · unfold f_X10_line
    exact gdE (yg61 R.2.1.1.1) ((if_neg l0).trans (jnE ((if_neg l1).trans ((if_neg l2).trans (jnE ((if_neg l3).trans ((if_neg l4).trans ((if_neg l5).trans ((if_pos (lgE.mpr rfl)).trans ((if_neg (by decide)).trans (bnd d6 (jnE ((if_pos rfl).trans (jnE ((if_neg (by decide)).trans ((if_neg (by decide)).trans ((if_neg (by decide)).trans (d7))))))))))))))))))
  · rcases res with ⟨e, a, b, d⟩ | b
    · exact Or.inl ⟨e, i + 1 + 1, by omega, b, d⟩
    · exact Or.inr b
theorem ln_no {w : Z_H} (H : LY w) {W : Int64} (n0 : W ≠ 465558725996) (n1 : W ≠ 1918987883) (n2 : W ≠ 478627065459) (n3 : W ≠ 487301543009) (n4 : W ≠ 6513008) (n5 : W ≠ 1986360180) (n6 : W ≠ 131294707347319) : f_X10_line w 61 W = some (0, z_si w 61 9 (z_i w 61 5)) := by
  unfold f_X10_line
  exact gdE (yg61 H) ((if_neg (fun e => n0 (lgE.mp e))).trans (jnE ((if_neg (fun e => n1 (lgE.mp e))).trans ((if_neg (fun e => n2 (lgE.mp e))).trans (jnE ((if_neg (fun e => n3 (lgE.mp e))).trans ((if_neg (fun e => n4 (lgE.mp e))).trans ((if_neg (fun e => n5 (lgE.mp e))).trans ((if_neg (fun e => n6 (lgE.mp e))).trans ((if_pos rfl).trans (bd2E (e_fails H rfl) (gdE (by decide) rfl))))))))))))
theorem MT.k2 {w : Z_H} {K v : Int32} (m : MT w K v) : (K = 2 ↔ z_i w 61 6 = 4) ∧ (K = 0 ↔ z_i w 61 6 = 0) := by
  rcases m with ⟨a, b⟩ | ⟨a, b⟩ | ⟨a, b⟩ | ⟨a, b, -⟩ | ⟨a, b⟩
  · rw [a, b]; decide
  · rw [a, b]; decide
  · rw [a, b]; decide
  · rw [a, b]; decide
  · have n2 : K ≠ 2 := by rw [b]; exact wkd_n (by decide) z_wrds (by decide)
    have n0 : K ≠ 0 := by rw [b]; exact wkd_n (by decide) z_wrds (by decide)
    rw [a]
    exact ⟨⟨fun e => absurd e n2, fun e => absurd e (by decide)⟩, ⟨fun e => absurd e n0, fun e => absurd e (by decide)⟩⟩
theorem tl_ok {T : Nat → Int32} {n N : Nat} {Kf Pf Vf : Nat → Int32} {q : Nat → Nat} (t : TS T n N Kf Pf Vf q) {g w : Z_H} {i : Nat} {g7 w7 : Z_H} {ok : Int32} (L : LN g w g7 w7 ok T n N Kf Pf Vf q i) : ∃ g2, ((gR g7 35 4 2).bind fun r9 => (gI g7 35 4 7).bind fun t10 => (aI g7 r9 t10).bind fun t11 => if t11 = 2 then ((f_X4_goOn g7 35).bind fun h13 => some h13) else ((f_X4_breakOff g7 35).bind fun h12 => some h12)) = some g2 ∧ CW g g2 ∧ ((∃ w2 i2, (∀ rec : (Int32 × Z_H) → Option (Int32 × Z_H), (jn (fun ((v21, h22) : Int32 × Z_H) => if v21 = 0 then (rec (v21, h22)) else ((f_X10_token h22 61).bind fun h24 => rec (v21, h24))) (fun j23 => if ok = 0 then (j23 (ok, w7)) else ((gI w7 61 10 6).bind fun t25 => if t25 = 4 then (j23 (ok, w7)) else (bd2 (f_X10_fails w7 61) fun t26 h27 => j23 (t26, h27))))) = rec (1, w2)) ∧ MF w w2 ∧ i < i2 ∧ REL g2 w2 T n N Kf Pf Vf q i2 ∧ DR g2 w2) ∨ (∃ w2, (∀ rec : (Int32 × Z_H) → Option (Int32 × Z_H), (jn (fun ((v21, h22) : Int32 × Z_H) => if v21 = 0 then (rec (v21, h22)) else ((f_X10_token h22 61).bind fun h24 => rec (v21, h24))) (fun j23 => if ok = 0 then (j23 (ok, w7)) else ((gI w7 61 10 6).bind fun t25 => if t25 = 4 then (j23 (ok, w7)) else (bd2 (f_X10_fails w7 61) fun t26 h27 => j23 (t26, h27))))) = rec (0, w2)) ∧ MF w w2 ∧ BR g2 N (z_i w2 61 9))) := by
  have z10 : ¬ (1 : Int32) = 0 := by decide
  obtain ⟨cw, mf, ⟨rfl, i2, hi, R, D⟩ | ⟨rfl, B⟩⟩ := L
  · have G := R.1.1.1
    have W := R.2.1.1.1
    have iN := R.1.1.2.2.2.2
    obtain ⟨k47, k48, -⟩ := R.1.2 i2 iN
    have mk := R.2.1.2.2.2.k2.1
    by_cases c : Kf i2 = 2
    · have lt : i2 < N := by
        rcases Nat.lt_or_ge i2 N with z | z
        · exact z
        · have e : i2 = N := by omega
          rw [e, t.2.2.2.2] at c
          exact absurd c (by decide)
      obtain ⟨w2, c2, d2, mf2, R2, D2⟩ := go_on t R D lt
      exact ⟨_, bnd (yR35_2 G) (bnd R.1.1.a7 (bnd R.1.1.k ((if_pos (k47.trans c)).trans (bnd c2 rfl)))), cw.tr (CW_si (by omega) (by omega)), Or.inl ⟨w2, i2 + 1, fun rec => jnE ((if_neg z10).trans (bnd (yI61 W 6) ((if_pos (mk.mp c)).trans ((if_neg z10).trans (bnd d2 rfl))))), mf.tr mf2, by omega, R2, D2⟩⟩
    · obtain ⟨g2, b1, b2, b3⟩ := c_break R.1.1
      have hN : z_i g7 47 N = 0 := (R.1.2 N (Nat.le_refl _)).1.trans t.2.2.2.2
      obtain ⟨s, -, sn, p3, -⟩ := (t.2.2.1 i2 iN).s
      have n6 := t.1
      refine ⟨g2, bnd (yR35_2 G) (bnd R.1.1.a7 (bnd R.1.1.k ((if_neg (fun e => c (k47.symm.trans e))).trans (bnd b1 rfl)))), cw.tr (CW_on b2 (by omega) (by omega)), Or.inr ⟨z_si w7 61 9 (Pf i2), fun rec => jnE ((if_neg z10).trans (bnd (yI61 W 6) ((if_neg (fun e => c (mk.mpr e))).trans (bd2E (e_fails W R.2.1.2.2.1) (if_pos rfl))))), mf.tr MF_9, ?_⟩⟩
      rw [zi_si, if_pos rfl, if_pos rfl]
      refine ⟨⟨i2, b2.ly G, R.1.1.2.1, by rw [b3, brk_o (by omega)]; exact R.1.1.2.2.1, by rw [b3, brk_o (by omega)]; exact R.1.1.2.2.2.1, iN⟩, by rw [b2.2.2.2 47 (by omega) (by omega)]; exact hN, ?_, by rw [p3]; exact nI_m1 (by omega)⟩
      rw [b3]
      unfold brk
      rw [if_pos R.2.2.2, upd_s, k48]
  · obtain ⟨g2, e1, e2, e3⟩ := B.tail
    exact ⟨g2, e1, cw.tr e3, Or.inr ⟨w7, fun rec => jnE ((if_pos rfl).trans (if_pos rfl)), mf, e2⟩⟩
theorem cl_tx {T : Nat → Int32} {n N : Nat} {Kf Pf Vf : Nat → Int32} {q : Nat → Nat} (t : TS T n N Kf Pf Vf q) {g w : Z_H} {i : Nat} (R : REL g w T n N Kf Pf Vf q i) (D : DR g w) (hi : i < N) : ∃ g2, f_X4_readClause g 35 = some g2 ∧ CW g g2 ∧ ((∃ w2 i2, (∀ rec : (Int32 × Z_H) → Option (Int32 × Z_H), f_X10_readText_l1 61 rec (1, w) = rec (1, w2)) ∧ MF w w2 ∧ i < i2 ∧ REL g2 w2 T n N Kf Pf Vf q i2 ∧ DR g2 w2) ∨ (∃ w2, (∀ rec : (Int32 × Z_H) → Option (Int32 × Z_H), f_X10_readText_l1 61 rec (1, w) = rec (0, w2)) ∧ MF w w2 ∧ BR g2 N (z_i w2 61 9))) := by
  have z10 : ¬ (1 : Int32) = 0 := by decide
  have G := R.1.1.1
  have W := R.2.1.1.1
  have k47 := (R.1.2 i (by omega)).1
  have n0 : ¬ z_i w 61 6 = 0 := fun e => t.2.2.2.1 i hi (R.2.1.2.2.2.k2.2.mpr e)
  obtain ⟨w6, c6, -, -, -, -⟩ := go_on t R D hi
  have mod : ∃ y, ((z_i w 61 6 = 2 ∧ Kf i = wkd y z_wrds ∧ y = z_l w 61 8) ∨ (y = 0 ∧ ¬ 4 ≤ Kf i)) ∧ ∀ (rec : (Int32 × Z_H) → Option (Int32 × Z_H)) r, (bd2 (f_X10_line w 61 y) fun t19 h20 => jn (fun ((v21, h22) : Int32 × Z_H) => if v21 = 0 then (rec (v21, h22)) else ((f_X10_token h22 61).bind fun h24 => rec (v21, h24))) (fun j23 => if t19 = 0 then (j23 (t19, h20)) else ((gI h20 61 10 6).bind fun t25 => if t25 = 4 then (j23 (t19, h20)) else (bd2 (f_X10_fails h20 61) fun t26 h27 => j23 (t26, h27))))) = r → f_X10_readText_l1 61 rec (1, w) = r := by
    rcases R.2.1.2.2.2.nw with ⟨a, b⟩ | ⟨a, b⟩
    · refine ⟨z_l w 61 8, Or.inl ⟨a, b, rfl⟩, fun rec r e => ?_⟩
      unfold f_X10_readText_l1
      exact (if_neg z10).trans (bnd (yI61 W 6) ((if_neg n0).trans (bnd (yI61 W 6) (jnE ((if_pos a).trans (bnd (yL61 W 8) e))))))
    · refine ⟨0, Or.inr ⟨rfl, b⟩, fun rec r e => ?_⟩
      unfold f_X10_readText_l1
      exact (if_neg z10).trans (bnd (yI61 W 6) ((if_neg n0).trans (bnd (yI61 W 6) (jnE ((if_neg a).trans e)))))
  obtain ⟨y, yk, mod⟩ := mod
  have no : (y ≠ 465558725996 ∧ y ≠ 1918987883 ∧ y ≠ 478627065459 ∧ y ≠ 487301543009 ∧ y ≠ 6513008 ∧ y ≠ 1986360180 ∧ y ≠ 131294707347319) → (¬ 4 ≤ Kf i ∨ ¬ Kf i ≤ 10) → ∃ g2, f_X4_readClause g 35 = some g2 ∧ CW g g2 ∧ ((∃ w2 i2, (∀ rec : (Int32 × Z_H) → Option (Int32 × Z_H), f_X10_readText_l1 61 rec (1, w) = rec (1, w2)) ∧ MF w w2 ∧ i < i2 ∧ REL g2 w2 T n N Kf Pf Vf q i2 ∧ DR g2 w2) ∨ (∃ w2, (∀ rec : (Int32 × Z_H) → Option (Int32 × Z_H), f_X10_readText_l1 61 rec (1, w) = rec (0, w2)) ∧ MF w w2 ∧ BR g2 N (z_i w2 61 9))) := fun ⟨n1, n2, n3, n4, n5, n6x, n7⟩ kk => by
    obtain ⟨g2, b1, b2, b3⟩ := c_break R.1.1
    have hN : z_i g 47 N = 0 := (R.1.2 N (Nat.le_refl _)).1.trans t.2.2.2.2
    obtain ⟨s, -, sn, p3, -⟩ := (t.2.2.1 i (by omega)).s
    have n6 := t.1
    refine ⟨g2, ?_, CW_on b2 (by omega) (by omega), Or.inr ⟨z_si w 61 9 (z_i w 61 5), fun rec => mod rec _ (bd2E (ln_no W n1 n2 n3 n4 n5 n6x n7) (jnE ((if_pos rfl).trans (if_pos rfl)))), MF_9, ?_⟩⟩
    · unfold f_X4_readClause
      refine gdE (G.is rfl rfl) (bnd (yR35_2 G) (bnd R.1.1.a7 (bnd (R.1.1.k.trans (congrArg some k47)) (jnE ?_))))
      by_cases c4 : Kf i < 4
      · exact (if_pos c4).trans (bnd b1 rfl)
      · refine (if_neg c4).trans ((if_neg ?_).trans (bnd b1 rfl))
        rcases kk with k | k
        · exact absurd (Int32.not_lt.mp c4) k
        · exact k
    · rw [zi_si, if_pos rfl, if_pos rfl, R.2.1.2.2.1]
      refine ⟨⟨i, b2.ly G, R.1.1.2.1, by rw [b3, brk_o (by omega)]; exact R.1.1.2.2.1, by rw [b3, brk_o (by omega)]; exact R.1.1.2.2.2.1, by omega⟩, by rw [b2.2.2.2 47 (by omega) (by omega)]; exact hN, ?_, by rw [p3]; exact nI_m1 (by omega)⟩
      rw [b3]
      unfold brk
      rw [if_pos R.2.2.2, upd_s, (R.1.2 i (by omega)).2.1]
  have cls : ∀ r, (jn (fun (h7 : Z_H) => (gR h7 35 4 2).bind fun r9 => (gI h7 35 4 7).bind fun t10 => (aI h7 r9 t10).bind fun t11 => if t11 = 2 then ((f_X4_goOn h7 35).bind fun h13 => some h13) else ((f_X4_breakOff h7 35).bind fun h12 => some h12)) (fun j8 => if Kf i = 4 then ((f_X4_readLevel (z_si g 35 7 (nI (i + 1))) 35).bind fun h14 => j8 h14) else (if Kf i = 5 then ((f_X4_readRank (z_si g 35 7 (nI (i + 1))) 35).bind fun h15 => j8 h15) else (if Kf i = 6 then ((f_X4_readOpens (z_si g 35 7 (nI (i + 1))) 35).bind fun h16 => j8 h16) else (if Kf i = 7 then ((gR (z_si g 35 7 (nI (i + 1))) 35 4 0).bind fun r17 => bd2 (f_X4_number (z_si g 35 7 (nI (i + 1))) 35 0 9999) fun t18 h19 => (pI h19 r17 3 0 t18).bind fun h20 => j8 h20) else (if Kf i = 8 then ((gR (z_si g 35 7 (nI (i + 1))) 35 4 0).bind fun r21 => bd2 (f_X4_number (z_si g 35 7 (nI (i + 1))) 35 0 99) fun t22 h23 => (pI h23 r21 3 1 t22).bind fun h24 => j8 h24) else (if Kf i = 9 then ((gR (z_si g 35 7 (nI (i + 1))) 35 4 0).bind fun r25 => bd2 (f_X4_number (z_si g 35 7 (nI (i + 1))) 35 0 12) fun t26 h27 => (pI h27 r25 3 2 t26).bind fun h28 => j8 h28) else ((gR (z_si g 35 7 (nI (i + 1))) 35 4 0).bind fun r29 => bd2 (f_X4_number (z_si g 35 7 (nI (i + 1))) 35 1 6) fun t30 h31 => (pI h31 r29 3 3 t30).bind fun h32 => j8 h32)))))))) = r → 4 ≤ Kf i → Kf i ≤ 10 → f_X4_readClause g 35 = r := fun r e k4 k10 => by
    unfold f_X4_readClause
    exact gdE (G.is rfl rfl) (bnd (yR35_2 G) (bnd R.1.1.a7 (bnd (R.1.1.k.trans (congrArg some k47)) (jnE ((if_neg (Int32.not_lt.mpr k4)).trans ((if_pos k10).trans (bnd c6 e)))))))
  rcases yk with ⟨ya, yb, -⟩ | ⟨rfl, yb⟩
  · rcases wkd_c y with ⟨rfl, k⟩ | ⟨rfl, k⟩ | ⟨rfl, k⟩ | ⟨rfl, k⟩ | ⟨rfl, k⟩ | ⟨rfl, k⟩ | ⟨rfl, k⟩ | ⟨e, k⟩ | ⟨e, k⟩ | ⟨e, k⟩ | ⟨e, k⟩ | ⟨e, k⟩ | ⟨e, k⟩ | ⟨e, k⟩ | ⟨⟨m1, m2, m3, m4, m5, m6, m7, m8, m9, m10, m11, m12, m13, m14⟩, k⟩
    · rw [k] at yb
      obtain ⟨g7, ok, w7, c7, d7, L⟩ := ln_4 t R D hi
      obtain ⟨g2, t1, t2, t3⟩ := tl_ok t L
      refine ⟨g2, cls _ (jnE ((if_pos yb).trans (bnd c7 t1))) (by rw [yb]; decide) (by rw [yb]; decide), t2, ?_⟩
      rcases t3 with ⟨w2, i2, m1, m2, m3, m4, m5⟩ | ⟨w2, m1, m2, m3⟩
      · exact Or.inl ⟨w2, i2, fun rec => mod rec _ (bd2E d7 (m1 rec)), m2, m3, m4, m5⟩
      · exact Or.inr ⟨w2, fun rec => mod rec _ (bd2E d7 (m1 rec)), m2, m3⟩
    · rw [k] at yb
      obtain ⟨g7, ok, w7, c7, d7, L⟩ := ln_5 t R D hi
      obtain ⟨g2, t1, t2, t3⟩ := tl_ok t L
      refine ⟨g2, cls _ (jnE ((if_neg (by rw [yb]; decide)).trans ((if_pos yb).trans (bnd c7 t1)))) (by rw [yb]; decide) (by rw [yb]; decide), t2, ?_⟩
      rcases t3 with ⟨w2, i2, m1, m2, m3, m4, m5⟩ | ⟨w2, m1, m2, m3⟩
      · exact Or.inl ⟨w2, i2, fun rec => mod rec _ (bd2E d7 (m1 rec)), m2, m3, m4, m5⟩
      · exact Or.inr ⟨w2, fun rec => mod rec _ (bd2E d7 (m1 rec)), m2, m3⟩
    · rw [k] at yb
      obtain ⟨g7, ok, w7, c7, d7, L⟩ := ln_6 t R D hi
      obtain ⟨g2, t1, t2, t3⟩ := tl_ok t L
      refine ⟨g2, cls _ (jnE ((if_neg (by rw [yb]; decide)).trans ((if_neg (by rw [yb]; decide)).trans ((if_pos yb).trans (bnd c7 t1))))) (by rw [yb]; decide) (by rw [yb]; decide), t2, ?_⟩
      rcases t3 with ⟨w2, i2, m1, m2, m3, m4, m5⟩ | ⟨w2, m1, m2, m3⟩
      · exact Or.inl ⟨w2, i2, fun rec => mod rec _ (bd2E d7 (m1 rec)), m2, m3, m4, m5⟩
      · exact Or.inr ⟨w2, fun rec => mod rec _ (bd2E d7 (m1 rec)), m2, m3⟩
    · rw [k] at yb
      obtain ⟨g7, ok, w7, c7, d7, L⟩ := ln_7 t R D hi
      obtain ⟨g2, t1, t2, t3⟩ := tl_ok t L
      refine ⟨g2, cls _ (jnE ((if_neg (by rw [yb]; decide)).trans ((if_neg (by rw [yb]; decide)).trans ((if_neg (by rw [yb]; decide)).trans ((if_pos yb).trans ((c7 _).trans t1)))))) (by rw [yb]; decide) (by rw [yb]; decide), t2, ?_⟩
      rcases t3 with ⟨w2, i2, m1, m2, m3, m4, m5⟩ | ⟨w2, m1, m2, m3⟩
      · exact Or.inl ⟨w2, i2, fun rec => mod rec _ (bd2E d7 (m1 rec)), m2, m3, m4, m5⟩
      · exact Or.inr ⟨w2, fun rec => mod rec _ (bd2E d7 (m1 rec)), m2, m3⟩
    · rw [k] at yb
      obtain ⟨g7, ok, w7, c7, d7, L⟩ := ln_8 t R D hi
      obtain ⟨g2, t1, t2, t3⟩ := tl_ok t L
      refine ⟨g2, cls _ (jnE ((if_neg (by rw [yb]; decide)).trans ((if_neg (by rw [yb]; decide)).trans ((if_neg (by rw [yb]; decide)).trans ((if_neg (by rw [yb]; decide)).trans ((if_pos yb).trans ((c7 _).trans t1))))))) (by rw [yb]; decide) (by rw [yb]; decide), t2, ?_⟩
      rcases t3 with ⟨w2, i2, m1, m2, m3, m4, m5⟩ | ⟨w2, m1, m2, m3⟩
      · exact Or.inl ⟨w2, i2, fun rec => mod rec _ (bd2E d7 (m1 rec)), m2, m3, m4, m5⟩
      · exact Or.inr ⟨w2, fun rec => mod rec _ (bd2E d7 (m1 rec)), m2, m3⟩
    · rw [k] at yb
      obtain ⟨g7, ok, w7, c7, d7, L⟩ := ln_9 t R D hi
      obtain ⟨g2, t1, t2, t3⟩ := tl_ok t L
      refine ⟨g2, cls _ (jnE ((if_neg (by rw [yb]; decide)).trans ((if_neg (by rw [yb]; decide)).trans ((if_neg (by rw [yb]; decide)).trans ((if_neg (by rw [yb]; decide)).trans ((if_neg (by rw [yb]; decide)).trans ((if_pos yb).trans ((c7 _).trans t1)))))))) (by rw [yb]; decide) (by rw [yb]; decide), t2, ?_⟩
      rcases t3 with ⟨w2, i2, m1, m2, m3, m4, m5⟩ | ⟨w2, m1, m2, m3⟩
      · exact Or.inl ⟨w2, i2, fun rec => mod rec _ (bd2E d7 (m1 rec)), m2, m3, m4, m5⟩
      · exact Or.inr ⟨w2, fun rec => mod rec _ (bd2E d7 (m1 rec)), m2, m3⟩
    · rw [k] at yb
      obtain ⟨g7, ok, w7, c7, d7, L⟩ := ln_10 t R D hi
      obtain ⟨g2, t1, t2, t3⟩ := tl_ok t L
      refine ⟨g2, cls _ (jnE ((if_neg (by rw [yb]; decide)).trans ((if_neg (by rw [yb]; decide)).trans ((if_neg (by rw [yb]; decide)).trans ((if_neg (by rw [yb]; decide)).trans ((if_neg (by rw [yb]; decide)).trans ((if_neg (by rw [yb]; decide)).trans ((c7 _).trans t1)))))))) (by rw [yb]; decide) (by rw [yb]; decide), t2, ?_⟩
      rcases t3 with ⟨w2, i2, m1, m2, m3, m4, m5⟩ | ⟨w2, m1, m2, m3⟩
      · exact Or.inl ⟨w2, i2, fun rec => mod rec _ (bd2E d7 (m1 rec)), m2, m3, m4, m5⟩
      · exact Or.inr ⟨w2, fun rec => mod rec _ (bd2E d7 (m1 rec)), m2, m3⟩
    · exact no (by rw [e]; decide) (Or.inr (by rw [yb, k]; decide))
    · exact no (by rw [e]; decide) (Or.inr (by rw [yb, k]; decide))
    · exact no (by rw [e]; decide) (Or.inr (by rw [yb, k]; decide))
    · exact no (by rw [e]; decide) (Or.inr (by rw [yb, k]; decide))
    · exact no (by rw [e]; decide) (Or.inr (by rw [yb, k]; decide))
    · exact no (by rw [e]; decide) (Or.inr (by rw [yb, k]; decide))
    · exact no (by rw [e]; decide) (Or.inr (by rw [yb, k]; decide))
    · exact no ⟨m1, m2, m3, m4, m5, m6, m7⟩ (Or.inl (by rw [yb, k]; decide))
  · exact no (by decide) (Or.inl yb)
