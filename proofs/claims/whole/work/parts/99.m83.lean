/-! the whole text, on both sides -/
theorem BR.rd {g : Z_H} {N : Nat} {p : Int32} (B : BR g N p) {v : Int32} {rec : (Int32 × Z_H) → Option Z_H} : f_X4_read_l1 35 rec (v, g) = some g := by
  obtain ⟨⟨i, r⟩, b2, b3, b4⟩ := B
  unfold f_X4_read_l1
  by_cases c1 : (600 : Int32) < v
  · exact if_pos c1
  · refine (if_neg c1).trans (bnd (yR35_2 r.1) (bnd r.a7 (bnd r.k ?_)))
    by_cases c2 : z_i g 47 i = 0
    · exact if_pos c2
    · exact (if_neg c2).trans (bnd (yI35 r.1 8) (if_neg (by rw [b3]; exact b4)))
theorem tx_lp {T : Nat → Int32} {n N : Nat} {Kf Pf Vf : Nat → Int32} {q : Nat → Nat} (t : TS T n N Kf Pf Vf q) : ∀ (d i v F1 F2 : Nat) (g w : Z_H), N - i ≤ d → d + 3 ≤ F1 → d + 3 ≤ F2 → REL g w T n N Kf Pf Vf q i → DR g w → v ≤ i → ∃ g2, lp (f_X4_read_l1 35) F1 (nI v, g) = some g2 ∧ CW g g2 ∧ ∃ ok w2, lp (f_X10_readText_l1 61) F2 (1, w) = some (ok, w2) ∧ MF w w2 ∧ LY w2 ∧ ((ok = 1 ∧ ∃ i2, REL g2 w2 T n N Kf Pf Vf q i2 ∧ DR g2 w2) ∨ (ok = 0 ∧ BR g2 N (z_i w2 61 9))) := by
  intro d
  induction d using Nat.strongRecOn with
  | _ d ih =>
    intro i v F1 F2 g w hd hF1 hF2 R D hv
    obtain ⟨f1, rfl⟩ : ∃ f, F1 = f + 1 := ⟨F1 - 1, by omega⟩
    obtain ⟨f2, rfl⟩ : ∃ f, F2 = f + 1 := ⟨F2 - 1, by omega⟩
    have z10 : ¬ (1 : Int32) = 0 := by decide
    have G := R.1.1.1
    have W := R.2.1.1.1
    have iN := R.1.1.2.2.2.2
    have n6 := t.2.1
    have nv : ¬ (600 : Int32) < nI v := nI_nlt (a := 600) (by omega) (by omega)
    have k47 := (R.1.2 i iN).1
    rw [lp_succ, lp_succ]
    by_cases c0 : Kf i = 0
    · refine ⟨g, ?_, CW.rf, 1, w, ?_, MF.rf, W, Or.inl ⟨rfl, i, R, D⟩⟩
      · unfold f_X4_read_l1
        exact (if_neg nv).trans (bnd (yR35_2 G) (bnd R.1.1.a7 (bnd R.1.1.k (if_pos (k47.trans c0)))))
      · unfold f_X10_readText_l1
        exact (if_neg z10).trans (bnd (yI61 W 6) (if_pos (R.2.1.2.2.2.k2.2.mp c0)))
    · have hi : i < N := by
        rcases Nat.lt_or_ge i N with z | z
        · exact z
        · have e : i = N := by omega
          rw [e] at c0
          exact absurd t.2.2.2.2 c0
      obtain ⟨g1, e1, cw1, res⟩ := cl_tx t R D hi
      have body : ∀ rec, f_X4_read_l1 35 rec (nI v, g) = rec (nI (v + 1), g1) := fun rec => by
        unfold f_X4_read_l1
        rw [← nI_1 v]
        exact (if_neg nv).trans (bnd (yR35_2 G) (bnd R.1.1.a7 (bnd R.1.1.k ((if_neg (fun e => c0 (k47.symm.trans e))).trans (bnd ((yI35 G 8).trans (congrArg some R.2.2.2)) ((if_pos rfl).trans (bnd e1 rfl)))))))
      obtain ⟨f3, rfl⟩ : ∃ f, f1 = f + 1 := ⟨f1 - 1, by omega⟩
      obtain ⟨f4, rfl⟩ : ∃ f, f2 = f + 1 := ⟨f2 - 1, by omega⟩
      rcases res with ⟨w1, i1, m1, m2, m3, m4, m5⟩ | ⟨w1, m1, m2, m3⟩
      · have i1N := m4.1.1.2.2.2.2
        obtain ⟨g2, p1, p2, ok, w2, p3, p4, p5, p6⟩ := ih (d - 1) (by omega) i1 (v + 1) (f3 + 1) (f4 + 1) g1 w1 (by omega) (by omega) (by omega) m4 m5 (by omega)
        exact ⟨g2, (body _).trans p1, cw1.tr p2, ok, w2, (m1 _).trans p3, m2.tr p4, p5, p6⟩
      · refine ⟨g1, (body _).trans m3.rd, cw1, 0, w1, (m1 _).trans ?_, m2, LY_x m2.1 m2.2.2.1 W, Or.inr ⟨rfl, m3⟩⟩
        rw [lp_succ]
        unfold f_X10_readText_l1
        exact if_pos rfl
def kdF (f : Nat → Int32) : Int32 := if f 8 = -1 then f 9 else 1
def plF (f : Nat → Int32) : Int32 := if f 8 = -1 then f 10 else f 8
theorem c_kd {g : Z_H} (H : LY g) : f_X4_faultKind g 35 = some (kdF (z_i g 35)) := by
  unfold f_X4_faultKind kdF
  refine gdE (H.is rfl rfl) (bnd (yI35 H 8) ?_)
  by_cases c : z_i g 35 8 = -1
  · exact (if_pos c).trans (bnd (yI35 H 9) (by rw [if_pos c]))
  · exact (if_neg c).trans (by rw [if_neg c])
theorem c_pl {g : Z_H} (H : LY g) : f_X4_faultPlace g 35 = some (plF (z_i g 35)) := by
  unfold f_X4_faultPlace plF
  refine gdE (H.is rfl rfl) (bnd (yI35 H 8) ?_)
  by_cases c : z_i g 35 8 = -1
  · exact (if_pos c).trans (bnd (yI35 H 10) (by rw [if_pos c]))
  · exact (if_neg c).trans (bnd (yI35 H 8) (by rw [if_neg c]))
theorem rt_ok {g w : Z_H} {T : Nat → Int32} {n N : Nat} (G : LY g) (hn : n ≤ 600) (hB : ∀ i, i < n → -128 ≤ T i ∧ T i ≤ 127) (tk : TKS g T n N) (W : LY w) (w0 : z_i w 62 0 = nI n) (wT : ∀ i, i < n → z_i w 63 i = T i) : ∃ g2 w2, f_X4_read g 35 = some g2 ∧ CW g g2 ∧ f_X10_readText w 61 = some (if kdF (z_i g2 35) = 0 then 1 else 0, w2) ∧ (z_n w2 = z_n w ∧ z_t w2 = z_t w ∧ z_x w2 = z_x w ∧ (∀ a, a ≠ 61 → a ≠ 62 → a ≠ 64 → a ≠ 65 → z_i w2 a = z_i w a) ∧ z_i w2 61 14 = z_i w 61 14) ∧ z_i w2 62 = upd (upd (upd (z_i w 62) 0 0) 1 (kdF (z_i g2 35))) 2 (plF (z_i g2 35)) ∧ (kdF (z_i g2 35) = 0 → VP (z_i w2 64) ∧ RCp (fun o => z_i g2 (33 + o)) (z_i w2 64) ∧ z_i w2 64 144 = 0 ∧ z_i w2 64 146 = 0) := by
  obtain ⟨tN, tN6, q, q0, t1, t2, t3⟩ := tk
  have t : TS T n N (z_i g 47) (z_i g 48) (z_i g 49) q := ⟨hn, tN6, t1, t2, t3⟩
  -- the class's beginning
  let g4 := z_si (z_si (z_si (z_si g 35 7 0) 35 8 (-1)) 35 9 0) 35 10 (-1)
  have G4 : LY g4 := G
  obtain ⟨g6, s1, s2, s3⟩ := c_setFirst (h := g4) (p := 36) G4.plb
  have f35 : ∀ k, z_i g4 35 k = if k = 10 then -1 else if k = 9 then 0 else if k = 8 then -1 else if k = 7 then 0 else z_i g 35 k := fun k => by
    show z_i (z_si (z_si (z_si (z_si g 35 7 0) 35 8 (-1)) 35 9 0) 35 10 (-1)) 35 k = _
    rw [zi_si, if_pos rfl, zi_si, if_pos rfl, zi_si, if_pos rfl, zi_si, if_pos rfl]
  have o4 : ∀ a, a ≠ 35 → z_i g4 a = z_i g a := fun a ha => (z_si_o ha).trans ((z_si_o ha).trans ((z_si_o ha).trans (z_si_o ha)))
  have G6 : LY g6 := LY_x s2.1 s2.2.2.1 G4
  have k35 : z_i g6 35 = z_i g4 35 := s2.2.2.2 35 (by omega)
  have o6 : ∀ a, a < 35 ∨ 45 ≤ a → z_i g6 a = z_i g a := fun a ha => (s2.2.2.2 a (by omega)).trans (o4 a (by omega))
  have cw6 : CW g g6 := ⟨s2.1, s2.2.1, s2.2.2.1, o6⟩
  have r6 : RDS g6 N 0 := ⟨G6, tN6, by rw [k35, f35, if_neg (by omega), if_neg (by omega), if_neg (by omega), if_neg (by omega)]; exact tN, by rw [k35, f35, if_neg (by omega), if_neg (by omega), if_neg (by omega), if_pos rfl]; rfl, Nat.zero_le _⟩
  have C6 : CR g6 N (z_i g 47) (z_i g 48) (z_i g 49) 0 := ⟨r6, fun j hj => by rw [o6 47 (by omega), o6 48 (by omega), o6 49 (by omega)]; exact ⟨rfl, rfl, rfl⟩⟩
  -- the model's beginning
  obtain ⟨w1, a1, a2, a3⟩ := e_atFirst W
  have W1 : LY w1 := a2.ly W
  let w8 := z_si (z_si (z_si (z_si w1 61 4 (nI n)) 62 0 0) 61 3 0) 61 10 0
  have W8 : LY w8 := W1
  have o8 : ∀ a, a ≠ 61 → a ≠ 62 → a ≠ 64 → z_i w8 a = z_i w a := fun a h1 h2 h3 => (z_si_o h1).trans ((z_si_o h1).trans ((z_si_o h2).trans ((z_si_o h1).trans (a2.2.2.2 a h3 h3))))
  have i8 : ∀ k, z_i w8 61 k = if k = 10 then 0 else if k = 3 then 0 else if k = 4 then nI n else z_i w 61 k := fun k => by
    show z_i (z_si (z_si (z_si (z_si w1 61 4 (nI n)) 62 0 0) 61 3 0) 61 10 0) 61 k = _
    rw [zi_si, if_pos rfl, zi_si, if_pos rfl, z_si_o (by omega), zi_si, if_pos rfl, a2.2.2.2 61 (by omega) (by omega)]
  have m8 : MTX w8 T n := ⟨W8, hn, by rw [i8, if_neg (by omega), if_neg (by omega), if_pos rfl], fun i hi => by rw [o8 63 (by omega) (by omega) (by omega)]; exact wT i hi, hB⟩
  have h3 : z_i w8 61 3 = nI (q 0) := by rw [i8, if_neg (by omega), if_pos rfl, q0]; rfl
  obtain ⟨w9, b1, b2, b3, b4, b5⟩ := e_token m8 h3 (t1 0 (Nat.zero_le _))
  have W9 : LY w9 := (m8.to b2).1
  have u9 : z_i w9 61 10 = 0 := (b2.2.2.2.2 10 (by omega) (by omega) (by omega) (by omega)).trans (by rw [i8, if_pos rfl])
  have R9 : REL g6 w9 T n N (z_i g 47) (z_i g 48) (z_i g 49) q 0 := ⟨C6, ⟨m8.to b2, b3, b4, b5⟩, ⟨by rw [u9, k35, f35, if_neg (by omega), if_pos rfl], Or.inl ⟨by rw [k35, f35, if_neg (by omega), if_pos rfl], by rw [k35, f35, if_pos rfl]⟩⟩, by rw [k35, f35, if_neg (by omega), if_neg (by omega), if_pos rfl]⟩
  have k64 : z_i w9 64 = z_i w1 64 := (b2.2.2.2.1 64 (by omega)).trans ((z_si_o (by omega)).trans ((z_si_o (by omega)).trans ((z_si_o (by omega)).trans (z_si_o (by omega)))))
  have D9 : DR g6 w9 := fun _ => by
    rw [k64]
    have e : ∀ j, 3 ≤ j → j < 144 → z_i w1 64 j = atK j := fun j x1 x2 => a3 j x1 (by omega)
    exact ⟨VP_congr e VP_at, RCp_congr e VP_at (RCp_at (h := g6) (p := 33) s3), (a3 144 (by omega) (by omega)).trans atK_p.2.2.2.1, (a3 146 (by omega) (by omega)).trans atK_p.2.2.2.2⟩
  obtain ⟨g2, c1, c2, ok, w13, d1, d2, W13, res⟩ := tx_lp t 600 0 0 FU FU g6 w9 (by omega) (by unfold FU; omega) (by unfold FU; omega) R9 D9 (Nat.le_refl _)
  have c1' : lp (f_X4_read_l1 35) FU (0, g6) = some g2 := c1
  have rd : f_X4_read g 35 = some g2 := by
    unfold f_X4_read
    exact gdE (G.is rfl rfl) (bnd (yP35 G 7 0) (bnd (yP35 (h := z_si g 35 7 0) G 8 (-1)) (bnd (yP35 (h := z_si (z_si g 35 7 0) 35 8 (-1)) G 9 0) (bnd (yP35 (h := z_si (z_si (z_si g 35 7 0) 35 8 (-1)) 35 9 0) G 10 (-1)) (bnd (a := 36) (yR35_0 G4) (bnd s1 (bnd c1' rfl)))))))
  have i62 : z_i w13 62 = upd (z_i w 62) 0 0 := by
    rw [d2.2.2.2.1 62 (by omega) (by omega) (by omega), b2.2.2.2.1 62 (by omega)]
    show z_i (z_si (z_si (z_si (z_si w1 61 4 (nI n)) 62 0 0) 61 3 0) 61 10 0) 62 = _
    rw [z_si_o (by omega), z_si_o (by omega), z_si_i, z_si_o (by omega), a2.2.2.2 62 (by omega) (by omega)]
  have kp : (ok = 0 → kdF (z_i g2 35) = 1 ∧ plF (z_i g2 35) = z_i w13 61 9) ∧ (¬ ok = 0 → kdF (z_i g2 35) = z_i w13 61 10 ∧ plF (z_i g2 35) = if z_i w13 61 10 ≤ 0 then -1 else z_i w13 61 11) := by
    unfold kdF plF
    rcases res with ⟨rfl, i2, R2, D2⟩ | ⟨rfl, B⟩
    · refine ⟨fun e => absurd e (by decide), fun _ => ?_⟩
      obtain ⟨s1, s2⟩ := R2.2.2.1
      rw [if_pos R2.2.2.2, if_pos R2.2.2.2, s1]
      refine ⟨rfl, ?_⟩
      rcases s2 with ⟨x1, x2⟩ | ⟨x1 | x1, x2, -⟩
      · rw [x1, x2, if_pos (by decide)]
      · rw [x1, x2, if_neg (by decide)]
      · rw [x1, x2, if_neg (by decide)]
    · refine ⟨fun _ => ?_, fun e => absurd rfl e⟩
      have n8 : ¬ z_i g2 35 8 = -1 := by rw [B.2.2.1]; exact B.2.2.2
      rw [if_neg n8, if_neg n8]
      exact ⟨rfl, B.2.2.1⟩
  let kd := kdF (z_i g2 35)
  let pl := plF (z_i g2 35)
  let w15 := z_si w13 62 1 kd
  have W15 : LY w15 := W13
  let w16 := z_si w15 62 2 pl
  have W16 : LY w16 := W13
  have i15 : z_i w15 61 = z_i w13 61 := z_si_o (by omega)
  have j62 : z_i w16 62 = upd (upd (upd (z_i w 62) 0 0) 1 kd) 2 pl := by
    show z_i (z_si (z_si w13 62 1 kd) 62 2 pl) 62 = _
    rw [z_si_i, z_si_i, i62]
  have e16 : aI w16 62 1 = some kd := (yA62 (k := 1) W16 (by omega)).trans (congrArg some (by rw [j62, upd_o (by omega), upd_s]))
  refine ⟨g2, w16, rd, cw6.tr c2, ?_, ⟨?_, ?_, ?_, fun a h1 h2 h3 h4 => ?_, ?_⟩, j62, fun k0 => ?_⟩
  · have fin : (if kd = 0 then (some ((1 : Int32), w16)) else (some (0, w16))) = some (if kd = 0 then 1 else 0, w16) := by split <;> rfl
    have s62a : sI w13 62 1 kd = some w15 := yS62 (k := 1) W13 (by omega)
    have s62b : sI w15 62 2 pl = some w16 := yS62 (k := 2) W15 (by omega)
    have a62 : aI w1 62 0 = some (nI n) := (yA62 (k := 0) W1 (by omega)).trans (congrArg some (by rw [a2.2.2.2 62 (by omega) (by omega)]; exact w0))
    have s62c : sI (z_si w1 61 4 (nI n)) 62 0 0 = some (z_si (z_si w1 61 4 (nI n)) 62 0 0) := yS62 (k := 0) (h := z_si w1 61 4 (nI n)) W1 (by omega)
    have tail : (jn (fun (y30 : Int32) => (sI w13 62 1 y30).bind fun h32 => (gR h32 61 10 1).bind fun r33 => jn (fun (y34 : Int32) => (sI h32 r33 2 y34).bind fun h36 => (gR h36 61 10 1).bind fun r37 => (aI h36 r37 1).bind fun t38 => if t38 = 0 then (some ((1 : Int32), h36)) else (some (0, h36))) (fun j35 => if ok = 0 then ((gI h32 61 10 9).bind fun t41 => j35 t41) else ((gI h32 61 10 10).bind fun t39 => if t39 ≤ 0 then (j35 (-1)) else ((gI h32 61 10 11).bind fun t40 => j35 t40)))) (fun j31 => if ok = 0 then (j31 1) else ((gI w13 61 10 10).bind fun t42 => j31 t42))) = some (if kd = 0 then 1 else 0, w16) := by
      by_cases c : ok = 0
      · obtain ⟨e1, e2⟩ := kp.1 c
        have s1' : sI w13 62 1 1 = some w15 := (congrArg (sI w13 62 1) e1.symm).trans s62a
        have g9 : gI w15 61 10 9 = some pl := (yI61 W15 9).trans (congrArg some ((congrFun i15 9).trans e2.symm))
        exact jnE ((if_pos c).trans (bnd s1' (bnd (a := 62) (yR61_1 W15) (jnE ((if_pos c).trans (bnd g9 (bnd s62b (bnd (a := 62) (yR61_1 W16) (bnd e16 fin)))))))))
      · obtain ⟨e1, e2⟩ := kp.2 c
        have s1' : sI w13 62 1 (z_i w13 61 10) = some w15 := by rw [← e1]; exact s62a
        have g10 : gI w15 61 10 10 = some (z_i w13 61 10) := (yI61 W15 10).trans (congrArg some (congrFun i15 10))
        refine jnE ((if_neg c).trans (bnd (yI61 W13 10) (bnd s1' (bnd (a := 62) (yR61_1 W15) (jnE ((if_neg c).trans (bnd g10 ?_)))))))
        by_cases c2 : z_i w13 61 10 ≤ 0
        · rw [if_pos c2] at e2
          have s2' : sI w15 62 2 (-1) = some w16 := by rw [← e2]; exact s62b
          exact (if_pos c2).trans (bnd s2' (bnd (a := 62) (yR61_1 W16) (bnd e16 fin)))
        · rw [if_neg c2] at e2
          have g11 : gI w15 61 10 11 = some pl := (yI61 W15 11).trans (congrArg some ((congrFun i15 11).trans e2.symm))
          exact (if_neg c2).trans (bnd g11 (bnd s62b (bnd (a := 62) (yR61_1 W16) (bnd e16 fin))))
    unfold f_X10_readText
    exact gdE (yg61 W) (bnd a1 (bnd (a := 62) (yR61_1 W1) (bnd a62 (bnd (yP61 W1 4 _) (bnd (a := 62) (yR61_1 (h := z_si w1 61 4 (nI n)) W1) (bnd s62c (bnd (yP61 (h := z_si (z_si w1 61 4 (nI n)) 62 0 0) W1 3 0) (bnd (yP61 (h := z_si (z_si (z_si w1 61 4 (nI n)) 62 0 0) 61 3 0) W1 10 0) (bnd b1 (bnd d1 (bnd (a := 62) (yR61_1 W13) tail)))))))))))
  · exact d2.1.trans (b2.1.trans a2.1)
  · exact d2.2.1.trans (b2.2.1.trans a2.2.1)
  · exact d2.2.2.1.trans (b2.2.2.1.trans a2.2.2.1)
  · exact (z_si_o h2).trans ((z_si_o h2).trans ((d2.2.2.2.1 a h1 h3 h4).trans ((b2.2.2.2.1 a h1).trans (o8 a h1 h2 h3))))
  · show z_i (z_si (z_si w13 62 1 kd) 62 2 pl) 61 14 = _
    rw [z_si_o (by omega), z_si_o (by omega), d2.2.2.2.2 14 (by omega) (by omega) (by omega) (by omega) (by omega) (by omega) (by omega), b2.2.2.2.2 14 (by omega) (by omega) (by omega) (by omega), i8, if_neg (by omega), if_neg (by omega), if_neg (by omega)]
  · have e64 : z_i w16 64 = z_i w13 64 := (z_si_o (by omega)).trans (z_si_o (by omega))
    rw [e64]
    rcases res with ⟨rfl, i2, R2, D2⟩ | ⟨rfl, B⟩
    · refine D2 ?_
      have : (if z_i g2 35 8 = -1 then z_i g2 35 9 else 1) = 0 := k0
      rw [if_pos R2.2.2.2] at this
      exact this
    · have := (kp.1 rfl).1
      rw [this] at k0
      exact absurd k0 (by decide)
