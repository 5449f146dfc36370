theorem nd_ok {T : Nat → Int32} {n N : Nat} {Kf Pf Vf : Nat → Int32} {q : Nat → Nat} (t : TS T n N Kf Pf Vf q) {g w : Z_H} {i : Nat} (R : REL g w T n N Kf Pf Vf q i) {k : Nat} (h1 : 11 ≤ k) (h2 : k ≤ 17) (hk : Kf i = nI k) {l v need : Nat} (hl : l < 5) (hv : v ≤ 600) (hs : 8 < v → z_i g 35 9 ≠ 0) (hn : 1 ≤ need) (hn2 : need ≤ 1000) : ∃ g2, f_X4_readNode g 35 (nI (l + 1)) (nI v) = some g2 ∧ CW g g2 ∧ ((∃ w2 i2 a b, (∀ rec, f_X10_formOf_l1 61 (nI (19 + 25 * l)) rec (nI need, nI v, w) = rec (nI (if 15 ≤ k then need + 1 else need - 1), nI (v + 1), w2)) ∧ MF w w2 ∧ REL g2 w2 T n N Kf Pf Vf q i2 ∧ i < i2 ∧ a ≤ 99 ∧ b ≤ 20 ∧ (z_i g2 35 9 = 0 → z_i g 35 9 = 0 ∧ v < 8) ∧ (v < 8 → z_i w2 64 = upd (upd (upd (z_i w 64) (19 + 25 * l + (1 + v)) (nI (k - 11))) (19 + 25 * l + (9 + v)) (nI a)) (19 + 25 * l + (17 + v)) (nI b) ∧ z_i g2 41 = upd (z_i g 41) (8 * (l + 1) + v) (nI k) ∧ z_i g2 42 = upd (z_i g 42) (8 * (l + 1) + v) (nI a) ∧ z_i g2 43 = upd (z_i g 43) (8 * (l + 1) + v) (nI b)) ∧ ∀ o, o ≠ 35 → o ≠ 41 → o ≠ 42 → o ≠ 43 → z_i g2 o = z_i g o) ∨ (∃ w2, (∀ rec, f_X10_formOf_l1 61 (nI (19 + 25 * l)) rec (nI need, nI v, w) = some (.inr (.inl w2))) ∧ MF w w2 ∧ BR g2 N (z_i w2 61 9))) := by
  have G := R.1.1.1
  have W := R.2.1.1.1
  have n6 := t.2.1
  have iN : i < N := by
    rcases Nat.lt_or_ge i N with z | z
    · exact z
    · have e : i = N := by have := R.1.1.2.2.2.2; omega
      rw [e, t.2.2.2.2] at hk
      have : (0 : Nat) = k := (nI_eq (a := 0) (b := k) (by omega) (by omega)).mp hk
      omega
  have k47 : z_i g 47 i = nI k := (R.1.2 i (by omega)).1.trans hk
  have mt := R.2.1.2.2.2
  rw [hk] at mt
  obtain ⟨m6, mk⟩ := mt.wd (nI_le (a := 4) (by omega) (by omega))
  have nb : f_X10_nodeBy w 61 (z_l w 61 8) = some (nI (k - 11)) := by
    rw [e_nodeBy W, ← mk]
    unfold nbK
    rw [if_pos (show (11 : Int32) ≤ nI k from nI_le (a := 11) h1 (by omega)), show (11 : Int32) = nI 11 from rfl, nI_sub h1]
  obtain ⟨g6, w6, c6, d6, on6, mf6, k646, R6, z1, z2, s96⟩ := nd_hd t R iN hv hs
  obtain ⟨a, b, g11, c11, on11, res⟩ := nd_nm t R6 (k := k) h1 h2 z1 z2
  have G11 : LY g11 := on11.ly (on6.ly G)
  have k11 : ∀ o, o ≠ 35 → z_i g11 o = z_i g o := fun o ho => (on11.2.2.2 o ho ho).trans (on6.2.2.2 o ho ho)
  have hdc : ∀ r, ((gR g11 35 4 0).bind fun r13 => (f_X3_setNode g11 r13 (nI (l + 1)) (nI v) (nI k) (nI a) (nI b)).bind fun h14 => some h14) = r → f_X4_readNode g 35 (nI (l + 1)) (nI v) = r := fun r e => by
    unfold f_X4_readNode
    exact gdE (G.is rfl rfl) (bnd (yR35_2 G) (bnd R.1.1.a7 (bnd (R.1.1.k.trans (congrArg some k47)) ((if_pos (nI_le (a := 11) h1 (by omega))).trans ((c6 _).trans ((c11 (fun y7 y10 h11 => (gR h11 35 4 0).bind fun r13 => (f_X3_setNode h11 r13 (nI (l + 1)) (nI v) (nI k) y7 y10).bind fun h14 => some h14)).trans e))))))
  have hdm : ∀ rec r, (jn (fun (h20 : Z_H) => jn (fun (h22 : Z_H) => jn (fun (h24 : Z_H) => jn (fun (y26 : Int32) => lt (nI need + y26) fun v28 => rec (v28, (nI v + 1), h24)) (fun j27 => if (3 : Int32) < nI (k - 11) then (j27 1) else (j27 (-1)))) (fun j25 => if (8 : Int32) ≤ nI v then (j25 h22) else ((gR h22 61 10 12).bind fun r29 => (sI h22 r29 ((nI (19 + 25 * l) + 1) + nI v) (nI (k - 11))).bind fun h30 => (gR h30 61 10 12).bind fun r31 => (gR h30 61 10 13).bind fun r32 => (aI h30 r32 1).bind fun t33 => (sI h30 r31 ((nI (19 + 25 * l) + 9) + nI v) t33).bind fun h34 => (gR h34 61 10 12).bind fun r35 => (gR h34 61 10 13).bind fun r36 => (aI h34 r36 2).bind fun t37 => (sI h34 r35 ((nI (19 + 25 * l) + 17) + nI v) t37).bind fun h38 => j25 h38))) (fun j23 => if (3 : Int32) < nI (k - 11) then (j23 h20) else (bd2 (f_X10_takes h20 61 2 0 20) fun t39 h40 => if t39 = 0 then (some (.inr (.inl h40))) else (j23 h40)))) (fun j21 => if nI (k - 11) = 3 then (bd2 (f_X10_takes w6 61 1 0 99) fun t41 h42 => if t41 = 0 then (some (.inr (.inl h42))) else (j21 h42)) else (j21 w6))) = r → f_X10_formOf_l1 61 (nI (19 + 25 * l)) rec (nI need, nI v, w) = r := fun rec r e => by
    unfold f_X10_formOf_l1
    exact (if_neg (nI_nle (by omega) (by omega))).trans (bnd ((yI61 W 6).trans (congrArg some m6)) (jnE ((if_pos rfl).trans (bnd (yL61 W 8) (bnd nb ((if_neg (nI_m1 (by omega))).trans ((d6 _).trans e)))))))
  have cl : ∃ g2, f_X4_readNode g 35 (nI (l + 1)) (nI v) = some g2 ∧ CW g11 g2 ∧ (∀ o, o ≠ 41 → o ≠ 42 → o ≠ 43 → z_i g2 o = z_i g11 o) ∧ (v < 8 → z_i g2 41 = upd (z_i g 41) (8 * (l + 1) + v) (nI k) ∧ z_i g2 42 = upd (z_i g 42) (8 * (l + 1) + v) (nI a) ∧ z_i g2 43 = upd (z_i g 43) (8 * (l + 1) + v) (nI b)) ∧ (∀ p, BR g11 N p → BR g2 N p) ∧ (∀ w2 i2, REL g11 w2 T n N Kf Pf Vf q i2 → REL g2 w2 T n N Kf Pf Vf q i2) := by
    by_cases c8 : v < 8
    · refine ⟨_, hdc _ (bnd (yR35_0 G11) (bnd (c_setNode (l := l + 1) (j := v) G11.plb (by omega) c8 (nI k) (nI a) (nI b)) rfl)), (((CW_si (by omega) (by omega)).tr (CW_si (by omega) (by omega))).tr (CW_si (by omega) (by omega))), fun o h1 h2 h3 => ?_, fun _ => ⟨?_, ?_, ?_⟩, fun p B => ((B.si (by omega) (by omega)).si (by omega) (by omega)).si (by omega) (by omega), fun w2 i2 Q => ((Q.draft (by omega) (by omega)).draft (by omega) (by omega)).draft (by omega) (by omega)⟩
      · rw [z_si_o h3, z_si_o h2, z_si_o h1]
      · rw [z_si_o (by omega), z_si_o (by omega), z_si_i, k11 41 (by omega)]
      · rw [z_si_o (by omega), z_si_i, z_si_o (by omega), k11 42 (by omega)]
      · rw [z_si_i, z_si_o (by omega), z_si_o (by omega), k11 43 (by omega)]
    · refine ⟨g11, hdc _ (bnd (yR35_0 G11) (bnd (a := g11) ?_ rfl)), CW.rf, fun _ _ _ _ => rfl, fun c => absurd c c8, fun _ B => B, fun _ _ Q => Q⟩
      unfold f_X3_setNode
      exact gdE (G11.is rfl rfl) (if_pos (nI_le (a := 8) (by omega) (by omega)))
  obtain ⟨g2, e2, cw2, o2, u2, B2, Q2⟩ := cl
  have cw : CW g g2 := ((CW_on on6 (by omega) (by omega)).tr (CW_on on11 (by omega) (by omega))).tr cw2
  refine ⟨g2, e2, cw, ?_⟩
  rcases res with ⟨w2, i2, d2, mf2, k642, R2, hi2, y1, y2, ha, hb, s92⟩ | ⟨w2, d2, mf2, b2⟩
  · have W2 := R2.2.1.1.1
    have fin : ∀ (rec : (Int32 × Int32 × Z_H) → Option (Z_H ⊕ Z_H ⊕ (Int32 × Z_H))) (u : Z_H), (jn (fun (y26 : Int32) => lt (nI need + y26) fun v28 => rec (v28, (nI v + 1), u)) (fun j27 => if (3 : Int32) < nI (k - 11) then (j27 1) else (j27 (-1)))) = rec (nI (if 15 ≤ k then need + 1 else need - 1), nI (v + 1), u) := fun rec u => by
      have k3l : (3 : Int32) < nI (k - 11) ↔ 3 < k - 11 := nI_ltI (a := 3) (by omega) (by omega)
      by_cases c15 : 15 ≤ k
      · rw [if_pos c15, ← nI_1 need, ← nI_1 v]
        exact jnE (if_pos (k3l.mpr (by omega)))
      · have e : nI need + (-1 : Int32) = nI (need - 1) := by
          rw [← nI_sub (a := need) (b := 1) hn]
          exact (Int32.sub_eq_add_neg _ _).symm
        rw [if_neg c15, ← e, ← nI_1 v]
        exact jnE (if_neg (fun h => absurd (k3l.mp h) (by omega)))
    by_cases c8 : v < 8
    · let u1 := z_si w2 64 (19 + 25 * l + (1 + v)) (nI (k - 11))
      let v2 := z_si u1 64 (19 + 25 * l + (9 + v)) (nI a)
      let u3 := z_si v2 64 (19 + 25 * l + (17 + v)) (nI b)
      have U1 : LY u1 := W2
      have U2 : LY v2 := W2
      have x1 : nI (19 + 25 * l) + 1 + nI v = nI (19 + 25 * l + (1 + v)) := by rw [nI_1, nI_add]; congr 1; omega
      have x9 : nI (19 + 25 * l) + 9 + nI v = nI (19 + 25 * l + (9 + v)) := by rw [show (9 : Int32) = nI 9 from rfl, nI_add, nI_add]; congr 1; omega
      have x17 : nI (19 + 25 * l) + 17 + nI v = nI (19 + 25 * l + (17 + v)) := by rw [show (17 : Int32) = nI 17 from rfl, nI_add, nI_add]; congr 1; omega
      have p1 : aI u1 65 1 = some (nI a) := (yA65 (k := 1) U1 (by omega)).trans (congrArg some ((congrFun (z_si_o (by omega)) 1).trans y1))
      have p2 : aI v2 65 2 = some (nI b) := (yA65 (k := 2) U2 (by omega)).trans (congrArg some ((congrFun ((z_si_o (by omega)).trans (z_si_o (by omega))) 2).trans y2))
      refine Or.inl ⟨u3, i2, a, b, fun rec => hdm rec _ ((d2 _).trans (jnE ((if_neg (nI_ge (b := 8) c8 (by omega))).trans ?_))), ((mf6.tr mf2).tr MF_64).tr (MF_64.tr MF_64), ((Q2 w2 i2 R2).told.told.told), by omega, ha, hb, fun h => ?_, fun _ => ⟨?_, u2 c8⟩, fun o h1 h2 h3 h4 => (o2 o h2 h3 h4).trans (k11 o h1)⟩
      · rw [x1, x9, x17]
        exact bnd (yR61_12 W2) (bnd (yS64 W2 (by omega)) (bnd (a := 64) (yR61_12 U1) (bnd (a := 65) (yR61_13 U1) (bnd p1 (bnd (yS64 U1 (by omega)) (bnd (a := 64) (yR61_12 U2) (bnd (a := 65) (yR61_13 U2) (bnd p2 (bnd (yS64 U2 (by omega)) (fin rec u3))))))))))
      · rw [o2 35 (by omega) (by omega) (by omega)] at h
        exact s96 (s92 h)
      · show z_i (z_si (z_si (z_si w2 64 _ _) 64 _ _) 64 _ _) 64 = _
        rw [z_si_i, z_si_i, z_si_i, k642, k646]
    · refine Or.inl ⟨w2, i2, a, b, fun rec => hdm rec _ ((d2 _).trans (jnE ((if_pos (nI_le (a := 8) (by omega) (by omega))).trans (fin rec w2)))), mf6.tr mf2, Q2 w2 i2 R2, by omega, ha, hb, fun h => ?_, fun c => absurd c c8, fun o h1 h2 h3 h4 => (o2 o h2 h3 h4).trans (k11 o h1)⟩
      rw [o2 35 (by omega) (by omega) (by omega)] at h
      exact s96 (s92 h)
  · exact Or.inr ⟨w2, fun rec => hdm rec _ (d2 _), mf6.tr mf2, B2 _ b2⟩
theorem nd_no {T : Nat → Int32} {n N : Nat} {Kf Pf Vf : Nat → Int32} {q : Nat → Nat} (t : TS T n N Kf Pf Vf q) {g w : Z_H} {i : Nat} (R : REL g w T n N Kf Pf Vf q i) (hk : ¬ 11 ≤ Kf i) {l v need : Nat} (hn : 1 ≤ need) (hn2 : need ≤ 1000) : ∃ g2, f_X4_readNode g 35 (nI (l + 1)) (nI v) = some g2 ∧ CW g g2 ∧ BR g2 N (Pf i) ∧ (∀ rec, f_X10_formOf_l1 61 (nI (19 + 25 * l)) rec (nI need, nI v, w) = some (.inl w)) := by
  have G := R.1.1.1
  have W := R.2.1.1.1
  have iN := R.1.1.2.2.2.2
  obtain ⟨k47, k48, -⟩ := R.1.2 i iN
  obtain ⟨g2, b1, b2, b3⟩ := c_break R.1.1
  have hN : z_i g 47 N = 0 := (R.1.2 N (Nat.le_refl _)).1.trans t.2.2.2.2
  obtain ⟨s, -, sn, p3, -⟩ := (t.2.2.1 i iN).s
  have n6 := t.1
  refine ⟨g2, ?_, CW_on b2 (by omega) (by omega), ⟨⟨i, b2.ly G, R.1.1.2.1, by rw [b3, brk_o (by omega)]; exact R.1.1.2.2.1, by rw [b3, brk_o (by omega)]; exact R.1.1.2.2.2.1, iN⟩, by rw [b2.2.2.2 47 (by omega) (by omega)]; exact hN, ?_, ?_⟩, fun rec => ?_⟩
  · unfold f_X4_readNode
    exact gdE (G.is rfl rfl) (bnd (yR35_2 G) (bnd R.1.1.a7 (bnd (R.1.1.k.trans (congrArg some k47)) ((if_neg hk).trans (bnd b1 rfl)))))
  · rw [b3]
    unfold brk
    rw [if_pos R.2.2.2, upd_s, k48]
  · rw [p3]
    exact nI_m1 (by omega)
  · unfold f_X10_formOf_l1
    refine (if_neg (nI_nle (by omega) (by omega))).trans (bnd (yI61 W 6) (jnE ?_))
    rcases R.2.1.2.2.2.nw with ⟨a, b⟩ | ⟨a, b⟩
    · refine (if_pos a).trans (bnd (yL61 W 8) (bnd (e_nodeBy W _) (if_pos ?_)))
      rw [← b]
      exact if_neg hk
    · exact (if_neg a).trans (if_pos rfl)
