/-! plan -/
theorem LY.plb4 {g : Z_H} (H : LY g) : PLB g 4 := by
  have sh : ∀ a k l, a < 72 → kT a = k → lT a = l → SH g a k l := fun a k l ha hk hl => ⟨by have := H.1; omega, (H.2 a ha).1.trans hk, (H.2 a ha).2.1.trans hl⟩
  refine ⟨sh 4 _ _ (by omega) rfl rfl, fun i hi => ?_, sh 8 _ _ (by omega) rfl rfl, fun i hi => ?_, sh 12 _ _ (by omega) rfl rfl, fun i hi => ?_⟩
  · have : i = 0 ∨ i = 1 ∨ i = 2 := by omega
    rcases this with rfl | rfl | rfl
    · exact sh 5 _ _ (by omega) rfl rfl
    · exact sh 6 _ _ (by omega) rfl rfl
    · exact sh 7 _ _ (by omega) rfl rfl
  · have : i = 0 ∨ i = 1 ∨ i = 2 := by omega
    rcases this with rfl | rfl | rfl
    · exact sh 9 _ _ (by omega) rfl rfl
    · exact sh 10 _ _ (by omega) rfl rfl
    · exact sh 11 _ _ (by omega) rfl rfl
  · have : i = 0 ∨ i = 1 ∨ i = 2 ∨ i = 3 ∨ i = 4 ∨ i = 5 ∨ i = 6 ∨ i = 7 := by omega
    rcases this with rfl | rfl | rfl | rfl | rfl | rfl | rfl | rfl <;> exact (H.2 4 (by omega)).2.2 (by omega) _
theorem c_fl {h : Z_H} {a : Nat} (s : SH h a 0 10) : ∃ h', f_J7_fill_53178 h a 0 = some h' ∧ ON h h' a ∧ ∀ k, k < 10 → z_i h' a k = 0 := by
  have k1 := lp_ex (b := f_J7_fill_53178_l1 a 0 (nI 10)) (fun k (g : Z_H) => (nI k, g)) (fun k g => ON h g a ∧ ∀ r, r < k → z_i g a r = 0) some 10 ?_ ?_ 10 FU 0 h rfl (by unfold FU; omega) ⟨TW.rf, fun r hr => absurd hr (Nat.not_lt_zero _)⟩
  · obtain ⟨g, ⟨g1, g2⟩, k1⟩ := k1
    have k1' : lp (f_J7_fill_53178_l1 a 0 (nI 10)) FU (0, h) = some g := k1
    refine ⟨g, ?_, g1, g2⟩
    unfold f_J7_fill_53178
    exact bnd (s.aN (by omega)) (bnd k1' rfl)
  · rintro k q hk ⟨q1, q2⟩
    have s' : SH q a 0 10 := s.to q1.1 q1.2.2.1
    refine ⟨z_si q a k 0, ⟨q1.tr (TW_si (Or.inl rfl)), fun r hr => ?_⟩, fun rec => ?_⟩
    · rw [zi_si, if_pos rfl]
      by_cases e : r = k
      · rw [if_pos e]
      · rw [if_neg e]
        exact q2 r (by omega)
    · unfold f_J7_fill_53178_l1
      refine (if_neg (nI_ge (b := 10) hk (by omega))).trans (bnd (s'.sI hk (by omega) 0) ?_)
      rw [nI_1]
  · rintro rec q _
    unfold f_J7_fill_53178_l1
    exact if_pos (by decide)
theorem c_anew {h : Z_H} (H : LY h) : ∃ h', f_X7_beginAnew h 1 = some h' ∧ z_n h' = z_n h ∧ z_t h' = z_t h ∧ z_x h' = z_x h ∧ (∀ a, a = 0 ∨ (2 ≤ a ∧ a ≤ 12) ∨ 32 ≤ a → z_i h' a = z_i h a) ∧ (∀ k, k ≠ 8 → z_i h' 1 k = z_i h 1 k) ∧ FC (cl h') := by
  let h1 := z_si h 1 8 0
  let h2 := z_si h1 13 0 0
  let h3 := adm h2 0 (-1) 0
  let h5 := z_si h3 21 0 0
  have H1 : LY h1 := H
  have H2 : LY h2 := H
  have H3 : LY h3 := H
  have H5 : LY h5 := H
  have sh : ∀ {g : Z_H} (_ : LY g) (a k l : Nat), a < 72 → kT a = k → lT a = l → SH g a k l := fun {g} G a k l ha hk hl => ⟨by have := G.1; omega, (G.2 a ha).1.trans hk, (G.2 a ha).2.1.trans hl⟩
  obtain ⟨h6, a1, a2, a3⟩ := c_fl (sh H5 30 0 10 (by omega) rfl rfl)
  have H6 : LY h6 := a2.ly H5
  obtain ⟨h7, b1, b2, b3⟩ := c_fl (sh H6 31 0 10 (by omega) rfl rfl)
  have e0 : z_i h2 13 0 = nI 0 := by
    show z_i (z_si h1 13 0 0) 13 0 = _
    rw [zi_si, if_pos rfl, if_pos rfl]
    rfl
  have ad : f_X0_admit h2 13 (-1) 0 = some (0, h3) := c_admit H2 (n := 0) (by omega) e0
  have clr : f_X0_clear h1 13 = some h3 := by
    unfold f_X0_clear
    exact gdE (H1.is rfl rfl) (bnd (yP13 H1 0 0) (bd2E ad rfl))
  have jcl : f_X1_clear h5 29 = some h7 := by
    unfold f_X1_clear
    exact gdE (H5.is rfl rfl) (bnd (yR29_0 H5) (bnd a1 (bnd (yR29_1 H6) (bnd b1 rfl))))
  have o7 : ∀ a, a ≠ 30 → a ≠ 31 → z_i h7 a = z_i h5 a := fun a q1 q2 => (b2.2.2.2 a q2 q2).trans (a2.2.2.2 a q1 q1)
  have i5 : ∀ a k, z_i h5 a k = if a = 21 then (if k = 0 then 0 else z_i h3 21 k) else z_i h3 a k := fun a k => zi_si
  have i3 : ∀ a, a ≠ 13 → a ≠ 14 → a ≠ 15 → a ≠ 16 → a ≠ 17 → a ≠ 20 → z_i h3 a = z_i h2 a := fun a q1 q2 q3 q4 q5 q6 => by
    show z_i (z_si (z_si (z_si (z_si (z_si (z_si h2 14 0 0) 15 0 (-1)) 16 0 0) 17 0 0) 20 0 (-1)) 13 0 (nI (0 + 1))) a = _
    rw [z_si_o q1, z_si_o q6, z_si_o q5, z_si_o q4, z_si_o q3, z_si_o q2]
  have i2 : ∀ a, a ≠ 13 → a ≠ 1 → z_i h2 a = z_i h a := fun a q1 q2 => (z_si_o q1).trans (z_si_o q2)
  refine ⟨h7, ?_, b2.1.trans a2.1, b2.2.1.trans a2.2.1, b2.2.2.1.trans a2.2.2.1, fun a ha => ?_, fun k hk => ?_, ?_⟩
  · unfold f_X7_beginAnew
    exact gdE (H.is rfl rfl) (bnd (yP1 H 8 0) (bnd (yR1_2 H1) (bnd clr (bnd (yR1_3 H3) (bnd (yP21 H3 0 0) (bnd (yR1_4 H5) (bnd jcl rfl)))))))
  · have e5 : z_i h5 a = z_i h3 a := z_si_o (by omega)
    rw [o7 a (by omega) (by omega), e5, i3 a (by omega) (by omega) (by omega) (by omega) (by omega) (by omega), i2 a (by omega) (by omega)]
  · have e5 : z_i h5 1 = z_i h3 1 := z_si_o (by omega)
    rw [o7 1 (by omega) (by omega), e5, i3 1 (by omega) (by omega) (by omega) (by omega) (by omega) (by omega)]
    have e2 : z_i h2 1 = z_i h1 1 := z_si_o (by omega)
    rw [e2]
    show z_i (z_si h 1 8 0) 1 k = _
    rw [zi_si, if_pos rfl, if_neg hk]
  · have e5 : ∀ a, a ≠ 21 → a ≠ 30 → a ≠ 31 → z_i h7 a = z_i h3 a := fun a q1 q2 q3 => (o7 a q2 q3).trans (z_si_o q1)
    have ev : ∀ a k v, a ≠ 21 → a ≠ 30 → a ≠ 31 → z_i h3 a k = v → z_i h7 a k = v := fun a k v q1 q2 q3 e => (congrFun (e5 a q1 q2 q3) k).trans e
    refine ⟨ev 13 0 1 (by omega) (by omega) (by omega) rfl, ev 1 8 0 (by omega) (by omega) (by omega) rfl, ev 14 0 0 (by omega) (by omega) (by omega) rfl, ev 15 0 (-1) (by omega) (by omega) (by omega) rfl, ev 16 0 0 (by omega) (by omega) (by omega) rfl, ev 17 0 0 (by omega) (by omega) (by omega) rfl, ev 20 0 (-1) (by omega) (by omega) (by omega) rfl, ?_, fun s hs => ⟨?_, ?_⟩⟩
    · show z_i h7 21 0 = 0
      rw [o7 21 (by omega) (by omega), i5, if_pos rfl, if_pos rfl]
    · show z_i h7 30 s = 0
      rw [b2.2.2.2 30 (by omega) (by omega)]
      exact a3 s hs
    · exact b3 s hs
theorem plan_ok : PLANOK := by
  intro h I
  have H := I.1
  obtain ⟨-, -, -, -, -, -, -, -, t1, t2, t3⟩ := I.v
  obtain ⟨r1, r2, r3, r4⟩ := I.2.1.2.2.2.2.2.2
  obtain ⟨g, N, s1, s2, tk⟩ := c_scan H (T := z_i h 63) (n := nt (z_i h 62)) t1 (Eq.trans r1 t2) r4 t3
  have G : LY g := LY_x s2.1 s2.2.2.1 H
  obtain ⟨g2, -, d1, d2, -, -, -, -⟩ := rt_ok G t1 t3 tk H t2 (fun _ _ => rfl)
  have G2 : LY g2 := LY_x d2.1 d2.2.2.1 G
  have og : ∀ a, a < 35 ∨ 50 ≤ a → z_i g2 a = z_i h a := fun a ha => (d2.2.2.2 a (by omega)).trans (s2.2.2.2 a (by omega) (by omega))
  obtain ⟨kd, ekd⟩ : ∃ kd, kd = kdF (z_i g2 35) := ⟨_, rfl⟩
  obtain ⟨pl, epl⟩ : ∃ pl, pl = plF (z_i g2 35) := ⟨_, rfl⟩
  let h9 := z_si g2 2 1 0
  let h13 := z_si h9 1 6 kd
  let h17 := z_si h13 1 7 pl
  have H9 : LY h9 := G2
  have H13 : LY h13 := G2
  have H17 : LY h17 := G2
  have kd9 : f_X4_faultKind h9 35 = some kd := (c_kd H9).trans (congrArg some ((congrArg kdF (z_si_o (by omega))).trans ekd.symm))
  have pl13 : f_X4_faultPlace h13 35 = some pl := (c_pl H13).trans (congrArg some ((congrArg plF ((z_si_o (by omega)).trans (z_si_o (by omega)))).trans epl.symm))
  have k17 : z_i h17 1 6 = kd := by
    show z_i (z_si (z_si h9 1 6 kd) 1 7 pl) 1 6 = _
    rw [zi_si, if_pos rfl, if_neg (by omega), zi_si, if_pos rfl, if_pos rfl]
  have pre : ∀ r, (if kd = 0 then ((gR h17 0 9 0).bind fun r20 => (gR h17 r20 7 1).bind fun r21 => (gR h17 0 9 2).bind fun r22 => (gR h17 r22 4 0).bind fun r23 => (f_X3_copyFrom h17 r21 r23).bind fun h24 => (gR h24 0 9 0).bind fun r25 => (f_X7_beginAnew h24 r25).bind fun h26 => some ((0 : Int32), h26)) else (some ((-1), h17))) = r → f_X9_plan h 0 = r := fun r e => by
    unfold f_X9_plan
    exact gdE (H.is rfl rfl) (bnd (yR0_2 H) (bnd (yR0_0 H) (bnd (yR1_0 H) (bnd s1 (bnd (yR0_2 G) (bnd d1 (bnd (yR0_0 G2) (bnd (yR1_0 G2) (bnd (yP2 G2 1 0) (bnd (a := 1) (yR0_0 H9) (bnd (a := 35) (yR0_2 H9) (bnd kd9 (bnd (yP1 H9 6 kd) (bnd (a := 1) (yR0_0 H13) (bnd (a := 35) (yR0_2 H13) (bnd pl13 (bnd (yP1 H13 7 pl) (bnd (a := 1) (yR0_0 H17) (bnd ((yI1 H17 6).trans (congrArg some k17)) e)))))))))))))))))))
  have o17 : ∀ a, a ≠ 1 → a ≠ 2 → z_i h17 a = z_i g2 a := fun a q1 q2 => (z_si_o q1).trans ((z_si_o q1).trans (z_si_o q2))
  have i17 : ∀ k, z_i h17 1 k = if k = 7 then pl else if k = 6 then kd else z_i h 1 k := fun k => by
    show z_i (z_si (z_si (z_si g2 2 1 0) 1 6 kd) 1 7 pl) 1 k = _
    rw [zi_si, if_pos rfl, zi_si, if_pos rfl, z_si_o (by omega), og 1 (by omega)]
  have j17 : ∀ k, z_i h17 2 k = if k = 1 then 0 else z_i h 2 k := fun k => by
    show z_i (z_si (z_si (z_si g2 2 1 0) 1 6 kd) 1 7 pl) 2 k = _
    rw [z_si_o (by omega), z_si_o (by omega), zi_si, if_pos rfl, og 2 (by omega)]
  have va : ∀ (A T : Nat → Int32), VA (upd (upd (upd A 0 0) 1 kd) 2 pl) T := fun A T => by
    have e0 : upd (upd (upd A 0 0) 1 kd) 2 pl 0 = 0 := by rw [upd_o (by omega), upd_o (by omega), upd_s]
    have en : nt (upd (upd (upd A 0 0) 1 kd) 2 pl) = 0 := by unfold nt; rw [e0]; rfl
    unfold VA
    rw [en, e0]
    exact ⟨by omega, rfl, fun i hi => absurd hi (Nat.not_lt_zero _)⟩
  have ra : ∀ (c : Nat → Nat → Int32) (A T : Nat → Int32), c 1 1 = 0 → c 0 6 = kd → c 0 7 = pl → RCa c (upd (upd (upd A 0 0) 1 kd) 2 pl) T := fun c A T q1 q2 q3 => by
    have e0 : upd (upd (upd A 0 0) 1 kd) 2 pl 0 = 0 := by rw [upd_o (by omega), upd_o (by omega), upd_s]
    have en : nt (upd (upd (upd A 0 0) 1 kd) 2 pl) = 0 := by unfold nt; rw [e0]; rfl
    unfold RCa
    rw [en, e0]
    exact ⟨q1, q2.trans (by rw [upd_o (by omega), upd_s]), q3.trans upd_s.symm, fun i hi => absurd hi (Nat.not_lt_zero _)⟩
  by_cases c0 : kd = 0
  · obtain ⟨h24, p1, p2, p3, p4, p5, p6, p7, p8, p9⟩ := c_cp3 (h := h17) (p := 4) (q := 36) H17.plb4 H17.plb (by omega)
    have H24 : LY h24 := LY_x p2 p4 H17
    obtain ⟨h26, q1, q2, q3, q4, q5, q6, fc⟩ := c_anew H24
    have H26 : LY h26 := LY_x q2 q4 H24
    let w := z_si h26 61 0 0
    have W : LY w := H26
    have ow : ∀ a, 50 ≤ a → a ≠ 61 → z_i w a = z_i h a := fun a a1 a2 => (z_si_o a2).trans ((q5 a (by omega)).trans ((p5 a (by omega)).trans ((o17 a (by omega) (by omega)).trans (og a (by omega)))))
    obtain ⟨g2', w2, e1, -, e3, e4, e5, e6⟩ := rt_ok G t1 t3 tk W (by rw [ow 62 (by omega) (by omega)]; exact t2) (fun i _ => congrFun (ow 63 (by omega) (by omega)) i)
    have eg : g2' = g2 := Option.some.inj (e1.symm.trans d1)
    rw [eg, ← ekd] at e3 e6
    rw [eg, ← ekd, ← epl] at e5
    rw [if_pos c0] at e3
    obtain ⟨vp, rc, k4, k6⟩ := e6 c0
    have W2 : LY w2 := LY_x e4.1 e4.2.2.1 W
    obtain ⟨w3, f1, f2, f3⟩ := e_taken W2
    have ec : ∀ a, a ≠ 61 → a ≠ 62 → a ≠ 64 → a ≠ 65 → z_i w3 a = z_i h26 a := fun a a1 a2 a3 a4 => (f2.2.2.2 a a2 a2).trans ((e4.2.2.2.1 a a1 a2 a3 a4).trans (z_si_o a1))
    have n3 : z_n w3 = z_n h := f2.1.trans (e4.1.trans (q2.trans (p2.trans (d2.1.trans s2.1))))
    have tt3 : z_t w3 = z_t h := f2.2.1.trans (e4.2.1.trans (q3.trans (p3.trans (d2.2.1.trans s2.2.1))))
    have x3 : z_x w3 = z_x h := f2.2.2.1.trans (e4.2.2.1.trans (q4.trans (p4.trans (d2.2.2.1.trans s2.2.2.1))))
    have o3 : ∀ a, 66 ≤ a ∨ a = 63 → z_i w3 a = z_i h a := fun a ha => by
      have e61 : z_i w a = z_i h26 a := z_si_o (by omega)
      rw [ec a (by omega) (by omega) (by omega) (by omega), ← e61]
      exact ow a (by omega) (by omega)
    have i61 : z_i w3 61 14 = -1 := by
      rw [f2.2.2.2 61 (by omega) (by omega), e4.2.2.2.2]
      show z_i (z_si h26 61 0 0) 61 14 = -1
      rw [zi_si, if_pos rfl, if_neg (by omega), q5 61 (by omega), p5 61 (by omega), o17 61 (by omega) (by omega), og 61 (by omega)]
      exact I.2.2.1
    refine ⟨0, h26, w3, pre _ ((if_pos c0).trans (bnd (a := 1) (yR0_0 H17) (bnd (a := 4) (yR1_1 H17) (bnd (a := 35) (yR0_2 H17) (bnd (a := 36) (yR35_0 H17) (bnd p1 (bnd (a := 1) (yR0_0 H24) (bnd q1 rfl)))))))), ?_, Inv.of I ⟨n3, tt3, x3, fun a ha => o3 a (by omega), fun j hj => ?_, fun j _ => congrFun (o3 63 (Or.inr rfl)) j, o3 71 (by omega)⟩ ?_ i61⟩
    · unfold f_X10_plan
      exact gdE (yg61 H26) (bnd (yP61 H26 0 0) (bd2E e3 ((if_neg (by decide)).trans (bnd f1 rfl))))
    · rw [f3, tkn_h (by omega), e5, upd_o (by omega), upd_o (by omega), upd_o (by omega), ow 62 (by omega) (by omega)]
    · rw [f3]
      have c26 : ∀ o, o < 32 → cl w3 o = cl h26 o := fun o ho => ec (1 + o) (by omega) (by omega) (by omega) (by omega)
      have c11 : cl w3 1 1 = 0 := by
        rw [c26 1 (by omega)]
        show z_i h26 2 1 = 0
        rw [q5 2 (by omega), p5 2 (by omega), j17, if_pos rfl]
      have c06 : ∀ k, k ≠ 8 → cl w3 0 k = z_i h17 1 k := fun k hk => by
        rw [c26 0 (by omega)]
        show z_i h26 1 k = _
        rw [q6 k hk, p5 1 (by omega)]
      have cp : ∀ o, o < 12 → 3 ≤ o → cl w3 o = z_i h24 (1 + o) := fun o h1 h2 => (c26 o (by omega)).trans (q5 (1 + o) (by omega))
      have g36 : ∀ o, 36 ≤ o → z_i h17 o = z_i g2 o := fun o ho => o17 o (by omega) (by omega)
      refine RS_fresh vp k4 k6 ⟨fun x hx => ?_, fun r hr => ⟨?_, ?_, ?_⟩, fun l hl => ⟨?_, fun j hj => ⟨?_, ?_, ?_⟩⟩⟩ ?_ ?_ ?_
      · rw [cp 3 (by omega) (by omega), p6 x hx, g36 36 (by omega)]
        exact rc.1 x hx
      · rw [cp 4 (by omega) (by omega)]
        refine (p7 0 r (by omega) hr).trans ?_
        rw [g36 (36 + 1 + 0) (by omega)]
        exact (rc.2.1 r hr).1
      · rw [cp 5 (by omega) (by omega)]
        refine (p7 1 r (by omega) hr).trans ?_
        rw [g36 (36 + 1 + 1) (by omega)]
        exact (rc.2.1 r hr).2.1
      · rw [cp 6 (by omega) (by omega)]
        refine (p7 2 r (by omega) hr).trans ?_
        rw [g36 (36 + 1 + 2) (by omega)]
        exact (rc.2.1 r hr).2.2
      · rw [cp 7 (by omega) (by omega)]
        refine (p8 (l + 1) (by omega)).trans ?_
        rw [g36 (36 + 4) (by omega)]
        exact (rc.2.2 l hl).1
      · have j8 := (vp.2.2.2.2.2 l hl).2.1
        rw [cp 8 (by omega) (by omega)]
        refine (p9 0 (8 * (l + 1) + j) (by omega) (by omega)).trans ?_
        rw [g36 (36 + 5 + 0) (by omega)]
        exact ((rc.2.2 l hl).2 j hj).1
      · have j8 := (vp.2.2.2.2.2 l hl).2.1
        rw [cp 9 (by omega) (by omega)]
        refine (p9 1 (8 * (l + 1) + j) (by omega) (by omega)).trans ?_
        rw [g36 (36 + 5 + 1) (by omega)]
        exact ((rc.2.2 l hl).2 j hj).2.1
      · have j8 := (vp.2.2.2.2.2 l hl).2.1
        rw [cp 10 (by omega) (by omega)]
        refine (p9 2 (8 * (l + 1) + j) (by omega) (by omega)).trans ?_
        rw [g36 (36 + 5 + 2) (by omega)]
        exact ((rc.2.2 l hl).2 j hj).2.2
      · unfold FC at *
        rw [c26 12 (by omega), c26 0 (by omega), c26 13 (by omega), c26 14 (by omega), c26 15 (by omega), c26 16 (by omega), c26 19 (by omega), c26 20 (by omega), c26 29 (by omega), c26 30 (by omega)]
        exact fc
      · rw [e5]
        exact va _ _
      · rw [e5]
        exact ra _ _ _ c11 ((c06 6 (by omega)).trans k17) ((c06 7 (by omega)).trans (by rw [i17, if_pos rfl]))
  · let w := z_si h17 61 0 0
    have W : LY w := H17
    have ow : ∀ a, 50 ≤ a → a ≠ 61 → z_i w a = z_i h a := fun a a1 a2 => (z_si_o a2).trans ((o17 a (by omega) (by omega)).trans (og a (by omega)))
    obtain ⟨g2', w2, e1, -, e3, e4, e5, -⟩ := rt_ok G t1 t3 tk W (by rw [ow 62 (by omega) (by omega)]; exact t2) (fun i _ => congrFun (ow 63 (by omega) (by omega)) i)
    have eg : g2' = g2 := Option.some.inj (e1.symm.trans d1)
    rw [eg, ← ekd] at e3
    rw [eg, ← ekd, ← epl] at e5
    rw [if_neg c0] at e3
    have ec : ∀ a, a ≠ 61 → a ≠ 62 → a ≠ 64 → a ≠ 65 → z_i w2 a = z_i h17 a := fun a a1 a2 a3 a4 => (e4.2.2.2.1 a a1 a2 a3 a4).trans (z_si_o a1)
    have o3 : ∀ a, 66 ≤ a ∨ a = 63 → z_i w2 a = z_i h a := fun a ha => (ec a (by omega) (by omega) (by omega) (by omega)).trans ((o17 a (by omega) (by omega)).trans (og a (by omega)))
    have i61 : z_i w2 61 14 = -1 := by
      rw [e4.2.2.2.2]
      show z_i (z_si h17 61 0 0) 61 14 = -1
      rw [zi_si, if_pos rfl, if_neg (by omega), o17 61 (by omega) (by omega), og 61 (by omega)]
      exact I.2.2.1
    refine ⟨-1, h17, w2, pre _ (if_neg c0), ?_, Inv.of I ⟨e4.1.trans (d2.1.trans s2.1), e4.2.1.trans (d2.2.1.trans s2.2.1), e4.2.2.1.trans (d2.2.2.1.trans s2.2.2.1), fun a ha => o3 a (by omega), fun j hj => ?_, fun j _ => congrFun (o3 63 (Or.inr rfl)) j, o3 71 (by omega)⟩ ?_ i61⟩
    · unfold f_X10_plan
      exact gdE (yg61 H17) (bnd (yP61 H17 0 0) (bd2E e3 (if_pos rfl)))
    · rw [e5, upd_o (by omega), upd_o (by omega), upd_o (by omega), ow 62 (by omega) (by omega)]
    · rw [e5, ow 62 (by omega) (by omega)]
      have c17 : ∀ o, o < 32 → cl w2 o = z_i h17 (1 + o) := fun o ho => ec (1 + o) (by omega) (by omega) (by omega) (by omega)
      refine RS_low (T := z_i h 63) I.2.1 (fun j hj => by rw [upd_o (by omega), upd_o (by omega), upd_o (by omega)]) (fun o h1 h2 => (c17 o h2).trans ((o17 (1 + o) (by omega) (by omega)).trans (og (1 + o) (by omega)))) ?_ (va _ _) (ra _ _ _ ?_ ?_ ?_)
      · rw [c17 0 (by omega)]
        show z_i h17 1 8 = z_i h 1 8
        rw [i17, if_neg (by omega), if_neg (by omega)]
      · rw [c17 1 (by omega)]
        show z_i h17 2 1 = 0
        rw [j17, if_pos rfl]
      · rw [c17 0 (by omega)]
        exact k17
      · rw [c17 0 (by omega)]
        show z_i h17 1 7 = pl
        rw [i17, if_pos rfl]
