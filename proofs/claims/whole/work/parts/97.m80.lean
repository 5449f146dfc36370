theorem VF_of {A A' : Nat → Int32} {c : Nat → Nat → Int32} {l v : Nat} (f : FD A c l v 0) (hv : v ≤ 8) (e0 : A' (19 + 25 * l) = nI v) (e : ∀ j, 1 ≤ j → j < 25 → A' (19 + 25 * l + j) = A (19 + 25 * l + j)) : VF A' l ∧ nf A' l = v := by
  obtain ⟨⟨d, d1, d2, d3⟩, f2, f3⟩ := f
  have v1 : 1 ≤ v := by
    rcases Nat.eq_zero_or_pos v with c | c
    · rw [c, d2] at d1
      exact absurd d1 (by decide)
    · exact c
  have en : nf A' l = v := by
    unfold nf
    rw [e0, nI_clamp (by omega)]
  refine ⟨?_, en⟩
  unfold VF
  rw [en]
  refine ⟨v1, hv, e0, ⟨d, d1, d2, fun j hj => ?_⟩, fun j hj => ?_⟩
  · rw [e (1 + j) (by omega) (by omega)]
    exact d3 j hj
  · rw [e (9 + j) (by omega) (by omega), e (17 + j) (by omega) (by omega)]
    exact f2 j hj
theorem lv_ln {T : Nat → Int32} {n N : Nat} {Kf Pf Vf : Nat → Int32} {q : Nat → Nat} (t : TS T n N Kf Pf Vf q) {g w : Z_H} {i : Nat} (R : REL g w T n N Kf Pf Vf q i) (D : DR g w) : ∃ g2, f_X4_readLevel g 35 = some g2 ∧ CW g g2 ∧ ∃ ok w2, (bd2 (f_X10_takes w 61 0 1 5) fun t51 h52 => if t51 = 0 then (some ((0 : Int32), h52)) else ((gR h52 61 10 13).bind fun r53 => (aI h52 r53 0).bind fun t54 => bd2 (f_X10_formOf h52 61 (t54 - 1)) fun t55 h56 => if t55 = 0 then (some (0, h56)) else (some (1, h56)))) = some (ok, w2) ∧ MF w w2 ∧ ((ok = 1 ∧ ∃ i2, i < i2 ∧ REL g2 w2 T n N Kf Pf Vf q i2 ∧ DR g2 w2) ∨ (ok = 0 ∧ BR g2 N (z_i w2 61 9))) := by
  have G := R.1.1.1
  have z10 : ¬ (1 : Int32) = 0 := by decide
  have n6 := t.2.1
  have hN : z_i g 47 N = 0 := (R.1.2 N (Nat.le_refl _)).1.trans t.2.2.2.2
  obtain ⟨tt, g1, ok1, w1, c1, d1, nm1, mf1, k641, res1⟩ := num_tk t R (x := 0) (lo := 1) (hi := 5) (by omega) (by omega) (by omega)
  have t1 := nm1.2.1
  have t5 := nm1.2.2.1
  obtain ⟨l, rfl⟩ : ∃ l, tt = l + 1 := ⟨tt - 1, by omega⟩
  have G1 := nm1.1.ly G
  have cw1 : CW g g1 := CW_on nm1.1 (by omega) (by omega)
  have d1' : f_X10_takes w 61 0 1 5 = some (ok1, w1) := d1
  have cls : ∀ {v2 : Nat} {g2 : Z_H}, lp (f_X4_readLevel_l1 35 (nI (l + 1))) FU (1, 0, 0, g1) = some (nI v2, g2) → LY g2 → f_X4_readLevel g 35 = some (z_si g2 40 (l + 1) (mn (nI v2) 8)) := fun {v2 g2} e H => by
    unfold f_X4_readLevel
    exact gdE (G.is rfl rfl) (bd2E c1 (bnd e (bnd (a := 36) (yR35_0 H) (bnd (a := 40) (yR36_7 H) (bnd (yS40 H (by omega)) rfl)))))
  rcases res1 with ⟨rfl, iN1, R1, k651, s91⟩ | ⟨rfl, b1⟩
  · have W1 := R1.2.1.1.1
    have lv0 : LV g1 w1 g1 w1 l 0 1 := fun h => ⟨h, by omega, ⟨⟨fun _ => 1, rfl, rfl, fun j hj => absurd hj (Nat.not_lt_zero _)⟩, fun j hj => absurd hj (Nat.not_lt_zero _), fun j hj => absurd hj (Nat.not_lt_zero _)⟩, fun _ _ => rfl, fun _ _ _ _ _ => rfl, fun _ _ _ _ => rfl⟩
    obtain ⟨v2, g2, e2, hv2, cw2, res⟩ := lv_lp t (l := l) (by omega) 600 (i + 1) 0 1 FU FU g1 w1 (by omega) (by unfold FU; omega) (by unfold FU; omega) R1 (by omega) (by omega) lv0
    have G2 : LY g2 := LY_x cw2.1 cw2.2.2.1 G1
    have a65 : aI w1 65 0 = some (nI (l + 1)) := (yA65 (k := 0) W1 (by omega)).trans (congrArg some (by rw [k651, upd_s]))
    refine ⟨_, cls e2 G2, (cw1.tr cw2).tr (CW_si (by omega) (by omega)), ?_⟩
    have mod : ∀ {ok : Int32} {u : Z_H}, f_X10_formOf w1 61 (nI l) = some (ok, u) → (ok = 0 ∨ ok = 1) → (bd2 (f_X10_takes w 61 0 1 5) fun t51 h52 => if t51 = 0 then (some ((0 : Int32), h52)) else ((gR h52 61 10 13).bind fun r53 => (aI h52 r53 0).bind fun t54 => bd2 (f_X10_formOf h52 61 (t54 - 1)) fun t55 h56 => if t55 = 0 then (some (0, h56)) else (some (1, h56)))) = some (ok, u) := fun {ok u} e ho => by
      refine bd2E d1' ((if_neg z10).trans (bnd (yR61_13 W1) (bnd a65 ?_)))
      rw [nI_p1]
      refine bd2E e ?_
      rcases ho with rfl | rfl
      · exact if_pos rfl
      · exact if_neg z10
    have v1E : (19 : Int32) + 25 * nI l = nI (19 + 25 * l) := by rw [show (25 : Int32) = nI 25 from rfl, nI_mul, show (19 : Int32) = nI 19 from rfl, nI_add]
    have fo : ∀ {r : Option (Int32 × Z_H)}, ((lp (f_X10_formOf_l1 61 (nI (19 + 25 * l))) FU (1, 0, w1)).bind fun t => (match t with | (.inl h5) => (bd2 (f_X10_fails h5 61) fun t47 h48 => gd (decide (t47 &&& 1 = t47)) (some (t47, h48))) | (.inr (.inl h6)) => (some (0, h6)) | (.inr (.inr (v7, h8))) => ((gR h8 61 10 12).bind fun r49 => (f_X10_lesser h8 8 v7).bind fun t50 => (sI h8 r49 (nI (19 + 25 * l)) t50).bind fun h51 => some (1, h51)))) = r → f_X10_formOf w1 61 (nI l) = r := fun {r} e => by
      unfold f_X10_formOf
      refine gdE (yg61 W1) (ltE ?_)
      rw [v1E]
      exact e
    rcases res with ⟨w2, i2, p1, p2, p3, p4, p5⟩ | ⟨w2, p1, p2, p3⟩ | ⟨w2, p1, p2, p3, p4⟩
    · have W2 := p3.2.1.1.1
      let m8 := mn (nI v2) 8
      have ls : f_X10_lesser w2 8 (nI v2) = some m8 := by
        show f_X10_lesser w2 8 (nI v2) = some (mn (nI v2) 8)
        unfold f_X10_lesser mn
        by_cases c : nI v2 ≤ 8
        · rw [if_pos c, if_neg (Int32.not_lt.mpr c)]
        · rw [if_neg c, if_pos (Int32.not_le.mp c)]
      refine ⟨1, z_si w2 64 (19 + 25 * l) m8, mod (fo (bnd p1 (bnd (a := 64) (yR61_12 W2) (bnd ls (bnd (yS64 W2 (by omega)) rfl))))) (Or.inr rfl), (mf1.tr p2).tr MF_64, Or.inl ⟨rfl, i2, by omega, (p3.draft (by omega) (by omega)).told, fun s0 => ?_⟩⟩
      have s2 : z_i g2 35 9 = 0 := (congrFun (z_si_o (by omega)) 9).symm.trans s0
      obtain ⟨l1, l2, l3, l4, l5, l6⟩ := p5 s2
      obtain ⟨vp, rc, z4, z6⟩ := D (s91 l1)
      have m8E : m8 = nI v2 := by
        show mn (nI v2) 8 = _
        unfold mn
        exact if_neg (nI_nlt (a := 8) (by omega) (by omega))
      have kA : ∀ x, z_i (z_si w2 64 (19 + 25 * l) m8) 64 x = if x = 19 + 25 * l then nI v2 else z_i w2 64 x := fun x => by rw [zi_si, if_pos rfl, m8E]
      have kO : ∀ x, x < 19 + 25 * l ∨ 19 + 25 * l + 25 ≤ x → z_i (z_si w2 64 (19 + 25 * l) m8) 64 x = z_i w 64 x := fun x hx => by
        rw [kA, if_neg (by omega), l4 x (by omega), k641]
      obtain ⟨vf, nfe⟩ := VF_of (A' := z_i (z_si w2 64 (19 + 25 * l) m8) 64) l3 l2 (by rw [kA, if_pos rfl]) (fun j h1 h2 => by rw [kA, if_neg (by omega)])
      have gO : ∀ o, o ≠ 35 → o ≠ 40 → o ≠ 41 → o ≠ 42 → o ≠ 43 → z_i (z_si g2 40 (l + 1) m8) o = z_i g o := fun o h1 h2 h3 h4 h5 => by
        rw [z_si_o h2, l5 o h1 h3 h4 h5]
        exact nm1.1.2.2.2 o h1 h1
      have g4 : ∀ x, z_i (z_si g2 40 (l + 1) m8) 40 x = if x = l + 1 then nI v2 else z_i g 40 x := fun x => by
        rw [zi_si, if_pos rfl, m8E, l5 40 (by omega) (by omega) (by omega) (by omega), nm1.1.2.2.2 40 (by omega) (by omega)]
      have gL : ∀ o, o = 41 ∨ o = 42 ∨ o = 43 → ∀ x, x < 8 * (l + 1) ∨ 8 * (l + 1) + 8 ≤ x → z_i (z_si g2 40 (l + 1) m8) o x = z_i g o x := fun o ho x hx => by
        rw [z_si_o (by omega), l6 o ho x hx, nm1.1.2.2.2 o (by omega) (by omega)]
      refine ⟨?_, ⟨fun x hx => ?_, fun r hr => ?_, fun l' hl' => ?_⟩, by rw [kO 144 (by omega)]; exact z4, by rw [kO 146 (by omega)]; exact z6⟩
      · obtain ⟨a, b, c, d, r, lf⟩ := vp
        refine ⟨by rw [kO 3 (by omega)]; exact a, by rw [kO 4 (by omega)]; exact b, by rw [kO 5 (by omega)]; exact c, by rw [kO 6 (by omega)]; exact d, fun x hx => ?_, fun x hx => ?_⟩
        · rw [kO (7 + x) (by omega), kO (11 + x) (by omega), kO (15 + x) (by omega)]
          exact r x hx
        · by_cases cx : x = l
          · rw [cx]
            exact vf
          · exact VF_congr (fun j hj => kO _ (by omega)) (lf x hx)
      · show z_i (z_si g2 40 (l + 1) m8) 36 x = _
        rw [gO 36 (by omega) (by omega) (by omega) (by omega) (by omega), kO (3 + x) (by omega)]
        exact rc.1 x hx
      · show z_i (z_si g2 40 (l + 1) m8) 37 r = _ ∧ z_i (z_si g2 40 (l + 1) m8) 38 r = _ ∧ z_i (z_si g2 40 (l + 1) m8) 39 r = _
        rw [gO 37 (by omega) (by omega) (by omega) (by omega) (by omega), gO 38 (by omega) (by omega) (by omega) (by omega) (by omega), gO 39 (by omega) (by omega) (by omega) (by omega) (by omega), kO (7 + r) (by omega), kO (11 + r) (by omega), kO (15 + r) (by omega)]
        exact rc.2.1 r hr
      · by_cases cx : l' = l
        · subst cx
          refine ⟨?_, fun j hj => ?_⟩
          · show z_i (z_si g2 40 (l' + 1) m8) 40 (l' + 1) = _
            rw [g4, if_pos rfl, kA, if_pos rfl]
          · rw [nfe] at hj
            show z_i (z_si g2 40 (l' + 1) m8) 41 _ = _ ∧ z_i (z_si g2 40 (l' + 1) m8) 42 _ = _ ∧ z_i (z_si g2 40 (l' + 1) m8) 43 _ = _
            have x4 : ∀ o, o ≠ 40 → z_i (z_si g2 40 (l' + 1) m8) o = z_i g2 o := fun o ho => z_si_o ho
            rw [x4 41 (by omega), x4 42 (by omega), x4 43 (by omega), kA, if_neg (by omega), kA, if_neg (by omega), kA, if_neg (by omega)]
            exact l3.2.2 j hj
        · refine RCl_congr (c := fun o => z_i g (33 + o)) (c' := fun o => z_i (z_si g2 40 (l + 1) m8) (33 + o)) (A' := z_i (z_si w2 64 (19 + 25 * l) m8) 64) (vp.2.2.2.2.2 l' hl') (fun j hj => kO _ (by omega)) ⟨?_, fun j hj => ⟨?_, ?_, ?_⟩⟩ (rc.2.2 l' hl')
          · show z_i (z_si g2 40 (l + 1) m8) 40 (l' + 1) = z_i g 40 (l' + 1)
            rw [g4, if_neg (by omega)]
          · exact gL 41 (Or.inl rfl) _ (by omega)
          · exact gL 42 (Or.inr (Or.inl rfl)) _ (by omega)
          · exact gL 43 (Or.inr (Or.inr rfl)) _ (by omega)
    · exact ⟨0, w2, mod (fo (bnd p1 rfl)) (Or.inl rfl), mf1.tr p2, Or.inr ⟨rfl, p3.si (by omega) (by omega)⟩⟩
    · refine ⟨0, z_si w2 61 9 (z_i w2 61 5), mod (fo (bnd p1 (bd2E (e_fails p3 rfl) (gdE (by decide) rfl)))) (Or.inl rfl), (mf1.tr p2).tr MF_9, Or.inr ⟨rfl, ?_⟩⟩
      rw [zi_si, if_pos rfl, if_pos rfl]
      exact p4.si (by omega) (by omega)
  · obtain ⟨i', r', -, -⟩ := nm1.rds R.1.1 hN
    have B1 : BR g1 N (z_i w1 61 9) := ⟨⟨i', r'⟩, by rw [nm1.1.2.2.2 47 (by omega) (by omega)]; exact hN, b1.1, by rw [← b1.1]; exact b1.2⟩
    have e2 : lp (f_X4_readLevel_l1 35 (nI (l + 1))) FU (1, 0, 0, g1) = some (nI 0, g1) := (lp_succ (n := FU - 1)).trans B1.lv
    exact ⟨_, cls e2 G1, cw1.tr (CW_si (by omega) (by omega)), 0, w1, bd2E d1' (if_pos rfl), mf1, Or.inr ⟨rfl, B1.si (by omega) (by omega)⟩⟩
