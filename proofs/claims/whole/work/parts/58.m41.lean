/-- why a move can't be: the class and the model say the same -/
theorem rsn {h : Z_H} (I : Inv h) {x y z : Int32} : ∃ r, f_X9_reasonAgainst h 0 x y z = some r ∧ (∀ g, (LY g ∧ z_i g 62 = z_i h 62 ∧ z_i g 61 14 = -1) → ∃ h', f_X10_reason g 61 x y z = some (r, h') ∧ QS g h') ∧ (r = 0 → ∃ s to mo, x = nI s ∧ y = nI to ∧ z = nI mo ∧ s < nn (z_i h 62) ∧ to < nn (z_i h 62) ∧ s ≠ 0 ∧ nwN (z_i h 62) ≤ mo ∧ mo ≤ lastN (z_i h 62) ∧ ¬ spS (z_i h 62) s (nI mo) = nI to ∧ rgB (z_i h 62) s to mo = false ∧ (mc (z_i h 62) s < 12 ∨ (hmO (z_i h 62) s mo).isSome = true)) := by
  have H := I.1
  have C := I.ca
  have hv := I.v
  have L : LK (cl h) (z_i h 62) := I.2.1.lk
  have h14 := I.2.2.1
  have Iq : ∀ g, (LY g ∧ z_i g 62 = z_i h 62 ∧ z_i g 61 14 = -1) → LY g ∧ z_i g 62 = z_i h 62 ∧ z_i g 61 14 = -1 := fun g q => q
  generalize eA : z_i h 62 = A at *
  have hN := hv.1
  have h10 := hN.2.1
  obtain ⟨en, h99⟩ := C.now
  have hl99 : lastN A ≤ 99 := by unfold lastN; omega
  have hnl : nwN A ≤ lastN A := by unfold lastN; omega
  have isT : ∀ g s, LY g → z_i g 62 = A → s < nn A → f_X10_isSeller g 61 (nI s) = some 1 := fun g s G e hs => e_isS_t G (by rw [e]; exact hN) (by rw [e]; exact hs)
  have isF : ∀ g x, LY g → z_i g 62 = A → (x < 0 ∨ (¬ x < 0 ∧ nI (nn A) ≤ x)) → f_X10_isSeller g 61 x = some 0 := fun g x G e hx => e_isS_f G (by rw [e]; exact hN) (by rw [e]; exact hx)
  have z1 : ¬ (1 : Int32) = 0 := by decide
  rcases nI_or (x := x) (n := nn A) (by omega) with ⟨s, hs, rfl⟩ | ⟨-, hx⟩
  · rcases nI_or (x := y) (n := nn A) (by omega) with ⟨to, hto, rfl⟩ | ⟨-, hy⟩
    · by_cases hs0 : nI s = 0
      · refine ⟨1, ?_, fun g q => ?_, fun e => absurd e (by decide)⟩
        · unfold f_X9_reasonAgainst
          refine gdE (yg0 H) (bnd (yR0_0 H) (bnd (yR1_2 H) (bnd (c_has_t C hs) ?_)))
          refine (if_neg z1).trans (bnd (c_has_t C hto) ?_)
          refine (if_neg z1).trans ?_
          exact if_pos hs0
        · obtain ⟨G, e, -⟩ := Iq g q
          refine ⟨g, ?_, QS.rf⟩
          unfold f_X10_reason
          refine gdE (yg61 G) (bnd (isT g s G e hs) ?_)
          refine (if_neg z1).trans (bnd (isT g to G e hto) ?_)
          refine (if_neg z1).trans ?_
          exact if_pos hs0
      · by_cases m1 : z < nI (nwN A)
        · refine ⟨2, ?_, fun g q => ?_, fun e => absurd e (by decide)⟩
          · unfold f_X9_reasonAgainst
            refine gdE (yg0 H) (bnd (yR0_0 H) (bnd (yR1_2 H) (bnd (c_has_t C hs) ?_)))
            refine (if_neg z1).trans (bnd (c_has_t C hto) ?_)
            refine (if_neg z1).trans ((if_neg hs0).trans ?_)
            refine bnd (yR0_0 H) (bnd ((yI1 H 8).trans (congrArg some en)) ?_)
            exact if_pos m1
          · obtain ⟨G, e, -⟩ := Iq g q
            refine ⟨g, ?_, QS.rf⟩
            unfold f_X10_reason
            refine gdE (yg61 G) (bnd (isT g s G e hs) ?_)
            refine (if_neg z1).trans (bnd (isT g to G e hto) ?_)
            refine (if_neg z1).trans ((if_neg hs0).trans ?_)
            refine bnd (e_last G e hN).1 ?_
            exact if_pos m1
        · by_cases m2 : z ≤ nI (lastN A)
          · obtain ⟨mo, hmo0, rfl⟩ := nI_of (x := z) (fun q => m1 (Int32.lt_of_lt_of_le q (nI_pos' (by omega))))
            have hmo : nwN A ≤ mo := by
              rcases Nat.lt_or_ge mo (nwN A) with q | q
              · exact absurd (nI_lt q (by omega)) m1
              · exact q
            have hmo2 : mo ≤ lastN A := by
              rcases Nat.lt_or_ge (lastN A) mo with q | q
              · exact absurd m2 (nI_ge q hmo0)
              · exact q
            have ls := c_hasLeft H C.2.2.2.2.2.1 hN hs
            have lt_ := c_hasLeft H C.2.2.2.2.2.1 hN hto
            have es : ∀ g s, LY g → z_i g 62 = A → s < nn A → f_X10_hasQuit g 61 (nI s) = some (if A (147 + 94 * s + 1) = -1 then 0 else 1) := fun g s G e hs => by rw [e_hasQuit G (by omega), e]
            have pre : ∀ R, ((f_X0_hasLeft h 13 (nI s)).bind fun t8 => if t8 = 0 then ((f_X0_hasLeft h 13 (nI to)).bind fun t9 => if t9 = 0 then ((f_X0_sponsorAt h 13 (nI s) (nI mo)).bind fun t10 => if t10 = nI to then (some 4) else ((f_X9_makesRing h 0 (nI s) (nI to) (nI mo)).bind fun t11 => if t11 = 0 then ((gR h 13 0 4).bind fun r12 => (aI h r12 (nI s)).bind fun t13 => if t13 < 12 then (some 0) else ((f_X0_hasMoveOf h 13 (nI s) (nI mo)).bind fun t14 => if t14 = 0 then (some 6) else (some 0))) else (some 5))) else (some 3)) else (some 3)) = some R → f_X9_reasonAgainst h 0 (nI s) (nI to) (nI mo) = some R := by
              intro R hb
              unfold f_X9_reasonAgainst
              refine gdE (yg0 H) (bnd (yR0_0 H) (bnd (yR1_2 H) (bnd (c_has_t C hs) ?_)))
              refine (if_neg z1).trans (bnd (c_has_t C hto) ?_)
              refine (if_neg z1).trans ((if_neg hs0).trans ?_)
              refine bnd (yR0_0 H) (bnd ((yI1 H 8).trans (congrArg some en)) ?_)
              refine (if_neg m1).trans (bnd (c_last C) ?_)
              refine (if_pos m2).trans ?_
              exact hb
            have pre2 : ∀ (g : Z_H) (G : LY g) (e : z_i g 62 = A) (R : Int32 × Z_H), ((f_X10_hasQuit g 61 (nI s)).bind fun t6 => if t6 = 0 then ((f_X10_hasQuit g 61 (nI to)).bind fun t7 => if t7 = 0 then ((f_X10_sponsorAt g 61 (nI s) (nI mo)).bind fun t8 => if t8 = nI to then (some (4, g)) else ((pI g 61 10 14 (nI s)).bind fun h9 => (pI h9 61 10 15 (nI to)).bind fun h10 => (pI h10 61 10 16 (nI mo)).bind fun h11 => bd2 (f_X10_turnsRound h11 61 (nI mo)) fun t12 h13 => (pI h13 61 10 14 (-1)).bind fun h14 => if t12 = 0 then ((f_X10_ofSeller h14 61 (nI s) 4).bind fun t15 => if t15 = 12 then ((f_X10_moveAt h14 61 (nI s) (nI mo)).bind fun t16 => if t16 = (-1) then (some (6, h14)) else (some (0, h14))) else (some (0, h14))) else (some (5, h14)))) else (some (3, g))) else (some (3, g))) = some R → f_X10_reason g 61 (nI s) (nI to) (nI mo) = some R := by
              intro g G e R hb
              unfold f_X10_reason
              refine gdE (yg61 G) (bnd (isT g s G e hs) ?_)
              refine (if_neg z1).trans (bnd (isT g to G e hto) ?_)
              refine (if_neg z1).trans ((if_neg hs0).trans ?_)
              refine bnd (e_last G e hN).1 ?_
              refine (if_neg m1).trans (bnd (e_last G e hN).1 (bnd (e_last G e hN).2 ?_))
              refine (if_pos m2).trans ?_
              exact hb
            by_cases q1 : A (147 + 94 * s + 1) = -1
            · rw [if_pos q1] at ls
              by_cases q2 : A (147 + 94 * to + 1) = -1
              · rw [if_pos q2] at lt_
                have sp := c_sponsorAt (s := s) (m := mo) H hN L.2.2.2.2.2.1 L.2.2.2.2.2.2.2.1 (L.2.2.2.1 s hs) hs (by omega)
                have hMs := L.2.2.2.1 s hs
                have sp2 : ∀ g, LY g → z_i g 62 = A → z_i g 61 14 = -1 → f_X10_sponsorAt g 61 (nI s) (nI mo) = some (spS A s (nI mo)) := fun g G e e14 => by
                  have := e_sponsorAt0 (m := nI mo) (s := s) G (by omega) (by rw [e]; exact hMs.1) (by rw [e]; exact hMs.2.1) (by rw [e14]; exact nI_m1 (by omega))
                  rw [this, e]
                by_cases q3 : spS A s (nI mo) = nI to
                · refine ⟨4, pre 4 ?_, fun g q => ?_, fun e => absurd e (by decide)⟩
                  · refine bnd ls ((if_pos rfl).trans (bnd lt_ ((if_pos rfl).trans (bnd sp ?_))))
                    exact if_pos q3
                  · obtain ⟨G, e, e14⟩ := Iq g q
                    have l1 := es g s G e hs
                    rw [if_pos q1] at l1
                    have l2 := es g to G e hto
                    rw [if_pos q2] at l2
                    refine ⟨g, pre2 g G e _ ?_, QS.rf⟩
                    refine bnd l1 ((if_pos rfl).trans (bnd l2 ((if_pos rfl).trans (bnd (sp2 g G e e14) ?_))))
                    exact if_pos q3
                · have mr := c_makesRing C L hs hto hmo2
                  have t17 : z_i h 17 s = nI (mc A s) := ((C.2.2.2.2.2.1.2.2 s hs).2.2.2.2).trans hMs.2.1
                  have hmv := c_hasMoveOf (m := mo) H L.2.2.2.2.2.1 L.2.2.2.2.2.2.2.1 hN hs hMs (by omega)
                  have h12 := hMs.1
                  have model : ∀ g, (LY g ∧ z_i g 62 = A ∧ z_i g 61 14 = -1) → ∃ k, QS g k ∧ LY k ∧ z_i k 62 = A ∧ ∀ R, (if (if rgB A s to mo then (1 : Int32) else 0) = 0 then ((f_X10_ofSeller k 61 (nI s) 4).bind fun t15 => if t15 = 12 then ((f_X10_moveAt k 61 (nI s) (nI mo)).bind fun t16 => if t16 = (-1) then (some ((6 : Int32), k)) else (some (0, k))) else (some (0, k))) else (some (5, k))) = some R → f_X10_reason g 61 (nI s) (nI to) (nI mo) = some R := by
                    intro g q
                    obtain ⟨G, e, e14⟩ := Iq g q
                    have l1 := es g s G e hs
                    rw [if_pos q1] at l1
                    have l2 := es g to G e hto
                    rw [if_pos q2] at l2
                    let g1 := z_si g 61 14 (nI s)
                    let g2 := z_si g1 61 15 (nI to)
                    let g3 := z_si g2 61 16 (nI mo)
                    have G1 : LY g1 := G
                    have G2 : LY g2 := G
                    have G3 : LY g3 := G
                    have g362 : z_i g3 62 = A := by
                      show z_i (z_si (z_si (z_si g 61 14 (nI s)) 61 15 (nI to)) 61 16 (nI mo)) 62 = _
                      rw [z_si_o (by omega), z_si_o (by omega), z_si_o (by omega), e]
                    obtain ⟨g4, t1, t2⟩ := e_turns G3 g362 hN hv.2.1 hv.2.2.2.2.1 hv.2.2.2.2.2.1 hs hto rfl rfl rfl hmo2
                    have G4 := t2.ly G3
                    let k := z_si g4 61 14 (-1)
                    have qk : QS g k := by
                      refine ⟨t2.1, t2.2.1, t2.2.2.1, fun a ha => ?_, ?_⟩
                      · have h61 : a ≠ 61 := fun e => by rw [e] at ha; cases ha
                        have hr : a < 61 ∨ a = 62 ∨ a = 63 ∨ 70 < a := by
                          unfold scr at ha
                          simp only [Bool.or_eq_false_iff, Bool.and_eq_false_iff, decide_eq_false_iff_not] at ha
                          omega
                        show z_i (z_si g4 61 14 (-1)) a = _
                        rw [z_si_o h61, t2.2.2.2.1 a hr]
                        show z_i (z_si (z_si (z_si g 61 14 (nI s)) 61 15 (nI to)) 61 16 (nI mo)) a = _
                        rw [z_si_o h61, z_si_o h61, z_si_o h61]
                      · rw [e14]
                        rfl
                    refine ⟨k, qk, G4, ?_, fun R hR => pre2 g G e _ ?_⟩
                    · show z_i (z_si g4 61 14 (-1)) 62 = _
                      rw [z_si_o (by omega), t2.a, g362]
                    · refine bnd l1 ((if_pos rfl).trans (bnd l2 ((if_pos rfl).trans (bnd (sp2 g G e e14) ?_))))
                      refine (if_neg q3).trans ?_
                      refine bnd (yP61 G 14 (nI s)) (bnd (yP61 G1 15 (nI to)) (bnd (yP61 G2 16 (nI mo)) ?_))
                      refine bd2E t1 ?_
                      refine bnd (yP61 G4 14 (-1)) ?_
                      exact hR
                  cases hrg : rgB A s to mo with
                  | true =>
                    rw [hrg] at mr model
                    have mr : f_X9_makesRing h 0 (nI s) (nI to) (nI mo) = some 1 := mr
                    refine ⟨5, pre 5 ?_, fun g q => ?_, fun e => absurd e (by decide)⟩
                    · refine bnd ls ((if_pos rfl).trans (bnd lt_ ((if_pos rfl).trans (bnd sp ?_))))
                      refine (if_neg q3).trans (bnd mr ?_)
                      exact if_neg z1
                    · obtain ⟨k, k1, -, -, k2⟩ := model g q
                      exact ⟨k, k2 _ (if_neg (show ¬ (1 : Int32) = 0 by decide)), k1⟩
                  | false =>
                    rw [hrg] at mr model
                    have mr : f_X9_makesRing h 0 (nI s) (nI to) (nI mo) = some 0 := mr
                    have o4 : ∀ k, LY k → z_i k 62 = A → f_X10_ofSeller k 61 (nI s) 4 = some (nI (mc A s)) := fun k K e => by rw [e_os4 K (by omega), e, hMs.2.1]
                    by_cases q4 : mc A s < 12
                    · refine ⟨0, pre 0 ?_, fun g q => ?_, fun _ => ⟨s, to, mo, rfl, rfl, rfl, hs, hto, fun e => hs0 (by rw [e]; rfl), hmo, hmo2, q3, hrg, Or.inl q4⟩⟩
                      · refine bnd ls ((if_pos rfl).trans (bnd lt_ ((if_pos rfl).trans (bnd sp ?_))))
                        refine (if_neg q3).trans (bnd mr ?_)
                        refine (if_pos rfl).trans ?_
                        refine bnd (yR13_4 H) (bnd ((yA17 H (show s < 10 by omega)).trans (congrArg some t17)) ?_)
                        exact if_pos (show nI (mc A s) < (12 : Int32) from nI_lt (b := 12) q4 (by omega))
                      · obtain ⟨k, k1, K, e, k2⟩ := model g q
                        refine ⟨k, k2 _ ?_, k1⟩
                        refine (if_pos (show (0 : Int32) = 0 from rfl)).trans (bnd (o4 k K e) ?_)
                        exact if_neg (fun e => by
                          have := (nI_eq (a := mc A s) (b := 12) (by omega) (by omega)).mp e
                          omega)
                    · have q5 : mc A s = 12 := by omega
                      have cl6 : ∀ r, ((f_X0_hasMoveOf h 13 (nI s) (nI mo)).bind fun t14 => if t14 = 0 then (some 6) else (some 0)) = some r → f_X9_reasonAgainst h 0 (nI s) (nI to) (nI mo) = some r := fun r hr => by
                        refine pre r ?_
                        refine bnd ls ((if_pos rfl).trans (bnd lt_ ((if_pos rfl).trans (bnd sp ?_))))
                        refine (if_neg q3).trans (bnd mr ?_)
                        refine (if_pos rfl).trans ?_
                        refine bnd (yR13_4 H) (bnd ((yA17 H (show s < 10 by omega)).trans (congrArg some t17)) ?_)
                        refine (if_neg (show ¬ nI (mc A s) < (12 : Int32) by rw [q5]; decide)).trans ?_
                        exact hr
                      cases hh : hmO A s mo with
                      | none =>
                        rw [hh] at hmv
                        have hmv : f_X0_hasMoveOf h 13 (nI s) (nI mo) = some 0 := hmv
                        refine ⟨6, cl6 6 (bnd hmv (if_pos rfl)), fun g q => ?_, fun e => absurd e (by decide)⟩
                        obtain ⟨k, k1, K, e, k2⟩ := model g q
                        refine ⟨k, k2 _ ?_, k1⟩
                        have ma := e_moveAt (m := mo) K e (show s < 10 by omega) hMs (by omega)
                        rw [hh] at ma
                        refine (if_pos (show (0 : Int32) = 0 from rfl)).trans (bnd (o4 k K e) ?_)
                        refine (if_pos (show nI (mc A s) = (12 : Int32) by rw [q5]; rfl)).trans (bnd ma ?_)
                        exact if_pos rfl
                      | some i =>
                        have hi := (fnd_some _ _ _ hh).2.1
                        rw [hh] at hmv
                        have hmv : f_X0_hasMoveOf h 13 (nI s) (nI mo) = some 1 := hmv
                        refine ⟨0, cl6 0 (bnd hmv (if_neg z1)), fun g q => ?_, fun _ => ⟨s, to, mo, rfl, rfl, rfl, hs, hto, fun e => hs0 (by rw [e]; rfl), hmo, hmo2, q3, hrg, Or.inr (by rw [hh]; rfl)⟩⟩
                        obtain ⟨k, k1, K, e, k2⟩ := model g q
                        refine ⟨k, k2 _ ?_, k1⟩
                        have ma := e_moveAt (m := mo) K e (show s < 10 by omega) hMs (by omega)
                        rw [hh] at ma
                        refine (if_pos (show (0 : Int32) = 0 from rfl)).trans (bnd (o4 k K e) ?_)
                        refine (if_pos (show nI (mc A s) = (12 : Int32) by rw [q5]; rfl)).trans (bnd ma ?_)
                        exact if_neg (show ¬ pe (some i) = -1 from nI_m1 (by omega))
              · rw [if_neg q2] at lt_
                refine ⟨3, pre 3 ?_, fun g q => ?_, fun e => absurd e (by decide)⟩
                · refine bnd ls ((if_pos rfl).trans (bnd lt_ ?_))
                  exact if_neg z1
                · obtain ⟨G, e, e14⟩ := Iq g q
                  have l1 := es g s G e hs
                  rw [if_pos q1] at l1
                  have l2 := es g to G e hto
                  rw [if_neg q2] at l2
                  refine ⟨g, pre2 g G e _ ?_, QS.rf⟩
                  refine bnd l1 ((if_pos rfl).trans (bnd l2 ?_))
                  exact if_neg z1
            · rw [if_neg q1] at ls
              refine ⟨3, pre 3 ?_, fun g q => ?_, fun e => absurd e (by decide)⟩
              · refine bnd ls ?_
                exact if_neg z1
              · obtain ⟨G, e, e14⟩ := Iq g q
                have l1 := es g s G e hs
                rw [if_neg q1] at l1
                refine ⟨g, pre2 g G e _ ?_, QS.rf⟩
                refine bnd l1 ?_
                exact if_neg z1
          · refine ⟨2, ?_, fun g q => ?_, fun e => absurd e (by decide)⟩
            · unfold f_X9_reasonAgainst
              refine gdE (yg0 H) (bnd (yR0_0 H) (bnd (yR1_2 H) (bnd (c_has_t C hs) ?_)))
              refine (if_neg z1).trans (bnd (c_has_t C hto) ?_)
              refine (if_neg z1).trans ((if_neg hs0).trans ?_)
              refine bnd (yR0_0 H) (bnd ((yI1 H 8).trans (congrArg some en)) ?_)
              refine (if_neg m1).trans (bnd (c_last C) ?_)
              exact if_neg m2
            · obtain ⟨G, e, -⟩ := Iq g q
              refine ⟨g, ?_, QS.rf⟩
              unfold f_X10_reason
              refine gdE (yg61 G) (bnd (isT g s G e hs) ?_)
              refine (if_neg z1).trans (bnd (isT g to G e hto) ?_)
              refine (if_neg z1).trans ((if_neg hs0).trans ?_)
              refine bnd (e_last G e hN).1 ?_
              refine (if_neg m1).trans (bnd (e_last G e hN).1 (bnd (e_last G e hN).2 ?_))
              exact if_neg m2
    · refine ⟨1, ?_, fun g q => ?_, fun e => absurd e (by decide)⟩
      · unfold f_X9_reasonAgainst
        refine gdE (yg0 H) (bnd (yR0_0 H) (bnd (yR1_2 H) (bnd (c_has_t C hs) ?_)))
        refine (if_neg z1).trans (bnd (c_has_f C hy) ?_)
        exact if_pos rfl
      · obtain ⟨G, e, -⟩ := Iq g q
        refine ⟨g, ?_, QS.rf⟩
        unfold f_X10_reason
        refine gdE (yg61 G) (bnd (isT g s G e hs) ?_)
        refine (if_neg z1).trans (bnd (isF g y G e hy) ?_)
        exact if_pos rfl
  · refine ⟨1, ?_, fun g q => ?_, fun e => absurd e (by decide)⟩
    · unfold f_X9_reasonAgainst
      refine gdE (yg0 H) (bnd (yR0_0 H) (bnd (yR1_2 H) (bnd (c_has_f C hx) ?_)))
      exact if_pos rfl
    · obtain ⟨G, e, -⟩ := Iq g q
      refine ⟨g, ?_, QS.rf⟩
      unfold f_X10_reason
      refine gdE (yg61 G) (bnd (isF g x G e hx) ?_)
      exact if_pos rfl
theorem op_why {h : Z_H} (I : Inv h) {x y z : Int32} : ∃ r h2, f_X9_why h 0 x y z = some r ∧ f_X10_why h 61 x y z = some (r, h2) ∧ Inv h2 := by
  have H := I.1
  obtain ⟨r, r1, r2, -⟩ := rsn I (x := x) (y := y) (z := z)
  obtain ⟨k, k1, k2⟩ := r2 (z_si h 61 0 0) ⟨H, m62, I.m.2.2.1⟩
  refine ⟨r, k, ?_, ?_, k2.inv I.m⟩
  · unfold f_X9_why
    exact gdE (yg0 H) (bnd r1 rfl)
  · unfold f_X10_why
    exact gdE (yg61 H) (bnd (yP61 H 0 0) (bd2E k1 rfl))
