/-! the law's loop -/
def PLANOK : Prop := ∀ h, Inv h → ∃ r h1 h2, f_X9_plan h 0 = some (r, h1) ∧ f_X10_plan h1 61 = some (r, h2) ∧ Inv h2
theorem sc_ok {L : Nat} {xs : Nat → Int32} {i : Nat} (hi : i < L) (hL : L ≤ 3072) : sc L xs (nI i) = some (xs i) := by
  unfold sc
  rw [nI_clamp (by omega), decide_eq_true (show (0 : Int32) ≤ nI i from nI_pos' (by omega)), decide_eq_true hi, if_pos (show (true && true) = true from rfl)]
theorem law_step (hp : PLANOK) {L : Nat} {xs : Nat → Int32} (hL : L ≤ 3072) {i : Nat} (hi : i + 6 ≤ L) {h : Z_H} (I : Inv h) : ∃ h', Inv h' ∧ ∀ rec, f_L_law_l1 L xs 0 61 rec (nI i, h) = rec (nI (i + 6), h') := by
  have go : ¬ Int32.ofNat L - 6 < nI i := by
    have : Int32.ofNat L - 6 = nI (L - 6) := by
      show nI L - nI 6 = _
      exact nI_sub (by omega)
    rw [this]
    exact nI_nlt (by omega) (by omega)
  have s0 : sc L xs (nI i) = some (xs i) := sc_ok (by omega) hL
  have s1 : sc L xs (nI i + 1) = some (xs (i + 1)) := (congrArg (sc L xs) (nI_add i 1)).trans (sc_ok (by omega) hL)
  have s2 : sc L xs (nI i + 2) = some (xs (i + 2)) := (congrArg (sc L xs) (nI_add i 2)).trans (sc_ok (by omega) hL)
  have s3 : sc L xs (nI i + 3) = some (xs (i + 3)) := (congrArg (sc L xs) (nI_add i 3)).trans (sc_ok (by omega) hL)
  have s4 : sc L xs (nI i + 4) = some (xs (i + 4)) := (congrArg (sc L xs) (nI_add i 4)).trans (sc_ok (by omega) hL)
  have s5 : sc L xs (nI i + 5) = some (xs (i + 5)) := (congrArg (sc L xs) (nI_add i 5)).trans (sc_ok (by omega) hL)
  have e6 : nI i + 6 = nI (i + 6) := nI_add i 6
  generalize ev : xs i &&& 31 = v
  by_cases c0 : v = 0
  · skip
    have OP := @op_feed h I (xs (i + 1)) (xs (i + 2)) (xs (i + 3)) (xs (i + 4)) (xs (i + 5))
    obtain ⟨r, h1, h2, q1, q2, I2⟩ := OP
    refine ⟨h2, I2, fun rec => ?_⟩
    unfold f_L_law_l1
    refine (if_neg go).trans (bnd s0 (ltE (jnE ?_)))
    rw [ev]
    refine (if_pos c0).trans ?_
    exact bnd s1 (bnd s2 (bnd s3 (bnd s4 (bnd s5 (bd2E q1 (bnd s1 (bnd s2 (bnd s3 (bnd s4 (bnd s5 (bd2E q2 ((if_pos rfl).trans (e6 ▸ rfl)))))))))))))
  by_cases c1 : v = 1
  · skip
    have OP := @op_end h I (xs (i + 1))
    obtain ⟨r, h1, h2, q1, q2, I2⟩ := OP
    refine ⟨h2, I2, fun rec => ?_⟩
    unfold f_L_law_l1
    refine (if_neg go).trans (bnd s0 (ltE (jnE ?_)))
    rw [ev]
    refine (if_neg c0).trans ?_
    refine (if_pos c1).trans ?_
    exact bnd s1 (bd2E q1 (bnd s1 (bd2E q2 ((if_pos rfl).trans (e6 ▸ rfl)))))
  by_cases c2 : v = 2
  · skip
    obtain ⟨r, h1, h2, q1, q2, I2⟩ := hp h I
    refine ⟨h2, I2, fun rec => ?_⟩
    unfold f_L_law_l1
    refine (if_neg go).trans (bnd s0 (ltE (jnE ?_)))
    rw [ev]
    refine (if_neg c0).trans ?_
    refine (if_neg c1).trans ?_
    refine (if_pos c2).trans ?_
    exact bd2E q1 (bd2E q2 ((if_pos rfl).trans (e6 ▸ rfl)))
  by_cases c3 : v = 3
  · skip
    have OP := @op_fault h I (xs (i + 1))
    obtain ⟨r, h2, q1, q2, I2⟩ := OP
    refine ⟨h2, I2, fun rec => ?_⟩
    unfold f_L_law_l1
    refine (if_neg go).trans (bnd s0 (ltE (jnE ?_)))
    rw [ev]
    refine (if_neg c0).trans ?_
    refine (if_neg c1).trans ?_
    refine (if_neg c2).trans ?_
    refine (if_pos c3).trans ?_
    exact bnd s1 (bnd q1 (bnd s1 (bd2E q2 ((if_pos rfl).trans (e6 ▸ rfl)))))
  by_cases c4 : v = 4
  · skip
    have OP := @op_months h I (xs (i + 1))
    obtain ⟨r, h1, h2, q1, q2, I2⟩ := OP
    refine ⟨h2, I2, fun rec => ?_⟩
    unfold f_L_law_l1
    refine (if_neg go).trans (bnd s0 (ltE (jnE ?_)))
    rw [ev]
    refine (if_neg c0).trans ?_
    refine (if_neg c1).trans ?_
    refine (if_neg c2).trans ?_
    refine (if_neg c3).trans ?_
    refine (if_pos c4).trans ?_
    exact bnd s1 (bd2E q1 (bnd s1 (bd2E q2 ((if_pos rfl).trans (e6 ▸ rfl)))))
  by_cases c5 : v = 5
  · skip
    have OP := @op_join h I (xs (i + 1))
    obtain ⟨r, h1, h2, q1, q2, I2⟩ := OP
    refine ⟨h2, I2, fun rec => ?_⟩
    unfold f_L_law_l1
    refine (if_neg go).trans (bnd s0 (ltE (jnE ?_)))
    rw [ev]
    refine (if_neg c0).trans ?_
    refine (if_neg c1).trans ?_
    refine (if_neg c2).trans ?_
    refine (if_neg c3).trans ?_
    refine (if_neg c4).trans ?_
    refine (if_pos c5).trans ?_
    exact bnd s1 (bd2E q1 (bnd s1 (bd2E q2 ((if_pos rfl).trans (e6 ▸ rfl)))))
  by_cases c6 : v = 6
  · skip
    have OP := @op_move h I (xs (i + 1)) (xs (i + 2)) (xs (i + 3))
    obtain ⟨r, h1, h2, q1, q2, I2⟩ := OP
    refine ⟨h2, I2, fun rec => ?_⟩
    unfold f_L_law_l1
    refine (if_neg go).trans (bnd s0 (ltE (jnE ?_)))
    rw [ev]
    refine (if_neg c0).trans ?_
    refine (if_neg c1).trans ?_
    refine (if_neg c2).trans ?_
    refine (if_neg c3).trans ?_
    refine (if_neg c4).trans ?_
    refine (if_neg c5).trans ?_
    refine (if_pos c6).trans ?_
    exact bnd s1 (bnd s2 (bnd s3 (bd2E q1 (bnd s1 (bnd s2 (bnd s3 (bd2E q2 ((if_pos rfl).trans (e6 ▸ rfl)))))))))
  by_cases c7 : v = 7
  · skip
    have OP := @op_quit h I (xs (i + 1))
    obtain ⟨r, h1, h2, q1, q2, I2⟩ := OP
    refine ⟨h2, I2, fun rec => ?_⟩
    unfold f_L_law_l1
    refine (if_neg go).trans (bnd s0 (ltE (jnE ?_)))
    rw [ev]
    refine (if_neg c0).trans ?_
    refine (if_neg c1).trans ?_
    refine (if_neg c2).trans ?_
    refine (if_neg c3).trans ?_
    refine (if_neg c4).trans ?_
    refine (if_neg c5).trans ?_
    refine (if_neg c6).trans ?_
    refine (if_pos c7).trans ?_
    exact bnd s1 (bd2E q1 (bnd s1 (bd2E q2 ((if_pos rfl).trans (e6 ▸ rfl)))))
  by_cases c8 : v = 8
  · skip
    have OP := @op_sell h I (xs (i + 1)) (xs (i + 2)) (xs (i + 3))
    obtain ⟨r, h1, h2, q1, q2, I2⟩ := OP
    refine ⟨h2, I2, fun rec => ?_⟩
    unfold f_L_law_l1
    refine (if_neg go).trans (bnd s0 (ltE (jnE ?_)))
    rw [ev]
    refine (if_neg c0).trans ?_
    refine (if_neg c1).trans ?_
    refine (if_neg c2).trans ?_
    refine (if_neg c3).trans ?_
    refine (if_neg c4).trans ?_
    refine (if_neg c5).trans ?_
    refine (if_neg c6).trans ?_
    refine (if_neg c7).trans ?_
    refine (if_pos c8).trans ?_
    exact bnd s1 (bnd s2 (bnd s3 (bd2E q1 (bnd s1 (bnd s2 (bnd s3 (bd2E q2 ((if_pos rfl).trans (e6 ▸ rfl)))))))))
  by_cases c9 : v = 9
  · skip
    have OP := @op_back h I (xs (i + 1)) (xs (i + 2))
    obtain ⟨r, h1, h2, q1, q2, I2⟩ := OP
    refine ⟨h2, I2, fun rec => ?_⟩
    unfold f_L_law_l1
    refine (if_neg go).trans (bnd s0 (ltE (jnE ?_)))
    rw [ev]
    refine (if_neg c0).trans ?_
    refine (if_neg c1).trans ?_
    refine (if_neg c2).trans ?_
    refine (if_neg c3).trans ?_
    refine (if_neg c4).trans ?_
    refine (if_neg c5).trans ?_
    refine (if_neg c6).trans ?_
    refine (if_neg c7).trans ?_
    refine (if_neg c8).trans ?_
    refine (if_pos c9).trans ?_
    exact bnd s1 (bnd s2 (bd2E q1 (bnd s1 (bnd s2 (bd2E q2 ((if_pos rfl).trans (e6 ▸ rfl)))))))
  by_cases c10 : v = 10
  · skip
    have OP := @op_draw h I (xs (i + 1)) (xs (i + 2))
    obtain ⟨r, h1, h2, q1, q2, I2⟩ := OP
    refine ⟨h2, I2, fun rec => ?_⟩
    unfold f_L_law_l1
    refine (if_neg go).trans (bnd s0 (ltE (jnE ?_)))
    rw [ev]
    refine (if_neg c0).trans ?_
    refine (if_neg c1).trans ?_
    refine (if_neg c2).trans ?_
    refine (if_neg c3).trans ?_
    refine (if_neg c4).trans ?_
    refine (if_neg c5).trans ?_
    refine (if_neg c6).trans ?_
    refine (if_neg c7).trans ?_
    refine (if_neg c8).trans ?_
    refine (if_neg c9).trans ?_
    refine (if_pos c10).trans ?_
    exact bnd s1 (bnd s2 (bd2E q1 (bnd s1 (bnd s2 (bd2E q2 ((if_pos rfl).trans (e6 ▸ rfl)))))))
  by_cases c11 : v = 11
  · skip
    have OP := @op_rule h I (xs (i + 1))
    obtain ⟨r, h2, q1, q2, I2⟩ := OP
    refine ⟨h2, I2, fun rec => ?_⟩
    unfold f_L_law_l1
    refine (if_neg go).trans (bnd s0 (ltE (jnE ?_)))
    rw [ev]
    refine (if_neg c0).trans ?_
    refine (if_neg c1).trans ?_
    refine (if_neg c2).trans ?_
    refine (if_neg c3).trans ?_
    refine (if_neg c4).trans ?_
    refine (if_neg c5).trans ?_
    refine (if_neg c6).trans ?_
    refine (if_neg c7).trans ?_
    refine (if_neg c8).trans ?_
    refine (if_neg c9).trans ?_
    refine (if_neg c10).trans ?_
    refine (if_pos c11).trans ?_
    exact bnd s1 (bnd q1 (bnd s1 (bd2E q2 ((if_pos rfl).trans (e6 ▸ rfl)))))
  by_cases c12 : v = 12
  · skip
    have OP := @op_seller h I (xs (i + 1)) (xs (i + 2))
    obtain ⟨r, h1, h2, q1, q2, I2⟩ := OP
    refine ⟨h2, I2, fun rec => ?_⟩
    unfold f_L_law_l1
    refine (if_neg go).trans (bnd s0 (ltE (jnE ?_)))
    rw [ev]
    refine (if_neg c0).trans ?_
    refine (if_neg c1).trans ?_
    refine (if_neg c2).trans ?_
    refine (if_neg c3).trans ?_
    refine (if_neg c4).trans ?_
    refine (if_neg c5).trans ?_
    refine (if_neg c6).trans ?_
    refine (if_neg c7).trans ?_
    refine (if_neg c8).trans ?_
    refine (if_neg c9).trans ?_
    refine (if_neg c10).trans ?_
    refine (if_neg c11).trans ?_
    refine (if_pos c12).trans ?_
    exact bnd s1 (bnd s2 (bd2E q1 (bnd s1 (bnd s2 (bd2E q2 ((if_pos rfl).trans (e6 ▸ rfl)))))))
  by_cases c13 : v = 13
  · skip
    have OP := @op_tree h I (xs (i + 1)) (xs (i + 2)) (xs (i + 3))
    obtain ⟨r, h1, h2, q1, q2, I2⟩ := OP
    refine ⟨h2, I2, fun rec => ?_⟩
    unfold f_L_law_l1
    refine (if_neg go).trans (bnd s0 (ltE (jnE ?_)))
    rw [ev]
    refine (if_neg c0).trans ?_
    refine (if_neg c1).trans ?_
    refine (if_neg c2).trans ?_
    refine (if_neg c3).trans ?_
    refine (if_neg c4).trans ?_
    refine (if_neg c5).trans ?_
    refine (if_neg c6).trans ?_
    refine (if_neg c7).trans ?_
    refine (if_neg c8).trans ?_
    refine (if_neg c9).trans ?_
    refine (if_neg c10).trans ?_
    refine (if_neg c11).trans ?_
    refine (if_neg c12).trans ?_
    refine (if_pos c13).trans ?_
    exact bnd s1 (bnd s2 (bnd s3 (bd2E q1 (bnd s1 (bnd s2 (bnd s3 (bd2E q2 ((if_pos rfl).trans (e6 ▸ rfl)))))))))
  by_cases c14 : v = 14
  · skip
    have OP := @op_moved h I (xs (i + 1)) (xs (i + 2)) (xs (i + 3))
    obtain ⟨r, h2, q1, q2, I2⟩ := OP
    refine ⟨h2, I2, fun rec => ?_⟩
    unfold f_L_law_l1
    refine (if_neg go).trans (bnd s0 (ltE (jnE ?_)))
    rw [ev]
    refine (if_neg c0).trans ?_
    refine (if_neg c1).trans ?_
    refine (if_neg c2).trans ?_
    refine (if_neg c3).trans ?_
    refine (if_neg c4).trans ?_
    refine (if_neg c5).trans ?_
    refine (if_neg c6).trans ?_
    refine (if_neg c7).trans ?_
    refine (if_neg c8).trans ?_
    refine (if_neg c9).trans ?_
    refine (if_neg c10).trans ?_
    refine (if_neg c11).trans ?_
    refine (if_neg c12).trans ?_
    refine (if_neg c13).trans ?_
    refine (if_pos c14).trans ?_
    exact bnd s1 (bnd s2 (bnd s3 (bnd q1 (bnd s1 (bnd s2 (bnd s3 (bd2E q2 ((if_pos rfl).trans (e6 ▸ rfl)))))))))
  by_cases c15 : v = 15
  · skip
    have OP := @op_why h I (xs (i + 1)) (xs (i + 2)) (xs (i + 3))
    obtain ⟨r, h2, q1, q2, I2⟩ := OP
    refine ⟨h2, I2, fun rec => ?_⟩
    unfold f_L_law_l1
    refine (if_neg go).trans (bnd s0 (ltE (jnE ?_)))
    rw [ev]
    refine (if_neg c0).trans ?_
    refine (if_neg c1).trans ?_
    refine (if_neg c2).trans ?_
    refine (if_neg c3).trans ?_
    refine (if_neg c4).trans ?_
    refine (if_neg c5).trans ?_
    refine (if_neg c6).trans ?_
    refine (if_neg c7).trans ?_
    refine (if_neg c8).trans ?_
    refine (if_neg c9).trans ?_
    refine (if_neg c10).trans ?_
    refine (if_neg c11).trans ?_
    refine (if_neg c12).trans ?_
    refine (if_neg c13).trans ?_
    refine (if_neg c14).trans ?_
    refine (if_pos c15).trans ?_
    exact bnd s1 (bnd s2 (bnd s3 (bnd q1 (bnd s1 (bnd s2 (bnd s3 (bd2E q2 ((if_pos rfl).trans (e6 ▸ rfl)))))))))
  by_cases c16 : v = 16
  · skip
    have OP := @op_common h I (xs (i + 1)) (xs (i + 2)) (xs (i + 3))
    obtain ⟨r, h1, h2, q1, q2, I2⟩ := OP
    refine ⟨h2, I2, fun rec => ?_⟩
    unfold f_L_law_l1
    refine (if_neg go).trans (bnd s0 (ltE (jnE ?_)))
    rw [ev]
    refine (if_neg c0).trans ?_
    refine (if_neg c1).trans ?_
    refine (if_neg c2).trans ?_
    refine (if_neg c3).trans ?_
    refine (if_neg c4).trans ?_
    refine (if_neg c5).trans ?_
    refine (if_neg c6).trans ?_
    refine (if_neg c7).trans ?_
    refine (if_neg c8).trans ?_
    refine (if_neg c9).trans ?_
    refine (if_neg c10).trans ?_
    refine (if_neg c11).trans ?_
    refine (if_neg c12).trans ?_
    refine (if_neg c13).trans ?_
    refine (if_neg c14).trans ?_
    refine (if_neg c15).trans ?_
    refine (if_pos c16).trans ?_
    exact bnd s1 (bnd s2 (bnd s3 (bd2E q1 (bnd s1 (bnd s2 (bnd s3 (bd2E q2 ((if_pos rfl).trans (e6 ▸ rfl)))))))))
  by_cases c17 : v = 17
  · skip
    have OP := @op_sale h I (xs (i + 1)) (xs (i + 2))
    obtain ⟨r, h1, h2, q1, q2, I2⟩ := OP
    refine ⟨h2, I2, fun rec => ?_⟩
    unfold f_L_law_l1
    refine (if_neg go).trans (bnd s0 (ltE (jnE ?_)))
    rw [ev]
    refine (if_neg c0).trans ?_
    refine (if_neg c1).trans ?_
    refine (if_neg c2).trans ?_
    refine (if_neg c3).trans ?_
    refine (if_neg c4).trans ?_
    refine (if_neg c5).trans ?_
    refine (if_neg c6).trans ?_
    refine (if_neg c7).trans ?_
    refine (if_neg c8).trans ?_
    refine (if_neg c9).trans ?_
    refine (if_neg c10).trans ?_
    refine (if_neg c11).trans ?_
    refine (if_neg c12).trans ?_
    refine (if_neg c13).trans ?_
    refine (if_neg c14).trans ?_
    refine (if_neg c15).trans ?_
    refine (if_neg c16).trans ?_
    refine (if_pos c17).trans ?_
    exact bnd s1 (bnd s2 (bd2E q1 (bnd s1 (bnd s2 (bd2E q2 ((if_pos rfl).trans (e6 ▸ rfl)))))))
  by_cases c18 : v = 18
  · skip
    have OP := @op_pay h I (xs (i + 1)) (xs (i + 2)) (xs (i + 3))
    obtain ⟨r, h2, q1, q2, I2⟩ := OP
    refine ⟨h2, I2, fun rec => ?_⟩
    unfold f_L_law_l1
    refine (if_neg go).trans (bnd s0 (ltE (jnE ?_)))
    rw [ev]
    refine (if_neg c0).trans ?_
    refine (if_neg c1).trans ?_
    refine (if_neg c2).trans ?_
    refine (if_neg c3).trans ?_
    refine (if_neg c4).trans ?_
    refine (if_neg c5).trans ?_
    refine (if_neg c6).trans ?_
    refine (if_neg c7).trans ?_
    refine (if_neg c8).trans ?_
    refine (if_neg c9).trans ?_
    refine (if_neg c10).trans ?_
    refine (if_neg c11).trans ?_
    refine (if_neg c12).trans ?_
    refine (if_neg c13).trans ?_
    refine (if_neg c14).trans ?_
    refine (if_neg c15).trans ?_
    refine (if_neg c16).trans ?_
    refine (if_neg c17).trans ?_
    refine (if_pos c18).trans ?_
    exact bnd s1 (bnd s2 (bnd s3 (bnd q1 (bnd s1 (bnd s2 (bnd s3 (bd2E q2 ((if_pos rfl).trans (e6 ▸ rfl)))))))))
  by_cases c19 : v = 19
  · skip
    have OP := @op_quote h I (xs (i + 1)) (xs (i + 2)) (xs (i + 3)) (xs (i + 4))
    obtain ⟨r, h1, h2, q1, q2, I2⟩ := OP
    refine ⟨h2, I2, fun rec => ?_⟩
    unfold f_L_law_l1
    refine (if_neg go).trans (bnd s0 (ltE (jnE ?_)))
    rw [ev]
    refine (if_neg c0).trans ?_
    refine (if_neg c1).trans ?_
    refine (if_neg c2).trans ?_
    refine (if_neg c3).trans ?_
    refine (if_neg c4).trans ?_
    refine (if_neg c5).trans ?_
    refine (if_neg c6).trans ?_
    refine (if_neg c7).trans ?_
    refine (if_neg c8).trans ?_
    refine (if_neg c9).trans ?_
    refine (if_neg c10).trans ?_
    refine (if_neg c11).trans ?_
    refine (if_neg c12).trans ?_
    refine (if_neg c13).trans ?_
    refine (if_neg c14).trans ?_
    refine (if_neg c15).trans ?_
    refine (if_neg c16).trans ?_
    refine (if_neg c17).trans ?_
    refine (if_neg c18).trans ?_
    refine (if_pos c19).trans ?_
    exact bnd s1 (bnd s2 (bnd s3 (bnd s4 (bd2E q1 (bnd s1 (bnd s2 (bnd s3 (bnd s4 (bd2E q2 ((if_pos rfl).trans (e6 ▸ rfl)))))))))))
  by_cases c20 : v = 20
  · skip
    have OP := @op_repaid h I (xs (i + 1)) (xs (i + 2)) (xs (i + 3))
    obtain ⟨r, h1, h2, q1, q2, I2⟩ := OP
    refine ⟨h2, I2, fun rec => ?_⟩
    unfold f_L_law_l1
    refine (if_neg go).trans (bnd s0 (ltE (jnE ?_)))
    rw [ev]
    refine (if_neg c0).trans ?_
    refine (if_neg c1).trans ?_
    refine (if_neg c2).trans ?_
    refine (if_neg c3).trans ?_
    refine (if_neg c4).trans ?_
    refine (if_neg c5).trans ?_
    refine (if_neg c6).trans ?_
    refine (if_neg c7).trans ?_
    refine (if_neg c8).trans ?_
    refine (if_neg c9).trans ?_
    refine (if_neg c10).trans ?_
    refine (if_neg c11).trans ?_
    refine (if_neg c12).trans ?_
    refine (if_neg c13).trans ?_
    refine (if_neg c14).trans ?_
    refine (if_neg c15).trans ?_
    refine (if_neg c16).trans ?_
    refine (if_neg c17).trans ?_
    refine (if_neg c18).trans ?_
    refine (if_neg c19).trans ?_
    refine (if_pos c20).trans ?_
    exact bnd s1 (bnd s2 (bnd s3 (bd2E q1 (bnd s1 (bnd s2 (bnd s3 (bd2E q2 ((if_pos rfl).trans (e6 ▸ rfl)))))))))
  by_cases c21 : v = 21
  · skip
    have OP := @op_gap h I (xs (i + 1)) (xs (i + 2))
    obtain ⟨r, h1, h2, q1, q2, I2⟩ := OP
    refine ⟨h2, I2, fun rec => ?_⟩
    unfold f_L_law_l1
    refine (if_neg go).trans (bnd s0 (ltE (jnE ?_)))
    rw [ev]
    refine (if_neg c0).trans ?_
    refine (if_neg c1).trans ?_
    refine (if_neg c2).trans ?_
    refine (if_neg c3).trans ?_
    refine (if_neg c4).trans ?_
    refine (if_neg c5).trans ?_
    refine (if_neg c6).trans ?_
    refine (if_neg c7).trans ?_
    refine (if_neg c8).trans ?_
    refine (if_neg c9).trans ?_
    refine (if_neg c10).trans ?_
    refine (if_neg c11).trans ?_
    refine (if_neg c12).trans ?_
    refine (if_neg c13).trans ?_
    refine (if_neg c14).trans ?_
    refine (if_neg c15).trans ?_
    refine (if_neg c16).trans ?_
    refine (if_neg c17).trans ?_
    refine (if_neg c18).trans ?_
    refine (if_neg c19).trans ?_
    refine (if_neg c20).trans ?_
    refine (if_pos c21).trans ?_
    exact bnd s1 (bnd s2 (bd2E q1 (bnd s1 (bnd s2 (bd2E q2 ((if_pos rfl).trans (e6 ▸ rfl)))))))
  by_cases c22 : v = 22
  · by_cases z : xs (i + 3) = 0
    · skip
      have OP := @op_lift h I (xs (i + 1)) (xs (i + 2)) 0
      obtain ⟨r, h1, h2, q1, q2, I2⟩ := OP
      refine ⟨h2, I2, fun rec => ?_⟩
      unfold f_L_law_l1
      refine (if_neg go).trans (bnd s0 (ltE (jnE ?_)))
      rw [ev]
      refine (if_neg c0).trans ?_
      refine (if_neg c1).trans ?_
      refine (if_neg c2).trans ?_
      refine (if_neg c3).trans ?_
      refine (if_neg c4).trans ?_
      refine (if_neg c5).trans ?_
      refine (if_neg c6).trans ?_
      refine (if_neg c7).trans ?_
      refine (if_neg c8).trans ?_
      refine (if_neg c9).trans ?_
      refine (if_neg c10).trans ?_
      refine (if_neg c11).trans ?_
      refine (if_neg c12).trans ?_
      refine (if_neg c13).trans ?_
      refine (if_neg c14).trans ?_
      refine (if_neg c15).trans ?_
      refine (if_neg c16).trans ?_
      refine (if_neg c17).trans ?_
      refine (if_neg c18).trans ?_
      refine (if_neg c19).trans ?_
      refine (if_neg c20).trans ?_
      refine (if_neg c21).trans ?_
      refine (if_pos c22).trans ?_
      exact bnd s1 (bnd s2 (bnd s3 (jnE ((if_pos z).trans (bd2E q1 (bnd s1 (bnd s2 (bnd s3 (jnE ((if_pos z).trans (bd2E q2 ((if_pos rfl).trans (e6 ▸ rfl)))))))))))))
    · skip
      have OP := @op_lift h I (xs (i + 1)) (xs (i + 2)) 1
      obtain ⟨r, h1, h2, q1, q2, I2⟩ := OP
      refine ⟨h2, I2, fun rec => ?_⟩
      unfold f_L_law_l1
      refine (if_neg go).trans (bnd s0 (ltE (jnE ?_)))
      rw [ev]
      refine (if_neg c0).trans ?_
      refine (if_neg c1).trans ?_
      refine (if_neg c2).trans ?_
      refine (if_neg c3).trans ?_
      refine (if_neg c4).trans ?_
      refine (if_neg c5).trans ?_
      refine (if_neg c6).trans ?_
      refine (if_neg c7).trans ?_
      refine (if_neg c8).trans ?_
      refine (if_neg c9).trans ?_
      refine (if_neg c10).trans ?_
      refine (if_neg c11).trans ?_
      refine (if_neg c12).trans ?_
      refine (if_neg c13).trans ?_
      refine (if_neg c14).trans ?_
      refine (if_neg c15).trans ?_
      refine (if_neg c16).trans ?_
      refine (if_neg c17).trans ?_
      refine (if_neg c18).trans ?_
      refine (if_neg c19).trans ?_
      refine (if_neg c20).trans ?_
      refine (if_neg c21).trans ?_
      refine (if_pos c22).trans ?_
      exact bnd s1 (bnd s2 (bnd s3 (jnE ((if_neg z).trans (bd2E q1 (bnd s1 (bnd s2 (bnd s3 (jnE ((if_neg z).trans (bd2E q2 ((if_pos rfl).trans (e6 ▸ rfl)))))))))))))
  by_cases c23 : v = 23
  · by_cases z : xs (i + 3) = 0
    · skip
      have OP := @op_place h I (xs (i + 1)) (xs (i + 2)) 0
      obtain ⟨r, h1, h2, q1, q2, I2⟩ := OP
      refine ⟨h2, I2, fun rec => ?_⟩
      unfold f_L_law_l1
      refine (if_neg go).trans (bnd s0 (ltE (jnE ?_)))
      rw [ev]
      refine (if_neg c0).trans ?_
      refine (if_neg c1).trans ?_
      refine (if_neg c2).trans ?_
      refine (if_neg c3).trans ?_
      refine (if_neg c4).trans ?_
      refine (if_neg c5).trans ?_
      refine (if_neg c6).trans ?_
      refine (if_neg c7).trans ?_
      refine (if_neg c8).trans ?_
      refine (if_neg c9).trans ?_
      refine (if_neg c10).trans ?_
      refine (if_neg c11).trans ?_
      refine (if_neg c12).trans ?_
      refine (if_neg c13).trans ?_
      refine (if_neg c14).trans ?_
      refine (if_neg c15).trans ?_
      refine (if_neg c16).trans ?_
      refine (if_neg c17).trans ?_
      refine (if_neg c18).trans ?_
      refine (if_neg c19).trans ?_
      refine (if_neg c20).trans ?_
      refine (if_neg c21).trans ?_
      refine (if_neg c22).trans ?_
      refine (if_pos c23).trans ?_
      exact bnd s1 (bnd s2 (bnd s3 (jnE ((if_pos z).trans (bd2E q1 (bnd s1 (bnd s2 (bnd s3 (jnE ((if_pos z).trans (bd2E q2 ((if_pos rfl).trans (e6 ▸ rfl)))))))))))))
    · skip
      have OP := @op_place h I (xs (i + 1)) (xs (i + 2)) 1
      obtain ⟨r, h1, h2, q1, q2, I2⟩ := OP
      refine ⟨h2, I2, fun rec => ?_⟩
      unfold f_L_law_l1
      refine (if_neg go).trans (bnd s0 (ltE (jnE ?_)))
      rw [ev]
      refine (if_neg c0).trans ?_
      refine (if_neg c1).trans ?_
      refine (if_neg c2).trans ?_
      refine (if_neg c3).trans ?_
      refine (if_neg c4).trans ?_
      refine (if_neg c5).trans ?_
      refine (if_neg c6).trans ?_
      refine (if_neg c7).trans ?_
      refine (if_neg c8).trans ?_
      refine (if_neg c9).trans ?_
      refine (if_neg c10).trans ?_
      refine (if_neg c11).trans ?_
      refine (if_neg c12).trans ?_
      refine (if_neg c13).trans ?_
      refine (if_neg c14).trans ?_
      refine (if_neg c15).trans ?_
      refine (if_neg c16).trans ?_
      refine (if_neg c17).trans ?_
      refine (if_neg c18).trans ?_
      refine (if_neg c19).trans ?_
      refine (if_neg c20).trans ?_
      refine (if_neg c21).trans ?_
      refine (if_neg c22).trans ?_
      refine (if_pos c23).trans ?_
      exact bnd s1 (bnd s2 (bnd s3 (jnE ((if_neg z).trans (bd2E q1 (bnd s1 (bnd s2 (bnd s3 (jnE ((if_neg z).trans (bd2E q2 ((if_pos rfl).trans (e6 ▸ rfl)))))))))))))
  by_cases c24 : v = 24
  · skip
    have OP := @op_due h I (xs (i + 1)) (xs (i + 2))
    obtain ⟨r, h2, q1, q2, I2⟩ := OP
    refine ⟨h2, I2, fun rec => ?_⟩
    unfold f_L_law_l1
    refine (if_neg go).trans (bnd s0 (ltE (jnE ?_)))
    rw [ev]
    refine (if_neg c0).trans ?_
    refine (if_neg c1).trans ?_
    refine (if_neg c2).trans ?_
    refine (if_neg c3).trans ?_
    refine (if_neg c4).trans ?_
    refine (if_neg c5).trans ?_
    refine (if_neg c6).trans ?_
    refine (if_neg c7).trans ?_
    refine (if_neg c8).trans ?_
    refine (if_neg c9).trans ?_
    refine (if_neg c10).trans ?_
    refine (if_neg c11).trans ?_
    refine (if_neg c12).trans ?_
    refine (if_neg c13).trans ?_
    refine (if_neg c14).trans ?_
    refine (if_neg c15).trans ?_
    refine (if_neg c16).trans ?_
    refine (if_neg c17).trans ?_
    refine (if_neg c18).trans ?_
    refine (if_neg c19).trans ?_
    refine (if_neg c20).trans ?_
    refine (if_neg c21).trans ?_
    refine (if_neg c22).trans ?_
    refine (if_neg c23).trans ?_
    refine (if_pos c24).trans ?_
    exact bnd s1 (bnd s2 (bnd q1 (bnd s1 (bnd s2 (bd2E q2 ((if_pos rfl).trans (e6 ▸ rfl)))))))
  by_cases c25 : v = 25
  · skip
    have OP := @op_ready h I (xs (i + 1)) (xs (i + 2))
    obtain ⟨r, h2, q1, q2, I2⟩ := OP
    refine ⟨h2, I2, fun rec => ?_⟩
    unfold f_L_law_l1
    refine (if_neg go).trans (bnd s0 (ltE (jnE ?_)))
    rw [ev]
    refine (if_neg c0).trans ?_
    refine (if_neg c1).trans ?_
    refine (if_neg c2).trans ?_
    refine (if_neg c3).trans ?_
    refine (if_neg c4).trans ?_
    refine (if_neg c5).trans ?_
    refine (if_neg c6).trans ?_
    refine (if_neg c7).trans ?_
    refine (if_neg c8).trans ?_
    refine (if_neg c9).trans ?_
    refine (if_neg c10).trans ?_
    refine (if_neg c11).trans ?_
    refine (if_neg c12).trans ?_
    refine (if_neg c13).trans ?_
    refine (if_neg c14).trans ?_
    refine (if_neg c15).trans ?_
    refine (if_neg c16).trans ?_
    refine (if_neg c17).trans ?_
    refine (if_neg c18).trans ?_
    refine (if_neg c19).trans ?_
    refine (if_neg c20).trans ?_
    refine (if_neg c21).trans ?_
    refine (if_neg c22).trans ?_
    refine (if_neg c23).trans ?_
    refine (if_neg c24).trans ?_
    refine (if_pos c25).trans ?_
    exact bnd s1 (bnd s2 (bnd q1 (bnd s1 (bnd s2 (bd2E q2 ((if_pos rfl).trans (e6 ▸ rfl)))))))
  by_cases c26 : v = 26
  · skip
    have OP := @op_journal h I (xs (i + 1)) (xs (i + 2)) (xs (i + 3))
    obtain ⟨r, h2, q1, q2, I2⟩ := OP
    refine ⟨h2, I2, fun rec => ?_⟩
    unfold f_L_law_l1
    refine (if_neg go).trans (bnd s0 (ltE (jnE ?_)))
    rw [ev]
    refine (if_neg c0).trans ?_
    refine (if_neg c1).trans ?_
    refine (if_neg c2).trans ?_
    refine (if_neg c3).trans ?_
    refine (if_neg c4).trans ?_
    refine (if_neg c5).trans ?_
    refine (if_neg c6).trans ?_
    refine (if_neg c7).trans ?_
    refine (if_neg c8).trans ?_
    refine (if_neg c9).trans ?_
    refine (if_neg c10).trans ?_
    refine (if_neg c11).trans ?_
    refine (if_neg c12).trans ?_
    refine (if_neg c13).trans ?_
    refine (if_neg c14).trans ?_
    refine (if_neg c15).trans ?_
    refine (if_neg c16).trans ?_
    refine (if_neg c17).trans ?_
    refine (if_neg c18).trans ?_
    refine (if_neg c19).trans ?_
    refine (if_neg c20).trans ?_
    refine (if_neg c21).trans ?_
    refine (if_neg c22).trans ?_
    refine (if_neg c23).trans ?_
    refine (if_neg c24).trans ?_
    refine (if_neg c25).trans ?_
    refine (if_pos c26).trans ?_
    exact bnd s1 (bnd s2 (bnd s3 (bnd q1 (bnd s1 (bnd s2 (bnd s3 (bd2E q2 ((if_pos rfl).trans (e6 ▸ rfl)))))))))
  by_cases c27 : v = 27
  · skip
    have OP := @op_books h I (xs (i + 1))
    obtain ⟨r, h1, h2, q1, q2, I2⟩ := OP
    refine ⟨h2, I2, fun rec => ?_⟩
    unfold f_L_law_l1
    refine (if_neg go).trans (bnd s0 (ltE (jnE ?_)))
    rw [ev]
    refine (if_neg c0).trans ?_
    refine (if_neg c1).trans ?_
    refine (if_neg c2).trans ?_
    refine (if_neg c3).trans ?_
    refine (if_neg c4).trans ?_
    refine (if_neg c5).trans ?_
    refine (if_neg c6).trans ?_
    refine (if_neg c7).trans ?_
    refine (if_neg c8).trans ?_
    refine (if_neg c9).trans ?_
    refine (if_neg c10).trans ?_
    refine (if_neg c11).trans ?_
    refine (if_neg c12).trans ?_
    refine (if_neg c13).trans ?_
    refine (if_neg c14).trans ?_
    refine (if_neg c15).trans ?_
    refine (if_neg c16).trans ?_
    refine (if_neg c17).trans ?_
    refine (if_neg c18).trans ?_
    refine (if_neg c19).trans ?_
    refine (if_neg c20).trans ?_
    refine (if_neg c21).trans ?_
    refine (if_neg c22).trans ?_
    refine (if_neg c23).trans ?_
    refine (if_neg c24).trans ?_
    refine (if_neg c25).trans ?_
    refine (if_neg c26).trans ?_
    refine (if_pos c27).trans ?_
    exact bnd s1 (bd2E q1 (bnd s1 (bd2E q2 ((if_pos rfl).trans (e6 ▸ rfl)))))
  by_cases c28 : v = 28
  · skip
    have OP := @op_image h I (xs (i + 1))
    obtain ⟨r, h1, h2, q1, q2, I2⟩ := OP
    refine ⟨h2, I2, fun rec => ?_⟩
    unfold f_L_law_l1
    refine (if_neg go).trans (bnd s0 (ltE (jnE ?_)))
    rw [ev]
    refine (if_neg c0).trans ?_
    refine (if_neg c1).trans ?_
    refine (if_neg c2).trans ?_
    refine (if_neg c3).trans ?_
    refine (if_neg c4).trans ?_
    refine (if_neg c5).trans ?_
    refine (if_neg c6).trans ?_
    refine (if_neg c7).trans ?_
    refine (if_neg c8).trans ?_
    refine (if_neg c9).trans ?_
    refine (if_neg c10).trans ?_
    refine (if_neg c11).trans ?_
    refine (if_neg c12).trans ?_
    refine (if_neg c13).trans ?_
    refine (if_neg c14).trans ?_
    refine (if_neg c15).trans ?_
    refine (if_neg c16).trans ?_
    refine (if_neg c17).trans ?_
    refine (if_neg c18).trans ?_
    refine (if_neg c19).trans ?_
    refine (if_neg c20).trans ?_
    refine (if_neg c21).trans ?_
    refine (if_neg c22).trans ?_
    refine (if_neg c23).trans ?_
    refine (if_neg c24).trans ?_
    refine (if_neg c25).trans ?_
    refine (if_neg c26).trans ?_
    refine (if_neg c27).trans ?_
    refine (if_pos c28).trans ?_
    exact bnd s1 (bd2E q1 (bnd s1 (bd2E q2 ((if_pos rfl).trans (e6 ▸ rfl)))))
  by_cases c29 : v = 29
  · skip
    have OP := @op_again h I (xs (i + 1))
    obtain ⟨r, h1, h2, q1, q2, I2⟩ := OP
    refine ⟨h2, I2, fun rec => ?_⟩
    unfold f_L_law_l1
    refine (if_neg go).trans (bnd s0 (ltE (jnE ?_)))
    rw [ev]
    refine (if_neg c0).trans ?_
    refine (if_neg c1).trans ?_
    refine (if_neg c2).trans ?_
    refine (if_neg c3).trans ?_
    refine (if_neg c4).trans ?_
    refine (if_neg c5).trans ?_
    refine (if_neg c6).trans ?_
    refine (if_neg c7).trans ?_
    refine (if_neg c8).trans ?_
    refine (if_neg c9).trans ?_
    refine (if_neg c10).trans ?_
    refine (if_neg c11).trans ?_
    refine (if_neg c12).trans ?_
    refine (if_neg c13).trans ?_
    refine (if_neg c14).trans ?_
    refine (if_neg c15).trans ?_
    refine (if_neg c16).trans ?_
    refine (if_neg c17).trans ?_
    refine (if_neg c18).trans ?_
    refine (if_neg c19).trans ?_
    refine (if_neg c20).trans ?_
    refine (if_neg c21).trans ?_
    refine (if_neg c22).trans ?_
    refine (if_neg c23).trans ?_
    refine (if_neg c24).trans ?_
    refine (if_neg c25).trans ?_
    refine (if_neg c26).trans ?_
    refine (if_neg c27).trans ?_
    refine (if_neg c28).trans ?_
    refine (if_pos c29).trans ?_
    exact bnd s1 (bd2E q1 (bnd s1 (bd2E q2 ((if_pos rfl).trans (e6 ▸ rfl)))))
  refine ⟨h, I, fun rec => ?_⟩
  unfold f_L_law_l1
  refine (if_neg go).trans (bnd s0 (ltE (jnE ?_)))
  rw [ev]
  refine (if_neg c0).trans ?_
  refine (if_neg c1).trans ?_
  refine (if_neg c2).trans ?_
  refine (if_neg c3).trans ?_
  refine (if_neg c4).trans ?_
  refine (if_neg c5).trans ?_
  refine (if_neg c6).trans ?_
  refine (if_neg c7).trans ?_
  refine (if_neg c8).trans ?_
  refine (if_neg c9).trans ?_
  refine (if_neg c10).trans ?_
  refine (if_neg c11).trans ?_
  refine (if_neg c12).trans ?_
  refine (if_neg c13).trans ?_
  refine (if_neg c14).trans ?_
  refine (if_neg c15).trans ?_
  refine (if_neg c16).trans ?_
  refine (if_neg c17).trans ?_
  refine (if_neg c18).trans ?_
  refine (if_neg c19).trans ?_
  refine (if_neg c20).trans ?_
  refine (if_neg c21).trans ?_
  refine (if_neg c22).trans ?_
  refine (if_neg c23).trans ?_
  refine (if_neg c24).trans ?_
  refine (if_neg c25).trans ?_
  refine (if_neg c26).trans ?_
  refine (if_neg c27).trans ?_
  refine (if_neg c28).trans ?_
  refine (if_neg c29).trans ?_
  rw [← e6]
theorem law_pure (hp : PLANOK) {L : Nat} {xs : Nat → Int32} (hL : L ≤ 3072) {h : Z_H} (hn : z_n h = 0) (ht : z_t h = 0) : ∃ h', f_L_law L xs h = some (1, h') ∧ z_n h' ≤ 171 ∧ z_t h' ≤ 31045 := by
  obtain ⟨g1, g2, g3, g4, e1, e2, e3, e4, I⟩ := c_all hn ht
  have key := lp_ex (b := f_L_law_l1 L xs 0 61) (fun k (g : Z_H) => (nI (6 * k), g)) (fun _ g => Inv g) (fun g => some (.inr g)) (L / 6) ?_ ?_ (L / 6) FU 0 g4 (by omega) (by unfold FU; omega) I
  · obtain ⟨g, J, key⟩ := key
    have key' : lp (f_L_law_l1 L xs 0 61) FU (0, g4) = some (.inr g) := key
    refine ⟨g, ?_, ?_, ?_⟩
    · unfold f_L_law
      exact (e1 _).trans (bnd e2 ((e3 _).trans (bnd e4 (bnd key' rfl))))
    · have c := J.2.2.2.2.2.1
      have i0 : ∀ x : Int32, im1 x ≤ 1 := fun x => by unfold im1; split <;> omega
      have := i0 (z_i g 71 0)
      have := i0 (z_i g 71 1)
      have := i0 (z_i g 71 2)
      omega
    · have c := J.2.2.2.2.2.2
      have i0 : ∀ x : Int32, im1 x ≤ 1 := fun x => by unfold im1; split <;> omega
      have k3 : im1 (z_i g 71 0) + im1 (z_i g 71 1) + im1 (z_i g 71 2) ≤ 3 := by
        have := i0 (z_i g 71 0)
        have := i0 (z_i g 71 1)
        have := i0 (z_i g 71 2)
        omega
      rw [c]
      exact Nat.add_le_add_left (Nat.mul_le_mul_left 3412 k3) 20809
  · rintro k g hk J
    obtain ⟨h', J', st⟩ := law_step hp (xs := xs) hL (i := 6 * k) (by omega) J
    exact ⟨h', J', fun rec => (st rec).trans (by rw [show 6 * k + 6 = 6 * (k + 1) by omega])⟩
  · rintro rec g _
    unfold f_L_law_l1
    refine if_pos ?_
    rcases Nat.lt_or_ge L 6 with c | c
    · have : L = 0 ∨ L = 1 ∨ L = 2 ∨ L = 3 ∨ L = 4 ∨ L = 5 := by omega
      rcases this with rfl | rfl | rfl | rfl | rfl | rfl <;> decide
    · have : Int32.ofNat L - 6 = nI (L - 6) := by
        show nI L - nI 6 = _
        exact nI_sub (by omega)
      rw [this]
      exact nI_lt (by omega) (by omega)
