/-! a clause, on both sides -/
theorem go_on {T : Nat → Int32} {n N : Nat} {Kf Pf Vf : Nat → Int32} {q : Nat → Nat} (t : TS T n N Kf Pf Vf q) {g w : Z_H} {i : Nat} (R : REL g w T n N Kf Pf Vf q i) (D : DR g w) (hi : i < N) : ∃ w2, f_X4_goOn g 35 = some (z_si g 35 7 (nI (i + 1))) ∧ f_X10_token w 61 = some w2 ∧ MF w w2 ∧ REL (z_si g 35 7 (nI (i + 1))) w2 T n N Kf Pf Vf q (i + 1) ∧ DR (z_si g 35 7 (nI (i + 1))) w2 := by
  obtain ⟨C, ⟨m, w3, w5, mt⟩, sl, e8⟩ := R
  obtain ⟨w2, b1, b2, b3⟩ := MR_next t (w := w) (i := i) m w3 hi
  have i35 : z_i (z_si g 35 7 (nI (i + 1))) 35 = upd (z_i g 35) 7 (nI (i + 1)) := z_si_i
  have on : ON g (z_si g 35 7 (nI (i + 1))) 35 := TW_si (Or.inl rfl)
  refine ⟨w2, c_goOn C.1 hi, b1, b2.mf, ⟨C.to on (by rw [i35, upd_o (by omega)]) (by rw [i35, upd_s]) hi, b3, sl.to (by rw [i35, upd_o (by omega)]) (by rw [i35, upd_o (by omega)]) (b2.2.2.2.2 10 (by omega) (by omega) (by omega) (by omega)) (b2.2.2.2.2 11 (by omega) (by omega) (by omega) (by omega)) (by omega), by rw [i35, upd_o (by omega)]; exact e8⟩, fun s0 => ?_⟩
  rw [i35, upd_o (by omega)] at s0
  rw [b2.2.2.2.1 64 (by omega)]
  obtain ⟨vp, rc, z4, z6⟩ := D s0
  have e : ∀ o, 3 ≤ o → z_i (z_si g 35 7 (nI (i + 1))) (33 + o) = z_i g (33 + o) := fun o ho => z_si_o (by omega)
  refine ⟨vp, ⟨fun x hx => ?_, fun r hr => ?_, fun l hl => ?_⟩, z4, z6⟩
  · exact (congrFun (e 3 (by omega)) x).trans (rc.1 x hx)
  · obtain ⟨r1, r2, r3⟩ := rc.2.1 r hr
    exact ⟨(congrFun (e 4 (by omega)) r).trans r1, (congrFun (e 5 (by omega)) r).trans r2, (congrFun (e 6 (by omega)) r).trans r3⟩
  · obtain ⟨r1, r2⟩ := rc.2.2 l hl
    refine ⟨(congrFun (e 7 (by omega)) _).trans r1, fun j hj => ?_⟩
    obtain ⟨r3, r4, r5⟩ := r2 j hj
    exact ⟨(congrFun (e 8 (by omega)) _).trans r3, (congrFun (e 9 (by omega)) _).trans r4, (congrFun (e 10 (by omega)) _).trans r5⟩
theorem RC_rk {K K' : Nat → Int32} {c c' : Nat → Nat → Int32} (vp : VP K) (rc : RCp c K) {a : Nat} (ha : a < 4) (eK : ∀ j, j ≠ 7 + a → j ≠ 11 + a → j ≠ 15 + a → K' j = K j) (e : ∀ o, o ≠ 4 → o ≠ 5 → o ≠ 6 → 3 ≤ o → c' o = c o) (ec : ∀ r, r ≠ a → c' 4 r = c 4 r ∧ c' 5 r = c 5 r ∧ c' 6 r = c 6 r) (ea : c' 4 a = K' (7 + a) ∧ c' 5 a = K' (11 + a) ∧ c' 6 a = K' (15 + a)) (b1 : isN (K' (7 + a)) 9999) (b2 : isN (K' (11 + a)) 4) (b3 : isN (K' (15 + a)) 5) : VP K' ∧ RCp c' K' := by
  refine ⟨VP_rk vp (fun j _ _ h1 h2 h3 => eK j h1 h2 h3) ha b1 b2 b3, fun x hx => ?_, fun r hr => ?_, fun l hl => ?_⟩
  · rw [e 3 (by omega) (by omega) (by omega) (by omega), eK (3 + x) (by omega) (by omega) (by omega)]
    exact rc.1 x hx
  · by_cases cr : r = a
    · rw [cr]
      exact ea
    · obtain ⟨q1, q2, q3⟩ := ec r cr
      rw [q1, q2, q3, eK (7 + r) (by omega) (by omega) (by omega), eK (11 + r) (by omega) (by omega) (by omega), eK (15 + r) (by omega) (by omega) (by omega)]
      exact rc.2.1 r hr
  · refine RCl_congr (c := c) (c' := c') (A' := K') (vp.2.2.2.2.2 l hl) (fun j hj => eK _ (by omega) (by omega) (by omega)) ⟨?_, fun j hj => ⟨?_, ?_, ?_⟩⟩ (rc.2.2 l hl)
    · rw [e 7 (by omega) (by omega) (by omega) (by omega)]
    · rw [e 8 (by omega) (by omega) (by omega) (by omega)]
    · rw [e 9 (by omega) (by omega) (by omega) (by omega)]
    · rw [e 10 (by omega) (by omega) (by omega) (by omega)]
/-- what comes of a clause's body -/
def LN (g w g7 w7 : Z_H) (ok : Int32) (T : Nat → Int32) (n N : Nat) (Kf Pf Vf : Nat → Int32) (q : Nat → Nat) (i : Nat) : Prop := CW g g7 ∧ MF w w7 ∧ ((ok = 1 ∧ ∃ i2, i < i2 ∧ REL g7 w7 T n N Kf Pf Vf q i2 ∧ DR g7 w7) ∨ (ok = 0 ∧ BR g7 N (z_i w7 61 9)))
theorem ln_4 {T : Nat → Int32} {n N : Nat} {Kf Pf Vf : Nat → Int32} {q : Nat → Nat} (t : TS T n N Kf Pf Vf q) {g w : Z_H} {i : Nat} (R : REL g w T n N Kf Pf Vf q i) (D : DR g w) (hi : i < N) : ∃ g7 ok w7, f_X4_readLevel (z_si g 35 7 (nI (i + 1))) 35 = some g7 ∧ f_X10_line w 61 465558725996 = some (ok, w7) ∧ LN g w g7 w7 ok T n N Kf Pf Vf q i := by
  obtain ⟨w6, -, d6, mf6, R6, D6⟩ := go_on t R D hi
  obtain ⟨g7, c7, cw7, ok, w7, d7, mf7, res⟩ := lv_ln t R6 D6
  refine ⟨g7, ok, w7, c7, ?_, (CW_si (by omega) (by omega)).tr cw7, mf6.tr mf7, ?_⟩
  · unfold f_X10_line
    exact gdE (yg61 R.2.1.1.1) ((if_pos (lgE.mpr rfl)).trans (bnd d6 d7))
  · rcases res with ⟨e, i2, a, b, c⟩ | b
    · exact Or.inl ⟨e, i2, by omega, b, c⟩
    · exact Or.inr b
theorem ln_5 {T : Nat → Int32} {n N : Nat} {Kf Pf Vf : Nat → Int32} {q : Nat → Nat} (t : TS T n N Kf Pf Vf q) {g w : Z_H} {i : Nat} (R : REL g w T n N Kf Pf Vf q i) (D : DR g w) (hi : i < N) : ∃ g7 ok w7, f_X4_readRank (z_si g 35 7 (nI (i + 1))) 35 = some g7 ∧ f_X10_line w 61 1918987883 = some (ok, w7) ∧ LN g w g7 w7 ok T n N Kf Pf Vf q i := by
  have z10 : ¬ (1 : Int32) = 0 := by decide
  have l0 : ¬ lg_cmp 1918987883 465558725996 = 0 := fun e => absurd (lgE.mp e) (by decide)
  have l1 : lg_cmp 1918987883 1918987883 = 0 := lgE.mpr rfl
  obtain ⟨w6, -, d6, mf6, R6, D6⟩ := go_on t R D hi
  obtain ⟨g7, c7, cw7, res⟩ := rk_ln t R6
  have cw : CW g g7 := (CW_si (by omega) (by omega)).tr cw7
  rcases res with ⟨w1, e1, mf, B⟩ | ⟨w1, w2, e1, e2, mf, B⟩ | ⟨w1, w2, w3, e1, e2, e3, mf, B⟩ | ⟨w1, w2, w3, a, b, c, e1, e2, e3, a1, a3, b9, c4, k65, k64, mf, R7, hi7, s9, k37, k38, fr⟩
  · refine ⟨g7, 0, w1, c7, ?_, cw, mf6.tr mf, Or.inr ⟨rfl, B⟩⟩
    unfold f_X10_line
    exact gdE (yg61 R.2.1.1.1) ((if_neg l0).trans (jnE ((if_pos l1).trans (bnd d6 (jnE ((if_pos l1).trans (bd2E e1 (if_pos rfl))))))))
  · refine ⟨g7, 0, w2, c7, ?_, cw, mf6.tr mf, Or.inr ⟨rfl, B⟩⟩
    unfold f_X10_line
    exact gdE (yg61 R.2.1.1.1) ((if_neg l0).trans (jnE ((if_pos l1).trans (bnd d6 (jnE ((if_pos l1).trans (bd2E e1 ((if_neg z10).trans (jnE ((if_pos l1).trans (bd2E e2 (if_pos rfl))))))))))))
  · refine ⟨g7, 0, w3, c7, ?_, cw, mf6.tr mf, Or.inr ⟨rfl, B⟩⟩
    unfold f_X10_line
    exact gdE (yg61 R.2.1.1.1) ((if_neg l0).trans (jnE ((if_pos l1).trans (bnd d6 (jnE ((if_pos l1).trans (bd2E e1 ((if_neg z10).trans (jnE ((if_pos l1).trans (bd2E e2 ((if_neg z10).trans (jnE ((if_pos l1).trans (bd2E e3 (if_pos rfl))))))))))))))))
  · have W3 := R7.2.1.1.1
    let u1 := z_si w3 64 (7 + a) (nI b)
    let u2 := z_si u1 64 (11 + a) (nI c)
    have U1 : LY u1 := W3
    have x7 : (7 : Int32) + nI a = nI (7 + a) := nI_add 7 a
    have x11 : (11 : Int32) + nI a = nI (11 + a) := nI_add 11 a
    have p0 : aI w3 65 0 = some (nI a) := (yA65 (k := 0) W3 (by omega)).trans (congrArg some (by rw [k65, upd_o (by omega), upd_o (by omega), upd_s]))
    have p1 : aI w3 65 1 = some (nI b) := (yA65 (k := 1) W3 (by omega)).trans (congrArg some (by rw [k65, upd_o (by omega), upd_s]))
    have u65 : z_i u1 65 = z_i w3 65 := z_si_o (by omega)
    have p0' : aI u1 65 0 = some (nI a) := (yA65 (k := 0) U1 (by omega)).trans (congrArg some (by rw [u65, k65, upd_o (by omega), upd_o (by omega), upd_s]))
    have p2' : aI u1 65 2 = some (nI c) := (yA65 (k := 2) U1 (by omega)).trans (congrArg some (by rw [u65, k65, upd_s]))
    have sE : sI w3 64 (7 + nI a) (nI b) = some u1 := by rw [x7]; exact yS64 W3 (by omega)
    have sF : sI u1 64 (11 + nI a) (nI c) = some u2 := by rw [x11]; exact yS64 U1 (by omega)
    refine ⟨g7, 1, u2, c7, ?_, cw, ((mf6.tr mf).tr MF_64).tr MF_64, Or.inl ⟨rfl, i + 1 + 3, by omega, R7.told.told, fun s0 => ?_⟩⟩
    · unfold f_X10_line
      exact gdE (yg61 R.2.1.1.1) ((if_neg l0).trans (jnE ((if_pos l1).trans (bnd d6 (jnE ((if_pos l1).trans (bd2E e1 ((if_neg z10).trans (jnE ((if_pos l1).trans (bd2E e2 ((if_neg z10).trans (jnE ((if_pos l1).trans (bd2E e3 ((if_neg z10).trans (bnd (a := 64) (yR61_12 W3) (jnE ((if_pos l1).trans (bnd (a := 65) (yR61_13 W3) (bnd p0 (bnd (a := 65) (yR61_13 W3) (bnd p1 (bnd sE (bnd (a := 64) (yR61_12 U1) (bnd (a := 65) (yR61_13 U1) (bnd p0' (jnE ((if_pos l1).trans (bnd (a := 65) (yR61_13 U1) (bnd p2' (bnd sF rfl))))))))))))))))))))))))))))))))
    · obtain ⟨vp, rc, z4, z6⟩ := D6 (s9 s0)
      have kE : z_i u2 64 = upd (upd (z_i w6 64) (7 + a) (nI b)) (11 + a) (nI c) := by
        show z_i (z_si (z_si w3 64 _ _) 64 _ _) 64 = _
        rw [z_si_i, z_si_i, k64]
      rw [kE]
      have q7 : upd (upd (z_i w6 64) (7 + a) (nI b)) (11 + a) (nI c) (7 + a) = nI b := by rw [upd_o (by omega), upd_s]
      have q11 : upd (upd (z_i w6 64) (7 + a) (nI b)) (11 + a) (nI c) (11 + a) = nI c := upd_s
      have q15 : upd (upd (z_i w6 64) (7 + a) (nI b)) (11 + a) (nI c) (15 + a) = z_i w6 64 (15 + a) := by rw [upd_o (by omega), upd_o (by omega)]
      have old := vp.2.2.2.2.1 a (by omega)
      have rco := rc.2.1 a (by omega)
      obtain ⟨v1, v2⟩ := RC_rk (K' := upd (upd (z_i w6 64) (7 + a) (nI b)) (11 + a) (nI c)) (c' := fun o => z_i g7 (33 + o)) vp rc (a := a) (by omega) (fun j h1 h2 h3 => by rw [upd_o h2, upd_o h1]) (fun o h1 h2 h3 h4 => fr (33 + o) (by omega) (by omega) (by omega)) (fun r hr => ⟨by show z_i g7 37 r = _; rw [k37, upd_o hr], by show z_i g7 38 r = _; rw [k38, upd_o hr], congrFun (fr 39 (by omega) (by omega) (by omega)) r⟩) ⟨by show z_i g7 37 a = _; rw [k37, upd_s, q7], by show z_i g7 38 a = _; rw [k38, upd_s, q11], by rw [q15]; exact (congrFun (fr 39 (by omega) (by omega) (by omega)) a).trans rco.2.2⟩ (by rw [q7]; exact ⟨b, b9, rfl⟩) (by rw [q11]; exact ⟨c, c4, rfl⟩) (by rw [q15]; exact old.2.2)
      exact ⟨v1, v2, by rw [upd_o (by omega), upd_o (by omega)]; exact z4, by rw [upd_o (by omega), upd_o (by omega)]; exact z6⟩
theorem ln_6 {T : Nat → Int32} {n N : Nat} {Kf Pf Vf : Nat → Int32} {q : Nat → Nat} (t : TS T n N Kf Pf Vf q) {g w : Z_H} {i : Nat} (R : REL g w T n N Kf Pf Vf q i) (D : DR g w) (hi : i < N) : ∃ g7 ok w7, f_X4_readOpens (z_si g 35 7 (nI (i + 1))) 35 = some g7 ∧ f_X10_line w 61 478627065459 = some (ok, w7) ∧ LN g w g7 w7 ok T n N Kf Pf Vf q i := by
  have z10 : ¬ (1 : Int32) = 0 := by decide
  have l0 : ¬ lg_cmp 478627065459 465558725996 = 0 := fun e => absurd (lgE.mp e) (by decide)
  have l1 : ¬ lg_cmp 478627065459 1918987883 = 0 := fun e => absurd (lgE.mp e) (by decide)
  have l2 : lg_cmp 478627065459 478627065459 = 0 := lgE.mpr rfl
  obtain ⟨w6, -, d6, mf6, R6, D6⟩ := go_on t R D hi
  obtain ⟨g7, c7, cw7, res⟩ := op_ln t R6
  have cw : CW g g7 := (CW_si (by omega) (by omega)).tr cw7
  rcases res with ⟨w1, e1, mf, B⟩ | ⟨w1, w2, e1, e2, mf, B⟩ | ⟨w1, w3, a, b, e1, e2, a3, b5, k65, k64, mf, R7, hi7, s9, k39, fr⟩
  · refine ⟨g7, 0, w1, c7, ?_, cw, mf6.tr mf, Or.inr ⟨rfl, B⟩⟩
    unfold f_X10_line
    exact gdE (yg61 R.2.1.1.1) ((if_neg l0).trans (jnE ((if_neg l1).trans ((if_pos l2).trans (bnd d6 (jnE ((if_neg l1).trans (bd2E e1 (if_pos rfl)))))))))
  · refine ⟨g7, 0, w2, c7, ?_, cw, mf6.tr mf, Or.inr ⟨rfl, B⟩⟩
    unfold f_X10_line
    exact gdE (yg61 R.2.1.1.1) ((if_neg l0).trans (jnE ((if_neg l1).trans ((if_pos l2).trans (bnd d6 (jnE ((if_neg l1).trans (bd2E e1 ((if_neg z10).trans (jnE ((if_neg l1).trans (bd2E e2 (if_pos rfl)))))))))))))
  · have W3 := R7.2.1.1.1
    let u1 := z_si w3 64 (15 + a) (nI b)
    let u2 := z_si u1 64 (11 + a) (z_i w6 64 (11 + a))
    have U1 : LY u1 := W3
    have x15 : (15 : Int32) + nI a = nI (15 + a) := nI_add 15 a
    have x11 : (11 : Int32) + nI a = nI (11 + a) := nI_add 11 a
    have p0 : aI w3 65 0 = some (nI a) := (yA65 (k := 0) W3 (by omega)).trans (congrArg some (by rw [k65, upd_o (by omega), upd_s]))
    have p1 : aI w3 65 1 = some (nI b) := (yA65 (k := 1) W3 (by omega)).trans (congrArg some (by rw [k65, upd_s]))
    have u65 : z_i u1 65 = z_i w3 65 := z_si_o (by omega)
    have p0' : aI u1 65 0 = some (nI a) := (yA65 (k := 0) U1 (by omega)).trans (congrArg some (by rw [u65, k65, upd_o (by omega), upd_s]))
    have p4' : aI u1 64 (11 + nI a) = some (z_i w6 64 (11 + a)) := by
      rw [x11]
      refine (yA64 U1 (by omega)).trans (congrArg some ?_)
      show z_i (z_si w3 64 _ _) 64 _ = _
      rw [z_si_i, upd_o (by omega), k64]
    have sE : sI w3 64 (15 + nI a) (nI b) = some u1 := by rw [x15]; exact yS64 W3 (by omega)
    have sF : sI u1 64 (11 + nI a) (z_i w6 64 (11 + a)) = some u2 := by rw [x11]; exact yS64 U1 (by omega)
    refine ⟨g7, 1, u2, c7, ?_, cw, ((mf6.tr mf).tr MF_64).tr MF_64, Or.inl ⟨rfl, i + 1 + 2, by omega, R7.told.told, fun s0 => ?_⟩⟩
    · unfold f_X10_line
      exact gdE (yg61 R.2.1.1.1) ((if_neg l0).trans (jnE ((if_neg l1).trans ((if_pos l2).trans (bnd d6 (jnE ((if_neg l1).trans (bd2E e1 ((if_neg z10).trans (jnE ((if_neg l1).trans (bd2E e2 ((if_neg z10).trans (jnE ((if_neg l1).trans (bnd (a := 64) (yR61_12 W3) (jnE ((if_neg l1).trans (bnd (a := 65) (yR61_13 W3) (bnd p0 (bnd (a := 65) (yR61_13 W3) (bnd p1 (bnd sE (bnd (a := 64) (yR61_12 U1) (bnd (a := 65) (yR61_13 U1) (bnd p0' (jnE ((if_neg l1).trans (bnd (a := 64) (yR61_12 U1) (bnd (a := 65) (yR61_13 U1) (bnd p0' (bnd p4' (bnd sF rfl)))))))))))))))))))))))))))))))))
    · obtain ⟨vp, rc, z4, z6⟩ := D6 (s9 s0)
      have kE : z_i u2 64 = upd (upd (z_i w6 64) (15 + a) (nI b)) (11 + a) (z_i w6 64 (11 + a)) := by
        show z_i (z_si (z_si w3 64 _ _) 64 _ _) 64 = _
        rw [z_si_i, z_si_i, k64]
      rw [kE]
      have q15 : upd (upd (z_i w6 64) (15 + a) (nI b)) (11 + a) (z_i w6 64 (11 + a)) (15 + a) = nI b := by rw [upd_o (by omega), upd_s]
      have q11 : upd (upd (z_i w6 64) (15 + a) (nI b)) (11 + a) (z_i w6 64 (11 + a)) (11 + a) = z_i w6 64 (11 + a) := upd_s
      have q7 : upd (upd (z_i w6 64) (15 + a) (nI b)) (11 + a) (z_i w6 64 (11 + a)) (7 + a) = z_i w6 64 (7 + a) := by rw [upd_o (by omega), upd_o (by omega)]
      have old := vp.2.2.2.2.1 a (by omega)
      have rco := rc.2.1 a (by omega)
      obtain ⟨v1, v2⟩ := RC_rk (K' := upd (upd (z_i w6 64) (15 + a) (nI b)) (11 + a) (z_i w6 64 (11 + a))) (c' := fun o => z_i g7 (33 + o)) vp rc (a := a) (by omega) (fun j h1 h2 h3 => by rw [upd_o h2, upd_o h3]) (fun o h1 h2 h3 h4 => fr (33 + o) (by omega) (by omega)) (fun r hr => ⟨congrFun (fr 37 (by omega) (by omega)) r, congrFun (fr 38 (by omega) (by omega)) r, by show z_i g7 39 r = _; rw [k39, upd_o hr]⟩) ⟨by rw [q7]; exact (congrFun (fr 37 (by omega) (by omega)) a).trans rco.1, by rw [q11]; exact (congrFun (fr 38 (by omega) (by omega)) a).trans rco.2.1, by show z_i g7 39 a = _; rw [k39, upd_s, q15]⟩ (by rw [q7]; exact old.1) (by rw [q11]; exact old.2.1) (by rw [q15]; exact ⟨b, b5, rfl⟩)
      exact ⟨v1, v2, by rw [upd_o (by omega), upd_o (by omega)]; exact z4, by rw [upd_o (by omega), upd_o (by omega)]; exact z6⟩
