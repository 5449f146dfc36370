theorem c_cp0 {h : Z_H} {p q n : Nat} (hn : n ≤ 10) (P0 : SH h p (4 + 0) 8) (Q0 : SH h q (4 + 0) 8) (P1 : SH h (p + 1) 0 10) (Q1 : SH h (q + 1) 0 10) (pr1 : z_r h p 1 = some (p + 1)) (qr1 : z_r h q 1 = some (q + 1)) (P2 : SH h (p + 2) 0 10) (Q2 : SH h (q + 2) 0 10) (pr2 : z_r h p 2 = some (p + 2)) (qr2 : z_r h q 2 = some (q + 2)) (P3 : SH h (p + 3) 0 10) (Q3 : SH h (q + 3) 0 10) (pr3 : z_r h p 3 = some (p + 3)) (qr3 : z_r h q 3 = some (q + 3)) (P4 : SH h (p + 4) 0 10) (Q4 : SH h (q + 4) 0 10) (pr4 : z_r h p 4 = some (p + 4)) (qr4 : z_r h q 4 = some (q + 4)) (P5 : SH h (p + 5) 0 120) (Q5 : SH h (q + 5) 0 120) (pr5 : z_r h p 5 = some (p + 5)) (qr5 : z_r h q 5 = some (q + 5)) (P6 : SH h (p + 6) 0 120) (Q6 : SH h (q + 6) 0 120) (pr6 : z_r h p 6 = some (p + 6)) (qr6 : z_r h q 6 = some (q + 6)) (P7 : SH h (p + 7) 0 10) (Q7 : SH h (q + 7) 0 10) (pr7 : z_r h p 7 = some (p + 7)) (qr7 : z_r h q 7 = some (q + 7)) (hd : p + 8 ≤ q ∨ q + 8 ≤ p) (en : z_i h q 0 = nI n) : ∃ h', f_X0_copyFrom h p q = some h' ∧ z_n h' = z_n h ∧ z_t h' = z_t h ∧ z_x h' = z_x h ∧ (∀ a, a < p ∨ p + 8 ≤ a → z_i h' a = z_i h a) ∧ z_i h' p 0 = nI n ∧ (∀ j, j < n → z_i h' (p + 1) j = z_i h (q + 1) j) ∧ (∀ j, j < n → z_i h' (p + 2) j = z_i h (q + 2) j) ∧ (∀ j, j < n → z_i h' (p + 3) j = z_i h (q + 3) j) ∧ (∀ j, j < n → z_i h' (p + 4) j = z_i h (q + 4) j) ∧ (∀ j, j < n * 12 → z_i h' (p + 5) j = z_i h (q + 5) j) ∧ (∀ j, j < n * 12 → z_i h' (p + 6) j = z_i h (q + 6) j) ∧ (∀ j, j < n → z_i h' (p + 7) j = z_i h (q + 7) j) := by
  obtain ⟨g1, c1, n1, t1, x1, o1, d1⟩ := siE (g := h) (k := 0) (v := nI n) P0
  obtain ⟨g2, c2, n2', t2', x2', o2, d2⟩ := cpE (g := g1) (a := q + 1) (b := p + 1) (n := n) (Q1.to n1 x1) (P1.to n1 x1) (by omega) (by omega) (by omega)
  have n2 := n2'.trans n1
  have t2 := t2'.trans t1
  have x2 := x2'.trans x1
  obtain ⟨g3, c3, n3', t3', x3', o3, d3⟩ := cpE (g := g2) (a := q + 2) (b := p + 2) (n := n) (Q2.to n2 x2) (P2.to n2 x2) (by omega) (by omega) (by omega)
  have n3 := n3'.trans n2
  have t3 := t3'.trans t2
  have x3 := x3'.trans x2
  obtain ⟨g4, c4, n4', t4', x4', o4, d4⟩ := cpE (g := g3) (a := q + 3) (b := p + 3) (n := n) (Q3.to n3 x3) (P3.to n3 x3) (by omega) (by omega) (by omega)
  have n4 := n4'.trans n3
  have t4 := t4'.trans t3
  have x4 := x4'.trans x3
  obtain ⟨g5, c5, n5', t5', x5', o5, d5⟩ := cpE (g := g4) (a := q + 4) (b := p + 4) (n := n) (Q4.to n4 x4) (P4.to n4 x4) (by omega) (by omega) (by omega)
  have n5 := n5'.trans n4
  have t5 := t5'.trans t4
  have x5 := x5'.trans x4
  obtain ⟨g6, c6, n6', t6', x6', o6, d6⟩ := cpE (g := g5) (a := q + 5) (b := p + 5) (n := n * 12) (Q5.to n5 x5) (P5.to n5 x5) (by omega) (by omega) (by omega)
  have n6 := n6'.trans n5
  have t6 := t6'.trans t5
  have x6 := x6'.trans x5
  obtain ⟨g7, c7, n7', t7', x7', o7, d7⟩ := cpE (g := g6) (a := q + 6) (b := p + 6) (n := n * 12) (Q6.to n6 x6) (P6.to n6 x6) (by omega) (by omega) (by omega)
  have n7 := n7'.trans n6
  have t7 := t7'.trans t6
  have x7 := x7'.trans x6
  obtain ⟨g8, c8, n8', t8', x8', o8, d8⟩ := cpE (g := g7) (a := q + 7) (b := p + 7) (n := n) (Q7.to n7 x7) (P7.to n7 x7) (by omega) (by omega) (by omega)
  have n8 := n8'.trans n7
  have t8 := t8'.trans t7
  have x8 := x8'.trans x7
  have e1 : z_i g1 p 0 = nI n := by rw [d1]; exact upd_s
  have e2 : z_i g2 p 0 = nI n := by rw [o2 p (by omega)]; exact e1
  have e3 : z_i g3 p 0 = nI n := by rw [o3 p (by omega)]; exact e2
  have e4 : z_i g4 p 0 = nI n := by rw [o4 p (by omega)]; exact e3
  have e5 : z_i g5 p 0 = nI n := by rw [o5 p (by omega)]; exact e4
  have e6 : z_i g6 p 0 = nI n := by rw [o6 p (by omega)]; exact e5
  have e7 : z_i g7 p 0 = nI n := by rw [o7 p (by omega)]; exact e6
  have e8 : z_i g8 p 0 = nI n := by rw [o8 p (by omega)]; exact e7
  refine ⟨g8, ?_, n8, t8, x8, fun a ha => ?_, e8, fun j hj => ?_, fun j hj => ?_, fun j hj => ?_, fun j hj => ?_, fun j hj => ?_, fun j hj => ?_, fun j hj => ?_⟩
  · unfold f_X0_copyFrom
    refine gdE P0.is (bnd ((Q0.gI 0).trans (congrArg some en)) (bnd c1 ?_))
    refine bnd (a := q + 1) ((Q0.to n1 x1).gR (zr_to qr1 x1)) (bnd (a := p + 1) ((P0.to n1 x1).gR (zr_to pr1 x1)) (bnd (((P0.to n1 x1).gI 0).trans (congrArg some e1)) ?_))
    refine bnd c2 ?_
    refine bnd (a := q + 2) ((Q0.to n2 x2).gR (zr_to qr2 x2)) (bnd (a := p + 2) ((P0.to n2 x2).gR (zr_to pr2 x2)) (bnd (((P0.to n2 x2).gI 0).trans (congrArg some e2)) ?_))
    refine bnd c3 ?_
    refine bnd (a := q + 3) ((Q0.to n3 x3).gR (zr_to qr3 x3)) (bnd (a := p + 3) ((P0.to n3 x3).gR (zr_to pr3 x3)) (bnd (((P0.to n3 x3).gI 0).trans (congrArg some e3)) ?_))
    refine bnd c4 ?_
    refine bnd (a := q + 4) ((Q0.to n4 x4).gR (zr_to qr4 x4)) (bnd (a := p + 4) ((P0.to n4 x4).gR (zr_to pr4 x4)) (bnd (((P0.to n4 x4).gI 0).trans (congrArg some e4)) ?_))
    refine bnd c5 ?_
    refine bnd (a := q + 5) ((Q0.to n5 x5).gR (zr_to qr5 x5)) (bnd (a := p + 5) ((P0.to n5 x5).gR (zr_to pr5 x5)) (bnd (((P0.to n5 x5).gI 0).trans (congrArg some e5)) ?_))
    rw [show nI n * 12 = nI (n * 12) by rw [n_12, nI_mul]]
    refine bnd c6 ?_
    refine bnd (a := q + 6) ((Q0.to n6 x6).gR (zr_to qr6 x6)) (bnd (a := p + 6) ((P0.to n6 x6).gR (zr_to pr6 x6)) (bnd (((P0.to n6 x6).gI 0).trans (congrArg some e6)) ?_))
    rw [show nI n * 12 = nI (n * 12) by rw [n_12, nI_mul]]
    refine bnd c7 ?_
    refine bnd (a := q + 7) ((Q0.to n7 x7).gR (zr_to qr7 x7)) (bnd (a := p + 7) ((P0.to n7 x7).gR (zr_to pr7 x7)) (bnd (((P0.to n7 x7).gI 0).trans (congrArg some e7)) ?_))
    refine bnd c8 ?_
    rfl
  · rw [o8 (a) (by omega), o7 (a) (by omega), o6 (a) (by omega), o5 (a) (by omega), o4 (a) (by omega), o3 (a) (by omega), o2 (a) (by omega), o1 (a) (by omega)]
  · rw [o8 (p + 1) (by omega), o7 (p + 1) (by omega), o6 (p + 1) (by omega), o5 (p + 1) (by omega), o4 (p + 1) (by omega), o3 (p + 1) (by omega), d2 j hj, o1 (q + 1) (by omega)]
  · rw [o8 (p + 2) (by omega), o7 (p + 2) (by omega), o6 (p + 2) (by omega), o5 (p + 2) (by omega), o4 (p + 2) (by omega), d3 j hj, o2 (q + 2) (by omega), o1 (q + 2) (by omega)]
  · rw [o8 (p + 3) (by omega), o7 (p + 3) (by omega), o6 (p + 3) (by omega), o5 (p + 3) (by omega), d4 j hj, o3 (q + 3) (by omega), o2 (q + 3) (by omega), o1 (q + 3) (by omega)]
  · rw [o8 (p + 4) (by omega), o7 (p + 4) (by omega), o6 (p + 4) (by omega), d5 j hj, o4 (q + 4) (by omega), o3 (q + 4) (by omega), o2 (q + 4) (by omega), o1 (q + 4) (by omega)]
  · rw [o8 (p + 5) (by omega), o7 (p + 5) (by omega), d6 j hj, o5 (q + 5) (by omega), o4 (q + 5) (by omega), o3 (q + 5) (by omega), o2 (q + 5) (by omega), o1 (q + 5) (by omega)]
  · rw [o8 (p + 6) (by omega), d7 j hj, o6 (q + 6) (by omega), o5 (q + 6) (by omega), o4 (q + 6) (by omega), o3 (q + 6) (by omega), o2 (q + 6) (by omega), o1 (q + 6) (by omega)]
  · rw [d8 j hj, o7 (q + 7) (by omega), o6 (q + 7) (by omega), o5 (q + 7) (by omega), o4 (q + 7) (by omega), o3 (q + 7) (by omega), o2 (q + 7) (by omega), o1 (q + 7) (by omega)]
theorem c_cp5 {h : Z_H} {p q n : Nat} (hn : n ≤ 40) (P0 : SH h p (4 + 5) 8) (Q0 : SH h q (4 + 5) 8) (P1 : SH h (p + 1) 0 40) (Q1 : SH h (q + 1) 0 40) (pr1 : z_r h p 1 = some (p + 1)) (qr1 : z_r h q 1 = some (q + 1)) (P2 : SH h (p + 2) 0 40) (Q2 : SH h (q + 2) 0 40) (pr2 : z_r h p 2 = some (p + 2)) (qr2 : z_r h q 2 = some (q + 2)) (P3 : SH h (p + 3) 0 40) (Q3 : SH h (q + 3) 0 40) (pr3 : z_r h p 3 = some (p + 3)) (qr3 : z_r h q 3 = some (q + 3)) (P4 : SH h (p + 4) 0 40) (Q4 : SH h (q + 4) 0 40) (pr4 : z_r h p 4 = some (p + 4)) (qr4 : z_r h q 4 = some (q + 4)) (P5 : SH h (p + 5) 0 40) (Q5 : SH h (q + 5) 0 40) (pr5 : z_r h p 5 = some (p + 5)) (qr5 : z_r h q 5 = some (q + 5)) (P6 : SH h (p + 6) 0 40) (Q6 : SH h (q + 6) 0 40) (pr6 : z_r h p 6 = some (p + 6)) (qr6 : z_r h q 6 = some (q + 6)) (P7 : SH h (p + 7) 0 1400) (Q7 : SH h (q + 7) 0 1400) (pr7 : z_r h p 7 = some (p + 7)) (qr7 : z_r h q 7 = some (q + 7)) (hd : p + 8 ≤ q ∨ q + 8 ≤ p) (en : z_i h q 0 = nI n) : ∃ h', f_X5_copyFrom h p q = some h' ∧ z_n h' = z_n h ∧ z_t h' = z_t h ∧ z_x h' = z_x h ∧ (∀ a, a < p ∨ p + 8 ≤ a → z_i h' a = z_i h a) ∧ z_i h' p 0 = nI n ∧ (∀ j, j < n → z_i h' (p + 1) j = z_i h (q + 1) j) ∧ (∀ j, j < n → z_i h' (p + 2) j = z_i h (q + 2) j) ∧ (∀ j, j < n → z_i h' (p + 3) j = z_i h (q + 3) j) ∧ (∀ j, j < n → z_i h' (p + 4) j = z_i h (q + 4) j) ∧ (∀ j, j < n → z_i h' (p + 5) j = z_i h (q + 5) j) ∧ (∀ j, j < n → z_i h' (p + 6) j = z_i h (q + 6) j) ∧ (∀ j, j < n * 35 → z_i h' (p + 7) j = z_i h (q + 7) j) := by
  obtain ⟨g1, c1, n1, t1, x1, o1, d1⟩ := siE (g := h) (k := 0) (v := nI n) P0
  obtain ⟨g2, c2, n2', t2', x2', o2, d2⟩ := cpE (g := g1) (a := q + 1) (b := p + 1) (n := n) (Q1.to n1 x1) (P1.to n1 x1) (by omega) (by omega) (by omega)
  have n2 := n2'.trans n1
  have t2 := t2'.trans t1
  have x2 := x2'.trans x1
  obtain ⟨g3, c3, n3', t3', x3', o3, d3⟩ := cpE (g := g2) (a := q + 2) (b := p + 2) (n := n) (Q2.to n2 x2) (P2.to n2 x2) (by omega) (by omega) (by omega)
  have n3 := n3'.trans n2
  have t3 := t3'.trans t2
  have x3 := x3'.trans x2
  obtain ⟨g4, c4, n4', t4', x4', o4, d4⟩ := cpE (g := g3) (a := q + 3) (b := p + 3) (n := n) (Q3.to n3 x3) (P3.to n3 x3) (by omega) (by omega) (by omega)
  have n4 := n4'.trans n3
  have t4 := t4'.trans t3
  have x4 := x4'.trans x3
  obtain ⟨g5, c5, n5', t5', x5', o5, d5⟩ := cpE (g := g4) (a := q + 4) (b := p + 4) (n := n) (Q4.to n4 x4) (P4.to n4 x4) (by omega) (by omega) (by omega)
  have n5 := n5'.trans n4
  have t5 := t5'.trans t4
  have x5 := x5'.trans x4
  obtain ⟨g6, c6, n6', t6', x6', o6, d6⟩ := cpE (g := g5) (a := q + 5) (b := p + 5) (n := n) (Q5.to n5 x5) (P5.to n5 x5) (by omega) (by omega) (by omega)
  have n6 := n6'.trans n5
  have t6 := t6'.trans t5
  have x6 := x6'.trans x5
  obtain ⟨g7, c7, n7', t7', x7', o7, d7⟩ := cpE (g := g6) (a := q + 6) (b := p + 6) (n := n) (Q6.to n6 x6) (P6.to n6 x6) (by omega) (by omega) (by omega)
  have n7 := n7'.trans n6
  have t7 := t7'.trans t6
  have x7 := x7'.trans x6
  obtain ⟨g8, c8, n8', t8', x8', o8, d8⟩ := cpE (g := g7) (a := q + 7) (b := p + 7) (n := n * 35) (Q7.to n7 x7) (P7.to n7 x7) (by omega) (by omega) (by omega)
  have n8 := n8'.trans n7
  have t8 := t8'.trans t7
  have x8 := x8'.trans x7
  have e1 : z_i g1 p 0 = nI n := by rw [d1]; exact upd_s
  have e2 : z_i g2 p 0 = nI n := by rw [o2 p (by omega)]; exact e1
  have e3 : z_i g3 p 0 = nI n := by rw [o3 p (by omega)]; exact e2
  have e4 : z_i g4 p 0 = nI n := by rw [o4 p (by omega)]; exact e3
  have e5 : z_i g5 p 0 = nI n := by rw [o5 p (by omega)]; exact e4
  have e6 : z_i g6 p 0 = nI n := by rw [o6 p (by omega)]; exact e5
  have e7 : z_i g7 p 0 = nI n := by rw [o7 p (by omega)]; exact e6
  have e8 : z_i g8 p 0 = nI n := by rw [o8 p (by omega)]; exact e7
  refine ⟨g8, ?_, n8, t8, x8, fun a ha => ?_, e8, fun j hj => ?_, fun j hj => ?_, fun j hj => ?_, fun j hj => ?_, fun j hj => ?_, fun j hj => ?_, fun j hj => ?_⟩
  · unfold f_X5_copyFrom
    refine gdE P0.is (bnd ((Q0.gI 0).trans (congrArg some en)) (bnd c1 ?_))
    refine bnd (a := q + 1) ((Q0.to n1 x1).gR (zr_to qr1 x1)) (bnd (a := p + 1) ((P0.to n1 x1).gR (zr_to pr1 x1)) (bnd (((P0.to n1 x1).gI 0).trans (congrArg some e1)) ?_))
    refine bnd c2 ?_
    refine bnd (a := q + 2) ((Q0.to n2 x2).gR (zr_to qr2 x2)) (bnd (a := p + 2) ((P0.to n2 x2).gR (zr_to pr2 x2)) (bnd (((P0.to n2 x2).gI 0).trans (congrArg some e2)) ?_))
    refine bnd c3 ?_
    refine bnd (a := q + 3) ((Q0.to n3 x3).gR (zr_to qr3 x3)) (bnd (a := p + 3) ((P0.to n3 x3).gR (zr_to pr3 x3)) (bnd (((P0.to n3 x3).gI 0).trans (congrArg some e3)) ?_))
    refine bnd c4 ?_
    refine bnd (a := q + 4) ((Q0.to n4 x4).gR (zr_to qr4 x4)) (bnd (a := p + 4) ((P0.to n4 x4).gR (zr_to pr4 x4)) (bnd (((P0.to n4 x4).gI 0).trans (congrArg some e4)) ?_))
    refine bnd c5 ?_
    refine bnd (a := q + 5) ((Q0.to n5 x5).gR (zr_to qr5 x5)) (bnd (a := p + 5) ((P0.to n5 x5).gR (zr_to pr5 x5)) (bnd (((P0.to n5 x5).gI 0).trans (congrArg some e5)) ?_))
    refine bnd c6 ?_
    refine bnd (a := q + 6) ((Q0.to n6 x6).gR (zr_to qr6 x6)) (bnd (a := p + 6) ((P0.to n6 x6).gR (zr_to pr6 x6)) (bnd (((P0.to n6 x6).gI 0).trans (congrArg some e6)) ?_))
    refine bnd c7 ?_
    refine bnd (a := q + 7) ((Q0.to n7 x7).gR (zr_to qr7 x7)) (bnd (a := p + 7) ((P0.to n7 x7).gR (zr_to pr7 x7)) (bnd (((P0.to n7 x7).gI 0).trans (congrArg some e7)) ?_))
    rw [show nI n * 5 * 7 = nI (n * 35) by rw [n_5, n_7, nI_mul, nI_mul, Nat.mul_assoc]]
    refine bnd c8 ?_
    rfl
  · rw [o8 (a) (by omega), o7 (a) (by omega), o6 (a) (by omega), o5 (a) (by omega), o4 (a) (by omega), o3 (a) (by omega), o2 (a) (by omega), o1 (a) (by omega)]
  · rw [o8 (p + 1) (by omega), o7 (p + 1) (by omega), o6 (p + 1) (by omega), o5 (p + 1) (by omega), o4 (p + 1) (by omega), o3 (p + 1) (by omega), d2 j hj, o1 (q + 1) (by omega)]
  · rw [o8 (p + 2) (by omega), o7 (p + 2) (by omega), o6 (p + 2) (by omega), o5 (p + 2) (by omega), o4 (p + 2) (by omega), d3 j hj, o2 (q + 2) (by omega), o1 (q + 2) (by omega)]
  · rw [o8 (p + 3) (by omega), o7 (p + 3) (by omega), o6 (p + 3) (by omega), o5 (p + 3) (by omega), d4 j hj, o3 (q + 3) (by omega), o2 (q + 3) (by omega), o1 (q + 3) (by omega)]
  · rw [o8 (p + 4) (by omega), o7 (p + 4) (by omega), o6 (p + 4) (by omega), d5 j hj, o4 (q + 4) (by omega), o3 (q + 4) (by omega), o2 (q + 4) (by omega), o1 (q + 4) (by omega)]
  · rw [o8 (p + 5) (by omega), o7 (p + 5) (by omega), d6 j hj, o5 (q + 5) (by omega), o4 (q + 5) (by omega), o3 (q + 5) (by omega), o2 (q + 5) (by omega), o1 (q + 5) (by omega)]
  · rw [o8 (p + 6) (by omega), d7 j hj, o6 (q + 6) (by omega), o5 (q + 6) (by omega), o4 (q + 6) (by omega), o3 (q + 6) (by omega), o2 (q + 6) (by omega), o1 (q + 6) (by omega)]
  · rw [d8 j hj, o7 (q + 7) (by omega), o6 (q + 7) (by omega), o5 (q + 7) (by omega), o4 (q + 7) (by omega), o3 (q + 7) (by omega), o2 (q + 7) (by omega), o1 (q + 7) (by omega)]
theorem c_cp1 {h : Z_H} {p q : Nat} (P0 : SH h p (4 + 1) 3) (Q0 : SH h q (4 + 1) 3) (P1 : SH h (p + 1) 0 10) (Q1 : SH h (q + 1) 0 10) (P2 : SH h (p + 2) 0 10) (Q2 : SH h (q + 2) 0 10) (P3 : SH h (p + 3) 0 640) (Q3 : SH h (q + 3) 0 640) (pr : ∀ i, i < 3 → z_r h p i = some (p + 1 + i)) (qr : ∀ i, i < 3 → z_r h q i = some (q + 1 + i)) (hd : p + 4 ≤ q ∨ q + 4 ≤ p) : ∃ h', f_X1_copyFrom h p q = some h' ∧ z_n h' = z_n h ∧ z_t h' = z_t h ∧ z_x h' = z_x h ∧ (∀ a, a < p ∨ p + 4 ≤ a → z_i h' a = z_i h a) ∧ (∀ j, j < 10 → z_i h' (p + 1) j = z_i h (q + 1) j) ∧ (∀ j, j < 10 → z_i h' (p + 2) j = z_i h (q + 2) j) ∧ (∀ j, j < 640 → z_i h' (p + 3) j = z_i h (q + 3) j) := by
  obtain ⟨g1, c1, n1, t1, x1, o1, d1⟩ := cpE (g := h) (n := 10) Q1 P1 (by omega) (by omega) (by omega)
  obtain ⟨g2, c2, n2', t2', x2', o2, d2⟩ := cpE (g := g1) (n := 10) (Q2.to n1 x1) (P2.to n1 x1) (by omega) (by omega) (by omega)
  have n2 := n2'.trans n1
  have t2 := t2'.trans t1
  have x2 := x2'.trans x1
  obtain ⟨g3, c3, n3', t3', x3', o3, d3⟩ := cpE (g := g2) (n := 640) (Q3.to n2 x2) (P3.to n2 x2) (by omega) (by omega) (by omega)
  refine ⟨g3, ?_, n3'.trans n2, t3'.trans t2, x3'.trans x2, fun a ha => ?_, fun j hj => ?_, fun j hj => ?_, fun j hj => ?_⟩
  · unfold f_X1_copyFrom
    refine gdE P0.is (bnd (a := q + 1) (Q0.gR (qr 0 (by omega))) (bnd (a := p + 1) (P0.gR (pr 0 (by omega))) (bnd c1 ?_)))
    refine bnd (a := q + 2) ((Q0.to n1 x1).gR (zr_to (qr 1 (by omega)) x1)) (bnd (a := p + 2) ((P0.to n1 x1).gR (zr_to (pr 1 (by omega)) x1)) (bnd c2 ?_))
    refine bnd (a := q + 3) ((Q0.to n2 x2).gR (zr_to (qr 2 (by omega)) x2)) (bnd (a := p + 3) ((P0.to n2 x2).gR (zr_to (pr 2 (by omega)) x2)) (bnd (a := p + 3) ((P0.to n2 x2).gR (zr_to (pr 2 (by omega)) x2)) (bnd ((P3.to n2 x2).aN (by omega)) (bnd c3 ?_))))
    rfl
  · rw [o3 a (by omega), o2 a (by omega), o1 a (by omega)]
  · rw [o3 (p + 1) (by omega), o2 (p + 1) (by omega), d1 j hj]
  · rw [o3 (p + 2) (by omega), d2 j hj, o1 (q + 2) (by omega)]
  · rw [d3 j hj, o2 (q + 3) (by omega), o1 (q + 3) (by omega)]
theorem z_fit_of {f : Nat → Int32} : ∀ n i, (∀ j, i ≤ j → j < i + n → -128 ≤ f j ∧ f j ≤ 127) → z_fit f i n = true := by
  intro n
  induction n with
  | zero => intro i _; rfl
  | succ n ih =>
    intro i h
    unfold z_fit
    rw [ih (i + 1) (fun j h1 h2 => h j (by omega) (by omega))]
    obtain ⟨h1, h2⟩ := h i (Nat.le_refl _) (by omega)
    rw [decide_eq_true h1, decide_eq_true h2]
    rfl
theorem cpB {g : Z_H} {a b la lb n : Nat} (s : SH g a 1 la) (d : SH g b 1 lb) (h1 : n ≤ la) (h2 : n ≤ lb) (h3 : n < 2 ^ 31) (hf : ∀ j, j < n → -128 ≤ z_i g a j ∧ z_i g a j ≤ 127) : ∃ g', cp g a 0 b 0 (nI n) = some g' ∧ z_n g' = z_n g ∧ z_t g' = z_t g ∧ z_x g' = z_x g ∧ (∀ x, x ≠ b → z_i g' x = z_i g x) ∧ ∀ j, j < n → z_i g' b j = z_i g a j := by
  refine ⟨cpR g a b n, ?_, rfl, rfl, rfl, fun _ e => cpR_o e, fun _ hj => cpR_d hj⟩
  unfold cp cpR
  have z0 : (0 : Int32).toNatClampNeg = 0 := rfl
  rw [z0, nI_clamp h3, if_pos]
  simp only [Bool.and_eq_true, Bool.or_eq_true, decide_eq_true_eq]
  refine ⟨s.1, d.1, by rw [s.2.1]; omega, by rw [d.2.1, s.2.1], by decide, by decide, nI_pos' h3, by rw [s.2.2]; omega, by rw [d.2.2]; omega, Or.inr (z_fit_of n 0 (fun j _ hj => hf j (by omega)))⟩
theorem c_cp8 {h : Z_H} {p q n : Nat} (hn : n ≤ 600) (P0 : SH h p (4 + 8) 2) (Q0 : SH h q (4 + 8) 2) (P1 : SH h (p + 1) 1 600) (Q1 : SH h (q + 1) 1 600) (pr : z_r h p 0 = some (p + 1)) (qr : z_r h q 0 = some (q + 1)) (hd : p + 2 ≤ q ∨ q + 2 ≤ p) (en : z_i h q 1 = nI n) (hf : ∀ j, j < n → -128 ≤ z_i h (q + 1) j ∧ z_i h (q + 1) j ≤ 127) : ∃ h', f_X8_copyFrom h p q = some h' ∧ z_n h' = z_n h ∧ z_t h' = z_t h ∧ z_x h' = z_x h ∧ (∀ a, a < p ∨ p + 2 ≤ a → z_i h' a = z_i h a) ∧ z_i h' p 1 = nI n ∧ ∀ j, j < n → z_i h' (p + 1) j = z_i h (q + 1) j := by
  obtain ⟨g1, c1, n1, t1, x1, o1, d1⟩ := siE (g := h) (k := 1) (v := nI n) P0
  obtain ⟨g2, c2, n2, t2, x2, o2, d2⟩ := cpB (g := g1) (n := n) (Q1.to n1 x1) (P1.to n1 x1) hn hn (by omega) (fun j hj => by rw [o1 (q + 1) (by omega)]; exact hf j hj)
  have eq1 : z_i g1 q 1 = nI n := by rw [o1 q (by omega)]; exact en
  refine ⟨g2, ?_, n2.trans n1, t2.trans t1, x2.trans x1, fun a ha => ?_, ?_, fun j hj => ?_⟩
  · unfold f_X8_copyFrom
    exact gdE P0.is (bnd ((Q0.gI 1).trans (congrArg some en)) (bnd c1 (bnd (a := q + 1) ((Q0.to n1 x1).gR (zr_to qr x1)) (bnd (a := p + 1) ((P0.to n1 x1).gR (zr_to pr x1)) (bnd (((Q0.to n1 x1).gI 1).trans (congrArg some eq1)) (bnd c2 rfl))))))
  · rw [o2 a (by omega), o1 a (by omega)]
  · rw [o2 p (by omega), d1]
    exact upd_s
  · rw [d2 j hj, o1 (q + 1) (by omega)]
/-- a state's block, wherever it lies -/
def BLK (h : Z_H) (b : Nat) : Prop := 1 ≤ b ∧ ∀ o, o < 33 → b + o < z_n h ∧ z_k h (b + o) = kT (1 + o) ∧ z_len h (b + o) = lT (1 + o) ∧ ∀ k, z_r h (b + o) k = (rT (1 + o) k).map (fun q => q + b - 1)
theorem BLK.sh {h : Z_H} {b : Nat} (B : BLK h b) (o : Nat) {k n : Nat} (ho : o < 33) (hk : kT (1 + o) = k) (hn : lT (1 + o) = n) : SH h (b + o) k n := by
  obtain ⟨h1, h2, h3, -⟩ := B.2 o ho
  exact ⟨h1, h2.trans hk, h3.trans hn⟩
theorem BLK.r {h : Z_H} {b : Nat} (B : BLK h b) (o k : Nat) {p : Nat} (ho : o < 33) (hr : rT (1 + o) k = some (1 + p)) : z_r h (b + o) k = some (b + p) := by
  rw [(B.2 o ho).2.2.2 k, hr]
  show some (1 + p + b - 1) = _
  congr 1
  omega
theorem BLK.to {h g : Z_H} {b : Nat} (B : BLK h b) (e1 : z_n g = z_n h) (e2 : z_x g = z_x h) : BLK g b := by
  refine ⟨B.1, fun o ho => ?_⟩
  have := B.2 o ho
  unfold z_k z_len z_r at *
  rw [e1, e2]
  exact this
theorem LY.blk {h : Z_H} (H : LY h) : BLK h 1 := by
  refine ⟨Nat.le_refl _, fun o ho => ?_⟩
  obtain ⟨h1, h2, h3⟩ := H.2 (1 + o) (by omega)
  refine ⟨by have := H.1; omega, h1, h2, fun k => ?_⟩
  rw [h3 (by omega) k]
  cases rT (1 + o) k <;> rfl
theorem STA.blk {h : Z_H} {b : Nat} (S : STA h b) : BLK h b := ⟨by have := S.1; omega, fun o ho => by
  obtain ⟨h1, h2, h3⟩ := S.2.2 o ho
  exact ⟨by have := S.2.1; omega, h1, h2, h3⟩⟩
theorem BLK.pl {h : Z_H} {b : Nat} (B : BLK h b) : PLB h (b + 3) := by
  refine ⟨B.sh 3 (by omega) rfl rfl, fun i hi => ?_, B.sh 7 (by omega) rfl rfl, fun i hi => ?_, B.sh 11 (by omega) rfl rfl, fun i hi => ?_⟩
  · have : i = 0 ∨ i = 1 ∨ i = 2 := by omega
    rcases this with rfl | rfl | rfl
    · exact B.sh 4 (by omega) rfl rfl
    · exact B.sh 5 (by omega) rfl rfl
    · exact B.sh 6 (by omega) rfl rfl
  · have : i = 0 ∨ i = 1 ∨ i = 2 := by omega
    rcases this with rfl | rfl | rfl
    · exact B.sh 8 (by omega) rfl rfl
    · exact B.sh 9 (by omega) rfl rfl
    · exact B.sh 10 (by omega) rfl rfl
  · have : i = 0 ∨ i = 1 ∨ i = 2 ∨ i = 3 ∨ i = 4 ∨ i = 5 ∨ i = 6 ∨ i = 7 := by omega
    rcases this with rfl | rfl | rfl | rfl | rfl | rfl | rfl | rfl
    · exact B.r 3 4 (p := 4) (by omega) rfl
    · exact B.r 3 5 (p := 5) (by omega) rfl
    · exact B.r 3 6 (p := 6) (by omega) rfl
    · exact B.r 3 7 (p := 7) (by omega) rfl
    · exact B.r 3 8 (p := 8) (by omega) rfl
    · exact B.r 3 9 (p := 9) (by omega) rfl
    · exact B.r 3 10 (p := 10) (by omega) rfl
    · exact B.r 3 11 (p := 11) (by omega) rfl
/-- a state is copied -/
theorem c_copy {h : Z_H} {d s : Nat} {A T : Nat → Int32} (D : BLK h d) (S : BLK h s) (hd : d + 33 ≤ s ∨ s + 33 ≤ d) (R : RS (fun o => z_i h (s + o)) A T) : ∃ h', f_X7_copyFrom h d s = some h' ∧ z_n h' = z_n h ∧ z_t h' = z_t h ∧ z_x h' = z_x h ∧ (∀ a, a < d ∨ d + 33 ≤ a → z_i h' a = z_i h a) ∧ RS (fun o => z_i h' (d + o)) A T := by
  have hV := R.1
  have hN := hV.1
  have h10 := hN.2.1
  have h40 := hV.2.2.1.1
  obtain ⟨a1, a2, a3⟩ := hV.2.2.2.2.2.2.2.2
  have ra := R.2.2.2.2.2.2
  have et : z_i h (s + 1) 1 = nI (nt A) := Eq.trans ra.1 a2
  have ec : z_i h (s + 12) 0 = nI (nn A) := Eq.trans R.2.1.1 hN.2.2.1
  have ek : z_i h (s + 20) 0 = nI (nk A) := Eq.trans R.2.2.1.1 hV.2.2.1.2.1
  obtain ⟨g1, c1, n1, t1, x1, o1, p1, p2⟩ := c_cp8 (h := h) (p := d + 1) (q := s + 1) a1 (D.sh 1 (by omega) rfl rfl) (S.sh 1 (by omega) rfl rfl) (D.sh 2 (by omega) rfl rfl) (S.sh 2 (by omega) rfl rfl) (D.r 1 0 (p := 2) (by omega) rfl) (S.r 1 0 (p := 2) (by omega) rfl) (by omega) et (fun j hj => by
    have := ra.2.2.2 j hj
    have this : z_i h (s + 1 + 1) j = T j := this
    rw [this]
    exact a3 j hj)
  have D1 := D.to n1 x1
  have S1 := S.to n1 x1
  obtain ⟨g2, c2, n2', t2', x2', o2, p3, p4, p5, p6⟩ := c_cp3 (h := g1) (p := d + 3) (q := s + 3) D1.pl S1.pl (by omega)
  have n2 := n2'.trans n1
  have t2 := t2'.trans t1
  have x2 := x2'.trans x1
  have D2 := D.to n2 x2
  have S2 := S.to n2 x2
  have e12 : z_i g2 (s + 12) 0 = nI (nn A) := by rw [o2 (s + 12) (by omega), o1 (s + 12) (by omega)]; exact ec
  obtain ⟨g3, c3, n3', t3', x3', o3, p7, k1, k2, k3, k4, k5, k6, k7⟩ := c_cp0 (h := g2) (p := d + 12) (q := s + 12) h10 (D2.sh 12 (by omega) rfl rfl) (S2.sh 12 (by omega) rfl rfl) (D2.sh 13 (by omega) rfl rfl) (S2.sh 13 (by omega) rfl rfl) (D2.r 12 1 (p := 13) (by omega) rfl) (S2.r 12 1 (p := 13) (by omega) rfl) (D2.sh 14 (by omega) rfl rfl) (S2.sh 14 (by omega) rfl rfl) (D2.r 12 2 (p := 14) (by omega) rfl) (S2.r 12 2 (p := 14) (by omega) rfl) (D2.sh 15 (by omega) rfl rfl) (S2.sh 15 (by omega) rfl rfl) (D2.r 12 3 (p := 15) (by omega) rfl) (S2.r 12 3 (p := 15) (by omega) rfl) (D2.sh 16 (by omega) rfl rfl) (S2.sh 16 (by omega) rfl rfl) (D2.r 12 4 (p := 16) (by omega) rfl) (S2.r 12 4 (p := 16) (by omega) rfl) (D2.sh 17 (by omega) rfl rfl) (S2.sh 17 (by omega) rfl rfl) (D2.r 12 5 (p := 17) (by omega) rfl) (S2.r 12 5 (p := 17) (by omega) rfl) (D2.sh 18 (by omega) rfl rfl) (S2.sh 18 (by omega) rfl rfl) (D2.r 12 6 (p := 18) (by omega) rfl) (S2.r 12 6 (p := 18) (by omega) rfl) (D2.sh 19 (by omega) rfl rfl) (S2.sh 19 (by omega) rfl rfl) (D2.r 12 7 (p := 19) (by omega) rfl) (S2.r 12 7 (p := 19) (by omega) rfl) (by omega) e12
  have n3 := n3'.trans n2
  have t3 := t3'.trans t2
  have x3 := x3'.trans x2
  have D3 := D.to n3 x3
  have S3 := S.to n3 x3
  have e20 : z_i g3 (s + 20) 0 = nI (nk A) := by rw [o3 (s + 20) (by omega), o2 (s + 20) (by omega), o1 (s + 20) (by omega)]; exact ek
  obtain ⟨g4, c4, n4', t4', x4', o4, p8, l1, l2, l3, l4, l5, l6, l7⟩ := c_cp5 (h := g3) (p := d + 20) (q := s + 20) h40 (D3.sh 20 (by omega) rfl rfl) (S3.sh 20 (by omega) rfl rfl) (D3.sh 21 (by omega) rfl rfl) (S3.sh 21 (by omega) rfl rfl) (D3.r 20 1 (p := 21) (by omega) rfl) (S3.r 20 1 (p := 21) (by omega) rfl) (D3.sh 22 (by omega) rfl rfl) (S3.sh 22 (by omega) rfl rfl) (D3.r 20 2 (p := 22) (by omega) rfl) (S3.r 20 2 (p := 22) (by omega) rfl) (D3.sh 23 (by omega) rfl rfl) (S3.sh 23 (by omega) rfl rfl) (D3.r 20 3 (p := 23) (by omega) rfl) (S3.r 20 3 (p := 23) (by omega) rfl) (D3.sh 24 (by omega) rfl rfl) (S3.sh 24 (by omega) rfl rfl) (D3.r 20 4 (p := 24) (by omega) rfl) (S3.r 20 4 (p := 24) (by omega) rfl) (D3.sh 25 (by omega) rfl rfl) (S3.sh 25 (by omega) rfl rfl) (D3.r 20 5 (p := 25) (by omega) rfl) (S3.r 20 5 (p := 25) (by omega) rfl) (D3.sh 26 (by omega) rfl rfl) (S3.sh 26 (by omega) rfl rfl) (D3.r 20 6 (p := 26) (by omega) rfl) (S3.r 20 6 (p := 26) (by omega) rfl) (D3.sh 27 (by omega) rfl rfl) (S3.sh 27 (by omega) rfl rfl) (D3.r 20 7 (p := 27) (by omega) rfl) (S3.r 20 7 (p := 27) (by omega) rfl) (by omega) e20
  have n4 := n4'.trans n3
  have t4 := t4'.trans t3
  have x4 := x4'.trans x3
  have D4 := D.to n4 x4
  have S4 := S.to n4 x4
  obtain ⟨g5, c5, n5', t5', x5', o5, m1, m2, m3⟩ := c_cp1 (h := g4) (p := d + 28) (q := s + 28) (D4.sh 28 (by omega) rfl rfl) (S4.sh 28 (by omega) rfl rfl) (D4.sh 29 (by omega) rfl rfl) (S4.sh 29 (by omega) rfl rfl) (D4.sh 30 (by omega) rfl rfl) (S4.sh 30 (by omega) rfl rfl) (D4.sh 31 (by omega) rfl rfl) (S4.sh 31 (by omega) rfl rfl) (fun i hi => by
    have : i = 0 ∨ i = 1 ∨ i = 2 := by omega
    rcases this with rfl | rfl | rfl
    · exact D4.r 28 0 (p := 29) (by omega) rfl
    · exact D4.r 28 1 (p := 30) (by omega) rfl
    · exact D4.r 28 2 (p := 31) (by omega) rfl) (fun i hi => by
    have : i = 0 ∨ i = 1 ∨ i = 2 := by omega
    rcases this with rfl | rfl | rfl
    · exact S4.r 28 0 (p := 29) (by omega) rfl
    · exact S4.r 28 1 (p := 30) (by omega) rfl
    · exact S4.r 28 2 (p := 31) (by omega) rfl) (by omega)
  have n5 := n5'.trans n4
  have t5 := t5'.trans t4
  have x5 := x5'.trans x4
  have D5 := D.to n5 x5
  have S5 := S.to n5 x5
  have s5 : z_i g5 (s + 0) = z_i h (s + 0) := by rw [o5 (s + 0) (by omega), o4 (s + 0) (by omega), o3 (s + 0) (by omega), o2 (s + 0) (by omega), o1 (s + 0) (by omega)]
  obtain ⟨g6, c6, n6', t6', x6', o6, d6⟩ := siE (g := g5) (k := 6) (v := z_i h (s + 0) 6) (D5.sh 0 (k := 4 + 7) (by omega) rfl rfl)
  have n6 := n6'.trans n5
  have x6 := x6'.trans x5
  obtain ⟨g7, c7, n7', t7', x7', o7, d7⟩ := siE (g := g6) (k := 7) (v := z_i h (s + 0) 7) ((D.to n6 x6).sh 0 (k := 4 + 7) (by omega) rfl rfl)
  have n7 := n7'.trans n6
  have x7 := x7'.trans x6
  obtain ⟨g8, c8, n8', t8', x8', o8, d8⟩ := siE (g := g7) (k := 8) (v := z_i h (s + 0) 8) ((D.to n7 x7).sh 0 (k := 4 + 7) (by omega) rfl rfl)
  have s6 : z_i g6 (s + 0) = z_i h (s + 0) := (o6 (s + 0) (by omega)).trans s5
  have s7 : z_i g7 (s + 0) = z_i h (s + 0) := (o7 (s + 0) (by omega)).trans s6
  have out : ∀ a, a ≠ d + 0 → z_i g8 a = z_i g5 a := fun a ha => by rw [o8 a ha, o7 a ha, o6 a ha]
  refine ⟨g8, ?_, n8'.trans n7, t8'.trans (t7'.trans (t6'.trans t5)), x8'.trans x7, fun a ha => ?_, ?_⟩
  · unfold f_X7_copyFrom
    refine gdE (D.sh 0 (k := 4 + 7) (by omega) rfl rfl).is (bnd (a := d + 1) ((D.sh 0 (k := 4 + 7) (by omega) rfl rfl).gR (D.r 0 0 (p := 1) (by omega) rfl)) (bnd (a := s + 1) ((S.sh 0 (k := 4 + 7) (by omega) rfl rfl).gR (S.r 0 0 (p := 1) (by omega) rfl)) (bnd c1 ?_)))
    refine bnd (a := d + 3) ((D1.sh 0 (k := 4 + 7) (by omega) rfl rfl).gR (D1.r 0 1 (p := 3) (by omega) rfl)) (bnd (a := s + 3) ((S1.sh 0 (k := 4 + 7) (by omega) rfl rfl).gR (S1.r 0 1 (p := 3) (by omega) rfl)) (bnd c2 ?_))
    refine bnd (a := d + 12) ((D2.sh 0 (k := 4 + 7) (by omega) rfl rfl).gR (D2.r 0 2 (p := 12) (by omega) rfl)) (bnd (a := s + 12) ((S2.sh 0 (k := 4 + 7) (by omega) rfl rfl).gR (S2.r 0 2 (p := 12) (by omega) rfl)) (bnd c3 ?_))
    refine bnd (a := d + 20) ((D3.sh 0 (k := 4 + 7) (by omega) rfl rfl).gR (D3.r 0 3 (p := 20) (by omega) rfl)) (bnd (a := s + 20) ((S3.sh 0 (k := 4 + 7) (by omega) rfl rfl).gR (S3.r 0 3 (p := 20) (by omega) rfl)) (bnd c4 ?_))
    refine bnd (a := d + 28) ((D4.sh 0 (k := 4 + 7) (by omega) rfl rfl).gR (D4.r 0 4 (p := 28) (by omega) rfl)) (bnd (a := s + 28) ((S4.sh 0 (k := 4 + 7) (by omega) rfl rfl).gR (S4.r 0 4 (p := 28) (by omega) rfl)) (bnd c5 ?_))
    refine bnd (((S5.sh 0 (k := 4 + 7) (by omega) rfl rfl).gI 6).trans (congrArg some (congrFun s5 6))) (bnd c6 ?_)
    refine bnd ((((S.to n6 x6).sh 0 (k := 4 + 7) (by omega) rfl rfl).gI 7).trans (congrArg some (congrFun s6 7))) (bnd c7 ?_)
    exact bnd ((((S.to n7 x7).sh 0 (k := 4 + 7) (by omega) rfl rfl).gI 8).trans (congrArg some (congrFun s7 8))) (bnd c8 rfl)
  · rw [out a (by omega), o5 a (by omega), o4 a (by omega), o3 a (by omega), o2 a (by omega), o1 a (by omega)]
  · have v1 : ∀ x, 1 ≤ x → x ≤ 2 → z_i g8 (d + x) = z_i g1 (d + x) := fun x h1 h2 => by rw [out (d + x) (by omega), o5 (d + x) (by omega), o4 (d + x) (by omega), o3 (d + x) (by omega), o2 (d + x) (by omega)]
    have v2 : ∀ x, 3 ≤ x → x ≤ 10 → z_i g8 (d + x) = z_i g2 (d + x) := fun x h1 h2 => by rw [out (d + x) (by omega), o5 (d + x) (by omega), o4 (d + x) (by omega), o3 (d + x) (by omega)]
    have v3 : ∀ x, 12 ≤ x → x ≤ 19 → z_i g8 (d + x) = z_i g3 (d + x) := fun x h1 h2 => by rw [out (d + x) (by omega), o5 (d + x) (by omega), o4 (d + x) (by omega)]
    have v4 : ∀ x, 20 ≤ x → x ≤ 27 → z_i g8 (d + x) = z_i g4 (d + x) := fun x h1 h2 => by rw [out (d + x) (by omega), o5 (d + x) (by omega)]
    have v5 : ∀ x, 28 ≤ x → x ≤ 31 → z_i g8 (d + x) = z_i g5 (d + x) := fun x h1 h2 => out (d + x) (by omega)
    have w1 : ∀ x, 3 ≤ x → x ≤ 10 → z_i g1 (s + x) = z_i h (s + x) := fun x h1 h2 => o1 (s + x) (by omega)
    have w2 : ∀ x, 12 ≤ x → x ≤ 19 → z_i g2 (s + x) = z_i h (s + x) := fun x h1 h2 => by rw [o2 (s + x) (by omega), o1 (s + x) (by omega)]
    have w3 : ∀ x, 20 ≤ x → x ≤ 27 → z_i g3 (s + x) = z_i h (s + x) := fun x h1 h2 => by rw [o3 (s + x) (by omega), o2 (s + x) (by omega), o1 (s + x) (by omega)]
    have w4 : ∀ x, 28 ≤ x → x ≤ 31 → z_i g4 (s + x) = z_i h (s + x) := fun x h1 h2 => by rw [o4 (s + x) (by omega), o3 (s + x) (by omega), o2 (s + x) (by omega), o1 (s + x) (by omega)]
    refine RS_copy R ⟨?_, fun j hj => ?_, fun i hi => ?_, fun j hj => ⟨?_, ?_, ?_⟩, fun j hj => ?_, fun j hj => ⟨?_, ?_, ?_⟩, ?_, fun j hj => ⟨?_, ?_, ?_, ?_, ?_⟩, fun j hj => ⟨?_, ?_⟩, ?_, fun f j hf hj => ?_, fun j hj => ?_, fun j hj => ⟨?_, ?_⟩, fun j hj => ?_, ?_, ?_, ?_⟩
    · show z_i g8 (d + 1) 1 = z_i h (s + 1) 1
      rw [v1 1 (by omega) (by omega), et]
      exact p1
    · show z_i g8 (d + 2) j = z_i h (s + 2) j
      rw [v1 2 (by omega) (by omega)]
      exact p2 j hj
    · show z_i g8 (d + 3) i = z_i h (s + 3) i
      rw [v2 3 (by omega) (by omega), p3 i hi, w1 3 (by omega) (by omega)]
    · show z_i g8 (d + 4) j = z_i h (s + 4) j
      rw [v2 4 (by omega) (by omega), ← w1 4 (by omega) (by omega)]
      exact p4 0 j (by omega) hj
    · show z_i g8 (d + 5) j = z_i h (s + 5) j
      rw [v2 5 (by omega) (by omega), ← w1 5 (by omega) (by omega)]
      exact p4 1 j (by omega) hj
    · show z_i g8 (d + 6) j = z_i h (s + 6) j
      rw [v2 6 (by omega) (by omega), ← w1 6 (by omega) (by omega)]
      exact p4 2 j (by omega) hj
    · show z_i g8 (d + 7) j = z_i h (s + 7) j
      rw [v2 7 (by omega) (by omega), ← w1 7 (by omega) (by omega)]
      exact p5 j hj
    · show z_i g8 (d + 8) j = z_i h (s + 8) j
      rw [v2 8 (by omega) (by omega), ← w1 8 (by omega) (by omega)]
      exact p6 0 j (by omega) hj
    · show z_i g8 (d + 9) j = z_i h (s + 9) j
      rw [v2 9 (by omega) (by omega), ← w1 9 (by omega) (by omega)]
      exact p6 1 j (by omega) hj
    · show z_i g8 (d + 10) j = z_i h (s + 10) j
      rw [v2 10 (by omega) (by omega), ← w1 10 (by omega) (by omega)]
      exact p6 2 j (by omega) hj
    · show z_i g8 (d + 12) 0 = z_i h (s + 12) 0
      rw [v3 12 (by omega) (by omega), ec]
      exact p7
    · show z_i g8 (d + 13) j = z_i h (s + 13) j
      rw [v3 13 (by omega) (by omega), ← w2 13 (by omega) (by omega)]
      exact k1 j hj
    · show z_i g8 (d + 14) j = z_i h (s + 14) j
      rw [v3 14 (by omega) (by omega), ← w2 14 (by omega) (by omega)]
      exact k2 j hj
    · show z_i g8 (d + 15) j = z_i h (s + 15) j
      rw [v3 15 (by omega) (by omega), ← w2 15 (by omega) (by omega)]
      exact k3 j hj
    · show z_i g8 (d + 16) j = z_i h (s + 16) j
      rw [v3 16 (by omega) (by omega), ← w2 16 (by omega) (by omega)]
      exact k4 j hj
    · show z_i g8 (d + 19) j = z_i h (s + 19) j
      rw [v3 19 (by omega) (by omega), ← w2 19 (by omega) (by omega)]
      exact k7 j hj
    · show z_i g8 (d + 17) j = z_i h (s + 17) j
      rw [v3 17 (by omega) (by omega), ← w2 17 (by omega) (by omega)]
      exact k5 j (by omega)
    · show z_i g8 (d + 18) j = z_i h (s + 18) j
      rw [v3 18 (by omega) (by omega), ← w2 18 (by omega) (by omega)]
      exact k6 j (by omega)
    · show z_i g8 (d + 20) 0 = z_i h (s + 20) 0
      rw [v4 20 (by omega) (by omega), ek]
      exact p8
    · show z_i g8 (d + (21 + f)) j = z_i h (s + (21 + f)) j
      rw [v4 (21 + f) (by omega) (by omega), ← w3 (21 + f) (by omega) (by omega)]
      have : f = 0 ∨ f = 1 ∨ f = 2 ∨ f = 3 ∨ f = 4 ∨ f = 5 := by omega
      rcases this with rfl | rfl | rfl | rfl | rfl | rfl
      · exact l1 j hj
      · exact l2 j hj
      · exact l3 j hj
      · exact l4 j hj
      · exact l5 j hj
      · exact l6 j hj
    · show z_i g8 (d + 27) j = z_i h (s + 27) j
      rw [v4 27 (by omega) (by omega), ← w3 27 (by omega) (by omega)]
      exact l7 j (by omega)
    · show z_i g8 (d + 29) j = z_i h (s + 29) j
      rw [v5 29 (by omega) (by omega), ← w4 29 (by omega) (by omega)]
      exact m1 j hj
    · show z_i g8 (d + 30) j = z_i h (s + 30) j
      rw [v5 30 (by omega) (by omega), ← w4 30 (by omega) (by omega)]
      exact m2 j hj
    · show z_i g8 (d + 31) j = z_i h (s + 31) j
      rw [v5 31 (by omega) (by omega), ← w4 31 (by omega) (by omega)]
      exact m3 j hj
    · show z_i g8 (d + 0) 6 = z_i h (s + 0) 6
      rw [d8, d7, d6, upd_o (by omega), upd_o (by omega), upd_s]
    · show z_i g8 (d + 0) 7 = z_i h (s + 0) 7
      rw [d8, d7, upd_o (by omega), upd_s]
    · show z_i g8 (d + 0) 8 = z_i h (s + 0) 8
      rw [d8, upd_s]
