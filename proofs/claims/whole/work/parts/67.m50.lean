/-! a state's rows, copied -/
def CPY (c c' : Nat → Nat → Int32) (A : Nat → Int32) : Prop := c' 1 1 = c 1 1 ∧ (∀ j, j < nt A → c' 2 j = c 2 j) ∧ (∀ i, i < 4 → c' 3 i = c 3 i) ∧ (∀ j, j < 4 → c' 4 j = c 4 j ∧ c' 5 j = c 5 j ∧ c' 6 j = c 6 j) ∧ (∀ j, j < 6 → c' 7 j = c 7 j) ∧ (∀ j, j < 48 → c' 8 j = c 8 j ∧ c' 9 j = c 9 j ∧ c' 10 j = c 10 j) ∧ c' 12 0 = c 12 0 ∧ (∀ j, j < nn A → c' 13 j = c 13 j ∧ c' 14 j = c 14 j ∧ c' 15 j = c 15 j ∧ c' 16 j = c 16 j ∧ c' 19 j = c 19 j) ∧ (∀ j, j < 12 * nn A → c' 17 j = c 17 j ∧ c' 18 j = c 18 j) ∧ c' 20 0 = c 20 0 ∧ (∀ f j, f < 6 → j < nk A → c' (21 + f) j = c (21 + f) j) ∧ (∀ j, j < 35 * nk A → c' 27 j = c 27 j) ∧ (∀ j, j < 10 → c' 29 j = c 29 j ∧ c' 30 j = c 30 j) ∧ (∀ j, j < 640 → c' 31 j = c 31 j) ∧ c' 0 6 = c 0 6 ∧ c' 0 7 = c 0 7 ∧ c' 0 8 = c 0 8
theorem RS_copy {c c' : Nat → Nat → Int32} {A T : Nat → Int32} (R : RS c A T) (h : CPY c c' A) : RS c' A T := by
  obtain ⟨⟨v1, v2, v3, v4, v5, v6, v7, v8, v9⟩, r1, r2, r3, r4, r5, r6⟩ := R
  obtain ⟨p1, p2, p3, p4, p5, p6, p7, p8, p9, p10, p11, p12, p13, p14, p15, p16, p17⟩ := h
  have h10 := v1.2.1
  refine ⟨⟨v1, v2, v3, v4, v5, v6, v7, v8, v9⟩, ?_, ?_, ?_, ?_, ⟨?_, ?_⟩, ?_⟩
  · refine ⟨p7.trans r1.1, p17.trans r1.2.1, fun s hs => ?_⟩
    obtain ⟨q1, q2, q3, q4, q5⟩ := p8 s hs
    rw [q1, q2, q3, q4, q5]
    exact r1.2.2 s hs
  · refine ⟨p10.trans r2.1, fun i hi => ?_⟩
    obtain ⟨q1, q2, q3⟩ := r2.2 i hi
    have h5 := (v3.2.2 i hi).2.2.2.1
    refine ⟨fun f hf => (p11 f i (by omega) hi).trans (q1 f hf), (p11 5 i (by omega) hi).trans q2, fun l hl f hf => ?_⟩
    rw [p12 _ (by omega)]
    exact q3 l hl f hf
  · refine ⟨fun i hi => (p3 i hi).trans (r3.1 i hi), fun r hr => ?_, fun l hl => ?_⟩
    · obtain ⟨q1, q2, q3⟩ := p4 r hr
      rw [q1, q2, q3]
      exact r3.2.1 r hr
    · obtain ⟨q1, q2⟩ := r3.2.2 l hl
      have h8 := (v4.2.2.2.2.2 l hl).2.1
      refine ⟨(p5 _ (by omega)).trans q1, fun j hj => ?_⟩
      obtain ⟨w1, w2, w3⟩ := p6 (8 * (l + 1) + j) (by omega)
      rw [w1, w2, w3]
      exact q2 j hj
  · intro s hs
    obtain ⟨b1, b2, b3⟩ := r4 s hs
    have h12 := (v5 s hs).1
    have e : ∀ i, i < mc A s → c' 17 (12 * s + i) = c 17 (12 * s + i) ∧ c' 18 (12 * s + i) = c 18 (12 * s + i) := fun i hi => p9 _ (by omega)
    refine ⟨fun i hi => ?_, fun j hj => ?_, fun i i' h1 h2 => ?_⟩
    · rw [(e i hi).1, (e i hi).2]
      exact b1 i hi
    · obtain ⟨i, i1, i2, i3⟩ := b2 j hj
      exact ⟨i, i1, (e i i1).1.trans i2, (e i i1).2.trans i3⟩
    · rw [(e i (by omega)).1, (e i' h2).1]
      exact b3 i i' h1 h2
  · intro s hs
    obtain ⟨q1, x, q2, q3, q4, q5⟩ := r5.1 s hs
    have h16 := (v7 s hs).1
    refine ⟨(p13 s (by omega)).1.trans q1, x, q2, (p13 s (by omega)).2.trans q3, q4, fun i hi w hw => ?_⟩
    rw [p14 _ (by omega)]
    exact q5 i hi w hw
  · intro s h1 h2
    obtain ⟨q1, q2⟩ := r5.2 s h1 h2
    exact ⟨(p13 s h2).1.trans q1, (p13 s h2).2.trans q2⟩
  · exact ⟨p1.trans r6.1, p15.trans r6.2.1, p16.trans r6.2.2.1, fun i hi => (p2 i hi).trans (r6.2.2.2 i hi)⟩
/-! cells by shape -/
def SH (h : Z_H) (a k n : Nat) : Prop := a < z_n h ∧ z_k h a = k ∧ z_len h a = n
theorem SH.is {h : Z_H} {a c n : Nat} (s : SH h a (4 + c) n) : z_is h a c = true := by
  unfold z_is
  rw [s.2.1]
  simp only [decide_true, Bool.and_true]
  exact decide_eq_true s.1
theorem SH.gI {h : Z_H} {a c n : Nat} (s : SH h a (4 + c) n) (k : Nat) : gI h a c k = some (z_i h a k) := by
  show (if z_is h a c = true then _ else _) = _
  rw [if_pos s.is]
theorem SH.pI {h : Z_H} {a c n : Nat} (s : SH h a (4 + c) n) (k : Nat) (v : Int32) : pI h a c k v = some (z_si h a k v) := by
  show (if z_is h a c = true then _ else _) = _
  rw [if_pos s.is]
theorem SH.gR {h : Z_H} {a c n k b : Nat} (s : SH h a (4 + c) n) (hr : z_r h a k = some b) : gR h a c k = some b := by
  show (if z_is h a c = true then _ else _) = _
  rw [if_pos s.is, hr]
theorem SH.aN {h : Z_H} {a t n : Nat} (s : SH h a t n) (ht : t < 4) : aN h a = some (nI n) := by
  show (if (decide (a < z_n h) && decide (z_k h a < 4)) = true then _ else _) = _
  rw [if_pos (by rw [decide_eq_true s.1, decide_eq_true (show z_k h a < 4 by rw [s.2.1]; exact ht)]; rfl), s.2.2]
  rfl
def cpR (h : Z_H) (a b n : Nat) : Z_H := z_row h b (va_cpy (z_i h a) (z_i h b) 0 0 n)
theorem SH.cp {h : Z_H} {a b la lb n : Nat} (s : SH h a 0 la) (d : SH h b 0 lb) (h1 : n ≤ la) (h2 : n ≤ lb) (h3 : n < 2 ^ 31) : cp h a 0 b 0 (nI n) = some (cpR h a b n) := cp_ok (i := 0) (j := 0) s.1 d.1 s.2.1 d.2.1 (by rw [s.2.2]; omega) (by rw [d.2.2]; omega) (by omega) (by omega)
theorem cpR_o {h : Z_H} {a b n x : Nat} (e : x ≠ b) : z_i (cpR h a b n) x = z_i h x := z_row_o e
theorem cpR_d {h : Z_H} {a b n j : Nat} (hj : j < n) : z_i (cpR h a b n) b j = z_i h a j := by
  unfold cpR
  rw [z_row_i]
  unfold va_cpy
  rw [if_pos (by omega)]
  congr 1
  omega
theorem SH.si {h : Z_H} {a k n b j : Nat} {v : Int32} (s : SH h a k n) : SH (z_si h b j v) a k n := s
theorem SH.row {h : Z_H} {a k n b : Nat} {f : Nat → Int32} (s : SH h a k n) : SH (z_row h b f) a k n := s
theorem cpE {g : Z_H} {a b la lb n : Nat} (s : SH g a 0 la) (d : SH g b 0 lb) (h1 : n ≤ la) (h2 : n ≤ lb) (h3 : n < 2 ^ 31) : ∃ g', cp g a 0 b 0 (nI n) = some g' ∧ z_n g' = z_n g ∧ z_t g' = z_t g ∧ z_x g' = z_x g ∧ (∀ x, x ≠ b → z_i g' x = z_i g x) ∧ ∀ j, j < n → z_i g' b j = z_i g a j := ⟨cpR g a b n, s.cp d h1 h2 h3, rfl, rfl, rfl, fun _ e => cpR_o e, fun _ hj => cpR_d hj⟩
theorem siE {g : Z_H} {a c n k : Nat} {v : Int32} (s : SH g a (4 + c) n) : ∃ g', pI g a c k v = some g' ∧ z_n g' = z_n g ∧ z_t g' = z_t g ∧ z_x g' = z_x g ∧ (∀ x, x ≠ a → z_i g' x = z_i g x) ∧ z_i g' a = upd (z_i g a) k v := ⟨z_si g a k v, s.pI k v, rfl, rfl, rfl, fun _ e => z_si_o e, z_si_i⟩
theorem SH.to {h g : Z_H} {a k n : Nat} (s : SH h a k n) (e1 : z_n g = z_n h) (e2 : z_x g = z_x h) : SH g a k n := by
  unfold SH z_k z_len at *
  rw [e1, e2]
  exact s
theorem zr_to {h g : Z_H} {a k : Nat} {b : Nat} (s : z_r h a k = some b) (e2 : z_x g = z_x h) : z_r g a k = some b := by
  unfold z_r at *
  rw [e2]
  exact s
/-- a plan's cells at p -/
def PLB (h : Z_H) (p : Nat) : Prop := SH h p (4 + 3) 12 ∧ (∀ i, i < 3 → SH h (p + 1 + i) 0 4) ∧ SH h (p + 4) 0 6 ∧ (∀ i, i < 3 → SH h (p + 5 + i) 0 48) ∧ SH h (p + 8) 0 8 ∧ ∀ i, i < 8 → z_r h p (4 + i) = some (p + 1 + i)
theorem c_cp3 {h : Z_H} {p q : Nat} (P : PLB h p) (Q : PLB h q) (hd : p + 9 ≤ q ∨ q + 9 ≤ p) : ∃ h', f_X3_copyFrom h p q = some h' ∧ z_n h' = z_n h ∧ z_t h' = z_t h ∧ z_x h' = z_x h ∧ (∀ a, a < p ∨ p + 8 ≤ a → z_i h' a = z_i h a) ∧ (∀ i, i < 4 → z_i h' p i = z_i h q i) ∧ (∀ i j, i < 3 → j < 4 → z_i h' (p + 1 + i) j = z_i h (q + 1 + i) j) ∧ (∀ j, j < 6 → z_i h' (p + 4) j = z_i h (q + 4) j) ∧ ∀ i j, i < 3 → j < 48 → z_i h' (p + 5 + i) j = z_i h (q + 5 + i) j := by
  obtain ⟨P0, P1, P4, P5, P8, PR⟩ := P
  obtain ⟨Q0, Q1, Q4, Q5, Q8, QR⟩ := Q
  obtain ⟨g1, c1, n1, t1, x1, o1, d1⟩ := siE (g := h) (k := 0) (v := z_i h q 0) P0
  obtain ⟨g2, c2, n2', t2', x2', o2, d2⟩ := siE (g := g1) (k := 1) (v := z_i h q 1) (P0.to n1 x1)
  have n2 := n2'.trans n1
  have t2 := t2'.trans t1
  have x2 := x2'.trans x1
  obtain ⟨g3, c3, n3', t3', x3', o3, d3⟩ := siE (g := g2) (k := 2) (v := z_i h q 2) (P0.to n2 x2)
  have n3 := n3'.trans n2
  have t3 := t3'.trans t2
  have x3 := x3'.trans x2
  obtain ⟨g4, c4, n4', t4', x4', o4, d4⟩ := siE (g := g3) (k := 3) (v := z_i h q 3) (P0.to n3 x3)
  have n4 := n4'.trans n3
  have t4 := t4'.trans t3
  have x4 := x4'.trans x3
  obtain ⟨g5, c5, n5', t5', x5', o5, d5⟩ := cpE (g := g4) (a := q + 1) (b := p + 1) (n := 4) ((Q1 0 (by omega)).to n4 x4) ((P1 0 (by omega)).to n4 x4) (by omega) (by omega) (by omega)
  have n5 := n5'.trans n4
  have t5 := t5'.trans t4
  have x5 := x5'.trans x4
  obtain ⟨g6, c6, n6', t6', x6', o6, d6⟩ := cpE (g := g5) (a := q + 2) (b := p + 2) (n := 4) ((Q1 1 (by omega)).to n5 x5) ((P1 1 (by omega)).to n5 x5) (by omega) (by omega) (by omega)
  have n6 := n6'.trans n5
  have t6 := t6'.trans t5
  have x6 := x6'.trans x5
  obtain ⟨g7, c7, n7', t7', x7', o7, d7⟩ := cpE (g := g6) (a := q + 3) (b := p + 3) (n := 4) ((Q1 2 (by omega)).to n6 x6) ((P1 2 (by omega)).to n6 x6) (by omega) (by omega) (by omega)
  have n7 := n7'.trans n6
  have t7 := t7'.trans t6
  have x7 := x7'.trans x6
  obtain ⟨g8, c8, n8', t8', x8', o8, d8⟩ := cpE (g := g7) (a := q + 4) (b := p + 4) (n := 6) ((Q4).to n7 x7) ((P4).to n7 x7) (by omega) (by omega) (by omega)
  have n8 := n8'.trans n7
  have t8 := t8'.trans t7
  have x8 := x8'.trans x7
  obtain ⟨g9, c9, n9', t9', x9', o9, d9⟩ := cpE (g := g8) (a := q + 5) (b := p + 5) (n := 48) ((Q5 0 (by omega)).to n8 x8) ((P5 0 (by omega)).to n8 x8) (by omega) (by omega) (by omega)
  have n9 := n9'.trans n8
  have t9 := t9'.trans t8
  have x9 := x9'.trans x8
  obtain ⟨g10, c10, n10', t10', x10', o10, d10⟩ := cpE (g := g9) (a := q + 6) (b := p + 6) (n := 48) ((Q5 1 (by omega)).to n9 x9) ((P5 1 (by omega)).to n9 x9) (by omega) (by omega) (by omega)
  have n10 := n10'.trans n9
  have t10 := t10'.trans t9
  have x10 := x10'.trans x9
  obtain ⟨g11, c11, n11', t11', x11', o11, d11⟩ := cpE (g := g10) (a := q + 7) (b := p + 7) (n := 48) ((Q5 2 (by omega)).to n10 x10) ((P5 2 (by omega)).to n10 x10) (by omega) (by omega) (by omega)
  have n11 := n11'.trans n10
  have t11 := t11'.trans t10
  have x11 := x11'.trans x10
  have hq : ∀ k : Nat, z_i g1 q k = z_i h q k ∧ z_i g2 q k = z_i h q k ∧ z_i g3 q k = z_i h q k := fun k => by
    refine ⟨?_, ?_, ?_⟩
    · rw [o1 q (by omega)]
    · rw [o2 q (by omega), o1 q (by omega)]
    · rw [o3 q (by omega), o2 q (by omega), o1 q (by omega)]
  refine ⟨g11, ?_, n11, t11, x11, fun a ha => ?_, fun i hi => ?_, fun i j hi hj => ?_, fun j hj => ?_, fun i j hi hj => ?_⟩
  · unfold f_X3_copyFrom
    refine gdE P0.is (bnd (Q0.gI 0) (bnd c1 (bnd (((Q0.to n1 x1).gI 1).trans (congrArg some (hq 1).1)) (bnd c2 (bnd (((Q0.to n2 x2).gI 2).trans (congrArg some (hq 2).2.1)) (bnd c3 (bnd (((Q0.to n3 x3).gI 3).trans (congrArg some (hq 3).2.2)) (bnd c4 ?_))))))))
    refine bnd (a := q + 1) ((Q0.to n4 x4).gR (zr_to (QR 0 (by omega)) x4)) (bnd (a := p + 1) ((P0.to n4 x4).gR (zr_to (PR 0 (by omega)) x4)) (bnd (a := p + 1) ((P0.to n4 x4).gR (zr_to (PR 0 (by omega)) x4)) (bnd (((P1 0 (by omega)).to n4 x4).aN (by omega)) (bnd c5 ?_))))
    refine bnd (a := q + 2) ((Q0.to n5 x5).gR (zr_to (QR 1 (by omega)) x5)) (bnd (a := p + 2) ((P0.to n5 x5).gR (zr_to (PR 1 (by omega)) x5)) (bnd (a := p + 2) ((P0.to n5 x5).gR (zr_to (PR 1 (by omega)) x5)) (bnd (((P1 1 (by omega)).to n5 x5).aN (by omega)) (bnd c6 ?_))))
    refine bnd (a := q + 3) ((Q0.to n6 x6).gR (zr_to (QR 2 (by omega)) x6)) (bnd (a := p + 3) ((P0.to n6 x6).gR (zr_to (PR 2 (by omega)) x6)) (bnd (a := p + 3) ((P0.to n6 x6).gR (zr_to (PR 2 (by omega)) x6)) (bnd (((P1 2 (by omega)).to n6 x6).aN (by omega)) (bnd c7 ?_))))
    refine bnd (a := q + 4) ((Q0.to n7 x7).gR (zr_to (QR 3 (by omega)) x7)) (bnd (a := p + 4) ((P0.to n7 x7).gR (zr_to (PR 3 (by omega)) x7)) (bnd (a := p + 4) ((P0.to n7 x7).gR (zr_to (PR 3 (by omega)) x7)) (bnd (((P4).to n7 x7).aN (by omega)) (bnd c8 ?_))))
    refine bnd (a := q + 5) ((Q0.to n8 x8).gR (zr_to (QR 4 (by omega)) x8)) (bnd (a := p + 5) ((P0.to n8 x8).gR (zr_to (PR 4 (by omega)) x8)) (bnd (a := p + 5) ((P0.to n8 x8).gR (zr_to (PR 4 (by omega)) x8)) (bnd (((P5 0 (by omega)).to n8 x8).aN (by omega)) (bnd c9 ?_))))
    refine bnd (a := q + 6) ((Q0.to n9 x9).gR (zr_to (QR 5 (by omega)) x9)) (bnd (a := p + 6) ((P0.to n9 x9).gR (zr_to (PR 5 (by omega)) x9)) (bnd (a := p + 6) ((P0.to n9 x9).gR (zr_to (PR 5 (by omega)) x9)) (bnd (((P5 1 (by omega)).to n9 x9).aN (by omega)) (bnd c10 ?_))))
    refine bnd (a := q + 7) ((Q0.to n10 x10).gR (zr_to (QR 6 (by omega)) x10)) (bnd (a := p + 7) ((P0.to n10 x10).gR (zr_to (PR 6 (by omega)) x10)) (bnd (a := p + 7) ((P0.to n10 x10).gR (zr_to (PR 6 (by omega)) x10)) (bnd (((P5 2 (by omega)).to n10 x10).aN (by omega)) (bnd c11 ?_))))
    rfl
  · rw [o11 (a) (by omega), o10 (a) (by omega), o9 (a) (by omega), o8 (a) (by omega), o7 (a) (by omega), o6 (a) (by omega), o5 (a) (by omega), o4 (a) (by omega), o3 (a) (by omega), o2 (a) (by omega), o1 (a) (by omega)]
  · rw [o11 (p) (by omega), o10 (p) (by omega), o9 (p) (by omega), o8 (p) (by omega), o7 (p) (by omega), o6 (p) (by omega), o5 (p) (by omega), d4, d3, d2, d1]
    have : i = 0 ∨ i = 1 ∨ i = 2 ∨ i = 3 := by omega
    rcases this with rfl | rfl | rfl | rfl <;> rfl
  · have : i = 0 ∨ i = 1 ∨ i = 2 := by omega
    rcases this with rfl | rfl | rfl
    · show z_i g11 (p + 1) j = z_i h (q + 1) j
      rw [o11 (p + 1) (by omega), o10 (p + 1) (by omega), o9 (p + 1) (by omega), o8 (p + 1) (by omega), o7 (p + 1) (by omega), o6 (p + 1) (by omega), d5 j hj, o4 (q + 1) (by omega), o3 (q + 1) (by omega), o2 (q + 1) (by omega), o1 (q + 1) (by omega)]
    · show z_i g11 (p + 2) j = z_i h (q + 2) j
      rw [o11 (p + 2) (by omega), o10 (p + 2) (by omega), o9 (p + 2) (by omega), o8 (p + 2) (by omega), o7 (p + 2) (by omega), d6 j hj, o5 (q + 2) (by omega), o4 (q + 2) (by omega), o3 (q + 2) (by omega), o2 (q + 2) (by omega), o1 (q + 2) (by omega)]
    · show z_i g11 (p + 3) j = z_i h (q + 3) j
      rw [o11 (p + 3) (by omega), o10 (p + 3) (by omega), o9 (p + 3) (by omega), o8 (p + 3) (by omega), d7 j hj, o6 (q + 3) (by omega), o5 (q + 3) (by omega), o4 (q + 3) (by omega), o3 (q + 3) (by omega), o2 (q + 3) (by omega), o1 (q + 3) (by omega)]
  · rw [o11 (p + 4) (by omega), o10 (p + 4) (by omega), o9 (p + 4) (by omega), d8 j hj, o7 (q + 4) (by omega), o6 (q + 4) (by omega), o5 (q + 4) (by omega), o4 (q + 4) (by omega), o3 (q + 4) (by omega), o2 (q + 4) (by omega), o1 (q + 4) (by omega)]
  · have : i = 0 ∨ i = 1 ∨ i = 2 := by omega
    rcases this with rfl | rfl | rfl
    · show z_i g11 (p + 5) j = z_i h (q + 5) j
      rw [o11 (p + 5) (by omega), o10 (p + 5) (by omega), d9 j hj, o8 (q + 5) (by omega), o7 (q + 5) (by omega), o6 (q + 5) (by omega), o5 (q + 5) (by omega), o4 (q + 5) (by omega), o3 (q + 5) (by omega), o2 (q + 5) (by omega), o1 (q + 5) (by omega)]
    · show z_i g11 (p + 6) j = z_i h (q + 6) j
      rw [o11 (p + 6) (by omega), d10 j hj, o9 (q + 6) (by omega), o8 (q + 6) (by omega), o7 (q + 6) (by omega), o6 (q + 6) (by omega), o5 (q + 6) (by omega), o4 (q + 6) (by omega), o3 (q + 6) (by omega), o2 (q + 6) (by omega), o1 (q + 6) (by omega)]
    · show z_i g11 (p + 7) j = z_i h (q + 7) j
      rw [d11 j hj, o10 (q + 7) (by omega), o9 (q + 7) (by omega), o8 (q + 7) (by omega), o7 (q + 7) (by omega), o6 (q + 7) (by omega), o5 (q + 7) (by omega), o4 (q + 7) (by omega), o3 (q + 7) (by omega), o2 (q + 7) (by omega), o1 (q + 7) (by omega)]
