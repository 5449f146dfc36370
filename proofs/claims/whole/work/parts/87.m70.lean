/-! a number, on both sides -/
def CR (g : Z_H) (N : Nat) (Kf Pf Vf : Nat → Int32) (i : Nat) : Prop := RDS g N i ∧ ∀ j, j ≤ N → z_i g 47 j = Kf j ∧ z_i g 48 j = Pf j ∧ z_i g 49 j = Vf j
def MR (w : Z_H) (T : Nat → Int32) (n : Nat) (Kf Pf Vf : Nat → Int32) (q : Nat → Nat) (i : Nat) : Prop := MTX w T n ∧ z_i w 61 3 = nI (q (i + 1)) ∧ z_i w 61 5 = Pf i ∧ MT w (Kf i) (Vf i)
def REL (g w : Z_H) (T : Nat → Int32) (n N : Nat) (Kf Pf Vf : Nat → Int32) (q : Nat → Nat) (i : Nat) : Prop := CR g N Kf Pf Vf i ∧ MR w T n Kf Pf Vf q i ∧ SL (z_i g 35) (z_i w 61) Pf i ∧ z_i g 35 8 = -1
/-- what the model's reader may change -/
def MF (w w' : Z_H) : Prop := z_n w' = z_n w ∧ z_t w' = z_t w ∧ z_x w' = z_x w ∧ (∀ a, a ≠ 61 → a ≠ 64 → a ≠ 65 → z_i w' a = z_i w a) ∧ ∀ k, k ≠ 3 → k ≠ 5 → k ≠ 6 → k ≠ 7 → k ≠ 9 → k ≠ 10 → k ≠ 11 → z_i w' 61 k = z_i w 61 k
theorem MF.rf {w : Z_H} : MF w w := ⟨rfl, rfl, rfl, fun _ _ _ _ => rfl, fun _ _ _ _ _ _ _ _ => rfl⟩
theorem MF.tr {w w1 w2 : Z_H} (a : MF w w1) (b : MF w1 w2) : MF w w2 := ⟨b.1.trans a.1, b.2.1.trans a.2.1, b.2.2.1.trans a.2.2.1, fun q h1 h2 h3 => (b.2.2.2.1 q h1 h2 h3).trans (a.2.2.2.1 q h1 h2 h3), fun k h1 h2 h3 h4 h5 h6 h7 => (b.2.2.2.2 k h1 h2 h3 h4 h5 h6 h7).trans (a.2.2.2.2 k h1 h2 h3 h4 h5 h6 h7)⟩
theorem M61.mf {w w' : Z_H} (m : M61 w w') : MF w w' := ⟨m.1, m.2.1, m.2.2.1, fun q h1 _ _ => m.2.2.2.1 q h1, fun k h1 h2 h3 h4 _ _ _ => m.2.2.2.2 k h1 h2 h3 h4⟩
theorem M1A.mf {w w' : Z_H} (m : M1A w w') : MF w w' := ⟨m.1.1, m.1.2.1, m.1.2.2.1, fun q h1 _ _ => m.1.2.2.2 q h1 h1, fun k _ _ _ _ _ h6 h7 => m.2 k h6 h7⟩
theorem MF_65 {w : Z_H} {k : Nat} {v : Int32} : MF w (z_si w 65 k v) := ⟨rfl, rfl, rfl, fun _ _ _ h => z_si_o h, fun k _ _ _ _ _ _ _ => congrFun (z_si_o (by omega)) k⟩
theorem MF_64 {w : Z_H} {k : Nat} {v : Int32} : MF w (z_si w 64 k v) := ⟨rfl, rfl, rfl, fun _ _ h _ => z_si_o h, fun k _ _ _ _ _ _ _ => congrFun (z_si_o (by omega)) k⟩
theorem MF_9 {w : Z_H} {v : Int32} : MF w (z_si w 61 9 v) := ⟨rfl, rfl, rfl, fun _ h _ _ => z_si_o h, fun k _ _ _ _ h _ _ => by rw [zi_si, if_pos rfl, if_neg h]⟩
theorem MTX.mf {w w' : Z_H} {T : Nat → Int32} {n : Nat} (m : MTX w T n) (r : MF w w') : MTX w' T n := ⟨LY_x r.1 r.2.2.1 m.1, m.2.1, (r.2.2.2.2 4 (by omega) (by omega) (by omega) (by omega) (by omega) (by omega) (by omega)).trans m.2.2.1, fun i hi => by rw [r.2.2.2.1 63 (by omega) (by omega) (by omega)]; exact m.2.2.2.1 i hi, m.2.2.2.2⟩
theorem wkd_n {W : Int64} {x : Int32} (hx : x ≠ 1) : ∀ l : List (List Int32 × Int32), (∀ q ∈ l, q.2 ≠ x) → wkd W l ≠ x
  | [], _ => fun e => hx e.symm
  | q :: l, h => by
    show (if W = Int64.ofNat (cstR q.1.reverse) then q.2 else wkd W l) ≠ x
    split
    · exact h q (List.mem_cons_self ..)
    · exact wkd_n hx l (fun q hq => h q (List.mem_cons_of_mem _ hq))
theorem MT.num {w : Z_H} {K v : Int32} (m : MT w K v) (h : K = 3) : z_i w 61 6 = 3 ∧ z_i w 61 7 = v := by
  rcases m with ⟨a, -⟩ | ⟨a, -⟩ | ⟨a, -⟩ | ⟨-, b, c⟩ | ⟨-, b⟩
  · rw [h] at a; exact absurd a (by decide)
  · rw [h] at a; exact absurd a (by decide)
  · rw [h] at a; exact absurd a (by decide)
  · exact ⟨b, c⟩
  · exact absurd (b.symm.trans h) (wkd_n (by decide) z_wrds (by decide))
theorem MT.nn {w : Z_H} {K v : Int32} (m : MT w K v) (h : K ≠ 3) : ¬ z_i w 61 6 = 3 := by
  rcases m with ⟨-, b⟩ | ⟨-, b⟩ | ⟨-, b⟩ | ⟨a, -⟩ | ⟨b, -⟩
  · rw [b]; decide
  · rw [b]; decide
  · rw [b]; decide
  · exact absurd a h
  · rw [b]; decide
def BRK (g w : Z_H) : Prop := z_i g 35 8 = z_i w 61 9 ∧ z_i g 35 8 ≠ -1
theorem MR_next {T : Nat → Int32} {n N : Nat} {Kf Pf Vf : Nat → Int32} {q : Nat → Nat} (t : TS T n N Kf Pf Vf q) {w : Z_H} {i : Nat} (m : MTX w T n) (h3 : z_i w 61 3 = nI (q (i + 1))) (hi : i < N) : ∃ w', f_X10_token w 61 = some w' ∧ M61 w w' ∧ MR w' T n Kf Pf Vf q (i + 1) := by
  obtain ⟨w', a, b, c, d, e⟩ := e_token m h3 (t.2.2.1 (i + 1) (by omega))
  exact ⟨w', a, b, m.to b, c, d, e⟩
theorem CR.to {g g' : Z_H} {N : Nat} {Kf Pf Vf : Nat → Int32} {i i' : Nat} (c : CR g N Kf Pf Vf i) (o : ON g g' 35) (h5 : z_i g' 35 5 = z_i g 35 5) (h7 : z_i g' 35 7 = nI i') (hi : i' ≤ N) : CR g' N Kf Pf Vf i' := ⟨⟨o.ly c.1.1, c.1.2.1, h5.trans c.1.2.2.1, h7, hi⟩, fun j hj => by
  rw [o.2.2.2 47 (by omega) (by omega), o.2.2.2 48 (by omega) (by omega), o.2.2.2 49 (by omega) (by omega)]
  exact c.2 j hj⟩
theorem e_fails {w : Z_H} (W : LY w) {p : Int32} (h5 : z_i w 61 5 = p) : f_X10_fails w 61 = some (0, z_si w 61 9 p) := by
  unfold f_X10_fails
  exact gdE (yg61 W) (bnd ((yI61 W 5).trans (congrArg some h5)) (bnd (yP61 W 9 p) rfl))
theorem num_tk {T : Nat → Int32} {n N : Nat} {Kf Pf Vf : Nat → Int32} {q : Nat → Nat} (t : TS T n N Kf Pf Vf q) {g w : Z_H} {i : Nat} (R : REL g w T n N Kf Pf Vf q i) {x lo hi : Nat} (hx : x < 3) (h1 : lo ≤ hi) (h2 : hi ≤ 9999) : ∃ tt g' ok w', f_X4_number g 35 (nI lo) (nI hi) = some (nI tt, g') ∧ f_X10_takes w 61 (nI x) (nI lo) (nI hi) = some (ok, w') ∧ NUM g g' i lo hi tt ∧ MF w w' ∧ z_i w' 64 = z_i w 64 ∧ ((ok = 1 ∧ i < N ∧ REL g' w' T n N Kf Pf Vf q (i + 1) ∧ z_i w' 65 = upd (z_i w 65) x (nI tt) ∧ (z_i g' 35 9 = 0 → z_i g 35 9 = 0)) ∨ (ok = 0 ∧ BRK g' w')) := by
  obtain ⟨C, ⟨m, w3, w5, mt⟩, sl, e8⟩ := R
  have iN := C.1.2.2.2.2
  obtain ⟨k47, k48, k49⟩ := C.2 i iN
  have W := m.1
  obtain ⟨tt, g', c1, nm⟩ := c_number C.1 ((C.2 N (Nat.le_refl _)).1.trans t.2.2.2.2) h1 h2
  have lt3 : Kf i = 3 → i < N := fun c => by
    rcases Nat.lt_or_ge i N with z | z
    · exact z
    · have e : i = N := by omega
      rw [e, t.2.2.2.2] at c
      exact absurd c (by decide)
  have z1 : ¬ (1 : Int32) = 0 := by decide
  obtain ⟨o, l1, l2, cs⟩ := nm
  rcases cs with ⟨a1, a2, a3⟩ | ⟨a1, a2, a3, a4⟩ | ⟨a1, a2, a3⟩
  · have K3 : Kf i = 3 := k47.symm.trans a1
    obtain ⟨m6, m7⟩ := mt.num K3
    have v7 : z_i w 61 7 = nI tt := m7.trans (k49.symm.trans a2)
    let w1 := z_si w 65 x (nI tt)
    have W1 : LY w1 := W
    have M1 := m.mf (MF_65 (w := w) (k := x) (v := nI tt))
    obtain ⟨w2, b1, b2, b3⟩ := MR_next t (w := w1) (i := i) M1 w3 (lt3 K3)
    have i61 : z_i w2 61 10 = z_i w 61 10 ∧ z_i w2 61 11 = z_i w 61 11 := ⟨(b2.2.2.2.2 10 (by omega) (by omega) (by omega) (by omega)).trans (congrFun (z_si_o (by omega)) 10), (b2.2.2.2.2 11 (by omega) (by omega) (by omega) (by omega)).trans (congrFun (z_si_o (by omega)) 11)⟩
    refine ⟨tt, g', 1, w2, c1, ?_, ⟨o, l1, l2, Or.inl ⟨a1, a2, a3⟩⟩, MF_65.tr b2.mf, (b2.2.2.2.1 64 (by omega)).trans (z_si_o (by omega)), Or.inl ⟨rfl, lt3 K3, ⟨C.to o (by rw [a3, upd_o (by omega)]) (by rw [a3, upd_s]) (lt3 K3), b3, ?_, by rw [a3, upd_o (by omega)]; exact e8⟩, (b2.2.2.2.1 65 (by omega)).trans z_si_i, fun h => by rw [a3, upd_o (by omega)] at h; exact h⟩⟩
    · have a7 : gI w 61 10 7 = some (nI tt) := (yI61 W 7).trans (congrArg some v7)
      have a71 : gI w1 61 10 7 = some (nI tt) := (yI61 W1 7).trans (congrArg some ((congrFun (z_si_o (by omega)) 7).trans v7))
      unfold f_X10_takes
      exact gdE (yg61 W) (bnd (yI61 W 6) ((if_pos m6).trans (bnd (yR61_13 W) (bnd a7 (bnd (yS65 W hx) (bnd a71 (bnd (e_in_t (nI_le l1 (by omega)) (nI_le l2 (by omega))) (jnE ((if_neg z1).trans (bnd b1 rfl))))))))))
    · unfold SL at *
      rw [a3, i61.1, i61.2, upd_o (by omega), upd_o (by omega)]
      obtain ⟨s1, s2 | ⟨s3, s4, i', s5, s6⟩⟩ := sl
      · exact ⟨s1, Or.inl s2⟩
      · exact ⟨s1, Or.inr ⟨s3, s4, i', by omega, s6⟩⟩
  · have K3 : Kf i = 3 := k47.symm.trans a1
    obtain ⟨m6, m7⟩ := mt.num K3
    let w1 := z_si w 65 x (z_i w 61 7)
    have W1 : LY w1 := W
    have i1 : z_i w1 61 = z_i w 61 := z_si_o (by omega)
    have M1 := m.mf (MF_65 (w := w) (k := x) (v := z_i w 61 7))
    have ev : z_i w 61 7 = z_i g 49 i := m7.trans k49.symm
    obtain ⟨w2, b1, b2, b3, b4⟩ := e_adds t (w := w1) W1 iN (k := 2) (Or.inl rfl) (f := z_i g 35) (by rw [i1]; exact sl)
    have M2 := M1.mf b2.mf
    let w4 := z_si w2 65 x (nI lo)
    have M4 := M2.mf (MF_65 (w := w2) (k := x) (v := nI lo))
    have j3 : z_i w4 61 3 = nI (q (i + 1)) := by
      show z_i (z_si w2 65 x (nI lo)) 61 3 = _
      rw [z_si_o (by omega), b2.2 3 (by omega) (by omega), i1]
      exact w3
    obtain ⟨w6, d1, d2, d3⟩ := MR_next t (w := w4) (i := i) M4 j3 (lt3 K3)
    have i61 : z_i w6 61 10 = z_i w2 61 10 ∧ z_i w6 61 11 = z_i w2 61 11 := ⟨(d2.2.2.2.2 10 (by omega) (by omega) (by omega) (by omega)).trans (congrFun (z_si_o (by omega)) 10), (d2.2.2.2.2 11 (by omega) (by omega) (by omega) (by omega)).trans (congrFun (z_si_o (by omega)) 11)⟩
    rw [k48] at a4
    refine ⟨tt, g', 1, w6, c1, ?_, ⟨o, l1, l2, Or.inr (Or.inl ⟨a1, a2, a3, by rw [k48]; exact a4⟩)⟩, ((MF_65.tr b2.mf).tr MF_65).tr d2.mf, ?_, Or.inl ⟨rfl, lt3 K3, ⟨C.to o (by rw [a4, upd_o (by omega), slp_5 (by omega) (by omega)]) (by rw [a4, upd_s]) (lt3 K3), d3, ?_, by rw [a4, upd_o (by omega), slp_5 (by omega) (by omega)]; exact e8⟩, ?_, fun h => ?_⟩⟩
    · have a7 : gI w 61 10 7 = some (z_i w 61 7) := yI61 W 7
      have a71 : gI w1 61 10 7 = some (z_i w 61 7) := (yI61 W1 7).trans (congrArg some (congrFun i1 7))
      have a51 : gI w1 61 10 5 = some (Pf i) := (yI61 W1 5).trans (congrArg some ((congrFun i1 5).trans w5))
      have ein : f_X10_in w1 (z_i w 61 7) (nI lo) (nI hi) = some 0 := e_in_f (by rw [ev]; exact a2)
      unfold f_X10_takes
      exact gdE (yg61 W) (bnd (yI61 W 6) ((if_pos m6).trans (bnd (yR61_13 W) (bnd a7 (bnd (yS65 W hx) (bnd a71 (bnd ein (jnE ((if_pos rfl).trans (bnd a51 (bnd b1 (bnd (a := 65) (yR61_13 M2.1) (bnd (yS65 M2.1 hx) (bnd d1 rfl))))))))))))))
    · rw [d2.2.2.2.1 64 (by omega)]
      show z_i (z_si w2 65 x (nI lo)) 64 = _
      rw [z_si_o (by omega), b2.1.2.2.2 64 (by omega) (by omega)]
      exact z_si_o (by omega)
    · unfold SL at *
      rw [a4, i61.1, i61.2, upd_o (by omega), upd_o (by omega)]
      exact b4
    · rw [d2.2.2.2.1 65 (by omega)]
      show z_i (z_si w2 65 x (nI lo)) 65 = _
      rw [z_si_i, b2.1.2.2.2 65 (by omega) (by omega)]
      show upd (z_i (z_si w 65 x (z_i w 61 7)) 65) x (nI lo) = _
      rw [z_si_i, upd_u, a3]
    · rw [a4, upd_o (by omega)] at h
      unfold slp at h
      by_cases c : z_i g 35 9 = 0
      · exact c
      · rw [if_neg c] at h
        exact h
  · have K3 : Kf i ≠ 3 := fun e => a1 (k47.trans e)
    obtain ⟨s, -, sn, p3, -⟩ := (t.2.2.1 i iN).s
    refine ⟨tt, g', 0, z_si w 61 9 (Pf i), c1, ?_, ⟨o, l1, l2, Or.inr (Or.inr ⟨a1, a2, a3⟩)⟩, MF_9, z_si_o (by omega), Or.inr ⟨rfl, ?_⟩⟩
    · unfold f_X10_takes
      exact gdE (yg61 W) (bnd (yI61 W 6) ((if_neg (mt.nn K3)).trans (bd2E (e_fails W w5) (gdE (by decide) rfl))))
    · have : z_i g' 35 8 = Pf i := by
        rw [a3]
        unfold brk
        rw [if_pos e8, upd_s, k48]
      refine ⟨by rw [this, zi_si, if_pos rfl, if_pos rfl], ?_⟩
      rw [this, p3]
      have n6 := t.1
      intro e
      have np : ¬ nI s < 0 := nI_pos (by omega)
      rw [e] at np
      exact np (by decide)
