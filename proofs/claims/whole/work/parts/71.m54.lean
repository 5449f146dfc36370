/-! a plan as it is at first -/
theorem SH.sI {h : Z_H} {a n k : Nat} (s : SH h a 0 n) (hk : k < n) (hn : n < 2 ^ 31) (v : Int32) : sI h a (nI k) v = some (z_si h a k v) := by
  show (if z_ar h a 0 (nI k) then some (z_si h a (nI k).toNatClampNeg v) else none) = _
  unfold z_ar
  rw [nI_clamp (by omega), s.2.1, s.2.2, decide_eq_true s.1, decide_eq_true (rfl : (0 : Nat) = 0), decide_eq_true (show (0 : Int32) ≤ nI k from nI_pos' (by omega)), decide_eq_true hk, if_pos (show (true && (true && (true && true))) = true from rfl)]
def SMP (h g : Z_H) (p : Nat) : Prop := z_n g = z_n h ∧ z_t g = z_t h ∧ z_x g = z_x h ∧ ∀ a, a < p ∨ p + 8 ≤ a → z_i g a = z_i h a
theorem SMP.rf {h : Z_H} {p : Nat} : SMP h h p := ⟨rfl, rfl, rfl, fun _ _ => rfl⟩
theorem SMP.si {h g : Z_H} {p a k : Nat} {v : Int32} (s : SMP h g p) (h1 : p ≤ a) (h2 : a < p + 8) : SMP h (z_si g a k v) p := ⟨s.1, s.2.1, s.2.2.1, fun b hb => by
  rw [z_si_o (by omega)]
  exact s.2.2.2 b hb⟩
theorem PLB.to {h g : Z_H} {p : Nat} (P : PLB h p) (e1 : z_n g = z_n h) (e2 : z_x g = z_x h) : PLB g p := ⟨P.1.to e1 e2, fun i hi => (P.2.1 i hi).to e1 e2, P.2.2.1.to e1 e2, fun i hi => (P.2.2.2.1 i hi).to e1 e2, P.2.2.2.2.1.to e1 e2, fun i hi => zr_to (P.2.2.2.2.2 i hi) e2⟩
def fq (l : Nat) : Int32 := if l = 0 then 10 else if l = 1 then 5 else 0
def PFr (g : Z_H) (p r : Nat) : Prop := z_i g (p + 1) r = nI (1000 * r) ∧ z_i g (p + 2) r = nI r ∧ z_i g (p + 3) r = nI (r + 1)
def PFl (g : Z_H) (p l : Nat) : Prop := z_i g (p + 4) (l + 1) = 1 ∧ z_i g (p + 5) (8 * (l + 1)) = 11 ∧ z_i g (p + 6) (8 * (l + 1)) = 0 ∧ z_i g (p + 7) (8 * (l + 1)) = fq l
def PF (g : Z_H) (p : Nat) : Prop := (z_i g p 0 = 100 ∧ z_i g p 1 = 30 ∧ z_i g p 2 = 3 ∧ z_i g p 3 = 2) ∧ (∀ r, r < 4 → PFr g p r) ∧ ∀ l, l < 5 → PFl g p l
theorem c_setNode {h : Z_H} {p l j : Nat} (P : PLB h p) (hl : l < 6) (hj : j < 8) (x y z : Int32) : f_X3_setNode h p (nI l) (nI j) x y z = some (z_si (z_si (z_si h (p + 5) (8 * l + j) x) (p + 6) (8 * l + j) y) (p + 7) (8 * l + j) z) := by
  have e : nI l * 8 + nI j = nI (8 * l + j) := by
    rw [n_8, nI_mul, nI_add, Nat.mul_comm]
  have s0 := P.2.2.2.1 0 (by omega)
  have s1 := P.2.2.2.1 1 (by omega)
  have s2 := P.2.2.2.1 2 (by omega)
  have r4 := P.2.2.2.2.2 4 (by omega)
  have r5 := P.2.2.2.2.2 5 (by omega)
  have r6 := P.2.2.2.2.2 6 (by omega)
  unfold f_X3_setNode
  refine gdE P.1.is ((if_neg (show ¬ (8 : Int32) ≤ nI j from nI_ge (b := 8) hj (by omega))).trans (ltE ?_))
  rw [e]
  exact bnd (P.1.gR r4) (bnd (s0.sI (by omega) (by omega) x) (bnd (a := p + 6) (P.1.gR r5) (bnd (s1.si.sI (by omega) (by omega) y) (bnd (a := p + 7) (P.1.gR r6) (bnd (s2.si.si.sI (by omega) (by omega) z) rfl)))))
theorem c_setFirst {h : Z_H} {p : Nat} (P : PLB h p) : ∃ h', f_X3_setFirst h p = some h' ∧ SMP h h' p ∧ PF h' p := by
  let h4 := z_si (z_si (z_si (z_si h p 0 100) p 1 30) p 2 3) p 3 2
  have sm4 : SMP h h4 p := (((SMP.rf.si (Nat.le_refl _) (by omega)).si (Nat.le_refl _) (by omega)).si (Nat.le_refl _) (by omega)).si (Nat.le_refl _) (by omega)
  have k1 := lp_ex (b := f_X3_setFirst_l1 p) (fun k (g : Z_H) => (nI k, g)) (fun k g => SMP h g p ∧ z_i g p = z_i h4 p ∧ ∀ r, r < k → PFr g p r) some 4 ?_ ?_ 4 FU 0 h4 rfl (by unfold FU; omega) ⟨sm4, rfl, fun r hr => absurd hr (Nat.not_lt_zero _)⟩
  · obtain ⟨g, ⟨g1, g2, g3⟩, k1⟩ := k1
    have k1' : lp (f_X3_setFirst_l1 p) FU (0, h4) = some g := k1
    have k2 := lp_ex (b := f_X3_setFirst_l2 p) (fun k (q : Z_H) => (nI (k + 1), q)) (fun k q => SMP h q p ∧ z_i q p = z_i h4 p ∧ (∀ r, r < 4 → PFr q p r) ∧ ∀ l, l < k → PFl q p l) some 5 ?_ ?_ 5 FU 0 g rfl (by unfold FU; omega) ⟨g1, g2, g3, fun r hr => absurd hr (Nat.not_lt_zero _)⟩
    · obtain ⟨q, ⟨q1, q2, q3, q4⟩, k2⟩ := k2
      have k2' : lp (f_X3_setFirst_l2 p) FU (1, g) = some q := k2
      refine ⟨q, ?_, q1, ⟨?_, ?_, ?_, ?_⟩, q3, q4⟩
      · unfold f_X3_setFirst
        exact gdE P.1.is (bnd (P.1.pI 0 100) (bnd (P.1.si.pI 1 30) (bnd (P.1.si.si.pI 2 3) (bnd (P.1.si.si.si.pI 3 2) (bnd k1' (bnd k2' rfl))))))
      · rw [q2]; show z_i (z_si (z_si (z_si (z_si h p 0 100) p 1 30) p 2 3) p 3 2) p 0 = 100; rw [zi_si, if_pos rfl, if_neg (by omega), zi_si, if_pos rfl, if_neg (by omega), zi_si, if_pos rfl, if_neg (by omega), zi_si, if_pos rfl, if_pos rfl]
      · rw [q2]; show z_i (z_si (z_si (z_si (z_si h p 0 100) p 1 30) p 2 3) p 3 2) p 1 = 30; rw [zi_si, if_pos rfl, if_neg (by omega), zi_si, if_pos rfl, if_neg (by omega), zi_si, if_pos rfl, if_pos rfl]
      · rw [q2]; show z_i (z_si (z_si (z_si (z_si h p 0 100) p 1 30) p 2 3) p 3 2) p 2 = 3; rw [zi_si, if_pos rfl, if_neg (by omega), zi_si, if_pos rfl, if_pos rfl]
      · rw [q2]; show z_i (z_si (z_si (z_si (z_si h p 0 100) p 1 30) p 2 3) p 3 2) p 3 = 2; rw [zi_si, if_pos rfl, if_pos rfl]
    · rintro k q hk ⟨q1, q2, q3, q4⟩
      have Q := P.to q1.1 q1.2.2.1
      let w := z_si (z_si (z_si q (p + 5) (8 * (k + 1) + 0) 11) (p + 6) (8 * (k + 1) + 0) 0) (p + 7) (8 * (k + 1) + 0) (fq k)
      have W : PLB w p := Q
      let w' := z_si w (p + 4) (k + 1) 1
      have ow : ∀ a, a ≠ p + 4 → a ≠ p + 5 → a ≠ p + 6 → a ≠ p + 7 → z_i w' a = z_i q a := fun a h1 h2 h3 h4 => by
        show z_i (z_si (z_si (z_si (z_si q (p + 5) (8 * (k + 1) + 0) 11) (p + 6) (8 * (k + 1) + 0) 0) (p + 7) (8 * (k + 1) + 0) (fq k)) (p + 4) (k + 1) 1) a = _
        rw [z_si_o h1, z_si_o h4, z_si_o h3, z_si_o h2]
      have i4 : ∀ j, z_i w' (p + 4) j = if j = k + 1 then 1 else z_i q (p + 4) j := fun j => by
        show z_i (z_si (z_si (z_si (z_si q (p + 5) (8 * (k + 1) + 0) 11) (p + 6) (8 * (k + 1) + 0) 0) (p + 7) (8 * (k + 1) + 0) (fq k)) (p + 4) (k + 1) 1) (p + 4) j = _
        rw [zi_si, if_pos rfl, z_si_o (by omega), z_si_o (by omega), z_si_o (by omega)]
      have i5 : ∀ j, z_i w' (p + 5) j = if j = 8 * (k + 1) then 11 else z_i q (p + 5) j := fun j => by
        show z_i (z_si (z_si (z_si (z_si q (p + 5) (8 * (k + 1) + 0) 11) (p + 6) (8 * (k + 1) + 0) 0) (p + 7) (8 * (k + 1) + 0) (fq k)) (p + 4) (k + 1) 1) (p + 5) j = _
        rw [z_si_o (by omega), z_si_o (by omega), z_si_o (by omega), zi_si, if_pos rfl]
        rfl
      have i6 : ∀ j, z_i w' (p + 6) j = if j = 8 * (k + 1) then 0 else z_i q (p + 6) j := fun j => by
        show z_i (z_si (z_si (z_si (z_si q (p + 5) (8 * (k + 1) + 0) 11) (p + 6) (8 * (k + 1) + 0) 0) (p + 7) (8 * (k + 1) + 0) (fq k)) (p + 4) (k + 1) 1) (p + 6) j = _
        rw [z_si_o (by omega), z_si_o (by omega), zi_si, if_pos rfl, z_si_o (by omega)]
        rfl
      have i7 : ∀ j, z_i w' (p + 7) j = if j = 8 * (k + 1) then fq k else z_i q (p + 7) j := fun j => by
        show z_i (z_si (z_si (z_si (z_si q (p + 5) (8 * (k + 1) + 0) 11) (p + 6) (8 * (k + 1) + 0) 0) (p + 7) (8 * (k + 1) + 0) (fq k)) (p + 4) (k + 1) 1) (p + 7) j = _
        rw [z_si_o (by omega), zi_si, if_pos rfl, z_si_o (by omega), z_si_o (by omega)]
        rfl
      refine ⟨w', ⟨(((q1.si (by omega) (by omega)).si (by omega) (by omega)).si (by omega) (by omega)).si (by omega) (by omega), ?_, fun r hr => ?_, fun l hl => ?_⟩, fun rec => ?_⟩
      · rw [ow p (by omega) (by omega) (by omega) (by omega)]
        exact q2
      · unfold PFr
        rw [ow (p + 1) (by omega) (by omega) (by omega) (by omega), ow (p + 2) (by omega) (by omega) (by omega) (by omega), ow (p + 3) (by omega) (by omega) (by omega) (by omega)]
        exact q3 r hr
      · unfold PFl
        rw [i4, i5, i6, i7]
        by_cases e : l = k
        · rw [if_pos (by omega), if_pos (by omega), if_pos (by omega), if_pos (by omega), e]
          exact ⟨rfl, rfl, rfl, rfl⟩
        · rw [if_neg (by omega), if_neg (by omega), if_neg (by omega), if_neg (by omega)]
          exact q4 l (by omega)
      · have en : f_X3_setNode q p (nI (k + 1)) 0 11 0 (fq k) = some w := c_setNode (j := 0) Q (by omega) (by omega) 11 0 (fq k)
        have fin : ((f_X3_setNode q p (nI (k + 1)) 0 11 0 (fq k)).bind fun h21 => (gR h21 p 3 7).bind fun r22 => (sI h21 r22 (nI (k + 1)) 1).bind fun h23 => rec (nI (k + 1) + 1, h23)) = rec (nI (k + 1 + 1), w') := by
          refine bnd en (bnd (a := p + 4) (W.1.gR (W.2.2.2.2.2 3 (by omega))) (bnd (W.2.2.1.sI (by omega) (by omega) 1) ?_))
          rw [nI_1]
        unfold f_X3_setFirst_l2
        refine (if_neg (show ¬ (5 : Int32) < nI (k + 1) from nI_nlt (a := 5) (by omega) (by omega))).trans (jnE ?_)
        have : k = 0 ∨ k = 1 ∨ k = 2 ∨ k = 3 ∨ k = 4 := by omega
        rcases this with rfl | rfl | rfl | rfl | rfl
        · exact (if_pos rfl).trans fin
        · exact (if_neg (by decide)).trans ((if_pos rfl).trans fin)
        · exact (if_neg (by decide)).trans ((if_neg (by decide)).trans fin)
        · exact (if_neg (by decide)).trans ((if_neg (by decide)).trans fin)
        · exact (if_neg (by decide)).trans ((if_neg (by decide)).trans fin)
    · rintro rec q _
      unfold f_X3_setFirst_l2
      exact if_pos (by decide)
  · rintro k q hk ⟨q1, q2, q3⟩
    have Q := P.to q1.1 q1.2.2.1
    let w := z_si (z_si (z_si q (p + 1) k (nI (1000 * k))) (p + 2) k (nI k)) (p + 3) k (nI (k + 1))
    have s0 := Q.2.1 0 (by omega)
    have s1 := Q.2.1 1 (by omega)
    have s2 := Q.2.1 2 (by omega)
    refine ⟨w, ⟨((q1.si (by omega) (by omega)).si (by omega) (by omega)).si (by omega) (by omega), ?_, fun r hr => ?_⟩, fun rec => ?_⟩
    · show z_i (z_si (z_si (z_si q (p + 1) k (nI (1000 * k))) (p + 2) k (nI k)) (p + 3) k (nI (k + 1))) p = _
      rw [z_si_o (by omega), z_si_o (by omega), z_si_o (by omega)]
      exact q2
    · unfold PFr
      have i1 : z_i w (p + 1) r = if r = k then nI (1000 * k) else z_i q (p + 1) r := by
        show z_i (z_si (z_si (z_si q (p + 1) k (nI (1000 * k))) (p + 2) k (nI k)) (p + 3) k (nI (k + 1))) (p + 1) r = _
        rw [z_si_o (by omega), z_si_o (by omega), zi_si, if_pos rfl]
      have i2 : z_i w (p + 2) r = if r = k then nI k else z_i q (p + 2) r := by
        show z_i (z_si (z_si (z_si q (p + 1) k (nI (1000 * k))) (p + 2) k (nI k)) (p + 3) k (nI (k + 1))) (p + 2) r = _
        rw [z_si_o (by omega), zi_si, if_pos rfl, z_si_o (by omega)]
      have i3 : z_i w (p + 3) r = if r = k then nI (k + 1) else z_i q (p + 3) r := by
        show z_i (z_si (z_si (z_si q (p + 1) k (nI (1000 * k))) (p + 2) k (nI k)) (p + 3) k (nI (k + 1))) (p + 3) r = _
        rw [zi_si, if_pos rfl, z_si_o (by omega), z_si_o (by omega)]
      rw [i1, i2, i3]
      by_cases e : r = k
      · rw [if_pos e, if_pos e, if_pos e, e]
        exact ⟨rfl, rfl, rfl⟩
      · rw [if_neg e, if_neg e, if_neg e]
        exact q3 r (by omega)
    · unfold f_X3_setFirst_l1
      refine (if_neg (show ¬ (3 : Int32) < nI k from nI_nlt (a := 3) (by omega) (by omega))).trans (bnd (a := p + 1) (Q.1.gR (Q.2.2.2.2.2 0 (by omega))) ?_)
      have e : (1000 : Int32) * nI k = nI (1000 * k) := by rw [show (1000 : Int32) = nI 1000 from rfl, nI_mul]
      rw [e]
      refine bnd (s0.sI (by omega) (by omega) _) (bnd (a := p + 2) (Q.1.gR (Q.2.2.2.2.2 1 (by omega))) (bnd (s1.si.sI (by omega) (by omega) _) (bnd (a := p + 3) (Q.1.gR (Q.2.2.2.2.2 2 (by omega))) ?_)))
      rw [nI_1]
      exact bnd (s2.si.si.sI (by omega) (by omega) _) rfl
  · rintro rec q _
    unfold f_X3_setFirst_l1
    exact if_pos (by decide)
