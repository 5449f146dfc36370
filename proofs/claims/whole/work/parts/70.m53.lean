/-! making: shapes and ints, relative to a base -/
abbrev RSh : Type := Nat → Nat × Nat × (Nat → Option Nat)
abbrev RJt : Type := Nat → Nat → Int32
def sN (S : RSh) (m t n : Nat) : RSh := fun o => if o = m then (t, n, fun _ => none) else S o
def sU (S : RSh) (o k p : Nat) : RSh := fun x => if x = o then ((S o).1, (S o).2.1, va_up (S o).2.2 k (some p)) else S x
def jN (J : RJt) (m : Nat) : RJt := fun o => if o = m then fun _ => 0 else J o
def jU (J : RJt) (o k : Nat) (v : Int32) : RJt := fun x => if x = o then upd (J o) k v else J x
def AL (h0 h : Z_H) (b m t : Nat) (S : RSh) (J : RJt) : Prop := z_n h = b + m ∧ z_t h = z_t h0 + t ∧ (∀ a, a < b → z_x h a = z_x h0 a ∧ z_i h a = z_i h0 a) ∧ (∀ o, o < m → z_k h (b + o) = (S o).1 ∧ z_len h (b + o) = (S o).2.1 ∧ (∀ k, z_r h (b + o) k = ((S o).2.2 k).map (fun q => b + q)) ∧ z_i h (b + o) = J o) ∧ ∀ o k, 26 ≤ k → o < m → (S o).2.2 k = none
theorem AL.nil {h0 : Z_H} {S : RSh} {J : RJt} : AL h0 h0 (z_n h0) 0 0 S J := ⟨rfl, rfl, fun _ _ => ⟨rfl, rfl⟩, fun o ho => absurd ho (Nat.not_lt_zero _), fun o k _ ho => absurd ho (Nat.not_lt_zero _)⟩
theorem zn_x {h : Z_H} {t n q : Nat} : z_x (z_new h t n) q = if q = z_n h then (t, n, fun _ => none) else z_x h q := rfl
theorem zn_i {h : Z_H} {t n q : Nat} : z_i (z_new h t n) q = if q = z_n h then fun _ => 0 else z_i h q := rfl
theorem AL.new {h0 h : Z_H} {b m t : Nat} {S : RSh} {J : RJt} (G : AL h0 h b m t S J) (k n : Nat) : AL h0 (z_new h k n) b (m + 1) (t + n) (sN S m k n) (jN J m) := by
  obtain ⟨g1, g2, g3, g4, g5⟩ := G
  refine ⟨?_, ?_, fun a ha => ?_, fun o ho => ?_, fun o j hj ho => ?_⟩
  · show z_n h + 1 = _
    omega
  · show z_t h + n = _
    omega
  · rw [zn_x, zn_i, if_neg (by omega), if_neg (by omega)]
    exact g3 a ha
  · unfold z_k z_len z_r
    rw [zn_x, zn_i]
    unfold sN jN
    by_cases e : o = m
    · rw [if_pos (by omega), if_pos e, if_pos (by omega), if_pos e]
      exact ⟨rfl, rfl, fun _ => rfl, rfl⟩
    · rw [if_neg (by omega), if_neg e, if_neg (by omega), if_neg e]
      exact g4 o (by omega)
  · unfold sN
    by_cases e : o = m
    · rw [if_pos e]
    · rw [if_neg e]
      exact g5 o j hj (by omega)
theorem AL.xA {h0 h : Z_H} {b m t m' t' : Nat} {S : RSh} {J : RJt} (G : AL h0 h b m t S J) (k n : Nat) (hn : n ≤ 100000) (em : m + 1 = m') (et : t + n = t') : ∃ h', nA h k (nI n) = some (b + m, h') ∧ AL h0 h' b m' t' (sN S m k n) (jN J m) := by
  subst em
  subst et
  refine ⟨z_new h k n, ?_, G.new k n⟩
  show (if (decide ((0 : Int32) ≤ nI n) && decide ((nI n).toNatClampNeg ≤ 100000)) = true then some (z_n h, z_new h k (nI n).toNatClampNeg) else none) = _
  rw [nI_clamp (by omega), decide_eq_true (show (0 : Int32) ≤ nI n from nI_pos' (by omega)), decide_eq_true hn, if_pos (show (true && true) = true from rfl), G.1]
theorem AL.xW {h0 h : Z_H} {b m t m' t' : Nat} {S : RSh} {J : RJt} (G : AL h0 h b m t S J) (c n : Nat) (em : m + 1 = m') (et : t + n = t') : ∃ h', (∀ {β : Type} (f : Nat → Z_H → β), nw h c n f = f (b + m) h') ∧ AL h0 h' b m' t' (sN S m (4 + c) n) (jN J m) := by
  subst em
  subst et
  refine ⟨z_new h (4 + c) n, fun f => ?_, G.new (4 + c) n⟩
  show f (z_n h) _ = _
  rw [G.1]
theorem AL.is {h0 h : Z_H} {b m t : Nat} {S : RSh} {J : RJt} (G : AL h0 h b m t S J) (o c : Nat) (ho : Nat.blt o m = true) (hs : (S o).1 = 4 + c) : z_is h (b + o) c = true := by
  have ho : o < m := of_decide_eq_true (by simpa using ho : decide (o < m) = true)
  unfold z_is
  rw [(G.2.2.2.1 o ho).1, hs, decide_eq_true (show b + o < z_n h by rw [G.1]; omega), decide_eq_true rfl]
  rfl
theorem AL.xR {h0 h : Z_H} {b m t : Nat} {S : RSh} {J : RJt} (G : AL h0 h b m t S J) (o c k p : Nat) (ho : Nat.blt o m = true) (hs : (S o).1 = 4 + c) (hk : Nat.blt k 26 = true) : ∃ h', pR h (b + o) c k (b + p) = some h' ∧ AL h0 h' b m t (sU S o k p) J := by
  have hi := G.is o c ho hs
  have ho : o < m := of_decide_eq_true (by simpa using ho : decide (o < m) = true)
  have hk : k < 26 := of_decide_eq_true (by simpa using hk : decide (k < 26) = true)
  obtain ⟨g1, g2, g3, g4, g5⟩ := G
  refine ⟨z_sr h (b + o) k (b + p), ?_, g1, g2, fun a ha => ⟨?_, (g3 a ha).2⟩, fun x hx => ?_, fun x j hj hx => ?_⟩
  · unfold pR
    rw [if_pos hi]
  · show z_upx h.2.2.1 (b + o) k (b + p) a = _
    unfold z_upx
    rw [if_neg (by omega)]
    exact (g3 a ha).1
  · unfold z_k z_len z_r
    show (z_upx h.2.2.1 (b + o) k (b + p) (b + x)).1 = _ ∧ (z_upx h.2.2.1 (b + o) k (b + p) (b + x)).2.1 = _ ∧ (∀ j, (z_upx h.2.2.1 (b + o) k (b + p) (b + x)).2.2 j = _) ∧ z_i h (b + x) = J x
    unfold z_upx sU
    by_cases e : x = o
    · rw [if_pos (by omega), if_pos e]
      obtain ⟨q1, q2, q3, q4⟩ := g4 o ho
      refine ⟨q1, q2, fun j => ?_, by rw [e]; exact q4⟩
      show va_up (z_x h (b + o)).2.2 k (some (b + p)) j = (va_up (S o).2.2 k (some p) j).map _
      unfold va_up
      by_cases e2 : j = k
      · rw [if_pos e2, if_pos e2]
        rfl
      · rw [if_neg e2, if_neg e2]
        exact q3 j
    · rw [if_neg (by omega), if_neg e]
      exact g4 x hx
  · unfold sU
    by_cases e : x = o
    · rw [if_pos e]
      show va_up (S o).2.2 k (some p) j = none
      unfold va_up
      rw [if_neg (by omega)]
      exact g5 o j hj ho
    · rw [if_neg e]
      exact g5 x j hj hx
theorem AL.si {h0 h : Z_H} {b m t : Nat} {S : RSh} {J : RJt} (G : AL h0 h b m t S J) (o k : Nat) (v : Int32) (ho : o < m) : AL h0 (z_si h (b + o) k v) b m t S (jU J o k v) := by
  obtain ⟨g1, g2, g3, g4, g5⟩ := G
  refine ⟨g1, g2, fun a ha => ⟨(g3 a ha).1, ?_⟩, fun x hx => ?_, g5⟩
  · rw [z_si_o (by omega)]
    exact (g3 a ha).2
  · obtain ⟨q1, q2, q3, q4⟩ := g4 x hx
    refine ⟨q1, q2, q3, ?_⟩
    unfold jU
    by_cases e : x = o
    · rw [if_pos e, e, z_si_i, (g4 o ho).2.2.2]
    · rw [if_neg e, z_si_o (by omega)]
      exact q4
theorem AL.xI {h0 h : Z_H} {b m t : Nat} {S : RSh} {J : RJt} (G : AL h0 h b m t S J) (o c k : Nat) (v : Int32) (ho : Nat.blt o m = true) (hs : (S o).1 = 4 + c) : ∃ h', pI h (b + o) c k v = some h' ∧ AL h0 h' b m t S (jU J o k v) := by
  have hi := G.is o c ho hs
  have ho : o < m := of_decide_eq_true (by simpa using ho : decide (o < m) = true)
  refine ⟨z_si h (b + o) k v, ?_, G.si o k v ho⟩
  unfold pI
  rw [if_pos hi]
theorem AL.xS {h0 h : Z_H} {b m t : Nat} {S : RSh} {J : RJt} (G : AL h0 h b m t S J) (o k : Nat) (v : Int32) (ho : Nat.blt o m = true) (hs : (S o).1 = 0) (hl : Nat.blt k (S o).2.1 = true) (hk : Nat.blt k 100000 = true) : ∃ h', sI h (b + o) (nI k) v = some h' ∧ AL h0 h' b m t S (jU J o k v) := by
  have ho : o < m := of_decide_eq_true (by simpa using ho : decide (o < m) = true)
  have hl : k < (S o).2.1 := of_decide_eq_true (by simpa using hl : decide (k < (S o).2.1) = true)
  have hk : k < 100000 := of_decide_eq_true (by simpa using hk : decide (k < 100000) = true)
  refine ⟨z_si h (b + o) k v, ?_, G.si o k v ho⟩
  obtain ⟨q1, q2, q3, q4⟩ := G.2.2.2.1 o ho
  unfold sI z_ar
  rw [nI_clamp (by omega), q1, q2, hs, decide_eq_true (show b + o < z_n h by rw [G.1]; omega), decide_eq_true (rfl : (0 : Nat) = 0), decide_eq_true (show (0 : Int32) ≤ nI k from nI_pos' (by omega)), decide_eq_true hl, if_pos (show (true && (true && (true && true))) = true from rfl)]
theorem AL.rR {h0 h : Z_H} {b m t : Nat} {S : RSh} {J : RJt} (G : AL h0 h b m t S J) (o c k p : Nat) (ho : Nat.blt o m = true) (hs : (S o).1 = 4 + c) (hr : (S o).2.2 k = some p) : gR h (b + o) c k = some (b + p) := by
  have hi := G.is o c ho hs
  have ho : o < m := of_decide_eq_true (by simpa using ho : decide (o < m) = true)
  unfold gR
  rw [if_pos hi, (G.2.2.2.1 o ho).2.2.1 k, hr]
  rfl
theorem AL.rI {h0 h : Z_H} {b m t : Nat} {S : RSh} {J : RJt} (G : AL h0 h b m t S J) (o c k : Nat) {v : Int32} (ho : Nat.blt o m = true) (hs : (S o).1 = 4 + c) (hv : J o k = v) : gI h (b + o) c k = some v := by
  have hi := G.is o c ho hs
  have ho : o < m := of_decide_eq_true (by simpa using ho : decide (o < m) = true)
  unfold gI
  rw [if_pos hi, (G.2.2.2.1 o ho).2.2.2, hv]
theorem rT_far (a k : Nat) : rT a (k + 26) = none := by
  unfold rT
  split <;> rfl
