/-! both readers, step by step -/
def TS (T : Nat → Int32) (n N : Nat) (Kf Pf Vf : Nat → Int32) (q : Nat → Nat) : Prop := n ≤ 600 ∧ N ≤ 600 ∧ (∀ i, i ≤ N → TOK T n (q i) (Pf i) (Kf i) (Vf i) (q (i + 1))) ∧ (∀ i, i < N → Kf i ≠ 0) ∧ Kf N = 0
theorem TOK.s {T : Nat → Int32} {n q e : Nat} {pl K v : Int32} (t : TOK T n q pl K v e) : ∃ s, q ≤ s ∧ s ≤ n ∧ pl = nI s ∧ s ≤ e ∧ (K ≠ 0 → s < e) := by
  obtain ⟨s, r, e1, t⟩ := t
  refine ⟨s, r.1, r.2.1, e1, ?_⟩
  rcases t with ⟨-, t2, t3⟩ | ⟨-, -, -, t4, -⟩ | ⟨-, -, -, -, t5, -⟩ | ⟨-, -, -, t4, -⟩
  · exact ⟨by omega, fun h => absurd t2 h⟩
  · exact ⟨by omega, fun _ => t4⟩
  · exact ⟨by omega, fun _ => t5⟩
  · exact ⟨by omega, fun _ => by omega⟩
theorem TS.lt {T : Nat → Int32} {n N : Nat} {Kf Pf Vf : Nat → Int32} {q : Nat → Nat} (t : TS T n N Kf Pf Vf q) {i : Nat} (hi : i ≤ N) : ∀ i', i' < i → ∃ s s', Pf i' = nI s' ∧ Pf i = nI s ∧ s' < s ∧ s ≤ n := by
  have mono : ∀ d i', i' + d ≤ N → q i' ≤ q (i' + d) := by
    intro d
    induction d with
    | zero => exact fun _ _ => Nat.le_refl _
    | succ d ih =>
      intro i' h
      have h1 := ih i' (by omega)
      obtain ⟨s, s1, s2, s3, s4, s5⟩ := (t.2.2.1 (i' + d) (by omega)).s
      rw [show i' + (d + 1) = i' + d + 1 by omega]
      omega
  intro i' hi'
  obtain ⟨s', a1, a2, a3, a4, a5⟩ := (t.2.2.1 i' (by omega)).s
  obtain ⟨s, b1, b2, b3, b4, b5⟩ := (t.2.2.1 i hi).s
  have c := a5 (t.2.2.2.1 i' (by omega))
  have d := mono (i - (i' + 1)) (i' + 1) (by omega)
  rw [show i' + 1 + (i - (i' + 1)) = i by omega] at d
  exact ⟨s, s', a3, b3, by omega, b2⟩
/-- the slips: the class keeps the first, the model the one that lies first -/
def SL (f u : Nat → Int32) (Pf : Nat → Int32) (i : Nat) : Prop := u 10 = f 9 ∧ ((f 9 = 0 ∧ f 10 = -1) ∨ ((f 9 = 2 ∨ f 9 = 3) ∧ u 11 = f 10 ∧ ∃ i', i' < i ∧ f 10 = Pf i'))
def M1A (w w' : Z_H) : Prop := ON w w' 61 ∧ ∀ k, k ≠ 10 → k ≠ 11 → z_i w' 61 k = z_i w 61 k
theorem e_adds {T : Nat → Int32} {n N : Nat} {Kf Pf Vf : Nat → Int32} {q : Nat → Nat} (t : TS T n N Kf Pf Vf q) {w : Z_H} (W : LY w) {f : Nat → Int32} {i : Nat} (hi : i ≤ N) {k : Int32} (hk : k = 2 ∨ k = 3) (sl : SL f (z_i w 61) Pf i) : ∃ w', f_X10_addsFault w 61 k (Pf i) = some w' ∧ M1A w w' ∧ z_l w' = z_l w ∧ SL (slp f k (Pf i)) (z_i w' 61) Pf (i + 1) := by
  obtain ⟨s1, s2⟩ := sl
  have a10 : gI w 61 10 10 = some (f 9) := (yI61 W 10).trans (congrArg some s1)
  rcases s2 with ⟨c1, c2⟩ | ⟨c1, c2, i', c3, c4⟩
  · refine ⟨z_si (z_si w 61 10 k) 61 11 (Pf i), ?_, ⟨(TW_si (h := w) (k := 10) (v := k) (Or.inl rfl)).tr (TW_si (Or.inl rfl)), fun j h1 h2 => ?_⟩, rfl, ?_⟩
    · unfold f_X10_addsFault
      exact gdE (yg61 W) (bnd a10 (jnE ((if_pos c1).trans (bnd (yP61 W 10 k) (bnd (yP61 (h := z_si w 61 10 k) W 11 _) rfl)))))
    · rw [zi_si, if_pos rfl, if_neg h2, zi_si, if_pos rfl, if_neg h1]
    · unfold slp
      rw [if_pos c1]
      refine ⟨?_, Or.inr ⟨?_, ?_, i, by omega, ?_⟩⟩
      · rw [zi_si, if_pos rfl, if_neg (by omega), zi_si, if_pos rfl, if_pos rfl, upd_o (by omega), upd_s]
      · rw [upd_o (by omega), upd_s]
        exact hk
      · rw [zi_si, if_pos rfl, if_pos rfl, upd_s]
      · rw [upd_s]
  · have n0 : ¬ f 9 = 0 := by
      rcases c1 with e | e <;> rw [e] <;> decide
    obtain ⟨s, s', p1, p2, p3, p4⟩ := t.lt hi i' c3
    have n6 := t.1
    have a11 : gI w 61 10 11 = some (nI s') := (yI61 W 11).trans (congrArg some (c2.trans (c4.trans p1)))
    refine ⟨w, ?_, ⟨TW.rf, fun _ _ _ => rfl⟩, rfl, ?_⟩
    · unfold f_X10_addsFault
      rw [p2]
      exact gdE (yg61 W) (bnd a10 (jnE ((if_neg n0).trans (bnd a11 ((if_neg (nI_nlt (by omega) (by omega))).trans (bnd a11 (if_neg (fun e => by
        have := congrArg Int32.toNatClampNeg e
        rw [nI_clamp (by omega), nI_clamp (by omega)] at this
        omega))))))))
    · unfold slp
      rw [if_neg n0]
      exact ⟨s1, Or.inr ⟨c1, c2, i', by omega, c4⟩⟩
