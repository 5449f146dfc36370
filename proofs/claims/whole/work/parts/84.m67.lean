/-! the model's token -/
theorem e_dgs {w : Z_H} {T : Nat → Int32} {n s e : Nat} (m : MTX w T n) (h3 : z_i w 61 3 = nI s) (h7 : z_i w 61 7 = 0) (r : RN cDg T n s e) : ∃ w', lp (f_X10_token_l2 61) FU (0, w) = some (nI (e - s), w') ∧ M61 w w' ∧ z_i w' 61 3 = nI e ∧ z_i w' 61 5 = z_i w 61 5 ∧ (e ≤ s + 4 → z_i w' 61 7 = dvl T s (e - s)) := by
  have n6 := m.2.1
  obtain ⟨r1, r2, r3, r4⟩ := r
  have k1 := lp_ex (b := f_X10_token_l2 61) (fun k (v : Z_H) => (nI (k - s), v)) (fun k v => s ≤ k ∧ M61 w v ∧ z_i v 61 3 = nI k ∧ z_i v 61 5 = z_i w 61 5 ∧ (k ≤ s + 4 → z_i v 61 7 = dvl T s (k - s))) (fun v => some (nI (e - s), v)) e ?_ ?_ (e - s) FU s w (by omega) (by unfold FU; omega) ⟨Nat.le_refl _, M61.rf, h3, rfl, fun _ => by rw [Nat.sub_self]; exact h7⟩
  · obtain ⟨w', ⟨-, w1, w2, w3, w4⟩, k1⟩ := k1
    rw [Nat.sub_self] at k1
    exact ⟨w', k1, w1, w2, w3, w4⟩
  · rintro k v hk ⟨ik, v1, v2, v3, v4⟩
    have M := m.to v1
    have a3 := a3_of M.1 v2
    have bk := r3 k ik hk
    have hB := M.2.2.2.2 k (by omega)
    have bf := by_f hB
    let y : Int32 := if s + 4 ≤ k then z_i v 61 7 else (10 : Int32) * z_i v 61 7 + T k - 48
    let u := z_si v 61 7 y
    have U : LY u := M.1
    have au : gI u 61 10 3 = some (nI k) := a3_of U (by
      show z_i (z_si v 61 7 y) 61 3 = _
      rw [zi_si, if_pos rfl, if_neg (by omega)]
      exact v2)
    refine ⟨z_si u 61 3 (nI (k + 1)), ⟨by omega, (v1.tr (M61_si (Or.inr (Or.inr (Or.inr rfl))))).tr (M61_si (Or.inl rfl)), by rw [zi_si, if_pos rfl, if_pos rfl], ?_, fun h4 => ?_⟩, fun rec => ?_⟩
    · rw [zi_si, if_pos rfl, if_neg (by omega)]
      show z_i (z_si v 61 7 y) 61 5 = _
      rw [zi_si, if_pos rfl, if_neg (by omega)]
      exact v3
    · rw [zi_si, if_pos rfl, if_neg (by omega)]
      show z_i (z_si v 61 7 y) 61 7 = _
      rw [zi_si, if_pos rfl, if_pos rfl]
      show (if s + 4 ≤ k then z_i v 61 7 else (10 : Int32) * z_i v 61 7 + T k - 48) = _
      rw [if_neg (by omega), v4 (by omega), show k + 1 - s = (k - s) + 1 by omega]
      show _ = dvl T s (k - s) * 10 + T (s + (k - s)) - 48
      rw [show s + (k - s) = k by omega, Int32.mul_comm]
    · have fin : ((pI v 61 10 7 y).bind fun h30 => (gI h30 61 10 3).bind fun t31 => (pI h30 61 10 3 (t31 + 1)).bind fun h32 => rec (nI (k - s) + 1, h32)) = rec (nI (k + 1 - s), z_si u 61 3 (nI (k + 1))) := by
        refine bnd (yP61 M.1 7 _) (bnd au ?_)
        rw [nI_1, nI_1, show k + 1 - s = k - s + 1 by omega]
        exact bnd (yP61 U 3 _) rfl
      unfold f_X10_token_l2
      refine bnd (e_see_t M v2 (by omega)) (bnd ((e_inD hB).trans (congrArg some (by rw [bk]; rfl : _ = (1 : Int32)))) ((if_neg (by decide)).trans (jnE ?_)))
      by_cases c : s + 4 ≤ k
      · refine (if_pos (show (4 : Int32) ≤ nI (k - s) from nI_le (a := 4) (by omega) (by omega))).trans ?_
        have : y = z_i v 61 7 := if_pos c
        rw [this] at fin
        exact bnd (yI61 M.1 7) fin
      · refine (if_neg (show ¬ (4 : Int32) ≤ nI (k - s) from nI_ge (b := 4) (by omega) (by omega))).trans ?_
        have : y = (10 : Int32) * z_i v 61 7 + T k - 48 := if_neg c
        rw [this] at fin
        exact bnd (yI61 M.1 7) (bnd ((e_see_t M v2 (by omega)).trans (congrArg some (bf.2.2.2.2.2.2 bk))) fin)
  · rintro rec v ⟨ik, v1, v2, v3, v4⟩
    have M := m.to v1
    unfold f_X10_token_l2
    rcases Nat.lt_or_ge e n with c | c
    · exact bnd (e_see_t M v2 c) (bnd ((e_inD (M.2.2.2.2 e c)).trans (congrArg some (by rw [r4 c]; rfl : _ = (0 : Int32)))) (if_pos rfl))
    · have ee : e = n := by omega
      rw [ee] at v2
      exact bnd (e_see_e M v2) (bnd (a := 0) rfl (if_pos rfl))
theorem yL61 {h : Z_H} (H : LY h) (k : Nat) : gL h 61 10 k = some (z_l h 61 k) := H.xgL rfl rfl k
theorem yQ61 {h : Z_H} (H : LY h) (k : Nat) (v : Int64) : pL h 61 10 k v = some (z_sl h 61 k v) := H.xpL rfl rfl k v
theorem e_lts {w : Z_H} {T : Nat → Int32} {n s e : Nat} (m : MTX w T n) (h3 : z_i w 61 3 = nI s) (h8 : z_l w 61 8 = 0) (r : RN cLt T n s e) : ∃ w', lp (f_X10_token_l3 61) FU (0, w) = some (nI (e - s), w') ∧ M61 w w' ∧ z_i w' 61 3 = nI e ∧ z_i w' 61 5 = z_i w 61 5 ∧ z_l w' 61 8 = pkL T s (e - s) := by
  have n6 := m.2.1
  obtain ⟨r1, r2, r3, r4⟩ := r
  have k1 := lp_ex (b := f_X10_token_l3 61) (fun k (v : Z_H) => (nI (k - s), v)) (fun k v => s ≤ k ∧ M61 w v ∧ z_i v 61 3 = nI k ∧ z_i v 61 5 = z_i w 61 5 ∧ z_l v 61 8 = pkL T s (k - s)) (fun v => some (nI (e - s), v)) e ?_ ?_ (e - s) FU s w (by omega) (by unfold FU; omega) ⟨Nat.le_refl _, M61.rf, h3, rfl, by rw [Nat.sub_self]; exact h8⟩
  · obtain ⟨w', ⟨-, w1, w2, w3, w4⟩, k1⟩ := k1
    rw [Nat.sub_self] at k1
    exact ⟨w', k1, w1, w2, w3, w4⟩
  · rintro k v hk ⟨ik, v1, v2, v3, v4⟩
    have M := m.to v1
    have bk := r3 k ik hk
    have hB := M.2.2.2.2 k (by omega)
    let y : Int64 := pkL T s (k + 1 - s)
    let u := z_sl v 61 8 y
    have U : LY u := M.1
    have au : gI u 61 10 3 = some (nI k) := a3_of U v2
    refine ⟨z_si u 61 3 (nI (k + 1)), ⟨by omega, (v1.tr M61_sl).tr (M61_si (Or.inl rfl)), by rw [zi_si, if_pos rfl, if_pos rfl], ?_, ?_⟩, fun rec => ?_⟩
    · rw [zi_si, if_pos rfl, if_neg (by omega)]
      exact v3
    · show z_l (z_sl v 61 8 y) 61 8 = _
      rw [z_sl_l, if_pos rfl]
    · unfold f_X10_token_l3
      refine bnd (e_see_t M v2 (by omega)) (bnd ((e_inL hB).trans (congrArg some (by rw [bk]; rfl : _ = (1 : Int32)))) ((if_neg (by decide)).trans (bnd ((yL61 M.1 8).trans (congrArg some v4)) (bnd (e_see_t M v2 (by omega)) ?_))))
      have ey : (pkL T s (k - s) <<< ((8 : Int32).toInt64 &&& 63)) ||| (T k &&& 255).toInt64 = y := by
        show _ = pkL T s (k + 1 - s)
        rw [show k + 1 - s = (k - s) + 1 by omega]
        show _ = (pkL T s (k - s) <<< ((8 : Int32).toInt64 &&& 63)) ||| (T (s + (k - s)) &&& 255).toInt64
        rw [show s + (k - s) = k by omega]
      rw [ey]
      refine bnd (yQ61 M.1 8 y) (bnd au ?_)
      rw [nI_1, nI_1, show k + 1 - s = k - s + 1 by omega]
      exact bnd (yP61 U 3 _) rfl
  · rintro rec v ⟨ik, v1, v2, v3, v4⟩
    have M := m.to v1
    unfold f_X10_token_l3
    rcases Nat.lt_or_ge e n with c | c
    · exact bnd (e_see_t M v2 c) (bnd ((e_inL (M.2.2.2.2 e c)).trans (congrArg some (by rw [r4 c]; rfl : _ = (0 : Int32)))) (if_pos rfl))
    · have ee : e = n := by omega
      rw [ee] at v2
      exact bnd (e_see_e M v2) (bnd (a := 0) rfl (if_pos rfl))
/-- the model's token against the class's kind and number -/
def MT (w : Z_H) (K v : Int32) : Prop := (K = 0 ∧ z_i w 61 6 = 0) ∨ (K = 1 ∧ z_i w 61 6 = 1) ∨ (K = 2 ∧ z_i w 61 6 = 4) ∨ (K = 3 ∧ z_i w 61 6 = 3 ∧ z_i w 61 7 = v) ∨ (z_i w 61 6 = 2 ∧ K = wkd (z_l w 61 8) z_wrds)
theorem e_token {w : Z_H} {T : Nat → Int32} {n q e : Nat} {pl K v : Int32} (m : MTX w T n) (h3 : z_i w 61 3 = nI q) (t : TOK T n q pl K v e) : ∃ w', f_X10_token w 61 = some w' ∧ M61 w w' ∧ z_i w' 61 3 = nI e ∧ z_i w' 61 5 = pl ∧ MT w' K v := by
  have n6 := m.2.1
  obtain ⟨s, r, rfl, t⟩ := t
  obtain ⟨w1, a1, a2, a3⟩ := e_skip m h3 r
  have M1 := m.to a2
  let w2 := z_si w1 61 5 (nI s)
  let w3 := z_sl w2 61 8 0
  have r12 : M61 w1 w2 := M61_si (Or.inr (Or.inl rfl))
  have r13 : M61 w1 w3 := r12.tr M61_sl
  have M2 := M1.to r12
  have M3 := M1.to r13
  have R3 := a2.tr r13
  have i3 : ∀ k, z_i w3 61 k = if k = 5 then nI s else z_i w1 61 k := fun k => by
    show z_i (z_si w1 61 5 (nI s)) 61 k = _
    rw [zi_si, if_pos rfl]
  have b3 : z_i w2 61 3 = nI s := (i3 3).trans ((if_neg (by omega)).trans a3)
  have l3 : z_l w3 61 8 = 0 := by
    show z_l (z_sl w2 61 8 0) 61 8 = 0
    rw [z_sl_l, if_pos rfl]
  have c5 : z_i w3 61 5 = nI s := (i3 5).trans (if_pos rfl)
  rcases t with ⟨t1, t2, t3⟩ | ⟨t1, t2, t3, t4, t5⟩ | ⟨t1, t2, t3, t4, t5, t6⟩ | ⟨t1, t2, t3, t4, t5⟩
  · subst t1
    subst t3
    refine ⟨z_si w3 61 6 0, ?_, R3.tr (M61_si (Or.inr (Or.inr (Or.inl rfl)))), ?_, ?_, Or.inl ⟨t2, ?_⟩⟩
    · unfold f_X10_token
      exact gdE (yg61 m.1) (bnd a1 (bnd (a3_of M1.1 a3) (bnd (yP61 M1.1 5 _) (bnd (e_see_e M2 b3) (bnd (yQ61 M2.1 8 0) ((if_neg (by decide)).trans (bnd (yP61 M3.1 6 0) rfl)))))))
    · rw [zi_si, if_pos rfl, if_neg (by omega)]
      exact b3
    · rw [zi_si, if_pos rfl, if_neg (by omega)]
      exact c5
    · rw [zi_si, if_pos rfl, if_pos rfl]
  · have hB := m.2.2.2.2 s t1
    have bf := by_f hB
    have nl : cLt (T s) = false := by
      have := byte_all (fun x => !cDg x || !cLt x) (by decide +kernel) hB
      rw [t2] at this
      simpa using this
    let w4 := z_si w3 61 7 0
    have r34 : M61 w3 w4 := M61_si (Or.inr (Or.inr (Or.inr rfl)))
    have M4 := M3.to r34
    obtain ⟨w5, d1, d2, d3, d4, d5⟩ := e_dgs (w := w4) M4 (show z_i w4 61 3 = nI s from b3) (show z_i (z_si w3 61 7 0) 61 7 = 0 by rw [zi_si, if_pos rfl, if_pos rfl]) t3
    have M5 := M4.to d2
    have c55 : z_i w5 61 5 = nI s := d4.trans (show z_i (z_si w3 61 7 0) 61 5 = nI s by rw [zi_si, if_pos rfl, if_neg (by omega)]; exact c5)
    have ke := t3.1
    have ke2 := t3.2.1
    obtain ⟨y, hy, fin⟩ : ∃ y : Int32, MT (z_si w5 61 6 y) K v ∧ (jn (fun (y36 : Int32) => (pI w5 61 10 6 y36).bind fun h38 => some h38) (fun j37 => if nI (e - s) ≤ 4 then (j37 3) else (j37 1))) = some (z_si w5 61 6 y) := by
      rcases t5 with ⟨u1, u2, u3⟩ | ⟨u1, u2⟩
      · refine ⟨3, Or.inr (Or.inr (Or.inr (Or.inl ⟨u2, by rw [zi_si, if_pos rfl, if_pos rfl], ?_⟩))), jnE ((if_pos (nI_le (b := 4) (by omega) (by omega))).trans (bnd (yP61 M5.1 6 3) rfl))⟩
        rw [zi_si, if_pos rfl, if_neg (by omega), d5 u1, u3]
      · exact ⟨1, Or.inr (Or.inl ⟨u2, by rw [zi_si, if_pos rfl, if_pos rfl]⟩), jnE ((if_neg (nI_ge (a := 4) (by omega) (by omega))).trans (bnd (yP61 M5.1 6 1) rfl))⟩
    refine ⟨z_si w5 61 6 y, ?_, ((R3.tr r34).tr d2).tr (M61_si (Or.inr (Or.inr (Or.inl rfl)))), ?_, ?_, hy⟩
    · unfold f_X10_token
      exact gdE (yg61 m.1) (bnd a1 (bnd (a3_of M1.1 a3) (bnd (yP61 M1.1 5 _) (bnd (e_see_t M2 b3 t1) (bnd (yQ61 M2.1 8 0) ((if_pos bf.2.2.2.1).trans (bnd ((e_inL hB).trans (congrArg some (by rw [nl]; rfl : _ = (0 : Int32)))) ((if_pos rfl).trans (bnd ((e_inD hB).trans (congrArg some (by rw [t2]; rfl : _ = (1 : Int32)))) ((if_neg (by decide)).trans (bnd (yP61 M3.1 7 0) (bnd d1 fin))))))))))))
    · rw [zi_si, if_pos rfl, if_neg (by omega)]
      exact d3
    · rw [zi_si, if_pos rfl, if_neg (by omega)]
      exact c55
  · have hB := m.2.2.2.2 s t1
    have bf := by_f hB
    obtain ⟨w5, d1, d2, d3, d4, d5⟩ := e_lts (w := w3) M3 (show z_i w3 61 3 = nI s from b3) l3 t4
    have M5 := M3.to d2
    have ke := t4.1
    have ke2 := t4.2.1
    let w6 := z_sl w5 61 8 (wrd T s (e - s))
    have M6 := M5.to (M61_sl (w := w5) (k := 8) (v := wrd T s (e - s)))
    have hl : lets T s (e - s) := fun j hj => t4.2.2.1 (s + j) (by omega) (by omega)
    have fin : (jn (fun (y51 : Int64) => (pL w5 61 10 8 y51).bind fun h53 => (pI h53 61 10 6 2).bind fun h54 => some h54) (fun j52 => if nI (e - s) ≤ 8 then ((gL w5 61 10 8).bind fun t55 => j52 t55) else (j52 0))) = some (z_si w6 61 6 2) := by
      refine jnE ?_
      have step : ∀ y : Int64, y = wrd T s (e - s) → ((pL w5 61 10 8 y).bind fun h53 => (pI h53 61 10 6 2).bind fun h54 => some h54) = some (z_si w6 61 6 2) := fun y hy => by
        rw [hy]
        exact bnd (yQ61 M5.1 8 _) (bnd (yP61 M6.1 6 2) rfl)
      by_cases c : e - s ≤ 8
      · exact (if_pos (nI_le (b := 8) c (by omega))).trans (bnd (yL61 M5.1 8) (step _ (d5.trans (if_pos c).symm)))
      · exact (if_neg (nI_ge (a := 8) (by omega) (by omega))).trans (step _ (if_neg c).symm)
    refine ⟨z_si w6 61 6 2, ?_, ((R3.tr d2).tr M61_sl).tr (M61_si (Or.inr (Or.inr (Or.inl rfl)))), ?_, ?_, Or.inr (Or.inr (Or.inr (Or.inr ⟨by rw [zi_si, if_pos rfl, if_pos rfl], ?_⟩)))⟩
    · unfold f_X10_token
      exact gdE (yg61 m.1) (bnd a1 (bnd (a3_of M1.1 a3) (bnd (yP61 M1.1 5 _) (bnd (e_see_t M2 b3 t1) (bnd (yQ61 M2.1 8 0) ((if_pos bf.2.2.2.1).trans (bnd ((e_inL hB).trans (congrArg some (by rw [t3]; rfl : _ = (1 : Int32)))) ((if_neg (by decide)).trans (bnd d1 fin)))))))))
    · rw [zi_si, if_pos rfl, if_neg (by omega)]
      exact d3
    · rw [zi_si, if_pos rfl, if_neg (by omega)]
      exact d4.trans c5
    · show K = wkd (z_l (z_sl w5 61 8 (wrd T s (e - s))) 61 8) z_wrds
      rw [z_sl_l, if_pos rfl, t6]
      exact pck_wrd hl
  · have hB := m.2.2.2.2 s t1
    have bf := by_f hB
    let w4 := z_si w3 61 3 (nI (s + 1))
    have M4 := M3.to (M61_si (w := w3) (k := 3) (v := nI (s + 1)) (Or.inl rfl))
    obtain ⟨y, hy, fin⟩ : ∃ y : Int32, MT (z_si w4 61 6 y) K v ∧ (jn (fun (y17 : Int32) => (pI w4 61 10 6 y17).bind fun h19 => some h19) (fun j18 => if T s &&& 255 = 59 then (j18 4) else (j18 1))) = some (z_si w4 61 6 y) := by
      rcases t5 with ⟨u1, u2⟩ | ⟨u1, u2⟩
      · exact ⟨4, Or.inr (Or.inr (Or.inl ⟨u2, by rw [zi_si, if_pos rfl, if_pos rfl]⟩)), jnE ((if_pos (bf.2.2.1.mpr u1)).trans (bnd (yP61 M4.1 6 4) rfl))⟩
      · exact ⟨1, Or.inr (Or.inl ⟨u2, by rw [zi_si, if_pos rfl, if_pos rfl]⟩), jnE ((if_neg (fun q => u1 (bf.2.2.1.mp q))).trans (bnd (yP61 M4.1 6 1) rfl))⟩
    refine ⟨z_si w4 61 6 y, ?_, (R3.tr (M61_si (Or.inl rfl))).tr (M61_si (Or.inr (Or.inr (Or.inl rfl)))), ?_, ?_, hy⟩
    · unfold f_X10_token
      refine gdE (yg61 m.1) (bnd a1 (bnd (a3_of M1.1 a3) (bnd (yP61 M1.1 5 _) (bnd (e_see_t M2 b3 t1) (bnd (yQ61 M2.1 8 0) ((if_pos bf.2.2.2.1).trans (bnd ((e_inL hB).trans (congrArg some (by rw [t3]; rfl : _ = (0 : Int32)))) ((if_pos rfl).trans (bnd ((e_inD hB).trans (congrArg some (by rw [t2]; rfl : _ = (0 : Int32)))) ((if_pos rfl).trans (bnd (a3_of M3.1 b3) ?_)))))))))))
      rw [nI_1]
      exact bnd (yP61 M3.1 3 _) fin
    · rw [zi_si, if_pos rfl, if_neg (by omega)]
      show z_i (z_si w3 61 3 (nI (s + 1))) 61 3 = _
      rw [zi_si, if_pos rfl, if_pos rfl, t4]
    · rw [zi_si, if_pos rfl, if_neg (by omega)]
      show z_i (z_si w3 61 3 (nI (s + 1))) 61 5 = _
      rw [zi_si, if_pos rfl, if_neg (by omega)]
      exact c5
