/-! the class scans -/
theorem upd_u {f : Nat → Int32} {k : Nat} {a b : Int32} : upd (upd f k a) k b = upd f k b := by
  funext j
  unfold upd
  split <;> rfl
theorem upd_same {f : Nat → Int32} {k : Nat} {a : Int32} (e : f k = a) : f = upd f k a := by
  funext j
  unfold upd
  split
  · rename_i q
    rw [q]
    exact e
  · rfl
theorem c_digits {g : Z_H} {T : Nat → Int32} {n s e N : Nat} (S0 : SC g T n) (hi : z_i g 35 6 = nI s) (hN : z_i g 35 5 = nI N) (h6 : N < 601) (hz : z_i g 49 N = 0) (r : RN cDg T n s e) : ∃ g', f_X4_digits g 35 = some (if s + 4 < e then 1 else 3, g') ∧ TW g g' 35 49 ∧ z_i g' 35 = upd (z_i g 35) 6 (nI e) ∧ (∀ j, j ≠ N → z_i g' 49 j = z_i g 49 j) ∧ (e ≤ s + 4 → z_i g' 49 N = dvl T s (e - s)) := by
  have n6 := S0.2.1
  obtain ⟨r1, r2, r3, r4⟩ := r
  have k1 := lp_ex (b := f_X4_digits_l1 35 (nI s)) (fun k (w : Z_H) => w) (fun k w => s ≤ k ∧ TW g w 35 49 ∧ z_i w 35 = upd (z_i g 35) 6 (nI k) ∧ (∀ j, j ≠ N → z_i w 49 j = z_i g 49 j) ∧ (k ≤ s + 4 → z_i w 49 N = dvl T s (k - s))) some e ?_ ?_ (e - s) FU s g (by omega) (by unfold FU; omega) ⟨Nat.le_refl _, TW.rf, upd_same hi, fun _ _ => rfl, fun _ => by rw [Nat.sub_self]; exact hz⟩
  · obtain ⟨w, ⟨-, w1, w2, w3, w4⟩, k1⟩ := k1
    have S := S0.on w1 (by omega) (by omega)
    have a6 := at_i S.1 (show z_i w 35 6 = nI e by rw [w2, upd_s])
    refine ⟨w, ?_, w1, w2, w3, w4⟩
    unfold f_X4_digits
    refine gdE (S0.1.is rfl rfl) (bnd (at_i S0.1 hi) (bnd k1 (bnd a6 ?_)))
    rw [nI_sub r1]
    by_cases c : s + 4 < e
    · rw [if_pos c]
      exact if_pos (nI_lt (a := 4) (by omega) (by omega))
    · rw [if_neg c]
      exact if_neg (nI_nlt (a := 4) (by omega) (by omega))
  · rintro k w hk ⟨ik, w1, w2, w3, w4⟩
    have S := S0.on w1 (by omega) (by omega)
    have e6 : z_i w 35 6 = nI k := by rw [w2, upd_s]
    have a6 := at_i S.1 e6
    have a5 : gI w 35 4 5 = some (nI N) := (yI35 S.1 5).trans (congrArg some (by rw [w2, upd_o (by omega)]; exact hN))
    have bk := r3 k ik hk
    let v : Int32 := if s + 4 ≤ k then 0 else z_i w 49 N * 10 + T k - 48
    let w' := z_si w 49 N v
    have S' : LY w' := S.1
    have a6' : gI w' 35 4 6 = some (nI k) := at_i S' ((congrFun (z_si_o (by omega)) 6).trans e6)
    refine ⟨z_si w' 35 6 (nI (k + 1)), ⟨by omega, (w1.tr (TW_si (Or.inr rfl))).tr (TW_si (Or.inl rfl)), ?_, fun j hj => ?_, fun hk4 => ?_⟩, fun rec => ?_⟩
    · rw [z_si_i, show z_i w' 35 = z_i w 35 from z_si_o (by omega), w2, upd_u]
    · rw [z_si_o (by omega)]
      show z_i (z_si w 49 N v) 49 j = _
      rw [z_si_i, upd_o hj]
      exact w3 j hj
    · rw [z_si_o (by omega)]
      show z_i (z_si w 49 N v) 49 N = _
      rw [z_si_i, upd_s]
      show (if s + 4 ≤ k then 0 else z_i w 49 N * 10 + T k - 48) = _
      rw [if_neg (by omega), w4 (by omega), show k + 1 - s = (k - s) + 1 by omega]
      show _ = dvl T s (k - s) * 10 + T (s + (k - s)) - 48
      rw [show s + (k - s) = k by omega]
    · have fin : ((sI w 49 (nI N) v).bind fun h14 => (gI h14 35 4 6).bind fun t15 => (pI h14 35 4 6 (t15 + 1)).bind fun h16 => rec h16) = rec (z_si w' 35 6 (nI (k + 1))) := by
        refine bnd (yS49 S.1 h6) (bnd a6' ?_)
        rw [nI_1]
        exact bnd (yP35 S' 6 _) rfl
      unfold f_X4_digits_l1
      refine ltE (bnd a6 (bnd (yR35_1 S.1) (bnd S.n ((if_neg (show ¬ nI n ≤ nI k from nI_ge (by omega) (by omega))).trans (bnd ((c_isDigit S e6 (by omega)).trans (congrArg some (by rw [bk]; rfl : _ = (1 : Int32)))) ((if_neg (by decide)).trans (bnd (yR35_4 S.1) (bnd a5 (bnd a6 (jnE ?_))))))))))
      rw [nI_sub ik]
      by_cases c : s + 4 ≤ k
      · refine (if_pos (show (4 : Int32) ≤ nI (k - s) from nI_le (a := 4) (by omega) (by omega))).trans ?_
        have : v = 0 := if_pos c
        rw [this] at fin
        exact fin
      · refine (if_neg (show ¬ (4 : Int32) ≤ nI (k - s) from nI_ge (b := 4) (by omega) (by omega))).trans ?_
        have : v = z_i w 49 N * 10 + T k - 48 := if_neg c
        rw [this] at fin
        exact bnd (yR35_4 S.1) (bnd a5 (bnd (yA49 S.1 h6) (bnd (yR35_1 S.1) (bnd (yR45_0 S.1) (bnd a6 (bnd (S.b (by omega)) fin))))))
  · rintro rec w ⟨ik, w1, w2, w3, w4⟩
    have S := S0.on w1 (by omega) (by omega)
    have e6 : z_i w 35 6 = nI e := by rw [w2, upd_s]
    have a6 := at_i S.1 e6
    unfold f_X4_digits_l1
    refine ltE (bnd a6 (bnd (yR35_1 S.1) (bnd S.n ?_)))
    rcases Nat.lt_or_ge e n with c | c
    · exact (if_neg (show ¬ nI n ≤ nI e from nI_ge (by omega) (by omega))).trans (bnd ((c_isDigit S e6 c).trans (congrArg some (by rw [r4 c]; rfl : _ = (0 : Int32)))) (if_pos rfl))
    · exact if_pos (nI_le c (by omega))
theorem c_letters {g : Z_H} {T : Nat → Int32} {n s e : Nat} (S0 : SC g T n) (hi : z_i g 35 6 = nI s) (r : RN cLt T n s e) : ∃ g', f_X4_letters g 35 = some (pck T s (e - s) z_wrds, g') ∧ ON g g' 35 ∧ z_i g' 35 = upd (z_i g 35) 6 (nI e) := by
  have n6 := S0.2.1
  obtain ⟨r1, r2, r3, r4⟩ := r
  have k1 := lp_ex (b := f_X4_letters_l1 35) (fun k (w : Z_H) => w) (fun k w => s ≤ k ∧ ON g w 35 ∧ z_i w 35 = upd (z_i g 35) 6 (nI k)) some e ?_ ?_ (e - s) FU s g (by omega) (by unfold FU; omega) ⟨Nat.le_refl _, TW.rf, upd_same hi⟩
  · obtain ⟨w, ⟨-, w1, w2⟩, k1⟩ := k1
    have S := S0.on w1 (by omega) (by omega)
    have a6 := at_i S.1 (show z_i w 35 6 = nI e by rw [w2, upd_s])
    have L46 := S.1.2 46 (by omega)
    have ln : 46 < z_n w := by have := S.1.1; omega
    refine ⟨w, ?_, w1, w2⟩
    have wf : f_X4_wordFrom w 35 (nI s) = some (pck T s (e - s) z_wrds) := by
      unfold f_X4_wordFrom
      refine gdE (S.1.is rfl rfl) (bnd (yR35_1 S.1) (bnd a6 (bnd (yR45_0 S.1) (gdE ?_ ?_))))
      · rw [L46.1, L46.2.1, decide_eq_true ln, decide_eq_true (show (0 : Int32) ≤ nI s from nI_pos' (by omega)), decide_eq_true (show nI s ≤ nI e from nI_le r1 (by omega)), decide_eq_true (show nI e ≤ 600 from nI_le (b := 600) (by omega) (by omega))]
        rfl
      · rw [nI_clamp (by omega), nI_clamp (by omega), z_pck (F := T) (m := n) S.2.2.2 (by omega)]
    unfold f_X4_letters
    exact gdE (S0.1.is rfl rfl) (bnd (at_i S0.1 hi) (bnd k1 (bnd wf rfl)))
  · rintro k w hk ⟨ik, w1, w2⟩
    have S := S0.on w1 (by omega) (by omega)
    have e6 : z_i w 35 6 = nI k := by rw [w2, upd_s]
    have a6 := at_i S.1 e6
    have bk := r3 k ik hk
    refine ⟨z_si w 35 6 (nI (k + 1)), ⟨by omega, w1.tr (TW_si (Or.inl rfl)), by rw [z_si_i, w2, upd_u]⟩, fun rec => ?_⟩
    unfold f_X4_letters_l1
    refine ltE (bnd a6 (bnd (yR35_1 S.1) (bnd S.n ((if_neg (show ¬ nI n ≤ nI k from nI_ge (by omega) (by omega))).trans (bnd ((c_isLetter S e6 (by omega)).trans (congrArg some (by rw [bk]; rfl : _ = (1 : Int32)))) ((if_neg (by decide)).trans (bnd a6 ?_)))))))
    rw [nI_1]
    exact bnd (yP35 S.1 6 _) rfl
  · rintro rec w ⟨ik, w1, w2⟩
    have S := S0.on w1 (by omega) (by omega)
    have e6 : z_i w 35 6 = nI e := by rw [w2, upd_s]
    have a6 := at_i S.1 e6
    unfold f_X4_letters_l1
    refine ltE (bnd a6 (bnd (yR35_1 S.1) (bnd S.n ?_)))
    rcases Nat.lt_or_ge e n with c | c
    · exact (if_neg (show ¬ nI n ≤ nI e from nI_ge (by omega) (by omega))).trans (bnd ((c_isLetter S e6 c).trans (congrArg some (by rw [r4 c]; rfl : _ = (0 : Int32)))) (if_pos rfl))
    · exact if_pos (nI_le c (by omega))
theorem c_sign {g : Z_H} {T : Nat → Int32} {n s : Nat} (S : SC g T n) (hi : z_i g 35 6 = nI s) (c : s < n) : f_X4_sign g 35 = some (if T s = 59 then 2 else 1, z_si g 35 6 (nI (s + 1))) := by
  have a6 := at_i S.1 hi
  have fin : ∀ y : Int32, ((gI g 35 4 6).bind fun t7 => (pI g 35 4 6 (t7 + 1)).bind fun h8 => some (y, h8)) = some (y, z_si g 35 6 (nI (s + 1))) := fun y => by
    refine bnd a6 ?_
    rw [nI_1]
    exact bnd (yP35 S.1 6 _) rfl
  unfold f_X4_sign
  refine gdE (S.1.is rfl rfl) (bnd (yR35_1 S.1) (bnd (yR45_0 S.1) (bnd a6 (bnd (S.b c) (jnE ?_)))))
  by_cases q : T s = 59
  · rw [if_pos q, if_pos q]
    exact fin 2
  · rw [if_neg q, if_neg q]
    exact fin 1
theorem pck_n {F : Nat → Int32} {i n : Nat} : ∀ l : List (List Int32 × Int32), (∀ q ∈ l, q.2 ≠ 0) → pck F i n l ≠ 0
  | [], _ => by
    show (1 : Int32) ≠ 0
    decide
  | q :: l, h => by
    show (if decide (n = q.1.length) && spl F i q.1 then q.2 else pck F i n l) ≠ 0
    split
    · exact h q (List.mem_cons_self ..)
    · exact pck_n l (fun q hq => h q (List.mem_cons_of_mem _ hq))
theorem pck_0 {F : Nat → Int32} {i n : Nat} : pck F i n z_wrds ≠ 0 := pck_n z_wrds (by decide)
