/-! tokens -/
def cBk (x : Int32) : Bool := decide (x = 10) || decide (x = 32)
def cDg (x : Int32) : Bool := decide (48 ≤ x) && decide (x ≤ 57)
def cLt (x : Int32) : Bool := decide (97 ≤ x) && decide (x ≤ 122)
def RN (p : Int32 → Bool) (T : Nat → Int32) (n i e : Nat) : Prop := i ≤ e ∧ e ≤ n ∧ (∀ j, i ≤ j → j < e → p (T j) = true) ∧ (e < n → p (T e) = false)
theorem RN_ex (p : Int32 → Bool) (T : Nat → Int32) (n : Nat) : ∀ d i, i + d = n → ∃ e, RN p T n i e
  | 0, i, hd => ⟨i, Nat.le_refl _, by omega, fun j h1 h2 => by omega, fun h => by omega⟩
  | d + 1, i, hd => by
    cases c : p (T i) with
    | false => exact ⟨i, Nat.le_refl _, by omega, fun j h1 h2 => by omega, fun _ => c⟩
    | true =>
      obtain ⟨e, h1, h2, h3, h4⟩ := RN_ex p T n d (i + 1) (by omega)
      refine ⟨e, by omega, h2, fun j a b => ?_, h4⟩
      by_cases q : j = i
      · rw [q]; exact c
      · exact h3 j (by omega) b
def dvl (T : Nat → Int32) (s : Nat) : Nat → Int32
  | 0 => 0
  | k + 1 => dvl T s k * 10 + T (s + k) - 48
def spl (F : Nat → Int32) : Nat → List Int32 → Bool
  | _, [] => true
  | i, x :: l => decide (F i = x) && spl F (i + 1) l
def pck (F : Nat → Int32) (i n : Nat) : List (List Int32 × Int32) → Int32
  | [] => 1
  | q :: l => if decide (n = q.1.length) && spl F i q.1 then q.2 else pck F i n l
theorem z_spl {h : Z_H} {b : Nat} {F : Nat → Int32} {m : Nat} (e : ∀ i, i < m → z_i h b i = F i) : ∀ l i, i + l.length ≤ m → z_spell h b i l = spl F i l
  | [], i, _ => rfl
  | x :: l, i, hi => by
    have hi : i + (l.length + 1) ≤ m := hi
    show (decide (z_i h b i = x) && z_spell h b (i + 1) l) = (decide (F i = x) && spl F (i + 1) l)
    rw [e i (by omega), z_spl e l (i + 1) (by omega)]
theorem z_pck {h : Z_H} {b : Nat} {F : Nat → Int32} {m i n : Nat} (e : ∀ j, j < m → z_i h b j = F j) (hi : i + n ≤ m) : ∀ l, z_pick h b i n l = pck F i n l
  | [] => rfl
  | q :: l => by
    show (if decide (n = q.1.length) && z_spell h b i q.1 then q.2 else z_pick h b i n l) = (if decide (n = q.1.length) && spl F i q.1 then q.2 else pck F i n l)
    rw [z_pck e hi l]
    by_cases c : n = q.1.length
    · rw [z_spl e q.1 i (by omega)]
    · rw [decide_eq_false c]
      rfl
/-- a token from q on: where it begins, its kind and its number as the class keeps them, where it ends -/
def TOK (T : Nat → Int32) (n q : Nat) (pl K v : Int32) (e : Nat) : Prop := ∃ s, RN cBk T n q s ∧ pl = nI s ∧ ((s = n ∧ K = 0 ∧ e = s) ∨ (s < n ∧ cDg (T s) = true ∧ RN cDg T n s e ∧ s < e ∧ ((e ≤ s + 4 ∧ K = 3 ∧ v = dvl T s (e - s)) ∨ (s + 4 < e ∧ K = 1))) ∨ (s < n ∧ cDg (T s) = false ∧ cLt (T s) = true ∧ RN cLt T n s e ∧ s < e ∧ K = pck T s (e - s) z_wrds) ∨ (s < n ∧ cDg (T s) = false ∧ cLt (T s) = false ∧ e = s + 1 ∧ ((T s = 59 ∧ K = 2) ∨ (T s ≠ 59 ∧ K = 1))))
/-- the reader's text -/
def SC (g : Z_H) (T : Nat → Int32) (n : Nat) : Prop := LY g ∧ n ≤ 600 ∧ z_i g 45 1 = nI n ∧ ∀ i, i < n → z_i g 46 i = T i
theorem SC.to {g g' : Z_H} {T : Nat → Int32} {n : Nat} (s : SC g T n) (e1 : z_n g' = z_n g) (e2 : z_x g' = z_x g) (e3 : z_i g' 45 = z_i g 45) (e4 : z_i g' 46 = z_i g 46) : SC g' T n := ⟨LY_x e1 e2 s.1, s.2.1, by rw [e3]; exact s.2.2.1, fun i hi => by rw [e4]; exact s.2.2.2 i hi⟩
theorem SC.on {g g' : Z_H} {T : Nat → Int32} {n a b : Nat} (s : SC g T n) (t : TW g g' a b) (ha : a ≠ 45 ∧ a ≠ 46) (hb : b ≠ 45 ∧ b ≠ 46) : SC g' T n := s.to t.1 t.2.2.1 (t.2.2.2 45 (fun q => ha.1 q.symm) (fun q => hb.1 q.symm)) (t.2.2.2 46 (fun q => ha.2 q.symm) (fun q => hb.2 q.symm))
theorem SC.b {g : Z_H} {T : Nat → Int32} {n : Nat} (s : SC g T n) {i : Nat} (hi : i < n) : aB g 46 (nI i) = some (T i) := (yA46 s.1 (by have := s.2.1; omega)).trans (congrArg some (s.2.2.2 i hi))
theorem SC.n {g : Z_H} {T : Nat → Int32} {n : Nat} (s : SC g T n) : gI g 45 8 1 = some (nI n) := (yI45 s.1 1).trans (congrArg some s.2.2.1)
/-- the reader is at i -/
theorem at_i {g : Z_H} (H : LY g) {i : Nat} (e : z_i g 35 6 = nI i) : gI g 35 4 6 = some (nI i) := (yI35 H 6).trans (congrArg some e)
theorem c_skip {g : Z_H} {T : Nat → Int32} {n i e : Nat} (s : SC g T n) (hi : z_i g 35 6 = nI i) (r : RN cBk T n i e) : ∃ g', f_X4_skipBlanks g 35 = some g' ∧ ON g g' 35 ∧ z_i g' 35 = upd (z_i g 35) 6 (nI e) := by
  have n6 := s.2.1
  obtain ⟨r1, r2, r3, r4⟩ := r
  have k1 := lp_ex (b := f_X4_skipBlanks_l1 35) (fun k (w : Z_H) => w) (fun k w => i ≤ k ∧ ON g w 35 ∧ z_i w 35 = upd (z_i g 35) 6 (nI k)) some e ?_ ?_ (e - i) FU i g (by omega) (by unfold FU; omega) ⟨Nat.le_refl _, TW.rf, ?_⟩
  · obtain ⟨w, ⟨-, w1, w2⟩, k1⟩ := k1
    refine ⟨w, ?_, w1, w2⟩
    unfold f_X4_skipBlanks
    exact gdE (s.1.is rfl rfl) (bnd k1 rfl)
  · rintro k w hk ⟨ik, w1, w2⟩
    have S := s.on w1 (by omega) (by omega)
    have a6 := at_i S.1 (show z_i w 35 6 = nI k by rw [w2, upd_s])
    have bk := r3 k ik hk
    refine ⟨z_si w 35 6 (nI (k + 1)), ⟨by omega, w1.tr (TW_si (Or.inl rfl)), ?_⟩, fun rec => ?_⟩
    · rw [z_si_i, w2]
      funext j
      unfold upd
      split <;> rfl
    · have fin : ((gI w 35 4 6).bind fun t12 => (pI w 35 4 6 (t12 + 1)).bind fun h13 => rec h13) = rec (z_si w 35 6 (nI (k + 1))) := by
        refine bnd a6 ?_
        rw [nI_1]
        exact bnd (yP35 S.1 6 _) rfl
      unfold f_X4_skipBlanks_l1
      refine ltE (bnd a6 (bnd (yR35_1 S.1) (bnd S.n ((if_neg (show ¬ nI n ≤ nI k from nI_ge (by omega) (by omega))).trans (bnd (yR35_1 S.1) (bnd (yR45_0 S.1) (bnd a6 (bnd (S.b (by omega)) (jnE ?_)))))))))
      by_cases c : T k = 10
      · exact (if_pos c).trans fin
      · refine (if_neg c).trans (bnd (yR35_1 S.1) (bnd (yR45_0 S.1) (bnd a6 (bnd (S.b (by omega)) ((if_pos ?_).trans fin)))))
        unfold cBk at bk
        rw [decide_eq_false c, Bool.false_or] at bk
        exact of_decide_eq_true bk
  · rintro rec w ⟨ik, w1, w2⟩
    have S := s.on w1 (by omega) (by omega)
    have a6 := at_i S.1 (show z_i w 35 6 = nI e by rw [w2, upd_s])
    unfold f_X4_skipBlanks_l1
    refine ltE (bnd a6 (bnd (yR35_1 S.1) (bnd S.n ?_)))
    rcases Nat.lt_or_ge e n with c | c
    · have bk := r4 c
      unfold cBk at bk
      rw [Bool.or_eq_false_iff] at bk
      refine (if_neg (show ¬ nI n ≤ nI e from nI_ge (by omega) (by omega))).trans (bnd (yR35_1 S.1) (bnd (yR45_0 S.1) (bnd a6 (bnd (S.b c) (jnE ((if_neg (of_decide_eq_false bk.1)).trans (bnd (yR35_1 S.1) (bnd (yR45_0 S.1) (bnd a6 (bnd (S.b c) (if_neg (of_decide_eq_false bk.2))))))))))))
    · exact if_pos (nI_le c (by omega))
  · funext j
    unfold upd
    split
    · rename_i q
      rw [q]
      exact hi
    · rfl
theorem c_isDigit {g : Z_H} {T : Nat → Int32} {n i : Nat} (s : SC g T n) (hi : z_i g 35 6 = nI i) (c : i < n) : f_X4_isDigit g 35 = some (if cDg (T i) then 1 else 0) := by
  have a6 := at_i s.1 hi
  unfold f_X4_isDigit
  refine gdE (s.1.is rfl rfl) (bnd (yR35_1 s.1) (bnd (yR45_0 s.1) (bnd a6 (bnd (s.b c) ?_))))
  unfold cDg
  by_cases q : T i < 48
  · rw [if_pos q, decide_eq_false (Int32.not_le.mpr q)]
    rfl
  · refine (if_neg q).trans (bnd (yR35_1 s.1) (bnd (yR45_0 s.1) (bnd a6 (bnd (s.b c) ?_))))
    rw [decide_eq_true (Int32.not_lt.mp q)]
    by_cases w : 57 < T i
    · rw [if_pos w, decide_eq_false (Int32.not_le.mpr w)]
      rfl
    · rw [if_neg w, decide_eq_true (Int32.not_lt.mp w)]
      rfl
theorem c_isLetter {g : Z_H} {T : Nat → Int32} {n i : Nat} (s : SC g T n) (hi : z_i g 35 6 = nI i) (c : i < n) : f_X4_isLetter g 35 = some (if cLt (T i) then 1 else 0) := by
  have a6 := at_i s.1 hi
  unfold f_X4_isLetter
  refine gdE (s.1.is rfl rfl) (bnd (yR35_1 s.1) (bnd (yR45_0 s.1) (bnd a6 (bnd (s.b c) ?_))))
  unfold cLt
  by_cases q : T i < 97
  · rw [if_pos q, decide_eq_false (Int32.not_le.mpr q)]
    rfl
  · refine (if_neg q).trans (bnd (yR35_1 s.1) (bnd (yR45_0 s.1) (bnd a6 (bnd (s.b c) ?_))))
    rw [decide_eq_true (Int32.not_lt.mp q)]
    by_cases w : 122 < T i
    · rw [if_pos w, decide_eq_false (Int32.not_le.mpr w)]
      rfl
    · rw [if_neg w, decide_eq_true (Int32.not_lt.mp w)]
      rfl
