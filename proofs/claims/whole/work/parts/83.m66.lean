/-! the model's tokens -/
theorem byte_all (P : Int32 → Bool) (h : ∀ k, k < 256 → P (nI k - 128) = true) {x : Int32} (hx : -128 ≤ x ∧ x ≤ 127) : P x = true := by
  have h1 := Int32.le_iff_toInt_le.mp hx.1
  have h2 := Int32.le_iff_toInt_le.mp hx.2
  have e1 : (-128 : Int32).toInt = -128 := rfl
  have e2 : (127 : Int32).toInt = 127 := rfl
  have e3 : (128 : Int32).toInt = 128 := rfl
  rw [e1] at h1
  rw [e2] at h2
  have : x = nI (x.toInt + 128).toNat - 128 := by
    apply Int32.toInt_inj.mp
    rw [Int32.toInt_sub, nI_toInt (by omega), e3]
    unfold Int.bmod
    dsimp only
    split <;> omega
  rw [this]
  exact h _ (by omega)
def byF (x : Int32) : Bool := decide ((x &&& 255 = 10) ↔ x = 10) && (decide ((x &&& 255 = 32) ↔ x = 32) && (decide ((x &&& 255 = 59) ↔ x = 59) && (decide (0 ≤ x &&& 255) && (decide ((if x &&& 255 < 48 then (0 : Int32) else if 57 < x &&& 255 then 0 else 1) = if cDg x then 1 else 0) && (decide ((if x &&& 255 < 97 then (0 : Int32) else if 122 < x &&& 255 then 0 else 1) = if cLt x then 1 else 0) && (!cDg x || decide (x &&& 255 = x)))))))
theorem by_f {x : Int32} (hx : -128 ≤ x ∧ x ≤ 127) : ((x &&& 255 = 10) ↔ x = 10) ∧ ((x &&& 255 = 32) ↔ x = 32) ∧ ((x &&& 255 = 59) ↔ x = 59) ∧ (0 ≤ x &&& 255) ∧ ((if x &&& 255 < 48 then (0 : Int32) else if 57 < x &&& 255 then 0 else 1) = if cDg x then 1 else 0) ∧ ((if x &&& 255 < 97 then (0 : Int32) else if 122 < x &&& 255 then 0 else 1) = if cLt x then 1 else 0) ∧ (cDg x = true → x &&& 255 = x) := by
  have h := byte_all byF (by decide +kernel) hx
  unfold byF at h
  simp only [Bool.and_eq_true, Bool.or_eq_true, decide_eq_true_eq, Bool.not_eq_true'] at h
  obtain ⟨a, b, c, d, e, f, g⟩ := h
  refine ⟨a, b, c, d, e, f, fun q => ?_⟩
  rcases g with g | g
  · rw [q] at g
    cases g
  · exact g
def MTX (w : Z_H) (T : Nat → Int32) (n : Nat) : Prop := LY w ∧ n ≤ 600 ∧ z_i w 61 4 = nI n ∧ (∀ i, i < n → z_i w 63 i = T i) ∧ ∀ i, i < n → -128 ≤ T i ∧ T i ≤ 127
/-- only the token has changed -/
def M61 (w w' : Z_H) : Prop := z_n w' = z_n w ∧ z_t w' = z_t w ∧ z_x w' = z_x w ∧ (∀ a, a ≠ 61 → z_i w' a = z_i w a) ∧ ∀ k, k ≠ 3 → k ≠ 5 → k ≠ 6 → k ≠ 7 → z_i w' 61 k = z_i w 61 k
theorem M61.rf {w : Z_H} : M61 w w := ⟨rfl, rfl, rfl, fun _ _ => rfl, fun _ _ _ _ _ => rfl⟩
theorem M61.tr {w w1 w2 : Z_H} (a : M61 w w1) (b : M61 w1 w2) : M61 w w2 := ⟨b.1.trans a.1, b.2.1.trans a.2.1, b.2.2.1.trans a.2.2.1, fun q h => (b.2.2.2.1 q h).trans (a.2.2.2.1 q h), fun k h1 h2 h3 h4 => (b.2.2.2.2 k h1 h2 h3 h4).trans (a.2.2.2.2 k h1 h2 h3 h4)⟩
theorem M61_si {w : Z_H} {k : Nat} {v : Int32} (h : k = 3 ∨ k = 5 ∨ k = 6 ∨ k = 7) : M61 w (z_si w 61 k v) := ⟨rfl, rfl, rfl, fun a ha => z_si_o ha, fun j h1 h2 h3 h4 => by rw [zi_si, if_pos rfl, if_neg (by omega)]⟩
theorem M61_sl {w : Z_H} {k : Nat} {v : Int64} : M61 w (z_sl w 61 k v) := ⟨rfl, rfl, rfl, fun _ _ => rfl, fun _ _ _ _ _ => rfl⟩
theorem MTX.to {w w' : Z_H} {T : Nat → Int32} {n : Nat} (m : MTX w T n) (r : M61 w w') : MTX w' T n := ⟨LY_x r.1 r.2.2.1 m.1, m.2.1, (r.2.2.2.2 4 (by omega) (by omega) (by omega) (by omega)).trans m.2.2.1, fun i hi => by rw [r.2.2.2.1 63 (by omega)]; exact m.2.2.2.1 i hi, m.2.2.2.2⟩
theorem e_see {w : Z_H} {T : Nat → Int32} {n i : Nat} (m : MTX w T n) (h3 : z_i w 61 3 = nI i) (hi : i ≤ n) : f_X10_see w 61 = some (if i < n then T i &&& 255 else -1) := by
  have n6 := m.2.1
  have a3 : gI w 61 10 3 = some (nI i) := (yI61 m.1 3).trans (congrArg some h3)
  have a4 : gI w 61 10 4 = some (nI n) := (yI61 m.1 4).trans (congrArg some m.2.2.1)
  unfold f_X10_see
  refine gdE (yg61 m.1) (bnd a3 (bnd a4 ?_))
  by_cases c : i < n
  · rw [if_pos c]
    exact (if_neg (nI_ge (by omega) (by omega))).trans (bnd (yR61_2 m.1) (bnd a3 (bnd ((yA63 m.1 (by omega)).trans (congrArg some (m.2.2.2.1 i c))) rfl)))
  · rw [if_neg c]
    exact if_pos (nI_le (by omega) (by omega))
theorem e_see_t {w : Z_H} {T : Nat → Int32} {n i : Nat} (m : MTX w T n) (h3 : z_i w 61 3 = nI i) (hi : i < n) : f_X10_see w 61 = some (T i &&& 255) := (e_see m h3 (by omega)).trans (congrArg some (if_pos hi))
theorem e_see_e {w : Z_H} {T : Nat → Int32} {n : Nat} (m : MTX w T n) (h3 : z_i w 61 3 = nI n) : f_X10_see w 61 = some (-1) := (e_see m h3 (Nat.le_refl _)).trans (congrArg some (if_neg (by omega)))
theorem e_inD {w : Z_H} {x : Int32} (hx : -128 ≤ x ∧ x ≤ 127) : f_X10_in w (x &&& 255) 48 57 = some (if cDg x then 1 else 0) := by
  rw [← (by_f hx).2.2.2.2.1]
  unfold f_X10_in
  split
  · rfl
  · split <;> rfl
theorem e_inL {w : Z_H} {x : Int32} (hx : -128 ≤ x ∧ x ≤ 127) : f_X10_in w (x &&& 255) 97 122 = some (if cLt x then 1 else 0) := by
  rw [← (by_f hx).2.2.2.2.2.1]
  unfold f_X10_in
  split
  · rfl
  · split <;> rfl
theorem a3_of {w : Z_H} (H : LY w) {i : Nat} (h3 : z_i w 61 3 = nI i) : gI w 61 10 3 = some (nI i) := (yI61 H 3).trans (congrArg some h3)
theorem e_skip {w : Z_H} {T : Nat → Int32} {n q s : Nat} (m : MTX w T n) (h3 : z_i w 61 3 = nI q) (r : RN cBk T n q s) : ∃ w', lp (f_X10_token_l1 61) FU w = some w' ∧ M61 w w' ∧ z_i w' 61 3 = nI s := by
  have n6 := m.2.1
  obtain ⟨r1, r2, r3, r4⟩ := r
  have k1 := lp_ex (b := f_X10_token_l1 61) (fun k (v : Z_H) => v) (fun k v => q ≤ k ∧ M61 w v ∧ z_i v 61 3 = nI k) some s ?_ ?_ (s - q) FU q w (by omega) (by unfold FU; omega) ⟨Nat.le_refl _, M61.rf, h3⟩
  · obtain ⟨w', ⟨-, w1, w2⟩, k1⟩ := k1
    exact ⟨w', k1, w1, w2⟩
  · rintro k v hk ⟨ik, v1, v2⟩
    have M := m.to v1
    have a3 := a3_of M.1 v2
    have bk := r3 k ik hk
    have bf := by_f (M.2.2.2.2 k (by omega))
    refine ⟨z_si v 61 3 (nI (k + 1)), ⟨by omega, v1.tr (M61_si (Or.inl rfl)), by rw [zi_si, if_pos rfl, if_pos rfl]⟩, fun rec => ?_⟩
    have fin : ((gI v 61 10 3).bind fun t6 => (pI v 61 10 3 (t6 + 1)).bind fun h7 => rec h7) = rec (z_si v 61 3 (nI (k + 1))) := by
      refine bnd a3 ?_
      rw [nI_1]
      exact bnd (yP61 M.1 3 _) rfl
    unfold f_X10_token_l1
    refine ltE (bnd (e_see_t M v2 (by omega)) (jnE ?_))
    by_cases c : T k = 10
    · exact (if_pos (bf.1.mpr c)).trans fin
    · refine (if_neg (fun e => c (bf.1.mp e))).trans (bnd (e_see_t M v2 (by omega)) ((if_pos (bf.2.1.mpr ?_)).trans fin))
      unfold cBk at bk
      rw [decide_eq_false c, Bool.false_or] at bk
      exact of_decide_eq_true bk
  · rintro rec v ⟨ik, v1, v2⟩
    have M := m.to v1
    unfold f_X10_token_l1
    rcases Nat.lt_or_ge s n with c | c
    · have bf := by_f (M.2.2.2.2 s c)
      have bk := r4 c
      unfold cBk at bk
      rw [Bool.or_eq_false_iff] at bk
      exact ltE (bnd (e_see_t M v2 c) (jnE ((if_neg (fun e => of_decide_eq_false bk.1 (bf.1.mp e))).trans (bnd (e_see_t M v2 c) (if_neg (fun e => of_decide_eq_false bk.2 (bf.2.1.mp e)))))))
    · have e : s = n := by omega
      rw [e] at v2
      exact ltE (bnd (e_see_e M v2) (jnE ((if_neg (by decide)).trans (bnd (e_see_e M v2) (if_neg (by decide))))))
