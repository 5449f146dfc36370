/-! the class's scan, whole -/
theorem c_tok {g : Z_H} {T : Nat → Int32} {n q s N : Nat} (S : SC g T n) (hi : z_i g 35 6 = nI s) (hN : z_i g 35 5 = nI N) (h6 : N < 601) (hz : z_i g 49 N = 0) (hq : RN cBk T n q s) (hs : s < n) : ∃ K e g', (∀ {γ : Type} (J : Int32 × Z_H → Option γ), ((f_X4_isDigit g 35).bind fun t22 => if t22 = 0 then ((f_X4_isLetter g 35).bind fun t30 => if t30 = 0 then (bd2 (f_X4_sign g 35) fun t31 h32 => J (t31, h32)) else (bd2 (f_X4_letters g 35) fun t33 h34 => J (t33, h34))) else (bd2 (f_X4_digits g 35) fun t35 h36 => J (t35, h36))) = J (K, g')) ∧ TW g g' 35 49 ∧ z_i g' 35 = upd (z_i g 35) 6 (nI e) ∧ (∀ j, j ≠ N → z_i g' 49 j = z_i g 49 j) ∧ TOK T n q (nI s) K (z_i g' 49 N) e ∧ K ≠ 0 ∧ s < e ∧ e ≤ n := by
  have z1 : ¬ (1 : Int32) = 0 := by decide
  cases cd : cDg (T s) with
  | true =>
    obtain ⟨e, r⟩ := RN_ex cDg T n (n - s) s (by omega)
    have se : s < e := by
      rcases Nat.lt_or_ge s e with c | c
      · exact c
      · have e1 : e = s := by have := r.1; omega
        have := r.2.2.2 (by omega)
        rw [e1, cd] at this
        cases this
    obtain ⟨g', d1, d2, d3, d4, d5⟩ := c_digits S hi hN h6 hz r
    refine ⟨if s + 4 < e then 1 else 3, e, g', fun J => ?_, d2, d3, d4, ⟨s, hq, rfl, Or.inr (Or.inl ⟨hs, cd, r, se, ?_⟩)⟩, ?_, se, r.2.1⟩
    · exact bnd ((c_isDigit S hi hs).trans (congrArg some (by rw [cd]; rfl : _ = (1 : Int32)))) ((if_neg z1).trans (bd2E d1 rfl))
    · by_cases c : s + 4 < e
      · exact Or.inr ⟨c, if_pos c⟩
      · exact Or.inl ⟨by omega, if_neg c, d5 (by omega)⟩
    · split <;> decide
  | false =>
    have i1 := (c_isDigit S hi hs).trans (congrArg some (by rw [cd]; rfl : _ = (0 : Int32)))
    cases cl : cLt (T s) with
    | true =>
      obtain ⟨e, r⟩ := RN_ex cLt T n (n - s) s (by omega)
      have se : s < e := by
        rcases Nat.lt_or_ge s e with c | c
        · exact c
        · have e1 : e = s := by have := r.1; omega
          have := r.2.2.2 (by omega)
          rw [e1, cl] at this
          cases this
      obtain ⟨g', d1, d2, d3⟩ := c_letters S hi r
      refine ⟨pck T s (e - s) z_wrds, e, g', fun J => ?_, ⟨d2.1, d2.2.1, d2.2.2.1, fun a h1 _ => d2.2.2.2 a h1 h1⟩, d3, fun j _ => by rw [d2.2.2.2 49 (by omega) (by omega)], ⟨s, hq, rfl, Or.inr (Or.inr (Or.inl ⟨hs, cd, cl, r, se, rfl⟩))⟩, pck_0, se, r.2.1⟩
      exact bnd i1 ((if_pos rfl).trans (bnd ((c_isLetter S hi hs).trans (congrArg some (by rw [cl]; rfl : _ = (1 : Int32)))) ((if_neg z1).trans (bd2E d1 rfl))))
    | false =>
      refine ⟨if T s = 59 then 2 else 1, s + 1, z_si g 35 6 (nI (s + 1)), fun J => ?_, TW_si (Or.inl rfl), z_si_i, fun j _ => by rw [z_si_o (by omega)], ⟨s, hq, rfl, Or.inr (Or.inr (Or.inr ⟨hs, cd, cl, rfl, ?_⟩))⟩, ?_, by omega, by omega⟩
      · exact bnd i1 ((if_pos rfl).trans (bnd ((c_isLetter S hi hs).trans (congrArg some (by rw [cl]; rfl : _ = (0 : Int32)))) ((if_pos rfl).trans (bd2E (c_sign S hi hs) rfl))))
      · by_cases c : T s = 59
        · exact Or.inl ⟨c, if_pos c⟩
        · exact Or.inr ⟨c, if_neg c⟩
      · split <;> decide
/-- only the reader's tokens have changed -/
def RDC (g w : Z_H) : Prop := z_n w = z_n g ∧ z_t w = z_t g ∧ z_x w = z_x g ∧ ∀ a, a ≠ 35 → a ≠ 47 → a ≠ 48 → a ≠ 49 → z_i w a = z_i g a
theorem RDC.tw {g w w' : Z_H} {a b : Nat} (r : RDC g w) (t : TW w w' a b) (ha : a = 35 ∨ 47 ≤ a ∧ a ≤ 49) (hb : b = 35 ∨ 47 ≤ b ∧ b ≤ 49) : RDC g w' := ⟨t.1.trans r.1, t.2.1.trans r.2.1, t.2.2.1.trans r.2.2.1, fun q h1 h2 h3 h4 => (t.2.2.2 q (by omega) (by omega)).trans (r.2.2.2 q h1 h2 h3 h4)⟩
def SCI (g w : Z_H) (T : Nat → Int32) (n N s : Nat) : Prop := RDC g w ∧ z_i w 35 5 = nI N ∧ z_i w 35 6 = nI s ∧ ∃ q : Nat → Nat, q 0 = 0 ∧ N ≤ q N ∧ RN cBk T n (q N) s ∧ ∀ i, i < N → TOK T n (q i) (z_i w 48 i) (z_i w 47 i) (z_i w 49 i) (q (i + 1)) ∧ z_i w 47 i ≠ 0
theorem c_scan1 {g : Z_H} {T : Nat → Int32} {n : Nat} (S0 : SC g T n) {w : Z_H} {N s : Nat} (I : SCI g w T n N s) (hs : s < n) : ∃ w' s', (∀ rec, f_X4_scan_l1 35 rec w = rec w') ∧ SCI g w' T n (N + 1) s' ∧ s < s' := by
  have n6 := S0.2.1
  obtain ⟨rd, h5, h6, q, q0, qN, qr, qt⟩ := I
  have sq := qr.1
  have S : SC w T n := S0.to rd.1 rd.2.2.1 (rd.2.2.2 45 (by omega) (by omega) (by omega) (by omega)) (rd.2.2.2 46 (by omega) (by omega) (by omega) (by omega))
  let w1 := z_si w 48 N (nI s)
  let w2 := z_si w1 49 N 0
  have S1 : LY w1 := S.1
  have S2 : SC w2 T n := S.to rfl rfl ((z_si_o (by omega)).trans (z_si_o (by omega))) ((z_si_o (by omega)).trans (z_si_o (by omega)))
  have e35 : z_i w2 35 = z_i w 35 := (z_si_o (by omega)).trans (z_si_o (by omega))
  have e47 : z_i w2 47 = z_i w 47 := (z_si_o (by omega)).trans (z_si_o (by omega))
  obtain ⟨K, e, w3, b1, b2, b3, b4, b5, b6, b7, b8⟩ := c_tok (q := q N) S2 ((congrFun e35 6).trans h6) ((congrFun e35 5).trans h5) (by omega) (by show z_i (z_si w1 49 N 0) 49 N = 0; rw [z_si_i, upd_s]) qr hs
  have S3 : SC w3 T n := S2.on b2 (by omega) (by omega)
  let w4 := z_si w3 47 N K
  let w5 := z_si w4 35 5 (nI (N + 1))
  have S4 : LY w4 := S3.1
  have S5 : SC w5 T n := S3.to rfl rfl ((z_si_o (by omega)).trans (z_si_o (by omega))) ((z_si_o (by omega)).trans (z_si_o (by omega)))
  have f35 : z_i w5 35 = upd (upd (z_i w 35) 6 (nI e)) 5 (nI (N + 1)) := by
    show z_i (z_si (z_si w3 47 N K) 35 5 (nI (N + 1))) 35 = _
    rw [z_si_i, z_si_o (by omega), b3, e35]
  obtain ⟨s', rs⟩ := RN_ex cBk T n (n - e) e (by omega)
  obtain ⟨w6, c1, c2, c3⟩ := c_skip S5 (show z_i w5 35 6 = nI e by rw [f35, upd_o (by omega), upd_s]) rs
  have rd6 : RDC g w6 := ((((((rd.tw (TW_si (a := 48) (b := 48) (Or.inl rfl)) (by omega) (by omega)).tw (TW_si (a := 49) (b := 49) (Or.inl rfl)) (by omega) (by omega))).tw b2 (by omega) (by omega)).tw (TW_si (a := 47) (b := 47) (Or.inl rfl)) (by omega) (by omega)).tw (TW_si (a := 35) (b := 35) (Or.inl rfl)) (by omega) (by omega)).tw c2 (by omega) (by omega)
  have g47 : z_i w6 47 = upd (z_i w 47) N K := by
    rw [c2.2.2.2 47 (by omega) (by omega)]
    show z_i (z_si (z_si w3 47 N K) 35 5 (nI (N + 1))) 47 = _
    rw [z_si_o (by omega), z_si_i, b2.2.2.2 47 (by omega) (by omega), e47]
  have g48 : z_i w6 48 = upd (z_i w 48) N (nI s) := by
    rw [c2.2.2.2 48 (by omega) (by omega)]
    show z_i (z_si (z_si w3 47 N K) 35 5 (nI (N + 1))) 48 = _
    rw [z_si_o (by omega), z_si_o (by omega), b2.2.2.2 48 (by omega) (by omega)]
    show z_i (z_si (z_si w 48 N (nI s)) 49 N 0) 48 = _
    rw [z_si_o (by omega), z_si_i]
  have g49 : z_i w6 49 = z_i w3 49 := by
    rw [c2.2.2.2 49 (by omega) (by omega)]
    show z_i (z_si (z_si w3 47 N K) 35 5 (nI (N + 1))) 49 = _
    rw [z_si_o (by omega), z_si_o (by omega)]
  have g49o : ∀ j, j ≠ N → z_i w6 49 j = z_i w 49 j := fun j hj => by
    rw [g49, b4 j hj]
    show z_i (z_si (z_si w 48 N (nI s)) 49 N 0) 49 j = _
    rw [z_si_i, upd_o hj, z_si_o (by omega)]
  obtain ⟨q', p1, p2⟩ : ∃ q' : Nat → Nat, (∀ i, i ≤ N → q' i = q i) ∧ q' (N + 1) = e := ⟨fun i => if i ≤ N then q i else e, fun i hi => if_pos hi, if_neg (by omega)⟩
  refine ⟨w6, s', fun rec => ?_, ⟨rd6, ?_, ?_, q', ?_, ?_, ?_, fun i hi => ?_⟩, ?_⟩
  · have a6 := at_i S.1 h6
    have a5 : gI w 35 4 5 = some (nI N) := (yI35 S.1 5).trans (congrArg some h5)
    have a51 : gI w1 35 4 5 = some (nI N) := (yI35 S1 5).trans (congrArg some ((congrFun (z_si_o (by omega)) 5).trans h5))
    have a52 : gI w2 35 4 5 = some (nI N) := (yI35 S2.1 5).trans (congrArg some ((congrFun e35 5).trans h5))
    have a54 : gI w4 35 4 5 = some (nI N) := (yI35 S4 5).trans (congrArg some (by
      show z_i (z_si w3 47 N K) 35 5 = _
      rw [z_si_o (by omega), b3, upd_o (by omega), e35]
      exact h5))
    unfold f_X4_scan_l1
    refine ltE (bnd a6 (bnd (yR35_1 S.1) (bnd S.n ((if_neg (show ¬ nI n ≤ nI s from nI_ge (by omega) (by omega))).trans (bnd a5 ((if_neg (show ¬ (600 : Int32) ≤ nI N from nI_ge (b := 600) (by omega) (by omega))).trans (bnd (yR35_3 S.1) (bnd a5 (bnd a6 (bnd (yS48 S.1 (by omega)) (bnd (a := 49) (yR35_4 S1) (bnd a51 (bnd (yS49 S1 (by omega)) (bnd (a := 47) (yR35_2 S2.1) (bnd a52 ?_)))))))))))))))
    refine (b1 (fun (y : Int32 × Z_H) => (sI y.2 47 (nI N) y.1).bind fun h26 => (gI h26 35 4 5).bind fun t27 => (pI h26 35 4 5 (t27 + 1)).bind fun h28 => (f_X4_skipBlanks h28 35).bind fun h29 => rec h29)).trans ?_
    refine bnd (yS47 S3.1 (by omega)) (bnd a54 ?_)
    rw [nI_1]
    exact bnd (yP35 S4 5 _) (bnd c1 rfl)
  · rw [c3, upd_o (by omega), f35, upd_s]
  · rw [c3, upd_s]
  · rw [p1 0 (by omega)]
    exact q0
  · omega
  · rw [p2]
    exact rs
  · by_cases c : i = N
    · rw [c, p1 N (Nat.le_refl _), p2, g47, g48, g49, upd_s, upd_s]
      exact ⟨b5, b6⟩
    · rw [p1 i (by omega), p1 (i + 1) (by omega), g47, g48, upd_o c, upd_o c, g49o i c]
      exact qt i (by omega)
  · have := rs.1
    omega
theorem c_scanL {g : Z_H} {T : Nat → Int32} {n : Nat} (S0 : SC g T n) : ∀ d f w N s, n ≤ s + d → d < f → SCI g w T n N s → ∃ w' N', lp (f_X4_scan_l1 35) f w = some w' ∧ SCI g w' T n N' n
  | _, 0, _, _, _, _, hf, _ => by omega
  | d, f + 1, w, N, s, hd, hf, I => by
    have n6 := S0.2.1
    obtain ⟨rd, h5, h6, q, q0, qN, qr, qt⟩ := I
    have sn := qr.2.1
    have S : SC w T n := S0.to rd.1 rd.2.2.1 (rd.2.2.2 45 (by omega) (by omega) (by omega) (by omega)) (rd.2.2.2 46 (by omega) (by omega) (by omega) (by omega))
    rcases Nat.lt_or_ge s n with c | c
    · obtain ⟨w', s', e1, I', lt'⟩ := c_scan1 S0 ⟨rd, h5, h6, q, q0, qN, qr, qt⟩ c
      obtain ⟨w2, N2, k1, k2⟩ := c_scanL S0 (d - 1) f w' (N + 1) s' (by omega) (by omega) I'
      exact ⟨w2, N2, (e1 _).trans k1, k2⟩
    · have : s = n := by omega
      subst this
      refine ⟨w, N, ?_, rd, h5, h6, q, q0, qN, qr, qt⟩
      show f_X4_scan_l1 35 (lp (f_X4_scan_l1 35) f) w = some w
      unfold f_X4_scan_l1
      exact ltE (bnd (at_i S.1 h6) (bnd (yR35_1 S.1) (bnd S.n (if_pos (nI_le (Nat.le_refl _) (by omega))))))
