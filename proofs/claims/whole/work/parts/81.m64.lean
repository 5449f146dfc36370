def TKS (g : Z_H) (T : Nat → Int32) (n N : Nat) : Prop := z_i g 35 5 = nI N ∧ N ≤ 600 ∧ ∃ q : Nat → Nat, q 0 = 0 ∧ (∀ i, i ≤ N → TOK T n (q i) (z_i g 48 i) (z_i g 47 i) (z_i g 49 i) (q (i + 1))) ∧ (∀ i, i < N → z_i g 47 i ≠ 0) ∧ z_i g 47 N = 0
theorem c_scan {h : Z_H} (H : LY h) {T : Nat → Int32} {n : Nat} (hn : n ≤ 600) (en : z_i h 2 1 = nI n) (hT : ∀ i, i < n → z_i h 3 i = T i) (hB : ∀ i, i < n → -128 ≤ T i ∧ T i ≤ 127) : ∃ g N, f_X4_scan h 35 2 = some g ∧ (z_n g = z_n h ∧ z_t g = z_t h ∧ z_x g = z_x h ∧ ∀ a, a ≠ 35 → a < 45 ∨ 50 ≤ a → z_i g a = z_i h a) ∧ TKS g T n N := by
  have sh : ∀ a k l, a < 72 → kT a = k → lT a = l → SH h a k l := fun a k l ha hk hl => ⟨by have := H.1; omega, (H.2 a ha).1.trans hk, (H.2 a ha).2.1.trans hl⟩
  obtain ⟨g1, a1, a2, a3, a4, a5, a6, a7⟩ := c_cp8 (h := h) (p := 45) (q := 2) hn (sh 45 _ _ (by omega) rfl rfl) (sh 2 _ _ (by omega) rfl rfl) (sh 46 _ _ (by omega) rfl rfl) (sh 3 _ _ (by omega) rfl rfl) ((H.2 45 (by omega)).2.2 (by omega) 0) ((H.2 2 (by omega)).2.2 (by omega) 0) (by omega) en (fun j hj => by
    have : z_i h 3 j = T j := hT j hj
    show -128 ≤ z_i h 3 j ∧ z_i h 3 j ≤ 127
    rw [this]
    exact hB j hj)
  have G1 := LY_x a2 a4 H
  let g2 := z_si g1 35 5 0
  let g3 := z_si g2 35 6 0
  have i45 : z_i g3 45 = z_i g1 45 := (z_si_o (by omega)).trans (z_si_o (by omega))
  have i46 : z_i g3 46 = z_i g1 46 := (z_si_o (by omega)).trans (z_si_o (by omega))
  have i35 : z_i g3 35 = upd (upd (z_i g1 35) 5 0) 6 0 := by
    show z_i (z_si (z_si g1 35 5 0) 35 6 0) 35 = _
    rw [z_si_i, z_si_i]
  have S3 : SC g3 T n := ⟨G1, hn, by rw [i45]; exact a6, fun i hi => by rw [i46]; exact (a7 i hi).trans (hT i hi)⟩
  obtain ⟨s, rs⟩ := RN_ex cBk T n n 0 (by omega)
  obtain ⟨g4, b1, b2, b3⟩ := c_skip S3 (show z_i g3 35 6 = nI 0 by rw [i35, upd_s]; rfl) rs
  have S4 : SC g4 T n := S3.on b2 (by omega) (by omega)
  obtain ⟨w, N, c1, rd, h5, h6, q, q0, qN, qr, qt⟩ := c_scanL S4 n FU g4 0 s (by omega) (by unfold FU; omega) ⟨⟨rfl, rfl, rfl, fun _ _ _ _ _ => rfl⟩, by rw [b3, upd_o (by omega), i35, upd_o (by omega), upd_s]; rfl, by rw [b3, upd_s], fun _ => 0, rfl, Nat.le_refl _, rs, fun i hi => absurd hi (Nat.not_lt_zero _)⟩
  have W : LY w := LY_x rd.1 rd.2.2.1 S4.1
  have nq := qr.1
  let w1 := z_si w 48 N (nI n)
  let w2 := z_si w1 47 N 0
  have W1 : LY w1 := W
  have a5w : gI w 35 4 5 = some (nI N) := (yI35 W 5).trans (congrArg some h5)
  have a5w1 : gI w1 35 4 5 = some (nI N) := (yI35 W1 5).trans (congrArg some ((congrFun (z_si_o (by omega)) 5).trans h5))
  have j35 : z_i w2 35 = z_i w 35 := (z_si_o (by omega)).trans (z_si_o (by omega))
  have j47 : z_i w2 47 = upd (z_i w 47) N 0 := by
    show z_i (z_si (z_si w 48 N (nI n)) 47 N 0) 47 = _
    rw [z_si_i, z_si_o (by omega)]
  have j48 : z_i w2 48 = upd (z_i w 48) N (nI n) := by
    show z_i (z_si (z_si w 48 N (nI n)) 47 N 0) 48 = _
    rw [z_si_o (by omega), z_si_i]
  have j49 : z_i w2 49 = z_i w 49 := (z_si_o (by omega)).trans (z_si_o (by omega))
  obtain ⟨q', p1, p2⟩ : ∃ q' : Nat → Nat, (∀ i, i ≤ N → q' i = q i) ∧ q' (N + 1) = n := ⟨fun i => if i ≤ N then q i else n, fun i hi => if_pos hi, if_neg (by omega)⟩
  refine ⟨w2, N, ?_, ⟨?_, ?_, ?_, fun a h1 h2 => ?_⟩, by rw [j35]; exact h5, by omega, q', (p1 0 (by omega)).trans q0, fun i hi => ?_, fun i hi => ?_, ?_⟩
  · unfold f_X4_scan
    exact gdE (H.is rfl rfl) (bnd (yR35_1 H) (bnd a1 (bnd (yP35 G1 5 0) (bnd (yP35 (h := g2) G1 6 0) (bnd b1 (bnd c1 (bnd (yR35_3 W) (bnd a5w (bnd (at_i W h6) (bnd (yS48 W (by omega)) (bnd (a := 47) (yR35_2 W1) (bnd a5w1 (bnd (yS47 W1 (by omega)) rfl)))))))))))))
  · exact rd.1.trans (b2.1.trans a2)
  · exact rd.2.1.trans (b2.2.1.trans a3)
  · exact rd.2.2.1.trans (b2.2.2.1.trans a4)
  · show z_i (z_si (z_si w 48 N (nI n)) 47 N 0) a = _
    rw [z_si_o (by omega), z_si_o (by omega), rd.2.2.2 a h1 (by omega) (by omega) (by omega), b2.2.2.2 a h1 h1]
    show z_i (z_si (z_si g1 35 5 0) 35 6 0) a = _
    rw [z_si_o h1, z_si_o h1]
    exact a5 a (by omega)
  · by_cases c : i = N
    · rw [c, p1 N (Nat.le_refl _), p2, j47, j48, j49, upd_s, upd_s]
      exact ⟨n, qr, rfl, Or.inl ⟨rfl, rfl, rfl⟩⟩
    · rw [p1 i hi, p1 (i + 1) (by omega), j47, j48, j49, upd_o c, upd_o c]
      exact (qt i (by omega)).1
  · rw [j47, upd_o (by omega)]
    exact (qt i hi).2
  · rw [j47, upd_s]
