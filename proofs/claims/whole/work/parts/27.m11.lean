def snat (f : Nat → Nat) : Nat → Nat
  | 0 => 0
  | n + 1 => snat f n + f n
theorem snat_list (f : Nat → Nat) : ∀ n, ((List.range n).map f).sum = snat f n := by
  intro n
  induction n with
  | zero => rfl
  | succ n ih =>
    rw [List.range_succ, List.map_append, List.sum_append, ih]
    show snat f n + (f n + 0) = snat f n + f n
    omega
theorem snat_le {f g : Nat → Nat} : ∀ n, (∀ k, k < n → f k ≤ g k) → snat f n ≤ snat g n := by
  intro n
  induction n with
  | zero => intro _; exact Nat.le_refl _
  | succ n ih =>
    intro h
    have := ih (fun k hk => h k (by omega))
    have := h n (by omega)
    show snat f n + f n ≤ snat g n + g n
    omega
theorem snat_mul {f : Nat → Nat} {b : Nat} : ∀ n, (∀ k, k < n → f k ≤ b) → snat f n ≤ n * b := by
  intro n
  induction n with
  | zero => intro _; exact Nat.zero_le _
  | succ n ih =>
    intro h
    have h1 := ih (fun k hk => h k (by omega))
    have h2 := h n (by omega)
    show snat f n + f n ≤ (n + 1) * b
    rw [Nat.succ_mul]
    omega
theorem sm_nat {t : Nat → Int32} : ∀ n, (∀ k, k < n → ∃ f : Nat, t k = nI f) → ∃ f : Nat → Nat, (∀ k, k < n → t k = nI (f k)) ∧ sm t n = nI (snat f n) := by
  intro n h
  have key : ∀ f : Nat → Nat, (∀ k, k < n → t k = nI (f k)) → ∀ m, m ≤ n → sm t m = nI (snat f m) := by
    intro f hf m
    induction m with
    | zero => intro _; rfl
    | succ m ih =>
      intro hm
      show sm t m + t m = nI (snat f m + f m)
      rw [ih (by omega), hf m (by omega), nI_add]
  refine ⟨fun k => if hk : k < n then (h k hk).choose else 0, fun k hk => ?_, ?_⟩
  · simp only [hk, dite_true]
    exact (h k hk).choose_spec
  · refine key _ (fun k hk => ?_) n (Nat.le_refl _)
    simp only [hk, dite_true]
    exact (h k hk).choose_spec
theorem sm_natf {t : Nat → Int32} {f : Nat → Nat} : ∀ n, (∀ k, k < n → t k = nI (f k)) → sm t n = nI (snat f n) := by
  intro n
  induction n with
  | zero => intro _; rfl
  | succ n ih =>
    intro hf
    show sm t n + t n = nI (snat f n + f n)
    rw [ih (fun k hk => hf k (by omega)), hf n (by omega), nI_add]
theorem net_nat {A : Nat → Int32} {i p b : Nat} (hp : p ≤ 9999) (hb : b ≤ 100) (e : A (1087 + 41 * i + 4) = nI b) : netS A i (nI p) = nI (p * (100 - b) / 100) := by
  unfold netS
  have h1 : p * (100 - b) ≤ 9999 * 100 := Nat.mul_le_mul hp (by omega)
  rw [e, n_100, nI_sub hb, nI_mul, pk_div (by omega) (by omega) (by omega)]
theorem lg_nat {v : Nat} {y : Int32} (hv : v < 2 ^ 31) : ∃ s, s ≤ v ∧ les (nI v) (gre 0 y) = nI s := by
  have hg : ∃ j, j < 2 ^ 31 ∧ gre 0 y = nI j := by
    unfold gre
    by_cases h : (0 : Int32) ≤ y
    · rw [if_pos h]
      exact nI_of (Int32.not_lt.mpr h)
    · rw [if_neg h]
      exact ⟨0, by omega, rfl⟩
  obtain ⟨j, hj, e⟩ := hg
  rw [e]
  unfold les
  by_cases h : nI j ≤ nI v
  · rw [if_pos h]
    exact ⟨j, (nI_leI hj hv).mp h, rfl⟩
  · rw [if_neg h]
    exact ⟨v, Nat.le_refl _, rfl⟩
theorem vS_nat {A : Nat → Int32} (hV : VV A) {i l p b : Nat} {m : Int32} (hp : p ≤ 9999) (hb : b ≤ 100) (eb : A (1087 + 41 * i + 4) = nI b) (ep : A (1087 + 41 * i + (6 + 7 * l + 2)) = nI p) : ∃ v, v ≤ p ∧ vS A i l m = nI v := by
  have hn : p * (100 - b) / 100 ≤ p := by
    have : p * (100 - b) ≤ p * 100 := Nat.mul_le_mul_left p (by omega)
    omega
  have enp : npS A i l = nI (p * (100 - b) / 100) := by unfold npS; rw [ep, net_nat hp hb eb]
  unfold vS
  rw [enp]
  by_cases h5 : A 5 = 0
  · rw [if_pos h5]
    exact ⟨_, hn, rfl⟩
  · rw [if_neg h5]
    obtain ⟨ve, hve, eve⟩ := hV
    have hv0 : 0 < ve := by
      rcases Nat.eq_zero_or_pos ve with q | q
      · exact absurd (by rw [eve, q]; rfl) h5
      · exact q
    rw [eve]
    obtain ⟨s, hs, es⟩ := lg_nat (v := ve) (y := unS A (whS A i l).toNatClampNeg m - A (1087 + 41 * i + 3)) (by omega)
    rw [es, nI_mul]
    have h1 : p * (100 - b) / 100 * s ≤ p * (100 - b) / 100 * ve := Nat.mul_le_mul_left _ hs
    have h2 : p * (100 - b) / 100 * ve ≤ 9999 * 12 := Nat.mul_le_mul (by omega) hve
    rw [pk_div (by omega) hv0 (by omega)]
    refine ⟨_, ?_, rfl⟩
    have h3 : p * (100 - b) / 100 * s / ve ≤ p * (100 - b) / 100 * ve / ve := Nat.div_le_div_right h1
    rw [Nat.mul_div_cancel _ hv0] at h3
    omega
theorem snat_one {f : Nat → Nat} {n k : Nat} (hk : k < n) : f k ≤ snat f n := by
  induction n with
  | zero => omega
  | succ n ih =>
    show f k ≤ snat f n + f n
    by_cases e : k = n
    · rw [e]; omega
    · have := ih (by omega); omega
/-- what is earned is a number, and no more than what all sales pay -/
theorem eS_nat {A : Nat → Int32} (hS : VS A) (hB : VB A) (hV : VV A) (x m x3 : Int32) : ∃ e, e ≤ 399960 ∧ eS A x m x3 = nI e := by
  rw [eS_eq]
  have row : ∀ i, i < nk A → ∃ e, e ≤ 9999 ∧ sm (fun n => if nI i = x3 then 0 else if whS A i n = x then vS A i n m else 0) (nq A i) = nI e := by
    intro i hi
    obtain ⟨p, p1, p2⟩ := hB i hi
    rw [snat_list] at p2
    obtain ⟨-, -, ⟨b, hb, eb⟩, -⟩ := hS.2.2 i hi
    have each : ∀ l, l < nq A i → ∃ v, v ≤ p l ∧ (if nI i = x3 then 0 else if whS A i l = x then vS A i l m else 0) = nI v := by
      intro l hl
      have hp : p l ≤ 9999 := Nat.le_trans (snat_one hl) p2
      split
      · exact ⟨0, Nat.zero_le _, rfl⟩
      · split
        · exact vS_nat hV hp hb eb (p1 l hl)
        · exact ⟨0, Nat.zero_le _, rfl⟩
    refine ⟨snat (fun l => if hl : l < nq A i then (each l hl).choose else 0) (nq A i), ?_, ?_⟩
    · refine Nat.le_trans (snat_le (g := p) _ (fun l hl => ?_)) p2
      simp only [hl, dite_true]
      exact (each l hl).choose_spec.1
    · refine sm_natf _ (fun l hl => ?_)
      simp only [hl, dite_true]
      exact (each l hl).choose_spec.2
  refine ⟨snat (fun i => if hi : i < nk A then (row i hi).choose else 0) (nk A), ?_, ?_⟩
  · have := snat_mul (f := fun i => if hi : i < nk A then (row i hi).choose else 0) (b := 9999) (nk A) (fun i hi => by
      simp only [hi, dite_true]
      exact (row i hi).choose_spec.1)
    have h40 := hS.1
    have : nk A * 9999 ≤ 40 * 9999 := Nat.mul_le_mul_right _ h40
    omega
  · refine sm_natf _ (fun i hi => ?_)
    simp only [hi, dite_true]
    exact (row i hi).choose_spec.2
theorem c_balance {h : Z_H} {A : Nat → Int32} (C : CA h A) {s : Nat} (hs : s < nn A) : f_X7_balance h 1 (nI s) = some (eS A (nI s) (A 144) (-1) - A (147 + 94 * s + 3)) := by
  have H := C.1
  obtain ⟨en, h99⟩ := C.now
  have h10 := C.2.1.2.1
  have ed : z_i h 16 s = A (147 + 94 * s + 3) := (C.2.2.2.2.2.1.2.2 s hs).2.2.2.1
  have hq : qOK A (nI (nwN A)) := qOK_now C.2.1 C.2.2.1 (Nat.le_refl _) (by omega)
  unfold f_X7_balance
  simp (disch := first | assumption | omega) only [gd, lt, jn, bd2, Option.bind_some, LY_si, LY_sl, LY_row, decide_true, decide_false, if_true, ite_true, ite_false, decide_eq_true_eq, yg0, yg1, yg2, yg4, yg13, yg21, yg29, yg35, yg36, yg45, yg50, yg59, yI0, yI1, yI2, yI4, yI13, yI21, yI29, yI35, yI36, yI45, yI50, yI59, yP0, yP1, yP2, yP4, yP13, yP21, yP29, yP35, yP36, yP45, yP50, yP59, yR0_0, yR0_1, yR0_2, yR0_3, yR0_4, yR1_0, yR1_1, yR1_2, yR1_3, yR1_4, yR1_5, yR2_0, yR4_4, yR4_5, yR4_6, yR4_7, yR4_8, yR4_9, yR4_10, yR4_11, yR13_1, yR13_2, yR13_3, yR13_4, yR13_5, yR13_6, yR13_7, yR21_1, yR21_2, yR21_3, yR21_4, yR21_5, yR21_6, yR21_7, yR29_0, yR29_1, yR29_2, yR35_0, yR35_1, yR35_2, yR35_3, yR35_4, yR36_4, yR36_5, yR36_6, yR36_7, yR36_8, yR36_9, yR36_10, yR36_11, yR45_0, yR50_0, yR50_1, yR50_2, yR50_3, yR50_4, yR50_5, yR50_6, yR50_7, yR59_1, yA3, yA5, yA6, yA7, yA8, yA9, yA10, yA11, yA12, yA14, yA15, yA16, yA17, yA18, yA19, yA20, yA22, yA23, yA24, yA25, yA26, yA27, yA28, yA30, yA31, yA32, yA33, yA37, yA38, yA39, yA40, yA41, yA42, yA43, yA44, yA46, yA47, yA48, yA49, yA51, yA52, yA53, yA54, yA55, yA56, yA57, yA58, yA60, yS3, yS5, yS6, yS7, yS8, yS9, yS10, yS11, yS12, yS14, yS15, yS16, yS17, yS18, yS19, yS20, yS22, yS23, yS24, yS25, yS26, yS27, yS28, yS30, yS31, yS32, yS33, yS37, yS38, yS39, yS40, yS41, yS42, yS43, yS44, yS46, yS47, yS48, yS49, yS51, yS52, yS53, yS54, yS55, yS56, yS57, yS58, yS60, en, c_earned C hq, ed]
  rw [C.2.1.2.2.2.2]
theorem e_balanceOf {h : Z_H} (H : LY h) (hM : MSale (z_i h 62)) {s : Nat} (hs : s < 10) : f_X10_balanceOf h 61 (nI s) = some (eS (z_i h 62) (nI s) (z_i h 62 144) (-1) - z_i h 62 (147 + 94 * s + 3)) := by
  unfold f_X10_balanceOf
  simp (disch := first | assumption | omega) only [gd, lt, jn, bd2, Option.bind_some, LY_si, LY_sl, LY_row, decide_true, decide_false, if_true, ite_true, ite_false, decide_eq_true_eq, yg61, yI61, yP61, yR61_1, yR61_2, yR61_12, yR61_13, yR61_17, yR61_18, yR61_21, yR61_22, yR61_23, yR61_25, yA62, yA63, yA64, yA65, yA66, yA67, yA68, yA69, yA70, yA71, yS62, yS63, yS64, yS65, yS66, yS67, yS68, yS69, yS70, yS71, e_now H, e_earnedAt H hM, e_os3 H]
theorem sub_neg {e d : Nat} (h : e < d) (hd : d < 2 ^ 30) : nI e - nI d < 0 := by
  rw [Int32.lt_iff_toInt_lt, Int32.toInt_sub, nI_toInt (by omega), nI_toInt (by omega), tz]
  rw [Int.bmod_def]
  omega
theorem op_draw {h : Z_H} (I : Inv h) {x y : Int32} : ∃ r h1 h2, f_X9_draw h 0 x y = some (r, h1) ∧ f_X10_draw h1 61 x y = some (r, h2) ∧ Inv h2 := by
  have H := I.1
  have H1 := I.m.1
  have C := I.ca
  have hv := I.v
  obtain ⟨en, h99⟩ := C.now
  have h10 := hv.1.2.1
  have e144 : z_i h 62 144 = nI (nwN (z_i h 62)) := hv.1.2.2.2.2
  have hn1 := I.m.v.1
  have hm1 := I.m.ms
  have hvv : VV (z_i h 62) := hv.2.2.2.1.2.2.1
  rcases nI_or (x := x) (n := nn (z_i h 62)) (by omega) with ⟨s, hs, rfl⟩ | ⟨hns, hx⟩
  · have eb1 := e_balanceOf (s := s) H1 hm1 (by omega)
    rw [m62] at eb1
    by_cases h1 : y < 1
    · refine ⟨-1, h, z_si h 61 0 0, ?_, ?_, I.m⟩
      · unfold f_X9_draw
        simp (disch := first | assumption | omega) only [gd, lt, jn, bd2, Option.bind_some, LY_si, LY_sl, LY_row, decide_true, decide_false, if_true, ite_true, ite_false, decide_eq_true_eq, yg0, yg1, yg2, yg4, yg13, yg21, yg29, yg35, yg36, yg45, yg50, yg59, yI0, yI1, yI2, yI4, yI13, yI21, yI29, yI35, yI36, yI45, yI50, yI59, yP0, yP1, yP2, yP4, yP13, yP21, yP29, yP35, yP36, yP45, yP50, yP59, yR0_0, yR0_1, yR0_2, yR0_3, yR0_4, yR1_0, yR1_1, yR1_2, yR1_3, yR1_4, yR1_5, yR2_0, yR4_4, yR4_5, yR4_6, yR4_7, yR4_8, yR4_9, yR4_10, yR4_11, yR13_1, yR13_2, yR13_3, yR13_4, yR13_5, yR13_6, yR13_7, yR21_1, yR21_2, yR21_3, yR21_4, yR21_5, yR21_6, yR21_7, yR29_0, yR29_1, yR29_2, yR35_0, yR35_1, yR35_2, yR35_3, yR35_4, yR36_4, yR36_5, yR36_6, yR36_7, yR36_8, yR36_9, yR36_10, yR36_11, yR45_0, yR50_0, yR50_1, yR50_2, yR50_3, yR50_4, yR50_5, yR50_6, yR50_7, yR59_1, yA3, yA5, yA6, yA7, yA8, yA9, yA10, yA11, yA12, yA14, yA15, yA16, yA17, yA18, yA19, yA20, yA22, yA23, yA24, yA25, yA26, yA27, yA28, yA30, yA31, yA32, yA33, yA37, yA38, yA39, yA40, yA41, yA42, yA43, yA44, yA46, yA47, yA48, yA49, yA51, yA52, yA53, yA54, yA55, yA56, yA57, yA58, yA60, yS3, yS5, yS6, yS7, yS8, yS9, yS10, yS11, yS12, yS14, yS15, yS16, yS17, yS18, yS19, yS20, yS22, yS23, yS24, yS25, yS26, yS27, yS28, yS30, yS31, yS32, yS33, yS37, yS38, yS39, yS40, yS41, yS42, yS43, yS44, yS46, yS47, yS48, yS49, yS51, yS52, yS53, yS54, yS55, yS56, yS57, yS58, yS60, c_has_t C hs]
        rw [if_neg (by decide), if_pos h1]
      · unfold f_X10_draw
        simp (disch := first | assumption | omega) only [gd, lt, jn, bd2, Option.bind_some, LY_si, LY_sl, LY_row, decide_true, decide_false, if_true, ite_true, ite_false, decide_eq_true_eq, yg61, yI61, yP61, yR61_1, yR61_2, yR61_12, yR61_13, yR61_17, yR61_18, yR61_21, yR61_22, yR61_23, yR61_25, yA62, yA63, yA64, yA65, yA66, yA67, yA68, yA69, yA70, yA71, yS62, yS63, yS64, yS65, yS66, yS67, yS68, yS69, yS70, yS71, e_isS_t H1 hn1 hs]
        rw [if_neg (by decide), if_pos h1]
    · by_cases h2 : y ≤ eS (z_i h 62) (nI s) (z_i h 62 144) (-1) - z_i h 62 (147 + 94 * s + 3)
      · obtain ⟨j, hj, rfl⟩ := nI_of (x := y) (fun q => h1 (Int32.lt_of_lt_of_le q (by decide)))
        have hj1 : 1 ≤ j := by
          rcases Nat.eq_zero_or_pos j with q | q
          · subst q; exact absurd (by decide) h1
          · exact q
        obtain ⟨ev, hev, eev⟩ := eS_nat hv.2.2.1 hv.2.2.2.2.2.2.2.1 hvv (nI s) (z_i h 62 144) (-1)
        obtain ⟨d, hd, ed⟩ := (hv.2.1 s hs).2.2.2
        rw [eev, ed] at h2
        have hde : d ≤ ev := by
          rcases Nat.lt_or_ge ev d with q | q
          · have := Int32.lt_of_le_of_lt h2 (sub_neg q (by omega))
            exact absurd this (nI_pos hj)
          · exact q
        rw [nI_sub hde] at h2
        have hjle : j ≤ ev - d := (nI_leI hj (by omega)).mp h2
        let A1 := upd (z_i h 62) (147 + 94 * s + 3) (nI (d + j))
        have hA1 : A1 = upd (z_i h 62) (147 + 94 * s + 3) (nI (d + j)) := rfl
        have hvc := hv.2.1 s hs
        have nn1 : nn A1 = nn (z_i h 62) := by unfold nn; rw [hA1, upd_o (by omega)]
        have R1 : RS (cl (z_si h 16 s (nI (d + j)))) A1 (z_i h 63) := by
          refine RS_ent I.2.1 (s := s) (w := 3) (Or.inr rfl) (fun j hj => upd_o hj) (fun o h1 h2 h3 => cl_si (by omega)) (by omega) ?_ (fun t ht => ?_) (fun t ht => ?_)
          · unfold VC
            have ej : jo A1 s = jo (z_i h 62) s := by unfold jo; rw [hA1, upd_o (by omega)]
            have ew : nwN A1 = nwN (z_i h 62) := by unfold nwN; rw [hA1, upd_o (by omega)]
            have u0 : A1 (147 + 94 * s + 0) = z_i h 62 (147 + 94 * s + 0) := upd_o (by omega)
            have u1 : A1 (147 + 94 * s + 1) = z_i h 62 (147 + 94 * s + 1) := upd_o (by omega)
            rw [ej, ew, u0, u1, show A1 (147 + 94 * s + 3) = nI (d + j) from upd_s]
            exact ⟨hvc.1, hvc.2.1, hvc.2.2.1, d + j, by omega, rfl⟩
          · show z_i (z_si h 16 s (nI (d + j))) 15 t = _
            rw [z_si_o (by omega), hA1, upd_o (by omega)]
            exact (C.2.2.2.2.2.1.2.2 t ht).2.1
          · show z_i (z_si h 16 s (nI (d + j))) 16 t = _
            rw [z_si_i]
            unfold upd
            by_cases e : t = s
            · rw [if_pos e, hA1, e, upd_s]
            · rw [if_neg e, hA1, upd_o (by omega)]
              exact (C.2.2.2.2.2.1.2.2 t ht).2.2.2.1
        have G1 : LY (z_si h 16 s (nI (d + j))) := H
        obtain ⟨g, x1, x2, x3, x4, x5, x6⟩ := c_line (w := 2) (m := nI (nwN (z_i h 62))) (mu := nI j) (sa := -1) G1 R1 (s := s) (by omega)
        have Gg : LY g := LY_x x2 x4 G1
        have ena : z_i (z_si h 16 s (nI (d + j))) 1 8 = nI (nwN (z_i h 62)) := en
        have ed16 : z_i h 16 s = nI d := ((C.2.2.2.2.2.1.2.2 s hs).2.2.2.1).trans ed
        have A2n : nn (jA A1 s 2 (nI (nwN (z_i h 62))) (nI j) (-1)) = nn (z_i h 62) := by
          rw [← nn1]
          unfold nn jA
          rw [if_neg (by omega), if_neg (by omega), if_neg (by omega), if_neg (by omega), if_neg (by omega), if_neg (by omega)]
        have Cg : CA g (jA A1 s 2 (nI (nwN (z_i h 62))) (nI j) (-1)) := RS.ca Gg x6
        have e62g : z_i g 62 = z_i h 62 := by rw [x5 62 (by omega) (by omega) (by omega), z_si_o (by omega)]
        have Gm : LY (z_si g 61 0 0) := Gg
        have em62 : z_i (z_si g 61 0 0) 62 = z_i h 62 := by rw [z_si_o (by omega), e62g]
        have hvm : VN (z_i (z_si g 61 0 0) 62) := by rw [em62]; exact hv.1
        have G2 : LY (z_si (z_si g 61 0 0) 62 (147 + 94 * s + 3) (nI (d + j))) := Gg
        have e2 : z_i (z_si (z_si g 61 0 0) 62 (147 + 94 * s + 3) (nI (d + j))) 62 = A1 := by rw [z_si_i, em62]
        obtain ⟨k, y1, y2, y3⟩ := e_writes (h := z_si (z_si g 61 0 0) 62 (147 + 94 * s + 3) (nI (d + j))) (w := 2) (mu := nI j) (sa := -1) G2 (by omega : s < 10)
        rw [e2] at y3
        have a144 : A1 144 = nI (nwN (z_i h 62)) := by rw [hA1, upd_o (by omega)]; exact e144
        rw [a144] at y3
        have Gk : LY k := y2.ly G2
        have msk : MSale (z_i k 62) := by rw [y3]; exact VS.m x6.1.1 x6.1.2.2.1
        have ebk := e_balanceOf (s := s) Gk msk (by omega)
        rw [y3] at ebk
        refine ⟨eS (jA A1 s 2 (nI (nwN (z_i h 62))) (nI j) (-1)) (nI s) (jA A1 s 2 (nI (nwN (z_i h 62))) (nI j) (-1) 144) (-1) - jA A1 s 2 (nI (nwN (z_i h 62))) (nI j) (-1) (147 + 94 * s + 3), g, k, ?_, ?_, ?_⟩
        · have hnote : f_X7_note (z_si h 16 s (nI (d + j))) 1 (nI s) 2 (nI j) (-1) = some g := by
            unfold f_X7_note
            simp (disch := first | assumption | omega) only [gd, lt, jn, bd2, Option.bind_some, LY_si, LY_sl, LY_row, decide_true, decide_false, if_true, ite_true, ite_false, decide_eq_true_eq, yg0, yg1, yg2, yg4, yg13, yg21, yg29, yg35, yg36, yg45, yg50, yg59, yI0, yI1, yI2, yI4, yI13, yI21, yI29, yI35, yI36, yI45, yI50, yI59, yP0, yP1, yP2, yP4, yP13, yP21, yP29, yP35, yP36, yP45, yP50, yP59, yR0_0, yR0_1, yR0_2, yR0_3, yR0_4, yR1_0, yR1_1, yR1_2, yR1_3, yR1_4, yR1_5, yR2_0, yR4_4, yR4_5, yR4_6, yR4_7, yR4_8, yR4_9, yR4_10, yR4_11, yR13_1, yR13_2, yR13_3, yR13_4, yR13_5, yR13_6, yR13_7, yR21_1, yR21_2, yR21_3, yR21_4, yR21_5, yR21_6, yR21_7, yR29_0, yR29_1, yR29_2, yR35_0, yR35_1, yR35_2, yR35_3, yR35_4, yR36_4, yR36_5, yR36_6, yR36_7, yR36_8, yR36_9, yR36_10, yR36_11, yR45_0, yR50_0, yR50_1, yR50_2, yR50_3, yR50_4, yR50_5, yR50_6, yR50_7, yR59_1, yA3, yA5, yA6, yA7, yA8, yA9, yA10, yA11, yA12, yA14, yA15, yA16, yA17, yA18, yA19, yA20, yA22, yA23, yA24, yA25, yA26, yA27, yA28, yA30, yA31, yA32, yA33, yA37, yA38, yA39, yA40, yA41, yA42, yA43, yA44, yA46, yA47, yA48, yA49, yA51, yA52, yA53, yA54, yA55, yA56, yA57, yA58, yA60, yS3, yS5, yS6, yS7, yS8, yS9, yS10, yS11, yS12, yS14, yS15, yS16, yS17, yS18, yS19, yS20, yS22, yS23, yS24, yS25, yS26, yS27, yS28, yS30, yS31, yS32, yS33, yS37, yS38, yS39, yS40, yS41, yS42, yS43, yS44, yS46, yS47, yS48, yS49, yS51, yS52, yS53, yS54, yS55, yS56, yS57, yS58, yS60, ena, x1]
            rw [if_neg (nI_nle (by omega) hj)]
          unfold f_X9_draw
          simp (disch := first | assumption | omega) only [gd, lt, jn, bd2, Option.bind_some, LY_si, LY_sl, LY_row, decide_true, decide_false, if_true, ite_true, ite_false, decide_eq_true_eq, yg0, yg1, yg2, yg4, yg13, yg21, yg29, yg35, yg36, yg45, yg50, yg59, yI0, yI1, yI2, yI4, yI13, yI21, yI29, yI35, yI36, yI45, yI50, yI59, yP0, yP1, yP2, yP4, yP13, yP21, yP29, yP35, yP36, yP45, yP50, yP59, yR0_0, yR0_1, yR0_2, yR0_3, yR0_4, yR1_0, yR1_1, yR1_2, yR1_3, yR1_4, yR1_5, yR2_0, yR4_4, yR4_5, yR4_6, yR4_7, yR4_8, yR4_9, yR4_10, yR4_11, yR13_1, yR13_2, yR13_3, yR13_4, yR13_5, yR13_6, yR13_7, yR21_1, yR21_2, yR21_3, yR21_4, yR21_5, yR21_6, yR21_7, yR29_0, yR29_1, yR29_2, yR35_0, yR35_1, yR35_2, yR35_3, yR35_4, yR36_4, yR36_5, yR36_6, yR36_7, yR36_8, yR36_9, yR36_10, yR36_11, yR45_0, yR50_0, yR50_1, yR50_2, yR50_3, yR50_4, yR50_5, yR50_6, yR50_7, yR59_1, yA3, yA5, yA6, yA7, yA8, yA9, yA10, yA11, yA12, yA14, yA15, yA16, yA17, yA18, yA19, yA20, yA22, yA23, yA24, yA25, yA26, yA27, yA28, yA30, yA31, yA32, yA33, yA37, yA38, yA39, yA40, yA41, yA42, yA43, yA44, yA46, yA47, yA48, yA49, yA51, yA52, yA53, yA54, yA55, yA56, yA57, yA58, yA60, yS3, yS5, yS6, yS7, yS8, yS9, yS10, yS11, yS12, yS14, yS15, yS16, yS17, yS18, yS19, yS20, yS22, yS23, yS24, yS25, yS26, yS27, yS28, yS30, yS31, yS32, yS33, yS37, yS38, yS39, yS40, yS41, yS42, yS43, yS44, yS46, yS47, yS48, yS49, yS51, yS52, yS53, yS54, yS55, yS56, yS57, yS58, yS60, c_has_t C hs, c_balance C hs, ed16, nI_add, hnote, c_balance Cg (s := s) (by rw [A2n]; exact hs)]
          rw [if_neg (by decide), if_neg h1, eev, ed, nI_sub hde, if_pos h2]
        · have ebm := e_balanceOf (s := s) Gm (by rw [em62, ← m62 (h := h)]; exact hm1) (by omega)
          rw [em62] at ebm
          have eos := e_os3 (s := s) Gm (by omega)
          rw [em62, ed] at eos
          have est : f_X10_setSeller (z_si g 61 0 0) 61 (nI s) 3 (nI (d + j)) = some (z_si (z_si g 61 0 0) 62 (147 + 94 * s + 3) (nI (d + j))) := e_setSeller (w := 3) Gm (by omega)
          unfold f_X10_draw
          simp (disch := first | assumption | omega) only [gd, lt, jn, bd2, Option.bind_some, LY_si, LY_sl, LY_row, decide_true, decide_false, if_true, ite_true, ite_false, decide_eq_true_eq, yg61, yI61, yP61, yR61_1, yR61_2, yR61_12, yR61_13, yR61_17, yR61_18, yR61_21, yR61_22, yR61_23, yR61_25, yA62, yA63, yA64, yA65, yA66, yA67, yA68, yA69, yA70, yA71, yS62, yS63, yS64, yS65, yS66, yS67, yS68, yS69, yS70, yS71, e_isS_t Gm hvm (by rw [em62]; exact hs), ebm, eos, nI_add, est, y1, ebk]
          rw [if_neg (by decide), if_neg h1, eev, ed, nI_sub hde, if_pos h2]
        · have kz : ∀ a, a ≠ 61 → a ≠ 62 → z_i k a = z_i g a := fun a h1 h2 => by rw [y2.2.2.2 a h2 h2, z_si_o h2, z_si_o h1]
          refine I.of ⟨?_, ?_, ?_, fun a ha => ?_, fun j hj => ?_, fun j hj => ?_, ?_⟩ ?_ ?_
          · rw [y2.1]; exact x2
          · rw [y2.2.1]; exact x3
          · rw [y2.2.2.1]; exact x4
          · rw [kz a (by omega) (by omega), x5 a (by omega) (by omega) (by omega), z_si_o (by omega)]
          · rw [y3]
            unfold jA
            rw [if_neg (by omega), if_neg (by omega), if_neg (by omega), if_neg (by omega), if_neg (by omega), if_neg (by omega), hA1, upd_o (by omega)]
          · rw [kz 63 (by omega) (by omega), x5 63 (by omega) (by omega) (by omega), z_si_o (by omega)]
          · rw [kz 71 (by omega) (by omega), x5 71 (by omega) (by omega) (by omega), z_si_o (by omega)]
          · rw [y3, kz 63 (by omega) (by omega), x5 63 (by omega) (by omega) (by omega), z_si_o (by omega)]
            exact ⟨x6.1, RC_congr (fun o _ ho => kz (1 + o) (by omega) (by omega)) x6.2⟩
          · rw [y2.2.2.2 61 (by omega) (by omega), z_si_o (by omega), zi_si, if_pos rfl, if_neg (by omega), x5 61 (by omega) (by omega) (by omega), z_si_o (by omega)]
            exact I.2.2.1
      · refine ⟨-1, h, z_si h 61 0 0, ?_, ?_, I.m⟩
        · unfold f_X9_draw
          simp (disch := first | assumption | omega) only [gd, lt, jn, bd2, Option.bind_some, LY_si, LY_sl, LY_row, decide_true, decide_false, if_true, ite_true, ite_false, decide_eq_true_eq, yg0, yg1, yg2, yg4, yg13, yg21, yg29, yg35, yg36, yg45, yg50, yg59, yI0, yI1, yI2, yI4, yI13, yI21, yI29, yI35, yI36, yI45, yI50, yI59, yP0, yP1, yP2, yP4, yP13, yP21, yP29, yP35, yP36, yP45, yP50, yP59, yR0_0, yR0_1, yR0_2, yR0_3, yR0_4, yR1_0, yR1_1, yR1_2, yR1_3, yR1_4, yR1_5, yR2_0, yR4_4, yR4_5, yR4_6, yR4_7, yR4_8, yR4_9, yR4_10, yR4_11, yR13_1, yR13_2, yR13_3, yR13_4, yR13_5, yR13_6, yR13_7, yR21_1, yR21_2, yR21_3, yR21_4, yR21_5, yR21_6, yR21_7, yR29_0, yR29_1, yR29_2, yR35_0, yR35_1, yR35_2, yR35_3, yR35_4, yR36_4, yR36_5, yR36_6, yR36_7, yR36_8, yR36_9, yR36_10, yR36_11, yR45_0, yR50_0, yR50_1, yR50_2, yR50_3, yR50_4, yR50_5, yR50_6, yR50_7, yR59_1, yA3, yA5, yA6, yA7, yA8, yA9, yA10, yA11, yA12, yA14, yA15, yA16, yA17, yA18, yA19, yA20, yA22, yA23, yA24, yA25, yA26, yA27, yA28, yA30, yA31, yA32, yA33, yA37, yA38, yA39, yA40, yA41, yA42, yA43, yA44, yA46, yA47, yA48, yA49, yA51, yA52, yA53, yA54, yA55, yA56, yA57, yA58, yA60, yS3, yS5, yS6, yS7, yS8, yS9, yS10, yS11, yS12, yS14, yS15, yS16, yS17, yS18, yS19, yS20, yS22, yS23, yS24, yS25, yS26, yS27, yS28, yS30, yS31, yS32, yS33, yS37, yS38, yS39, yS40, yS41, yS42, yS43, yS44, yS46, yS47, yS48, yS49, yS51, yS52, yS53, yS54, yS55, yS56, yS57, yS58, yS60, c_has_t C hs, c_balance C hs]
          rw [if_neg (by decide), if_neg h1, if_neg h2]
        · unfold f_X10_draw
          simp (disch := first | assumption | omega) only [gd, lt, jn, bd2, Option.bind_some, LY_si, LY_sl, LY_row, decide_true, decide_false, if_true, ite_true, ite_false, decide_eq_true_eq, yg61, yI61, yP61, yR61_1, yR61_2, yR61_12, yR61_13, yR61_17, yR61_18, yR61_21, yR61_22, yR61_23, yR61_25, yA62, yA63, yA64, yA65, yA66, yA67, yA68, yA69, yA70, yA71, yS62, yS63, yS64, yS65, yS66, yS67, yS68, yS69, yS70, yS71, e_isS_t H1 hn1 hs, eb1]
          rw [if_neg (by decide), if_neg h1, if_neg h2]
  · refine ⟨-1, h, z_si h 61 0 0, ?_, ?_, I.m⟩
    · unfold f_X9_draw
      simp (disch := first | assumption | omega) only [gd, lt, jn, bd2, Option.bind_some, LY_si, LY_sl, LY_row, decide_true, decide_false, if_true, ite_true, ite_false, decide_eq_true_eq, yg0, yg1, yg2, yg4, yg13, yg21, yg29, yg35, yg36, yg45, yg50, yg59, yI0, yI1, yI2, yI4, yI13, yI21, yI29, yI35, yI36, yI45, yI50, yI59, yP0, yP1, yP2, yP4, yP13, yP21, yP29, yP35, yP36, yP45, yP50, yP59, yR0_0, yR0_1, yR0_2, yR0_3, yR0_4, yR1_0, yR1_1, yR1_2, yR1_3, yR1_4, yR1_5, yR2_0, yR4_4, yR4_5, yR4_6, yR4_7, yR4_8, yR4_9, yR4_10, yR4_11, yR13_1, yR13_2, yR13_3, yR13_4, yR13_5, yR13_6, yR13_7, yR21_1, yR21_2, yR21_3, yR21_4, yR21_5, yR21_6, yR21_7, yR29_0, yR29_1, yR29_2, yR35_0, yR35_1, yR35_2, yR35_3, yR35_4, yR36_4, yR36_5, yR36_6, yR36_7, yR36_8, yR36_9, yR36_10, yR36_11, yR45_0, yR50_0, yR50_1, yR50_2, yR50_3, yR50_4, yR50_5, yR50_6, yR50_7, yR59_1, yA3, yA5, yA6, yA7, yA8, yA9, yA10, yA11, yA12, yA14, yA15, yA16, yA17, yA18, yA19, yA20, yA22, yA23, yA24, yA25, yA26, yA27, yA28, yA30, yA31, yA32, yA33, yA37, yA38, yA39, yA40, yA41, yA42, yA43, yA44, yA46, yA47, yA48, yA49, yA51, yA52, yA53, yA54, yA55, yA56, yA57, yA58, yA60, yS3, yS5, yS6, yS7, yS8, yS9, yS10, yS11, yS12, yS14, yS15, yS16, yS17, yS18, yS19, yS20, yS22, yS23, yS24, yS25, yS26, yS27, yS28, yS30, yS31, yS32, yS33, yS37, yS38, yS39, yS40, yS41, yS42, yS43, yS44, yS46, yS47, yS48, yS49, yS51, yS52, yS53, yS54, yS55, yS56, yS57, yS58, yS60, c_has_f C hx]
    · unfold f_X10_draw
      simp (disch := first | assumption | omega) only [gd, lt, jn, bd2, Option.bind_some, LY_si, LY_sl, LY_row, decide_true, decide_false, if_true, ite_true, ite_false, decide_eq_true_eq, yg61, yI61, yP61, yR61_1, yR61_2, yR61_12, yR61_13, yR61_17, yR61_18, yR61_21, yR61_22, yR61_23, yR61_25, yA62, yA63, yA64, yA65, yA66, yA67, yA68, yA69, yA70, yA71, yS62, yS63, yS64, yS65, yS66, yS67, yS68, yS69, yS70, yS71, e_isS_f H1 hn1 (by rw [m62]; exact hx)]
