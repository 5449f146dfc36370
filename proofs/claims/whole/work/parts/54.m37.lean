theorem e_sell {g : Z_H} {A : Nat → Int32} {c : Nat → Nat → Int32} {s v mo : Nat} (G : LY g) (eA : z_i g 62 = A) (h14 : z_i g 61 14 = -1) (hV : VN A) (hC : VC A s) (hS : VS A) (L : LK c (slA A s v mo)) (hK : nk A < 40) (hs : s < nn A) (hq : A (147 + 94 * s + 1) = -1) (hv : 1 ≤ v ∧ v ≤ 9999) (hj : jo A s ≤ mo) (hmo : mo ≤ nwN A) (hmo2 : nwN A ≤ mo + 2) : ∃ h2, f_X10_sell g 61 (nI s) (nI v) (nI mo) = some (nI (nk A), h2) ∧ z_n h2 = z_n g ∧ z_t h2 = z_t g ∧ z_x h2 = z_x g ∧ (∀ a, a < 61 ∨ a = 63 ∨ 70 < a → z_i h2 a = z_i g a) ∧ z_i h2 61 14 = -1 ∧ z_i h2 62 = slC A s v mo (slP A s v mo).1 := by
  have h10 := hV.2.1
  have h99 := hV.2.2.2.1
  have e144 : A 144 = nI (nwN A) := hV.2.2.2.2
  obtain ⟨p, f1, f2, f3, f4⟩ := sl_facts L hV hs hv.2 (show mo ≤ 99 by omega)
  obtain ⟨n1, n2, n3⟩ := slB_ns f1
  have enn : nn (slA A s v mo) = nn A := slA_ns.lo.n.1
  have hw10 : ∀ l, l < (slP A s v mo).1 → slW A s v mo l < 10 := fun l hl => by have := (f2 l hl).1; omega
  let b := 1087 + 41 * nk A
  let k0 := z_si g 61 0 0
  have K0 : LY k0 := G
  have x0 : z_i k0 62 = A := (z_si_o (by omega)).trans eA
  let k1 := z_si k0 62 146 (nI (nk A + 1))
  let k2 := z_si k1 62 (b + 0) (nI s)
  let k3 := z_si k2 62 (b + 1) (nI v)
  let k4 := z_si k3 62 (b + 2) (nI mo)
  let k5 := z_si k4 62 (b + 3) (nI (nwN A))
  let k6 := z_si k5 62 (b + 4) (nI 0)
  have K1 : LY k1 := G
  have K2 : LY k2 := G
  have K3 : LY k3 := G
  have K4 : LY k4 := G
  have K5 : LY k5 := G
  have K6 : LY k6 := G
  have on6 : ON k0 k6 62 := (TW_si (Or.inl rfl)).tr ((TW_si (Or.inl rfl)).tr ((TW_si (Or.inl rfl)).tr ((TW_si (Or.inl rfl)).tr ((TW_si (Or.inl rfl)).tr (TW_si (Or.inl rfl))))))
  have x6 : z_i k6 62 = slA A s v mo := by
    show z_i (z_si (z_si (z_si (z_si (z_si (z_si k0 62 146 (nI (nk A + 1))) 62 (b + 0) (nI s)) 62 (b + 1) (nI v)) 62 (b + 2) (nI mo)) 62 (b + 3) (nI (nwN A))) 62 (b + 4) (nI 0)) 62 = _
    rw [z_si_i, z_si_i, z_si_i, z_si_i, z_si_i, z_si_i, x0]
    rfl
  have y14 : z_i k6 61 14 = -1 := by
    rw [on6.2.2.2 61 (by omega) (by omega)]
    show z_i (z_si g 61 0 0) 61 14 = -1
    rw [zi_si, if_pos rfl, if_neg (by omega)]
    exact h14
  obtain ⟨k7, k8, b1, b2, b3, b4, b5, b6, b7⟩ := e_scene2 K6 x6 L y14 (show mo ≤ 99 by omega)
  have K7 := b2.ly K6
  have K8 := b4.ly K7
  have x8 : z_i k8 62 = slA A s v mo := b4.a.trans (b2.a.trans x6)
  have hO : SOK (sc0 (slA A s v mo) mo) := L.ok (show mo ≤ 99 by omega)
  obtain ⟨k9, v1, v2, v3, v4, v5, v6, v7⟩ := e_pays (h := k8) (am := nI v) (s := s) K8 b7 hO (by rw [x8]; exact L.1) (by rw [x8]; exact L.2.2.1) (show s < nn (slA A s v mo) by omega) (by
    show decide (jo (slA A s v mo) s ≤ mo) = true
    rw [slA_ns.lo.j (by omega)]
    exact decide_eq_true hj) (by rw [x8]; exact fun k u _ e => hO.2.1.lt (show s < nn (slA A s v mo) by omega) e)
  rw [x8] at v5 v6 v7
  have v6 : z_i k9 61 24 = nI (slP A s v mo).1 := v6
  have v7 : ∀ i, i < 7 * (slP A s v mo).1 → z_i k9 70 i = (slP A s v mo).2.2 i := v7
  have K9 := v2.ly K8
  have x9 : z_i k9 62 = slA A s v mo := v2.a.trans x8
  have mw : MW k6 k9 := b2.tr (b4.tr v2)
  let k10 := z_si k9 62 (b + 5) (nI (slP A s v mo).1)
  have K10 : LY k10 := K9
  have x10 : z_i k10 62 = upd (slA A s v mo) (b + 5) (nI (slP A s v mo).1) := by
    show z_i (z_si k9 62 (b + 5) (nI (slP A s v mo).1)) 62 = _
    rw [z_si_i, x9]
  have m1 := lp_ex (b := f_X10_sell_l1 61 (nI b)) (fun k (q : Z_H) => (nI k, q)) (fun k q => ON k10 q 62 ∧ z_i q 62 = slK A s v mo k) some (7 * (slP A s v mo).1) ?_ ?_ (7 * (slP A s v mo).1) FU 0 k10 (by omega) (by unfold FU; omega) ⟨TW.rf, by
    rw [x10]
    funext j
    unfold slK
    rw [if_neg (by omega)]⟩
  · obtain ⟨k11, ⟨on11, x11⟩, m1⟩ := m1
    have m1' : lp (f_X10_sell_l1 61 (nI b)) FU (0, k10) = some k11 := m1
    have K11 := on11.ly K10
    have x11 : z_i k11 62 = slB A s v mo := x11
    have t24 : ∀ q, ON k11 q 62 → z_i q 61 24 = nI (slP A s v mo).1 := fun q hq => by
      rw [hq.2.2.2 61 (by omega) (by omega), on11.2.2.2 61 (by omega) (by omega)]
      exact v6
    have m2 := lp_ex (b := f_X10_sell_l2 61 (nI (nk A))) (fun k (q : Z_H) => (nI k, q)) (fun k q => ON k11 q 62 ∧ z_i q 62 = slC A s v mo k) some (slP A s v mo).1 ?_ ?_ (slP A s v mo).1 FU 0 k11 (by omega) (by unfold FU; omega) ⟨TW.rf, x11⟩
    · obtain ⟨k12, ⟨on12, x12⟩, m2⟩ := m2
      have m2' : lp (f_X10_sell_l2 61 (nI (nk A))) FU (0, k11) = some k12 := m2
      have oo : ∀ a, a ≠ 62 → z_i k12 a = z_i k9 a := fun a ha => by
        rw [on12.2.2.2 a ha ha, on11.2.2.2 a ha ha]
        exact z_si_o ha
      refine ⟨k12, ?_, ?_, ?_, ?_, fun a ha => ?_, ?_, x12⟩
      · have cs := e_canSell_t (h := k0) (s := s) (y := nI v) (z := nI mo) K0 (by rw [x0]; exact hV) (by rw [x0]; exact hs)
        have hcs : csS A s (nI v) = true := decide_eq_true ⟨hq, nI_le (a := 1) hv.1 (by omega), nI_le (b := 9999) hv.2 (by omega)⟩
        have hcm : cmS A s (nI mo) = true := by
          unfold cmS
          refine decide_eq_true ⟨?_, by rw [e144]; exact nI_le hmo (by omega)⟩
          unfold gre
          split
          · rw [e144]
            by_cases c2 : 2 ≤ nwN A
            · rw [n_2, nI_sub c2]
              exact nI_le (by omega) (by omega)
            · have : nI (nwN A) - 2 < 0 := by
                have : nwN A = 0 ∨ nwN A = 1 := by omega
                rcases this with e | e <;> rw [e] <;> decide
              exact Int32.le_of_lt (Int32.lt_of_lt_of_le this (nI_pos' (by omega)))
          · rw [hC.1]
            exact nI_le hj (by omega)
        rw [x0, hcs, hcm] at cs
        have cs : f_X10_canSell k0 61 (nI s) (nI v) (nI mo) = some 1 := cs
        have a146 : aI k0 62 146 = some (nI (nk A)) := by
          have := yA62 (k := 146) K0 (by omega)
          rw [x0, hS.2.1] at this
          exact this
        have bi : ∀ f, nI b + nI f = nI (b + f) := fun f => nI_add b f
        have ss : ∀ q : Z_H, LY q → ∀ f x, f < 7 → sI q 62 (nI b + nI f) x = some (z_si q 62 (b + f) x) := fun q Q f x hf => by
          rw [bi]
          exact yS62 Q (by show 1087 + 41 * nk A + f < 10908; omega)
        have eb : (1087 : Int32) + (41 : Int32) * nI (nk A) = nI b := by rw [n_1087, n_41, nI_mul, nI_add]
        have n4 : f_X10_now k4 61 = some (nI (nwN A)) := by
          rw [e_now K4]
          have : z_i k4 62 144 = A 144 := by
            show z_i (z_si (z_si (z_si (z_si k0 62 146 (nI (nk A + 1))) 62 (b + 0) (nI s)) 62 (b + 1) (nI v)) 62 (b + 2) (nI mo)) 62 144 = _
            rw [z_si_i, z_si_i, z_si_i, z_si_i, x0, upd_o (by show 144 ≠ 1087 + 41 * nk A + 2; omega), upd_o (by show 144 ≠ 1087 + 41 * nk A + 1; omega), upd_o (by show 144 ≠ 1087 + 41 * nk A + 0; omega), upd_o (by omega)]
          rw [this, e144]
        unfold f_X10_sell
        refine gdE (yg61 G) ?_
        refine bnd (yP61 G 0 0) ?_
        refine bnd cs ?_
        refine (if_neg (show ¬ (1 : Int32) = 0 by decide)).trans ?_
        refine bnd (yR61_1 K0) ?_
        refine bnd a146 ?_
        refine (if_neg (show ¬ nI (nk A) = (40 : Int32) from fun e => by
          have := (nI_eq (a := nk A) (b := 40) (by omega) (by omega)).mp e
          omega)).trans ?_
        refine bnd (yR61_1 K0) ?_
        refine bnd a146 ?_
        refine ltE ?_
        rw [eb]
        refine bnd (yR61_1 K0) ?_
        refine bnd a146 ?_
        rw [nI_1]
        refine bnd (a := k1) (yS62 (k := 146) K0 (by omega)) ?_
        refine bnd (yR61_1 K1) ?_
        refine bnd (a := k2) (ss k1 K1 0 _ (by omega)) ?_
        refine bnd (yR61_1 K2) ?_
        refine bnd (a := k3) (ss k2 K2 1 _ (by omega)) ?_
        refine bnd (yR61_1 K3) ?_
        refine bnd (a := k4) (ss k3 K3 2 _ (by omega)) ?_
        refine bnd (yR61_1 K4) ?_
        refine bnd n4 ?_
        refine bnd (a := k5) (ss k4 K4 3 _ (by omega)) ?_
        refine bnd (yR61_1 K5) ?_
        refine bnd (a := k6) (ss k5 K5 4 _ (by omega)) ?_
        refine bnd b1 ?_
        refine bnd b3 ?_
        refine bnd v1 ?_
        refine bnd (yR61_1 K9) ?_
        refine bnd ((yI61 K9 24).trans (congrArg some v6)) ?_
        refine bnd (a := k10) (ss k9 K9 5 _ (by omega)) ?_
        refine bnd m1' ?_
        refine bnd m2' ?_
        rfl
      · exact on12.1.trans (on11.1.trans (mw.1.trans on6.1))
      · exact on12.2.1.trans (on11.2.1.trans (mw.2.1.trans on6.2.1))
      · exact on12.2.2.1.trans (on11.2.2.1.trans (mw.2.2.1.trans on6.2.2.1))
      · rw [oo a (by omega), mw.2.2.2.1 a (by omega), on6.2.2.2 a (by omega) (by omega)]
        exact z_si_o (by omega)
      · rw [oo 61 (by omega), mw.2.2.2.2 14 (by omega)]
        exact y14
    · rintro k q hk ⟨e1, e2⟩
      have Q := e1.ly K11
      obtain ⟨a1, a2, a3⟩ := f2 k hk
      have w10 := hw10 k hk
      have hi : ∀ j, 1087 ≤ j → z_i q 62 j = slB A s v mo j := fun j hj => by
        rw [e2]
        exact jL_hi hj k (fun l hl => hw10 l (by omega))
      have o2 := e_ol2 (s := nk A) (l := k) Q (by omega) (by omega)
      have o0 := e_ol0 (s := nk A) (l := k) Q (by omega) (by omega)
      rw [hi _ (by omega), show 6 + 7 * k + 2 = 6 + (7 * k + 2) by omega, n3 (7 * k + 2) (by omega)] at o2
      rw [hi _ (by omega), show 6 + 7 * k + 0 = 6 + (7 * k + 0) by omega, n3 (7 * k + 0) (by omega), a2] at o0
      have o2 : f_X10_ofLevel q 61 (nI (nk A)) (nI k) 2 = some (slT A s v mo k) := o2
      by_cases ht : slT A s v mo k ≤ 0
      · refine ⟨q, ⟨e1, ?_⟩, fun rec => ?_⟩
        · rw [e2]
          unfold slC
          conv => rhs; unfold jL
          rw [if_pos ht]
        · unfold f_X10_sell_l2
          refine bnd ((yI61 Q 24).trans (congrArg some (t24 q e1))) ?_
          refine (if_neg (nI_ge hk (by omega))).trans ?_
          refine bnd o2 ?_
          refine jnE ?_
          refine (if_pos ht).trans ?_
          rw [nI_1]
      · obtain ⟨q', y1, y2, y3⟩ := e_writes (h := q) (s := slW A s v mo k) (w := 0) (mu := slT A s v mo k) (sa := nI (nk A)) Q w10
        refine ⟨q', ⟨e1.tr y2, ?_⟩, fun rec => ?_⟩
        · have e144' : slC A s v mo k 144 = nI (nwN A) := by
            rw [slC_lo (by omega), n1.1 144 (by omega) (by omega), e144]
          rw [y3, e2, e144']
          unfold slC
          conv => rhs; unfold jL
          rw [if_neg ht]
        · unfold f_X10_sell_l2
          refine bnd ((yI61 Q 24).trans (congrArg some (t24 q e1))) ?_
          refine (if_neg (nI_ge hk (by omega))).trans ?_
          refine bnd o2 ?_
          refine jnE ?_
          refine (if_neg ht).trans ?_
          refine bnd o0 ?_
          refine bnd o2 ?_
          refine bnd y1 ?_
          rw [nI_1]
    · rintro rec q ⟨e1, e2⟩
      have Q := e1.ly K11
      unfold f_X10_sell_l2
      refine bnd ((yI61 Q 24).trans (congrArg some (t24 q e1))) ?_
      exact if_pos (nI_le (Nat.le_refl _) (by omega))
  · rintro k q hk ⟨e1, e2⟩
    have Q := e1.ly K10
    have q24 : z_i q 61 24 = nI (slP A s v mo).1 := by
      rw [e1.2.2.2 61 (by omega) (by omega)]
      exact v6
    have q70 : z_i q 70 k = (slP A s v mo).2.2 k := by
      rw [e1.2.2.2 70 (by omega) (by omega)]
      exact v7 k hk
    refine ⟨z_si q 62 (b + 6 + k) ((slP A s v mo).2.2 k), ⟨e1.tr (TW_si (Or.inl rfl)), ?_⟩, fun rec => ?_⟩
    · rw [z_si_i, e2]
      funext j
      unfold slK
      show upd _ (1087 + 41 * nk A + 6 + k) _ j = _
      by_cases e : j = 1087 + 41 * nk A + 6 + k
      · rw [e, upd_s, if_pos (by omega), show 1087 + 41 * nk A + 6 + k - (1087 + 41 * nk A + 6) = k by omega]
      · rw [upd_o e]
        by_cases c2 : 1087 + 41 * nk A + 6 ≤ j ∧ j < 1087 + 41 * nk A + 6 + k
        · rw [if_pos c2, if_pos (by omega)]
        · rw [if_neg c2, if_neg (by omega)]
    · have i7 : (7 : Int32) * nI (slP A s v mo).1 = nI (7 * (slP A s v mo).1) := by rw [n_7, nI_mul]
      have ib : nI b + 6 + nI k = nI (b + 6 + k) := by rw [n_6, nI_add, nI_add]
      unfold f_X10_sell_l1
      refine bnd ((yI61 Q 24).trans (congrArg some q24)) ?_
      refine (if_neg (by rw [i7]; exact nI_ge hk (by omega))).trans ?_
      refine bnd (yR61_1 Q) ?_
      refine bnd (yR61_23 Q) ?_
      refine bnd ((yA70 Q (show k < 35 by omega)).trans (congrArg some q70)) ?_
      rw [ib]
      refine bnd (yS62 Q (by show 1087 + 41 * nk A + 6 + k < 10908; omega)) ?_
      rw [nI_1]
  · rintro rec q ⟨e1, e2⟩
    have Q := e1.ly K10
    have q24 : z_i q 61 24 = nI (slP A s v mo).1 := by
      rw [e1.2.2.2 61 (by omega) (by omega)]
      exact v6
    have i7 : (7 : Int32) * nI (slP A s v mo).1 = nI (7 * (slP A s v mo).1) := by rw [n_7, nI_mul]
    unfold f_X10_sell_l1
    refine bnd ((yI61 Q 24).trans (congrArg some q24)) ?_
    exact if_pos (by rw [i7]; exact Int32.le_refl _)
theorem gre_le {a b z : Int32} : gre a b ≤ z ↔ a ≤ z ∧ b ≤ z := by
  unfold gre
  split
  · rename_i h
    exact ⟨fun q => ⟨Int32.le_trans h q, q⟩, fun q => q.2⟩
  · rename_i h
    exact ⟨fun q => ⟨q, Int32.le_trans (Int32.le_of_lt (Int32.not_le.mp h)) q⟩, fun q => q.1⟩
theorem op_sell {h : Z_H} (I : Inv h) {x y z : Int32} : ∃ r h1 h2, f_X9_sell h 0 x y z = some (r, h1) ∧ f_X10_sell h1 61 x y z = some (r, h2) ∧ Inv h2 := by
  have H := I.1
  have C := I.ca
  have hv := I.v
  have R := I.2.1
  have h14 := I.2.2.1
  generalize eA : z_i h 62 = A at *
  generalize eT : z_i h 63 = T at *
  have hN := hv.1
  have h10 := hN.2.1
  obtain ⟨en, h99⟩ := C.now
  obtain ⟨ek, h40⟩ := C.k
  have e144 : A 144 = nI (nwN A) := hN.2.2.2.2
  have H1 : LY (z_si h 61 0 0) := H
  have e1 : z_i (z_si h 61 0 0) 62 = A := by rw [m62, eA]
  have hN1 : VN (z_i (z_si h 61 0 0) 62) := by rw [e1]; exact hN
  have m0 : f_X10_canSell (z_si h 61 0 0) 61 x y z = some 0 → f_X10_sell h 61 x y z = some (-1, z_si h 61 0 0) := fun c => by
    unfold f_X10_sell
    refine gdE (yg61 H) ?_
    refine bnd (yP61 H 0 0) ?_
    refine bnd c ?_
    exact if_pos rfl
  rcases nI_or (x := x) (n := nn A) (by omega) with ⟨s, hs, rfl⟩ | ⟨-, hx⟩
  · have cs := c_canSell_t C hs (y := y)
    have ms := e_canSell_t (h := z_si h 61 0 0) (s := s) (y := y) (z := z) H1 hN1 (by rw [e1]; exact hs)
    rw [e1] at ms
    cases hcs : csS A s y with
    | false =>
      rw [hcs] at cs ms
      refine ⟨-1, h, z_si h 61 0 0, ?_, m0 ms, I.m⟩
      unfold f_X9_sell
      refine gdE (yg0 H) ?_
      refine bnd (yR0_0 H) ?_
      refine bnd (yR1_3 H) ?_
      refine bnd cs ?_
      exact if_pos rfl
    | true =>
      rw [hcs] at cs ms
      have cs : f_X9_canSell h 0 (nI s) y = some 1 := cs
      have ej : z_i h 14 s = nI (jo A s) := (R.2.1.2.2 s hs).1.trans (hv.2.1 s hs).1
      have ejA := (hv.2.1 s hs).1
      by_cases hK : nk A < 40
      · cases hcm : cmS A s z with
        | false =>
          rw [hcm] at ms
          have hcm' : ¬ (gre (A (147 + 94 * s + 0)) (A 144 - 2) ≤ z ∧ z ≤ A 144) := of_decide_eq_false hcm
          rw [gre_le, ejA, e144] at hcm'
          refine ⟨-1, h, z_si h 61 0 0, ?_, m0 ms, I.m⟩
          unfold f_X9_sell
          refine gdE (yg0 H) ?_
          refine bnd (yR0_0 H) ?_
          refine bnd (yR1_3 H) ?_
          refine bnd cs ?_
          refine (if_neg (show ¬ (1 : Int32) = 0 by decide)).trans ?_
          refine bnd ((yI21 H 0).trans (congrArg some ek)) ?_
          refine (if_pos (show nI (nk A) < (40 : Int32) from nI_lt (b := 40) hK (by omega))).trans ?_
          refine bnd (yR0_0 H) ?_
          refine bnd ((yI1 H 8).trans (congrArg some en)) ?_
          by_cases c1 : z < nI (nwN A) - 2
          · exact if_pos c1
          · refine (if_neg c1).trans ?_
            refine bnd (yR0_0 H) ?_
            refine bnd ((yI1 H 8).trans (congrArg some en)) ?_
            by_cases c2 : nI (nwN A) < z
            · exact if_pos c2
            · refine (if_neg c2).trans ?_
              refine bnd (yR0_0 H) ?_
              refine bnd (yR1_2 H) ?_
              refine bnd (yR13_1 H) ?_
              refine bnd ((yA14 H (show s < 10 by omega)).trans (congrArg some ej)) ?_
              exact if_neg (fun c3 => hcm' ⟨⟨c3, Int32.not_lt.mp c1⟩, Int32.not_lt.mp c2⟩)
        | true =>
          have hcm' : gre (A (147 + 94 * s + 0)) (A 144 - 2) ≤ z ∧ z ≤ A 144 := of_decide_eq_true hcm
          rw [gre_le, ejA, e144] at hcm'
          obtain ⟨⟨c1, c2⟩, c3⟩ := hcm'
          have hy : A (147 + 94 * s + 1) = -1 ∧ (1 : Int32) ≤ y ∧ y ≤ 9999 := of_decide_eq_true hcs
          obtain ⟨v, hv9, rfl⟩ := nI_of2 (x := y) (M := 9999) (n := 9999) rfl (Int32.not_lt.mpr (Int32.le_trans (show (0 : Int32) ≤ 1 by decide) hy.2.1)) hy.2.2
          have hjn := (hv.2.1 s hs).2.1
          obtain ⟨mo, hmo0, rfl⟩ := nI_of (x := z) (fun q => nI_pos (by omega : jo A s < 2 ^ 31) (Int32.lt_of_le_of_lt c1 q))
          have hv1 : 1 ≤ v := by
            rcases Nat.lt_or_ge v 1 with q | q
            · exact absurd hy.2.1 (Int32.not_le.mpr (nI_lt (b := 1) q (by omega)))
            · exact q
          have hmo : mo ≤ nwN A := by
            rcases Nat.lt_or_ge (nwN A) mo with q | q
            · exact absurd c3 (nI_ge q hmo0)
            · exact q
          have hj : jo A s ≤ mo := by
            rcases Nat.lt_or_ge mo (jo A s) with q | q
            · exact absurd c1 (nI_ge q (by have := (hv.2.1 s hs).2.1; omega))
            · exact q
          have hmo2 : nwN A ≤ mo + 2 := by
            rcases Nat.lt_or_ge (mo + 2) (nwN A) with q | q
            · rw [n_2, nI_sub (by omega)] at c2
              exact absurd c2 (nI_ge (by omega) (by omega))
            · exact q
          obtain ⟨g, s1, s2, s3, s4, s5, s6⟩ := c_sell H R hK hs hy.1 ⟨hv1, hv9⟩ hj hmo hmo2
          have G := LY_x s2 s4 H
          have g62 : z_i g 62 = A := (s5 62 (by omega)).trans eA
          have L := sl_lk (v := v) R hK hs (show mo ≤ 99 by omega)
          obtain ⟨k, t1, t2, t3, t4, t5, t6, t7⟩ := e_sell G g62 (by rw [s5 61 (by omega)]; exact h14) hN (hv.2.1 s hs) hv.2.2.1 L hK hs hy.1 ⟨hv1, hv9⟩ hj hmo hmo2
          obtain ⟨p, f1, f2, f3, f4⟩ := sl_facts L hN hs hv9 (show mo ≤ 99 by omega)
          refine ⟨nI (nk A), g, k, s1, t1, I.of ⟨t2.trans s2, t3.trans s3, t4.trans s4, fun a ha => ?_, fun j hj => ?_, fun j _ => ?_, ?_⟩ ?_ t6⟩
          · rw [t5 a (by omega), s5 a (by omega)]
          · rw [t7, eA]
            show jL _ _ _ _ _ _ _ j = _
            rw [jL_hi (by omega) _ (fun l hl => by have := (f2 l hl).1; omega)]
            exact (slB_ns f1).1.1 j (by omega) (by omega)
          · rw [t5 63 (by omega), s5 63 (by omega)]
          · rw [t5 71 (by omega), s5 71 (by omega)]
          · rw [t7, t5 63 (by omega), s5 63 (by omega), eT]
            exact ⟨s6.1, RC_congr (fun o _ ho => t5 (1 + o) (by omega)) s6.2⟩
      · have hK4 : nk A = 40 := by omega
        have c3 : f_X9_sell h 0 (nI s) y z = some (-1, h) := by
          unfold f_X9_sell
          refine gdE (yg0 H) ?_
          refine bnd (yR0_0 H) ?_
          refine bnd (yR1_3 H) ?_
          refine bnd cs ?_
          refine (if_neg (show ¬ (1 : Int32) = 0 by decide)).trans ?_
          refine bnd ((yI21 H 0).trans (congrArg some ek)) ?_
          exact if_neg (show ¬ nI (nk A) < (40 : Int32) by rw [hK4]; decide)
        cases hcm : cmS A s z with
        | false =>
          rw [hcm] at ms
          exact ⟨-1, h, z_si h 61 0 0, c3, m0 ms, I.m⟩
        | true =>
          rw [hcm] at ms
          have ms : f_X10_canSell (z_si h 61 0 0) 61 (nI s) y z = some 1 := ms
          refine ⟨-1, h, z_si h 61 0 0, c3, ?_, I.m⟩
          have a146 : aI (z_si h 61 0 0) 62 146 = some (nI (nk A)) := by
            have := yA62 (k := 146) H1 (by omega)
            rw [e1, hv.2.2.1.2.1] at this
            exact this
          unfold f_X10_sell
          refine gdE (yg61 H) ?_
          refine bnd (yP61 H 0 0) ?_
          refine bnd ms ?_
          refine (if_neg (show ¬ (1 : Int32) = 0 by decide)).trans ?_
          refine bnd (yR61_1 H1) ?_
          refine bnd a146 ?_
          exact if_pos (show nI (nk A) = (40 : Int32) by rw [hK4]; rfl)
  · refine ⟨-1, h, z_si h 61 0 0, ?_, m0 (e_canSell_f (h := z_si h 61 0 0) H1 hN1 (by rw [e1]; exact hx)), I.m⟩
    unfold f_X9_sell
    refine gdE (yg0 H) ?_
    refine bnd (yR0_0 H) ?_
    refine bnd (yR1_3 H) ?_
    refine bnd (c_canSell_f C hx) ?_
    exact if_pos rfl
