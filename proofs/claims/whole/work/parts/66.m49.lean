theorem op_seller {h : Z_H} (I : Inv h) {x y : Int32} : ∃ r h1 h2, f_X9_seller h 0 x y = some (r, h1) ∧ f_X10_seller h1 61 x y = some (r, h2) ∧ Inv h2 := by
  have H := I.1
  have C := I.ca
  have hv := I.v
  have L : LK (cl h) (z_i h 62) := I.2.1.lk
  have cg := fun s hs b => c_greatest I (s := s) (b := b) hs
  have hM1 : MSale (z_i (z_si h 61 0 0) 62) := I.m.ms
  generalize eA : z_i h 62 = A at *
  have hN := hv.1
  have h10 := hN.2.1
  have H1 : LY (z_si h 61 0 0) := H
  have e1 : z_i (z_si h 61 0 0) 62 = A := by rw [m62, eA]
  have hN1 : VN (z_i (z_si h 61 0 0) 62) := by rw [e1]; exact hN
  have z1 : ¬ (1 : Int32) = 0 := by decide
  obtain ⟨en, hq⟩ := C.vn
  rcases nI_or (x := x) (n := nn A) (by omega) with ⟨s, hs, rfl⟩ | ⟨-, hx⟩
  · have it := e_isS_t (h := z_si h 61 0 0) (s := s) H1 hN1 (by rw [e1]; exact hs)
    obtain ⟨r0, r1, r2, r3, r4⟩ := C.2.2.2.2.2.1.2.2 s hs
    have a14 : aI h 14 (nI s) = some (A (147 + 94 * s + 0)) := (yA14 H (by omega)).trans (congrArg some r0)
    have a15 : aI h 15 (nI s) = some (A (147 + 94 * s + 1)) := (yA15 H (by omega)).trans (congrArg some r1)
    have a16 : aI h 16 (nI s) = some (A (147 + 94 * s + 3)) := (yA16 H (by omega)).trans (congrArg some r3)
    have a17 : aI h 17 (nI s) = some (A (147 + 94 * s + 4)) := (yA17 H (by omega)).trans (congrArg some r4)
    have o0 := e_os0 (s := s) H1 (by omega)
    have o1 := e_os1 (s := s) H1 (by omega)
    have o3 := e_os3 (s := s) H1 (by omega)
    have o4 := e_os4 (s := s) H1 (by omega)
    rw [e1] at o0 o1 o3 o4
    have ea := e_earnedAt (h := z_si h 61 0 0) H1 hM1 (x1 := nI s) (m := A 144) (x3 := -1)
    have nw : f_X10_now (z_si h 61 0 0) 61 = some (A 144) := by rw [e_now H1, e1]
    have ba := e_balanceOf (h := z_si h 61 0 0) (s := s) H1 hM1 (by omega)
    have nv := e_notVested (h := z_si h 61 0 0) H1 hM1 (x := nI s)
    have so := e_salesOf (h := z_si h 61 0 0) H1 hM1 (x := nI s)
    have ex := e_exposedOf (h := z_si h 61 0 0) H1 hM1 (x := nI s)
    have hq1 := e_hasQuit (h := z_si h 61 0 0) (s := s) H1 (by omega)
    rw [e1] at ea ba nv so ex hq1
    have hl := c_hasLeft H C.2.2.2.2.2.1 hN hs
    have ce := c_earned C (x := nI s) hq
    have cb := c_balance C hs
    have cn := c_notVested C (x := nI s)
    rcases nI_or (x := y) (n := 12) (by omega) with ⟨w, hw, rfl⟩ | ⟨hyn, -⟩
    · have hw' : w = 0 ∨ w = 1 ∨ w = 2 ∨ w = 3 ∨ w = 4 ∨ w = 5 ∨ w = 6 ∨ w = 7 ∨ w = 8 ∨ w = 9 ∨ w = 10 ∨ w = 11 := by omega
      rcases hw' with rfl | rfl | rfl | rfl | rfl | rfl | rfl | rfl | rfl | rfl | rfl | rfl
      · refine ⟨A (147 + 94 * s + 0), h, z_si h 61 0 0, ?_, ?_, I.m⟩
        · unfold f_X9_seller
          exact gdE (yg0 H) (bnd (yR0_0 H) (bnd (yR1_2 H) (bnd (c_has_t C hs) ((if_neg z1).trans ((if_pos rfl).trans (bnd (yR13_1 H) (bnd a14 rfl)))))))
        · unfold f_X10_seller
          exact gdE (yg61 H) (bnd (yP61 H 0 0) (bnd it ((if_neg z1).trans (jnE ((if_pos rfl).trans (bnd o0 rfl))))))
      · refine ⟨A (147 + 94 * s + 1), h, z_si h 61 0 0, ?_, ?_, I.m⟩
        · unfold f_X9_seller
          exact gdE (yg0 H) (bnd (yR0_0 H) (bnd (yR1_2 H) (bnd (c_has_t C hs) ((if_neg z1).trans ((if_neg (by decide)).trans ((if_pos rfl).trans (bnd (yR13_2 H) (bnd a15 rfl))))))))
        · unfold f_X10_seller
          exact gdE (yg61 H) (bnd (yP61 H 0 0) (bnd it ((if_neg z1).trans (jnE ((if_neg (by decide)).trans ((if_pos rfl).trans (bnd o1 rfl)))))))
      · refine ⟨A (147 + 94 * s + 4), h, z_si h 61 0 0, ?_, ?_, I.m⟩
        · unfold f_X9_seller
          exact gdE (yg0 H) (bnd (yR0_0 H) (bnd (yR1_2 H) (bnd (c_has_t C hs) ((if_neg z1).trans ((if_neg (by decide)).trans ((if_neg (by decide)).trans ((if_pos rfl).trans (bnd (yR13_4 H) (bnd a17 rfl)))))))))
        · unfold f_X10_seller
          exact gdE (yg61 H) (bnd (yP61 H 0 0) (bnd it ((if_neg z1).trans (jnE ((if_neg (by decide)).trans ((if_neg (by decide)).trans ((if_pos rfl).trans (bnd o4 rfl))))))))
      · refine ⟨eS A (nI s) (A 144) (-1), h, z_si h 61 0 0, ?_, ?_, I.m⟩
        · unfold f_X9_seller
          exact gdE (yg0 H) (bnd (yR0_0 H) (bnd (yR1_2 H) (bnd (c_has_t C hs) ((if_neg z1).trans ((if_neg (by decide)).trans ((if_neg (by decide)).trans ((if_neg (by decide)).trans ((if_pos rfl).trans (bnd (yR0_0 H) (bnd (yR0_0 H) (bnd ((yI1 H 8).trans (congrArg some en)) (bnd ce rfl))))))))))))
        · unfold f_X10_seller
          exact gdE (yg61 H) (bnd (yP61 H 0 0) (bnd it ((if_neg z1).trans (jnE ((if_neg (by decide)).trans ((if_neg (by decide)).trans ((if_neg (by decide)).trans ((if_pos rfl).trans (bnd nw (bnd ea rfl))))))))))
      · refine ⟨A (147 + 94 * s + 3), h, z_si h 61 0 0, ?_, ?_, I.m⟩
        · unfold f_X9_seller
          exact gdE (yg0 H) (bnd (yR0_0 H) (bnd (yR1_2 H) (bnd (c_has_t C hs) ((if_neg z1).trans ((if_neg (by decide)).trans ((if_neg (by decide)).trans ((if_neg (by decide)).trans ((if_neg (by decide)).trans ((if_pos rfl).trans (bnd (yR13_3 H) (bnd a16 rfl)))))))))))
        · unfold f_X10_seller
          exact gdE (yg61 H) (bnd (yP61 H 0 0) (bnd it ((if_neg z1).trans (jnE ((if_neg (by decide)).trans ((if_neg (by decide)).trans ((if_neg (by decide)).trans ((if_neg (by decide)).trans ((if_pos rfl).trans (bnd o3 rfl))))))))))
      · refine ⟨eS A (nI s) (A 144) (-1) - A (147 + 94 * s + 3), h, z_si h 61 0 0, ?_, ?_, I.m⟩
        · unfold f_X9_seller
          exact gdE (yg0 H) (bnd (yR0_0 H) (bnd (yR1_2 H) (bnd (c_has_t C hs) ((if_neg z1).trans ((if_neg (by decide)).trans ((if_neg (by decide)).trans ((if_neg (by decide)).trans ((if_neg (by decide)).trans ((if_neg (by decide)).trans ((if_pos rfl).trans (bnd (yR0_0 H) (bnd cb rfl))))))))))))
        · unfold f_X10_seller
          exact gdE (yg61 H) (bnd (yP61 H 0 0) (bnd it ((if_neg z1).trans (jnE ((if_neg (by decide)).trans ((if_neg (by decide)).trans ((if_neg (by decide)).trans ((if_neg (by decide)).trans ((if_neg (by decide)).trans ((if_pos rfl).trans (bnd ba rfl)))))))))))
      · by_cases q : A (147 + 94 * s + 1) = -1
        · rw [if_pos q] at hl hq1
          refine ⟨nvS A (nI s), h, z_si h 61 0 0, ?_, ?_, I.m⟩
          · unfold f_X9_seller
            exact gdE (yg0 H) (bnd (yR0_0 H) (bnd (yR1_2 H) (bnd (c_has_t C hs) ((if_neg z1).trans ((if_neg (by decide)).trans ((if_neg (by decide)).trans ((if_neg (by decide)).trans ((if_neg (by decide)).trans ((if_neg (by decide)).trans ((if_neg (by decide)).trans ((if_pos rfl).trans (bnd hl ((if_pos rfl).trans (bnd (yR0_0 H) (bnd cn rfl)))))))))))))))
          · unfold f_X10_seller
            exact gdE (yg61 H) (bnd (yP61 H 0 0) (bnd it ((if_neg z1).trans (jnE ((if_neg (by decide)).trans ((if_neg (by decide)).trans ((if_neg (by decide)).trans ((if_neg (by decide)).trans ((if_neg (by decide)).trans ((if_neg (by decide)).trans ((if_pos rfl).trans (bnd hq1 ((if_pos rfl).trans (bnd nv rfl))))))))))))))
        · rw [if_neg q] at hl hq1
          refine ⟨0, h, z_si h 61 0 0, ?_, ?_, I.m⟩
          · unfold f_X9_seller
            exact gdE (yg0 H) (bnd (yR0_0 H) (bnd (yR1_2 H) (bnd (c_has_t C hs) ((if_neg z1).trans ((if_neg (by decide)).trans ((if_neg (by decide)).trans ((if_neg (by decide)).trans ((if_neg (by decide)).trans ((if_neg (by decide)).trans ((if_neg (by decide)).trans ((if_pos rfl).trans (bnd hl ((if_neg z1).trans (rfl))))))))))))))
          · unfold f_X10_seller
            exact gdE (yg61 H) (bnd (yP61 H 0 0) (bnd it ((if_neg z1).trans (jnE ((if_neg (by decide)).trans ((if_neg (by decide)).trans ((if_neg (by decide)).trans ((if_neg (by decide)).trans ((if_neg (by decide)).trans ((if_neg (by decide)).trans ((if_pos rfl).trans (bnd hq1 ((if_neg z1).trans (rfl))))))))))))))
      · by_cases q : A (147 + 94 * s + 1) = -1
        · rw [if_pos q] at hl hq1
          refine ⟨0, h, z_si h 61 0 0, ?_, ?_, I.m⟩
          · unfold f_X9_seller
            exact gdE (yg0 H) (bnd (yR0_0 H) (bnd (yR1_2 H) (bnd (c_has_t C hs) ((if_neg z1).trans ((if_neg (by decide)).trans ((if_neg (by decide)).trans ((if_neg (by decide)).trans ((if_neg (by decide)).trans ((if_neg (by decide)).trans ((if_neg (by decide)).trans ((if_neg (by decide)).trans ((if_pos rfl).trans (bnd hl ((if_pos rfl).trans (rfl)))))))))))))))
          · unfold f_X10_seller
            exact gdE (yg61 H) (bnd (yP61 H 0 0) (bnd it ((if_neg z1).trans (jnE ((if_neg (by decide)).trans ((if_neg (by decide)).trans ((if_neg (by decide)).trans ((if_neg (by decide)).trans ((if_neg (by decide)).trans ((if_neg (by decide)).trans ((if_neg (by decide)).trans ((if_pos rfl).trans (bnd hq1 ((if_pos rfl).trans (rfl)))))))))))))))
        · rw [if_neg q] at hl hq1
          refine ⟨nvS A (nI s), h, z_si h 61 0 0, ?_, ?_, I.m⟩
          · unfold f_X9_seller
            exact gdE (yg0 H) (bnd (yR0_0 H) (bnd (yR1_2 H) (bnd (c_has_t C hs) ((if_neg z1).trans ((if_neg (by decide)).trans ((if_neg (by decide)).trans ((if_neg (by decide)).trans ((if_neg (by decide)).trans ((if_neg (by decide)).trans ((if_neg (by decide)).trans ((if_neg (by decide)).trans ((if_pos rfl).trans (bnd hl ((if_neg z1).trans (bnd (yR0_0 H) (bnd cn rfl))))))))))))))))
          · unfold f_X10_seller
            exact gdE (yg61 H) (bnd (yP61 H 0 0) (bnd it ((if_neg z1).trans (jnE ((if_neg (by decide)).trans ((if_neg (by decide)).trans ((if_neg (by decide)).trans ((if_neg (by decide)).trans ((if_neg (by decide)).trans ((if_neg (by decide)).trans ((if_neg (by decide)).trans ((if_pos rfl).trans (bnd hq1 ((if_neg z1).trans (bnd nv rfl)))))))))))))))
      · obtain ⟨g, g1, g2⟩ := cg s hs 0
        have Im := (g2.inv I).m
        have e8 : z_i (z_si g 61 0 0) 62 = A := by rw [m62, g2.a, eA]
        obtain ⟨k, k1, k2⟩ := e_best (b := 0) Im.1 e8 L Im.2.2.1 hs
        have it8 := e_isS_t (h := z_si g 61 0 0) (s := s) Im.1 (by rw [e8]; exact hN) (by rw [e8]; exact hs)
        have G := g2.ly H
        refine ⟨if (0 : Int32) = 0 then (grS A s).1 else (grS A s).2, g, k, ?_, ?_, k2.qs.inv Im⟩
        · unfold f_X9_seller
          exact gdE (yg0 H) (bnd (yR0_0 H) (bnd (yR1_2 H) (bnd (c_has_t C hs) ((if_neg z1).trans ((if_neg (by decide)).trans ((if_neg (by decide)).trans ((if_neg (by decide)).trans ((if_neg (by decide)).trans ((if_neg (by decide)).trans ((if_neg (by decide)).trans ((if_neg (by decide)).trans ((if_neg (by decide)).trans ((if_pos rfl).trans (bd2E g1 rfl))))))))))))))
        · unfold f_X10_seller
          exact gdE (yg61 G) (bnd (yP61 G 0 0) (bnd it8 ((if_neg z1).trans (jnE ((if_neg (by decide)).trans ((if_neg (by decide)).trans ((if_neg (by decide)).trans ((if_neg (by decide)).trans ((if_neg (by decide)).trans ((if_neg (by decide)).trans ((if_neg (by decide)).trans ((if_neg (by decide)).trans ((if_pos rfl).trans (jnE ((if_neg (by decide)).trans (bd2E k1 rfl))))))))))))))))
      · obtain ⟨g, g1, g2⟩ := cg s hs 1
        have Im := (g2.inv I).m
        have e8 : z_i (z_si g 61 0 0) 62 = A := by rw [m62, g2.a, eA]
        obtain ⟨k, k1, k2⟩ := e_best (b := 1) Im.1 e8 L Im.2.2.1 hs
        have it8 := e_isS_t (h := z_si g 61 0 0) (s := s) Im.1 (by rw [e8]; exact hN) (by rw [e8]; exact hs)
        have G := g2.ly H
        refine ⟨if (1 : Int32) = 0 then (grS A s).1 else (grS A s).2, g, k, ?_, ?_, k2.qs.inv Im⟩
        · unfold f_X9_seller
          exact gdE (yg0 H) (bnd (yR0_0 H) (bnd (yR1_2 H) (bnd (c_has_t C hs) ((if_neg z1).trans ((if_neg (by decide)).trans ((if_neg (by decide)).trans ((if_neg (by decide)).trans ((if_neg (by decide)).trans ((if_neg (by decide)).trans ((if_neg (by decide)).trans ((if_neg (by decide)).trans ((if_neg (by decide)).trans ((if_neg (by decide)).trans ((if_pos rfl).trans (bd2E g1 rfl)))))))))))))))
        · unfold f_X10_seller
          exact gdE (yg61 G) (bnd (yP61 G 0 0) (bnd it8 ((if_neg z1).trans (jnE ((if_neg (by decide)).trans ((if_neg (by decide)).trans ((if_neg (by decide)).trans ((if_neg (by decide)).trans ((if_neg (by decide)).trans ((if_neg (by decide)).trans ((if_neg (by decide)).trans ((if_neg (by decide)).trans ((if_neg (by decide)).trans ((if_pos rfl).trans (jnE ((if_pos rfl).trans (bd2E k1 rfl)))))))))))))))))
      · refine ⟨sm (fun i => if A (1087 + 41 * i + 0) = nI s then 1 else 0) (nk A), h, z_si h 61 0 0, ?_, ?_, I.m⟩
        · unfold f_X9_seller
          exact gdE (yg0 H) (bnd (yR0_0 H) (bnd (yR1_2 H) (bnd (c_has_t C hs) ((if_neg z1).trans ((if_neg (by decide)).trans ((if_neg (by decide)).trans ((if_neg (by decide)).trans ((if_neg (by decide)).trans ((if_neg (by decide)).trans ((if_neg (by decide)).trans ((if_neg (by decide)).trans ((if_neg (by decide)).trans ((if_neg (by decide)).trans ((if_neg (by decide)).trans ((if_pos rfl).trans (bnd (yR0_0 H) (bnd (yR1_3 H) (bnd (c_countOf C) rfl))))))))))))))))))
        · unfold f_X10_seller
          exact gdE (yg61 H) (bnd (yP61 H 0 0) (bnd it ((if_neg z1).trans (jnE ((if_neg (by decide)).trans ((if_neg (by decide)).trans ((if_neg (by decide)).trans ((if_neg (by decide)).trans ((if_neg (by decide)).trans ((if_neg (by decide)).trans ((if_neg (by decide)).trans ((if_neg (by decide)).trans ((if_neg (by decide)).trans ((if_neg (by decide)).trans ((if_pos rfl).trans (bnd so rfl))))))))))))))))
      · refine ⟨sm (fun i => if A (1087 + 41 * i + 0) = nI s then vsO A i else 0) (nk A), h, z_si h 61 0 0, ?_, ?_, I.m⟩
        · unfold f_X9_seller
          exact gdE (yg0 H) (bnd (yR0_0 H) (bnd (yR1_2 H) (bnd (c_has_t C hs) ((if_neg z1).trans ((if_neg (by decide)).trans ((if_neg (by decide)).trans ((if_neg (by decide)).trans ((if_neg (by decide)).trans ((if_neg (by decide)).trans ((if_neg (by decide)).trans ((if_neg (by decide)).trans ((if_neg (by decide)).trans ((if_neg (by decide)).trans ((if_neg (by decide)).trans ((if_neg (by decide)).trans ((if_pos rfl).trans (bnd (yR0_0 H) (bnd (c_exposed C) rfl))))))))))))))))))
        · unfold f_X10_seller
          exact gdE (yg61 H) (bnd (yP61 H 0 0) (bnd it ((if_neg z1).trans (jnE ((if_neg (by decide)).trans ((if_neg (by decide)).trans ((if_neg (by decide)).trans ((if_neg (by decide)).trans ((if_neg (by decide)).trans ((if_neg (by decide)).trans ((if_neg (by decide)).trans ((if_neg (by decide)).trans ((if_neg (by decide)).trans ((if_neg (by decide)).trans ((if_neg (by decide)).trans ((if_pos rfl).trans (bnd ex rfl)))))))))))))))))
    · refine ⟨-1000000, h, z_si h 61 0 0, ?_, ?_, I.m⟩
      · unfold f_X9_seller
        exact gdE (yg0 H) (bnd (yR0_0 H) (bnd (yR1_2 H) (bnd (c_has_t C hs) ((if_neg z1).trans ((if_neg (hyn 0 (by omega))).trans ((if_neg (hyn 1 (by omega))).trans ((if_neg (hyn 2 (by omega))).trans ((if_neg (hyn 3 (by omega))).trans ((if_neg (hyn 4 (by omega))).trans ((if_neg (hyn 5 (by omega))).trans ((if_neg (hyn 6 (by omega))).trans ((if_neg (hyn 7 (by omega))).trans ((if_neg (hyn 8 (by omega))).trans ((if_neg (hyn 9 (by omega))).trans ((if_neg (hyn 10 (by omega))).trans (if_neg (hyn 11 (by omega))))))))))))))))))
      · unfold f_X10_seller
        exact gdE (yg61 H) (bnd (yP61 H 0 0) (bnd it ((if_neg z1).trans (jnE ((if_neg (hyn 0 (by omega))).trans ((if_neg (hyn 1 (by omega))).trans ((if_neg (hyn 2 (by omega))).trans ((if_neg (hyn 3 (by omega))).trans ((if_neg (hyn 4 (by omega))).trans ((if_neg (hyn 5 (by omega))).trans ((if_neg (hyn 6 (by omega))).trans ((if_neg (hyn 7 (by omega))).trans ((if_neg (hyn 8 (by omega))).trans ((if_neg (hyn 9 (by omega))).trans ((if_neg (hyn 10 (by omega))).trans (if_neg (hyn 11 (by omega))))))))))))))))))
  · refine ⟨-1000000, h, z_si h 61 0 0, ?_, ?_, I.m⟩
    · unfold f_X9_seller
      exact gdE (yg0 H) (bnd (yR0_0 H) (bnd (yR1_2 H) (bnd (c_has_f C hx) (if_pos rfl))))
    · unfold f_X10_seller
      exact gdE (yg61 H) (bnd (yP61 H 0 0) (bnd (e_isS_f (h := z_si h 61 0 0) H1 hN1 (by rw [e1]; exact hx)) (if_pos rfl)))
theorem c_isStale {h : Z_H} (I : Inv h) {i : Nat} (hi : i < nk (z_i h 62)) : ∃ g, f_X9_isStale h 0 (nI i) = some (if stS (z_i h 62) i then 1 else 0, g) ∧ QS h g := by
  have H := I.1
  have C0 := I.ca
  have L : LK (cl h) (z_i h 62) := I.2.1.lk
  have Iq : ∀ g, QS h g → CA g (z_i h 62) := fun g q => by
    have a := (q.inv I).ca
    rw [q.a] at a
    exact a
  generalize eA : z_i h 62 = A at *
  obtain ⟨en, h99⟩ := C0.now
  obtain ⟨g, p1, p2, p3, p4⟩ := c_look H h99 L
  have st := c_stale (Iq g p2.qs) L.2.2.1 p3 p4 (L.ok h99) hi
  refine ⟨g, ?_, p2.qs⟩
  unfold f_X9_isStale
  refine gdE (yg0 H) (bnd (yR0_3 H) (bnd (yR0_0 H) (bnd (yR0_0 H) (bnd ((yI1 H 8).trans (congrArg some en)) (bnd p1 (bnd st (gdE ?_ rfl)))))))
  cases stS A i <;> decide
theorem op_sale {h : Z_H} (I : Inv h) {x y : Int32} : ∃ r h1 h2, f_X9_sale h 0 x y = some (r, h1) ∧ f_X10_sale h1 61 x y = some (r, h2) ∧ Inv h2 := by
  have H := I.1
  have C := I.ca
  have hv := I.v
  have R := I.2.1
  have L : LK (cl h) (z_i h 62) := I.2.1.lk
  have cst := fun i hi => c_isStale I (i := i) hi
  have hM1 : MSale (z_i (z_si h 61 0 0) 62) := I.m.ms
  generalize eA : z_i h 62 = A at *
  generalize eT : z_i h 63 = T at *
  have hN := hv.1
  have hS := hv.2.2.1
  have h10 := hN.2.1
  have h40 := hS.1
  have H1 : LY (z_si h 61 0 0) := H
  have e1 : z_i (z_si h 61 0 0) 62 = A := by rw [m62, eA]
  have hS1 : VS (z_i (z_si h 61 0 0) 62) := by rw [e1]; exact hS
  have z1 : ¬ (1 : Int32) = 0 := by decide
  rcases nI_or (x := x) (n := nk A) (by omega) with ⟨i, hi, rfl⟩ | ⟨-, hx⟩
  · have it := e_isK_t (h := z_si h 61 0 0) (s := i) H1 hS1 (by rw [e1]; exact hi)
    obtain ⟨r0, r1, r2, r3, r4, r5⟩ := c_sale C.2.2.2.2.2.2.1 hi
    have o0 := e_oa0 (s := i) H1 (by omega)
    have o1 := e_oa1 (s := i) H1 (by omega)
    have o2 := e_oa2 (s := i) H1 (by omega)
    have o3 := e_oa3 (s := i) H1 (by omega)
    have o4 := e_oa4 (s := i) H1 (by omega)
    have o5 := e_oa5 (s := i) H1 (by omega)
    have ne := e_netS (h := z_si h 61 0 0) (s := i) (v := A (1087 + 41 * i + 1)) H1 (by omega)
    have po := e_paysOf (h := z_si h 61 0 0) (i := i) (f := 2) H1 hM1 (by rw [e1]; exact hi) (by omega)
    have np := e_netPaysOf (h := z_si h 61 0 0) (i := i) H1 hM1 (by rw [e1]; exact hi)
    rw [e1] at o0 o1 o2 o3 o4 o5 ne po np
    have po : f_X10_paysOf (z_si h 61 0 0) 61 (nI i) 2 = some (ptO A 2 i) := po
    have ct : f_X5_together h 21 (nI i) 2 = some (ptO A 2 i) := c_together (f := 2) C hi (by omega)
    rcases nI_or (x := y) (n := 11) (by omega) with ⟨w, hw, rfl⟩ | ⟨hyn, -⟩
    · have hw' : w = 0 ∨ w = 1 ∨ w = 2 ∨ w = 3 ∨ w = 4 ∨ w = 5 ∨ w = 6 ∨ w = 7 ∨ w = 8 ∨ w = 9 ∨ w = 10 := by omega
      rcases hw' with rfl | rfl | rfl | rfl | rfl | rfl | rfl | rfl | rfl | rfl | rfl
      · refine ⟨A (1087 + 41 * i + 0), h, z_si h 61 0 0, ?_, ?_, I.m⟩
        · unfold f_X9_sale
          exact gdE (yg0 H) (bnd (yR0_0 H) (bnd (yR1_3 H) (bnd (c_hasS_t C hi) ((if_neg z1).trans ((if_pos rfl).trans (bnd (yR21_1 H) (bnd ((yA22 H (show i < 40 by omega)).trans (congrArg some r0)) rfl)))))))
        · unfold f_X10_sale
          exact gdE (yg61 H) (bnd (yP61 H 0 0) (bnd it ((if_neg z1).trans (jnE ((if_pos rfl).trans (bnd o0 rfl))))))
      · refine ⟨A (1087 + 41 * i + 1), h, z_si h 61 0 0, ?_, ?_, I.m⟩
        · unfold f_X9_sale
          exact gdE (yg0 H) (bnd (yR0_0 H) (bnd (yR1_3 H) (bnd (c_hasS_t C hi) ((if_neg z1).trans ((if_neg (by decide)).trans ((if_pos rfl).trans (bnd (yR21_2 H) (bnd ((yA23 H (show i < 40 by omega)).trans (congrArg some r1)) rfl))))))))
        · unfold f_X10_sale
          exact gdE (yg61 H) (bnd (yP61 H 0 0) (bnd it ((if_neg z1).trans (jnE ((if_neg (by decide)).trans ((if_pos rfl).trans (bnd o1 rfl)))))))
      · refine ⟨A (1087 + 41 * i + 2), h, z_si h 61 0 0, ?_, ?_, I.m⟩
        · unfold f_X9_sale
          exact gdE (yg0 H) (bnd (yR0_0 H) (bnd (yR1_3 H) (bnd (c_hasS_t C hi) ((if_neg z1).trans ((if_neg (by decide)).trans ((if_neg (by decide)).trans ((if_pos rfl).trans (bnd (yR21_3 H) (bnd ((yA24 H (show i < 40 by omega)).trans (congrArg some r2)) rfl)))))))))
        · unfold f_X10_sale
          exact gdE (yg61 H) (bnd (yP61 H 0 0) (bnd it ((if_neg z1).trans (jnE ((if_neg (by decide)).trans ((if_neg (by decide)).trans ((if_pos rfl).trans (bnd o2 rfl))))))))
      · refine ⟨A (1087 + 41 * i + 3), h, z_si h 61 0 0, ?_, ?_, I.m⟩
        · unfold f_X9_sale
          exact gdE (yg0 H) (bnd (yR0_0 H) (bnd (yR1_3 H) (bnd (c_hasS_t C hi) ((if_neg z1).trans ((if_neg (by decide)).trans ((if_neg (by decide)).trans ((if_neg (by decide)).trans ((if_pos rfl).trans (bnd (yR21_4 H) (bnd ((yA25 H (show i < 40 by omega)).trans (congrArg some r3)) rfl))))))))))
        · unfold f_X10_sale
          exact gdE (yg61 H) (bnd (yP61 H 0 0) (bnd it ((if_neg z1).trans (jnE ((if_neg (by decide)).trans ((if_neg (by decide)).trans ((if_neg (by decide)).trans ((if_pos rfl).trans (bnd o3 rfl)))))))))
      · refine ⟨A (1087 + 41 * i + 4), h, z_si h 61 0 0, ?_, ?_, I.m⟩
        · unfold f_X9_sale
          exact gdE (yg0 H) (bnd (yR0_0 H) (bnd (yR1_3 H) (bnd (c_hasS_t C hi) ((if_neg z1).trans ((if_neg (by decide)).trans ((if_neg (by decide)).trans ((if_neg (by decide)).trans ((if_neg (by decide)).trans ((if_pos rfl).trans (bnd (yR21_5 H) (bnd ((yA26 H (show i < 40 by omega)).trans (congrArg some r4)) rfl)))))))))))
        · unfold f_X10_sale
          exact gdE (yg61 H) (bnd (yP61 H 0 0) (bnd it ((if_neg z1).trans (jnE ((if_neg (by decide)).trans ((if_neg (by decide)).trans ((if_neg (by decide)).trans ((if_neg (by decide)).trans ((if_pos rfl).trans (bnd o4 rfl))))))))))
      · refine ⟨naS A i, h, z_si h 61 0 0, ?_, ?_, I.m⟩
        · unfold f_X9_sale
          exact gdE (yg0 H) (bnd (yR0_0 H) (bnd (yR1_3 H) (bnd (c_hasS_t C hi) ((if_neg z1).trans ((if_neg (by decide)).trans ((if_neg (by decide)).trans ((if_neg (by decide)).trans ((if_neg (by decide)).trans ((if_neg (by decide)).trans ((if_pos rfl).trans (bnd (c_netAmount H L.2.2.2.2.2.2.2.2 hi) rfl)))))))))))
        · unfold f_X10_sale
          exact gdE (yg61 H) (bnd (yP61 H 0 0) (bnd it ((if_neg z1).trans (jnE ((if_neg (by decide)).trans ((if_neg (by decide)).trans ((if_neg (by decide)).trans ((if_neg (by decide)).trans ((if_neg (by decide)).trans ((if_pos rfl).trans (bnd o1 (bnd ne rfl))))))))))))
      · refine ⟨A (1087 + 41 * i + 5), h, z_si h 61 0 0, ?_, ?_, I.m⟩
        · unfold f_X9_sale
          exact gdE (yg0 H) (bnd (yR0_0 H) (bnd (yR1_3 H) (bnd (c_hasS_t C hi) ((if_neg z1).trans ((if_neg (by decide)).trans ((if_neg (by decide)).trans ((if_neg (by decide)).trans ((if_neg (by decide)).trans ((if_neg (by decide)).trans ((if_neg (by decide)).trans ((if_pos rfl).trans (bnd (yR21_6 H) (bnd ((yA27 H (show i < 40 by omega)).trans (congrArg some r5)) rfl)))))))))))))
        · unfold f_X10_sale
          exact gdE (yg61 H) (bnd (yP61 H 0 0) (bnd it ((if_neg z1).trans (jnE ((if_neg (by decide)).trans ((if_neg (by decide)).trans ((if_neg (by decide)).trans ((if_neg (by decide)).trans ((if_neg (by decide)).trans ((if_neg (by decide)).trans ((if_pos rfl).trans (bnd o5 rfl))))))))))))
      · refine ⟨ptO A 2 i, h, z_si h 61 0 0, ?_, ?_, I.m⟩
        · unfold f_X9_sale
          exact gdE (yg0 H) (bnd (yR0_0 H) (bnd (yR1_3 H) (bnd (c_hasS_t C hi) ((if_neg z1).trans ((if_neg (by decide)).trans ((if_neg (by decide)).trans ((if_neg (by decide)).trans ((if_neg (by decide)).trans ((if_neg (by decide)).trans ((if_neg (by decide)).trans ((if_neg (by decide)).trans ((if_pos rfl).trans (bnd ct rfl)))))))))))))
        · unfold f_X10_sale
          exact gdE (yg61 H) (bnd (yP61 H 0 0) (bnd it ((if_neg z1).trans (jnE ((if_neg (by decide)).trans ((if_neg (by decide)).trans ((if_neg (by decide)).trans ((if_neg (by decide)).trans ((if_neg (by decide)).trans ((if_neg (by decide)).trans ((if_neg (by decide)).trans ((if_pos rfl).trans (bnd po rfl)))))))))))))
      · refine ⟨npT A i, h, z_si h 61 0 0, ?_, ?_, I.m⟩
        · unfold f_X9_sale
          exact gdE (yg0 H) (bnd (yR0_0 H) (bnd (yR1_3 H) (bnd (c_hasS_t C hi) ((if_neg z1).trans ((if_neg (by decide)).trans ((if_neg (by decide)).trans ((if_neg (by decide)).trans ((if_neg (by decide)).trans ((if_neg (by decide)).trans ((if_neg (by decide)).trans ((if_neg (by decide)).trans ((if_neg (by decide)).trans ((if_pos rfl).trans (bnd (c_netPays C hi) rfl))))))))))))))
        · unfold f_X10_sale
          exact gdE (yg61 H) (bnd (yP61 H 0 0) (bnd it ((if_neg z1).trans (jnE ((if_neg (by decide)).trans ((if_neg (by decide)).trans ((if_neg (by decide)).trans ((if_neg (by decide)).trans ((if_neg (by decide)).trans ((if_neg (by decide)).trans ((if_neg (by decide)).trans ((if_neg (by decide)).trans ((if_pos rfl).trans (bnd np rfl))))))))))))))
      · obtain ⟨g, g1, g2⟩ := cst i hi
        have Im := (g2.inv I).m
        have e8 : z_i (z_si g 61 0 0) 62 = A := by rw [m62, g2.a, eA]
        have R8 := Im.2.1
        rw [e8] at R8
        obtain ⟨k, k1, k2⟩ := e_stale Im.1 e8 R8 Im.2.2.1 hi
        have it8 := e_isK_t (h := z_si g 61 0 0) (s := i) Im.1 (by rw [e8]; exact hS) (by rw [e8]; exact hi)
        have G := g2.ly H
        have fin : ∀ (b : Bool) (k : Z_H), (if (if b then (1 : Int32) else 0) = 0 then some ((0 : Int32), k) else some (1, k)) = some (if b then 1 else 0, k) := fun b k => by cases b <;> rfl
        refine ⟨if stS A i then 1 else 0, g, k, ?_, ?_, k2.qs.inv Im⟩
        · unfold f_X9_sale
          exact gdE (yg0 H) (bnd (yR0_0 H) (bnd (yR1_3 H) (bnd (c_hasS_t C hi) ((if_neg z1).trans ((if_neg (by decide)).trans ((if_neg (by decide)).trans ((if_neg (by decide)).trans ((if_neg (by decide)).trans ((if_neg (by decide)).trans ((if_neg (by decide)).trans ((if_neg (by decide)).trans ((if_neg (by decide)).trans ((if_neg (by decide)).trans ((if_pos rfl).trans (bd2E g1 (fin _ _))))))))))))))))
        · unfold f_X10_sale
          exact gdE (yg61 G) (bnd (yP61 G 0 0) (bnd it8 ((if_neg z1).trans (jnE ((if_neg (by decide)).trans ((if_neg (by decide)).trans ((if_neg (by decide)).trans ((if_neg (by decide)).trans ((if_neg (by decide)).trans ((if_neg (by decide)).trans ((if_neg (by decide)).trans ((if_neg (by decide)).trans ((if_neg (by decide)).trans ((if_pos rfl).trans (bd2E k1 (fin _ _))))))))))))))))
      · obtain ⟨g, g1, g2⟩ := c_debtors C (x := nI i)
        have qg : QS h g := ⟨g2.1, g2.2.1, g2.2.2.1, fun a ha => g2.2.2.2 a (fun e => by rw [e] at ha; cases ha) (fun e => by rw [e] at ha; cases ha), by rw [g2.2.2.2 61 (by omega) (by omega)]⟩
        have Im := (qg.inv I).m
        have e8 : z_i (z_si g 61 0 0) 62 = A := by rw [m62, qg.a, eA]
        have sp := e_spillOf (h := z_si g 61 0 0) Im.1 Im.v (x := nI i)
        rw [e8] at sp
        have it8 := e_isK_t (h := z_si g 61 0 0) (s := i) Im.1 (by rw [e8]; exact hS) (by rw [e8]; exact hi)
        have G := qg.ly H
        refine ⟨sm (fun s => if (0 : Int32) ≤ blS A (nI i) s then 0 else 1) (nn A), g, z_si g 61 0 0, ?_, ?_, Im⟩
        · unfold f_X9_sale
          exact gdE (yg0 H) (bnd (yR0_0 H) (bnd (yR1_3 H) (bnd (c_hasS_t C hi) ((if_neg z1).trans ((if_neg (by decide)).trans ((if_neg (by decide)).trans ((if_neg (by decide)).trans ((if_neg (by decide)).trans ((if_neg (by decide)).trans ((if_neg (by decide)).trans ((if_neg (by decide)).trans ((if_neg (by decide)).trans ((if_neg (by decide)).trans ((if_neg (by decide)).trans ((if_pos rfl).trans (bnd (yR0_0 H) (bd2E g1 rfl)))))))))))))))))
        · unfold f_X10_sale
          exact gdE (yg61 G) (bnd (yP61 G 0 0) (bnd it8 ((if_neg z1).trans (jnE ((if_neg (by decide)).trans ((if_neg (by decide)).trans ((if_neg (by decide)).trans ((if_neg (by decide)).trans ((if_neg (by decide)).trans ((if_neg (by decide)).trans ((if_neg (by decide)).trans ((if_neg (by decide)).trans ((if_neg (by decide)).trans ((if_neg (by decide)).trans ((if_pos rfl).trans (bnd sp rfl))))))))))))))))
    · refine ⟨-2, h, z_si h 61 0 0, ?_, ?_, I.m⟩
      · unfold f_X9_sale
        exact gdE (yg0 H) (bnd (yR0_0 H) (bnd (yR1_3 H) (bnd (c_hasS_t C hi) ((if_neg z1).trans ((if_neg (hyn 0 (by omega))).trans ((if_neg (hyn 1 (by omega))).trans ((if_neg (hyn 2 (by omega))).trans ((if_neg (hyn 3 (by omega))).trans ((if_neg (hyn 4 (by omega))).trans ((if_neg (hyn 5 (by omega))).trans ((if_neg (hyn 6 (by omega))).trans ((if_neg (hyn 7 (by omega))).trans ((if_neg (hyn 8 (by omega))).trans ((if_neg (hyn 9 (by omega))).trans (if_neg (hyn 10 (by omega)))))))))))))))))
      · unfold f_X10_sale
        exact gdE (yg61 H) (bnd (yP61 H 0 0) (bnd it ((if_neg z1).trans (jnE ((if_neg (hyn 0 (by omega))).trans ((if_neg (hyn 1 (by omega))).trans ((if_neg (hyn 2 (by omega))).trans ((if_neg (hyn 3 (by omega))).trans ((if_neg (hyn 4 (by omega))).trans ((if_neg (hyn 5 (by omega))).trans ((if_neg (hyn 6 (by omega))).trans ((if_neg (hyn 7 (by omega))).trans ((if_neg (hyn 8 (by omega))).trans ((if_neg (hyn 9 (by omega))).trans (if_neg (hyn 10 (by omega)))))))))))))))))
  · refine ⟨-2, h, z_si h 61 0 0, ?_, ?_, I.m⟩
    · unfold f_X9_sale
      exact gdE (yg0 H) (bnd (yR0_0 H) (bnd (yR1_3 H) (bnd (c_hasS_f C hx) (if_pos rfl))))
    · unfold f_X10_sale
      exact gdE (yg61 H) (bnd (yP61 H 0 0) (bnd (e_isK_f (h := z_si h 61 0 0) H1 hS1 (by rw [e1]; exact hx)) (if_pos rfl)))
def salT (A : Nat → Int32) (w i : Nat) : Int32 := match w with
  | 3 => A (1087 + 41 * i + 1)
  | 4 => naS A i
  | 5 => ptO A 2 i
  | 6 => npT A i
  | 7 => ptO A 3 i
  | 8 => ptO A 4 i
  | _ => if stS A i then 1 else 0
theorem e_ofSales {h : Z_H} (H : LY h) {A T : Nat → Int32} {c : Nat → Nat → Int32} (eA : z_i h 62 = A) (R : RS c A T) (h14 : z_i h 61 14 = -1) {w : Nat} (hw : (3 ≤ w ∧ w ≤ 8) ∨ w = 17) : ∃ g, f_X10_ofSales h 61 (nI w) = some (sm (salT A w) (nk A), g) ∧ MW h g := by
  have hN := R.1.1
  have hS := R.1.2.2.1
  have h40 := hS.1
  have hM := VS.m hN hS
  have key := lp_ex (b := f_X10_ofSales_l1 61 (nI w)) (fun k (g : Z_H) => (sm (salT A w) k, nI k, g)) (fun k g => MW h g) (fun g => some (sm (salT A w) (nk A), g)) (nk A) ?_ ?_ (nk A) FU 0 h (by omega) (by unfold FU; omega) MW.rf
  · obtain ⟨g, g1, key⟩ := key
    have key' : lp (f_X10_ofSales_l1 61 (nI w)) FU (0, 0, h) = some (sm (salT A w) (nk A), g) := key
    refine ⟨g, ?_, g1⟩
    unfold f_X10_ofSales
    exact gdE (yg61 H) (bnd key' rfl)
  · intro k g hk hg
    have G := hg.ly H
    have eg : z_i g 62 = A := hg.a.trans eA
    have hMg : MSale (z_i g 62) := by rw [eg]; exact hM
    have a146 := e_146 G hMg
    rw [eg] at a146
    have o1 := e_oa1 (s := k) G (by omega)
    have ne := e_netS (h := g) (s := k) (v := A (1087 + 41 * k + 1)) G (by omega)
    have p2 := e_paysOf (h := g) (i := k) (f := 2) G hMg (by rw [eg]; exact hk) (by omega)
    have p3 := e_paysOf (h := g) (i := k) (f := 3) G hMg (by rw [eg]; exact hk) (by omega)
    have p4 := e_paysOf (h := g) (i := k) (f := 4) G hMg (by rw [eg]; exact hk) (by omega)
    have np := e_netPaysOf (h := g) (i := k) G hMg (by rw [eg]; exact hk)
    rw [eg] at o1 ne p2 p3 p4 np
    have p2 : f_X10_paysOf g 61 (nI k) 2 = some (ptO A 2 k) := p2
    have p3 : f_X10_paysOf g 61 (nI k) 3 = some (ptO A 3 k) := p3
    have p4 : f_X10_paysOf g 61 (nI k) 4 = some (ptO A 4 k) := p4
    have hw' : w = 3 ∨ w = 4 ∨ w = 5 ∨ w = 6 ∨ w = 7 ∨ w = 8 ∨ w = 17 := by omega
    rcases hw' with rfl | rfl | rfl | rfl | rfl | rfl | rfl
    · refine ⟨g, hg, fun rec => ?_⟩
      unfold f_X10_ofSales_l1
      refine bnd (yR61_1 G) (bnd a146 ((if_neg (nI_ge hk (by omega))).trans (jnE ((if_pos rfl).trans (bnd o1 (ltE ?_))))))
      rw [nI_1]
      rfl
    · refine ⟨g, hg, fun rec => ?_⟩
      unfold f_X10_ofSales_l1
      refine bnd (yR61_1 G) (bnd a146 ((if_neg (nI_ge hk (by omega))).trans (jnE ((if_neg (by decide)).trans ((if_pos rfl).trans (bnd o1 (bnd ne (ltE ?_))))))))
      rw [nI_1]
      rfl
    · refine ⟨g, hg, fun rec => ?_⟩
      unfold f_X10_ofSales_l1
      refine bnd (yR61_1 G) (bnd a146 ((if_neg (nI_ge hk (by omega))).trans (jnE ((if_neg (by decide)).trans ((if_neg (by decide)).trans ((if_pos rfl).trans (bnd p2 (ltE ?_))))))))
      rw [nI_1]
      rfl
    · refine ⟨g, hg, fun rec => ?_⟩
      unfold f_X10_ofSales_l1
      refine bnd (yR61_1 G) (bnd a146 ((if_neg (nI_ge hk (by omega))).trans (jnE ((if_neg (by decide)).trans ((if_neg (by decide)).trans ((if_neg (by decide)).trans ((if_pos rfl).trans (bnd np (ltE ?_)))))))))
      rw [nI_1]
      rfl
    · refine ⟨g, hg, fun rec => ?_⟩
      unfold f_X10_ofSales_l1
      refine bnd (yR61_1 G) (bnd a146 ((if_neg (nI_ge hk (by omega))).trans (jnE ((if_neg (by decide)).trans ((if_neg (by decide)).trans ((if_neg (by decide)).trans ((if_neg (by decide)).trans ((if_pos rfl).trans (bnd p3 (ltE ?_))))))))))
      rw [nI_1]
      rfl
    · refine ⟨g, hg, fun rec => ?_⟩
      unfold f_X10_ofSales_l1
      refine bnd (yR61_1 G) (bnd a146 ((if_neg (nI_ge hk (by omega))).trans (jnE ((if_neg (by decide)).trans ((if_neg (by decide)).trans ((if_neg (by decide)).trans ((if_neg (by decide)).trans ((if_neg (by decide)).trans ((if_pos rfl).trans (bnd p4 (ltE ?_)))))))))))
      rw [nI_1]
      rfl
    · obtain ⟨g', s1, s2⟩ := e_stale G eg R (by rw [hg.2.2.2.2 14 (by omega)]; exact h14) hk
      refine ⟨g', hg.tr s2, fun rec => ?_⟩
      unfold f_X10_ofSales_l1
      refine bnd (yR61_1 G) (bnd a146 ((if_neg (nI_ge hk (by omega))).trans (jnE ((if_neg (by decide)).trans ((if_neg (by decide)).trans ((if_neg (by decide)).trans ((if_neg (by decide)).trans ((if_neg (by decide)).trans ((if_neg (by decide)).trans (bd2E s1 ?_))))))))))
      show _ = rec (sm (salT A 17) k + (if stS A k then 1 else 0), nI (k + 1), g')
      cases stS A k with
      | true =>
        refine (if_neg (show ¬ (if true = true then (1 : Int32) else 0) = 0 by decide)).trans (ltE ?_)
        rw [nI_1]
        rfl
      | false =>
        refine (if_pos (show (if false = true then (1 : Int32) else 0) = 0 by decide)).trans (ltE ?_)
        rw [nI_1]
        rfl
  · intro rec g hg
    have G := hg.ly H
    have eg : z_i g 62 = A := hg.a.trans eA
    have a146 := e_146 G (by rw [eg]; exact hM)
    rw [eg] at a146
    unfold f_X10_ofSales_l1
    exact bnd (yR61_1 G) (bnd a146 (if_pos (nI_le (Nat.le_refl _) (by omega))))
theorem c_staleSales {h : Z_H} (I : Inv h) : ∃ g, f_X9_staleSales h 0 = some (sm (salT (z_i h 62) 17) (nk (z_i h 62)), g) ∧ QS h g := by
  have H := I.1
  have C0 := I.ca
  have L : LK (cl h) (z_i h 62) := I.2.1.lk
  have Iq : ∀ g, QS h g → CA g (z_i h 62) := fun g q => by
    have a := (q.inv I).ca
    rw [q.a] at a
    exact a
  generalize eA : z_i h 62 = A at *
  obtain ⟨en, h99⟩ := C0.now
  have h40 := C0.k.2
  obtain ⟨g, p1, p2, p3, p4⟩ := c_look H h99 L
  have C := Iq g p2.qs
  have G := C.1
  have key := lp_sum (b := f_X9_staleSales_l1 0 g) (N := nk A) (salT A 17) (by omega) ?_ ?_ 0
  · refine ⟨g, ?_, p2.qs⟩
    unfold f_X9_staleSales
    refine gdE (yg0 H) (bnd (yR0_3 H) (bnd (yR0_0 H) (bnd (yR0_0 H) (bnd ((yI1 H 8).trans (congrArg some en)) (bnd p1 (bnd key ?_))))))
    rw [Int32.zero_add]
  · intro rec i a hi
    have st := c_stale C L.2.2.1 p3 p4 (L.ok h99) hi
    unfold f_X9_staleSales_l1
    refine bnd (yR0_0 G) (bnd (yR1_3 G) (bnd ((yI21 G 0).trans (congrArg some C.k.1)) ((if_neg (nI_ge hi (by omega))).trans (bnd st (jnE ?_)))))
    show _ = rec (a + (if stS A i then 1 else 0), nI (i + 1))
    cases stS A i with
    | true =>
      refine (if_neg (show ¬ (if true = true then (1 : Int32) else 0) = 0 by decide)).trans (ltE ?_)
      rw [nI_1]
      rfl
    | false =>
      refine (if_pos (show (if false = true then (1 : Int32) else 0) = 0 by decide)).trans (ltE ?_)
      rw [nI_1]
      rfl
  · intro rec a
    unfold f_X9_staleSales_l1
    exact bnd (yR0_0 G) (bnd (yR1_3 G) (bnd ((yI21 G 0).trans (congrArg some C.k.1)) (if_pos (nI_le (Nat.le_refl _) (by omega)))))
theorem op_books {h : Z_H} (I : Inv h) {x : Int32} : ∃ r h1 h2, f_X9_books h 0 x = some (r, h1) ∧ f_X10_books h1 61 x = some (r, h2) ∧ Inv h2 := by
  have H := I.1
  have C := I.ca
  have hv := I.v
  have R := I.2.1
  have L : LK (cl h) (z_i h 62) := I.2.1.lk
  have cst := c_staleSales I
  have cgn := fun b => c_greatNow I (b := b)
  have hM1 : MSale (z_i (z_si h 61 0 0) 62) := I.m.ms
  generalize eA : z_i h 62 = A at *
  generalize eT : z_i h 63 = T at *
  have hN := hv.1
  have hS := hv.2.2.1
  have h10 := hN.2.1
  have h40 := hS.1
  have h99 := hN.2.2.2.1
  have H1 : LY (z_si h 61 0 0) := H
  have e1 : z_i (z_si h 61 0 0) 62 = A := by rw [m62, eA]
  have hN1 : VN (z_i (z_si h 61 0 0) 62) := by rw [e1]; exact hN
  have z1 : ¬ (1 : Int32) = 0 := by decide
  obtain ⟨en, hq⟩ := C.vn
  have R1 := I.m.2.1
  rw [e1] at R1
  have h14 := I.m.2.2.1
  have t2 : f_X5_allTogether h 21 2 = some (sm (fun i => ptO A 2 i) (nk A)) := c_allTogether (f := 2) C (by omega)
  have t3 : f_X5_allTogether h 21 3 = some (sm (fun i => ptO A 3 i) (nk A)) := c_allTogether (f := 3) C (by omega)
  have t4 : f_X5_allTogether h 21 4 = some (sm (fun i => ptO A 4 i) (nk A)) := c_allTogether (f := 4) C (by omega)
  have nvF : f_X7_allNotVested h 1 0 = some (sm (fun s => if qtB A s = false then nvS A (nI s) else 0) (nn A)) := c_allNotVested C (b := false)
  have nvT : f_X7_allNotVested h 1 1 = some (sm (fun s => if qtB A s = true then nvS A (nI s) else 0) (nn A)) := c_allNotVested C (b := true)
  -- the model's three ways
  have w1 : ∀ (g : Z_H) (w : Nat), LY g → z_i g 62 = A → w ≤ 2 → f_X10_books g 61 (nI w) = some (A (144 + w), z_si g 61 0 0) := fun g w G e hw => by
    have K : LY (z_si g 61 0 0) := G
    have ix : (144 : Int32) + nI w = nI (144 + w) := by rw [n_144, nI_add]
    unfold f_X10_books
    refine gdE (yg61 G) (bnd (yP61 G 0 0) (bnd (e_in_t (nI_pos' (by omega)) (show nI w ≤ (2 : Int32) from nI_le (b := 2) hw (by omega))) ((if_neg z1).trans (bnd (yR61_1 K) ?_))))
    rw [ix]
    refine bnd (yA62 K (show 144 + w < 10908 by omega)) ?_
    rw [m62, e]
  have w2 : ∀ (g k : Z_H) (w : Nat) (v : Int32), LY g → ((3 ≤ w ∧ w ≤ 8) ∨ w = 17) → f_X10_ofSales (z_si g 61 0 0) 61 (nI w) = some (v, k) → f_X10_books g 61 (nI w) = some (v, k) := fun g k w v G hw ho => by
    have n1 : ¬ ((0 : Int32) ≤ nI w ∧ nI w ≤ 2) := fun q => nI_ge (a := 2) (show 2 < w by omega) (by omega) q.2
    unfold f_X10_books
    rcases hw with hw | hw
    · exact gdE (yg61 G) (bnd (yP61 G 0 0) (bnd (e_in_f n1) ((if_pos rfl).trans (bnd (e_in_t (show (3 : Int32) ≤ nI w from nI_le (a := 3) hw.1 (by omega)) (show nI w ≤ (8 : Int32) from nI_le (b := 8) hw.2 (by omega))) (jnE ((if_neg z1).trans (bd2E ho rfl)))))))
    · have n2 : ¬ ((3 : Int32) ≤ nI w ∧ nI w ≤ 8) := fun q => nI_ge (a := 8) (show 8 < w by omega) (by omega) q.2
      exact gdE (yg61 G) (bnd (yP61 G 0 0) (bnd (e_in_f n1) ((if_pos rfl).trans (bnd (e_in_f n2) (jnE ((if_pos rfl).trans ((if_pos (show nI w = 17 by rw [hw]; rfl)).trans (bd2E ho rfl))))))))
  have w3 : ∀ (g : Z_H) (w : Nat) (v : Int32), LY g → 9 ≤ w → w ≤ 15 → f_X10_ofAll (z_si g 61 0 0) 61 (nI w) = some v → f_X10_books g 61 (nI w) = some (v, z_si g 61 0 0) := fun g w v G hw hw2 ho => by
    have n1 : ¬ ((0 : Int32) ≤ nI w ∧ nI w ≤ 2) := fun q => nI_ge (a := 2) (show 2 < w by omega) (by omega) q.2
    have n2 : ¬ ((3 : Int32) ≤ nI w ∧ nI w ≤ 8) := fun q => nI_ge (a := 8) (show 8 < w by omega) (by omega) q.2
    have n17 : ¬ nI w = 17 := fun e => by
      have := (nI_eq (a := w) (b := 17) (by omega) (by omega)).mp e
      omega
    unfold f_X10_books
    exact gdE (yg61 G) (bnd (yP61 G 0 0) (bnd (e_in_f n1) ((if_pos rfl).trans (bnd (e_in_f n2) (jnE ((if_pos rfl).trans ((if_neg n17).trans (bnd (e_in_t (show (9 : Int32) ≤ nI w from nI_le (a := 9) hw (by omega)) (show nI w ≤ (15 : Int32) from nI_le (b := 15) hw2 (by omega))) ((if_neg z1).trans (bnd ho rfl))))))))))
  have w4 : ∀ (g k1 k2 : Z_H) (y : Int32) (R : Int32 × Z_H), LY g → ¬ ((0 : Int32) ≤ y ∧ y ≤ 2) → ¬ ((3 : Int32) ≤ y ∧ y ≤ 8) → ¬ y = 17 → ¬ ((9 : Int32) ≤ y ∧ y ≤ 15) → f_X10_laysOwn (z_si g 61 0 0) 61 = some k1 → f_X10_now k1 61 = some (nI (nwN A)) → f_X10_laysMonth k1 61 (nI (nwN A)) = some k2 → (if y = 16 then ((f_X10_activeNow k2 61).bind fun t15 => some (t15, k2)) else (jn (fun (_ : Unit) => jn (fun (y12 : Int32) => (f_X10_greatest k2 61 y12).bind fun t14 => some (t14, k2)) (fun j13 => if y = 19 then (j13 1) else (j13 0))) (fun j11 => if y = 18 then (j11 ()) else (if y = 19 then (j11 ()) else (some ((-2), k2)))))) = some R → f_X10_books g 61 y = some R := fun g k1 k2 y R G n1 n2 n17 n3 l1 l2 l3 hR => by
    unfold f_X10_books
    exact gdE (yg61 G) (bnd (yP61 G 0 0) (bnd (e_in_f n1) ((if_pos rfl).trans (bnd (e_in_f n2) (jnE ((if_pos rfl).trans ((if_neg n17).trans (bnd (e_in_f n3) ((if_pos rfl).trans (bnd l1 (bnd l2 (bnd l3 hR))))))))))))
  have sc : ∀ g : Z_H, Inv g → z_i g 62 = A → ∃ k1 k2, f_X10_laysOwn (z_si g 61 0 0) 61 = some k1 ∧ f_X10_now k1 61 = some (nI (nwN A)) ∧ f_X10_laysMonth k1 61 (nI (nwN A)) = some k2 ∧ LY k2 ∧ z_i k2 62 = A ∧ MSn k2 (sc0 A (nwN A)) (nwN A) ∧ Inv k2 := fun g Ig eg => by
    have e8 : z_i (z_si g 61 0 0) 62 = A := by rw [m62, eg]
    obtain ⟨k1, k2, b1, b2, b3, b4, b5, b6, b7⟩ := e_scene2 Ig.m.1 e8 L Ig.m.2.2.1 h99
    refine ⟨k1, k2, b1, by rw [e_now (b2.ly Ig.m.1), b2.a.trans e8, hN.2.2.2.2], b3, b4.ly (b2.ly Ig.m.1), b4.a.trans (b2.a.trans e8), b7, (b2.tr b4).qs.inv Ig.m⟩
  rcases nI_or (x := x) (n := 20) (by omega) with ⟨w, hw, rfl⟩ | ⟨hyn, hx⟩
  · have hw' : w = 0 ∨ w = 1 ∨ w = 2 ∨ w = 3 ∨ w = 4 ∨ w = 5 ∨ w = 6 ∨ w = 7 ∨ w = 8 ∨ w = 9 ∨ w = 10 ∨ w = 11 ∨ w = 12 ∨ w = 13 ∨ w = 14 ∨ w = 15 ∨ w = 16 ∨ w = 17 ∨ w = 18 ∨ w = 19 := by omega
    rcases hw' with rfl | rfl | rfl | rfl | rfl | rfl | rfl | rfl | rfl | rfl | rfl | rfl | rfl | rfl | rfl | rfl | rfl | rfl | rfl | rfl
    · refine ⟨A (144 + 0), h, z_si h 61 0 0, ?_, w1 h 0 H eA (by omega), I.m⟩
      unfold f_X9_books
      exact gdE (yg0 H) (bnd (yR0_0 H) (bnd (yR1_3 H) ((if_pos rfl).trans (bnd (yR0_0 H) (bnd ((yI1 H 8).trans (congrArg some en)) rfl)))))
    · refine ⟨A (144 + 1), h, z_si h 61 0 0, ?_, w1 h 1 H eA (by omega), I.m⟩
      unfold f_X9_books
      exact gdE (yg0 H) (bnd (yR0_0 H) (bnd (yR1_3 H) ((if_neg (by decide)).trans ((if_pos rfl).trans (bnd (yR0_0 H) (bnd (yR1_2 H) (bnd ((yI13 H 0).trans (congrArg some C.2.2.2.2.2.1.1)) rfl)))))))
    · refine ⟨A (144 + 2), h, z_si h 61 0 0, ?_, w1 h 2 H eA (by omega), I.m⟩
      unfold f_X9_books
      exact gdE (yg0 H) (bnd (yR0_0 H) (bnd (yR1_3 H) ((if_neg (by decide)).trans ((if_neg (by decide)).trans ((if_pos rfl).trans (bnd ((yI21 H 0).trans (congrArg some C.2.2.2.2.2.2.1.1)) rfl))))))
    · obtain ⟨k, k1, k2⟩ := e_ofSales H1 e1 R1 h14 (w := 3) (by omega)
      refine ⟨sm (salT A 3) (nk A), h, k, ?_, w2 h k 3 _ H (by omega) k1, k2.qs.inv I.m⟩
      unfold f_X9_books
      exact gdE (yg0 H) (bnd (yR0_0 H) (bnd (yR1_3 H) ((if_neg (by decide)).trans ((if_neg (by decide)).trans ((if_neg (by decide)).trans ((if_pos rfl).trans (bnd (c_allAmounts C) rfl)))))))
    · obtain ⟨k, k1, k2⟩ := e_ofSales H1 e1 R1 h14 (w := 4) (by omega)
      refine ⟨sm (salT A 4) (nk A), h, k, ?_, w2 h k 4 _ H (by omega) k1, k2.qs.inv I.m⟩
      unfold f_X9_books
      exact gdE (yg0 H) (bnd (yR0_0 H) (bnd (yR1_3 H) ((if_neg (by decide)).trans ((if_neg (by decide)).trans ((if_neg (by decide)).trans ((if_neg (by decide)).trans ((if_pos rfl).trans (bnd (c_allNetAmounts C L.2.2.2.2.2.2.2.2) rfl))))))))
    · obtain ⟨k, k1, k2⟩ := e_ofSales H1 e1 R1 h14 (w := 5) (by omega)
      refine ⟨sm (salT A 5) (nk A), h, k, ?_, w2 h k 5 _ H (by omega) k1, k2.qs.inv I.m⟩
      unfold f_X9_books
      exact gdE (yg0 H) (bnd (yR0_0 H) (bnd (yR1_3 H) ((if_neg (by decide)).trans ((if_neg (by decide)).trans ((if_neg (by decide)).trans ((if_neg (by decide)).trans ((if_neg (by decide)).trans ((if_pos rfl).trans (bnd t2 rfl)))))))))
    · obtain ⟨k, k1, k2⟩ := e_ofSales H1 e1 R1 h14 (w := 6) (by omega)
      refine ⟨sm (salT A 6) (nk A), h, k, ?_, w2 h k 6 _ H (by omega) k1, k2.qs.inv I.m⟩
      unfold f_X9_books
      exact gdE (yg0 H) (bnd (yR0_0 H) (bnd (yR1_3 H) ((if_neg (by decide)).trans ((if_neg (by decide)).trans ((if_neg (by decide)).trans ((if_neg (by decide)).trans ((if_neg (by decide)).trans ((if_neg (by decide)).trans ((if_pos rfl).trans (bnd (c_allNetPays C) rfl))))))))))
    · obtain ⟨k, k1, k2⟩ := e_ofSales H1 e1 R1 h14 (w := 7) (by omega)
      refine ⟨sm (salT A 7) (nk A), h, k, ?_, w2 h k 7 _ H (by omega) k1, k2.qs.inv I.m⟩
      unfold f_X9_books
      exact gdE (yg0 H) (bnd (yR0_0 H) (bnd (yR1_3 H) ((if_neg (by decide)).trans ((if_neg (by decide)).trans ((if_neg (by decide)).trans ((if_neg (by decide)).trans ((if_neg (by decide)).trans ((if_neg (by decide)).trans ((if_neg (by decide)).trans ((if_pos rfl).trans (bnd t3 rfl)))))))))))
    · obtain ⟨k, k1, k2⟩ := e_ofSales H1 e1 R1 h14 (w := 8) (by omega)
      refine ⟨sm (salT A 8) (nk A), h, k, ?_, w2 h k 8 _ H (by omega) k1, k2.qs.inv I.m⟩
      unfold f_X9_books
      exact gdE (yg0 H) (bnd (yR0_0 H) (bnd (yR1_3 H) ((if_neg (by decide)).trans ((if_neg (by decide)).trans ((if_neg (by decide)).trans ((if_neg (by decide)).trans ((if_neg (by decide)).trans ((if_neg (by decide)).trans ((if_neg (by decide)).trans ((if_neg (by decide)).trans ((if_pos rfl).trans (bnd t4 rfl))))))))))))
    · have oa := e_ofAll (h := z_si h 61 0 0) (w := 9) H1 hN1 hM1 (by omega)
      rw [e1] at oa
      have oa : f_X10_ofAll (z_si h 61 0 0) 61 (nI 9) = some (sm (fun i => vsO A i) (nk A)) := by
        rw [← all_earned hS hN]
        exact oa
      refine ⟨sm (fun i => vsO A i) (nk A), h, z_si h 61 0 0, ?_, w3 h 9 _ H (by omega) (by omega) oa, I.m⟩
      unfold f_X9_books
      exact gdE (yg0 H) (bnd (yR0_0 H) (bnd (yR1_3 H) ((if_neg (by decide)).trans ((if_neg (by decide)).trans ((if_neg (by decide)).trans ((if_neg (by decide)).trans ((if_neg (by decide)).trans ((if_neg (by decide)).trans ((if_neg (by decide)).trans ((if_neg (by decide)).trans ((if_neg (by decide)).trans ((if_pos rfl).trans (bnd (yR0_0 H) (bnd (c_allVested C) rfl))))))))))))))
    · have oa := e_ofAll (h := z_si h 61 0 0) (w := 10) H1 hN1 hM1 (by omega)
      rw [e1] at oa
      refine ⟨sm (allT A 10) (nn A), h, z_si h 61 0 0, ?_, w3 h 10 _ H (by omega) (by omega) oa, I.m⟩
      unfold f_X9_books
      exact gdE (yg0 H) (bnd (yR0_0 H) (bnd (yR1_3 H) ((if_neg (by decide)).trans ((if_neg (by decide)).trans ((if_neg (by decide)).trans ((if_neg (by decide)).trans ((if_neg (by decide)).trans ((if_neg (by decide)).trans ((if_neg (by decide)).trans ((if_neg (by decide)).trans ((if_neg (by decide)).trans ((if_neg (by decide)).trans ((if_pos rfl).trans (bnd (yR0_0 H) (bnd nvF rfl)))))))))))))))
    · have oa := e_ofAll (h := z_si h 61 0 0) (w := 11) H1 hN1 hM1 (by omega)
      rw [e1] at oa
      refine ⟨sm (allT A 11) (nn A), h, z_si h 61 0 0, ?_, w3 h 11 _ H (by omega) (by omega) oa, I.m⟩
      unfold f_X9_books
      exact gdE (yg0 H) (bnd (yR0_0 H) (bnd (yR1_3 H) ((if_neg (by decide)).trans ((if_neg (by decide)).trans ((if_neg (by decide)).trans ((if_neg (by decide)).trans ((if_neg (by decide)).trans ((if_neg (by decide)).trans ((if_neg (by decide)).trans ((if_neg (by decide)).trans ((if_neg (by decide)).trans ((if_neg (by decide)).trans ((if_neg (by decide)).trans ((if_pos rfl).trans (bnd (yR0_0 H) (bnd nvT rfl))))))))))))))))
    · have oa := e_ofAll (h := z_si h 61 0 0) (w := 12) H1 hN1 hM1 (by omega)
      rw [e1] at oa
      refine ⟨sm (allT A 12) (nn A), h, z_si h 61 0 0, ?_, w3 h 12 _ H (by omega) (by omega) oa, I.m⟩
      unfold f_X9_books
      exact gdE (yg0 H) (bnd (yR0_0 H) (bnd (yR1_3 H) ((if_neg (by decide)).trans ((if_neg (by decide)).trans ((if_neg (by decide)).trans ((if_neg (by decide)).trans ((if_neg (by decide)).trans ((if_neg (by decide)).trans ((if_neg (by decide)).trans ((if_neg (by decide)).trans ((if_neg (by decide)).trans ((if_neg (by decide)).trans ((if_neg (by decide)).trans ((if_neg (by decide)).trans ((if_pos rfl).trans (bnd (yR0_0 H) (bnd (yR1_2 H) (bnd (c_allDrawn C) rfl))))))))))))))))))
    · obtain ⟨g, g1, g2⟩ := c_allDebts C
      have qg : QS h g := ⟨g2.1, g2.2.1, g2.2.2.1, fun a ha => g2.2.2.2 a (fun e => by rw [e] at ha; cases ha) (fun e => by rw [e] at ha; cases ha), by rw [g2.2.2.2 61 (by omega) (by omega)]⟩
      have Ig := qg.inv I
      have e8 : z_i (z_si g 61 0 0) 62 = A := by rw [m62, qg.a, eA]
      have oa := e_ofAll (h := z_si g 61 0 0) (w := 13) Ig.m.1 (by rw [e8]; exact hN) Ig.m.ms (by omega)
      rw [e8] at oa
      refine ⟨sm (allT A 13) (nn A), g, z_si g 61 0 0, ?_, w3 g 13 _ Ig.1 (by omega) (by omega) oa, Ig.m⟩
      unfold f_X9_books
      exact gdE (yg0 H) (bnd (yR0_0 H) (bnd (yR1_3 H) ((if_neg (by decide)).trans ((if_neg (by decide)).trans ((if_neg (by decide)).trans ((if_neg (by decide)).trans ((if_neg (by decide)).trans ((if_neg (by decide)).trans ((if_neg (by decide)).trans ((if_neg (by decide)).trans ((if_neg (by decide)).trans ((if_neg (by decide)).trans ((if_neg (by decide)).trans ((if_neg (by decide)).trans ((if_neg (by decide)).trans ((if_pos rfl).trans (bnd (yR0_0 H) (bd2E g1 rfl))))))))))))))))))
    · obtain ⟨g, g1, g2⟩ := c_debtors C (x := -1)
      have qg : QS h g := ⟨g2.1, g2.2.1, g2.2.2.1, fun a ha => g2.2.2.2 a (fun e => by rw [e] at ha; cases ha) (fun e => by rw [e] at ha; cases ha), by rw [g2.2.2.2 61 (by omega) (by omega)]⟩
      have Ig := qg.inv I
      have e8 : z_i (z_si g 61 0 0) 62 = A := by rw [m62, qg.a, eA]
      have oa := e_ofAll (h := z_si g 61 0 0) (w := 14) Ig.m.1 (by rw [e8]; exact hN) Ig.m.ms (by omega)
      rw [e8] at oa
      refine ⟨sm (allT A 14) (nn A), g, z_si g 61 0 0, ?_, w3 g 14 _ Ig.1 (by omega) (by omega) oa, Ig.m⟩
      unfold f_X9_books
      exact gdE (yg0 H) (bnd (yR0_0 H) (bnd (yR1_3 H) ((if_neg (by decide)).trans ((if_neg (by decide)).trans ((if_neg (by decide)).trans ((if_neg (by decide)).trans ((if_neg (by decide)).trans ((if_neg (by decide)).trans ((if_neg (by decide)).trans ((if_neg (by decide)).trans ((if_neg (by decide)).trans ((if_neg (by decide)).trans ((if_neg (by decide)).trans ((if_neg (by decide)).trans ((if_neg (by decide)).trans ((if_neg (by decide)).trans ((if_pos rfl).trans (bnd (yR0_0 H) (bd2E g1 rfl)))))))))))))))))))
    · have oa := e_ofAll15 (h := z_si h 61 0 0) H1 hN1 hM1
      rw [e1] at oa
      refine ⟨nI (bsN (qtB A) (nn A)), h, z_si h 61 0 0, ?_, w3 h 15 _ H (by omega) (by omega) oa, I.m⟩
      unfold f_X9_books
      exact gdE (yg0 H) (bnd (yR0_0 H) (bnd (yR1_3 H) ((if_neg (by decide)).trans ((if_neg (by decide)).trans ((if_neg (by decide)).trans ((if_neg (by decide)).trans ((if_neg (by decide)).trans ((if_neg (by decide)).trans ((if_neg (by decide)).trans ((if_neg (by decide)).trans ((if_neg (by decide)).trans ((if_neg (by decide)).trans ((if_neg (by decide)).trans ((if_neg (by decide)).trans ((if_neg (by decide)).trans ((if_neg (by decide)).trans ((if_neg (by decide)).trans ((if_pos rfl).trans (bnd (yR0_0 H) (bnd (yR1_2 H) (bnd (c_leavers C) rfl)))))))))))))))))))))
    · obtain ⟨g, p1, p2, p3, p4⟩ := c_look H h99 L
      have Ig := p2.qs.inv I
      obtain ⟨k1, k2, s1, s2, s3, s4, s5, s6, s7⟩ := sc g Ig (by rw [p2.qs.a, eA])
      have G := Ig.1
      have ac := e_activeNow s4 s5 L s6
      have an : f_X9_activeNow h 0 = some (nI (bsN (inA (sc0 A (nwN A)) (A 3)) (nn A)), g) := by
        unfold f_X9_activeNow
        exact gdE (yg0 H) (bnd (yR0_3 H) (bnd (yR0_0 H) (bnd (yR0_0 H) (bnd ((yI1 H 8).trans (congrArg some C.now.1)) (bnd p1 (bnd (yR0_3 G) (bnd ((yI50 G 9).trans (congrArg some p4.1)) rfl)))))))
      refine ⟨nI (bsN (inA (sc0 A (nwN A)) (A 3)) (nn A)), g, k2, ?_, w4 g k1 k2 16 _ G (by decide) (by decide) (by decide) (by decide) s1 s2 s3 ((if_pos rfl).trans (bnd ac rfl)), s7⟩
      unfold f_X9_books
      exact gdE (yg0 H) (bnd (yR0_0 H) (bnd (yR1_3 H) ((if_neg (by decide)).trans ((if_neg (by decide)).trans ((if_neg (by decide)).trans ((if_neg (by decide)).trans ((if_neg (by decide)).trans ((if_neg (by decide)).trans ((if_neg (by decide)).trans ((if_neg (by decide)).trans ((if_neg (by decide)).trans ((if_neg (by decide)).trans ((if_neg (by decide)).trans ((if_neg (by decide)).trans ((if_neg (by decide)).trans ((if_neg (by decide)).trans ((if_neg (by decide)).trans ((if_neg (by decide)).trans ((if_pos rfl).trans (bd2E an rfl))))))))))))))))))))
    · obtain ⟨g, g1, g2⟩ := cst
      have Im := (g2.inv I).m
      have e8 : z_i (z_si g 61 0 0) 62 = A := by rw [m62, g2.a, eA]
      have R8 := Im.2.1
      rw [e8] at R8
      obtain ⟨k, k1, k2⟩ := e_ofSales Im.1 e8 R8 Im.2.2.1 (w := 17) (by omega)
      refine ⟨sm (salT A 17) (nk A), g, k, ?_, w2 g k 17 _ (g2.ly H) (by omega) k1, k2.qs.inv Im⟩
      unfold f_X9_books
      exact gdE (yg0 H) (bnd (yR0_0 H) (bnd (yR1_3 H) ((if_neg (by decide)).trans ((if_neg (by decide)).trans ((if_neg (by decide)).trans ((if_neg (by decide)).trans ((if_neg (by decide)).trans ((if_neg (by decide)).trans ((if_neg (by decide)).trans ((if_neg (by decide)).trans ((if_neg (by decide)).trans ((if_neg (by decide)).trans ((if_neg (by decide)).trans ((if_neg (by decide)).trans ((if_neg (by decide)).trans ((if_neg (by decide)).trans ((if_neg (by decide)).trans ((if_neg (by decide)).trans ((if_neg (by decide)).trans ((if_pos rfl).trans (bd2E g1 rfl)))))))))))))))))))))
    · obtain ⟨g, g1, g2⟩ := cgn 0
      have Ig := g2.inv I
      obtain ⟨k1, k2, s1, s2, s3, s4, s5, s6, s7⟩ := sc g Ig (by rw [g2.a, eA])
      have gr := e_greatest s4 s5 L s6 (b := 0)
      refine ⟨_, g, k2, ?_, w4 g k1 k2 18 _ Ig.1 (by decide) (by decide) (by decide) (by decide) s1 s2 s3 ((if_neg (by decide)).trans (jnE ((if_pos rfl).trans (jnE ((if_neg (by decide)).trans (bnd gr rfl)))))), s7⟩
      unfold f_X9_books
      exact gdE (yg0 H) (bnd (yR0_0 H) (bnd (yR1_3 H) ((if_neg (by decide)).trans ((if_neg (by decide)).trans ((if_neg (by decide)).trans ((if_neg (by decide)).trans ((if_neg (by decide)).trans ((if_neg (by decide)).trans ((if_neg (by decide)).trans ((if_neg (by decide)).trans ((if_neg (by decide)).trans ((if_neg (by decide)).trans ((if_neg (by decide)).trans ((if_neg (by decide)).trans ((if_neg (by decide)).trans ((if_neg (by decide)).trans ((if_neg (by decide)).trans ((if_neg (by decide)).trans ((if_neg (by decide)).trans ((if_neg (by decide)).trans ((if_pos rfl).trans (bd2E g1 rfl))))))))))))))))))))))
    · obtain ⟨g, g1, g2⟩ := cgn 1
      have Ig := g2.inv I
      obtain ⟨k1, k2, s1, s2, s3, s4, s5, s6, s7⟩ := sc g Ig (by rw [g2.a, eA])
      have gr := e_greatest s4 s5 L s6 (b := 1)
      refine ⟨_, g, k2, ?_, w4 g k1 k2 19 _ Ig.1 (by decide) (by decide) (by decide) (by decide) s1 s2 s3 ((if_neg (by decide)).trans (jnE ((if_neg (by decide)).trans ((if_pos rfl).trans (jnE ((if_pos rfl).trans (bnd gr rfl))))))), s7⟩
      unfold f_X9_books
      exact gdE (yg0 H) (bnd (yR0_0 H) (bnd (yR1_3 H) ((if_neg (by decide)).trans ((if_neg (by decide)).trans ((if_neg (by decide)).trans ((if_neg (by decide)).trans ((if_neg (by decide)).trans ((if_neg (by decide)).trans ((if_neg (by decide)).trans ((if_neg (by decide)).trans ((if_neg (by decide)).trans ((if_neg (by decide)).trans ((if_neg (by decide)).trans ((if_neg (by decide)).trans ((if_neg (by decide)).trans ((if_neg (by decide)).trans ((if_neg (by decide)).trans ((if_neg (by decide)).trans ((if_neg (by decide)).trans ((if_neg (by decide)).trans ((if_neg (by decide)).trans ((if_pos rfl).trans (bd2E g1 rfl)))))))))))))))))))))))
  · obtain ⟨k1, k2, s1, s2, s3, s4, s5, s6, s7⟩ := sc h I eA
    have no : ∀ lo hi, lo ≤ hi → hi < 20 → ¬ (nI lo ≤ x ∧ x ≤ nI hi) := fun lo hi hl hh q => by
      obtain ⟨j, hj, rfl⟩ := nI_of (x := x) (fun w => nI_pos (show lo < 2 ^ 31 by omega) (Int32.lt_of_le_of_lt q.1 w))
      have : j ≤ hi := (nI_leI (by omega) (by omega)).mp q.2
      exact hyn j (by omega) rfl
    refine ⟨-2, h, k2, ?_, w4 h k1 k2 x _ H (no 0 2 (by omega) (by omega)) (no 3 8 (by omega) (by omega)) (hyn 17 (by omega)) (no 9 15 (by omega) (by omega)) s1 s2 s3 ((if_neg (hyn 16 (by omega))).trans (jnE ((if_neg (hyn 18 (by omega))).trans (if_neg (hyn 19 (by omega)))))), s7⟩
    unfold f_X9_books
    exact gdE (yg0 H) (bnd (yR0_0 H) (bnd (yR1_3 H) ((if_neg (hyn 0 (by omega))).trans ((if_neg (hyn 1 (by omega))).trans ((if_neg (hyn 2 (by omega))).trans ((if_neg (hyn 3 (by omega))).trans ((if_neg (hyn 4 (by omega))).trans ((if_neg (hyn 5 (by omega))).trans ((if_neg (hyn 6 (by omega))).trans ((if_neg (hyn 7 (by omega))).trans ((if_neg (hyn 8 (by omega))).trans ((if_neg (hyn 9 (by omega))).trans ((if_neg (hyn 10 (by omega))).trans ((if_neg (hyn 11 (by omega))).trans ((if_neg (hyn 12 (by omega))).trans ((if_neg (hyn 13 (by omega))).trans ((if_neg (hyn 14 (by omega))).trans ((if_neg (hyn 15 (by omega))).trans ((if_neg (hyn 16 (by omega))).trans ((if_neg (hyn 17 (by omega))).trans ((if_neg (hyn 18 (by omega))).trans (if_neg (hyn 19 (by omega))))))))))))))))))))))))
