theorem byte_id {v : Int32} (h : -128 ≤ v ∧ v ≤ 127) : v.toInt8.toInt32 = v := by
  apply Int32.toInt_inj.mp
  rw [Int8.toInt_toInt32, Int32.toInt_toInt8]
  have h1 := Int32.le_iff_toInt_le.mp h.1
  have h2 := Int32.le_iff_toInt_le.mp h.2
  have e1 : (-128 : Int32).toInt = -128 := rfl
  have e2 : (127 : Int32).toInt = 127 := rfl
  rw [e1] at h1
  rw [e2] at h2
  unfold Int.bmod
  dsimp only
  split <;> omega
/-- rows that agree as far as they are used -/
theorem RS_row {c : Nat → Nat → Int32} {A A' T T' : Nat → Int32} (R : RS c A T) (h : ∀ j, j < 2727 → A' j = A j) (ht : ∀ j, j < 600 → T' j = T j) : RS c A' T' := by
  have hV := R.1
  have h10 := hV.1.2.1
  have h40 := hV.2.2.1.1
  have lo : LO A A' := fun j h1 _ => h j (by omega)
  have ek : nk A' = nk A := by unfold nk; rw [h 146 (by omega)]
  have row : ∀ i f, i < nk A → f < 41 → A' (1087 + 41 * i + f) = A (1087 + 41 * i + f) := fun i f hi hf => h _ (by omega)
  have eq : ∀ i, i < nk A → nq A' i = nq A i := fun i hi => by unfold nq; rw [row i 5 hi (by omega)]
  have base : RS c A' T := by
    refine RS_hi R lo (fun _ _ _ => rfl) ⟨by omega, by rw [ek, h 146 (by omega)]; exact hV.2.2.1.2.1, fun i hi => ?_⟩ (fun i hi => ?_) ⟨by rw [h 146 (by omega)]; exact R.2.2.1.1, fun i hi => ?_⟩
    · rw [ek] at hi
      obtain ⟨⟨w, m', to, b1, b2, b3, b4, b5, b6, b7, b8⟩, a2, a3, a4, a5, a6, a7⟩ := hV.2.2.1.2.2 i hi
      have ewh : ∀ l, l < nq A i → whS A' i l = whS A i l := fun l hl => by unfold whS; rw [row i _ hi (by omega)]
      unfold VK
      rw [eq i hi, lo.n.1, lo.n.2, row i 0 hi (by omega), row i 1 hi (by omega), row i 2 hi (by omega), row i 3 hi (by omega), row i 4 hi (by omega), row i 5 hi (by omega)]
      exact ⟨⟨w, m', to, b1, b2, b3, b4, by rw [lo.j (by omega)]; exact b5, b6, b7, b8⟩, a2, a3, a4, a5, fun l hl => by rw [ewh l hl]; exact a6 l hl, fun l l' hl hl' => by rw [ewh l hl, ewh l' hl']; exact a7 l l' hl hl'⟩
    · rw [ek] at hi
      obtain ⟨p', p1, p2⟩ := hV.2.2.2.2.2.2.2.1 i hi
      have := (hV.2.2.1.2.2 i hi).2.2.2.1
      rw [eq i hi]
      exact ⟨p', fun l hl => by rw [row i _ hi (by omega)]; exact p1 l hl, p2⟩
    · rw [ek] at hi
      obtain ⟨q1, q2, q3⟩ := R.2.2.1.2 i hi
      have q5 := (hV.2.2.1.2.2 i hi).2.2.2.1
      rw [eq i hi, row i 5 hi (by omega)]
      exact ⟨fun f hf => by rw [row i f hi (by omega)]; exact q1 f hf, q2, fun l hl f hf => by rw [row i _ hi (by omega)]; exact q3 l hl f hf⟩
  obtain ⟨⟨v1, v2, v3, v4, v5, v6, v7, v8, v9⟩, r1, r2, r3, r4, r5, r6⟩ := base
  exact ⟨⟨v1, v2, v3, v4, v5, v6, v7, v8, v9.1, v9.2.1, fun i hi => by rw [ht i (by have := v9.1; omega)]; exact v9.2.2 i hi⟩, r1, r2, r3, r4, r5, r6.1, r6.2.1, r6.2.2.1, fun i hi => by rw [ht i (by have := v9.1; omega)]; exact r6.2.2.2 i hi⟩
theorem RS_tape {c : Nat → Nat → Int32} {A T T' : Nat → Int32} (R : RS c A T) (ht : ∀ j, j < nt A → T' j = T j) : RS c A T' := by
  obtain ⟨⟨v1, v2, v3, v4, v5, v6, v7, v8, v9⟩, r1, r2, r3, r4, r5, r6⟩ := R
  exact ⟨⟨v1, v2, v3, v4, v5, v6, v7, v8, v9.1, v9.2.1, fun i hi => by rw [ht i hi]; exact v9.2.2 i hi⟩, r1, r2, r3, r4, r5, r6.1, r6.2.1, r6.2.2.1, fun i hi => by rw [ht i hi]; exact r6.2.2.2 i hi⟩
def cAl (F : Nat → Int32) (a b k : Nat) : Nat → Int32 := fun j => if b ≤ j ∧ j < b + k then F (a + (j - b)) else F j
def cBl (F : Nat → Int32) (a b k : Nat) : Nat → Int32 := fun j => if b ≤ j ∧ j < b + k then (F (a + (j - b))).toInt8.toInt32 else F j
theorem e_copyAll {h : Z_H} (H : LY h) {x y : Nat} (hx : x < 4) (hy : y < 4) (hxy : x ≠ y) : ∃ h', f_X10_copyAll h 61 (nI x) (nI y) = some h' ∧ TW h h' 62 63 ∧ z_i h' 62 = cAl (z_i h 62) (2727 * x) (2727 * y) 2727 ∧ z_i h' 63 = cBl (z_i h 63) (600 * x) (600 * y) 600 := by
  have dj : ∀ n k, k < n → (n * x + n ≤ n * y ∨ n * y + n ≤ n * x) := fun n k hk => by
    rcases Nat.lt_or_ge x y with q | q
    · have : n * (x + 1) ≤ n * y := Nat.mul_le_mul_left n q
      rw [Nat.mul_add] at this
      omega
    · have : n * (y + 1) ≤ n * x := Nat.mul_le_mul_left n (by omega)
      rw [Nat.mul_add] at this
      omega
  have d1 := dj 2727 0 (by omega)
  have d2 := dj 600 0 (by omega)
  have k1 := lp_ex (b := f_X10_copyAll_l1 61 (nI x) (nI y)) (fun k (g : Z_H) => (nI k, g)) (fun k g => ON h g 62 ∧ z_i g 62 = cAl (z_i h 62) (2727 * x) (2727 * y) k) some 2727 ?_ ?_ 2727 FU 0 h rfl (by unfold FU; omega) ⟨TW.rf, by
    funext j
    unfold cAl
    rw [if_neg (by omega)]⟩
  · obtain ⟨g, ⟨g1, g2⟩, k1⟩ := k1
    have k1' : lp (f_X10_copyAll_l1 61 (nI x) (nI y)) FU (0, h) = some g := k1
    have G := g1.ly H
    have k2 := lp_ex (b := f_X10_copyAll_l2 61 (nI x) (nI y)) (fun k (q : Z_H) => (nI k, q)) (fun k q => ON g q 63 ∧ z_i q 63 = cBl (z_i h 63) (600 * x) (600 * y) k) some 600 ?_ ?_ 600 FU 0 g rfl (by unfold FU; omega) ⟨TW.rf, by
      rw [g1.2.2.2 63 (by omega) (by omega)]
      funext j
      unfold cBl
      rw [if_neg (by omega)]⟩
    · obtain ⟨q, ⟨q1, q2⟩, k2⟩ := k2
      have k2' : lp (f_X10_copyAll_l2 61 (nI x) (nI y)) FU (0, g) = some q := k2
      refine ⟨q, ?_, ⟨q1.1.trans g1.1, q1.2.1.trans g1.2.1, q1.2.2.1.trans g1.2.2.1, fun a h1 h2 => by rw [q1.2.2.2 a h2 h2, g1.2.2.2 a h1 h1]⟩, by rw [q1.2.2.2 62 (by omega) (by omega)]; exact g2, q2⟩
      unfold f_X10_copyAll
      exact gdE (yg61 H) (bnd k1' (bnd k2' rfl))
    · rintro k q hk ⟨q1, q2⟩
      have Q := q1.ly G
      have i1 : (600 : Int32) * nI x + nI k = nI (600 * x + k) := by rw [n_600, nI_mul, nI_add]
      have i2 : (600 : Int32) * nI y + nI k = nI (600 * y + k) := by rw [n_600, nI_mul, nI_add]
      have src : z_i q 63 (600 * x + k) = z_i h 63 (600 * x + k) := by
        rw [q2]
        unfold cBl
        rw [if_neg (by omega)]
      refine ⟨z_si q 63 (600 * y + k) (z_i h 63 (600 * x + k)).toInt8.toInt32, ⟨q1.tr (TW_si (Or.inl rfl)), ?_⟩, fun rec => ?_⟩
      · rw [z_si_i, q2]
        funext j
        unfold cBl
        by_cases e : j = 600 * y + k
        · rw [e, upd_s, if_pos (by omega), show 600 * y + k - 600 * y = k by omega]
        · rw [upd_o e]
          by_cases c : 600 * y ≤ j ∧ j < 600 * y + k
          · rw [if_pos c, if_pos (by omega)]
          · rw [if_neg c, if_neg (by omega)]
      · unfold f_X10_copyAll_l2
        refine (if_neg (show ¬ (600 : Int32) ≤ nI k from nI_ge (b := 600) hk (by omega))).trans (bnd (yR61_2 Q) (bnd (yR61_2 Q) ?_))
        rw [i1, i2]
        refine bnd ((yA63 Q (show 600 * x + k < 2400 by omega)).trans (congrArg some src)) (bnd (yS63 Q (show 600 * y + k < 2400 by omega)) ?_)
        rw [nI_1]
    · rintro rec q _
      unfold f_X10_copyAll_l2
      exact if_pos (by decide)
  · rintro k g hk ⟨g1, g2⟩
    have G := g1.ly H
    have i1 : (2727 : Int32) * nI x + nI k = nI (2727 * x + k) := by rw [n_2727, nI_mul, nI_add]
    have i2 : (2727 : Int32) * nI y + nI k = nI (2727 * y + k) := by rw [n_2727, nI_mul, nI_add]
    have src : z_i g 62 (2727 * x + k) = z_i h 62 (2727 * x + k) := by
      rw [g2]
      unfold cAl
      rw [if_neg (by omega)]
    refine ⟨z_si g 62 (2727 * y + k) (z_i h 62 (2727 * x + k)), ⟨g1.tr (TW_si (Or.inl rfl)), ?_⟩, fun rec => ?_⟩
    · rw [z_si_i, g2]
      funext j
      unfold cAl
      by_cases e : j = 2727 * y + k
      · rw [e, upd_s, if_pos (by omega), show 2727 * y + k - 2727 * y = k by omega]
      · rw [upd_o e]
        by_cases c : 2727 * y ≤ j ∧ j < 2727 * y + k
        · rw [if_pos c, if_pos (by omega)]
        · rw [if_neg c, if_neg (by omega)]
    · unfold f_X10_copyAll_l1
      refine (if_neg (show ¬ (2727 : Int32) ≤ nI k from nI_ge (b := 2727) hk (by omega))).trans (bnd (yR61_1 G) (bnd (yR61_1 G) ?_))
      rw [i1, i2]
      refine bnd ((yA62 G (show 2727 * x + k < 10908 by omega)).trans (congrArg some src)) (bnd (yS62 G (show 2727 * y + k < 10908 by omega)) ?_)
      rw [nI_1]
  · rintro rec g _
    unfold f_X10_copyAll_l1
    exact if_pos (by decide)
theorem c_im {h : Z_H} (H : LY h) {k : Nat} (hk : k < 3) : aR h 34 (nI k) = some (z_r h 34 k) := by
  unfold aR
  rw [if_pos (H.ar (a := 34) (t := 3) rfl rfl rfl hk), nI_clamp (by omega)]
theorem op_again {h : Z_H} (I : Inv h) {x : Int32} : ∃ r h1 h2, f_X9_again h 0 x = some (r, h1) ∧ f_X10_again h1 61 x = some (r, h2) ∧ Inv h2 := by
  have H := I.1
  have H1 : LY (z_si h 61 0 0) := H
  have z1 : ¬ (1 : Int32) = 0 := by decide
  rcases nI_or (x := x) (n := 3) (by omega) with ⟨k, hk, rfl⟩ | ⟨-, hx⟩
  · have lt0 : ¬ nI k < 0 := nI_pos (by omega)
    have ge3 : ¬ (3 : Int32) ≤ nI k := nI_ge (b := 3) hk (by omega)
    have ein : ∀ g : Z_H, f_X10_in g (nI k) 0 2 = some 1 := fun g => e_in_t (nI_pos' (by omega)) (nI_le (b := 2) (by omega) (by omega))
    rcases I.2.2.2.1 k hk with ⟨a1, a2⟩ | ⟨a1, b, a2, a3, a4⟩
    · refine ⟨0, h, z_si h 61 0 0, ?_, ?_, I.m⟩
      · unfold f_X9_again
        refine gdE (yg0 H) ((if_neg lt0).trans ((if_neg ge3).trans (bnd (yR0_1 H) (bnd ((c_im H hk).trans (congrArg some a2)) ?_))))
        rfl
      · have e71 : aZ (z_si h 61 0 0) 71 (nI k) = some 0 := (yA71 H1 hk).trans (congrArg some a1)
        unfold f_X10_again
        exact gdE (yg61 H) (bnd (yP61 H 0 0) (bnd (ein _) ((if_neg z1).trans (bnd (yR61_25 H1) (bnd e71 (if_pos rfl))))))
    · obtain ⟨g, c1, c2, c3, c4, c5, c6⟩ := c_copy (h := h) (d := 1) (s := b) H.blk a3.blk (by have := a3.1; omega) a4
      have G := LY_x c2 c4 H
      let k0 := z_si g 61 0 0
      have K0 : LY k0 := G
      obtain ⟨q, q1, q2, q3, q4⟩ := e_copyAll (h := k0) (x := k + 1) (y := 0) K0 (by omega) (by omega) (by omega)
      have o62 : z_i k0 62 = z_i h 62 := (z_si_o (by omega)).trans (c5 62 (by omega))
      have o63 : z_i k0 63 = z_i h 63 := (z_si_o (by omega)).trans (c5 63 (by omega))
      rw [o62] at q3
      rw [o63] at q4
      have oth : ∀ a, a ≠ 61 → a ≠ 62 → a ≠ 63 → z_i q a = z_i g a := fun a h1 h2 h3 => by
        rw [q2.2.2.2 a h2 h3]
        exact z_si_o h1
      refine ⟨1, g, q, ?_, ?_, I.of ⟨q2.1.trans c2, q2.2.1.trans c3, q2.2.2.1.trans c4, fun a ha => ?_, fun j hj => ?_, fun j hj => ?_, ?_⟩ ?_ ?_⟩
      · unfold f_X9_again
        refine gdE (yg0 H) ((if_neg lt0).trans ((if_neg ge3).trans (bnd (yR0_1 H) (bnd ((c_im H hk).trans (congrArg some a2)) ?_))))
        show ((gR h 0 9 0).bind fun r3 => (gR h 0 9 1).bind fun r4 => (aR h r4 (nI k)).bind fun o5 => o5.bind fun r6 => (f_X7_copyFrom h r3 r6).bind fun h7 => some ((1 : Int32), h7)) = _
        exact bnd (yR0_0 H) (bnd (yR0_1 H) (bnd ((c_im H hk).trans (congrArg some a2)) (bnd rfl (bnd c1 rfl))))
      · have e71 : aZ k0 71 (nI k) = some 1 := (yA71 K0 hk).trans (congrArg some (by
          show z_i (z_si g 61 0 0) 71 k = 1
          rw [z_si_o (by omega), c5 71 (by omega)]
          exact a1))
        have q1' : f_X10_copyAll k0 61 (nI k + 1) 0 = some q := by
          rw [nI_1]
          exact q1
        unfold f_X10_again
        exact gdE (yg61 G) (bnd (yP61 G 0 0) (bnd (ein _) ((if_neg z1).trans (bnd (yR61_25 K0) (bnd e71 ((if_neg z1).trans (bnd q1' rfl)))))))
      · rw [oth a (by omega) (by omega) (by omega), c5 a (by omega)]
      · rw [q3]
        unfold cAl
        rw [if_neg (by omega)]
      · rw [q4]
        unfold cBl
        rw [if_neg (by omega)]
      · rw [oth 71 (by omega) (by omega) (by omega), c5 71 (by omega)]
      · have base : RS (cl q) (fun j => z_i h 62 (2727 * (k + 1) + j)) (fun j => z_i h 63 (600 * (k + 1) + j)) := ⟨c6.1, RC_congr (fun o _ ho => oth (1 + o) (by omega) (by omega) (by omega)) c6.2⟩
        have nt6 := base.1.2.2.2.2.2.2.2.2.1
        have fit := base.1.2.2.2.2.2.2.2.2.2.2
        have st := RS_tape (T' := z_i q 63) base (fun j hj => by
          rw [q4]
          unfold cBl
          rw [if_pos (by omega), show j - 600 * 0 = j by omega]
          exact byte_id (fit j hj))
        refine RS_row st (fun j hj => ?_) (fun _ _ => rfl)
        rw [q3]
        unfold cAl
        rw [if_pos (by omega), show j - 2727 * 0 = j by omega]
      · rw [q2.2.2.2 61 (by omega) (by omega)]
        show z_i (z_si g 61 0 0) 61 14 = -1
        rw [zi_si, if_pos rfl, if_neg (by omega), c5 61 (by omega)]
        exact I.2.2.1
  · refine ⟨0, h, z_si h 61 0 0, ?_, ?_, I.m⟩
    · unfold f_X9_again
      refine gdE (yg0 H) ?_
      rcases hx with q | ⟨q1, q2⟩
      · exact if_pos q
      · exact (if_neg q1).trans (if_pos q2)
    · unfold f_X10_again
      exact gdE (yg61 H) (bnd (yP61 H 0 0) (bnd (e_in_f (in_f' (n := 2) (by omega) hx)) (if_pos rfl)))
