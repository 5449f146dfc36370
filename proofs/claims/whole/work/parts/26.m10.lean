/-- one entry of a seller's row is another: when he quit (1), what he has drawn (3) -/
theorem RS_ent {c c' : Nat → Nat → Int32} {A A' T : Nat → Int32} (hR : RS c A T) {s w : Nat} (hw : w = 1 ∨ w = 3) (h : ∀ j, j ≠ 147 + 94 * s + w → A' j = A j) (hc : ∀ o, o < 32 → o ≠ 14 → o ≠ 15 → c' o = c o) (hs : s < 10) (hC : VC A' s) (h14 : ∀ t, t < nn A → c' 14 t = A' (147 + 94 * t + 1)) (h15 : ∀ t, t < nn A → c' 15 t = A' (147 + 94 * t + 3)) : RS c' A' T := by
  obtain ⟨⟨v1, v2, v3, v4, v5, v6, v7, v8, v9⟩, r1, r2, r3, r4, r5, r6⟩ := hR
  have h1 : ∀ j, j < 147 → A' j = A j := fun j hj => h j (by omega)
  have h3 : ∀ j, 1087 ≤ j → A' j = A j := fun j hj => h j (by omega)
  have h2 : ∀ t v, v < 94 → v ≠ 1 → v ≠ 3 → A' (147 + 94 * t + v) = A (147 + 94 * t + v) := fun t v hv e1 e3 => h _ (by omega)
  have en : nn A' = nn A := by unfold nn; rw [h1 145 (by omega)]
  have ew : nwN A' = nwN A := by unfold nwN; rw [h1 144 (by omega)]
  have ej : ∀ s, jo A' s = jo A s := fun s => by unfold jo; rw [h2 s 0 (by omega) (by omega) (by omega)]
  have ek : nk A' = nk A := by unfold nk; rw [h1 146 (by omega)]
  have eq : ∀ i, nq A' i = nq A i := fun i => by unfold nq; rw [h3 _ (by omega)]
  have ewh : ∀ i l, whS A' i l = whS A i l := fun i l => by unfold whS; rw [h3 _ (by omega)]
  have emc : ∀ s, mc A' s = mc A s := fun s => by unfold mc; rw [h2 s 4 (by omega) (by omega) (by omega)]
  have emm : ∀ s i, i < 12 → mvm A' s i = mvm A s i := fun s i hi => by unfold mvm; rw [h2 s (5 + i) (by omega) (by omega) (by omega)]
  have emt : ∀ s i, i < 12 → mvt A' s i = mvt A s i := fun s i hi => by unfold mvt; rw [h2 s (17 + i) (by omega) (by omega) (by omega)]
  have enj : ∀ s, nj A' s = nj A s := fun s => by unfold nj; rw [h2 s 29 (by omega) (by omega) (by omega)]
  have esp : ∀ s, s < nn A → ∀ m, spS A' s m = spS A s m := by
    intro s hs m
    have hm := (v5 s hs).1
    unfold spS
    rw [emc, h2 s 2 (by omega) (by omega) (by omega), itf_congr (g' := spG A s m) (mc A s) 0 _ (fun k q _ hk => ?_)]
    unfold spG
    rw [h2 s (5 + k) (by omega) (by omega) (by omega), h2 s (17 + k) (by omega) (by omega) (by omega)]
  refine ⟨⟨?_, fun t ht => ?_, ?_, VP_to (fun j _ h => h1 j (by omega)) v4, fun s hs => ?_, fun m hm s hs => ?_, ?_, ?_, ?_⟩, ?_, ?_, ?_, ?_, ?_, ?_⟩
  · unfold VN at *
    rw [en, ew, h1 145 (by omega), h1 144 (by omega)]
    exact v1
  · rw [en] at ht
    by_cases e : t = s
    · rw [e]; exact hC
    · have := v2 t ht
      unfold VC at *
      rw [ej, ew, h (147 + 94 * t + 0) (by omega), h (147 + 94 * t + 1) (by omega), h (147 + 94 * t + 3) (by omega)]
      exact this
  · unfold VS
    rw [ek, h1 146 (by omega)]
    refine ⟨v3.1, v3.2.1, fun i hi => ?_⟩
    have := v3.2.2 i hi
    unfold VK at *
    simp only [eq, ewh, en, ej, ew]
    rw [h3 (1087 + 41 * i + 0) (by omega), h3 (1087 + 41 * i + 1) (by omega), h3 (1087 + 41 * i + 2) (by omega), h3 (1087 + 41 * i + 3) (by omega), h3 (1087 + 41 * i + 4) (by omega), h3 (1087 + 41 * i + 5) (by omega)]
    exact this
  · rw [en] at hs
    obtain ⟨a1, a2, a3, a4, a5, a6⟩ := v5 s hs
    unfold VM
    simp only [emc, en, ej, ew]
    rw [h2 s 4 (by omega) (by omega) (by omega), h2 s 2 (by omega) (by omega) (by omega)]
    refine ⟨a1, a2, a3, fun i hi => ?_, fun i i' hi hi' => ?_, a6⟩
    · rw [h2 s (5 + i) (by omega) (by omega) (by omega), h2 s (17 + i) (by omega) (by omega) (by omega), emm s i (by omega), emt s i (by omega)]
      exact a4 i hi
    · rw [emm s i (by omega), emm s i' (by omega)]
      exact a5 i i' hi hi'
  · rw [en] at hs ⊢
    obtain ⟨k, hk, e⟩ := v6 m hm s hs
    refine ⟨k, hk, ?_⟩
    rw [upk_congr (P := pr A m) (n := nn A) (fun t ht => by unfold pr; rw [esp t ht]) (fun t p ht hp => ?_) k s hs]
    · exact e
    · rcases pr_spec (v5 t ht) ht v1 (m := m) (by omega) with ⟨-, -, q⟩ | ⟨p', q1, -, -, q2, -⟩
      · rw [q] at hp; cases hp
      · rw [q2] at hp; cases hp; exact q1
  · intro s hs
    rw [en] at hs
    rw [enj, h2 s 29 (by omega) (by omega) (by omega)]
    exact v7 s hs
  · unfold VB at *
    simp only [ek, eq]
    intro i hi
    obtain ⟨p, p1, p2⟩ := v8 i hi
    exact ⟨p, fun l hl => by rw [h3 _ (by omega)]; exact p1 l hl, p2⟩
  · unfold VA nt at *
    rw [h1 0 (by omega)]
    exact v9
  · unfold RCc at *
    rw [en, h1 145 (by omega), h1 144 (by omega), hc 12 (by omega) (by omega) (by omega), hc 0 (by omega) (by omega) (by omega), hc 13 (by omega) (by omega) (by omega), hc 19 (by omega) (by omega) (by omega), hc 16 (by omega) (by omega) (by omega)]
    refine ⟨r1.1, r1.2.1, fun t ht => ?_⟩
    obtain ⟨q1, q2, q3, q4, q5⟩ := r1.2.2 t ht
    exact ⟨by rw [h2 t 0 (by omega) (by omega) (by omega)]; exact q1, h14 t ht, by rw [h2 t 2 (by omega) (by omega) (by omega)]; exact q3, h15 t ht, by rw [h2 t 4 (by omega) (by omega) (by omega)]; exact q5⟩
  · unfold RCs at *
    simp only [ek, eq]
    rw [h1 146 (by omega), hc 20 (by omega) (by omega) (by omega), hc 26 (by omega) (by omega) (by omega), hc 27 (by omega) (by omega) (by omega)]
    refine ⟨r2.1, fun i hi => ⟨fun f hf => ?_, ?_, fun l hl f hf => ?_⟩⟩
    · rw [hc (21 + f) (by omega) (by omega) (by omega), h3 _ (by omega)]
      exact (r2.2 i hi).1 f hf
    · rw [h3 _ (by omega)]
      exact (r2.2 i hi).2.1
    · rw [h3 _ (by omega)]
      exact (r2.2 i hi).2.2 l hl f hf
  · refine RCp_to (fun j _ h => h1 j (by omega)) v4 ?_
    unfold RCp at *
    rw [hc 3 (by omega) (by omega) (by omega), hc 4 (by omega) (by omega) (by omega), hc 5 (by omega) (by omega) (by omega), hc 6 (by omega) (by omega) (by omega), hc 7 (by omega) (by omega) (by omega), hc 8 (by omega) (by omega) (by omega), hc 9 (by omega) (by omega) (by omega), hc 10 (by omega) (by omega) (by omega)]
    exact r3
  · intro s hs
    rw [en] at hs
    have h12 := (v5 s hs).1
    obtain ⟨b1, b2, b3⟩ := r4 s hs
    rw [hc 17 (by omega) (by omega) (by omega), hc 18 (by omega) (by omega) (by omega), emc]
    refine ⟨fun i hi => ?_, fun j hj => ?_, b3⟩
    · obtain ⟨j, j1, j2, j3⟩ := b1 i hi
      exact ⟨j, j1, by rw [h2 s (5 + j) (by omega) (by omega) (by omega)]; exact j2, by rw [h2 s (17 + j) (by omega) (by omega) (by omega)]; exact j3⟩
    · obtain ⟨i, j1, j2, j3⟩ := b2 j hj
      exact ⟨i, j1, by rw [h2 s (5 + j) (by omega) (by omega) (by omega)]; exact j2, by rw [h2 s (17 + j) (by omega) (by omega) (by omega)]; exact j3⟩
  · refine ⟨fun s hs => ?_, fun s g1 g2 => ?_⟩
    · rw [en] at hs
      obtain ⟨q1, x, q2, q3, q4, q5⟩ := r5.1 s hs
      have h16 := (v7 s hs).1
      rw [hc 29 (by omega) (by omega) (by omega), hc 30 (by omega) (by omega) (by omega), hc 31 (by omega) (by omega) (by omega), enj, h2 s 29 (by omega) (by omega) (by omega)]
      refine ⟨q1, x, q2, q3, q4, fun i hi v hv => ?_⟩
      rw [h2 s (30 + 4 * i + v) (by omega) (by omega) (by omega)]
      exact q5 i hi v hv
    · rw [en] at g1
      rw [hc 29 (by omega) (by omega) (by omega), hc 30 (by omega) (by omega) (by omega)]
      exact r5.2 s g1 g2
  · unfold RCa nt at *
    rw [hc 1 (by omega) (by omega) (by omega), hc 2 (by omega) (by omega) (by omega), hc 0 (by omega) (by omega) (by omega), h1 0 (by omega), h1 1 (by omega), h1 2 (by omega)]
    exact r6
theorem c_line {h : Z_H} {A T : Nat → Int32} (H : LY h) (R : RS (cl h) A T) {s : Nat} (hs : s < nn A) {w m mu sa : Int32} : ∃ h', f_X1_write h 29 (nI s) w m mu sa = some h' ∧ z_n h' = z_n h ∧ z_t h' = z_t h ∧ z_x h' = z_x h ∧ (∀ a, a ≠ 30 → a ≠ 31 → a ≠ 32 → z_i h' a = z_i h a) ∧ RS (cl h') (jA A s w m mu sa) T := by
  have h10 := R.1.1.2.1
  obtain ⟨q1, x, q2, q3, q4, q5⟩ := R.2.2.2.2.2.1.1 s hs
  obtain ⟨j1, j2⟩ := R.1.2.2.2.2.2.2.1 s hs
  obtain ⟨h', x1, x2, x3, x4, x5, x6, x7, x8⟩ := c_write (w := w) (m := m) (mu := mu) (sa := sa) H (by omega : s < 10) q2 j1 q3 (Eq.trans q1 j2)
  refine ⟨h', x1, x2, x3, x4, x5, RS_line R hs (x := x) q3 q2 (fun o h1 h2 h3 h4 => x5 (1 + o) (by omega) (by omega) (by omega)) x6 x7 x8⟩
theorem cl_of {h h' : Z_H} {o : Nat} (e : z_i h' (1 + o) = z_i h (1 + o)) : cl h' o = cl h o := e
theorem c_works_t {h : Z_H} {A : Nat → Int32} (C : CA h A) {s : Nat} (hs : s < nn A) : f_X0_works h 13 (nI s) = some (if A (147 + 94 * s + 1) = -1 then 1 else 0) := by
  have H := C.1
  unfold f_X0_works
  simp (disch := first | assumption | omega) only [gd, lt, jn, bd2, Option.bind_some, LY_si, LY_sl, LY_row, decide_true, decide_false, if_true, ite_true, ite_false, decide_eq_true_eq, yg0, yg1, yg2, yg4, yg13, yg21, yg29, yg35, yg36, yg45, yg50, yg59, yI0, yI1, yI2, yI4, yI13, yI21, yI29, yI35, yI36, yI45, yI50, yI59, yP0, yP1, yP2, yP4, yP13, yP21, yP29, yP35, yP36, yP45, yP50, yP59, yR0_0, yR0_1, yR0_2, yR0_3, yR0_4, yR1_0, yR1_1, yR1_2, yR1_3, yR1_4, yR1_5, yR2_0, yR4_4, yR4_5, yR4_6, yR4_7, yR4_8, yR4_9, yR4_10, yR4_11, yR13_1, yR13_2, yR13_3, yR13_4, yR13_5, yR13_6, yR13_7, yR21_1, yR21_2, yR21_3, yR21_4, yR21_5, yR21_6, yR21_7, yR29_0, yR29_1, yR29_2, yR35_0, yR35_1, yR35_2, yR35_3, yR35_4, yR36_4, yR36_5, yR36_6, yR36_7, yR36_8, yR36_9, yR36_10, yR36_11, yR45_0, yR50_0, yR50_1, yR50_2, yR50_3, yR50_4, yR50_5, yR50_6, yR50_7, yR59_1, yA3, yA5, yA6, yA7, yA8, yA9, yA10, yA11, yA12, yA14, yA15, yA16, yA17, yA18, yA19, yA20, yA22, yA23, yA24, yA25, yA26, yA27, yA28, yA30, yA31, yA32, yA33, yA37, yA38, yA39, yA40, yA41, yA42, yA43, yA44, yA46, yA47, yA48, yA49, yA51, yA52, yA53, yA54, yA55, yA56, yA57, yA58, yA60, yS3, yS5, yS6, yS7, yS8, yS9, yS10, yS11, yS12, yS14, yS15, yS16, yS17, yS18, yS19, yS20, yS22, yS23, yS24, yS25, yS26, yS27, yS28, yS30, yS31, yS32, yS33, yS37, yS38, yS39, yS40, yS41, yS42, yS43, yS44, yS46, yS47, yS48, yS49, yS51, yS52, yS53, yS54, yS55, yS56, yS57, yS58, yS60, c_has_t C hs, c_hasLeft H C.2.2.2.2.2.1 C.2.1 hs]
  rw [if_neg (by decide)]
  by_cases e : A (147 + 94 * s + 1) = -1
  · rw [if_pos e, if_pos e, if_pos rfl]
  · rw [if_neg e, if_neg e, if_neg (by decide)]
theorem c_works_f {h : Z_H} {A : Nat → Int32} (C : CA h A) {x : Int32} (hx : x < 0 ∨ (¬ x < 0 ∧ nI (nn A) ≤ x)) : f_X0_works h 13 x = some 0 := by
  have H := C.1
  unfold f_X0_works
  simp (disch := first | assumption | omega) only [gd, lt, jn, bd2, Option.bind_some, LY_si, LY_sl, LY_row, decide_true, decide_false, if_true, ite_true, ite_false, decide_eq_true_eq, yg0, yg1, yg2, yg4, yg13, yg21, yg29, yg35, yg36, yg45, yg50, yg59, yI0, yI1, yI2, yI4, yI13, yI21, yI29, yI35, yI36, yI45, yI50, yI59, yP0, yP1, yP2, yP4, yP13, yP21, yP29, yP35, yP36, yP45, yP50, yP59, yR0_0, yR0_1, yR0_2, yR0_3, yR0_4, yR1_0, yR1_1, yR1_2, yR1_3, yR1_4, yR1_5, yR2_0, yR4_4, yR4_5, yR4_6, yR4_7, yR4_8, yR4_9, yR4_10, yR4_11, yR13_1, yR13_2, yR13_3, yR13_4, yR13_5, yR13_6, yR13_7, yR21_1, yR21_2, yR21_3, yR21_4, yR21_5, yR21_6, yR21_7, yR29_0, yR29_1, yR29_2, yR35_0, yR35_1, yR35_2, yR35_3, yR35_4, yR36_4, yR36_5, yR36_6, yR36_7, yR36_8, yR36_9, yR36_10, yR36_11, yR45_0, yR50_0, yR50_1, yR50_2, yR50_3, yR50_4, yR50_5, yR50_6, yR50_7, yR59_1, yA3, yA5, yA6, yA7, yA8, yA9, yA10, yA11, yA12, yA14, yA15, yA16, yA17, yA18, yA19, yA20, yA22, yA23, yA24, yA25, yA26, yA27, yA28, yA30, yA31, yA32, yA33, yA37, yA38, yA39, yA40, yA41, yA42, yA43, yA44, yA46, yA47, yA48, yA49, yA51, yA52, yA53, yA54, yA55, yA56, yA57, yA58, yA60, yS3, yS5, yS6, yS7, yS8, yS9, yS10, yS11, yS12, yS14, yS15, yS16, yS17, yS18, yS19, yS20, yS22, yS23, yS24, yS25, yS26, yS27, yS28, yS30, yS31, yS32, yS33, yS37, yS38, yS39, yS40, yS41, yS42, yS43, yS44, yS46, yS47, yS48, yS49, yS51, yS52, yS53, yS54, yS55, yS56, yS57, yS58, yS60, c_has_f C hx]
theorem op_quit {h : Z_H} (I : Inv h) {x : Int32} : ∃ r h1 h2, f_X9_quit h 0 x = some (r, h1) ∧ f_X10_quit h1 61 x = some (r, h2) ∧ Inv h2 := by
  have H := I.1
  have H1 := I.m.1
  have C := I.ca
  have hv := I.v
  obtain ⟨en, h99⟩ := C.now
  have h10 := hv.1.2.1
  have e144 : z_i h 62 144 = nI (nwN (z_i h 62)) := hv.1.2.2.2.2
  have hn1 := I.m.v.1
  rcases nI_or (x := x) (n := nn (z_i h 62)) (by omega) with ⟨s, hs, rfl⟩ | ⟨hns, hx⟩
  · have eq1 := e_hasQuit (s := s) H1 (by omega)
    rw [m62] at eq1
    by_cases hq : z_i h 62 (147 + 94 * s + 1) = -1
    · by_cases h0 : nI s = 0
      · refine ⟨-1, h, z_si h 61 0 0, ?_, ?_, I.m⟩
        · unfold f_X9_quit
          simp (disch := first | assumption | omega) only [gd, lt, jn, bd2, Option.bind_some, LY_si, LY_sl, LY_row, decide_true, decide_false, if_true, ite_true, ite_false, decide_eq_true_eq, yg0, yg1, yg2, yg4, yg13, yg21, yg29, yg35, yg36, yg45, yg50, yg59, yI0, yI1, yI2, yI4, yI13, yI21, yI29, yI35, yI36, yI45, yI50, yI59, yP0, yP1, yP2, yP4, yP13, yP21, yP29, yP35, yP36, yP45, yP50, yP59, yR0_0, yR0_1, yR0_2, yR0_3, yR0_4, yR1_0, yR1_1, yR1_2, yR1_3, yR1_4, yR1_5, yR2_0, yR4_4, yR4_5, yR4_6, yR4_7, yR4_8, yR4_9, yR4_10, yR4_11, yR13_1, yR13_2, yR13_3, yR13_4, yR13_5, yR13_6, yR13_7, yR21_1, yR21_2, yR21_3, yR21_4, yR21_5, yR21_6, yR21_7, yR29_0, yR29_1, yR29_2, yR35_0, yR35_1, yR35_2, yR35_3, yR35_4, yR36_4, yR36_5, yR36_6, yR36_7, yR36_8, yR36_9, yR36_10, yR36_11, yR45_0, yR50_0, yR50_1, yR50_2, yR50_3, yR50_4, yR50_5, yR50_6, yR50_7, yR59_1, yA3, yA5, yA6, yA7, yA8, yA9, yA10, yA11, yA12, yA14, yA15, yA16, yA17, yA18, yA19, yA20, yA22, yA23, yA24, yA25, yA26, yA27, yA28, yA30, yA31, yA32, yA33, yA37, yA38, yA39, yA40, yA41, yA42, yA43, yA44, yA46, yA47, yA48, yA49, yA51, yA52, yA53, yA54, yA55, yA56, yA57, yA58, yA60, yS3, yS5, yS6, yS7, yS8, yS9, yS10, yS11, yS12, yS14, yS15, yS16, yS17, yS18, yS19, yS20, yS22, yS23, yS24, yS25, yS26, yS27, yS28, yS30, yS31, yS32, yS33, yS37, yS38, yS39, yS40, yS41, yS42, yS43, yS44, yS46, yS47, yS48, yS49, yS51, yS52, yS53, yS54, yS55, yS56, yS57, yS58, yS60]
          rw [if_pos h0]
        · unfold f_X10_quit
          simp (disch := first | assumption | omega) only [gd, lt, jn, bd2, Option.bind_some, LY_si, LY_sl, LY_row, decide_true, decide_false, if_true, ite_true, ite_false, decide_eq_true_eq, yg61, yI61, yP61, yR61_1, yR61_2, yR61_12, yR61_13, yR61_17, yR61_18, yR61_21, yR61_22, yR61_23, yR61_25, yA62, yA63, yA64, yA65, yA66, yA67, yA68, yA69, yA70, yA71, yS62, yS63, yS64, yS65, yS66, yS67, yS68, yS69, yS70, yS71, e_isS_t H1 hn1 hs, eq1]
          rw [if_neg (by decide), if_pos hq, if_pos rfl, if_pos h0]
      · let A1 := upd (z_i h 62) (147 + 94 * s + 1) (nI (nwN (z_i h 62)))
        have hA1 : A1 = upd (z_i h 62) (147 + 94 * s + 1) (nI (nwN (z_i h 62))) := rfl
        have hvc := hv.2.1 s hs
        have nn1 : nn A1 = nn (z_i h 62) := by unfold nn; rw [hA1, upd_o (by omega)]
        have R1 : RS (cl (z_si h 15 s (nI (nwN (z_i h 62))))) A1 (z_i h 63) := by
          refine RS_ent I.2.1 (s := s) (w := 1) (Or.inl rfl) (fun j hj => upd_o hj) (fun o h1 h2 h3 => cl_si (by omega)) (by omega) ?_ (fun t ht => ?_) (fun t ht => ?_)
          · unfold VC
            have ej : jo A1 s = jo (z_i h 62) s := by unfold jo; rw [hA1, upd_o (by omega)]
            have ew : nwN A1 = nwN (z_i h 62) := by unfold nwN; rw [hA1, upd_o (by omega)]
            have u0 : A1 (147 + 94 * s + 0) = z_i h 62 (147 + 94 * s + 0) := upd_o (by omega)
            have u3 : A1 (147 + 94 * s + 3) = z_i h 62 (147 + 94 * s + 3) := upd_o (by omega)
            rw [ej, ew, u0, u3, show A1 (147 + 94 * s + 1) = nI (nwN (z_i h 62)) from upd_s]
            exact ⟨hvc.1, hvc.2.1, Or.inr ⟨nwN (z_i h 62), hvc.2.1, Nat.le_refl _, rfl⟩, hvc.2.2.2⟩
          · show z_i (z_si h 15 s (nI (nwN (z_i h 62)))) 15 t = _
            rw [z_si_i]
            unfold upd
            by_cases e : t = s
            · rw [if_pos e, hA1, e, upd_s]
            · rw [if_neg e, hA1, upd_o (by omega)]
              exact (C.2.2.2.2.2.1.2.2 t ht).2.1
          · show z_i (z_si h 15 s (nI (nwN (z_i h 62)))) 16 t = _
            rw [z_si_o (by omega), hA1, upd_o (by omega)]
            exact (C.2.2.2.2.2.1.2.2 t ht).2.2.2.1
        have G1 : LY (z_si h 15 s (nI (nwN (z_i h 62)))) := H
        have C1 : CA (z_si h 15 s (nI (nwN (z_i h 62)))) A1 := RS.ca G1 R1
        obtain ⟨g, x1, x2, x3, x4, x5, x6⟩ := c_line (w := 3) (m := nI (nwN (z_i h 62))) (mu := nvS A1 (nI s)) (sa := -1) G1 R1 (s := s) (by omega)
        have Gg : LY g := LY_x x2 x4 G1
        have ena : z_i (z_si h 15 s (nI (nwN (z_i h 62)))) 1 8 = nI (nwN (z_i h 62)) := en
        -- the model
        have e62g : z_i g 62 = z_i h 62 := by rw [x5 62 (by omega) (by omega) (by omega), z_si_o (by omega)]
        have Gm : LY (z_si g 61 0 0) := Gg
        have em62 : z_i (z_si g 61 0 0) 62 = z_i h 62 := by rw [z_si_o (by omega), e62g]
        have hvm : VN (z_i (z_si g 61 0 0) 62) := by rw [em62]; exact hv.1
        have G2 : LY (z_si (z_si g 61 0 0) 62 (147 + 94 * s + 1) (nI (nwN (z_i h 62)))) := Gg
        have e2 : z_i (z_si (z_si g 61 0 0) 62 (147 + 94 * s + 1) (nI (nwN (z_i h 62)))) 62 = A1 := by rw [z_si_i, em62]
        have ms2 : MSale (z_i (z_si (z_si g 61 0 0) 62 (147 + 94 * s + 1) (nI (nwN (z_i h 62)))) 62) := by rw [e2]; exact VS.m R1.1.1 R1.1.2.2.1
        obtain ⟨k, y1, y2, y3⟩ := e_writes (h := z_si (z_si g 61 0 0) 62 (147 + 94 * s + 1) (nI (nwN (z_i h 62)))) (w := 3) (mu := nvS A1 (nI s)) (sa := -1) G2 (by omega : s < 10)
        rw [e2] at y3
        have a144 : A1 144 = nI (nwN (z_i h 62)) := by rw [hA1, upd_o (by omega)]; exact e144
        rw [a144] at y3
        have enm := e_notVested G2 ms2 (x := nI s)
        rw [e2] at enm
        refine ⟨nvS A1 (nI s), g, k, ?_, ?_, ?_⟩
        · unfold f_X9_quit
          simp (disch := first | assumption | omega) only [gd, lt, jn, bd2, Option.bind_some, LY_si, LY_sl, LY_row, decide_true, decide_false, if_true, ite_true, ite_false, decide_eq_true_eq, yg0, yg1, yg2, yg4, yg13, yg21, yg29, yg35, yg36, yg45, yg50, yg59, yI0, yI1, yI2, yI4, yI13, yI21, yI29, yI35, yI36, yI45, yI50, yI59, yP0, yP1, yP2, yP4, yP13, yP21, yP29, yP35, yP36, yP45, yP50, yP59, yR0_0, yR0_1, yR0_2, yR0_3, yR0_4, yR1_0, yR1_1, yR1_2, yR1_3, yR1_4, yR1_5, yR2_0, yR4_4, yR4_5, yR4_6, yR4_7, yR4_8, yR4_9, yR4_10, yR4_11, yR13_1, yR13_2, yR13_3, yR13_4, yR13_5, yR13_6, yR13_7, yR21_1, yR21_2, yR21_3, yR21_4, yR21_5, yR21_6, yR21_7, yR29_0, yR29_1, yR29_2, yR35_0, yR35_1, yR35_2, yR35_3, yR35_4, yR36_4, yR36_5, yR36_6, yR36_7, yR36_8, yR36_9, yR36_10, yR36_11, yR45_0, yR50_0, yR50_1, yR50_2, yR50_3, yR50_4, yR50_5, yR50_6, yR50_7, yR59_1, yA3, yA5, yA6, yA7, yA8, yA9, yA10, yA11, yA12, yA14, yA15, yA16, yA17, yA18, yA19, yA20, yA22, yA23, yA24, yA25, yA26, yA27, yA28, yA30, yA31, yA32, yA33, yA37, yA38, yA39, yA40, yA41, yA42, yA43, yA44, yA46, yA47, yA48, yA49, yA51, yA52, yA53, yA54, yA55, yA56, yA57, yA58, yA60, yS3, yS5, yS6, yS7, yS8, yS9, yS10, yS11, yS12, yS14, yS15, yS16, yS17, yS18, yS19, yS20, yS22, yS23, yS24, yS25, yS26, yS27, yS28, yS30, yS31, yS32, yS33, yS37, yS38, yS39, yS40, yS41, yS42, yS43, yS44, yS46, yS47, yS48, yS49, yS51, yS52, yS53, yS54, yS55, yS56, yS57, yS58, yS60, c_works_t C hs, en, ena, c_notVested C1 (x := nI s), x1]
          rw [if_neg h0, if_pos hq, if_neg (by decide)]
        · unfold f_X10_quit
          have eqm := e_hasQuit (s := s) Gm (by omega)
          rw [em62] at eqm
          have enow : f_X10_now (z_si g 61 0 0) 61 = some (nI (nwN (z_i h 62))) := by rw [e_now Gm, em62, e144]
          have est : f_X10_setSeller (z_si g 61 0 0) 61 (nI s) 1 (nI (nwN (z_i h 62))) = some (z_si (z_si g 61 0 0) 62 (147 + 94 * s + 1) (nI (nwN (z_i h 62)))) := e_setSeller (w := 1) Gm (by omega)
          simp (disch := first | assumption | omega) only [gd, lt, jn, bd2, Option.bind_some, LY_si, LY_sl, LY_row, decide_true, decide_false, if_true, ite_true, ite_false, decide_eq_true_eq, yg61, yI61, yP61, yR61_1, yR61_2, yR61_12, yR61_13, yR61_17, yR61_18, yR61_21, yR61_22, yR61_23, yR61_25, yA62, yA63, yA64, yA65, yA66, yA67, yA68, yA69, yA70, yA71, yS62, yS63, yS64, yS65, yS66, yS67, yS68, yS69, yS70, yS71, e_isS_t Gm hvm (by rw [em62]; exact hs), eqm, enow, est, enm, y1]
          rw [if_neg (by decide), if_pos hq, if_pos rfl, if_neg h0]
        · have kz : ∀ a, a ≠ 61 → a ≠ 62 → z_i k a = z_i g a := fun a h1 h2 => by rw [y2.2.2.2 a h2 h2, z_si_o h2, z_si_o h1]
          refine I.of ⟨?_, ?_, ?_, fun a ha => ?_, fun j hj => ?_, fun j hj => ?_, ?_⟩ ?_ ?_
          · rw [y2.1]; exact x2
          · rw [y2.2.1]; exact x3
          · rw [y2.2.2.1]; exact x4
          · rw [kz a (by omega) (by omega), x5 a (by omega) (by omega) (by omega), z_si_o (by omega)]
          · rw [y3]
            unfold jA
            rw [if_neg (by omega), if_neg (by omega), if_neg (by omega), if_neg (by omega), if_neg (by omega), if_neg (by omega), hA1, upd_o (by omega)]
          · rw [kz 63 (by omega) (by omega), x5 63 (by omega) (by omega) (by omega), z_si_o (by omega)]
          · rw [kz 71 (by omega) (by omega), x5 71 (by omega) (by omega) (by omega), z_si_o (by omega)]
          · rw [y3, kz 63 (by omega) (by omega), x5 63 (by omega) (by omega) (by omega), z_si_o (by omega)]
            exact ⟨x6.1, RC_congr (fun o _ ho => kz (1 + o) (by omega) (by omega)) x6.2⟩
          · rw [y2.2.2.2 61 (by omega) (by omega), z_si_o (by omega), zi_si, if_pos rfl, if_neg (by omega), x5 61 (by omega) (by omega) (by omega), z_si_o (by omega)]
            exact I.2.2.1
    · refine ⟨-1, h, z_si h 61 0 0, ?_, ?_, I.m⟩
      · unfold f_X9_quit
        simp (disch := first | assumption | omega) only [gd, lt, jn, bd2, Option.bind_some, LY_si, LY_sl, LY_row, decide_true, decide_false, if_true, ite_true, ite_false, decide_eq_true_eq, yg0, yg1, yg2, yg4, yg13, yg21, yg29, yg35, yg36, yg45, yg50, yg59, yI0, yI1, yI2, yI4, yI13, yI21, yI29, yI35, yI36, yI45, yI50, yI59, yP0, yP1, yP2, yP4, yP13, yP21, yP29, yP35, yP36, yP45, yP50, yP59, yR0_0, yR0_1, yR0_2, yR0_3, yR0_4, yR1_0, yR1_1, yR1_2, yR1_3, yR1_4, yR1_5, yR2_0, yR4_4, yR4_5, yR4_6, yR4_7, yR4_8, yR4_9, yR4_10, yR4_11, yR13_1, yR13_2, yR13_3, yR13_4, yR13_5, yR13_6, yR13_7, yR21_1, yR21_2, yR21_3, yR21_4, yR21_5, yR21_6, yR21_7, yR29_0, yR29_1, yR29_2, yR35_0, yR35_1, yR35_2, yR35_3, yR35_4, yR36_4, yR36_5, yR36_6, yR36_7, yR36_8, yR36_9, yR36_10, yR36_11, yR45_0, yR50_0, yR50_1, yR50_2, yR50_3, yR50_4, yR50_5, yR50_6, yR50_7, yR59_1, yA3, yA5, yA6, yA7, yA8, yA9, yA10, yA11, yA12, yA14, yA15, yA16, yA17, yA18, yA19, yA20, yA22, yA23, yA24, yA25, yA26, yA27, yA28, yA30, yA31, yA32, yA33, yA37, yA38, yA39, yA40, yA41, yA42, yA43, yA44, yA46, yA47, yA48, yA49, yA51, yA52, yA53, yA54, yA55, yA56, yA57, yA58, yA60, yS3, yS5, yS6, yS7, yS8, yS9, yS10, yS11, yS12, yS14, yS15, yS16, yS17, yS18, yS19, yS20, yS22, yS23, yS24, yS25, yS26, yS27, yS28, yS30, yS31, yS32, yS33, yS37, yS38, yS39, yS40, yS41, yS42, yS43, yS44, yS46, yS47, yS48, yS49, yS51, yS52, yS53, yS54, yS55, yS56, yS57, yS58, yS60, c_works_t C hs]
        rw [if_neg hq, if_pos rfl]
        split <;> rfl
      · unfold f_X10_quit
        simp (disch := first | assumption | omega) only [gd, lt, jn, bd2, Option.bind_some, LY_si, LY_sl, LY_row, decide_true, decide_false, if_true, ite_true, ite_false, decide_eq_true_eq, yg61, yI61, yP61, yR61_1, yR61_2, yR61_12, yR61_13, yR61_17, yR61_18, yR61_21, yR61_22, yR61_23, yR61_25, yA62, yA63, yA64, yA65, yA66, yA67, yA68, yA69, yA70, yA71, yS62, yS63, yS64, yS65, yS66, yS67, yS68, yS69, yS70, yS71, e_isS_t H1 hn1 hs, eq1]
        rw [if_neg (by decide), if_neg hq, if_neg (by decide)]
  · refine ⟨-1, h, z_si h 61 0 0, ?_, ?_, I.m⟩
    · unfold f_X9_quit
      simp (disch := first | assumption | omega) only [gd, lt, jn, bd2, Option.bind_some, LY_si, LY_sl, LY_row, decide_true, decide_false, if_true, ite_true, ite_false, decide_eq_true_eq, yg0, yg1, yg2, yg4, yg13, yg21, yg29, yg35, yg36, yg45, yg50, yg59, yI0, yI1, yI2, yI4, yI13, yI21, yI29, yI35, yI36, yI45, yI50, yI59, yP0, yP1, yP2, yP4, yP13, yP21, yP29, yP35, yP36, yP45, yP50, yP59, yR0_0, yR0_1, yR0_2, yR0_3, yR0_4, yR1_0, yR1_1, yR1_2, yR1_3, yR1_4, yR1_5, yR2_0, yR4_4, yR4_5, yR4_6, yR4_7, yR4_8, yR4_9, yR4_10, yR4_11, yR13_1, yR13_2, yR13_3, yR13_4, yR13_5, yR13_6, yR13_7, yR21_1, yR21_2, yR21_3, yR21_4, yR21_5, yR21_6, yR21_7, yR29_0, yR29_1, yR29_2, yR35_0, yR35_1, yR35_2, yR35_3, yR35_4, yR36_4, yR36_5, yR36_6, yR36_7, yR36_8, yR36_9, yR36_10, yR36_11, yR45_0, yR50_0, yR50_1, yR50_2, yR50_3, yR50_4, yR50_5, yR50_6, yR50_7, yR59_1, yA3, yA5, yA6, yA7, yA8, yA9, yA10, yA11, yA12, yA14, yA15, yA16, yA17, yA18, yA19, yA20, yA22, yA23, yA24, yA25, yA26, yA27, yA28, yA30, yA31, yA32, yA33, yA37, yA38, yA39, yA40, yA41, yA42, yA43, yA44, yA46, yA47, yA48, yA49, yA51, yA52, yA53, yA54, yA55, yA56, yA57, yA58, yA60, yS3, yS5, yS6, yS7, yS8, yS9, yS10, yS11, yS12, yS14, yS15, yS16, yS17, yS18, yS19, yS20, yS22, yS23, yS24, yS25, yS26, yS27, yS28, yS30, yS31, yS32, yS33, yS37, yS38, yS39, yS40, yS41, yS42, yS43, yS44, yS46, yS47, yS48, yS49, yS51, yS52, yS53, yS54, yS55, yS56, yS57, yS58, yS60, c_works_f C hx]
      split <;> rfl
    · unfold f_X10_quit
      simp (disch := first | assumption | omega) only [gd, lt, jn, bd2, Option.bind_some, LY_si, LY_sl, LY_row, decide_true, decide_false, if_true, ite_true, ite_false, decide_eq_true_eq, yg61, yI61, yP61, yR61_1, yR61_2, yR61_12, yR61_13, yR61_17, yR61_18, yR61_21, yR61_22, yR61_23, yR61_25, yA62, yA63, yA64, yA65, yA66, yA67, yA68, yA69, yA70, yA71, yS62, yS63, yS64, yS65, yS66, yS67, yS68, yS69, yS70, yS71, e_isS_f H1 hn1 (by rw [m62]; exact hx)]
