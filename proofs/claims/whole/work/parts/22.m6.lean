/-! rows that agree but for the tape's first three places -/
theorem V3_N {A A' : Nat → Int32} (h : ∀ j, 3 ≤ j → A' j = A j) : VN A' = VN A := by
  unfold VN nn nwN
  simp (disch := omega) only [h]
theorem V3_C {A A' : Nat → Int32} (h : ∀ j, 3 ≤ j → A' j = A j) : (∀ s, s < nn A' → VC A' s) = ∀ s, s < nn A → VC A s := by
  unfold VC nn nwN jo
  simp (disch := omega) only [h]
theorem V3_S {A A' : Nat → Int32} (h : ∀ j, 3 ≤ j → A' j = A j) : VS A' = VS A := by
  unfold VS VK nk nq whS nn nwN jo
  simp (disch := omega) only [h]
theorem V3_P {A A' : Nat → Int32} (h : ∀ j, 3 ≤ j → A' j = A j) : VP A' = VP A := by
  unfold VP VF nf
  simp (disch := omega) only [h]
theorem V3_M {A A' : Nat → Int32} (h : ∀ j, 3 ≤ j → A' j = A j) : (∀ s, s < nn A' → VM A' s) = ∀ s, s < nn A → VM A s := by
  unfold VM nn nwN jo mc mvm mvt
  simp (disch := omega) only [h]
theorem V3_sp {A A' : Nat → Int32} (h : ∀ j, 147 ≤ j → A' j = A j) : spS A' = spS A := by
  funext s m
  unfold spS mc
  have e : spG A' s m = spG A s m := by
    funext i q
    unfold spG
    simp (disch := omega) only [h]
  rw [e]
  simp (disch := omega) only [h]
theorem V3_T {A A' : Nat → Int32} (h : ∀ j, 145 ≤ j → A' j = A j) : VT A' = VT A := by
  unfold VT nn pr
  rw [V3_sp (fun j hj => h j (by omega))]
  simp (disch := omega) only [h]
theorem V3_J {A A' : Nat → Int32} (h : ∀ j, 145 ≤ j → A' j = A j) : VJ A' = VJ A := by
  unfold VJ nn nj
  simp (disch := omega) only [h]
theorem V3_B {A A' : Nat → Int32} (h : ∀ j, 145 ≤ j → A' j = A j) : VB A' = VB A := by
  unfold VB nk nq
  simp (disch := omega) only [h]
theorem R3_c {c : Nat → Nat → Int32} {A A' : Nat → Int32} (h : ∀ j, 3 ≤ j → A' j = A j) : RCc c A' = RCc c A := by
  unfold RCc nn
  simp (disch := omega) only [h]
theorem R3_s {c : Nat → Nat → Int32} {A A' : Nat → Int32} (h : ∀ j, 145 ≤ j → A' j = A j) : RCs c A' = RCs c A := by
  unfold RCs nk nq
  simp (disch := omega) only [h]
theorem VF_to {A A' : Nat → Int32} (h : ∀ j, 3 ≤ j → j < 144 → A' j = A j) {l : Nat} (hl : l < 5) (hV : VF A l) : VF A' l := by
  obtain ⟨a1, a2, a3, ⟨d, d1, d2, d3⟩, a5⟩ := hV
  have e : nf A' l = nf A l := by unfold nf; rw [h _ (by omega) (by omega)]
  unfold VF
  rw [e, h (19 + 25 * l) (by omega) (by omega)]
  refine ⟨a1, a2, a3, ⟨d, d1, d2, fun j hj => ?_⟩, fun j hj => ?_⟩
  · rw [h (19 + 25 * l + (1 + j)) (by omega) (by omega)]
    exact d3 j hj
  · rw [h (19 + 25 * l + (9 + j)) (by omega) (by omega), h (19 + 25 * l + (17 + j)) (by omega) (by omega)]
    exact a5 j hj
theorem VP_to {A A' : Nat → Int32} (h : ∀ j, 3 ≤ j → j < 144 → A' j = A j) (hV : VP A) : VP A' := by
  obtain ⟨a1, a2, a3, a4, a5, a6⟩ := hV
  unfold VP
  rw [h 3 (by omega) (by omega), h 4 (by omega) (by omega), h 5 (by omega) (by omega), h 6 (by omega) (by omega)]
  refine ⟨a1, a2, a3, a4, fun r hr => ?_, fun l hl => VF_to h hl (a6 l hl)⟩
  rw [h (7 + r) (by omega) (by omega), h (11 + r) (by omega) (by omega), h (15 + r) (by omega) (by omega)]
  exact a5 r hr
theorem RCp_to {c : Nat → Nat → Int32} {A A' : Nat → Int32} (h : ∀ j, 3 ≤ j → j < 144 → A' j = A j) (hV : VP A) (hR : RCp c A) : RCp c A' := by
  obtain ⟨r1, r2, r3⟩ := hR
  refine ⟨fun i hi => by rw [h (3 + i) (by omega) (by omega)]; exact r1 i hi, fun r hr => ?_, fun l hl => ?_⟩
  · rw [h (7 + r) (by omega) (by omega), h (11 + r) (by omega) (by omega), h (15 + r) (by omega) (by omega)]
    exact r2 r hr
  · have e : nf A' l = nf A l := by unfold nf; rw [h _ (by omega) (by omega)]
    have h8 := (hV.2.2.2.2.2 l hl).2.1
    rw [h (19 + 25 * l) (by omega) (by omega), e]
    refine ⟨(r3 l hl).1, fun j hj => ?_⟩
    rw [h (19 + 25 * l + (1 + j)) (by omega) (by omega), h (19 + 25 * l + (9 + j)) (by omega) (by omega), h (19 + 25 * l + (17 + j)) (by omega) (by omega)]
    exact (r3 l hl).2 j hj
theorem R3_m {c : Nat → Nat → Int32} {A A' : Nat → Int32} (h : ∀ j, 145 ≤ j → A' j = A j) : RCm c A' = RCm c A := by
  unfold RCm nn mc
  simp (disch := omega) only [h]
theorem R3_j {c : Nat → Nat → Int32} {A A' : Nat → Int32} (h : ∀ j, 145 ≤ j → A' j = A j) : RCj c A' = RCj c A := by
  unfold RCj nn nj
  simp (disch := omega) only [h]
/-- the tape and the fault alone are others -/
theorem RS_low {c c' : Nat → Nat → Int32} {A A' T T' : Nat → Int32} (hR : RS c A T) (h : ∀ j, 3 ≤ j → A' j = A j) (hc : ∀ o, 3 ≤ o → o < 32 → c' o = c o) (hc0 : c' 0 8 = c 0 8) (hV : VA A' T') (hA : RCa c' A' T') : RS c' A' T' := by
  obtain ⟨⟨v1, v2, v3, v4, v5, v6, v7, v8, v9⟩, r1, r2, r3, r4, r5, r6⟩ := hR
  have h5 : ∀ j, 145 ≤ j → A' j = A j := fun j hj => h j (by omega)
  refine ⟨⟨(V3_N h).mpr v1, (V3_C h).mpr v2, (V3_S h).mpr v3, (V3_P h).mpr v4, (V3_M h).mpr v5, (V3_T h5).mpr v6, (V3_J h5).mpr v7, (V3_B h5).mpr v8, hV⟩, ?_, ?_, ?_, ?_, ?_, hA⟩
  · refine (R3_c h).mpr ?_
    unfold RCc at *
    rw [hc 12 (by omega) (by omega), hc0, hc 13 (by omega) (by omega), hc 14 (by omega) (by omega), hc 19 (by omega) (by omega), hc 15 (by omega) (by omega), hc 16 (by omega) (by omega)]
    exact r1
  · refine (R3_s h5).mpr ?_
    unfold RCs at *
    rw [hc 20 (by omega) (by omega), hc 26 (by omega) (by omega), hc 27 (by omega) (by omega)]
    refine ⟨r2.1, fun i hi => ⟨fun f hf => ?_, (r2.2 i hi).2⟩⟩
    rw [hc (21 + f) (by omega) (by omega)]
    exact (r2.2 i hi).1 f hf
  · refine RCp_to (fun j h1 _ => h j h1) v4 ?_
    unfold RCp at *
    rw [hc 3 (by omega) (by omega), hc 4 (by omega) (by omega), hc 5 (by omega) (by omega), hc 6 (by omega) (by omega), hc 7 (by omega) (by omega), hc 8 (by omega) (by omega), hc 9 (by omega) (by omega), hc 10 (by omega) (by omega)]
    exact r3
  · refine (R3_m h5).mpr ?_
    unfold RCm at *
    rw [hc 17 (by omega) (by omega), hc 18 (by omega) (by omega)]
    exact r4
  · refine (R3_j h5).mpr ?_
    unfold RCj at *
    rw [hc 29 (by omega) (by omega), hc 30 (by omega) (by omega), hc 31 (by omega) (by omega)]
    exact r5
theorem Inv.of {h h' : Z_H} (I : Inv h) (f : FR h h') (R : RS (cl h') (z_i h' 62) (z_i h' 63)) (h14 : z_i h' 61 14 = -1) : Inv h' := ⟨f.ly I.1, R, h14, f.img I.2.2.2⟩
theorem cl_si {h : Z_H} {a k o : Nat} {v : Int32} (e : 1 + o ≠ a) : cl (z_si h a k v) o = cl h o := z_si_o e
theorem upd_s {f : Nat → Int32} {k : Nat} {v : Int32} : upd f k v k = v := if_pos rfl
theorem upd_o {f : Nat → Int32} {k j : Nat} {v : Int32} (e : j ≠ k) : upd f k v j = f j := if_neg e
theorem in_f' {n : Nat} {x : Int32} (hn : n + 1 < 2 ^ 31) (hx : x < 0 ∨ (¬ x < 0 ∧ nI (n + 1) ≤ x)) : ¬ ((0 : Int32) ≤ x ∧ x ≤ nI n) := by
  have := in_f hn hx
  rw [n_1, nI_sub (by omega), Nat.add_sub_cancel] at this
  exact this
theorem op_end {h : Z_H} (I : Inv h) {x : Int32} : ∃ r h1 h2, f_X9_end h 0 x = some (r, h1) ∧ f_X10_end h1 61 x = some (r, h2) ∧ Inv h2 := by
  have H := I.1
  obtain ⟨-, -, -, -, -, -, -, -, t1, t2, t3⟩ := I.v
  obtain ⟨r1, r2, r3, r4⟩ := I.2.1.2.2.2.2.2.2
  have et : z_i h 2 1 = nI (nt (z_i h 62)) := Eq.trans r1 t2
  have a0 : ∀ g : Z_H, LY g → aI g 62 0 = some (z_i g 62 0) := fun g G => yA62 G (k := 0) (by omega)
  have s0 : ∀ g : Z_H, LY g → sI g 62 0 x = some (z_si g 62 0 x) := fun g G => yS62 G (k := 0) (by omega)
  rcases nI_or (x := x) (n := nt (z_i h 62) + 1) (by omega) with ⟨s, hs, rfl⟩ | ⟨hns, hx⟩
  · have H1 : LY (z_si h 2 1 (nI s)) := H
    have H2 : LY (z_si (z_si h 2 1 (nI s)) 61 0 0) := H
    have e1 : z_i (z_si (z_si h 2 1 (nI s)) 61 0 0) 62 0 = nI (nt (z_i h 62)) := t2
    refine ⟨nI s, z_si h 2 1 (nI s), z_si (z_si (z_si h 2 1 (nI s)) 61 0 0) 62 0 (nI s), ?_, ?_, ?_⟩
    · unfold f_X9_end
      simp (disch := first | assumption | omega) only [gd, lt, jn, bd2, Option.bind_some, LY_si, LY_sl, LY_row, decide_true, decide_false, if_true, ite_true, ite_false, decide_eq_true_eq, yg0, yg1, yg2, yg4, yg13, yg21, yg29, yg35, yg36, yg45, yg50, yg59, yI0, yI1, yI2, yI4, yI13, yI21, yI29, yI35, yI36, yI45, yI50, yI59, yP0, yP1, yP2, yP4, yP13, yP21, yP29, yP35, yP36, yP45, yP50, yP59, yR0_0, yR0_1, yR0_2, yR0_3, yR0_4, yR1_0, yR1_1, yR1_2, yR1_3, yR1_4, yR1_5, yR2_0, yR4_4, yR4_5, yR4_6, yR4_7, yR4_8, yR4_9, yR4_10, yR4_11, yR13_1, yR13_2, yR13_3, yR13_4, yR13_5, yR13_6, yR13_7, yR21_1, yR21_2, yR21_3, yR21_4, yR21_5, yR21_6, yR21_7, yR29_0, yR29_1, yR29_2, yR35_0, yR35_1, yR35_2, yR35_3, yR35_4, yR36_4, yR36_5, yR36_6, yR36_7, yR36_8, yR36_9, yR36_10, yR36_11, yR45_0, yR50_0, yR50_1, yR50_2, yR50_3, yR50_4, yR50_5, yR50_6, yR50_7, yR59_1, yA3, yA5, yA6, yA7, yA8, yA9, yA10, yA11, yA12, yA14, yA15, yA16, yA17, yA18, yA19, yA20, yA22, yA23, yA24, yA25, yA26, yA27, yA28, yA30, yA31, yA32, yA33, yA37, yA38, yA39, yA40, yA41, yA42, yA43, yA44, yA46, yA47, yA48, yA49, yA51, yA52, yA53, yA54, yA55, yA56, yA57, yA58, yA60, yS3, yS5, yS6, yS7, yS8, yS9, yS10, yS11, yS12, yS14, yS15, yS16, yS17, yS18, yS19, yS20, yS22, yS23, yS24, yS25, yS26, yS27, yS28, yS30, yS31, yS32, yS33, yS37, yS38, yS39, yS40, yS41, yS42, yS43, yS44, yS46, yS47, yS48, yS49, yS51, yS52, yS53, yS54, yS55, yS56, yS57, yS58, yS60, et]
      rw [if_neg (nI_pos (by omega)), if_pos (nI_le (by omega) (by omega))]
    · unfold f_X10_end
      simp (disch := first | assumption | omega) only [gd, lt, jn, bd2, Option.bind_some, LY_si, LY_sl, LY_row, decide_true, decide_false, if_true, ite_true, ite_false, decide_eq_true_eq, yg61, yI61, yP61, yR61_1, yR61_2, yR61_12, yR61_13, yR61_17, yR61_18, yR61_21, yR61_22, yR61_23, yR61_25, yA62, yA63, yA64, yA65, yA66, yA67, yA68, yA69, yA70, yA71, yS62, yS63, yS64, yS65, yS66, yS67, yS68, yS69, yS70, yS71, a0 _ H2, s0 _ H2, e1, e_in_t (nI_pos' (by omega : s < 2 ^ 31)) (nI_le (by omega : s ≤ nt (z_i h 62)) (by omega))]
      rw [if_neg (by decide)]
    · have e62 : z_i (z_si (z_si (z_si h 2 1 (nI s)) 61 0 0) 62 0 (nI s)) 62 = upd (z_i h 62) 0 (nI s) := z_si_i
      have e63 : z_i (z_si (z_si (z_si h 2 1 (nI s)) 61 0 0) 62 0 (nI s)) 63 = z_i h 63 := rfl
      have ent : nt (upd (z_i h 62) 0 (nI s)) = s := by unfold nt; rw [upd_s, nI_clamp (by omega)]
      refine I.of ⟨rfl, rfl, rfl, fun a ha => ?_, fun j hj => ?_, fun j _ => rfl, rfl⟩ ?_ I.2.2.1
      · rw [z_si_o (by omega), z_si_o (by omega), z_si_o (by omega)]
      · rw [e62, upd_o (by omega)]
      · rw [e62, e63]
        refine RS_low I.2.1 (fun j hj => upd_o (by omega)) (fun o ho ho2 => ?_) rfl ⟨by rw [ent]; omega, by rw [ent]; exact upd_s, fun i hi => t3 i (by rw [ent] at hi; omega)⟩ ⟨?_, ?_, ?_, fun i hi => ?_⟩
        · rw [cl_si (by omega), cl_si (by omega), cl_si (by omega)]
        · exact upd_s.symm
        · exact r2
        · exact r3
        · rw [ent] at hi
          exact r4 i (by omega)
  · refine ⟨-1, h, z_si h 61 0 0, ?_, ?_, I.m⟩
    · unfold f_X9_end
      simp (disch := first | assumption | omega) only [gd, lt, jn, bd2, Option.bind_some, LY_si, LY_sl, LY_row, decide_true, decide_false, if_true, ite_true, ite_false, decide_eq_true_eq, yg0, yg1, yg2, yg4, yg13, yg21, yg29, yg35, yg36, yg45, yg50, yg59, yI0, yI1, yI2, yI4, yI13, yI21, yI29, yI35, yI36, yI45, yI50, yI59, yP0, yP1, yP2, yP4, yP13, yP21, yP29, yP35, yP36, yP45, yP50, yP59, yR0_0, yR0_1, yR0_2, yR0_3, yR0_4, yR1_0, yR1_1, yR1_2, yR1_3, yR1_4, yR1_5, yR2_0, yR4_4, yR4_5, yR4_6, yR4_7, yR4_8, yR4_9, yR4_10, yR4_11, yR13_1, yR13_2, yR13_3, yR13_4, yR13_5, yR13_6, yR13_7, yR21_1, yR21_2, yR21_3, yR21_4, yR21_5, yR21_6, yR21_7, yR29_0, yR29_1, yR29_2, yR35_0, yR35_1, yR35_2, yR35_3, yR35_4, yR36_4, yR36_5, yR36_6, yR36_7, yR36_8, yR36_9, yR36_10, yR36_11, yR45_0, yR50_0, yR50_1, yR50_2, yR50_3, yR50_4, yR50_5, yR50_6, yR50_7, yR59_1, yA3, yA5, yA6, yA7, yA8, yA9, yA10, yA11, yA12, yA14, yA15, yA16, yA17, yA18, yA19, yA20, yA22, yA23, yA24, yA25, yA26, yA27, yA28, yA30, yA31, yA32, yA33, yA37, yA38, yA39, yA40, yA41, yA42, yA43, yA44, yA46, yA47, yA48, yA49, yA51, yA52, yA53, yA54, yA55, yA56, yA57, yA58, yA60, yS3, yS5, yS6, yS7, yS8, yS9, yS10, yS11, yS12, yS14, yS15, yS16, yS17, yS18, yS19, yS20, yS22, yS23, yS24, yS25, yS26, yS27, yS28, yS30, yS31, yS32, yS33, yS37, yS38, yS39, yS40, yS41, yS42, yS43, yS44, yS46, yS47, yS48, yS49, yS51, yS52, yS53, yS54, yS55, yS56, yS57, yS58, yS60, et]
      rcases hx with q | ⟨q1, q2⟩
      · rw [if_pos q]
      · rw [if_neg q1, if_neg (fun q => nI_ge (by omega : nt (z_i h 62) < nt (z_i h 62) + 1) (by omega) (Int32.le_trans q2 q))]
    · unfold f_X10_end
      have H1 := I.m.1
      have e1 : z_i (z_si h 61 0 0) 62 0 = nI (nt (z_i h 62)) := t2
      simp (disch := first | assumption | omega) only [gd, lt, jn, bd2, Option.bind_some, LY_si, LY_sl, LY_row, decide_true, decide_false, if_true, ite_true, ite_false, decide_eq_true_eq, yg61, yI61, yP61, yR61_1, yR61_2, yR61_12, yR61_13, yR61_17, yR61_18, yR61_21, yR61_22, yR61_23, yR61_25, yA62, yA63, yA64, yA65, yA66, yA67, yA68, yA69, yA70, yA71, yS62, yS63, yS64, yS65, yS66, yS67, yS68, yS69, yS70, yS71, a0 _ I.m.1, e1, e_in_f (in_f' (by omega) hx)]
/-- the months alone have gone on -/
theorem RS_now {c c' : Nat → Nat → Int32} {A A' T : Nat → Int32} (hR : RS c A T) {m : Nat} (hm : nwN A ≤ m) (hm2 : m ≤ 99) (h : ∀ j, j ≠ 144 → A' j = A j) (h144 : A' 144 = nI m) (hc : ∀ o, 1 ≤ o → o < 32 → c' o = c o) (hc0 : ∀ f, f ≠ 8 → c' 0 f = c 0 f) (hc8 : c' 0 8 = nI m) : RS c' A' T := by
  obtain ⟨⟨v1, v2, v3, v4, v5, v6, v7, v8, v9⟩, r1, r2, r3, r4, r5, r6⟩ := hR
  have h5 : ∀ j, 145 ≤ j → A' j = A j := fun j hj => h j (by omega)
  have en : nn A' = nn A := by unfold nn; rw [h 145 (by omega)]
  have ew : nwN A' = m := by unfold nwN; rw [h144, nI_clamp (by omega)]
  have ej : ∀ s, jo A' s = jo A s := fun s => by unfold jo; rw [h _ (by omega)]
  have ek : nk A' = nk A := by unfold nk; rw [h 146 (by omega)]
  have eq : ∀ i, nq A' i = nq A i := fun i => by unfold nq; rw [h _ (by omega)]
  have ewh : ∀ i l, whS A' i l = whS A i l := fun i l => by unfold whS; rw [h _ (by omega)]
  have emc : ∀ s, mc A' s = mc A s := fun s => by unfold mc; rw [h _ (by omega)]
  have emm : ∀ s i, mvm A' s i = mvm A s i := fun s i => by unfold mvm; rw [h _ (by omega)]
  have emt : ∀ s i, mvt A' s i = mvt A s i := fun s i => by unfold mvt; rw [h _ (by omega)]
  refine ⟨⟨?_, fun s hs => ?_, ?_, VP_to (fun j _ h2 => h j (by omega)) v4, fun s hs => ?_, (V3_T h5).mpr v6, (V3_J h5).mpr v7, (V3_B h5).mpr v8, ?_⟩, ?_, ?_, ?_, ?_, ?_, ?_⟩
  · unfold VN
    rw [en, ew, h 145 (by omega), h144]
    exact ⟨v1.1, v1.2.1, v1.2.2.1, hm2, rfl⟩
  · rw [en] at hs
    obtain ⟨a1, a2, a3, a4⟩ := v2 s hs
    unfold VC
    rw [ej, ew, h (147 + 94 * s + 0) (by omega), h (147 + 94 * s + 1) (by omega), h (147 + 94 * s + 3) (by omega)]
    refine ⟨a1, by omega, ?_, a4⟩
    rcases a3 with e | ⟨q, q1, q2, q3⟩
    · exact Or.inl e
    · exact Or.inr ⟨q, q1, by omega, q3⟩
  · unfold VS
    rw [ek, h 146 (by omega)]
    refine ⟨v3.1, v3.2.1, fun i hi => ?_⟩
    obtain ⟨⟨w, mo, to, b1, b2, b3, b4, b5, b6, b7, b8⟩, a2, a3, a4, a5, a6, a7⟩ := v3.2.2 i hi
    unfold VK
    simp only [eq, ewh, en]
    rw [h (1087 + 41 * i + 0) (by omega), h (1087 + 41 * i + 1) (by omega), h (1087 + 41 * i + 2) (by omega), h (1087 + 41 * i + 3) (by omega), h (1087 + 41 * i + 4) (by omega), h (1087 + 41 * i + 5) (by omega)]
    refine ⟨⟨w, mo, to, b1, b2, b3, b4, by rw [ej]; exact b5, b6, b7, by omega⟩, a2, a3, a4, a5, a6, a7⟩
  · rw [en] at hs
    obtain ⟨a1, a2, a3, a4, a5, a6⟩ := v5 s hs
    unfold VM
    simp only [emc, emm, emt, en, ej]
    rw [h (147 + 94 * s + 4) (by omega), h (147 + 94 * s + 2) (by omega)]
    refine ⟨a1, a2, a3, fun i hi => ?_, a5, a6⟩
    obtain ⟨b1, b2, b3, b4, b5⟩ := a4 i hi
    rw [h (147 + 94 * s + (5 + i)) (by omega), h (147 + 94 * s + (17 + i)) (by omega)]
    exact ⟨b1, b2, b3, by omega, b5⟩
  · unfold VA nt at *
    rw [h 0 (by omega)]
    exact v9
  · unfold RCc at *
    rw [en, h 145 (by omega), h144, hc 12 (by omega) (by omega), hc 13 (by omega) (by omega), hc 14 (by omega) (by omega), hc 19 (by omega) (by omega), hc 15 (by omega) (by omega), hc 16 (by omega) (by omega)]
    refine ⟨r1.1, hc8, fun s hs => ?_⟩
    rw [h (147 + 94 * s + 0) (by omega), h (147 + 94 * s + 1) (by omega), h (147 + 94 * s + 2) (by omega), h (147 + 94 * s + 3) (by omega), h (147 + 94 * s + 4) (by omega)]
    exact r1.2.2 s hs
  · refine (R3_s h5).mpr ?_
    unfold RCs at *
    rw [hc 20 (by omega) (by omega), hc 26 (by omega) (by omega), hc 27 (by omega) (by omega)]
    refine ⟨r2.1, fun i hi => ⟨fun f hf => ?_, (r2.2 i hi).2⟩⟩
    rw [hc (21 + f) (by omega) (by omega)]
    exact (r2.2 i hi).1 f hf
  · refine RCp_to (fun j _ h2 => h j (by omega)) v4 ?_
    unfold RCp at *
    rw [hc 3 (by omega) (by omega), hc 4 (by omega) (by omega), hc 5 (by omega) (by omega), hc 6 (by omega) (by omega), hc 7 (by omega) (by omega), hc 8 (by omega) (by omega), hc 9 (by omega) (by omega), hc 10 (by omega) (by omega)]
    exact r3
  · refine (R3_m h5).mpr ?_
    unfold RCm at *
    rw [hc 17 (by omega) (by omega), hc 18 (by omega) (by omega)]
    exact r4
  · refine (R3_j h5).mpr ?_
    unfold RCj at *
    rw [hc 29 (by omega) (by omega), hc 30 (by omega) (by omega), hc 31 (by omega) (by omega)]
    exact r5
  · unfold RCa nt at *
    rw [hc 1 (by omega) (by omega), hc 2 (by omega) (by omega), hc0 6 (by omega), hc0 7 (by omega), h 0 (by omega), h 1 (by omega), h 2 (by omega)]
    exact r6
theorem op_months {h : Z_H} (I : Inv h) {x : Int32} : ∃ r h1 h2, f_X9_months h 0 x = some (r, h1) ∧ f_X10_months h1 61 x = some (r, h2) ∧ Inv h2 := by
  have H := I.1
  have H1 := I.m.1
  have C := I.ca
  obtain ⟨en, h99⟩ := C.now
  have e144 : z_i h 62 144 = nI (nwN (z_i h 62)) := I.v.1.2.2.2.2
  by_cases h1 : x < 1
  · refine ⟨-1, h, z_si h 61 0 0, ?_, ?_, I.m⟩
    · unfold f_X9_months
      simp (disch := first | assumption | omega) only [gd, lt, jn, bd2, Option.bind_some, LY_si, LY_sl, LY_row, decide_true, decide_false, if_true, ite_true, ite_false, decide_eq_true_eq, yg0, yg1, yg2, yg4, yg13, yg21, yg29, yg35, yg36, yg45, yg50, yg59, yI0, yI1, yI2, yI4, yI13, yI21, yI29, yI35, yI36, yI45, yI50, yI59, yP0, yP1, yP2, yP4, yP13, yP21, yP29, yP35, yP36, yP45, yP50, yP59, yR0_0, yR0_1, yR0_2, yR0_3, yR0_4, yR1_0, yR1_1, yR1_2, yR1_3, yR1_4, yR1_5, yR2_0, yR4_4, yR4_5, yR4_6, yR4_7, yR4_8, yR4_9, yR4_10, yR4_11, yR13_1, yR13_2, yR13_3, yR13_4, yR13_5, yR13_6, yR13_7, yR21_1, yR21_2, yR21_3, yR21_4, yR21_5, yR21_6, yR21_7, yR29_0, yR29_1, yR29_2, yR35_0, yR35_1, yR35_2, yR35_3, yR35_4, yR36_4, yR36_5, yR36_6, yR36_7, yR36_8, yR36_9, yR36_10, yR36_11, yR45_0, yR50_0, yR50_1, yR50_2, yR50_3, yR50_4, yR50_5, yR50_6, yR50_7, yR59_1, yA3, yA5, yA6, yA7, yA8, yA9, yA10, yA11, yA12, yA14, yA15, yA16, yA17, yA18, yA19, yA20, yA22, yA23, yA24, yA25, yA26, yA27, yA28, yA30, yA31, yA32, yA33, yA37, yA38, yA39, yA40, yA41, yA42, yA43, yA44, yA46, yA47, yA48, yA49, yA51, yA52, yA53, yA54, yA55, yA56, yA57, yA58, yA60, yS3, yS5, yS6, yS7, yS8, yS9, yS10, yS11, yS12, yS14, yS15, yS16, yS17, yS18, yS19, yS20, yS22, yS23, yS24, yS25, yS26, yS27, yS28, yS30, yS31, yS32, yS33, yS37, yS38, yS39, yS40, yS41, yS42, yS43, yS44, yS46, yS47, yS48, yS49, yS51, yS52, yS53, yS54, yS55, yS56, yS57, yS58, yS60]
      rw [if_pos h1]
    · unfold f_X10_months
      simp (disch := first | assumption | omega) only [gd, lt, jn, bd2, Option.bind_some, LY_si, LY_sl, LY_row, decide_true, decide_false, if_true, ite_true, ite_false, decide_eq_true_eq, yg61, yI61, yP61, yR61_1, yR61_2, yR61_12, yR61_13, yR61_17, yR61_18, yR61_21, yR61_22, yR61_23, yR61_25, yA62, yA63, yA64, yA65, yA66, yA67, yA68, yA69, yA70, yA71, yS62, yS63, yS64, yS65, yS66, yS67, yS68, yS69, yS70, yS71, e_in_f (show ¬ ((1 : Int32) ≤ x ∧ x ≤ 12) from fun q => absurd h1 (Int32.not_lt.mpr q.1))]
  · by_cases h2 : (12 : Int32) < x
    · refine ⟨-1, h, z_si h 61 0 0, ?_, ?_, I.m⟩
      · unfold f_X9_months
        simp (disch := first | assumption | omega) only [gd, lt, jn, bd2, Option.bind_some, LY_si, LY_sl, LY_row, decide_true, decide_false, if_true, ite_true, ite_false, decide_eq_true_eq, yg0, yg1, yg2, yg4, yg13, yg21, yg29, yg35, yg36, yg45, yg50, yg59, yI0, yI1, yI2, yI4, yI13, yI21, yI29, yI35, yI36, yI45, yI50, yI59, yP0, yP1, yP2, yP4, yP13, yP21, yP29, yP35, yP36, yP45, yP50, yP59, yR0_0, yR0_1, yR0_2, yR0_3, yR0_4, yR1_0, yR1_1, yR1_2, yR1_3, yR1_4, yR1_5, yR2_0, yR4_4, yR4_5, yR4_6, yR4_7, yR4_8, yR4_9, yR4_10, yR4_11, yR13_1, yR13_2, yR13_3, yR13_4, yR13_5, yR13_6, yR13_7, yR21_1, yR21_2, yR21_3, yR21_4, yR21_5, yR21_6, yR21_7, yR29_0, yR29_1, yR29_2, yR35_0, yR35_1, yR35_2, yR35_3, yR35_4, yR36_4, yR36_5, yR36_6, yR36_7, yR36_8, yR36_9, yR36_10, yR36_11, yR45_0, yR50_0, yR50_1, yR50_2, yR50_3, yR50_4, yR50_5, yR50_6, yR50_7, yR59_1, yA3, yA5, yA6, yA7, yA8, yA9, yA10, yA11, yA12, yA14, yA15, yA16, yA17, yA18, yA19, yA20, yA22, yA23, yA24, yA25, yA26, yA27, yA28, yA30, yA31, yA32, yA33, yA37, yA38, yA39, yA40, yA41, yA42, yA43, yA44, yA46, yA47, yA48, yA49, yA51, yA52, yA53, yA54, yA55, yA56, yA57, yA58, yA60, yS3, yS5, yS6, yS7, yS8, yS9, yS10, yS11, yS12, yS14, yS15, yS16, yS17, yS18, yS19, yS20, yS22, yS23, yS24, yS25, yS26, yS27, yS28, yS30, yS31, yS32, yS33, yS37, yS38, yS39, yS40, yS41, yS42, yS43, yS44, yS46, yS47, yS48, yS49, yS51, yS52, yS53, yS54, yS55, yS56, yS57, yS58, yS60]
        rw [if_neg h1, if_pos h2]
      · unfold f_X10_months
        simp (disch := first | assumption | omega) only [gd, lt, jn, bd2, Option.bind_some, LY_si, LY_sl, LY_row, decide_true, decide_false, if_true, ite_true, ite_false, decide_eq_true_eq, yg61, yI61, yP61, yR61_1, yR61_2, yR61_12, yR61_13, yR61_17, yR61_18, yR61_21, yR61_22, yR61_23, yR61_25, yA62, yA63, yA64, yA65, yA66, yA67, yA68, yA69, yA70, yA71, yS62, yS63, yS64, yS65, yS66, yS67, yS68, yS69, yS70, yS71, e_in_f (show ¬ ((1 : Int32) ≤ x ∧ x ≤ 12) from fun q => absurd h2 (Int32.not_lt.mpr q.2))]
    · obtain ⟨d, hd, rfl⟩ := nI_of2 (x := x) (M := 12) (n := 12) rfl (fun q => h1 (Int32.lt_of_lt_of_le q (by decide))) (Int32.not_lt.mp h2)
      have ein : f_X10_in (z_si h 61 0 0) (nI d) 1 12 = some 1 := e_in_t (Int32.not_lt.mp h1) (Int32.not_lt.mp h2)
      have ez : z_i (z_si h 61 0 0) 62 144 = nI (nwN (z_i h 62)) := e144
      by_cases h3 : nwN (z_i h 62) + d ≤ 99
      · have a144 : aI (z_si (z_si h 1 8 (nI (nwN (z_i h 62) + d))) 61 0 0) 62 144 = some (nI (nwN (z_i h 62))) := by
          rw [show (144 : Int32) = nI 144 from rfl, yA62 (h := z_si (z_si h 1 8 (nI (nwN (z_i h 62) + d))) 61 0 0) H (k := 144) (by omega)]
          exact congrArg some e144
        have s144 : ∀ v, sI (z_si (z_si h 1 8 (nI (nwN (z_i h 62) + d))) 61 0 0) 62 144 v = some (z_si (z_si (z_si h 1 8 (nI (nwN (z_i h 62) + d))) 61 0 0) 62 144 v) := fun v => yS62 (h := z_si (z_si h 1 8 (nI (nwN (z_i h 62) + d))) 61 0 0) H (k := 144) (by omega)
        have H2 : LY (z_si (z_si h 1 8 (nI (nwN (z_i h 62) + d))) 61 0 0) := H
        have H3 : LY (z_si (z_si (z_si h 1 8 (nI (nwN (z_i h 62) + d))) 61 0 0) 62 144 (nI (nwN (z_i h 62) + d))) := H
        have H4 : LY (z_si h 1 8 (nI (nwN (z_i h 62) + d))) := H
        have ez2 : z_i (z_si (z_si h 1 8 (nI (nwN (z_i h 62) + d))) 61 0 0) 62 144 = nI (nwN (z_i h 62)) := e144
        have ein2 : f_X10_in (z_si (z_si h 1 8 (nI (nwN (z_i h 62) + d))) 61 0 0) (nI d) 1 12 = some 1 := e_in_t (Int32.not_lt.mp h1) (Int32.not_lt.mp h2)
        refine ⟨nI (nwN (z_i h 62) + d), z_si h 1 8 (nI (nwN (z_i h 62) + d)), z_si (z_si (z_si h 1 8 (nI (nwN (z_i h 62) + d))) 61 0 0) 62 144 (nI (nwN (z_i h 62) + d)), ?_, ?_, ?_⟩
        · unfold f_X9_months
          simp (disch := first | assumption | omega) only [gd, lt, jn, bd2, Option.bind_some, LY_si, LY_sl, LY_row, decide_true, decide_false, if_true, ite_true, ite_false, decide_eq_true_eq, yg0, yg1, yg2, yg4, yg13, yg21, yg29, yg35, yg36, yg45, yg50, yg59, yI0, yI1, yI2, yI4, yI13, yI21, yI29, yI35, yI36, yI45, yI50, yI59, yP0, yP1, yP2, yP4, yP13, yP21, yP29, yP35, yP36, yP45, yP50, yP59, yR0_0, yR0_1, yR0_2, yR0_3, yR0_4, yR1_0, yR1_1, yR1_2, yR1_3, yR1_4, yR1_5, yR2_0, yR4_4, yR4_5, yR4_6, yR4_7, yR4_8, yR4_9, yR4_10, yR4_11, yR13_1, yR13_2, yR13_3, yR13_4, yR13_5, yR13_6, yR13_7, yR21_1, yR21_2, yR21_3, yR21_4, yR21_5, yR21_6, yR21_7, yR29_0, yR29_1, yR29_2, yR35_0, yR35_1, yR35_2, yR35_3, yR35_4, yR36_4, yR36_5, yR36_6, yR36_7, yR36_8, yR36_9, yR36_10, yR36_11, yR45_0, yR50_0, yR50_1, yR50_2, yR50_3, yR50_4, yR50_5, yR50_6, yR50_7, yR59_1, yA3, yA5, yA6, yA7, yA8, yA9, yA10, yA11, yA12, yA14, yA15, yA16, yA17, yA18, yA19, yA20, yA22, yA23, yA24, yA25, yA26, yA27, yA28, yA30, yA31, yA32, yA33, yA37, yA38, yA39, yA40, yA41, yA42, yA43, yA44, yA46, yA47, yA48, yA49, yA51, yA52, yA53, yA54, yA55, yA56, yA57, yA58, yA60, yS3, yS5, yS6, yS7, yS8, yS9, yS10, yS11, yS12, yS14, yS15, yS16, yS17, yS18, yS19, yS20, yS22, yS23, yS24, yS25, yS26, yS27, yS28, yS30, yS31, yS32, yS33, yS37, yS38, yS39, yS40, yS41, yS42, yS43, yS44, yS46, yS47, yS48, yS49, yS51, yS52, yS53, yS54, yS55, yS56, yS57, yS58, yS60, en, nI_add]
          rw [if_neg h1, if_neg h2, if_pos (show nI (nwN (z_i h 62) + d) ≤ (99 : Int32) from nI_le (b := 99) h3 (by omega))]
          rfl
        · unfold f_X10_months
          simp (disch := first | assumption | omega) only [gd, lt, jn, bd2, Option.bind_some, LY_si, LY_sl, LY_row, decide_true, decide_false, if_true, ite_true, ite_false, decide_eq_true_eq, yg61, yI61, yP61, yR61_1, yR61_2, yR61_12, yR61_13, yR61_17, yR61_18, yR61_21, yR61_22, yR61_23, yR61_25, yA62, yA63, yA64, yA65, yA66, yA67, yA68, yA69, yA70, yA71, yS62, yS63, yS64, yS65, yS66, yS67, yS68, yS69, yS70, yS71, ein2, e_now H2, e_now H3, ez2, nI_add, a144, s144]
          rw [if_neg (by decide), if_pos (show nI (nwN (z_i h 62) + d) ≤ (99 : Int32) from nI_le (b := 99) h3 (by omega))]
          rfl
        · have e62 : z_i (z_si (z_si (z_si h 1 8 (nI (nwN (z_i h 62) + d))) 61 0 0) 62 144 (nI (nwN (z_i h 62) + d))) 62 = upd (z_i h 62) 144 (nI (nwN (z_i h 62) + d)) := z_si_i
          refine I.of ⟨rfl, rfl, rfl, fun a ha => ?_, fun j hj => ?_, fun j _ => rfl, rfl⟩ ?_ I.2.2.1
          · rw [z_si_o (by omega), z_si_o (by omega), z_si_o (by omega)]
          · rw [e62, upd_o (by omega)]
          · rw [e62, show z_i (z_si (z_si (z_si h 1 8 (nI (nwN (z_i h 62) + d))) 61 0 0) 62 144 (nI (nwN (z_i h 62) + d))) 63 = z_i h 63 from rfl]
            refine RS_now I.2.1 (m := nwN (z_i h 62) + d) (by omega) h3 (fun j hj => upd_o hj) upd_s (fun o h1 h2 => ?_) (fun f hf => ?_) rfl
            · rw [cl_si (by omega), cl_si (by omega), cl_si (by omega)]
            · rw [cl_si (by omega), cl_si (by omega)]
              show z_i (z_si h 1 8 (nI (nwN (z_i h 62) + d))) 1 f = z_i h 1 f
              rw [zi_si, if_pos rfl, if_neg hf]
      · refine ⟨-1, h, z_si h 61 0 0, ?_, ?_, I.m⟩
        · unfold f_X9_months
          simp (disch := first | assumption | omega) only [gd, lt, jn, bd2, Option.bind_some, LY_si, LY_sl, LY_row, decide_true, decide_false, if_true, ite_true, ite_false, decide_eq_true_eq, yg0, yg1, yg2, yg4, yg13, yg21, yg29, yg35, yg36, yg45, yg50, yg59, yI0, yI1, yI2, yI4, yI13, yI21, yI29, yI35, yI36, yI45, yI50, yI59, yP0, yP1, yP2, yP4, yP13, yP21, yP29, yP35, yP36, yP45, yP50, yP59, yR0_0, yR0_1, yR0_2, yR0_3, yR0_4, yR1_0, yR1_1, yR1_2, yR1_3, yR1_4, yR1_5, yR2_0, yR4_4, yR4_5, yR4_6, yR4_7, yR4_8, yR4_9, yR4_10, yR4_11, yR13_1, yR13_2, yR13_3, yR13_4, yR13_5, yR13_6, yR13_7, yR21_1, yR21_2, yR21_3, yR21_4, yR21_5, yR21_6, yR21_7, yR29_0, yR29_1, yR29_2, yR35_0, yR35_1, yR35_2, yR35_3, yR35_4, yR36_4, yR36_5, yR36_6, yR36_7, yR36_8, yR36_9, yR36_10, yR36_11, yR45_0, yR50_0, yR50_1, yR50_2, yR50_3, yR50_4, yR50_5, yR50_6, yR50_7, yR59_1, yA3, yA5, yA6, yA7, yA8, yA9, yA10, yA11, yA12, yA14, yA15, yA16, yA17, yA18, yA19, yA20, yA22, yA23, yA24, yA25, yA26, yA27, yA28, yA30, yA31, yA32, yA33, yA37, yA38, yA39, yA40, yA41, yA42, yA43, yA44, yA46, yA47, yA48, yA49, yA51, yA52, yA53, yA54, yA55, yA56, yA57, yA58, yA60, yS3, yS5, yS6, yS7, yS8, yS9, yS10, yS11, yS12, yS14, yS15, yS16, yS17, yS18, yS19, yS20, yS22, yS23, yS24, yS25, yS26, yS27, yS28, yS30, yS31, yS32, yS33, yS37, yS38, yS39, yS40, yS41, yS42, yS43, yS44, yS46, yS47, yS48, yS49, yS51, yS52, yS53, yS54, yS55, yS56, yS57, yS58, yS60, en, nI_add]
          rw [if_neg h1, if_neg h2, if_neg (show ¬ nI (nwN (z_i h 62) + d) ≤ (99 : Int32) from nI_ge (a := 99) (by omega) (by omega))]
        · unfold f_X10_months
          simp (disch := first | assumption | omega) only [gd, lt, jn, bd2, Option.bind_some, LY_si, LY_sl, LY_row, decide_true, decide_false, if_true, ite_true, ite_false, decide_eq_true_eq, yg61, yI61, yP61, yR61_1, yR61_2, yR61_12, yR61_13, yR61_17, yR61_18, yR61_21, yR61_22, yR61_23, yR61_25, yA62, yA63, yA64, yA65, yA66, yA67, yA68, yA69, yA70, yA71, yS62, yS63, yS64, yS65, yS66, yS67, yS68, yS69, yS70, yS71, ein, e_now H1, ez, nI_add]
          rw [if_neg (by decide), if_neg (show ¬ nI (nwN (z_i h 62) + d) ≤ (99 : Int32) from nI_ge (a := 99) (by omega) (by omega))]
