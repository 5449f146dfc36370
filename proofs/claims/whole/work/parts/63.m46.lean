/-! sums over sales and sellers -/
def ptO (A : Nat → Int32) (f i : Nat) : Int32 := sm (fun l => A (1087 + 41 * i + (6 + 7 * l + f))) (nq A i)
def npT (A : Nat → Int32) (i : Nat) : Int32 := sm (fun l => npS A i l) (nq A i)
def vsO (A : Nat → Int32) (i : Nat) : Int32 := sm (fun l => vS A i l (A 144)) (nq A i)
theorem CA.tk {h : Z_H} {A : Nat → Int32} (C : CA h A) {i : Nat} (hi : i < nk A) : z_i h 27 i = nI (nq A i) ∧ nq A i ≤ 5 := by
  obtain ⟨-, -, -, h5, e5, -, -⟩ := C.2.2.2.1.2.2 i hi
  exact ⟨((c_sale C.2.2.2.2.2.2.1 hi).2.2.2.2.2).trans e5, h5⟩
theorem c_together {h : Z_H} {A : Nat → Int32} (C : CA h A) {i f : Nat} (hi : i < nk A) (hf : f < 7) : f_X5_together h 21 (nI i) (nI f) = some (ptO A f i) := by
  have H := C.1
  have h40 := C.k.2
  obtain ⟨tk, h5⟩ := C.tk hi
  have key := lp_sum1 (b := f_X5_together_l1 21 (nI i) (nI f) h) (N := nq A i) (fun l => A (1087 + 41 * i + (6 + 7 * l + f))) (by omega) ?_ ?_ 0
  · unfold f_X5_together
    refine gdE (yg21 H) (bnd key ?_)
    rw [Int32.zero_add]
    rfl
  · intro rec l a hl
    unfold f_X5_together_l1
    refine bnd (yR21_6 H) (bnd ((yA27 H (show i < 40 by omega)).trans (congrArg some tk)) ?_)
    refine (if_neg (nI_nlt (by omega) (by omega))).trans (bnd (c_factA H C.2.2.2.2.2.2.1 C.2.2.2.1 hi hl hf) (ltE ?_))
    rw [nI_1]
  · intro rec a
    unfold f_X5_together_l1
    refine bnd (yR21_6 H) (bnd ((yA27 H (show i < 40 by omega)).trans (congrArg some tk)) ?_)
    exact if_pos (nI_lt (by omega) (by omega))
theorem c_netPays {h : Z_H} {A : Nat → Int32} (C : CA h A) {i : Nat} (hi : i < nk A) : f_X5_netPays h 21 (nI i) = some (npT A i) := by
  have H := C.1
  have h40 := C.k.2
  obtain ⟨tk, h5⟩ := C.tk hi
  have key := lp_sum1 (b := f_X5_netPays_l1 21 (nI i) h) (N := nq A i) (fun l => npS A i l) (by omega) ?_ ?_ 0
  · unfold f_X5_netPays
    refine gdE (yg21 H) (bnd key ?_)
    rw [Int32.zero_add]
    rfl
  · intro rec l a hl
    unfold f_X5_netPays_l1
    refine bnd (yR21_6 H) (bnd ((yA27 H (show i < 40 by omega)).trans (congrArg some tk)) ?_)
    refine (if_neg (nI_nlt (by omega) (by omega))).trans (bnd (c_netPay H C.2.2.2.2.2.2.1 C.2.2.2.1 hi hl) (ltE ?_))
    rw [nI_1]
  · intro rec a
    unfold f_X5_netPays_l1
    refine bnd (yR21_6 H) (bnd ((yA27 H (show i < 40 by omega)).trans (congrArg some tk)) ?_)
    exact if_pos (nI_lt (by omega) (by omega))
theorem CA.vn {h : Z_H} {A : Nat → Int32} (C : CA h A) : z_i h 1 8 = A 144 ∧ qOK A (A 144) := by
  obtain ⟨en, h99⟩ := C.now
  have e144 : A 144 = nI (nwN A) := C.2.1.2.2.2.2
  rw [e144]
  exact ⟨en, qOK_now C.2.1 C.2.2.1 (Nat.le_refl _) (by omega)⟩
theorem c_vestedOfSale {h : Z_H} {A : Nat → Int32} (C : CA h A) {i : Nat} (hi : i < nk A) : f_X7_vestedOfSale h 1 (nI i) = some (vsO A i) := by
  have H := C.1
  have h40 := C.k.2
  obtain ⟨tk, h5⟩ := C.tk hi
  obtain ⟨en, hq⟩ := C.vn
  have key := lp_sum1 (b := f_X7_vestedOfSale_l1 1 (nI i) h) (N := nq A i) (fun l => vS A i l (A 144)) (by omega) ?_ ?_ 0
  · unfold f_X7_vestedOfSale
    refine gdE (yg1 H) (bnd key ?_)
    rw [Int32.zero_add]
    rfl
  · intro rec l a hl
    unfold f_X7_vestedOfSale_l1
    refine bnd (yR1_3 H) (bnd (yR21_6 H) (bnd ((yA27 H (show i < 40 by omega)).trans (congrArg some tk)) ?_))
    refine (if_neg (nI_nlt (by omega) (by omega))).trans (bnd ((yI1 H 8).trans (congrArg some en)) (bnd (C.ve hi hl hq) (ltE ?_)))
    rw [nI_1]
  · intro rec a
    unfold f_X7_vestedOfSale_l1
    refine bnd (yR1_3 H) (bnd (yR21_6 H) (bnd ((yA27 H (show i < 40 by omega)).trans (congrArg some tk)) ?_))
    exact if_pos (nI_lt (by omega) (by omega))
theorem c_exposed {h : Z_H} {A : Nat → Int32} (C : CA h A) {x : Int32} : f_X7_exposed h 1 x = some (sm (fun i => if A (1087 + 41 * i + 0) = x then vsO A i else 0) (nk A)) := by
  have H := C.1
  obtain ⟨ek, h40⟩ := C.k
  have key := lp_sum (b := f_X7_exposed_l1 1 x h) (N := nk A) (fun i => if A (1087 + 41 * i + 0) = x then vsO A i else 0) (by omega) ?_ ?_ 0
  · unfold f_X7_exposed
    refine gdE (yg1 H) (bnd key ?_)
    rw [Int32.zero_add]
  · intro rec i a hi
    have wh := (c_sale C.2.2.2.2.2.2.1 hi).1
    unfold f_X7_exposed_l1
    refine bnd (yR1_3 H) (bnd ((yI21 H 0).trans (congrArg some ek)) ?_)
    refine (if_neg (nI_ge hi (by omega))).trans (bnd (yR1_3 H) (bnd (yR21_1 H) (bnd ((yA22 H (show i < 40 by omega)).trans (congrArg some wh)) (jnE ?_))))
    by_cases c : A (1087 + 41 * i + 0) = x
    · refine (if_pos c).trans (bnd (c_vestedOfSale C hi) (ltE ?_))
      rw [nI_1, if_pos c]
    · refine (if_neg c).trans (ltE ?_)
      rw [nI_1, if_neg c]
  · intro rec a
    unfold f_X7_exposed_l1
    refine bnd (yR1_3 H) (bnd ((yI21 H 0).trans (congrArg some ek)) ?_)
    exact if_pos (nI_le (Nat.le_refl _) (by omega))
theorem c_countOf {h : Z_H} {A : Nat → Int32} (C : CA h A) {x : Int32} : f_X5_countOf h 21 x = some (sm (fun i => if A (1087 + 41 * i + 0) = x then 1 else 0) (nk A)) := by
  have H := C.1
  obtain ⟨ek, h40⟩ := C.k
  have key := lp_sum (b := f_X5_countOf_l1 21 x h) (N := nk A) (fun i => if A (1087 + 41 * i + 0) = x then 1 else 0) (by omega) ?_ ?_ 0
  · unfold f_X5_countOf
    refine gdE (yg21 H) (bnd key ?_)
    rw [Int32.zero_add]
  · intro rec i a hi
    have wh := (c_sale C.2.2.2.2.2.2.1 hi).1
    unfold f_X5_countOf_l1
    refine bnd ((yI21 H 0).trans (congrArg some ek)) ?_
    refine (if_neg (nI_ge hi (by omega))).trans (bnd (yR21_1 H) (bnd ((yA22 H (show i < 40 by omega)).trans (congrArg some wh)) (jnE ?_)))
    by_cases c : A (1087 + 41 * i + 0) = x
    · refine (if_pos c).trans (ltE ?_)
      rw [nI_1, if_pos c]
    · refine (if_neg c).trans (ltE ?_)
      rw [nI_1, if_neg c]
  · intro rec a
    unfold f_X5_countOf_l1
    refine bnd ((yI21 H 0).trans (congrArg some ek)) ?_
    exact if_pos (nI_le (Nat.le_refl _) (by omega))
/-- a sum over the sales, in the class -/
theorem c_allAmounts {h : Z_H} {A : Nat → Int32} (C : CA h A) : f_X5_allAmounts h 21 = some (sm (fun i => A (1087 + 41 * i + 1)) (nk A)) := by
  have H := C.1
  obtain ⟨ek, h40⟩ := C.k
  have key := lp_sum (b := f_X5_allAmounts_l1 21 h) (N := nk A) (fun i => A (1087 + 41 * i + 1)) (by omega) ?_ ?_ 0
  · unfold f_X5_allAmounts
    refine gdE (yg21 H) (bnd key ?_)
    rw [Int32.zero_add]
  · intro rec i a hi
    have wh := (c_sale C.2.2.2.2.2.2.1 hi).2.1
    unfold f_X5_allAmounts_l1
    refine bnd ((yI21 H 0).trans (congrArg some ek)) ?_
    refine (if_neg (nI_ge hi (by omega))).trans (bnd (yR21_2 H) (bnd ((yA23 H (show i < 40 by omega)).trans (congrArg some wh)) (ltE ?_)))
    rw [nI_1]
  · intro rec a
    unfold f_X5_allAmounts_l1
    refine bnd ((yI21 H 0).trans (congrArg some ek)) ?_
    exact if_pos (nI_le (Nat.le_refl _) (by omega))
theorem c_allNetAmounts {h : Z_H} {A : Nat → Int32} (C : CA h A) (S : SLs (cl h) A) : f_X5_allNetAmounts h 21 = some (sm (fun i => naS A i) (nk A)) := by
  have H := C.1
  obtain ⟨ek, h40⟩ := C.k
  have key := lp_sum (b := f_X5_allNetAmounts_l1 21 h) (N := nk A) (fun i => naS A i) (by omega) ?_ ?_ 0
  · unfold f_X5_allNetAmounts
    refine gdE (yg21 H) (bnd key ?_)
    rw [Int32.zero_add]
  · intro rec i a hi
    unfold f_X5_allNetAmounts_l1
    refine bnd ((yI21 H 0).trans (congrArg some ek)) ?_
    refine (if_neg (nI_ge hi (by omega))).trans (bnd (c_netAmount H S hi) (ltE ?_))
    rw [nI_1]
  · intro rec a
    unfold f_X5_allNetAmounts_l1
    refine bnd ((yI21 H 0).trans (congrArg some ek)) ?_
    exact if_pos (nI_le (Nat.le_refl _) (by omega))
theorem c_allTogether {h : Z_H} {A : Nat → Int32} (C : CA h A) {f : Nat} (hf : f < 7) : f_X5_allTogether h 21 (nI f) = some (sm (fun i => ptO A f i) (nk A)) := by
  have H := C.1
  obtain ⟨ek, h40⟩ := C.k
  have key := lp_sum (b := f_X5_allTogether_l1 21 (nI f) h) (N := nk A) (fun i => ptO A f i) (by omega) ?_ ?_ 0
  · unfold f_X5_allTogether
    refine gdE (yg21 H) (bnd key ?_)
    rw [Int32.zero_add]
  · intro rec i a hi
    unfold f_X5_allTogether_l1
    refine bnd ((yI21 H 0).trans (congrArg some ek)) ?_
    refine (if_neg (nI_ge hi (by omega))).trans (bnd (c_together C hi hf) (ltE ?_))
    rw [nI_1]
  · intro rec a
    unfold f_X5_allTogether_l1
    refine bnd ((yI21 H 0).trans (congrArg some ek)) ?_
    exact if_pos (nI_le (Nat.le_refl _) (by omega))
theorem c_allNetPays {h : Z_H} {A : Nat → Int32} (C : CA h A) : f_X5_allNetPays h 21 = some (sm (fun i => npT A i) (nk A)) := by
  have H := C.1
  obtain ⟨ek, h40⟩ := C.k
  have key := lp_sum (b := f_X5_allNetPays_l1 21 h) (N := nk A) (fun i => npT A i) (by omega) ?_ ?_ 0
  · unfold f_X5_allNetPays
    refine gdE (yg21 H) (bnd key ?_)
    rw [Int32.zero_add]
  · intro rec i a hi
    unfold f_X5_allNetPays_l1
    refine bnd ((yI21 H 0).trans (congrArg some ek)) ?_
    refine (if_neg (nI_ge hi (by omega))).trans (bnd (c_netPays C hi) (ltE ?_))
    rw [nI_1]
  · intro rec a
    unfold f_X5_allNetPays_l1
    refine bnd ((yI21 H 0).trans (congrArg some ek)) ?_
    exact if_pos (nI_le (Nat.le_refl _) (by omega))
theorem c_allVested {h : Z_H} {A : Nat → Int32} (C : CA h A) : f_X7_allVested h 1 = some (sm (fun i => vsO A i) (nk A)) := by
  have H := C.1
  obtain ⟨ek, h40⟩ := C.k
  have key := lp_sum (b := f_X7_allVested_l1 1 h) (N := nk A) (fun i => vsO A i) (by omega) ?_ ?_ 0
  · unfold f_X7_allVested
    refine gdE (yg1 H) (bnd key ?_)
    rw [Int32.zero_add]
  · intro rec i a hi
    unfold f_X7_allVested_l1
    refine bnd (yR1_3 H) (bnd ((yI21 H 0).trans (congrArg some ek)) ?_)
    refine (if_neg (nI_ge hi (by omega))).trans (bnd (c_vestedOfSale C hi) (ltE ?_))
    rw [nI_1]
  · intro rec a
    unfold f_X7_allVested_l1
    refine bnd (yR1_3 H) (bnd ((yI21 H 0).trans (congrArg some ek)) ?_)
    exact if_pos (nI_le (Nat.le_refl _) (by omega))
def qtB (A : Nat → Int32) (s : Nat) : Bool := decide (¬ A (147 + 94 * s + 1) = -1)
theorem qt_if {A : Nat → Int32} {s : Nat} : (if A (147 + 94 * s + 1) = -1 then (0 : Int32) else 1) = if qtB A s then 1 else 0 := by
  unfold qtB
  by_cases c : A (147 + 94 * s + 1) = -1
  · rw [if_pos c, decide_eq_false (fun q => q c)]
    rfl
  · rw [if_neg c, decide_eq_true c]
    rfl
theorem c_allNotVested {h : Z_H} {A : Nat → Int32} (C : CA h A) {b : Bool} : f_X7_allNotVested h 1 (if b then 1 else 0) = some (sm (fun s => if qtB A s = b then nvS A (nI s) else 0) (nn A)) := by
  have H := C.1
  obtain ⟨ec, h10⟩ := C.n
  have key := lp_sum (b := f_X7_allNotVested_l1 1 (if b then 1 else 0) h) (N := nn A) (fun s => if qtB A s = b then nvS A (nI s) else 0) (by omega) ?_ ?_ 0
  · unfold f_X7_allNotVested
    refine gdE (yg1 H) (bnd key ?_)
    rw [Int32.zero_add]
  · intro rec s a hs
    have hl := c_hasLeft H C.2.2.2.2.2.1 C.2.1 hs
    rw [qt_if] at hl
    unfold f_X7_allNotVested_l1
    refine bnd (yR1_2 H) (bnd ((yI13 H 0).trans (congrArg some ec)) ?_)
    refine (if_neg (nI_ge hs (by omega))).trans (bnd (yR1_2 H) (bnd hl (jnE ?_)))
    by_cases c : qtB A s = b
    · rw [if_pos c]
      refine (if_pos (by rw [c])).trans (bnd (c_notVested C) (ltE ?_))
      rw [nI_1]
    · rw [if_neg c]
      refine (if_neg (fun e => c ?_)).trans (ltE ?_)
      · cases hq : qtB A s <;> cases hb : b
        · rfl
        · rw [hq, hb] at e; exact absurd e (by decide)
        · rw [hq, hb] at e; exact absurd e (by decide)
        · rfl
      · rw [nI_1]
  · intro rec a
    unfold f_X7_allNotVested_l1
    refine bnd (yR1_2 H) (bnd ((yI13 H 0).trans (congrArg some ec)) ?_)
    exact if_pos (nI_le (Nat.le_refl _) (by omega))
theorem c_allDrawn {h : Z_H} {A : Nat → Int32} (C : CA h A) : f_X0_allDrawn h 13 = some (sm (fun s => A (147 + 94 * s + 3)) (nn A)) := by
  have H := C.1
  obtain ⟨ec, h10⟩ := C.n
  have key := lp_sum (b := f_X0_allDrawn_l1 13 h) (N := nn A) (fun s => A (147 + 94 * s + 3)) (by omega) ?_ ?_ 0
  · unfold f_X0_allDrawn
    refine gdE (yg13 H) (bnd key ?_)
    rw [Int32.zero_add]
  · intro rec s a hs
    have ed : z_i h 16 s = A (147 + 94 * s + 3) := (C.2.2.2.2.2.1.2.2 s hs).2.2.2.1
    unfold f_X0_allDrawn_l1
    refine bnd ((yI13 H 0).trans (congrArg some ec)) ?_
    refine (if_neg (nI_ge hs (by omega))).trans (bnd (yR13_3 H) (bnd ((yA16 H (show s < 10 by omega)).trans (congrArg some ed)) (ltE ?_)))
    rw [nI_1]
  · intro rec a
    unfold f_X0_allDrawn_l1
    refine bnd ((yI13 H 0).trans (congrArg some ec)) ?_
    exact if_pos (nI_le (Nat.le_refl _) (by omega))
theorem c_leavers {h : Z_H} {A : Nat → Int32} (C : CA h A) : f_X0_leavers h 13 = some (nI (bsN (qtB A) (nn A))) := by
  have H := C.1
  obtain ⟨ec, h10⟩ := C.n
  have key := lp_for (b := f_X0_leavers_l1 13 h) (fun k (_ : Unit) => (nI (bsN (qtB A) k), nI k)) (fun _ _ => True) (fun _ w => w) (fun _ => some (nI (bsN (qtB A) (nn A)))) (nn A) ?_ (fun _ _ _ _ => trivial) ?_ (nn A) FU 0 () (by omega) (by unfold FU; omega) trivial
  · have key' : lp (f_X0_leavers_l1 13 h) FU (0, 0) = _ := key
    unfold f_X0_leavers
    exact gdE (yg13 H) (bnd key' rfl)
  · intro rec k w hk _
    have hl := c_hasLeft H C.2.2.2.2.2.1 C.2.1 hk
    rw [qt_if] at hl
    have bo := bs_or (p := qtB A) (k := k) (by omega)
    unfold f_X0_leavers_l1
    refine bnd ((yI13 H 0).trans (congrArg some ec)) ?_
    refine (if_neg (nI_ge hk (by omega))).trans (bnd hl (jnE ?_))
    cases hq : qtB A k with
    | true =>
      rw [hq, if_pos rfl] at bo
      refine (if_neg (show ¬ (if true = true then (1 : Int32) else 0) = 0 by decide)).trans (ltE ?_)
      rw [bo, nI_1]
    | false =>
      rw [hq, if_neg (by simp)] at bo
      refine (if_pos (show (if false = true then (1 : Int32) else 0) = 0 by decide)).trans (ltE ?_)
      rw [bo, nI_1]
  · intro rec w _
    unfold f_X0_leavers_l1
    refine bnd ((yI13 H 0).trans (congrArg some ec)) ?_
    exact if_pos (nI_le (Nat.le_refl _) (by omega))
/-! the model's -/
theorem e_paysOf {h : Z_H} (H : LY h) (hM : MSale (z_i h 62)) {i f : Nat} (hi : i < nk (z_i h 62)) (hf : f < 7) : f_X10_paysOf h 61 (nI i) (nI f) = some (ptO (z_i h 62) f i) := by
  have h40 := hM.k.1
  obtain ⟨h5, eq, -⟩ := hM.q hi
  have o5 := e_oa5 (s := i) H (by omega)
  rw [eq] at o5
  have key := lp_sum (b := f_X10_paysOf_l1 61 (nI i) (nI f) h) (N := nq (z_i h 62) i) (fun l => z_i h 62 (1087 + 41 * i + (6 + 7 * l + f))) (by omega) ?_ ?_ 0
  · unfold f_X10_paysOf
    refine gdE (yg61 H) (bnd key ?_)
    rw [Int32.zero_add]
    rfl
  · intro rec l a hl
    unfold f_X10_paysOf_l1
    refine bnd o5 ((if_neg (nI_ge hl (by omega))).trans (bnd (e_ofLevel H (by omega)) (ltE ?_)))
    rw [nI_1]
  · intro rec a
    unfold f_X10_paysOf_l1
    exact bnd o5 (if_pos (nI_le (Nat.le_refl _) (by omega)))
theorem e_netPaysOf {h : Z_H} (H : LY h) (hM : MSale (z_i h 62)) {i : Nat} (hi : i < nk (z_i h 62)) : f_X10_netPaysOf h 61 (nI i) = some (npT (z_i h 62) i) := by
  have h40 := hM.k.1
  obtain ⟨h5, eq, -⟩ := hM.q hi
  have o5 := e_oa5 (s := i) H (by omega)
  rw [eq] at o5
  have key := lp_sum (b := f_X10_netPaysOf_l1 61 (nI i) h) (N := nq (z_i h 62) i) (fun l => npS (z_i h 62) i l) (by omega) ?_ ?_ 0
  · unfold f_X10_netPaysOf
    refine gdE (yg61 H) (bnd key ?_)
    rw [Int32.zero_add]
    rfl
  · intro rec l a hl
    unfold f_X10_netPaysOf_l1
    refine bnd o5 ((if_neg (nI_ge hl (by omega))).trans (bnd (e_netPay H (by omega) (by omega)) (ltE ?_)))
    rw [nI_1]
  · intro rec a
    unfold f_X10_netPaysOf_l1
    exact bnd o5 (if_pos (nI_le (Nat.le_refl _) (by omega)))
theorem e_146 {h : Z_H} (H : LY h) (hM : MSale (z_i h 62)) : aI h 62 146 = some (nI (nk (z_i h 62))) := by
  have := yA62 (k := 146) H (by omega)
  rw [hM.k.2] at this
  exact this
theorem e_145 {h : Z_H} (H : LY h) (hN : VN (z_i h 62)) : aI h 62 145 = some (nI (nn (z_i h 62))) := by
  have := yA62 (k := 145) H (by omega)
  rw [hN.2.2.1] at this
  exact this
theorem e_salesOf {h : Z_H} (H : LY h) (hM : MSale (z_i h 62)) {x : Int32} : f_X10_salesOf h 61 x = some (sm (fun i => if z_i h 62 (1087 + 41 * i + 0) = x then 1 else 0) (nk (z_i h 62))) := by
  have h40 := hM.k.1
  have key := lp_sum (b := f_X10_salesOf_l1 61 x h) (N := nk (z_i h 62)) (fun i => if z_i h 62 (1087 + 41 * i + 0) = x then 1 else 0) (by omega) ?_ ?_ 0
  · unfold f_X10_salesOf
    refine gdE (yg61 H) (bnd key ?_)
    rw [Int32.zero_add]
  · intro rec i a hi
    unfold f_X10_salesOf_l1
    refine bnd (yR61_1 H) (bnd (e_146 H hM) ((if_neg (nI_ge hi (by omega))).trans (bnd (e_oa0 H (by omega)) (jnE ?_))))
    by_cases c : z_i h 62 (1087 + 41 * i + 0) = x
    · refine (if_pos c).trans (ltE ?_)
      rw [nI_1, if_pos c]
    · refine (if_neg c).trans (ltE ?_)
      rw [nI_1, if_neg c]
  · intro rec a
    unfold f_X10_salesOf_l1
    exact bnd (yR61_1 H) (bnd (e_146 H hM) (if_pos (nI_le (Nat.le_refl _) (by omega))))
theorem e_exposedOf {h : Z_H} (H : LY h) (hM : MSale (z_i h 62)) {x : Int32} : f_X10_exposedOf h 61 x = some (sm (fun i => if z_i h 62 (1087 + 41 * i + 0) = x then vsO (z_i h 62) i else 0) (nk (z_i h 62))) := by
  have h40 := hM.k.1
  have l2 : ∀ i a, i < nk (z_i h 62) → lp (f_X10_exposedOf_l2 61 x h (nI i)) FU (a, 0) = some (a + (if z_i h 62 (1087 + 41 * i + 0) = x then vsO (z_i h 62) i else 0)) := fun i a hi => by
    obtain ⟨h5, eq, hw⟩ := hM.q hi
    have o5 := e_oa5 (s := i) H (by omega)
    rw [eq] at o5
    have key := lp_sum (b := f_X10_exposedOf_l2 61 x h (nI i)) (N := nq (z_i h 62) i) (fun l => if z_i h 62 (1087 + 41 * i + 0) = x then vS (z_i h 62) i l (z_i h 62 144) else 0) (by omega) ?_ ?_ a
    · rw [key]
      congr 2
      by_cases c : z_i h 62 (1087 + 41 * i + 0) = x
      · rw [if_pos c]
        exact sm_congr _ (fun l _ => if_pos c)
      · rw [if_neg c]
        exact sm_zero _ (fun l _ => if_neg c)
    · intro rec l b hl
      obtain ⟨w, w1, w2⟩ := hw l hl
      unfold f_X10_exposedOf_l2
      refine bnd o5 ((if_neg (nI_ge hl (by omega))).trans (bnd (e_oa0 H (by omega)) (jnE ?_)))
      by_cases c : z_i h 62 (1087 + 41 * i + 0) = x
      · refine (if_pos c).trans (bnd (e_now H) (bnd (e_vestedAt H (by omega) (by omega) w1 w2) (ltE ?_)))
        rw [nI_1, if_pos c]
      · refine (if_neg c).trans (ltE ?_)
        rw [nI_1, if_neg c]
    · intro rec b
      unfold f_X10_exposedOf_l2
      exact bnd o5 (if_pos (nI_le (Nat.le_refl _) (by omega)))
  have key := lp_sum (b := f_X10_exposedOf_l1 61 x h) (N := nk (z_i h 62)) (fun i => if z_i h 62 (1087 + 41 * i + 0) = x then vsO (z_i h 62) i else 0) (by omega) ?_ ?_ 0
  · unfold f_X10_exposedOf
    refine gdE (yg61 H) (bnd key ?_)
    rw [Int32.zero_add]
  · intro rec i a hi
    unfold f_X10_exposedOf_l1
    refine bnd (yR61_1 H) (bnd (e_146 H hM) ((if_neg (nI_ge hi (by omega))).trans (bnd (l2 i a hi) ?_)))
    rw [nI_1]
  · intro rec a
    unfold f_X10_exposedOf_l1
    exact bnd (yR61_1 H) (bnd (e_146 H hM) (if_pos (nI_le (Nat.le_refl _) (by omega))))
/-- what all have earned is what is vested of all sales -/
theorem all_earned {A : Nat → Int32} (hS : VS A) (hN : VN A) : sm (fun s => eS A (nI s) (A 144) (-1)) (nn A) = sm (fun i => vsO A i) (nk A) := by
  have h10 := hN.2.1
  have h40 := hS.1
  have e1 : sm (fun s => eS A (nI s) (A 144) (-1)) (nn A) = sm (fun s => sm (fun i => sm (fun l => if whS A i l = nI s then vS A i l (A 144) else 0) (nq A i)) (nk A)) (nn A) := by
    refine sm_congr _ (fun s _ => ?_)
    rw [eS_eq]
    refine sm_congr _ (fun i hi => sm_congr _ (fun l _ => ?_))
    rw [if_neg (nI_m1 (by omega))]
  rw [e1, sm_swap (f := fun s i => sm (fun l => if whS A i l = nI s then vS A i l (A 144) else 0) (nq A i)) (N := nk A) (nn A)]
  refine sm_congr _ (fun i hi => ?_)
  rw [sm_swap (f := fun s l => if whS A i l = nI s then vS A i l (A 144) else 0) (N := nq A i) (nn A)]
  refine sm_congr _ (fun l hl => ?_)
  obtain ⟨w, hw, ew⟩ := (hS.2.2 i hi).2.2.2.2.2.1 l hl
  rw [sm_one (t := fun s => if whS A i l = nI s then vS A i l (A 144) else 0) (nn A) w hw (fun k hk hne => if_neg (fun q => hne ?_))]
  · exact if_pos ew
  · rw [ew] at q
    exact ((nI_eq (by omega) (by omega)).mp q).symm
