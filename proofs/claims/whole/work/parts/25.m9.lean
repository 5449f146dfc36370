/-- a line of a journal, in the model's row -/
def jA (A : Nat → Int32) (s : Nat) (w m mu sa : Int32) : Nat → Int32 := fun j =>
  if j = 147 + 94 * s + 29 then les 16 (A j + 1)
  else if j = 177 + 94 * s + 3 then sa
  else if j = 177 + 94 * s + 2 then mu
  else if j = 177 + 94 * s + 1 then m
  else if j = 177 + 94 * s then w
  else if 177 + 94 * s + 4 ≤ j ∧ j < 177 + 94 * s + 64 then A (j - 4) else A j
def shK (A : Nat → Int32) (a k : Nat) : Nat → Int32 := fun j => if a + 64 - k ≤ j ∧ j < a + 64 then A (j - 4) else A j
theorem shK_s {A : Nat → Int32} {a k : Nat} (hk : k < 60) : upd (shK A a k) (a + 63 - k) (A (a + 63 - k - 4)) = shK A a (k + 1) := by
  funext j
  unfold upd shK
  by_cases e : j = a + 63 - k
  · rw [if_pos e, if_pos (by omega), e]
  · rw [if_neg e]
    by_cases q : a + 64 - k ≤ j ∧ j < a + 64
    · rw [if_pos q, if_pos (by omega)]
    · rw [if_neg q, if_neg (by omega)]
/-- only cell a is another -/
def ON (h h' : Z_H) (a : Nat) : Prop := TW h h' a a
theorem e_writes {h : Z_H} (H : LY h) {s : Nat} {w mu sa : Int32} (hs : s < 10) : ∃ h', f_X10_writes h 61 (nI s) w mu sa = some h' ∧ ON h h' 62 ∧ z_i h' 62 = jA (z_i h 62) s w (z_i h 62 144) mu sa := by
  let at_ := 177 + 94 * s
  let g : Nat → Z_H → Z_H := fun k q => z_si q 62 (at_ + 63 - k) (z_i q 62 (at_ + 63 - k - 4))
  have gen : ∀ (n i : Nat) (q : Z_H), i + n ≤ 60 → LY q ∧ ON h q 62 ∧ z_i q 62 = shK (z_i h 62) at_ i → LY (itf g i n q) ∧ ON h (itf g i n q) 62 ∧ z_i (itf g i n q) 62 = shK (z_i h 62) at_ (i + n) := by
    intro n
    induction n with
    | zero => intro i q _ hq; exact hq
    | succ n ih =>
      intro i q hi hq
      have := ih (i + 1) (g i q) (by omega) ⟨hq.1, hq.2.1.tr (TW_si (Or.inl rfl)), by
        show z_i (z_si q 62 (at_ + 63 - i) (z_i q 62 (at_ + 63 - i - 4))) 62 = _
        rw [z_si_i, hq.2.2]
        have e : shK (z_i h 62) at_ i (at_ + 63 - i - 4) = z_i h 62 (at_ + 63 - i - 4) := by
          unfold shK
          rw [if_neg (by omega)]
        rw [e, shK_s (by omega)]⟩
      rw [show i + 1 + n = i + (n + 1) by omega] at this
      exact this
  have e0 : shK (z_i h 62) at_ 0 = z_i h 62 := by
    funext j
    unfold shK
    rw [if_neg (by omega)]
  obtain ⟨H4, on4, e4⟩ := gen 60 0 h (by omega) ⟨H, TW.rf, e0.symm⟩
  have key := lp_for (b := f_X10_writes_l1 61 (nI at_)) (fun k (q : Z_H) => (nI (63 - k), q)) (fun _ q => LY q) g some 60 ?_ ?_ ?_ 60 FU 0 h rfl (by unfold FU; omega) H
  · generalize hq : itf g 0 60 h = q4 at *
    have key' : lp (f_X10_writes_l1 61 (nI at_)) FU (63, h) = some q4 := key
    have v1 : ((147 : Int32) + ((94 : Int32) * nI s)) + 30 = nI at_ := by
      rw [n_147, n_94, n_30, nI_mul, nI_add, nI_add]
      congr 1
      show 147 + 94 * s + 30 = 177 + 94 * s
      omega
    have sS : ∀ (q : Z_H) (j : Nat) (v : Int32), LY q → j < 10908 → sI q 62 (nI j) v = some (z_si q 62 j v) := fun q j v G hj => yS62 G hj
    have hat : at_ = 177 + 94 * s := rfl
    have en : z_i (z_si q4 62 at_ w) 62 144 = z_i h 62 144 := by
      rw [z_si_i, upd_o (by omega), e4]
      unfold shK
      rw [if_neg (by omega)]
    refine ⟨z_si (z_si (z_si (z_si (z_si q4 62 at_ w) 62 (at_ + 1) (z_i h 62 144)) 62 (at_ + 2) mu) 62 (at_ + 3) sa) 62 (147 + 94 * s + 29) (les 16 (z_i h 62 (147 + 94 * s + 29) + 1)), ?_, ?_, ?_⟩
    · have G1 : LY (z_si q4 62 at_ w) := H4
      have G2 : LY (z_si (z_si q4 62 at_ w) 62 (at_ + 1) (z_i h 62 144)) := H4
      have G3 : LY (z_si (z_si (z_si q4 62 at_ w) 62 (at_ + 1) (z_i h 62 144)) 62 (at_ + 2) mu) := H4
      have G4 : LY (z_si (z_si (z_si (z_si q4 62 at_ w) 62 (at_ + 1) (z_i h 62 144)) 62 (at_ + 2) mu) 62 (at_ + 3) sa) := H4
      have e29 : z_i (z_si (z_si (z_si (z_si q4 62 at_ w) 62 (at_ + 1) (z_i h 62 144)) 62 (at_ + 2) mu) 62 (at_ + 3) sa) 62 (147 + 94 * s + 29) = z_i h 62 (147 + 94 * s + 29) := by
        rw [z_si_i, upd_o (by omega), z_si_i, upd_o (by omega), z_si_i, upd_o (by omega), z_si_i, upd_o (by omega), e4]
        unfold shK
        rw [if_neg (by omega)]
      have es29 : ∀ v, f_X10_setSeller (z_si (z_si (z_si (z_si q4 62 at_ w) 62 (at_ + 1) (z_i h 62 144)) 62 (at_ + 2) mu) 62 (at_ + 3) sa) 61 (nI s) 29 v = some (z_si (z_si (z_si (z_si (z_si q4 62 at_ w) 62 (at_ + 1) (z_i h 62 144)) 62 (at_ + 2) mu) 62 (at_ + 3) sa) 62 (147 + 94 * s + 29) v) := fun v => e_setSeller (w := 29) G4 (by omega)
      unfold f_X10_writes
      rw [v1]
      have n1 : nI at_ + 1 = nI (at_ + 1) := nI_1 at_
      have n2 : nI at_ + 2 = nI (at_ + 2) := nI_add at_ 2
      have n3 : nI at_ + 3 = nI (at_ + 3) := nI_add at_ 3
      simp (disch := first | assumption | omega) only [gd, lt, jn, bd2, Option.bind_some, LY_si, LY_sl, LY_row, decide_true, decide_false, if_true, ite_true, ite_false, decide_eq_true_eq, yg61, yI61, yP61, yR61_1, yR61_2, yR61_12, yR61_13, yR61_17, yR61_18, yR61_21, yR61_22, yR61_23, yR61_25, yA62, yA63, yA64, yA65, yA66, yA67, yA68, yA69, yA70, yA71, yS62, yS63, yS64, yS65, yS66, yS67, yS68, yS69, yS70, yS71, key', sS q4 at_ w H4 (by omega), e_now G1, en, n1, n2, n3, sS _ (at_ + 1) _ G1 (by omega), sS _ (at_ + 2) _ G2 (by omega), sS _ (at_ + 3) _ G3 (by omega), e_os29 G4, e29, e_lesser, es29]
    · exact on4.tr ((TW_si (Or.inl rfl)).tr ((TW_si (Or.inl rfl)).tr ((TW_si (Or.inl rfl)).tr ((TW_si (Or.inl rfl)).tr (TW_si (Or.inl rfl))))))
    · rw [z_si_i, z_si_i, z_si_i, z_si_i, z_si_i, e4]
      funext j
      unfold jA upd shK
      by_cases c1 : j = 147 + 94 * s + 29
      · rw [if_pos c1, if_pos c1, c1]
      · rw [if_neg c1, if_neg c1]
        by_cases c2 : j = 177 + 94 * s + 3
        · rw [if_pos (show j = at_ + 3 from c2), if_pos c2]
        · rw [if_neg (show ¬ j = at_ + 3 from c2), if_neg c2]
          by_cases c3 : j = 177 + 94 * s + 2
          · rw [if_pos (show j = at_ + 2 from c3), if_pos c3]
          · rw [if_neg (show ¬ j = at_ + 2 from c3), if_neg c3]
            by_cases c4 : j = 177 + 94 * s + 1
            · rw [if_pos (show j = at_ + 1 from c4), if_pos c4]
            · rw [if_neg (show ¬ j = at_ + 1 from c4), if_neg c4]
              by_cases c5 : j = 177 + 94 * s
              · rw [if_pos (show j = at_ from c5), if_pos c5]
              · rw [if_neg (show ¬ j = at_ from c5), if_neg c5]
                by_cases c6 : 177 + 94 * s + 4 ≤ j ∧ j < 177 + 94 * s + 64
                · rw [if_pos (by omega), if_pos c6]
                · rw [if_neg (by omega), if_neg c6]
  · intro rec k q hk hq
    unfold f_X10_writes_l1
    have hat : at_ = 177 + 94 * s := rfl
    have i1 : nI at_ + nI (63 - k) - 4 = nI (at_ + 63 - k - 4) := by
      rw [n_4, nI_add, nI_sub (by omega)]
      congr 1
      omega
    have i2 : nI at_ + nI (63 - k) = nI (at_ + 63 - k) := by
      rw [nI_add]
      congr 1
      omega
    have i3 : nI (63 - k) + (-1) = nI (63 - (k + 1)) := by
      rw [sb_m1 (by omega)]
      congr 1
    dsimp only
    rw [i1, i2, i3]
    simp (disch := first | assumption | omega) only [gd, lt, jn, bd2, Option.bind_some, LY_si, LY_sl, LY_row, decide_true, decide_false, if_true, ite_true, ite_false, decide_eq_true_eq, yg61, yI61, yP61, yR61_1, yR61_2, yR61_12, yR61_13, yR61_17, yR61_18, yR61_21, yR61_22, yR61_23, yR61_25, yA62, yA63, yA64, yA65, yA66, yA67, yA68, yA69, yA70, yA71, yS62, yS63, yS64, yS65, yS66, yS67, yS68, yS69, yS70, yS71]
    rw [if_neg (show ¬ nI (63 - k) < (4 : Int32) from nI_nlt (b := 4) (by omega) (by omega))]
  · intro k q hk hq
    exact hq
  · intro rec q hq
    unfold f_X10_writes_l1
    simp (disch := first | assumption | omega) only [gd, lt, jn, bd2, Option.bind_some, LY_si, LY_sl, LY_row, decide_true, decide_false, if_true, ite_true, ite_false, decide_eq_true_eq, yg61, yI61, yP61, yR61_1, yR61_2, yR61_12, yR61_13, yR61_17, yR61_18, yR61_21, yR61_22, yR61_23, yR61_25, yA62, yA63, yA64, yA65, yA66, yA67, yA68, yA69, yA70, yA71, yS62, yS63, yS64, yS65, yS66, yS67, yS68, yS69, yS70, yS71]
    rfl
/-- a line of a journal, in the class's rings -/
theorem c_write {h : Z_H} (H : LY h) {s x z : Nat} {w m mu sa : Int32} (hs : s < 10) (hx : x < 16) (hz : z ≤ 16) (ex : z_i h 31 s = nI x) (ez : z_i h 30 s = nI z) : ∃ h', f_X1_write h 29 (nI s) w m mu sa = some h' ∧ z_n h' = z_n h ∧ z_t h' = z_t h ∧ z_x h' = z_x h ∧ (∀ a, a ≠ 30 → a ≠ 31 → a ≠ 32 → z_i h' a = z_i h a) ∧ z_i h' 30 = upd (z_i h 30) s (nI (min 16 (z + 1))) ∧ z_i h' 31 = upd (z_i h 31) s (nI ((x + 1) % 16)) ∧ z_i h' 32 = upd (upd (upd (upd (z_i h 32) ((s * 16 + x) * 4) w) ((s * 16 + x) * 4 + 1) m) ((s * 16 + x) * 4 + 2) mu) ((s * 16 + x) * 4 + 3) sa := by
  let p := (s * 16 + x) * 4
  have v3 : ((nI s * 16) + nI x) * 4 = nI p := by
    rw [n_16, n_4, nI_mul, nI_add, nI_mul]
  have r1 : (nI x + 1) - (nI x + 1) / 16 * 16 = nI ((x + 1) % 16) := by
    have : ∀ x, x < 16 → (nI x + 1) - (nI x + 1) / 16 * 16 = nI ((x + 1) % 16) := by decide +kernel
    exact this x hx
  have r2 : mn 16 (nI z + 1) = nI (min 16 (z + 1)) := by
    have : ∀ z, z < 17 → mn 16 (nI z + 1) = nI (min 16 (z + 1)) := by decide +kernel
    exact this z (by omega)
  have hp : p = (s * 16 + x) * 4 := rfl
  have sS : ∀ (q : Z_H) (j : Nat) (v : Int32), LY q → j < 640 → sI q 32 (nI j) v = some (z_si q 32 j v) := fun q j v G hj => yS32 G hj
  have n1 : nI p + 1 = nI (p + 1) := nI_1 p
  have n2 : nI p + 2 = nI (p + 2) := nI_add p 2
  have n3 : nI p + 3 = nI (p + 3) := nI_add p 3
  have G1 : LY (z_si h 32 p w) := H
  have G2 : LY (z_si (z_si h 32 p w) 32 (p + 1) m) := H
  have G3 : LY (z_si (z_si (z_si h 32 p w) 32 (p + 1) m) 32 (p + 2) mu) := H
  have G4 : LY (z_si (z_si (z_si (z_si h 32 p w) 32 (p + 1) m) 32 (p + 2) mu) 32 (p + 3) sa) := H
  have G5 : LY (z_si (z_si (z_si (z_si (z_si h 32 p w) 32 (p + 1) m) 32 (p + 2) mu) 32 (p + 3) sa) 31 s (nI ((x + 1) % 16))) := H
  have e31 : z_i (z_si (z_si (z_si (z_si h 32 p w) 32 (p + 1) m) 32 (p + 2) mu) 32 (p + 3) sa) 31 s = nI x := ex
  have e30 : z_i (z_si (z_si (z_si (z_si (z_si h 32 p w) 32 (p + 1) m) 32 (p + 2) mu) 32 (p + 3) sa) 31 s (nI ((x + 1) % 16))) 30 s = nI z := ez
  refine ⟨z_si (z_si (z_si (z_si (z_si (z_si h 32 p w) 32 (p + 1) m) 32 (p + 2) mu) 32 (p + 3) sa) 31 s (nI ((x + 1) % 16))) 30 s (nI (min 16 (z + 1))), ?_, rfl, rfl, rfl, fun a h1 h2 h3 => ?_, ?_, ?_, ?_⟩
  · unfold f_X1_write
    simp (disch := first | assumption | omega) only [gd, lt, jn, bd2, Option.bind_some, LY_si, LY_sl, LY_row, decide_true, decide_false, if_true, ite_true, ite_false, decide_eq_true_eq, yg0, yg1, yg2, yg4, yg13, yg21, yg29, yg35, yg36, yg45, yg50, yg59, yI0, yI1, yI2, yI4, yI13, yI21, yI29, yI35, yI36, yI45, yI50, yI59, yP0, yP1, yP2, yP4, yP13, yP21, yP29, yP35, yP36, yP45, yP50, yP59, yR0_0, yR0_1, yR0_2, yR0_3, yR0_4, yR1_0, yR1_1, yR1_2, yR1_3, yR1_4, yR1_5, yR2_0, yR4_4, yR4_5, yR4_6, yR4_7, yR4_8, yR4_9, yR4_10, yR4_11, yR13_1, yR13_2, yR13_3, yR13_4, yR13_5, yR13_6, yR13_7, yR21_1, yR21_2, yR21_3, yR21_4, yR21_5, yR21_6, yR21_7, yR29_0, yR29_1, yR29_2, yR35_0, yR35_1, yR35_2, yR35_3, yR35_4, yR36_4, yR36_5, yR36_6, yR36_7, yR36_8, yR36_9, yR36_10, yR36_11, yR45_0, yR50_0, yR50_1, yR50_2, yR50_3, yR50_4, yR50_5, yR50_6, yR50_7, yR59_1, yA3, yA5, yA6, yA7, yA8, yA9, yA10, yA11, yA12, yA14, yA15, yA16, yA17, yA18, yA19, yA20, yA22, yA23, yA24, yA25, yA26, yA27, yA28, yA30, yA31, yA32, yA33, yA37, yA38, yA39, yA40, yA41, yA42, yA43, yA44, yA46, yA47, yA48, yA49, yA51, yA52, yA53, yA54, yA55, yA56, yA57, yA58, yA60, yS3, yS5, yS6, yS7, yS8, yS9, yS10, yS11, yS12, yS14, yS15, yS16, yS17, yS18, yS19, yS20, yS22, yS23, yS24, yS25, yS26, yS27, yS28, yS30, yS31, yS32, yS33, yS37, yS38, yS39, yS40, yS41, yS42, yS43, yS44, yS46, yS47, yS48, yS49, yS51, yS52, yS53, yS54, yS55, yS56, yS57, yS58, yS60, ex, v3, sS _ p _ H (by omega), n1, n2, n3, sS _ (p + 1) _ G1 (by omega), sS _ (p + 2) _ G2 (by omega), sS _ (p + 3) _ G3 (by omega), e31, r1, e30, r2]
  · rw [z_si_o h1, z_si_o h2, z_si_o h3, z_si_o h3, z_si_o h3, z_si_o h3]
  · rw [z_si_i]; rfl
  · rw [z_si_o (by omega), z_si_i]; rfl
  · rw [z_si_o (by omega), z_si_o (by omega), z_si_i, z_si_i, z_si_i, z_si_i]
theorem RS_line {c c' : Nat → Nat → Int32} {A T : Nat → Int32} (hR : RS c A T) {s x : Nat} (hs : s < nn A) {w m mu sa : Int32} (ex : c 30 s = nI x) (hx : x < 16) (hc : ∀ o, o < 32 → o ≠ 29 → o ≠ 30 → o ≠ 31 → c' o = c o) (h29 : c' 29 = upd (c 29) s (nI (min 16 (nj A s + 1)))) (h30 : c' 30 = upd (c 30) s (nI ((x + 1) % 16))) (h31 : c' 31 = upd (upd (upd (upd (c 31) ((s * 16 + x) * 4) w) ((s * 16 + x) * 4 + 1) m) ((s * 16 + x) * 4 + 2) mu) ((s * 16 + x) * 4 + 3) sa) : RS c' (jA A s w m mu sa) T := by
  have h10 := hR.1.1.2.1
  have hJ := hR.1.2.2.2.2.2.2.1
  have hRj := hR.2.2.2.2.2.1
  have lo : ∀ j, j < 147 → jA A s w m mu sa j = A j := fun j hj => by
    unfold jA
    rw [if_neg (by omega), if_neg (by omega), if_neg (by omega), if_neg (by omega), if_neg (by omega), if_neg (by omega)]
  have mid : ∀ t v, v < 29 → jA A s w m mu sa (147 + 94 * t + v) = A (147 + 94 * t + v) := fun t v hv => by
    unfold jA
    rw [if_neg (by omega), if_neg (by omega), if_neg (by omega), if_neg (by omega), if_neg (by omega), if_neg (by omega)]
  have oth : ∀ t v, t ≠ s → v < 94 → jA A s w m mu sa (147 + 94 * t + v) = A (147 + 94 * t + v) := fun t v ht hv => by
    unfold jA
    rw [if_neg (by omega), if_neg (by omega), if_neg (by omega), if_neg (by omega), if_neg (by omega), if_neg (by omega)]
  have hi : ∀ j, 1087 ≤ j → jA A s w m mu sa j = A j := fun j hj => by
    unfold jA
    rw [if_neg (by omega), if_neg (by omega), if_neg (by omega), if_neg (by omega), if_neg (by omega), if_neg (by omega)]
  have en : nn (jA A s w m mu sa) = nn A := by unfold nn; rw [lo 145 (by omega)]
  obtain ⟨j1, j2⟩ := hJ s hs
  have e29 : jA A s w m mu sa (147 + 94 * s + 29) = nI (min 16 (nj A s + 1)) := by
    unfold jA
    rw [if_pos rfl, j2]
    have : ∀ z, z < 17 → les 16 (nI z + 1) = nI (min 16 (z + 1)) := by decide +kernel
    exact this _ (by omega)
  have enj : nj (jA A s w m mu sa) s = min 16 (nj A s + 1) := by
    unfold nj at *
    rw [e29, nI_clamp (by omega)]
  have enj' : ∀ t, t ≠ s → nj (jA A s w m mu sa) t = nj A t := fun t ht => by unfold nj; rw [oth t 29 ht (by omega)]
  refine RS_jour hR lo mid hi hc (fun t ht => ?_) ⟨fun t ht => ?_, fun t g1 g2 => ?_⟩
  · rw [en] at ht
    by_cases e : t = s
    · rw [e, enj, e29]
      exact ⟨by omega, rfl⟩
    · rw [enj' t e, oth t 29 e (by omega)]
      exact hJ t ht
  · rw [en] at ht
    obtain ⟨q1, y, q2, q3, q4, q5⟩ := hRj.1 t ht
    by_cases e : t = s
    · subst e
      have exy : y = x := by
        rw [ex] at q3
        exact ((nI_eq (by omega) (by omega)).mp q3).symm
      subst exy
      rw [enj, e29, h29, upd_s, h30, upd_s, h31]
      refine ⟨rfl, (y + 1) % 16, by omega, rfl, fun q => by omega, fun i hi' v hv => ?_⟩
      have sl : ((y + 1) % 16 + 16 - 1 - i) % 16 = if i = 0 then y else (y + 16 - 1 - (i - 1)) % 16 := by
        split <;> omega
      rw [sl]
      by_cases i0 : i = 0
      · subst i0
        rw [if_pos rfl]
        unfold jA upd
        have : v = 0 ∨ v = 1 ∨ v = 2 ∨ v = 3 := by omega
        rcases this with rfl | rfl | rfl | rfl
        · rw [if_neg (by omega), if_neg (by omega), if_neg (by omega), if_pos (by omega), if_neg (by omega), if_neg (by omega), if_neg (by omega), if_neg (by omega), if_pos (by omega)]
        · rw [if_neg (by omega), if_neg (by omega), if_pos (by omega), if_neg (by omega), if_neg (by omega), if_neg (by omega), if_pos (by omega)]
        · rw [if_neg (by omega), if_pos (by omega), if_neg (by omega), if_neg (by omega), if_pos (by omega)]
        · rw [if_pos (by omega), if_neg (by omega), if_pos (by omega)]
      · rw [if_neg i0]
        have eA : jA A t w m mu sa (147 + 94 * t + (30 + 4 * i + v)) = A (147 + 94 * t + (30 + 4 * (i - 1) + v)) := by
          unfold jA
          rw [if_neg (by omega), if_neg (by omega), if_neg (by omega), if_neg (by omega), if_neg (by omega), if_pos (by omega)]
          congr 1
          omega
        rw [eA, upd_o (by omega), upd_o (by omega), upd_o (by omega), upd_o (by omega)]
        exact q5 (i - 1) (by omega) v hv
    · rw [enj' t e, oth t 29 e (by omega), h29, upd_o e, h30, upd_o e, h31]
      refine ⟨q1, y, q2, q3, q4, fun i hi' v hv => ?_⟩
      have hj16 := (hJ t ht).1
      rw [oth t (30 + 4 * i + v) e (by omega), upd_o (by omega), upd_o (by omega), upd_o (by omega), upd_o (by omega)]
      exact q5 i hi' v hv
  · rw [en] at g1
    rw [h29, h30, upd_o (by omega), upd_o (by omega)]
    exact hRj.2 t g1 g2
