/-! what the Statement gives of the words -/
theorem f_ex : ∀ i, i < 14 → Cond.exactly (Term.string RX4 (idxS.getD i 0)) "java/lang/String" ∈ flatC (Jvm.Cond.and given_1 narrow_1) := by decide +kernel
theorem f_co : ∀ i, i < 14 → Cond.eq (.field (Term.string RX4 (idxS.getD i 0)) "java/lang/String" "coder" "B") (.int 0) ∈ flatC (Jvm.Cond.and given_1 narrow_1) := by decide +kernel
theorem f_ar : ∀ i, i < 14 → Cond.arrayOf (.field (Term.string RX4 (idxS.getD i 0)) "java/lang/String" "value" "[B") .byte ∈ flatC (Jvm.Cond.and given_1 narrow_1) := by decide +kernel
theorem f_le : ∀ i, i < 14 → Cond.eq (.length (.field (Term.string RX4 (idxS.getD i 0)) "java/lang/String" "value" "[B")) (.int (Int32.ofNat (lenS.getD i 0))) ∈ flatC (Jvm.Cond.and given_1 narrow_1) := by decide +kernel
theorem f_el : ∀ i, i < 14 → ∀ j, j < lenS.getD i 0 → Cond.eq (.elem (.field (Term.string RX4 (idxS.getD i 0)) "java/lang/String" "value" "[B") (.int (Int32.ofNat j))) (.int ((bytS.getD i []).getD j 0)) ∈ flatC (Jvm.Cond.and given_1 narrow_1) := by decide +kernel
theorem f_ne_1 : ∀ i, i < 1 → (flatC (Jvm.Cond.and given_1 narrow_1))[[26].getD i 0]? = some (Cond.not (Cond.eq (Term.string RX4 (idxS.getD i 0)) (Term.string RX4 161))) := by decide +kernel
theorem f_ne_2 : ∀ i, i < 2 → (flatC (Jvm.Cond.and given_1 narrow_1))[[36, 37].getD i 0]? = some (Cond.not (Cond.eq (Term.string RX4 (idxS.getD i 0)) (Term.string RX4 163))) := by decide +kernel
theorem f_ne_3 : ∀ i, i < 3 → (flatC (Jvm.Cond.and given_1 narrow_1))[[47, 48, 49].getD i 0]? = some (Cond.not (Cond.eq (Term.string RX4 (idxS.getD i 0)) (Term.string RX4 164))) := by decide +kernel
theorem f_ne_4 : ∀ i, i < 4 → (flatC (Jvm.Cond.and given_1 narrow_1))[[57, 58, 59, 60].getD i 0]? = some (Cond.not (Cond.eq (Term.string RX4 (idxS.getD i 0)) (Term.string RX4 165))) := by decide +kernel
theorem f_ne_5 : ∀ i, i < 5 → (flatC (Jvm.Cond.and given_1 narrow_1))[[69, 70, 71, 72, 73].getD i 0]? = some (Cond.not (Cond.eq (Term.string RX4 (idxS.getD i 0)) (Term.string RX4 166))) := by decide +kernel
theorem f_ne_6 : ∀ i, i < 6 → (flatC (Jvm.Cond.and given_1 narrow_1))[[84, 85, 86, 87, 88, 89].getD i 0]? = some (Cond.not (Cond.eq (Term.string RX4 (idxS.getD i 0)) (Term.string RX4 167))) := by decide +kernel
theorem f_ne_7 : ∀ i, i < 7 → (flatC (Jvm.Cond.and given_1 narrow_1))[[98, 99, 100, 101, 102, 103, 104].getD i 0]? = some (Cond.not (Cond.eq (Term.string RX4 (idxS.getD i 0)) (Term.string RX4 168))) := by decide +kernel
theorem f_ne_8 : ∀ i, i < 8 → (flatC (Jvm.Cond.and given_1 narrow_1))[[115, 116, 117, 118, 119, 120, 121, 122].getD i 0]? = some (Cond.not (Cond.eq (Term.string RX4 (idxS.getD i 0)) (Term.string RX4 170))) := by decide +kernel
theorem f_ne_9 : ∀ i, i < 9 → (flatC (Jvm.Cond.and given_1 narrow_1))[[131, 132, 133, 134, 135, 136, 137, 138, 139].getD i 0]? = some (Cond.not (Cond.eq (Term.string RX4 (idxS.getD i 0)) (Term.string RX4 172))) := by decide +kernel
theorem f_ne_10 : ∀ i, i < 10 → (flatC (Jvm.Cond.and given_1 narrow_1))[[149, 150, 151, 152, 153, 154, 155, 156, 157, 158].getD i 0]? = some (Cond.not (Cond.eq (Term.string RX4 (idxS.getD i 0)) (Term.string RX4 174))) := by decide +kernel
theorem f_ne_11 : ∀ i, i < 11 → (flatC (Jvm.Cond.and given_1 narrow_1))[[167, 168, 169, 170, 171, 172, 173, 174, 175, 176, 177].getD i 0]? = some (Cond.not (Cond.eq (Term.string RX4 (idxS.getD i 0)) (Term.string RX4 176))) := by decide +kernel
theorem f_ne_12 : ∀ i, i < 12 → (flatC (Jvm.Cond.and given_1 narrow_1))[[186, 187, 188, 189, 190, 191, 192, 193, 194, 195, 196, 197].getD i 0]? = some (Cond.not (Cond.eq (Term.string RX4 (idxS.getD i 0)) (Term.string RX4 178))) := by decide +kernel
theorem f_ne_13 : ∀ i, i < 13 → (flatC (Jvm.Cond.and given_1 narrow_1))[[205, 206, 207, 208, 209, 210, 211, 212, 213, 214, 215, 216, 217].getD i 0]? = some (Cond.not (Cond.eq (Term.string RX4 (idxS.getD i 0)) (Term.string RX4 180))) := by decide +kernel
theorem f_np : ∀ j, j < 14 → ∀ i, i < j → Cond.not (Cond.eq (Term.string RX4 (idxS.getD i 0)) (Term.string RX4 (idxS.getD j 0))) ∈ flatC (Jvm.Cond.and given_1 narrow_1) := by
  intro j hj
  match j, hj with
  | 0, _ => exact fun i hi => absurd hi (Nat.not_lt_zero _)
  | 1, _ => exact fun i hi => List.mem_of_getElem? (f_ne_1 i hi)
  | 2, _ => exact fun i hi => List.mem_of_getElem? (f_ne_2 i hi)
  | 3, _ => exact fun i hi => List.mem_of_getElem? (f_ne_3 i hi)
  | 4, _ => exact fun i hi => List.mem_of_getElem? (f_ne_4 i hi)
  | 5, _ => exact fun i hi => List.mem_of_getElem? (f_ne_5 i hi)
  | 6, _ => exact fun i hi => List.mem_of_getElem? (f_ne_6 i hi)
  | 7, _ => exact fun i hi => List.mem_of_getElem? (f_ne_7 i hi)
  | 8, _ => exact fun i hi => List.mem_of_getElem? (f_ne_8 i hi)
  | 9, _ => exact fun i hi => List.mem_of_getElem? (f_ne_9 i hi)
  | 10, _ => exact fun i hi => List.mem_of_getElem? (f_ne_10 i hi)
  | 11, _ => exact fun i hi => List.mem_of_getElem? (f_ne_11 i hi)
  | 12, _ => exact fun i hi => List.mem_of_getElem? (f_ne_12 i hi)
  | 13, _ => exact fun i hi => List.mem_of_getElem? (f_ne_13 i hi)
  | n + 14, hj => exact absurd hj (by omega)
theorem f_ne : ∀ i, i < 14 → ∀ j, j < 14 → i ≠ j → Cond.not (Cond.eq (Term.string RX4 (idxS.getD i 0)) (Term.string RX4 (idxS.getD j 0))) ∈ flatC (Jvm.Cond.and given_1 narrow_1) ∨ Cond.not (Cond.eq (Term.string RX4 (idxS.getD j 0)) (Term.string RX4 (idxS.getD i 0))) ∈ flatC (Jvm.Cond.and given_1 narrow_1) := by
  intro i hi j hj hij
  rcases Nat.lt_or_gt_of_ne hij with c | c
  · exact Or.inl (f_np j hj i c)
  · exact Or.inr (f_np i hi j c)
theorem f_cs : Cond.eq (.static "java/lang/String" "COMPACT_STRINGS" "Z") (.int 1) ∈ flatC (Jvm.Cond.and given_1 narrow_1) := by decide +kernel
theorem f_sf : Cond.isRef (.static "jdk/internal/util/Preconditions" "SIOOBE_FORMATTER" "Ljava/util/function/BiFunction;") ∈ flatC (Jvm.Cond.and given_1 narrow_1) := by decide +kernel
theorem nw_on : ∀ w ∈ Z_nw, w.onTables = true := by decide +kernel
theorem f_sr : ∀ i, i < 14 → Cond.stringRef RX4 (idxS.getD i 0) (txS.getD i "") ∈ lw_tbl := by
  intro i hi
  match i, hi with
  | 0, _ => exact z_u2 230 (by decide +kernel)
  | 1, _ => exact z_u3 43 (by decide +kernel)
  | 2, _ => exact z_u3 44 (by decide +kernel)
  | 3, _ => exact z_u3 45 (by decide +kernel)
  | 4, _ => exact z_u3 46 (by decide +kernel)
  | 5, _ => exact z_u3 47 (by decide +kernel)
  | 6, _ => exact z_u3 48 (by decide +kernel)
  | 7, _ => exact z_u3 49 (by decide +kernel)
  | 8, _ => exact z_u3 50 (by decide +kernel)
  | 9, _ => exact z_u3 51 (by decide +kernel)
  | 10, _ => exact z_u3 52 (by decide +kernel)
  | 11, _ => exact z_u3 53 (by decide +kernel)
  | 12, _ => exact z_u3 54 (by decide +kernel)
  | 13, _ => exact z_u3 55 (by decide +kernel)
  | n + 14, hi => exact absurd hi (by omega)
theorem f_l1 : Cond.laysStatic "java/lang/String" "COMPACT_STRINGS" "Z" ∈ lw_tbl := z_u3 4 (by decide +kernel)
theorem f_l2 : Cond.laysStatic "jdk/internal/util/Preconditions" "SIOOBE_FORMATTER" "Ljava/util/function/BiFunction;" ∈ lw_tbl := z_u3 20 (by decide +kernel)
theorem f_ao : Cond.arrayOver (.object RX7) ∈ lw_tbl := z_u2 41 (by decide +kernel)
