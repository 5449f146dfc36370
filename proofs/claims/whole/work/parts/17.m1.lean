theorem e_in {h : Z_H} {v lo hi : Int32} : f_X10_in h v lo hi = some (if lo ≤ v ∧ v ≤ hi then 1 else 0) := by
  unfold f_X10_in
  by_cases h1 : v < lo
  · rw [if_pos h1, if_neg (fun q => absurd q.1 (Int32.not_le.mpr h1))]
  · rw [if_neg h1]
    by_cases h2 : hi < v
    · rw [if_pos h2, if_neg (fun q => absurd q.2 (Int32.not_le.mpr h2))]
    · rw [if_neg h2, if_pos ⟨Int32.not_lt.mp h1, Int32.not_lt.mp h2⟩]
theorem e_ofSeller {h : Z_H} (H : LY h) {s w : Nat} (hw : 147 + 94 * s + w < 10908) : f_X10_ofSeller h 61 (nI s) (nI w) = some (z_i h 62 (147 + 94 * s + w)) := by
  unfold f_X10_ofSeller
  simp (disch := first | assumption | omega) only [gd, lt, jn, bd2, Option.bind_some, LY_si, LY_sl, LY_row, decide_true, decide_false, if_true, ite_true, ite_false, decide_eq_true_eq, yg61, yI61, yP61, yR61_1, yR61_2, yR61_12, yR61_13, yR61_17, yR61_18, yR61_21, yR61_22, yR61_23, yR61_25, yA62, yA63, yA64, yA65, yA66, yA67, yA68, yA69, yA70, yA71, yS62, yS63, yS64, yS65, yS66, yS67, yS68, yS69, yS70, yS71, n_147, n_94, nI_add, nI_mul]
theorem e_setSeller {h : Z_H} (H : LY h) {s w : Nat} {v : Int32} (hw : 147 + 94 * s + w < 10908) : f_X10_setSeller h 61 (nI s) (nI w) v = some (z_si h 62 (147 + 94 * s + w) v) := by
  unfold f_X10_setSeller
  simp (disch := first | assumption | omega) only [gd, lt, jn, bd2, Option.bind_some, LY_si, LY_sl, LY_row, decide_true, decide_false, if_true, ite_true, ite_false, decide_eq_true_eq, yg61, yI61, yP61, yR61_1, yR61_2, yR61_12, yR61_13, yR61_17, yR61_18, yR61_21, yR61_22, yR61_23, yR61_25, yA62, yA63, yA64, yA65, yA66, yA67, yA68, yA69, yA70, yA71, yS62, yS63, yS64, yS65, yS66, yS67, yS68, yS69, yS70, yS71, n_147, n_94, nI_add, nI_mul]
theorem e_now {h : Z_H} (H : LY h) : f_X10_now h 61 = some (z_i h 62 144) := by
  unfold f_X10_now
  simp (disch := first | assumption | omega) only [gd, lt, jn, bd2, Option.bind_some, LY_si, LY_sl, LY_row, decide_true, decide_false, if_true, ite_true, ite_false, decide_eq_true_eq, yg61, yI61, yP61, yR61_1, yR61_2, yR61_12, yR61_13, yR61_17, yR61_18, yR61_21, yR61_22, yR61_23, yR61_25, yA62, yA63, yA64, yA65, yA66, yA67, yA68, yA69, yA70, yA71, yS62, yS63, yS64, yS65, yS66, yS67, yS68, yS69, yS70, yS71, n_144]
theorem e_isSeller {h : Z_H} (H : LY h) {x : Int32} : f_X10_isSeller h 61 x = some (if 0 ≤ x ∧ x ≤ z_i h 62 145 - 1 then 1 else 0) := by
  unfold f_X10_isSeller
  simp (disch := first | assumption | omega) only [gd, lt, jn, bd2, Option.bind_some, LY_si, LY_sl, LY_row, decide_true, decide_false, if_true, ite_true, ite_false, decide_eq_true_eq, yg61, yI61, yP61, yR61_1, yR61_2, yR61_12, yR61_13, yR61_17, yR61_18, yR61_21, yR61_22, yR61_23, yR61_25, yA62, yA63, yA64, yA65, yA66, yA67, yA68, yA69, yA70, yA71, yS62, yS63, yS64, yS65, yS66, yS67, yS68, yS69, yS70, yS71, n_145, e_in]
  split <;> rfl
theorem e_hasQuit {h : Z_H} (H : LY h) {s : Nat} (hs : s < 100) : f_X10_hasQuit h 61 (nI s) = some (if z_i h 62 (147 + 94 * s + 1) = -1 then 0 else 1) := by
  unfold f_X10_hasQuit
  have e1 : f_X10_ofSeller h 61 (nI s) 1 = some (z_i h 62 (147 + 94 * s + 1)) := e_ofSeller (w := 1) H (by omega)
  simp (disch := first | assumption | omega) only [gd, lt, jn, bd2, Option.bind_some, LY_si, LY_sl, LY_row, decide_true, decide_false, if_true, ite_true, ite_false, decide_eq_true_eq, yg61, yI61, yP61, yR61_1, yR61_2, yR61_12, yR61_13, yR61_17, yR61_18, yR61_21, yR61_22, yR61_23, yR61_25, yA62, yA63, yA64, yA65, yA66, yA67, yA68, yA69, yA70, yA71, yS62, yS63, yS64, yS65, yS66, yS67, yS68, yS69, yS70, yS71, e1]
  split <;> rfl
theorem e_ofSale {h : Z_H} (H : LY h) {s w : Nat} (hw : 1087 + 41 * s + w < 10908) : f_X10_ofSale h 61 (nI s) (nI w) = some (z_i h 62 (1087 + 41 * s + w)) := by
  unfold f_X10_ofSale
  simp (disch := first | assumption | omega) only [gd, lt, jn, bd2, Option.bind_some, LY_si, LY_sl, LY_row, decide_true, decide_false, if_true, ite_true, ite_false, decide_eq_true_eq, yg61, yI61, yP61, yR61_1, yR61_2, yR61_12, yR61_13, yR61_17, yR61_18, yR61_21, yR61_22, yR61_23, yR61_25, yA62, yA63, yA64, yA65, yA66, yA67, yA68, yA69, yA70, yA71, yS62, yS63, yS64, yS65, yS66, yS67, yS68, yS69, yS70, yS71, n_1087, n_41, nI_add, nI_mul]
theorem e_isSale {h : Z_H} (H : LY h) {x : Int32} : f_X10_isSale h 61 x = some (if 0 ≤ x ∧ x ≤ z_i h 62 146 - 1 then 1 else 0) := by
  unfold f_X10_isSale
  simp (disch := first | assumption | omega) only [gd, lt, jn, bd2, Option.bind_some, LY_si, LY_sl, LY_row, decide_true, decide_false, if_true, ite_true, ite_false, decide_eq_true_eq, yg61, yI61, yP61, yR61_1, yR61_2, yR61_12, yR61_13, yR61_17, yR61_18, yR61_21, yR61_22, yR61_23, yR61_25, yA62, yA63, yA64, yA65, yA66, yA67, yA68, yA69, yA70, yA71, yS62, yS63, yS64, yS65, yS66, yS67, yS68, yS69, yS70, yS71, n_146, e_in]
  split <;> rfl
theorem e_ofLevel {h : Z_H} (H : LY h) {s l w : Nat} (hw : 1087 + 41 * s + (6 + 7 * l + w) < 10908) : f_X10_ofLevel h 61 (nI s) (nI l) (nI w) = some (z_i h 62 (1087 + 41 * s + (6 + 7 * l + w))) := by
  unfold f_X10_ofLevel
  simp (disch := first | assumption | omega) only [gd, lt, jn, bd2, Option.bind_some, LY_si, LY_sl, LY_row, decide_true, decide_false, if_true, ite_true, ite_false, decide_eq_true_eq, yg61, yI61, yP61, yR61_1, yR61_2, yR61_12, yR61_13, yR61_17, yR61_18, yR61_21, yR61_22, yR61_23, yR61_25, yA62, yA63, yA64, yA65, yA66, yA67, yA68, yA69, yA70, yA71, yS62, yS63, yS64, yS65, yS66, yS67, yS68, yS69, yS70, yS71, n_6, n_7, nI_add, nI_mul, e_ofSale]
theorem e_oa4' {h : Z_H} (H : LY h) {s : Nat} (hs : s < 200) : f_X10_ofSale h 61 (nI s) 4 = some (z_i h 62 (1087 + 41 * s + 4)) := e_ofSale (w := 4) H (by omega)
theorem e_net {h : Z_H} (H : LY h) {s : Nat} {v : Int32} (hs : s < 200) : f_X10_net h 61 (nI s) v = some (v * (100 - z_i h 62 (1087 + 41 * s + 4)) / 100) := by
  unfold f_X10_net
  simp (disch := first | assumption | omega) only [gd, lt, jn, bd2, Option.bind_some, LY_si, LY_sl, LY_row, decide_true, decide_false, if_true, ite_true, ite_false, decide_eq_true_eq, yg61, yI61, yP61, yR61_1, yR61_2, yR61_12, yR61_13, yR61_17, yR61_18, yR61_21, yR61_22, yR61_23, yR61_25, yA62, yA63, yA64, yA65, yA66, yA67, yA68, yA69, yA70, yA71, yS62, yS63, yS64, yS65, yS66, yS67, yS68, yS69, yS70, yS71, e_oa4']
theorem e_os0 {h : Z_H} (H : LY h) {s : Nat} (hs : s < 100) : f_X10_ofSeller h 61 (nI s) 0 = some (z_i h 62 (147 + 94 * s + 0)) := e_ofSeller (w := 0) H (by omega)
theorem e_os1 {h : Z_H} (H : LY h) {s : Nat} (hs : s < 100) : f_X10_ofSeller h 61 (nI s) 1 = some (z_i h 62 (147 + 94 * s + 1)) := e_ofSeller (w := 1) H (by omega)
theorem e_os2 {h : Z_H} (H : LY h) {s : Nat} (hs : s < 100) : f_X10_ofSeller h 61 (nI s) 2 = some (z_i h 62 (147 + 94 * s + 2)) := e_ofSeller (w := 2) H (by omega)
theorem e_os3 {h : Z_H} (H : LY h) {s : Nat} (hs : s < 100) : f_X10_ofSeller h 61 (nI s) 3 = some (z_i h 62 (147 + 94 * s + 3)) := e_ofSeller (w := 3) H (by omega)
theorem e_os4 {h : Z_H} (H : LY h) {s : Nat} (hs : s < 100) : f_X10_ofSeller h 61 (nI s) 4 = some (z_i h 62 (147 + 94 * s + 4)) := e_ofSeller (w := 4) H (by omega)
theorem e_os29 {h : Z_H} (H : LY h) {s : Nat} (hs : s < 100) : f_X10_ofSeller h 61 (nI s) 29 = some (z_i h 62 (147 + 94 * s + 29)) := e_ofSeller (w := 29) H (by omega)
theorem e_oa0 {h : Z_H} (H : LY h) {s : Nat} (hs : s < 200) : f_X10_ofSale h 61 (nI s) 0 = some (z_i h 62 (1087 + 41 * s + 0)) := e_ofSale (w := 0) H (by omega)
theorem e_oa1 {h : Z_H} (H : LY h) {s : Nat} (hs : s < 200) : f_X10_ofSale h 61 (nI s) 1 = some (z_i h 62 (1087 + 41 * s + 1)) := e_ofSale (w := 1) H (by omega)
theorem e_oa2 {h : Z_H} (H : LY h) {s : Nat} (hs : s < 200) : f_X10_ofSale h 61 (nI s) 2 = some (z_i h 62 (1087 + 41 * s + 2)) := e_ofSale (w := 2) H (by omega)
theorem e_oa3 {h : Z_H} (H : LY h) {s : Nat} (hs : s < 200) : f_X10_ofSale h 61 (nI s) 3 = some (z_i h 62 (1087 + 41 * s + 3)) := e_ofSale (w := 3) H (by omega)
theorem e_oa4 {h : Z_H} (H : LY h) {s : Nat} (hs : s < 200) : f_X10_ofSale h 61 (nI s) 4 = some (z_i h 62 (1087 + 41 * s + 4)) := e_ofSale (w := 4) H (by omega)
theorem e_oa5 {h : Z_H} (H : LY h) {s : Nat} (hs : s < 200) : f_X10_ofSale h 61 (nI s) 5 = some (z_i h 62 (1087 + 41 * s + 5)) := e_ofSale (w := 5) H (by omega)
theorem e_ol0 {h : Z_H} (H : LY h) {s l : Nat} (hs : s < 100) (hl : l < 100) : f_X10_ofLevel h 61 (nI s) (nI l) 0 = some (z_i h 62 (1087 + 41 * s + (6 + 7 * l + 0))) := e_ofLevel (w := 0) H (by omega)
theorem e_ol1 {h : Z_H} (H : LY h) {s l : Nat} (hs : s < 100) (hl : l < 100) : f_X10_ofLevel h 61 (nI s) (nI l) 1 = some (z_i h 62 (1087 + 41 * s + (6 + 7 * l + 1))) := e_ofLevel (w := 1) H (by omega)
theorem e_ol2 {h : Z_H} (H : LY h) {s l : Nat} (hs : s < 100) (hl : l < 100) : f_X10_ofLevel h 61 (nI s) (nI l) 2 = some (z_i h 62 (1087 + 41 * s + (6 + 7 * l + 2))) := e_ofLevel (w := 2) H (by omega)
theorem e_ol3 {h : Z_H} (H : LY h) {s l : Nat} (hs : s < 100) (hl : l < 100) : f_X10_ofLevel h 61 (nI s) (nI l) 3 = some (z_i h 62 (1087 + 41 * s + (6 + 7 * l + 3))) := e_ofLevel (w := 3) H (by omega)
theorem e_ol4 {h : Z_H} (H : LY h) {s l : Nat} (hs : s < 100) (hl : l < 100) : f_X10_ofLevel h 61 (nI s) (nI l) 4 = some (z_i h 62 (1087 + 41 * s + (6 + 7 * l + 4))) := e_ofLevel (w := 4) H (by omega)
theorem e_ol5 {h : Z_H} (H : LY h) {s l : Nat} (hs : s < 100) (hl : l < 100) : f_X10_ofLevel h 61 (nI s) (nI l) 5 = some (z_i h 62 (1087 + 41 * s + (6 + 7 * l + 5))) := e_ofLevel (w := 5) H (by omega)
theorem e_ol6 {h : Z_H} (H : LY h) {s l : Nat} (hs : s < 100) (hl : l < 100) : f_X10_ofLevel h 61 (nI s) (nI l) 6 = some (z_i h 62 (1087 + 41 * s + (6 + 7 * l + 6))) := e_ofLevel (w := 6) H (by omega)
def les (a b : Int32) : Int32 := if b ≤ a then b else a
def gre (a b : Int32) : Int32 := if a ≤ b then b else a
theorem e_lesser {h : Z_H} {a b : Int32} : f_X10_lesser h a b = some (les a b) := by
  unfold f_X10_lesser les
  split <;> rfl
theorem e_greater {h : Z_H} {a b : Int32} : f_X10_greater h a b = some (gre a b) := by
  unfold f_X10_greater gre
  split <;> rfl
def netS (A : Nat → Int32) (k : Nat) (v : Int32) : Int32 := v * (100 - A (1087 + 41 * k + 4)) / 100
theorem e_netS {h : Z_H} (H : LY h) {s : Nat} {v : Int32} (hs : s < 200) : f_X10_net h 61 (nI s) v = some (netS (z_i h 62) s v) := e_net H hs
def npS (A : Nat → Int32) (k n : Nat) : Int32 := netS A k (A (1087 + 41 * k + (6 + 7 * n + 2)))
theorem e_netPay {h : Z_H} (H : LY h) {k n : Nat} (hk : k < 40) (hn : n < 5) : f_X10_netPay h 61 (nI k) (nI n) = some (npS (z_i h 62) k n) := by
  unfold f_X10_netPay
  simp (disch := first | assumption | omega) only [gd, lt, jn, bd2, Option.bind_some, LY_si, LY_sl, LY_row, decide_true, decide_false, if_true, ite_true, ite_false, decide_eq_true_eq, yg61, yI61, yP61, yR61_1, yR61_2, yR61_12, yR61_13, yR61_17, yR61_18, yR61_21, yR61_22, yR61_23, yR61_25, yA62, yA63, yA64, yA65, yA66, yA67, yA68, yA69, yA70, yA71, yS62, yS63, yS64, yS65, yS66, yS67, yS68, yS69, yS70, yS71, e_ol2, e_netS]
  rfl
def whS (A : Nat → Int32) (k n : Nat) : Int32 := A (1087 + 41 * k + (6 + 7 * n + 0))
def unS (A : Nat → Int32) (w : Nat) (m : Int32) : Int32 := if A (147 + 94 * w + 1) = -1 then m else les m (A (147 + 94 * w + 1))
def vS (A : Nat → Int32) (k n : Nat) (m : Int32) : Int32 := if A 5 = 0 then npS A k n else npS A k n * les (A 5) (gre 0 (unS A (whS A k n).toNatClampNeg m - A (1087 + 41 * k + 3))) / A 5
theorem e_vestedAt {h : Z_H} (H : LY h) {k n w : Nat} {m : Int32} (hk : k < 40) (hn : n < 5) (hw : w < 10) (ew : whS (z_i h 62) k n = nI w) : f_X10_vestedAt h 61 (nI k) (nI n) m = some (vS (z_i h 62) k n m) := by
  unfold f_X10_vestedAt
  have e5 : aI h 62 5 = some (z_i h 62 5) := yA62 H (k := 5) (by omega)
  have e0 : f_X10_ofLevel h 61 (nI k) (nI n) 0 = some (nI w) := by rw [e_ol0 H (by omega) (by omega)]; exact congrArg some ew
  have hcl : (whS (z_i h 62) k n).toNatClampNeg = w := by rw [ew]; exact nI_clamp (by omega)
  unfold vS
  rw [hcl]
  simp (disch := first | assumption | omega) only [gd, lt, jn, bd2, Option.bind_some, LY_si, LY_sl, LY_row, decide_true, decide_false, if_true, ite_true, ite_false, decide_eq_true_eq, yg61, yI61, yP61, yR61_1, yR61_2, yR61_12, yR61_13, yR61_17, yR61_18, yR61_21, yR61_22, yR61_23, yR61_25, yA62, yA63, yA64, yA65, yA66, yA67, yA68, yA69, yA70, yA71, yS62, yS63, yS64, yS65, yS66, yS67, yS68, yS69, yS70, yS71, e0, e_hasQuit, e_ol2, e_netS, e5, e_oa3, e_greater, e_lesser, e_os1]
  by_cases hq : z_i h 62 (147 + 94 * w + 1) = -1
  · have hu : unS (z_i h 62) w m = m := by unfold unS; rw [if_pos hq]
    rw [hu]
    simp only [hq, if_true]
    by_cases h5 : z_i h 62 5 = 0
    · rw [if_pos h5, if_pos h5]
      rfl
    · rw [if_neg h5, if_neg h5]
      simp only [h5, not_false_eq_true, decide_true, if_true]
      rfl
  · have hu : unS (z_i h 62) w m = les m (z_i h 62 (147 + 94 * w + 1)) := by unfold unS; rw [if_neg hq]
    rw [hu]
    simp only [hq, if_false, show ¬ (1 : Int32) = 0 by decide]
    by_cases h5 : z_i h 62 5 = 0
    · rw [if_pos h5, if_pos h5]
      rfl
    · rw [if_neg h5, if_neg h5]
      simp only [h5, not_false_eq_true, decide_true, if_true]
      rfl
/-- what the sales' rows of the model must be for its loops to run -/
def MSale (A : Nat → Int32) : Prop := ∃ k, k ≤ 40 ∧ A 146 = nI k ∧ ∀ i, i < k → ∃ q, q ≤ 5 ∧ A (1087 + 41 * i + 5) = nI q ∧ ∀ l, l < q → ∃ w, w < 10 ∧ whS A i l = nI w
def nk (A : Nat → Int32) : Nat := (A 146).toNatClampNeg
def nq (A : Nat → Int32) (i : Nat) : Nat := (A (1087 + 41 * i + 5)).toNatClampNeg
theorem MSale.k {A : Nat → Int32} (h : MSale A) : nk A ≤ 40 ∧ A 146 = nI (nk A) := by
  obtain ⟨k, hk, e, -⟩ := h
  unfold nk
  rw [e, nI_clamp (by omega)]
  exact ⟨hk, rfl⟩
theorem MSale.q {A : Nat → Int32} (h : MSale A) {i : Nat} (hi : i < nk A) : nq A i ≤ 5 ∧ A (1087 + 41 * i + 5) = nI (nq A i) ∧ ∀ l, l < nq A i → ∃ w, w < 10 ∧ whS A i l = nI w := by
  obtain ⟨k, hk, e, h2⟩ := h
  have ek : nk A = k := by unfold nk; rw [e, nI_clamp (by omega)]
  obtain ⟨q, hq, e2, h3⟩ := h2 i (by omega)
  have eq : nq A i = q := by unfold nq; rw [e2, nI_clamp (by omega)]
  rw [eq]
  exact ⟨hq, e2, h3⟩
def eG (A : Nat → Int32) (x1 m x3 : Int32) (k n : Nat) (acc : Int32) : Int32 := acc + (if nI k = x3 then 0 else if whS A k n = x1 then vS A k n m else 0)
def eR (A : Nat → Int32) (x1 m x3 : Int32) (k : Nat) (acc : Int32) : Int32 := itf (eG A x1 m x3 k) 0 (nq A k) acc
def eS (A : Nat → Int32) (x1 m x3 : Int32) : Int32 := itf (eR A x1 m x3) 0 (nk A) 0
theorem e_earnedAt_l2 {h : Z_H} (H : LY h) (hM : MSale (z_i h 62)) {x1 m x3 acc : Int32} {k : Nat} (hk : k < nk (z_i h 62)) : lp (f_X10_earnedAt_l2 61 x1 m x3 h (nI k)) FU (acc, 0) = some (eR (z_i h 62) x1 m x3 k acc) := by
  obtain ⟨h40, -⟩ := hM.k
  obtain ⟨hq5, eq, hw⟩ := hM.q hk
  refine lp_for (b := f_X10_earnedAt_l2 61 x1 m x3 h (nI k)) (fun n (s : Int32) => (s, nI n)) (fun _ _ => True) (eG (z_i h 62) x1 m x3 k) some (nq (z_i h 62) k) ?_ (fun _ _ _ _ => trivial) ?_ (nq (z_i h 62) k) FU 0 acc (by omega) (by unfold FU; omega) trivial
  · intro rec n s hn _
    obtain ⟨w, hw1, hw2⟩ := hw n hn
    unfold f_X10_earnedAt_l2 eG
    have e0 : f_X10_ofLevel h 61 (nI k) (nI n) 0 = some (whS (z_i h 62) k n) := e_ol0 H (by omega) (by omega)
    simp (disch := first | assumption | omega) only [gd, lt, jn, bd2, Option.bind_some, LY_si, LY_sl, LY_row, decide_true, decide_false, if_true, ite_true, ite_false, decide_eq_true_eq, yg61, yI61, yP61, yR61_1, yR61_2, yR61_12, yR61_13, yR61_17, yR61_18, yR61_21, yR61_22, yR61_23, yR61_25, yA62, yA63, yA64, yA65, yA66, yA67, yA68, yA69, yA70, yA71, yS62, yS63, yS64, yS65, yS66, yS67, yS68, yS69, yS70, yS71, e_oa5, eq, e0, e_vestedAt H (by omega : k < 40) (by omega : n < 5) hw1 hw2, nI_1]
    rw [if_neg (nI_ge hn (by omega))]
    by_cases c1 : nI k = x3
    · rw [if_pos c1, if_pos c1]
    · rw [if_neg c1, if_neg c1]
      by_cases c2 : whS (z_i h 62) k n = x1
      · rw [if_pos c2, if_pos c2]
      · rw [if_neg c2, if_neg c2]
  · intro rec s _
    unfold f_X10_earnedAt_l2
    simp (disch := first | assumption | omega) only [gd, lt, jn, bd2, Option.bind_some, LY_si, LY_sl, LY_row, decide_true, decide_false, if_true, ite_true, ite_false, decide_eq_true_eq, yg61, yI61, yP61, yR61_1, yR61_2, yR61_12, yR61_13, yR61_17, yR61_18, yR61_21, yR61_22, yR61_23, yR61_25, yA62, yA63, yA64, yA65, yA66, yA67, yA68, yA69, yA70, yA71, yS62, yS63, yS64, yS65, yS66, yS67, yS68, yS69, yS70, yS71, e_oa5, eq]
    rw [if_pos (nI_le (Nat.le_refl _) (by omega))]
theorem e_earnedAt {h : Z_H} (H : LY h) (hM : MSale (z_i h 62)) {x1 m x3 : Int32} : f_X10_earnedAt h 61 x1 m x3 = some (eS (z_i h 62) x1 m x3) := by
  obtain ⟨h40, ek⟩ := hM.k
  have e146 : aI h 62 146 = some (z_i h 62 146) := yA62 H (k := 146) (by omega)
  have key : lp (f_X10_earnedAt_l1 61 x1 m x3 h) FU (0, 0) = some (eS (z_i h 62) x1 m x3) := by
    refine lp_for (b := f_X10_earnedAt_l1 61 x1 m x3 h) (fun n (s : Int32) => (s, nI n)) (fun _ _ => True) (eR (z_i h 62) x1 m x3) some (nk (z_i h 62)) ?_ (fun _ _ _ _ => trivial) ?_ (nk (z_i h 62)) FU 0 0 (by omega) (by unfold FU; omega) trivial
    · intro rec n s hn _
      unfold f_X10_earnedAt_l1
      simp (disch := first | assumption | omega) only [gd, lt, jn, bd2, Option.bind_some, LY_si, LY_sl, LY_row, decide_true, decide_false, if_true, ite_true, ite_false, decide_eq_true_eq, yg61, yI61, yP61, yR61_1, yR61_2, yR61_12, yR61_13, yR61_17, yR61_18, yR61_21, yR61_22, yR61_23, yR61_25, yA62, yA63, yA64, yA65, yA66, yA67, yA68, yA69, yA70, yA71, yS62, yS63, yS64, yS65, yS66, yS67, yS68, yS69, yS70, yS71, e146, ek, e_earnedAt_l2 H hM hn, nI_1]
      rw [if_neg (nI_ge hn (by omega))]
    · intro rec s _
      unfold f_X10_earnedAt_l1
      simp (disch := first | assumption | omega) only [gd, lt, jn, bd2, Option.bind_some, LY_si, LY_sl, LY_row, decide_true, decide_false, if_true, ite_true, ite_false, decide_eq_true_eq, yg61, yI61, yP61, yR61_1, yR61_2, yR61_12, yR61_13, yR61_17, yR61_18, yR61_21, yR61_22, yR61_23, yR61_25, yA62, yA63, yA64, yA65, yA66, yA67, yA68, yA69, yA70, yA71, yS62, yS63, yS64, yS65, yS66, yS67, yS68, yS69, yS70, yS71, e146, ek]
      rw [if_pos (nI_le (Nat.le_refl _) (by omega))]
  unfold f_X10_earnedAt
  simp (disch := first | assumption | omega) only [gd, lt, jn, bd2, Option.bind_some, LY_si, LY_sl, LY_row, decide_true, decide_false, if_true, ite_true, ite_false, decide_eq_true_eq, yg61, yI61, yP61, yR61_1, yR61_2, yR61_12, yR61_13, yR61_17, yR61_18, yR61_21, yR61_22, yR61_23, yR61_25, yA62, yA63, yA64, yA65, yA66, yA67, yA68, yA69, yA70, yA71, yS62, yS63, yS64, yS65, yS66, yS67, yS68, yS69, yS70, yS71, key]
