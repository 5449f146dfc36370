/-! the model's scene -/
def vsm (O : Nat → Int32) (t m w : Nat) : Int32 := sm (fun j => O (100 * t + (m + 1 - w + j))) (m + 1 - (m + 1 - w))
def gnM (A : Nat → Int32) (m t : Nat) : Bool := decide (t < nn A) && gnS A m t
def MTr (h : Z_H) (n : Nat) (P : Nat → Option Nat) : Prop := z_i h 61 19 = nI n ∧ n ≤ 11 ∧ (∀ t, t < n → z_i h 66 t = pe (P t)) ∧ ∀ s p, s < n → P s = some p → p < n
def MSn (h : Z_H) (S : Sn) (m : Nat) : Prop := MTr h S.1 (sP S) ∧ z_i h 61 20 = nI m ∧ m ≤ 99 ∧ (∀ t, t < S.1 → z_i h 67 t = if sT S t then 1 else 0) ∧ (∀ t, t < S.1 → z_i h 68 (100 * t + m) = sO S t ∧ vsm (z_i h 68) t m (wn (z_i h 62)) = sV S t ∧ sG S t = gnM (z_i h 62) m t)
theorem MTr.lt {h : Z_H} {n : Nat} {P : Nat → Option Nat} (M : MTr h n P) : ∀ {k s t : Nat}, s < n → upk P k s = some t → t < n := by
  intro k
  induction k with
  | zero => intro s t hs e; cases e; exact hs
  | succ k ih =>
    intro s t hs e
    rw [upk_next] at e
    cases hu : upk P k s with
    | none => rw [hu] at e; cases e
    | some q => rw [hu] at e; exact M.2.2.2 q t (ih hs hu) e
theorem e_steps {h : Z_H} (H : LY h) {n : Nat} {P : Nat → Option Nat} (M : MTr h n P) {s : Nat} (hs : s < n) {to : Int32} : f_X10_stepsUp h 61 (nI s) to = some (match fnd (fun k => decide (pe (upk P k s) = to ∨ upk P k s = none)) 0 (n + 1) with | some k => if pe (upk P k s) = to then nI k else -1 | none => -1) := by
  obtain ⟨m1, m2, m3, m4⟩ := id M
  have key := lp_find (b := f_X10_stepsUp_l1 61 to h) (fun k => (pe (upk P k s), nI k)) (fun k => decide (pe (upk P k s) = to ∨ upk P k s = none)) (fun k => some (pe (upk P k s), nI k)) (some (pe (upk P (n + 1) s), nI (n + 1))) (n + 1) ?_ ?_ ?_ (n + 1) FU 0 (by omega) (by unfold FU; omega)
  · have key' : lp (f_X10_stepsUp_l1 61 to h) FU (nI s, 0) = _ := key
    unfold f_X10_stepsUp
    simp (disch := first | assumption | omega) only [gd, lt, jn, bd2, Option.bind_some, LY_si, LY_sl, LY_row, decide_true, decide_false, if_true, ite_true, ite_false, decide_eq_true_eq, yg61, yI61, yP61, yR61_1, yR61_2, yR61_12, yR61_13, yR61_17, yR61_18, yR61_21, yR61_22, yR61_23, yR61_25, yA62, yA63, yA64, yA65, yA66, yA67, yA68, yA69, yA70, yA71, yS62, yS63, yS64, yS65, yS66, yS67, yS68, yS69, yS70, yS71]
    rw [key']
    cases hf : fnd (fun k => decide (pe (upk P k s) = to ∨ upk P k s = none)) 0 (n + 1) with
    | some k =>
      have hk := (fnd_some _ _ _ hf).2.1
      simp (disch := first | assumption | omega) only [gd, lt, jn, bd2, Option.bind_some, LY_si, LY_sl, LY_row, decide_true, decide_false, if_true, ite_true, ite_false, decide_eq_true_eq, yg61, yI61, yP61, yR61_1, yR61_2, yR61_12, yR61_13, yR61_17, yR61_18, yR61_21, yR61_22, yR61_23, yR61_25, yA62, yA63, yA64, yA65, yA66, yA67, yA68, yA69, yA70, yA71, yS62, yS63, yS64, yS65, yS66, yS67, yS68, yS69, yS70, yS71, m1]
      by_cases c : pe (upk P k s) = to
      · rw [if_pos c, if_pos c, if_neg (nI_nlt (by omega) (by omega))]
      · rw [if_neg c, if_neg c]
    | none =>
      simp (disch := first | assumption | omega) only [gd, lt, jn, bd2, Option.bind_some, LY_si, LY_sl, LY_row, decide_true, decide_false, if_true, ite_true, ite_false, decide_eq_true_eq, yg61, yI61, yP61, yR61_1, yR61_2, yR61_12, yR61_13, yR61_17, yR61_18, yR61_21, yR61_22, yR61_23, yR61_25, yA62, yA63, yA64, yA65, yA66, yA67, yA68, yA69, yA70, yA71, yS62, yS63, yS64, yS65, yS66, yS67, yS68, yS69, yS70, yS71, m1]
      rw [if_pos (nI_lt (by omega) (by omega))]
      split <;> rfl
  · intro rec k hk hp
    have hp : pe (upk P k s) = to ∨ upk P k s = none := by simpa using hp
    unfold f_X10_stepsUp_l1
    dsimp only
    by_cases c : pe (upk P k s) = to
    · rw [if_pos c]
    · rw [if_neg c, if_pos (by rw [hp.resolve_left c]; rfl)]
  · intro rec k hk hp
    have hp : ¬ (pe (upk P k s) = to ∨ upk P k s = none) := by simpa using hp
    have hp1 := fun q => hp (Or.inl q)
    have hp2 := fun q => hp (Or.inr q)
    cases hu : upk P k s with
    | none => exact absurd hu hp2
    | some p =>
      rw [hu] at hp1
      have hpn := M.lt hs hu
      have e66 : z_i h 66 p = pe (upk P (k + 1) s) := by
        rw [m3 p hpn, upk_next, hu]
        rfl
      have pes : pe (some p) = nI p := rfl
      unfold f_X10_stepsUp_l1
      simp (disch := first | assumption | omega) only [gd, lt, jn, bd2, Option.bind_some, LY_si, LY_sl, LY_row, decide_true, decide_false, if_true, ite_true, ite_false, decide_eq_true_eq, yg61, yI61, yP61, yR61_1, yR61_2, yR61_12, yR61_13, yR61_17, yR61_18, yR61_21, yR61_22, yR61_23, yR61_25, yA62, yA63, yA64, yA65, yA66, yA67, yA68, yA69, yA70, yA71, yS62, yS63, yS64, yS65, yS66, yS67, yS68, yS69, yS70, yS71, m1, pes, e66, nI_1]
      rw [if_neg (show ¬ nI p = to from hp1), if_neg (nI_m1 (by omega)), if_neg (nI_nlt (by omega) (by omega))]
  · intro rec
    unfold f_X10_stepsUp_l1
    simp (disch := first | assumption | omega) only [gd, lt, jn, bd2, Option.bind_some, LY_si, LY_sl, LY_row, decide_true, decide_false, if_true, ite_true, ite_false, decide_eq_true_eq, yg61, yI61, yP61, yR61_1, yR61_2, yR61_12, yR61_13, yR61_17, yR61_18, yR61_21, yR61_22, yR61_23, yR61_25, yA62, yA63, yA64, yA65, yA66, yA67, yA68, yA69, yA70, yA71, yS62, yS63, yS64, yS65, yS66, yS67, yS68, yS69, yS70, yS71, m1]
    by_cases c : pe (upk P (n + 1) s) = to
    · rw [if_pos c]
    · rw [if_neg c]
      by_cases c2 : pe (upk P (n + 1) s) = -1
      · rw [if_pos c2]
      · rw [if_neg c2, if_pos (nI_lt (by omega) (by omega))]
/-- up to one who is, or is not, above -/
theorem e_stepsT {h : Z_H} (H : LY h) {n : Nat} {P : Nat → Option Nat} (M : MTr h n P) (hA : ACy P n) {s t : Nat} (hs : s < n) (ht : t < 1000) : f_X10_stepsUp h 61 (nI s) (nI t) = some (match lv P s t with | some k => nI k | none => -1) := by
  have hn := M.2.1
  rw [e_steps H M hs]
  congr 1
  cases hf : fnd (fun k => decide (pe (upk P k s) = nI t ∨ upk P k s = none)) 0 (n + 1) with
  | none =>
    have := fnd_none _ _ hf n (by omega) (by omega)
    simp [hA.2 s hs] at this
  | some k =>
    obtain ⟨-, -, q1, q2⟩ := fnd_some _ _ _ hf
    have q1 : pe (upk P k s) = nI t ∨ upk P k s = none := by simpa using q1
    dsimp only
    by_cases c : pe (upk P k s) = nI t
    · have c' := (pe_eq (peN hA hn hs) ht).mp c
      rw [if_pos c, (lv_some hA hs hn).mpr c']
    · rw [if_neg c]
      have hk := q1.resolve_left c
      cases hl : lv P s t with
      | none => rfl
      | some j =>
        have hj := (lv_some hA hs hn).mp hl
        have hjk : j < k := by
          rcases Nat.lt_or_ge j k with q | q
          · exact q
          · rw [upk_mono hk q] at hj; cases hj
        have := q2 j (by omega) hjk
        rw [hj] at this
        simp [pe] at this
/-- up to the last -/
theorem e_stepsE {h : Z_H} (H : LY h) {n : Nat} {P : Nat → Option Nat} (M : MTr h n P) {s : Nat} (hs : s < n) : f_X10_stepsUp h 61 (nI s) (-1) = some (match fnd (fun k => decide (upk P k s = none)) 0 (n + 1) with | some k => nI k | none => -1) := by
  have hn := M.2.1
  rw [e_steps H M hs]
  congr 1
  have e : (fun k => decide (pe (upk P k s) = -1 ∨ upk P k s = none)) = fun k => decide (upk P k s = none) := by
    funext k
    apply decide_eq_decide.mpr
    rw [pe_m1 (fun p hp => by have := M.lt hs hp; omega)]
    exact or_self_iff
  rw [e]
  cases hf : fnd (fun k => decide (upk P k s = none)) 0 (n + 1) with
  | none => rfl
  | some k =>
    have q1 := (fnd_some _ _ _ hf).2.2.1
    have q1 : upk P k s = none := by simpa using q1
    dsimp only
    rw [q1]
    exact if_pos rfl
theorem e_belowOf {h : Z_H} (H : LY h) {S : Sn} {m : Nat} (M : MSn h S m) (hO : SOK S) {t : Nat} (ht : t < 1000) : f_X10_belowOf h 61 (nI t) = some (nI (bsN (inB S t) S.1)) := by
  obtain ⟨M1, M2, -, M3, -⟩ := M
  have hn := hO.1
  have hA := hO.2.1
  have key := lp_for (b := f_X10_belowOf_l1 61 (nI t) h) (fun k (s : Int32) => (s, nI k)) (fun k s => s = nI (bsN (inB S t) k)) (fun k _ => nI (bsN (inB S t) (k + 1))) some S.1 ?_ (fun _ _ _ _ => rfl) ?_ S.1 FU 0 0 (by omega) (by unfold FU; omega) rfl
  · have key' : lp (f_X10_belowOf_l1 61 (nI t) h) FU (0, 0) = _ := key
    have := itf_inv (g := fun k _ => nI (bsN (inB S t) (k + 1))) (P := fun k s => s = nI (bsN (inB S t) k)) S.1 0 (0 : Int32) rfl (fun _ _ _ _ _ => rfl)
    rw [Nat.zero_add] at this
    unfold f_X10_belowOf
    simp (disch := first | assumption | omega) only [gd, lt, jn, bd2, Option.bind_some, LY_si, LY_sl, LY_row, decide_true, decide_false, if_true, ite_true, ite_false, decide_eq_true_eq, yg61, yI61, yP61, yR61_1, yR61_2, yR61_12, yR61_13, yR61_17, yR61_18, yR61_21, yR61_22, yR61_23, yR61_25, yA62, yA63, yA64, yA65, yA66, yA67, yA68, yA69, yA70, yA71, yS62, yS63, yS64, yS65, yS66, yS67, yS68, yS69, yS70, yS71, key', this]
  · rintro rec k s hk rfl
    have st := e_stepsT (s := k) (t := t) H M1 hA hk ht
    have e67 : z_i h 67 k = if sT S k then 1 else 0 := M3 k hk
    have vB := bs_or (p := inB S t) (k := k) (by omega)
    unfold f_X10_belowOf_l1
    simp (disch := first | assumption | omega) only [gd, lt, jn, bd2, Option.bind_some, LY_si, LY_sl, LY_row, decide_true, decide_false, if_true, ite_true, ite_false, decide_eq_true_eq, yg61, yI61, yP61, yR61_1, yR61_2, yR61_12, yR61_13, yR61_17, yR61_18, yR61_21, yR61_22, yR61_23, yR61_25, yA62, yA63, yA64, yA65, yA66, yA67, yA68, yA69, yA70, yA71, yS62, yS63, yS64, yS65, yS66, yS67, yS68, yS69, yS70, yS71, M1.1, e67, st, nI_1]
    rw [if_neg (nI_ge hk (by omega)), ← vB]
    unfold inB
    cases hT : sT S k with
    | false => rfl
    | true =>
      cases hl : lv (sP S) k t with
      | none =>
        simp only [Option.isSome_none, Bool.and_false]
        rw [if_neg (by decide), if_pos (by decide)]
        rfl
      | some j =>
        have := (fnd_some _ _ _ hl).2.1
        simp only [Option.isSome_some, Bool.and_self, if_true]
        rw [if_neg (by decide), if_neg (nI_pos (by omega))]
  · rintro rec s rfl
    unfold f_X10_belowOf_l1
    simp (disch := first | assumption | omega) only [gd, lt, jn, bd2, Option.bind_some, LY_si, LY_sl, LY_row, decide_true, decide_false, if_true, ite_true, ite_false, decide_eq_true_eq, yg61, yI61, yP61, yR61_1, yR61_2, yR61_12, yR61_13, yR61_17, yR61_18, yR61_21, yR61_22, yR61_23, yR61_25, yA62, yA63, yA64, yA65, yA66, yA67, yA68, yA69, yA70, yA71, yS62, yS63, yS64, yS65, yS66, yS67, yS68, yS69, yS70, yS71, M1.1]
    rw [if_pos (nI_le (Nat.le_refl _) (by omega))]
theorem e_directOf {h : Z_H} (H : LY h) {S : Sn} {m : Nat} (M : MSn h S m) {t : Nat} (ht : t < 1000) : f_X10_directOf h 61 (nI t) = some (nI (bsN (inD S t) S.1)) := by
  obtain ⟨M1, M2, -, M3, -⟩ := M
  have hn := M1.2.1
  have key := lp_for (b := f_X10_directOf_l1 61 (nI t) h) (fun k (s : Int32) => (s, nI k)) (fun k s => s = nI (bsN (inD S t) k)) (fun k _ => nI (bsN (inD S t) (k + 1))) some S.1 ?_ (fun _ _ _ _ => rfl) ?_ S.1 FU 0 0 (by omega) (by unfold FU; omega) rfl
  · have key' : lp (f_X10_directOf_l1 61 (nI t) h) FU (0, 0) = _ := key
    have := itf_inv (g := fun k _ => nI (bsN (inD S t) (k + 1))) (P := fun k s => s = nI (bsN (inD S t) k)) S.1 0 (0 : Int32) rfl (fun _ _ _ _ _ => rfl)
    rw [Nat.zero_add] at this
    unfold f_X10_directOf
    simp (disch := first | assumption | omega) only [gd, lt, jn, bd2, Option.bind_some, LY_si, LY_sl, LY_row, decide_true, decide_false, if_true, ite_true, ite_false, decide_eq_true_eq, yg61, yI61, yP61, yR61_1, yR61_2, yR61_12, yR61_13, yR61_17, yR61_18, yR61_21, yR61_22, yR61_23, yR61_25, yA62, yA63, yA64, yA65, yA66, yA67, yA68, yA69, yA70, yA71, yS62, yS63, yS64, yS65, yS66, yS67, yS68, yS69, yS70, yS71, key', this]
  · rintro rec k s hk rfl
    have e67 : z_i h 67 k = if sT S k then 1 else 0 := M3 k hk
    have e66 : z_i h 66 k = pe (sP S k) := M1.2.2.1 k hk
    have vB := bs_or (p := inD S t) (k := k) (by omega)
    have pq : pe (sP S k) = nI t ↔ sP S k = some t := pe_eq (fun p hp => by have := M1.2.2.2 k p hk hp; omega) ht
    unfold f_X10_directOf_l1
    simp (disch := first | assumption | omega) only [gd, lt, jn, bd2, Option.bind_some, LY_si, LY_sl, LY_row, decide_true, decide_false, if_true, ite_true, ite_false, decide_eq_true_eq, yg61, yI61, yP61, yR61_1, yR61_2, yR61_12, yR61_13, yR61_17, yR61_18, yR61_21, yR61_22, yR61_23, yR61_25, yA62, yA63, yA64, yA65, yA66, yA67, yA68, yA69, yA70, yA71, yS62, yS63, yS64, yS65, yS66, yS67, yS68, yS69, yS70, yS71, M1.1, e67, e66, nI_1]
    rw [if_neg (nI_ge hk (by omega)), ← vB]
    unfold inD
    cases hT : sT S k with
    | false => rfl
    | true =>
      by_cases c : sP S k = some t
      · simp only [c, decide_true, Bool.and_self, if_true]
        rw [if_neg (by decide), if_pos (show pe (some t) = nI t from rfl)]
      · simp only [c, decide_false, Bool.and_false]
        rw [if_neg (by decide), if_neg (fun q => c (pq.mp q))]
        rfl
  · rintro rec s rfl
    unfold f_X10_directOf_l1
    simp (disch := first | assumption | omega) only [gd, lt, jn, bd2, Option.bind_some, LY_si, LY_sl, LY_row, decide_true, decide_false, if_true, ite_true, ite_false, decide_eq_true_eq, yg61, yI61, yP61, yR61_1, yR61_2, yR61_12, yR61_13, yR61_17, yR61_18, yR61_21, yR61_22, yR61_23, yR61_25, yA62, yA63, yA64, yA65, yA66, yA67, yA68, yA69, yA70, yA71, yS62, yS63, yS64, yS65, yS66, yS67, yS68, yS69, yS70, yS71, M1.1]
    rw [if_pos (nI_le (Nat.le_refl _) (by omega))]
theorem e_volumeOf {h : Z_H} (H : LY h) {S : Sn} {m : Nat} (M : MSn h S m) (hw : ∃ w, 1 ≤ w ∧ w ≤ 6 ∧ z_i h 62 6 = nI w) {t : Nat} (ht : t < S.1) : f_X10_volumeOf h 61 (nI t) = some (sV S t) := by
  obtain ⟨M1, M2, M4, M3, M5⟩ := M
  have hn := M1.2.1
  obtain ⟨w, w1, w2, w3⟩ := hw
  have ew : wn (z_i h 62) = w := by unfold wn; rw [w3, nI_clamp (by omega)]
  have e6 : aI h 62 6 = some (nI w) := by
    have := yA62 (k := 6) H (by omega)
    rw [w3] at this
    exact this
  have g0 : gre 0 (nI m - nI w + 1) = nI (m + 1 - w) := by
    by_cases c : w ≤ m
    · rw [nI_sub c, nI_1, show m + 1 - w = m - w + 1 by omega]
      unfold gre
      rw [if_pos (nI_pos' (by omega))]
    · have : ∀ w, w < 7 → ∀ m, m < w → gre 0 (nI m - nI w + 1) = nI 0 := by decide +kernel
      rw [this w (by omega) m (by omega)]
      congr 1
      omega
  have key := lp_for (b := f_X10_volumeOf_l1 61 (nI t) h) (fun k (s : Int32) => (s, nI (m + 1 - w + k))) (fun _ _ => True) (fun j a => a + z_i h 68 (100 * t + (m + 1 - w + j))) some (m + 1 - (m + 1 - w)) ?_ (fun _ _ _ _ => trivial) ?_ (m + 1 - (m + 1 - w)) FU 0 0 (by omega) (by unfold FU; omega) trivial
  · rw [itf_sum, Int32.zero_add] at key
    rw [Nat.add_zero] at key
    unfold f_X10_volumeOf
    simp (disch := first | assumption | omega) only [gd, lt, jn, bd2, Option.bind_some, LY_si, LY_sl, LY_row, decide_true, decide_false, if_true, ite_true, ite_false, decide_eq_true_eq, yg61, yI61, yP61, yR61_1, yR61_2, yR61_12, yR61_13, yR61_17, yR61_18, yR61_21, yR61_22, yR61_23, yR61_25, yA62, yA63, yA64, yA65, yA66, yA67, yA68, yA69, yA70, yA71, yS62, yS63, yS64, yS65, yS66, yS67, yS68, yS69, yS70, yS71, M2, e6, e_greater, g0, key]
    rw [← (M5 t ht).2.1, ew]
    rfl
  · intro rec k s hk _
    have ix : (100 : Int32) * nI t + nI (m + 1 - w + k) = nI (100 * t + (m + 1 - w + k)) := by rw [n_100, nI_mul, nI_add]
    unfold f_X10_volumeOf_l1
    simp (disch := first | assumption | omega) only [gd, lt, jn, bd2, Option.bind_some, LY_si, LY_sl, LY_row, decide_true, decide_false, if_true, ite_true, ite_false, decide_eq_true_eq, yg61, yI61, yP61, yR61_1, yR61_2, yR61_12, yR61_13, yR61_17, yR61_18, yR61_21, yR61_22, yR61_23, yR61_25, yA62, yA63, yA64, yA65, yA66, yA67, yA68, yA69, yA70, yA71, yS62, yS63, yS64, yS65, yS66, yS67, yS68, yS69, yS70, yS71, M2, ix, nI_1]
    rw [if_neg (nI_nlt (by omega) (by omega))]
    rfl
  · intro rec s _
    unfold f_X10_volumeOf_l1
    simp (disch := first | assumption | omega) only [gd, lt, jn, bd2, Option.bind_some, LY_si, LY_sl, LY_row, decide_true, decide_false, if_true, ite_true, ite_false, decide_eq_true_eq, yg61, yI61, yP61, yR61_1, yR61_2, yR61_12, yR61_13, yR61_17, yR61_18, yR61_21, yR61_22, yR61_23, yR61_25, yA62, yA63, yA64, yA65, yA66, yA67, yA68, yA69, yA70, yA71, yS62, yS63, yS64, yS65, yS66, yS67, yS68, yS69, yS70, yS71, M2]
    rw [if_pos (nI_lt (by omega) (by omega))]
theorem e_sumB {h : Z_H} (H : LY h) {S : Sn} {m : Nat} (M : MSn h S m) (hw : ∃ w, 1 ≤ w ∧ w ≤ 6 ∧ z_i h 62 6 = nI w) {p : Nat → Bool} : f_X10_sumOf h 61 (nI (bsN p S.1)) = some (sm (fun u => if p u then sV S u else 0) S.1) ∧ lp (f_X10_groupOf_l1 61 h (nI (bsN p S.1))) FU (0, 0) = some (sm (fun u => if p u then sV S u else 0) S.1) := by
  have hn := M.1.2.1
  constructor
  · have key := lp_sum (b := f_X10_sumOf_l1 61 (nI (bsN p S.1)) h) (N := S.1) (fun u => if p u then sV S u else 0) (by omega) ?_ ?_ 0
    · unfold f_X10_sumOf
      simp (disch := first | assumption | omega) only [gd, lt, jn, bd2, Option.bind_some, LY_si, LY_sl, LY_row, decide_true, decide_false, if_true, ite_true, ite_false, decide_eq_true_eq, yg61, yI61, yP61, yR61_1, yR61_2, yR61_12, yR61_13, yR61_17, yR61_18, yR61_21, yR61_22, yR61_23, yR61_25, yA62, yA63, yA64, yA65, yA66, yA67, yA68, yA69, yA70, yA71, yS62, yS63, yS64, yS65, yS66, yS67, yS68, yS69, yS70, yS71, key, Int32.zero_add]
    · intro rec k s hk
      unfold f_X10_sumOf_l1
      simp (disch := first | assumption | omega) only [gd, lt, jn, bd2, Option.bind_some, LY_si, LY_sl, LY_row, decide_true, decide_false, if_true, ite_true, ite_false, decide_eq_true_eq, yg61, yI61, yP61, yR61_1, yR61_2, yR61_12, yR61_13, yR61_17, yR61_18, yR61_21, yR61_22, yR61_23, yR61_25, yA62, yA63, yA64, yA65, yA66, yA67, yA68, yA69, yA70, yA71, yS62, yS63, yS64, yS65, yS66, yS67, yS68, yS69, yS70, yS71, M.1.1, e_has hn hk, e_volumeOf H M hw hk, nI_1]
      rw [if_neg (nI_ge hk (by omega))]
      cases p k <;> rfl
    · intro rec s
      unfold f_X10_sumOf_l1
      simp (disch := first | assumption | omega) only [gd, lt, jn, bd2, Option.bind_some, LY_si, LY_sl, LY_row, decide_true, decide_false, if_true, ite_true, ite_false, decide_eq_true_eq, yg61, yI61, yP61, yR61_1, yR61_2, yR61_12, yR61_13, yR61_17, yR61_18, yR61_21, yR61_22, yR61_23, yR61_25, yA62, yA63, yA64, yA65, yA66, yA67, yA68, yA69, yA70, yA71, yS62, yS63, yS64, yS65, yS66, yS67, yS68, yS69, yS70, yS71, M.1.1]
      rw [if_pos (nI_le (Nat.le_refl _) (by omega))]
  · have key := lp_sum (b := f_X10_groupOf_l1 61 h (nI (bsN p S.1))) (N := S.1) (fun u => if p u then sV S u else 0) (by omega) ?_ ?_ 0
    · rw [key, Int32.zero_add]
    · intro rec k s hk
      unfold f_X10_groupOf_l1
      simp (disch := first | assumption | omega) only [gd, lt, jn, bd2, Option.bind_some, LY_si, LY_sl, LY_row, decide_true, decide_false, if_true, ite_true, ite_false, decide_eq_true_eq, yg61, yI61, yP61, yR61_1, yR61_2, yR61_12, yR61_13, yR61_17, yR61_18, yR61_21, yR61_22, yR61_23, yR61_25, yA62, yA63, yA64, yA65, yA66, yA67, yA68, yA69, yA70, yA71, yS62, yS63, yS64, yS65, yS66, yS67, yS68, yS69, yS70, yS71, M.1.1, e_has hn hk, e_volumeOf H M hw hk, nI_1]
      rw [if_neg (nI_ge hk (by omega))]
      cases p k <;> rfl
    · intro rec s
      unfold f_X10_groupOf_l1
      simp (disch := first | assumption | omega) only [gd, lt, jn, bd2, Option.bind_some, LY_si, LY_sl, LY_row, decide_true, decide_false, if_true, ite_true, ite_false, decide_eq_true_eq, yg61, yI61, yP61, yR61_1, yR61_2, yR61_12, yR61_13, yR61_17, yR61_18, yR61_21, yR61_22, yR61_23, yR61_25, yA62, yA63, yA64, yA65, yA66, yA67, yA68, yA69, yA70, yA71, yS62, yS63, yS64, yS65, yS66, yS67, yS68, yS69, yS70, yS71, M.1.1]
      rw [if_pos (nI_le (Nat.le_refl _) (by omega))]
theorem e_groupOf {h : Z_H} (H : LY h) {S : Sn} {m : Nat} (M : MSn h S m) (hO : SOK S) (hw : ∃ w, 1 ≤ w ∧ w ≤ 6 ∧ z_i h 62 6 = nI w) {t : Nat} (ht : t < 1000) : f_X10_groupOf h 61 (nI t) = some (grp S t) := by
  unfold f_X10_groupOf
  simp (disch := first | assumption | omega) only [gd, lt, jn, bd2, Option.bind_some, LY_si, LY_sl, LY_row, decide_true, decide_false, if_true, ite_true, ite_false, decide_eq_true_eq, yg61, yI61, yP61, yR61_1, yR61_2, yR61_12, yR61_13, yR61_17, yR61_18, yR61_21, yR61_22, yR61_23, yR61_25, yA62, yA63, yA64, yA65, yA66, yA67, yA68, yA69, yA70, yA71, yS62, yS63, yS64, yS65, yS66, yS67, yS68, yS69, yS70, yS71, e_belowOf H M hO ht, (e_sumB H M hw).2]
  rfl
theorem e_isActive {h : Z_H} (H : LY h) {S : Sn} {m : Nat} (M : MSn h S m) (hN : VN (z_i h 62)) {t : Nat} (ht : t < S.1) : f_X10_isActive h 61 (nI t) (nI m) = some (if !sG S t && decide (z_i h 62 3 ≤ sO S t) then 1 else 0) := by
  obtain ⟨M1, M2, M4, M3, M5⟩ := M
  have hn := M1.2.1
  have h10 := hN.2.1
  have e145 : aI h 62 145 = some (nI (nn (z_i h 62))) := by
    have := yA62 (k := 145) H (by omega)
    rw [hN.2.2.1] at this
    exact this
  have e3 : aI h 62 3 = some (z_i h 62 3) := yA62 (k := 3) H (by omega)
  have ix : (100 : Int32) * nI t + nI m = nI (100 * t + m) := by rw [n_100, nI_mul, nI_add]
  obtain ⟨z1, -, z2⟩ := M5 t ht
  have fin : (if sO S t < z_i h 62 3 then some (0 : Int32) else some 1) = some (if decide (z_i h 62 3 ≤ sO S t) then 1 else 0) := by
    by_cases c : sO S t < z_i h 62 3
    · rw [if_pos c, if_neg (by simpa using Int32.not_le.mpr c)]
    · rw [if_neg c, if_pos (by simpa using Int32.not_lt.mp c)]
  have e68 : aI h 68 (nI (100 * t + m)) = some (sO S t) := by
    rw [yA68 H (by omega), z1]
  by_cases c1 : nn (z_i h 62) ≤ t
  · have g : sG S t = false := by
      rw [z2]
      unfold gnM
      rw [decide_eq_false (by omega)]
      rfl
    rw [g]
    simp only [Bool.not_false, Bool.true_and]
    unfold f_X10_isActive
    simp (disch := first | assumption | omega) only [gd, lt, jn, bd2, Option.bind_some, LY_si, LY_sl, LY_row, decide_true, decide_false, if_true, ite_true, ite_false, decide_eq_true_eq, yg61, yI61, yP61, yR61_1, yR61_2, yR61_12, yR61_13, yR61_17, yR61_18, yR61_21, yR61_22, yR61_23, yR61_25, yA62, yA63, yA64, yA65, yA66, yA67, yA68, yA69, yA70, yA71, yS62, yS63, yS64, yS65, yS66, yS67, yS68, yS69, yS70, yS71, e145, ix, e68, e3]
    rw [if_pos (nI_le c1 (by omega)), fin]
    simp only [decide_eq_true_eq]
  · have g : sG S t = gnS (z_i h 62) m t := by
      rw [z2]
      unfold gnM
      rw [decide_eq_true (by omega)]
      rfl
    rw [g]
    unfold f_X10_isActive
    simp (disch := first | assumption | omega) only [gd, lt, jn, bd2, Option.bind_some, LY_si, LY_sl, LY_row, decide_true, decide_false, if_true, ite_true, ite_false, decide_eq_true_eq, yg61, yI61, yP61, yR61_1, yR61_2, yR61_12, yR61_13, yR61_17, yR61_18, yR61_21, yR61_22, yR61_23, yR61_25, yA62, yA63, yA64, yA65, yA66, yA67, yA68, yA69, yA70, yA71, yS62, yS63, yS64, yS65, yS66, yS67, yS68, yS69, yS70, yS71, e145, ix, e68, e3, e_hasQuit, e_os1]
    rw [if_neg (nI_ge (by omega) (by omega))]
    unfold gnS
    by_cases c2 : z_i h 62 (147 + 94 * t + 1) = -1
    · rw [if_pos c2, if_pos rfl, fin]
      simp [c2]
    · rw [if_neg c2, if_neg (by decide)]
      by_cases c3 : nI m < z_i h 62 (147 + 94 * t + 1)
      · rw [if_pos c3, fin]
        have : ¬ z_i h 62 (147 + 94 * t + 1) ≤ nI m := Int32.not_le.mpr c3
        simp [this]
      · rw [if_neg c3]
        have : z_i h 62 (147 + 94 * t + 1) ≤ nI m := Int32.not_lt.mp c3
        simp [this, c2]
theorem e_legsOf {h : Z_H} (H : LY h) {S : Sn} {m : Nat} (M : MSn h S m) (hN : VN (z_i h 62)) {t : Nat} (ht : t < 1000) : f_X10_legsOf h 61 (nI t) = some (nI (lgs S (z_i h 62 3) t)) := by
  have hn := M.1.2.1
  have key := lp_sum (b := f_X10_legsOf_l1 61 h (nI (bsN (inD S t) S.1))) (N := S.1) (fun u => if inD S t u && inA S (z_i h 62 3) u then 1 else 0) (by omega) ?_ ?_ 0
  · rw [sm_cn, Int32.zero_add] at key
    unfold f_X10_legsOf
    simp (disch := first | assumption | omega) only [gd, lt, jn, bd2, Option.bind_some, LY_si, LY_sl, LY_row, decide_true, decide_false, if_true, ite_true, ite_false, decide_eq_true_eq, yg61, yI61, yP61, yR61_1, yR61_2, yR61_12, yR61_13, yR61_17, yR61_18, yR61_21, yR61_22, yR61_23, yR61_25, yA62, yA63, yA64, yA65, yA66, yA67, yA68, yA69, yA70, yA71, yS62, yS63, yS64, yS65, yS66, yS67, yS68, yS69, yS70, yS71, e_directOf H M ht, key]
    rfl
  · intro rec k s hk
    unfold f_X10_legsOf_l1
    simp (disch := first | assumption | omega) only [gd, lt, jn, bd2, Option.bind_some, LY_si, LY_sl, LY_row, decide_true, decide_false, if_true, ite_true, ite_false, decide_eq_true_eq, yg61, yI61, yP61, yR61_1, yR61_2, yR61_12, yR61_13, yR61_17, yR61_18, yR61_21, yR61_22, yR61_23, yR61_25, yA62, yA63, yA64, yA65, yA66, yA67, yA68, yA69, yA70, yA71, yS62, yS63, yS64, yS65, yS66, yS67, yS68, yS69, yS70, yS71, M.1.1, M.2.1, e_has hn hk, e_isActive H M hN hk, nI_1]
    rw [if_neg (nI_ge hk (by omega))]
    cases hD : inD S t k with
    | false => rfl
    | true =>
      have hT : sT S k = true := by
        unfold inD at hD
        simp only [Bool.and_eq_true] at hD
        exact hD.1
      unfold inA
      rw [hT]
      cases (!sG S k && decide (z_i h 62 3 ≤ sO S k)) <;> rfl
  · intro rec s
    unfold f_X10_legsOf_l1
    simp (disch := first | assumption | omega) only [gd, lt, jn, bd2, Option.bind_some, LY_si, LY_sl, LY_row, decide_true, decide_false, if_true, ite_true, ite_false, decide_eq_true_eq, yg61, yI61, yP61, yR61_1, yR61_2, yR61_12, yR61_13, yR61_17, yR61_18, yR61_21, yR61_22, yR61_23, yR61_25, yA62, yA63, yA64, yA65, yA66, yA67, yA68, yA69, yA70, yA71, yS62, yS63, yS64, yS65, yS66, yS67, yS68, yS69, yS70, yS71, M.1.1]
    rw [if_pos (nI_le (Nat.le_refl _) (by omega))]
theorem e_rankOf {h : Z_H} (H : LY h) {S : Sn} {m : Nat} (M : MSn h S m) (hO : SOK S) (hN : VN (z_i h 62)) (hw : ∃ w, 1 ≤ w ∧ w ≤ 6 ∧ z_i h 62 6 = nI w) {t : Nat} (ht : t < 1000) : f_X10_rankOf h 61 (nI t) = some (nI (rnk (z_i h 62) S t)) := by
  unfold f_X10_rankOf
  simp (disch := first | assumption | omega) only [gd, lt, jn, bd2, Option.bind_some, LY_si, LY_sl, LY_row, decide_true, decide_false, if_true, ite_true, ite_false, decide_eq_true_eq, yg61, yI61, yP61, yR61_1, yR61_2, yR61_12, yR61_13, yR61_17, yR61_18, yR61_21, yR61_22, yR61_23, yR61_25, yA62, yA63, yA64, yA65, yA66, yA67, yA68, yA69, yA70, yA71, yS62, yS63, yS64, yS65, yS66, yS67, yS68, yS69, yS70, yS71, e_groupOf H M hO hw ht, e_legsOf H M hN ht, e_rankBy H]
  rfl
