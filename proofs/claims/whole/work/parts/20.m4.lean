/-! THE RELATION, whole -/
def nf (A : Nat → Int32) (l : Nat) : Nat := (A (19 + 25 * l)).toNatClampNeg
def VF (A : Nat → Int32) (l : Nat) : Prop := 1 ≤ nf A l ∧ nf A l ≤ 8 ∧ A (19 + 25 * l) = nI (nf A l) ∧ (∃ d : Nat → Nat, d (nf A l) = 0 ∧ d 0 = 1 ∧ ∀ j, j < nf A l → (∃ nd, nd ≤ 3 ∧ A (19 + 25 * l + (1 + j)) = nI nd ∧ d j = d (j + 1) + 1) ∨ (∃ nd, 4 ≤ nd ∧ nd ≤ 6 ∧ A (19 + 25 * l + (1 + j)) = nI nd ∧ 2 ≤ d (j + 1) ∧ d j + 1 = d (j + 1))) ∧ ∀ j, j < nf A l → isN (A (19 + 25 * l + (9 + j))) 99 ∧ isN (A (19 + 25 * l + (17 + j))) 20
def VP (A : Nat → Int32) : Prop := isN (A 3) 9999 ∧ isN (A 4) 99 ∧ isN (A 5) 12 ∧ (∃ w, 1 ≤ w ∧ w ≤ 6 ∧ A 6 = nI w) ∧ (∀ r, r < 4 → isN (A (7 + r)) 9999 ∧ isN (A (11 + r)) 4 ∧ isN (A (15 + r)) 5) ∧ ∀ l, l < 5 → VF A l
def mc (A : Nat → Int32) (s : Nat) : Nat := (A (147 + 94 * s + 4)).toNatClampNeg
def mvm (A : Nat → Int32) (s i : Nat) : Nat := (A (147 + 94 * s + (5 + i))).toNatClampNeg
def mvt (A : Nat → Int32) (s i : Nat) : Nat := (A (147 + 94 * s + (17 + i))).toNatClampNeg
def VM (A : Nat → Int32) (s : Nat) : Prop := mc A s ≤ 12 ∧ A (147 + 94 * s + 4) = nI (mc A s) ∧ (s = 0 → mc A s = 0) ∧ (∀ i, i < mc A s → A (147 + 94 * s + (5 + i)) = nI (mvm A s i) ∧ A (147 + 94 * s + (17 + i)) = nI (mvt A s i) ∧ mvm A s i ≤ 99 ∧ mvm A s i ≤ nwN A + 6 ∧ mvt A s i < nn A ∧ mvt A s i ≠ s ∧ jo A s ≤ mvm A s i ∧ jo A (mvt A s i) ≤ mvm A s i) ∧ (∀ i i', i < mc A s → i' < mc A s → mvm A s i = mvm A s i' → i = i') ∧ ((s = 0 ∧ A (147 + 94 * s + 2) = -1) ∨ ∃ p, p < s ∧ A (147 + 94 * s + 2) = nI p ∧ jo A p ≤ jo A s)
/-- the sponsor at a month, as the model looks for him -/
def spG (A : Nat → Int32) (s : Nat) (m : Int32) (i : Nat) (q : Int32 × Int32) : Int32 × Int32 := if A (147 + 94 * s + (5 + i)) ≤ m ∧ q.2 < A (147 + 94 * s + (5 + i)) then (A (147 + 94 * s + (17 + i)), A (147 + 94 * s + (5 + i))) else q
def spS (A : Nat → Int32) (s : Nat) (m : Int32) : Int32 := (itf (spG A s m) 0 (mc A s) (A (147 + 94 * s + 2), -1)).1
def upk (P : Nat → Option Nat) : Nat → Nat → Option Nat
  | 0, s => some s
  | k + 1, s => (P s).bind (upk P k)
def prO (x : Int32) : Option Nat := if x = -1 then none else some x.toNatClampNeg
def pr (A : Nat → Int32) (m : Nat) (s : Nat) : Option Nat := prO (spS A s (nI m))
def VT (A : Nat → Int32) : Prop := ∀ m, m ≤ 99 → ∀ s, s < nn A → ∃ k, k ≤ nn A ∧ upk (pr A m) k s = none
def nj (A : Nat → Int32) (s : Nat) : Nat := (A (147 + 94 * s + 29)).toNatClampNeg
def VJ (A : Nat → Int32) : Prop := ∀ s, s < nn A → nj A s ≤ 16 ∧ A (147 + 94 * s + 29) = nI (nj A s)
/-- the pays of a sale together are no more than its amount -/
def VB (A : Nat → Int32) : Prop := ∀ i, i < nk A → ∃ p : Nat → Nat, (∀ l, l < nq A i → A (1087 + 41 * i + (6 + 7 * l + 2)) = nI (p l)) ∧ ((List.range (nq A i)).map p).sum ≤ 9999
def nt (A : Nat → Int32) : Nat := (A 0).toNatClampNeg
def VA (A T : Nat → Int32) : Prop := nt A ≤ 600 ∧ A 0 = nI (nt A) ∧ ∀ i, i < nt A → -128 ≤ T i ∧ T i ≤ 127
def V (A T : Nat → Int32) : Prop := VN A ∧ (∀ s, s < nn A → VC A s) ∧ VS A ∧ VP A ∧ (∀ s, s < nn A → VM A s) ∧ VT A ∧ VJ A ∧ VB A ∧ VA A T
def RCp (c : Nat → Nat → Int32) (A : Nat → Int32) : Prop := (∀ i, i < 4 → c 3 i = A (3 + i)) ∧ (∀ r, r < 4 → c 4 r = A (7 + r) ∧ c 5 r = A (11 + r) ∧ c 6 r = A (15 + r)) ∧ ∀ l, l < 5 → c 7 (l + 1) = A (19 + 25 * l) ∧ ∀ j, j < nf A l → c 8 (8 * (l + 1) + j) = A (19 + 25 * l + (1 + j)) + 11 ∧ c 9 (8 * (l + 1) + j) = A (19 + 25 * l + (9 + j)) ∧ c 10 (8 * (l + 1) + j) = A (19 + 25 * l + (17 + j))
def RCm (c : Nat → Nat → Int32) (A : Nat → Int32) : Prop := ∀ s, s < nn A → (∀ i, i < mc A s → ∃ j, j < mc A s ∧ c 17 (12 * s + i) = A (147 + 94 * s + (5 + j)) ∧ c 18 (12 * s + i) = A (147 + 94 * s + (17 + j))) ∧ (∀ j, j < mc A s → ∃ i, i < mc A s ∧ c 17 (12 * s + i) = A (147 + 94 * s + (5 + j)) ∧ c 18 (12 * s + i) = A (147 + 94 * s + (17 + j))) ∧ ∀ i i', i < i' → i' < mc A s → c 17 (12 * s + i) < c 17 (12 * s + i')
def RCj (c : Nat → Nat → Int32) (A : Nat → Int32) : Prop := (∀ s, s < nn A → c 29 s = A (147 + 94 * s + 29) ∧ ∃ x, x < 16 ∧ c 30 s = nI x ∧ (nj A s < 16 → x = nj A s) ∧ ∀ i, i < nj A s → ∀ w, w < 4 → c 31 ((s * 16 + (x + 16 - 1 - i) % 16) * 4 + w) = A (147 + 94 * s + (30 + 4 * i + w))) ∧ ∀ s, nn A ≤ s → s < 10 → c 29 s = 0 ∧ c 30 s = 0
def RCa (c : Nat → Nat → Int32) (A T : Nat → Int32) : Prop := c 1 1 = A 0 ∧ c 0 6 = A 1 ∧ c 0 7 = A 2 ∧ ∀ i, i < nt A → c 2 i = T i
def RC (c : Nat → Nat → Int32) (A T : Nat → Int32) : Prop := RCc c A ∧ RCs c A ∧ RCp c A ∧ RCm c A ∧ RCj c A ∧ RCa c A T
def RS (c : Nat → Nat → Int32) (A T : Nat → Int32) : Prop := V A T ∧ RC c A T
theorem RC_congr {c c' : Nat → Nat → Int32} {A T : Nat → Int32} (h : ∀ o, o ≠ 11 → o < 32 → c' o = c o) (hR : RC c A T) : RC c' A T := by
  have e0 := h 0 (by omega) (by omega); have e1 := h 1 (by omega) (by omega); have e2 := h 2 (by omega) (by omega)
  have e3 := h 3 (by omega) (by omega); have e4 := h 4 (by omega) (by omega); have e5 := h 5 (by omega) (by omega)
  have e6 := h 6 (by omega) (by omega); have e7 := h 7 (by omega) (by omega); have e8 := h 8 (by omega) (by omega)
  have e9 := h 9 (by omega) (by omega); have e10 := h 10 (by omega) (by omega); have e12 := h 12 (by omega) (by omega)
  have e13 := h 13 (by omega) (by omega); have e14 := h 14 (by omega) (by omega); have e15 := h 15 (by omega) (by omega)
  have e16 := h 16 (by omega) (by omega); have e17 := h 17 (by omega) (by omega); have e18 := h 18 (by omega) (by omega)
  have e19 := h 19 (by omega) (by omega); have e20 := h 20 (by omega) (by omega); have e26 := h 26 (by omega) (by omega)
  have e27 := h 27 (by omega) (by omega); have e29 := h 29 (by omega) (by omega); have e30 := h 30 (by omega) (by omega); have e31 := h 31 (by omega) (by omega)
  obtain ⟨r1, r2, r3, r4, r5, r6⟩ := hR
  refine ⟨?_, ?_, ?_, ?_, ?_, ?_⟩
  · unfold RCc at *; rw [e12, e0, e13, e14, e19, e15, e16]; exact r1
  · unfold RCs at *
    rw [e20, e26, e27]
    refine ⟨r2.1, fun i hi => ⟨fun f hf => ?_, (r2.2 i hi).2⟩⟩
    rw [h (21 + f) (by omega) (by omega)]
    exact (r2.2 i hi).1 f hf
  · unfold RCp at *; rw [e3, e4, e5, e6, e7, e8, e9, e10]; exact r3
  · unfold RCm at *; rw [e17, e18]; exact r4
  · unfold RCj at *; rw [e29, e30, e31]; exact r5
  · unfold RCa at *; rw [e1, e0, e2]; exact r6
theorem RS.ca {h : Z_H} {A T : Nat → Int32} (H : LY h) (R : RS (cl h) A T) : CA h A := ⟨H, R.1.1, R.1.2.1, R.1.2.2.1, R.1.2.2.2.1.2.2.1, R.2.1, R.2.2.1, R.2.2.2.1.1 2 (by omega)⟩
def scr (a : Nat) : Bool := decide (a = 12) || (decide (a = 33) || ((decide (35 ≤ a) && decide (a ≤ 61)) || (decide (64 ≤ a) && decide (a ≤ 70))))
/-- only rows that are laid anew at each question have changed -/
def QS (h h' : Z_H) : Prop := z_n h' = z_n h ∧ z_t h' = z_t h ∧ z_x h' = z_x h ∧ (∀ a, scr a = false → z_i h' a = z_i h a) ∧ z_i h' 61 14 = z_i h 61 14
theorem QS.rf {h : Z_H} : QS h h := ⟨rfl, rfl, rfl, fun _ _ => rfl, rfl⟩
theorem QS.tr {h h1 h2 : Z_H} (a : QS h h1) (b : QS h1 h2) : QS h h2 := ⟨b.1.trans a.1, b.2.1.trans a.2.1, b.2.2.1.trans a.2.2.1, fun q hq => (b.2.2.2.1 q hq).trans (a.2.2.2.1 q hq), b.2.2.2.2.trans a.2.2.2.2⟩
theorem LY_x {h h' : Z_H} (e1 : z_n h' = z_n h) (e2 : z_x h' = z_x h) (H : LY h) : LY h' := by
  unfold LY z_k z_len z_r at *
  rw [e1, e2]
  exact H
theorem QS.ly {h h' : Z_H} (q : QS h h') (H : LY h) : LY h' := LY_x q.1 q.2.2.1 H
theorem QS.a {h h' : Z_H} (q : QS h h') : z_i h' 62 = z_i h 62 := q.2.2.2.1 62 rfl
theorem QS.t {h h' : Z_H} (q : QS h h') : z_i h' 63 = z_i h 63 := q.2.2.2.1 63 rfl
theorem QS.rs {h h' : Z_H} (q : QS h h') {A T : Nat → Int32} (R : RS (cl h) A T) : RS (cl h') A T := by
  refine ⟨R.1, RC_congr (fun o h1 h2 => ?_) R.2⟩
  unfold cl
  refine q.2.2.2.1 (1 + o) ?_
  unfold scr
  simp only [Bool.or_eq_false_iff, Bool.and_eq_false_iff, decide_eq_false_iff_not]
  omega
/-- a state's block at b -/
def STA (h : Z_H) (b : Nat) : Prop := 72 ≤ b ∧ b + 33 ≤ z_n h ∧ ∀ o, o < 33 → z_k h (b + o) = kT (1 + o) ∧ z_len h (b + o) = lT (1 + o) ∧ ∀ k, z_r h (b + o) k = (rT (1 + o) k).map (fun q => q + b - 1)
def im1 (x : Int32) : Nat := if x = 1 then 1 else 0
/-- how much has been made: the two objects, and a state for each image -/
def CNT (h : Z_H) : Prop := z_n h = 72 + 33 * (im1 (z_i h 71 0) + im1 (z_i h 71 1) + im1 (z_i h 71 2)) ∧ z_t h = 20809 + 3412 * (im1 (z_i h 71 0) + im1 (z_i h 71 1) + im1 (z_i h 71 2))
def IMG (h : Z_H) : Prop := (∀ k, k < 3 → (z_i h 71 k = 0 ∧ z_r h 34 k = none) ∨ (z_i h 71 k = 1 ∧ ∃ b, z_r h 34 k = some b ∧ STA h b ∧ RS (fun o => z_i h (b + o)) (fun j => z_i h 62 (2727 * (k + 1) + j)) (fun j => z_i h 63 (600 * (k + 1) + j)))) ∧ (∀ k k' b b', k < 3 → k' < 3 → k ≠ k' → z_r h 34 k = some b → z_r h 34 k' = some b' → b + 33 ≤ b' ∨ b' + 33 ≤ b) ∧ CNT h
def Inv (h : Z_H) : Prop := LY h ∧ RS (cl h) (z_i h 62) (z_i h 63) ∧ z_i h 61 14 = -1 ∧ IMG h
/-- what lies apart from the state as it is now has stayed -/
def FR (h h' : Z_H) : Prop := z_n h' = z_n h ∧ z_t h' = z_t h ∧ z_x h' = z_x h ∧ (∀ a, 72 ≤ a → z_i h' a = z_i h a) ∧ (∀ j, 2727 ≤ j → z_i h' 62 j = z_i h 62 j) ∧ (∀ j, 600 ≤ j → z_i h' 63 j = z_i h 63 j) ∧ z_i h' 71 = z_i h 71
theorem FR.rf {h : Z_H} : FR h h := ⟨rfl, rfl, rfl, fun _ _ => rfl, fun _ _ => rfl, fun _ _ => rfl, rfl⟩
theorem FR.tr {h h1 h2 : Z_H} (a : FR h h1) (b : FR h1 h2) : FR h h2 := ⟨b.1.trans a.1, b.2.1.trans a.2.1, b.2.2.1.trans a.2.2.1, fun q hq => (b.2.2.2.1 q hq).trans (a.2.2.2.1 q hq), fun q hq => (b.2.2.2.2.1 q hq).trans (a.2.2.2.2.1 q hq), fun q hq => (b.2.2.2.2.2.1 q hq).trans (a.2.2.2.2.2.1 q hq), b.2.2.2.2.2.2.trans a.2.2.2.2.2.2⟩
theorem QS.fr {h h' : Z_H} (q : QS h h') : FR h h' := by
  refine ⟨q.1, q.2.1, q.2.2.1, fun a ha => q.2.2.2.1 a ?_, fun j _ => by rw [q.a], fun j _ => by rw [q.t], q.2.2.2.1 71 rfl⟩
  unfold scr
  simp only [Bool.or_eq_false_iff, Bool.and_eq_false_iff, decide_eq_false_iff_not]
  omega
theorem FR.img {h h' : Z_H} (f : FR h h') (hI : IMG h) : IMG h' := by
  obtain ⟨f1, f2, f3, f4, f5, f6, f7⟩ := f
  have er : ∀ a k, z_r h' a k = z_r h a k := fun a k => by unfold z_r; rw [f3]
  refine ⟨fun k hk => ?_, fun k k' b b' h1 h2 h3 h4 h5 => hI.2.1 k k' b b' h1 h2 h3 ((er 34 k).symm.trans h4) ((er 34 k').symm.trans h5), by
    unfold CNT
    rw [f1, f2, f7]
    exact hI.2.2⟩
  rcases hI.1 k hk with ⟨a1, a2⟩ | ⟨a1, b, a2, a3, a4⟩
  · exact Or.inl ⟨by rw [f7]; exact a1, (er 34 k).trans a2⟩
  · refine Or.inr ⟨by rw [f7]; exact a1, b, (er 34 k).trans a2, ?_, ?_⟩
    · unfold STA z_k z_len z_r at *
      rw [f1, f3]
      exact a3
    · have e1 : (fun o => z_i h' (b + o)) = fun o => z_i h (b + o) := by
        funext o
        exact f4 _ (by have := a3.1; omega)
      have e2 : (fun j => z_i h' 62 (2727 * (k + 1) + j)) = fun j => z_i h 62 (2727 * (k + 1) + j) := by
        funext j
        exact f5 _ (by omega)
      have e3 : (fun j => z_i h' 63 (600 * (k + 1) + j)) = fun j => z_i h 63 (600 * (k + 1) + j) := by
        funext j
        exact f6 _ (by omega)
      rw [e1, e2, e3]
      exact a4
theorem FR.ly {h h' : Z_H} (q : FR h h') (H : LY h) : LY h' := LY_x q.1 q.2.2.1 H
theorem QS.inv {h h' : Z_H} (q : QS h h') (I : Inv h) : Inv h' := by
  refine ⟨q.ly I.1, ?_, q.2.2.2.2.trans I.2.2.1, q.fr.img I.2.2.2⟩
  rw [q.a, q.t]
  exact q.rs I.2.1
/-- a scratch cell written -/
theorem QS_si {h : Z_H} {a k : Nat} {v : Int32} (hs : scr a = true) (h14 : a = 61 → k ≠ 14) : QS h (z_si h a k v) := by
  refine ⟨rfl, rfl, rfl, fun b hb => ?_, ?_⟩
  · refine z_si_o (fun e => ?_)
    rw [e, hs] at hb
    cases hb
  · rw [zi_si]
    by_cases e : 61 = a
    · rw [if_pos e, if_neg (fun q => h14 e.symm q.symm), ← e]
    · rw [if_neg e]
