def kT : Nat → Nat := fun a => match a with
  | 0 => 13
  | 1 => 11
  | 2 => 12
  | 3 => 1
  | 4 => 7
  | 5 => 0
  | 6 => 0
  | 7 => 0
  | 8 => 0
  | 9 => 0
  | 10 => 0
  | 11 => 0
  | 12 => 0
  | 13 => 4
  | 14 => 0
  | 15 => 0
  | 16 => 0
  | 17 => 0
  | 18 => 0
  | 19 => 0
  | 20 => 0
  | 21 => 9
  | 22 => 0
  | 23 => 0
  | 24 => 0
  | 25 => 0
  | 26 => 0
  | 27 => 0
  | 28 => 0
  | 29 => 5
  | 30 => 0
  | 31 => 0
  | 32 => 0
  | 33 => 0
  | 34 => 3
  | 35 => 8
  | 36 => 7
  | 37 => 0
  | 38 => 0
  | 39 => 0
  | 40 => 0
  | 41 => 0
  | 42 => 0
  | 43 => 0
  | 44 => 0
  | 45 => 12
  | 46 => 1
  | 47 => 0
  | 48 => 0
  | 49 => 0
  | 50 => 10
  | 51 => 0
  | 52 => 0
  | 53 => 0
  | 54 => 0
  | 55 => 0
  | 56 => 0
  | 57 => 0
  | 58 => 0
  | 59 => 6
  | 60 => 0
  | 61 => 14
  | 62 => 0
  | 63 => 1
  | 64 => 0
  | 65 => 0
  | 66 => 0
  | 67 => 2
  | 68 => 0
  | 69 => 0
  | 70 => 0
  | 71 => 2
  | _ => 0
def lT : Nat → Nat := fun a => match a with
  | 0 => 5
  | 1 => 9
  | 2 => 2
  | 3 => 600
  | 4 => 12
  | 5 => 4
  | 6 => 4
  | 7 => 4
  | 8 => 6
  | 9 => 48
  | 10 => 48
  | 11 => 48
  | 12 => 8
  | 13 => 8
  | 14 => 10
  | 15 => 10
  | 16 => 10
  | 17 => 10
  | 18 => 120
  | 19 => 120
  | 20 => 10
  | 21 => 8
  | 22 => 40
  | 23 => 40
  | 24 => 40
  | 25 => 40
  | 26 => 40
  | 27 => 40
  | 28 => 1400
  | 29 => 3
  | 30 => 10
  | 31 => 10
  | 32 => 640
  | 33 => 10
  | 34 => 3
  | 35 => 11
  | 36 => 12
  | 37 => 4
  | 38 => 4
  | 39 => 4
  | 40 => 6
  | 41 => 48
  | 42 => 48
  | 43 => 48
  | 44 => 8
  | 45 => 2
  | 46 => 600
  | 47 => 601
  | 48 => 601
  | 49 => 601
  | 50 => 13
  | 51 => 11
  | 52 => 11
  | 53 => 11
  | 54 => 11
  | 55 => 11
  | 56 => 11
  | 57 => 11
  | 58 => 11
  | 59 => 2
  | 60 => 35
  | 61 => 26
  | 62 => 10908
  | 63 => 2400
  | 64 => 147
  | 65 => 3
  | 66 => 11
  | 67 => 11
  | 68 => 1100
  | 69 => 9
  | 70 => 35
  | 71 => 3
  | _ => 0
def rT : Nat → Nat → Option Nat := fun a => match a with
  | 0 => fun k => match k with | 0 => some 1 | 1 => some 34 | 2 => some 35 | 3 => some 50 | 4 => some 59 | _ => none
  | 1 => fun k => match k with | 0 => some 2 | 1 => some 4 | 2 => some 13 | 3 => some 21 | 4 => some 29 | 5 => some 33 | _ => none
  | 2 => fun k => match k with | 0 => some 3 | _ => none
  | 4 => fun k => match k with | 4 => some 5 | 5 => some 6 | 6 => some 7 | 7 => some 8 | 8 => some 9 | 9 => some 10 | 10 => some 11 | 11 => some 12 | _ => none
  | 13 => fun k => match k with | 1 => some 14 | 2 => some 15 | 3 => some 16 | 4 => some 17 | 5 => some 18 | 6 => some 19 | 7 => some 20 | _ => none
  | 21 => fun k => match k with | 1 => some 22 | 2 => some 23 | 3 => some 24 | 4 => some 25 | 5 => some 26 | 6 => some 27 | 7 => some 28 | _ => none
  | 29 => fun k => match k with | 0 => some 30 | 1 => some 31 | 2 => some 32 | _ => none
  | 35 => fun k => match k with | 0 => some 36 | 1 => some 45 | 2 => some 47 | 3 => some 48 | 4 => some 49 | _ => none
  | 36 => fun k => match k with | 4 => some 37 | 5 => some 38 | 6 => some 39 | 7 => some 40 | 8 => some 41 | 9 => some 42 | 10 => some 43 | 11 => some 44 | _ => none
  | 45 => fun k => match k with | 0 => some 46 | _ => none
  | 50 => fun k => match k with | 0 => some 51 | 1 => some 52 | 2 => some 53 | 3 => some 54 | 4 => some 55 | 5 => some 56 | 6 => some 57 | 7 => some 58 | _ => none
  | 59 => fun k => match k with | 1 => some 60 | _ => none
  | 61 => fun k => match k with | 1 => some 62 | 2 => some 63 | 12 => some 64 | 13 => some 65 | 17 => some 66 | 18 => some 67 | 21 => some 68 | 22 => some 69 | 23 => some 70 | 25 => some 71 | _ => none
  | _ => fun _ => none
/-- where everything lies, once both objects are made -/
def LY (h : Z_H) : Prop := 72 ≤ z_n h ∧ ∀ a, a < 72 → z_k h a = kT a ∧ z_len h a = lT a ∧ (a ≠ 34 → ∀ k, z_r h a k = rT a k)
theorem LY.is {h : Z_H} {a c : Nat} (H : LY h) (ha : Nat.blt a 72 = true) (hk : kT a = 4 + c) : z_is h a c = true := by
  have ha := of_decide_eq_true (by simpa using ha : decide (a < 72) = true)
  unfold z_is
  rw [(H.2 a ha).1, hk]
  have := H.1
  simp
  omega
theorem LY.xgI {h : Z_H} {a c : Nat} (H : LY h) (ha : Nat.blt a 72 = true) (hk : kT a = 4 + c) (k : Nat) : gI h a c k = some (z_i h a k) := by
  unfold gI
  rw [if_pos (H.is ha hk)]
theorem LY.xgL {h : Z_H} {a c : Nat} (H : LY h) (ha : Nat.blt a 72 = true) (hk : kT a = 4 + c) (k : Nat) : gL h a c k = some (z_l h a k) := by
  unfold gL
  rw [if_pos (H.is ha hk)]
theorem LY.xpI {h : Z_H} {a c : Nat} (H : LY h) (ha : Nat.blt a 72 = true) (hk : kT a = 4 + c) (k : Nat) (v : Int32) : pI h a c k v = some (z_si h a k v) := by
  unfold pI
  rw [if_pos (H.is ha hk)]
theorem LY.xpL {h : Z_H} {a c : Nat} (H : LY h) (ha : Nat.blt a 72 = true) (hk : kT a = 4 + c) (k : Nat) (v : Int64) : pL h a c k v = some (z_sl h a k v) := by
  unfold pL
  rw [if_pos (H.is ha hk)]
theorem LY.xgR {h : Z_H} {a c k b : Nat} (H : LY h) (ha : Nat.blt a 72 = true) (hk : kT a = 4 + c) (hr : rT a k = some b) : gR h a c k = some b := by
  unfold gR
  rw [if_pos (H.is ha hk)]
  have ha := of_decide_eq_true (by simpa using ha : decide (a < 72) = true)
  have h34 : a ≠ 34 := by
    intro e
    subst e
    cases hr
  rw [(H.2 a ha).2.2 h34, hr]
theorem LY.ar {h : Z_H} {a t k : Nat} (H : LY h) (ha : Nat.blt a 72 = true) (hk : kT a = t) (hl : Nat.blt (lT a) 2147483648 = true) (hi : k < lT a) : z_ar h a t (nI k) = true := by
  have ha := of_decide_eq_true (by simpa using ha : decide (a < 72) = true)
  have hl := of_decide_eq_true (by simpa using hl : decide (lT a < 2147483648) = true)
  unfold z_ar
  rw [(H.2 a ha).1, (H.2 a ha).2.1, hk, nI_clamp (by omega)]
  have := H.1
  have h0 : (0 : Int32) ≤ nI k := nI_pos' (by omega)
  simp [h0]
  omega
theorem LY.xaI {h : Z_H} {a k : Nat} (H : LY h) (ha : Nat.blt a 72 = true) (hk : kT a = 0) (hl : Nat.blt (lT a) 2147483648 = true) (hi : k < lT a) : aI h a (nI k) = some (z_i h a k) := by
  have hl' := of_decide_eq_true (by simpa using hl : decide (lT a < 2147483648) = true)
  unfold aI
  rw [if_pos (H.ar ha hk hl hi), nI_clamp (by omega)]
theorem LY.xsI {h : Z_H} {a k : Nat} {v : Int32} (H : LY h) (ha : Nat.blt a 72 = true) (hk : kT a = 0) (hl : Nat.blt (lT a) 2147483648 = true) (hi : k < lT a) : sI h a (nI k) v = some (z_si h a k v) := by
  have hl' := of_decide_eq_true (by simpa using hl : decide (lT a < 2147483648) = true)
  unfold sI
  rw [if_pos (H.ar ha hk hl hi), nI_clamp (by omega)]
theorem LY.xaB {h : Z_H} {a k : Nat} (H : LY h) (ha : Nat.blt a 72 = true) (hk : kT a = 1) (hl : Nat.blt (lT a) 2147483648 = true) (hi : k < lT a) : aB h a (nI k) = some (z_i h a k) := by
  have hl' := of_decide_eq_true (by simpa using hl : decide (lT a < 2147483648) = true)
  unfold aB
  rw [if_pos (H.ar ha hk hl hi), nI_clamp (by omega)]
theorem LY.xsB {h : Z_H} {a k : Nat} {v : Int32} (H : LY h) (ha : Nat.blt a 72 = true) (hk : kT a = 1) (hl : Nat.blt (lT a) 2147483648 = true) (hi : k < lT a) : sB h a (nI k) v = some (z_si h a k v.toInt8.toInt32) := by
  have hl' := of_decide_eq_true (by simpa using hl : decide (lT a < 2147483648) = true)
  unfold sB
  rw [if_pos (H.ar ha hk hl hi), nI_clamp (by omega)]
theorem LY.xaZ {h : Z_H} {a k : Nat} (H : LY h) (ha : Nat.blt a 72 = true) (hk : kT a = 2) (hl : Nat.blt (lT a) 2147483648 = true) (hi : k < lT a) : aZ h a (nI k) = some (z_i h a k) := by
  have hl' := of_decide_eq_true (by simpa using hl : decide (lT a < 2147483648) = true)
  unfold aZ
  rw [if_pos (H.ar ha hk hl hi), nI_clamp (by omega)]
theorem LY.xsZ {h : Z_H} {a k : Nat} {v : Int32} (H : LY h) (ha : Nat.blt a 72 = true) (hk : kT a = 2) (hl : Nat.blt (lT a) 2147483648 = true) (hi : k < lT a) : sZ h a (nI k) v = some (z_si h a k (v &&& 1)) := by
  have hl' := of_decide_eq_true (by simpa using hl : decide (lT a < 2147483648) = true)
  unfold sZ
  rw [if_pos (H.ar ha hk hl hi), nI_clamp (by omega)]
theorem yg0 {h : Z_H} (H : LY h) : z_is h 0 9 = true := H.is rfl rfl
theorem yI0 {h : Z_H} (H : LY h) (k : Nat) : gI h 0 9 k = some (z_i h 0 k) := H.xgI rfl rfl k
theorem yP0 {h : Z_H} (H : LY h) (k : Nat) (v : Int32) : pI h 0 9 k v = some (z_si h 0 k v) := H.xpI rfl rfl k v
theorem yR0_0 {h : Z_H} (H : LY h) : gR h 0 9 0 = some 1 := H.xgR rfl rfl rfl
theorem yR0_1 {h : Z_H} (H : LY h) : gR h 0 9 1 = some 34 := H.xgR rfl rfl rfl
theorem yR0_2 {h : Z_H} (H : LY h) : gR h 0 9 2 = some 35 := H.xgR rfl rfl rfl
theorem yR0_3 {h : Z_H} (H : LY h) : gR h 0 9 3 = some 50 := H.xgR rfl rfl rfl
theorem yR0_4 {h : Z_H} (H : LY h) : gR h 0 9 4 = some 59 := H.xgR rfl rfl rfl
theorem yg1 {h : Z_H} (H : LY h) : z_is h 1 7 = true := H.is rfl rfl
theorem yI1 {h : Z_H} (H : LY h) (k : Nat) : gI h 1 7 k = some (z_i h 1 k) := H.xgI rfl rfl k
theorem yP1 {h : Z_H} (H : LY h) (k : Nat) (v : Int32) : pI h 1 7 k v = some (z_si h 1 k v) := H.xpI rfl rfl k v
theorem yR1_0 {h : Z_H} (H : LY h) : gR h 1 7 0 = some 2 := H.xgR rfl rfl rfl
theorem yR1_1 {h : Z_H} (H : LY h) : gR h 1 7 1 = some 4 := H.xgR rfl rfl rfl
theorem yR1_2 {h : Z_H} (H : LY h) : gR h 1 7 2 = some 13 := H.xgR rfl rfl rfl
theorem yR1_3 {h : Z_H} (H : LY h) : gR h 1 7 3 = some 21 := H.xgR rfl rfl rfl
theorem yR1_4 {h : Z_H} (H : LY h) : gR h 1 7 4 = some 29 := H.xgR rfl rfl rfl
theorem yR1_5 {h : Z_H} (H : LY h) : gR h 1 7 5 = some 33 := H.xgR rfl rfl rfl
theorem yg2 {h : Z_H} (H : LY h) : z_is h 2 8 = true := H.is rfl rfl
theorem yI2 {h : Z_H} (H : LY h) (k : Nat) : gI h 2 8 k = some (z_i h 2 k) := H.xgI rfl rfl k
theorem yP2 {h : Z_H} (H : LY h) (k : Nat) (v : Int32) : pI h 2 8 k v = some (z_si h 2 k v) := H.xpI rfl rfl k v
theorem yR2_0 {h : Z_H} (H : LY h) : gR h 2 8 0 = some 3 := H.xgR rfl rfl rfl
theorem yA3 {h : Z_H} (H : LY h) {k : Nat} (hk : k < 600) : aB h 3 (nI k) = some (z_i h 3 k) := H.xaB rfl rfl rfl hk
theorem yS3 {h : Z_H} (H : LY h) {k : Nat} {v : Int32} (hk : k < 600) : sB h 3 (nI k) v = some (z_si h 3 k v.toInt8.toInt32) := H.xsB rfl rfl rfl hk
theorem yg4 {h : Z_H} (H : LY h) : z_is h 4 3 = true := H.is rfl rfl
theorem yI4 {h : Z_H} (H : LY h) (k : Nat) : gI h 4 3 k = some (z_i h 4 k) := H.xgI rfl rfl k
theorem yP4 {h : Z_H} (H : LY h) (k : Nat) (v : Int32) : pI h 4 3 k v = some (z_si h 4 k v) := H.xpI rfl rfl k v
theorem yR4_4 {h : Z_H} (H : LY h) : gR h 4 3 4 = some 5 := H.xgR rfl rfl rfl
theorem yR4_5 {h : Z_H} (H : LY h) : gR h 4 3 5 = some 6 := H.xgR rfl rfl rfl
theorem yR4_6 {h : Z_H} (H : LY h) : gR h 4 3 6 = some 7 := H.xgR rfl rfl rfl
theorem yR4_7 {h : Z_H} (H : LY h) : gR h 4 3 7 = some 8 := H.xgR rfl rfl rfl
theorem yR4_8 {h : Z_H} (H : LY h) : gR h 4 3 8 = some 9 := H.xgR rfl rfl rfl
theorem yR4_9 {h : Z_H} (H : LY h) : gR h 4 3 9 = some 10 := H.xgR rfl rfl rfl
theorem yR4_10 {h : Z_H} (H : LY h) : gR h 4 3 10 = some 11 := H.xgR rfl rfl rfl
theorem yR4_11 {h : Z_H} (H : LY h) : gR h 4 3 11 = some 12 := H.xgR rfl rfl rfl
theorem yA5 {h : Z_H} (H : LY h) {k : Nat} (hk : k < 4) : aI h 5 (nI k) = some (z_i h 5 k) := H.xaI rfl rfl rfl hk
theorem yS5 {h : Z_H} (H : LY h) {k : Nat} {v : Int32} (hk : k < 4) : sI h 5 (nI k) v = some (z_si h 5 k v) := H.xsI rfl rfl rfl hk
theorem yA6 {h : Z_H} (H : LY h) {k : Nat} (hk : k < 4) : aI h 6 (nI k) = some (z_i h 6 k) := H.xaI rfl rfl rfl hk
theorem yS6 {h : Z_H} (H : LY h) {k : Nat} {v : Int32} (hk : k < 4) : sI h 6 (nI k) v = some (z_si h 6 k v) := H.xsI rfl rfl rfl hk
theorem yA7 {h : Z_H} (H : LY h) {k : Nat} (hk : k < 4) : aI h 7 (nI k) = some (z_i h 7 k) := H.xaI rfl rfl rfl hk
theorem yS7 {h : Z_H} (H : LY h) {k : Nat} {v : Int32} (hk : k < 4) : sI h 7 (nI k) v = some (z_si h 7 k v) := H.xsI rfl rfl rfl hk
theorem yA8 {h : Z_H} (H : LY h) {k : Nat} (hk : k < 6) : aI h 8 (nI k) = some (z_i h 8 k) := H.xaI rfl rfl rfl hk
theorem yS8 {h : Z_H} (H : LY h) {k : Nat} {v : Int32} (hk : k < 6) : sI h 8 (nI k) v = some (z_si h 8 k v) := H.xsI rfl rfl rfl hk
theorem yA9 {h : Z_H} (H : LY h) {k : Nat} (hk : k < 48) : aI h 9 (nI k) = some (z_i h 9 k) := H.xaI rfl rfl rfl hk
theorem yS9 {h : Z_H} (H : LY h) {k : Nat} {v : Int32} (hk : k < 48) : sI h 9 (nI k) v = some (z_si h 9 k v) := H.xsI rfl rfl rfl hk
theorem yA10 {h : Z_H} (H : LY h) {k : Nat} (hk : k < 48) : aI h 10 (nI k) = some (z_i h 10 k) := H.xaI rfl rfl rfl hk
theorem yS10 {h : Z_H} (H : LY h) {k : Nat} {v : Int32} (hk : k < 48) : sI h 10 (nI k) v = some (z_si h 10 k v) := H.xsI rfl rfl rfl hk
theorem yA11 {h : Z_H} (H : LY h) {k : Nat} (hk : k < 48) : aI h 11 (nI k) = some (z_i h 11 k) := H.xaI rfl rfl rfl hk
theorem yS11 {h : Z_H} (H : LY h) {k : Nat} {v : Int32} (hk : k < 48) : sI h 11 (nI k) v = some (z_si h 11 k v) := H.xsI rfl rfl rfl hk
theorem yA12 {h : Z_H} (H : LY h) {k : Nat} (hk : k < 8) : aI h 12 (nI k) = some (z_i h 12 k) := H.xaI rfl rfl rfl hk
theorem yS12 {h : Z_H} (H : LY h) {k : Nat} {v : Int32} (hk : k < 8) : sI h 12 (nI k) v = some (z_si h 12 k v) := H.xsI rfl rfl rfl hk
theorem yg13 {h : Z_H} (H : LY h) : z_is h 13 0 = true := H.is rfl rfl
theorem yI13 {h : Z_H} (H : LY h) (k : Nat) : gI h 13 0 k = some (z_i h 13 k) := H.xgI rfl rfl k
theorem yP13 {h : Z_H} (H : LY h) (k : Nat) (v : Int32) : pI h 13 0 k v = some (z_si h 13 k v) := H.xpI rfl rfl k v
theorem yR13_1 {h : Z_H} (H : LY h) : gR h 13 0 1 = some 14 := H.xgR rfl rfl rfl
theorem yR13_2 {h : Z_H} (H : LY h) : gR h 13 0 2 = some 15 := H.xgR rfl rfl rfl
theorem yR13_3 {h : Z_H} (H : LY h) : gR h 13 0 3 = some 16 := H.xgR rfl rfl rfl
theorem yR13_4 {h : Z_H} (H : LY h) : gR h 13 0 4 = some 17 := H.xgR rfl rfl rfl
theorem yR13_5 {h : Z_H} (H : LY h) : gR h 13 0 5 = some 18 := H.xgR rfl rfl rfl
theorem yR13_6 {h : Z_H} (H : LY h) : gR h 13 0 6 = some 19 := H.xgR rfl rfl rfl
theorem yR13_7 {h : Z_H} (H : LY h) : gR h 13 0 7 = some 20 := H.xgR rfl rfl rfl
theorem yA14 {h : Z_H} (H : LY h) {k : Nat} (hk : k < 10) : aI h 14 (nI k) = some (z_i h 14 k) := H.xaI rfl rfl rfl hk
theorem yS14 {h : Z_H} (H : LY h) {k : Nat} {v : Int32} (hk : k < 10) : sI h 14 (nI k) v = some (z_si h 14 k v) := H.xsI rfl rfl rfl hk
theorem yA15 {h : Z_H} (H : LY h) {k : Nat} (hk : k < 10) : aI h 15 (nI k) = some (z_i h 15 k) := H.xaI rfl rfl rfl hk
theorem yS15 {h : Z_H} (H : LY h) {k : Nat} {v : Int32} (hk : k < 10) : sI h 15 (nI k) v = some (z_si h 15 k v) := H.xsI rfl rfl rfl hk
theorem yA16 {h : Z_H} (H : LY h) {k : Nat} (hk : k < 10) : aI h 16 (nI k) = some (z_i h 16 k) := H.xaI rfl rfl rfl hk
theorem yS16 {h : Z_H} (H : LY h) {k : Nat} {v : Int32} (hk : k < 10) : sI h 16 (nI k) v = some (z_si h 16 k v) := H.xsI rfl rfl rfl hk
theorem yA17 {h : Z_H} (H : LY h) {k : Nat} (hk : k < 10) : aI h 17 (nI k) = some (z_i h 17 k) := H.xaI rfl rfl rfl hk
theorem yS17 {h : Z_H} (H : LY h) {k : Nat} {v : Int32} (hk : k < 10) : sI h 17 (nI k) v = some (z_si h 17 k v) := H.xsI rfl rfl rfl hk
theorem yA18 {h : Z_H} (H : LY h) {k : Nat} (hk : k < 120) : aI h 18 (nI k) = some (z_i h 18 k) := H.xaI rfl rfl rfl hk
theorem yS18 {h : Z_H} (H : LY h) {k : Nat} {v : Int32} (hk : k < 120) : sI h 18 (nI k) v = some (z_si h 18 k v) := H.xsI rfl rfl rfl hk
theorem yA19 {h : Z_H} (H : LY h) {k : Nat} (hk : k < 120) : aI h 19 (nI k) = some (z_i h 19 k) := H.xaI rfl rfl rfl hk
theorem yS19 {h : Z_H} (H : LY h) {k : Nat} {v : Int32} (hk : k < 120) : sI h 19 (nI k) v = some (z_si h 19 k v) := H.xsI rfl rfl rfl hk
theorem yA20 {h : Z_H} (H : LY h) {k : Nat} (hk : k < 10) : aI h 20 (nI k) = some (z_i h 20 k) := H.xaI rfl rfl rfl hk
theorem yS20 {h : Z_H} (H : LY h) {k : Nat} {v : Int32} (hk : k < 10) : sI h 20 (nI k) v = some (z_si h 20 k v) := H.xsI rfl rfl rfl hk
theorem yg21 {h : Z_H} (H : LY h) : z_is h 21 5 = true := H.is rfl rfl
theorem yI21 {h : Z_H} (H : LY h) (k : Nat) : gI h 21 5 k = some (z_i h 21 k) := H.xgI rfl rfl k
theorem yP21 {h : Z_H} (H : LY h) (k : Nat) (v : Int32) : pI h 21 5 k v = some (z_si h 21 k v) := H.xpI rfl rfl k v
theorem yR21_1 {h : Z_H} (H : LY h) : gR h 21 5 1 = some 22 := H.xgR rfl rfl rfl
theorem yR21_2 {h : Z_H} (H : LY h) : gR h 21 5 2 = some 23 := H.xgR rfl rfl rfl
theorem yR21_3 {h : Z_H} (H : LY h) : gR h 21 5 3 = some 24 := H.xgR rfl rfl rfl
theorem yR21_4 {h : Z_H} (H : LY h) : gR h 21 5 4 = some 25 := H.xgR rfl rfl rfl
theorem yR21_5 {h : Z_H} (H : LY h) : gR h 21 5 5 = some 26 := H.xgR rfl rfl rfl
theorem yR21_6 {h : Z_H} (H : LY h) : gR h 21 5 6 = some 27 := H.xgR rfl rfl rfl
theorem yR21_7 {h : Z_H} (H : LY h) : gR h 21 5 7 = some 28 := H.xgR rfl rfl rfl
theorem yA22 {h : Z_H} (H : LY h) {k : Nat} (hk : k < 40) : aI h 22 (nI k) = some (z_i h 22 k) := H.xaI rfl rfl rfl hk
theorem yS22 {h : Z_H} (H : LY h) {k : Nat} {v : Int32} (hk : k < 40) : sI h 22 (nI k) v = some (z_si h 22 k v) := H.xsI rfl rfl rfl hk
theorem yA23 {h : Z_H} (H : LY h) {k : Nat} (hk : k < 40) : aI h 23 (nI k) = some (z_i h 23 k) := H.xaI rfl rfl rfl hk
theorem yS23 {h : Z_H} (H : LY h) {k : Nat} {v : Int32} (hk : k < 40) : sI h 23 (nI k) v = some (z_si h 23 k v) := H.xsI rfl rfl rfl hk
theorem yA24 {h : Z_H} (H : LY h) {k : Nat} (hk : k < 40) : aI h 24 (nI k) = some (z_i h 24 k) := H.xaI rfl rfl rfl hk
theorem yS24 {h : Z_H} (H : LY h) {k : Nat} {v : Int32} (hk : k < 40) : sI h 24 (nI k) v = some (z_si h 24 k v) := H.xsI rfl rfl rfl hk
theorem yA25 {h : Z_H} (H : LY h) {k : Nat} (hk : k < 40) : aI h 25 (nI k) = some (z_i h 25 k) := H.xaI rfl rfl rfl hk
theorem yS25 {h : Z_H} (H : LY h) {k : Nat} {v : Int32} (hk : k < 40) : sI h 25 (nI k) v = some (z_si h 25 k v) := H.xsI rfl rfl rfl hk
theorem yA26 {h : Z_H} (H : LY h) {k : Nat} (hk : k < 40) : aI h 26 (nI k) = some (z_i h 26 k) := H.xaI rfl rfl rfl hk
theorem yS26 {h : Z_H} (H : LY h) {k : Nat} {v : Int32} (hk : k < 40) : sI h 26 (nI k) v = some (z_si h 26 k v) := H.xsI rfl rfl rfl hk
theorem yA27 {h : Z_H} (H : LY h) {k : Nat} (hk : k < 40) : aI h 27 (nI k) = some (z_i h 27 k) := H.xaI rfl rfl rfl hk
theorem yS27 {h : Z_H} (H : LY h) {k : Nat} {v : Int32} (hk : k < 40) : sI h 27 (nI k) v = some (z_si h 27 k v) := H.xsI rfl rfl rfl hk
theorem yA28 {h : Z_H} (H : LY h) {k : Nat} (hk : k < 1400) : aI h 28 (nI k) = some (z_i h 28 k) := H.xaI rfl rfl rfl hk
theorem yS28 {h : Z_H} (H : LY h) {k : Nat} {v : Int32} (hk : k < 1400) : sI h 28 (nI k) v = some (z_si h 28 k v) := H.xsI rfl rfl rfl hk
theorem yg29 {h : Z_H} (H : LY h) : z_is h 29 1 = true := H.is rfl rfl
theorem yI29 {h : Z_H} (H : LY h) (k : Nat) : gI h 29 1 k = some (z_i h 29 k) := H.xgI rfl rfl k
theorem yP29 {h : Z_H} (H : LY h) (k : Nat) (v : Int32) : pI h 29 1 k v = some (z_si h 29 k v) := H.xpI rfl rfl k v
theorem yR29_0 {h : Z_H} (H : LY h) : gR h 29 1 0 = some 30 := H.xgR rfl rfl rfl
theorem yR29_1 {h : Z_H} (H : LY h) : gR h 29 1 1 = some 31 := H.xgR rfl rfl rfl
theorem yR29_2 {h : Z_H} (H : LY h) : gR h 29 1 2 = some 32 := H.xgR rfl rfl rfl
theorem yA30 {h : Z_H} (H : LY h) {k : Nat} (hk : k < 10) : aI h 30 (nI k) = some (z_i h 30 k) := H.xaI rfl rfl rfl hk
theorem yS30 {h : Z_H} (H : LY h) {k : Nat} {v : Int32} (hk : k < 10) : sI h 30 (nI k) v = some (z_si h 30 k v) := H.xsI rfl rfl rfl hk
theorem yA31 {h : Z_H} (H : LY h) {k : Nat} (hk : k < 10) : aI h 31 (nI k) = some (z_i h 31 k) := H.xaI rfl rfl rfl hk
theorem yS31 {h : Z_H} (H : LY h) {k : Nat} {v : Int32} (hk : k < 10) : sI h 31 (nI k) v = some (z_si h 31 k v) := H.xsI rfl rfl rfl hk
theorem yA32 {h : Z_H} (H : LY h) {k : Nat} (hk : k < 640) : aI h 32 (nI k) = some (z_i h 32 k) := H.xaI rfl rfl rfl hk
theorem yS32 {h : Z_H} (H : LY h) {k : Nat} {v : Int32} (hk : k < 640) : sI h 32 (nI k) v = some (z_si h 32 k v) := H.xsI rfl rfl rfl hk
theorem yA33 {h : Z_H} (H : LY h) {k : Nat} (hk : k < 10) : aI h 33 (nI k) = some (z_i h 33 k) := H.xaI rfl rfl rfl hk
theorem yS33 {h : Z_H} (H : LY h) {k : Nat} {v : Int32} (hk : k < 10) : sI h 33 (nI k) v = some (z_si h 33 k v) := H.xsI rfl rfl rfl hk
theorem yg35 {h : Z_H} (H : LY h) : z_is h 35 4 = true := H.is rfl rfl
theorem yI35 {h : Z_H} (H : LY h) (k : Nat) : gI h 35 4 k = some (z_i h 35 k) := H.xgI rfl rfl k
theorem yP35 {h : Z_H} (H : LY h) (k : Nat) (v : Int32) : pI h 35 4 k v = some (z_si h 35 k v) := H.xpI rfl rfl k v
theorem yR35_0 {h : Z_H} (H : LY h) : gR h 35 4 0 = some 36 := H.xgR rfl rfl rfl
theorem yR35_1 {h : Z_H} (H : LY h) : gR h 35 4 1 = some 45 := H.xgR rfl rfl rfl
theorem yR35_2 {h : Z_H} (H : LY h) : gR h 35 4 2 = some 47 := H.xgR rfl rfl rfl
theorem yR35_3 {h : Z_H} (H : LY h) : gR h 35 4 3 = some 48 := H.xgR rfl rfl rfl
theorem yR35_4 {h : Z_H} (H : LY h) : gR h 35 4 4 = some 49 := H.xgR rfl rfl rfl
theorem yg36 {h : Z_H} (H : LY h) : z_is h 36 3 = true := H.is rfl rfl
theorem yI36 {h : Z_H} (H : LY h) (k : Nat) : gI h 36 3 k = some (z_i h 36 k) := H.xgI rfl rfl k
theorem yP36 {h : Z_H} (H : LY h) (k : Nat) (v : Int32) : pI h 36 3 k v = some (z_si h 36 k v) := H.xpI rfl rfl k v
theorem yR36_4 {h : Z_H} (H : LY h) : gR h 36 3 4 = some 37 := H.xgR rfl rfl rfl
theorem yR36_5 {h : Z_H} (H : LY h) : gR h 36 3 5 = some 38 := H.xgR rfl rfl rfl
theorem yR36_6 {h : Z_H} (H : LY h) : gR h 36 3 6 = some 39 := H.xgR rfl rfl rfl
theorem yR36_7 {h : Z_H} (H : LY h) : gR h 36 3 7 = some 40 := H.xgR rfl rfl rfl
theorem yR36_8 {h : Z_H} (H : LY h) : gR h 36 3 8 = some 41 := H.xgR rfl rfl rfl
theorem yR36_9 {h : Z_H} (H : LY h) : gR h 36 3 9 = some 42 := H.xgR rfl rfl rfl
theorem yR36_10 {h : Z_H} (H : LY h) : gR h 36 3 10 = some 43 := H.xgR rfl rfl rfl
theorem yR36_11 {h : Z_H} (H : LY h) : gR h 36 3 11 = some 44 := H.xgR rfl rfl rfl
theorem yA37 {h : Z_H} (H : LY h) {k : Nat} (hk : k < 4) : aI h 37 (nI k) = some (z_i h 37 k) := H.xaI rfl rfl rfl hk
theorem yS37 {h : Z_H} (H : LY h) {k : Nat} {v : Int32} (hk : k < 4) : sI h 37 (nI k) v = some (z_si h 37 k v) := H.xsI rfl rfl rfl hk
theorem yA38 {h : Z_H} (H : LY h) {k : Nat} (hk : k < 4) : aI h 38 (nI k) = some (z_i h 38 k) := H.xaI rfl rfl rfl hk
theorem yS38 {h : Z_H} (H : LY h) {k : Nat} {v : Int32} (hk : k < 4) : sI h 38 (nI k) v = some (z_si h 38 k v) := H.xsI rfl rfl rfl hk
theorem yA39 {h : Z_H} (H : LY h) {k : Nat} (hk : k < 4) : aI h 39 (nI k) = some (z_i h 39 k) := H.xaI rfl rfl rfl hk
theorem yS39 {h : Z_H} (H : LY h) {k : Nat} {v : Int32} (hk : k < 4) : sI h 39 (nI k) v = some (z_si h 39 k v) := H.xsI rfl rfl rfl hk
theorem yA40 {h : Z_H} (H : LY h) {k : Nat} (hk : k < 6) : aI h 40 (nI k) = some (z_i h 40 k) := H.xaI rfl rfl rfl hk
theorem yS40 {h : Z_H} (H : LY h) {k : Nat} {v : Int32} (hk : k < 6) : sI h 40 (nI k) v = some (z_si h 40 k v) := H.xsI rfl rfl rfl hk
theorem yA41 {h : Z_H} (H : LY h) {k : Nat} (hk : k < 48) : aI h 41 (nI k) = some (z_i h 41 k) := H.xaI rfl rfl rfl hk
theorem yS41 {h : Z_H} (H : LY h) {k : Nat} {v : Int32} (hk : k < 48) : sI h 41 (nI k) v = some (z_si h 41 k v) := H.xsI rfl rfl rfl hk
theorem yA42 {h : Z_H} (H : LY h) {k : Nat} (hk : k < 48) : aI h 42 (nI k) = some (z_i h 42 k) := H.xaI rfl rfl rfl hk
theorem yS42 {h : Z_H} (H : LY h) {k : Nat} {v : Int32} (hk : k < 48) : sI h 42 (nI k) v = some (z_si h 42 k v) := H.xsI rfl rfl rfl hk
theorem yA43 {h : Z_H} (H : LY h) {k : Nat} (hk : k < 48) : aI h 43 (nI k) = some (z_i h 43 k) := H.xaI rfl rfl rfl hk
theorem yS43 {h : Z_H} (H : LY h) {k : Nat} {v : Int32} (hk : k < 48) : sI h 43 (nI k) v = some (z_si h 43 k v) := H.xsI rfl rfl rfl hk
theorem yA44 {h : Z_H} (H : LY h) {k : Nat} (hk : k < 8) : aI h 44 (nI k) = some (z_i h 44 k) := H.xaI rfl rfl rfl hk
theorem yS44 {h : Z_H} (H : LY h) {k : Nat} {v : Int32} (hk : k < 8) : sI h 44 (nI k) v = some (z_si h 44 k v) := H.xsI rfl rfl rfl hk
theorem yg45 {h : Z_H} (H : LY h) : z_is h 45 8 = true := H.is rfl rfl
theorem yI45 {h : Z_H} (H : LY h) (k : Nat) : gI h 45 8 k = some (z_i h 45 k) := H.xgI rfl rfl k
theorem yP45 {h : Z_H} (H : LY h) (k : Nat) (v : Int32) : pI h 45 8 k v = some (z_si h 45 k v) := H.xpI rfl rfl k v
theorem yR45_0 {h : Z_H} (H : LY h) : gR h 45 8 0 = some 46 := H.xgR rfl rfl rfl
theorem yA46 {h : Z_H} (H : LY h) {k : Nat} (hk : k < 600) : aB h 46 (nI k) = some (z_i h 46 k) := H.xaB rfl rfl rfl hk
theorem yS46 {h : Z_H} (H : LY h) {k : Nat} {v : Int32} (hk : k < 600) : sB h 46 (nI k) v = some (z_si h 46 k v.toInt8.toInt32) := H.xsB rfl rfl rfl hk
theorem yA47 {h : Z_H} (H : LY h) {k : Nat} (hk : k < 601) : aI h 47 (nI k) = some (z_i h 47 k) := H.xaI rfl rfl rfl hk
theorem yS47 {h : Z_H} (H : LY h) {k : Nat} {v : Int32} (hk : k < 601) : sI h 47 (nI k) v = some (z_si h 47 k v) := H.xsI rfl rfl rfl hk
theorem yA48 {h : Z_H} (H : LY h) {k : Nat} (hk : k < 601) : aI h 48 (nI k) = some (z_i h 48 k) := H.xaI rfl rfl rfl hk
theorem yS48 {h : Z_H} (H : LY h) {k : Nat} {v : Int32} (hk : k < 601) : sI h 48 (nI k) v = some (z_si h 48 k v) := H.xsI rfl rfl rfl hk
theorem yA49 {h : Z_H} (H : LY h) {k : Nat} (hk : k < 601) : aI h 49 (nI k) = some (z_i h 49 k) := H.xaI rfl rfl rfl hk
theorem yS49 {h : Z_H} (H : LY h) {k : Nat} {v : Int32} (hk : k < 601) : sI h 49 (nI k) v = some (z_si h 49 k v) := H.xsI rfl rfl rfl hk
theorem yg50 {h : Z_H} (H : LY h) : z_is h 50 6 = true := H.is rfl rfl
theorem yI50 {h : Z_H} (H : LY h) (k : Nat) : gI h 50 6 k = some (z_i h 50 k) := H.xgI rfl rfl k
theorem yP50 {h : Z_H} (H : LY h) (k : Nat) (v : Int32) : pI h 50 6 k v = some (z_si h 50 k v) := H.xpI rfl rfl k v
theorem yR50_0 {h : Z_H} (H : LY h) : gR h 50 6 0 = some 51 := H.xgR rfl rfl rfl
theorem yR50_1 {h : Z_H} (H : LY h) : gR h 50 6 1 = some 52 := H.xgR rfl rfl rfl
theorem yR50_2 {h : Z_H} (H : LY h) : gR h 50 6 2 = some 53 := H.xgR rfl rfl rfl
theorem yR50_3 {h : Z_H} (H : LY h) : gR h 50 6 3 = some 54 := H.xgR rfl rfl rfl
theorem yR50_4 {h : Z_H} (H : LY h) : gR h 50 6 4 = some 55 := H.xgR rfl rfl rfl
theorem yR50_5 {h : Z_H} (H : LY h) : gR h 50 6 5 = some 56 := H.xgR rfl rfl rfl
theorem yR50_6 {h : Z_H} (H : LY h) : gR h 50 6 6 = some 57 := H.xgR rfl rfl rfl
theorem yR50_7 {h : Z_H} (H : LY h) : gR h 50 6 7 = some 58 := H.xgR rfl rfl rfl
theorem yA51 {h : Z_H} (H : LY h) {k : Nat} (hk : k < 11) : aI h 51 (nI k) = some (z_i h 51 k) := H.xaI rfl rfl rfl hk
theorem yS51 {h : Z_H} (H : LY h) {k : Nat} {v : Int32} (hk : k < 11) : sI h 51 (nI k) v = some (z_si h 51 k v) := H.xsI rfl rfl rfl hk
theorem yA52 {h : Z_H} (H : LY h) {k : Nat} (hk : k < 11) : aI h 52 (nI k) = some (z_i h 52 k) := H.xaI rfl rfl rfl hk
theorem yS52 {h : Z_H} (H : LY h) {k : Nat} {v : Int32} (hk : k < 11) : sI h 52 (nI k) v = some (z_si h 52 k v) := H.xsI rfl rfl rfl hk
theorem yA53 {h : Z_H} (H : LY h) {k : Nat} (hk : k < 11) : aI h 53 (nI k) = some (z_i h 53 k) := H.xaI rfl rfl rfl hk
theorem yS53 {h : Z_H} (H : LY h) {k : Nat} {v : Int32} (hk : k < 11) : sI h 53 (nI k) v = some (z_si h 53 k v) := H.xsI rfl rfl rfl hk
theorem yA54 {h : Z_H} (H : LY h) {k : Nat} (hk : k < 11) : aI h 54 (nI k) = some (z_i h 54 k) := H.xaI rfl rfl rfl hk
theorem yS54 {h : Z_H} (H : LY h) {k : Nat} {v : Int32} (hk : k < 11) : sI h 54 (nI k) v = some (z_si h 54 k v) := H.xsI rfl rfl rfl hk
theorem yA55 {h : Z_H} (H : LY h) {k : Nat} (hk : k < 11) : aI h 55 (nI k) = some (z_i h 55 k) := H.xaI rfl rfl rfl hk
theorem yS55 {h : Z_H} (H : LY h) {k : Nat} {v : Int32} (hk : k < 11) : sI h 55 (nI k) v = some (z_si h 55 k v) := H.xsI rfl rfl rfl hk
theorem yA56 {h : Z_H} (H : LY h) {k : Nat} (hk : k < 11) : aI h 56 (nI k) = some (z_i h 56 k) := H.xaI rfl rfl rfl hk
theorem yS56 {h : Z_H} (H : LY h) {k : Nat} {v : Int32} (hk : k < 11) : sI h 56 (nI k) v = some (z_si h 56 k v) := H.xsI rfl rfl rfl hk
theorem yA57 {h : Z_H} (H : LY h) {k : Nat} (hk : k < 11) : aI h 57 (nI k) = some (z_i h 57 k) := H.xaI rfl rfl rfl hk
theorem yS57 {h : Z_H} (H : LY h) {k : Nat} {v : Int32} (hk : k < 11) : sI h 57 (nI k) v = some (z_si h 57 k v) := H.xsI rfl rfl rfl hk
theorem yA58 {h : Z_H} (H : LY h) {k : Nat} (hk : k < 11) : aI h 58 (nI k) = some (z_i h 58 k) := H.xaI rfl rfl rfl hk
theorem yS58 {h : Z_H} (H : LY h) {k : Nat} {v : Int32} (hk : k < 11) : sI h 58 (nI k) v = some (z_si h 58 k v) := H.xsI rfl rfl rfl hk
theorem yg59 {h : Z_H} (H : LY h) : z_is h 59 2 = true := H.is rfl rfl
theorem yI59 {h : Z_H} (H : LY h) (k : Nat) : gI h 59 2 k = some (z_i h 59 k) := H.xgI rfl rfl k
theorem yP59 {h : Z_H} (H : LY h) (k : Nat) (v : Int32) : pI h 59 2 k v = some (z_si h 59 k v) := H.xpI rfl rfl k v
theorem yR59_1 {h : Z_H} (H : LY h) : gR h 59 2 1 = some 60 := H.xgR rfl rfl rfl
theorem yA60 {h : Z_H} (H : LY h) {k : Nat} (hk : k < 35) : aI h 60 (nI k) = some (z_i h 60 k) := H.xaI rfl rfl rfl hk
theorem yS60 {h : Z_H} (H : LY h) {k : Nat} {v : Int32} (hk : k < 35) : sI h 60 (nI k) v = some (z_si h 60 k v) := H.xsI rfl rfl rfl hk
theorem yg61 {h : Z_H} (H : LY h) : z_is h 61 10 = true := H.is rfl rfl
theorem yI61 {h : Z_H} (H : LY h) (k : Nat) : gI h 61 10 k = some (z_i h 61 k) := H.xgI rfl rfl k
theorem yP61 {h : Z_H} (H : LY h) (k : Nat) (v : Int32) : pI h 61 10 k v = some (z_si h 61 k v) := H.xpI rfl rfl k v
theorem yR61_1 {h : Z_H} (H : LY h) : gR h 61 10 1 = some 62 := H.xgR rfl rfl rfl
theorem yR61_2 {h : Z_H} (H : LY h) : gR h 61 10 2 = some 63 := H.xgR rfl rfl rfl
theorem yR61_12 {h : Z_H} (H : LY h) : gR h 61 10 12 = some 64 := H.xgR rfl rfl rfl
theorem yR61_13 {h : Z_H} (H : LY h) : gR h 61 10 13 = some 65 := H.xgR rfl rfl rfl
theorem yR61_17 {h : Z_H} (H : LY h) : gR h 61 10 17 = some 66 := H.xgR rfl rfl rfl
theorem yR61_18 {h : Z_H} (H : LY h) : gR h 61 10 18 = some 67 := H.xgR rfl rfl rfl
theorem yR61_21 {h : Z_H} (H : LY h) : gR h 61 10 21 = some 68 := H.xgR rfl rfl rfl
theorem yR61_22 {h : Z_H} (H : LY h) : gR h 61 10 22 = some 69 := H.xgR rfl rfl rfl
theorem yR61_23 {h : Z_H} (H : LY h) : gR h 61 10 23 = some 70 := H.xgR rfl rfl rfl
theorem yR61_25 {h : Z_H} (H : LY h) : gR h 61 10 25 = some 71 := H.xgR rfl rfl rfl
theorem yA62 {h : Z_H} (H : LY h) {k : Nat} (hk : k < 10908) : aI h 62 (nI k) = some (z_i h 62 k) := H.xaI rfl rfl rfl hk
theorem yS62 {h : Z_H} (H : LY h) {k : Nat} {v : Int32} (hk : k < 10908) : sI h 62 (nI k) v = some (z_si h 62 k v) := H.xsI rfl rfl rfl hk
theorem yA63 {h : Z_H} (H : LY h) {k : Nat} (hk : k < 2400) : aB h 63 (nI k) = some (z_i h 63 k) := H.xaB rfl rfl rfl hk
theorem yS63 {h : Z_H} (H : LY h) {k : Nat} {v : Int32} (hk : k < 2400) : sB h 63 (nI k) v = some (z_si h 63 k v.toInt8.toInt32) := H.xsB rfl rfl rfl hk
theorem yA64 {h : Z_H} (H : LY h) {k : Nat} (hk : k < 147) : aI h 64 (nI k) = some (z_i h 64 k) := H.xaI rfl rfl rfl hk
theorem yS64 {h : Z_H} (H : LY h) {k : Nat} {v : Int32} (hk : k < 147) : sI h 64 (nI k) v = some (z_si h 64 k v) := H.xsI rfl rfl rfl hk
theorem yA65 {h : Z_H} (H : LY h) {k : Nat} (hk : k < 3) : aI h 65 (nI k) = some (z_i h 65 k) := H.xaI rfl rfl rfl hk
theorem yS65 {h : Z_H} (H : LY h) {k : Nat} {v : Int32} (hk : k < 3) : sI h 65 (nI k) v = some (z_si h 65 k v) := H.xsI rfl rfl rfl hk
theorem yA66 {h : Z_H} (H : LY h) {k : Nat} (hk : k < 11) : aI h 66 (nI k) = some (z_i h 66 k) := H.xaI rfl rfl rfl hk
theorem yS66 {h : Z_H} (H : LY h) {k : Nat} {v : Int32} (hk : k < 11) : sI h 66 (nI k) v = some (z_si h 66 k v) := H.xsI rfl rfl rfl hk
theorem yA67 {h : Z_H} (H : LY h) {k : Nat} (hk : k < 11) : aZ h 67 (nI k) = some (z_i h 67 k) := H.xaZ rfl rfl rfl hk
theorem yS67 {h : Z_H} (H : LY h) {k : Nat} {v : Int32} (hk : k < 11) : sZ h 67 (nI k) v = some (z_si h 67 k (v &&& 1)) := H.xsZ rfl rfl rfl hk
theorem yA68 {h : Z_H} (H : LY h) {k : Nat} (hk : k < 1100) : aI h 68 (nI k) = some (z_i h 68 k) := H.xaI rfl rfl rfl hk
theorem yS68 {h : Z_H} (H : LY h) {k : Nat} {v : Int32} (hk : k < 1100) : sI h 68 (nI k) v = some (z_si h 68 k v) := H.xsI rfl rfl rfl hk
theorem yA69 {h : Z_H} (H : LY h) {k : Nat} (hk : k < 9) : aI h 69 (nI k) = some (z_i h 69 k) := H.xaI rfl rfl rfl hk
theorem yS69 {h : Z_H} (H : LY h) {k : Nat} {v : Int32} (hk : k < 9) : sI h 69 (nI k) v = some (z_si h 69 k v) := H.xsI rfl rfl rfl hk
theorem yA70 {h : Z_H} (H : LY h) {k : Nat} (hk : k < 35) : aI h 70 (nI k) = some (z_i h 70 k) := H.xaI rfl rfl rfl hk
theorem yS70 {h : Z_H} (H : LY h) {k : Nat} {v : Int32} (hk : k < 35) : sI h 70 (nI k) v = some (z_si h 70 k v) := H.xsI rfl rfl rfl hk
theorem yA71 {h : Z_H} (H : LY h) {k : Nat} (hk : k < 3) : aZ h 71 (nI k) = some (z_i h 71 k) := H.xaZ rfl rfl rfl hk
theorem yS71 {h : Z_H} (H : LY h) {k : Nat} {v : Int32} (hk : k < 3) : sZ h 71 (nI k) v = some (z_si h 71 k (v &&& 1)) := H.xsZ rfl rfl rfl hk
theorem LY_si {h : Z_H} {a k : Nat} {v : Int32} : LY (z_si h a k v) ↔ LY h := Iff.rfl
theorem LY_sl {h : Z_H} {a k : Nat} {v : Int64} : LY (z_sl h a k v) ↔ LY h := Iff.rfl
theorem LY_row {h : Z_H} {a : Nat} {f : Nat → Int32} : LY (z_row h a f) ↔ LY h := Iff.rfl
theorem zi_si {h : Z_H} {a k b j : Nat} {v : Int32} : z_i (z_si h a k v) b j = if b = a then (if j = k then v else z_i h a j) else z_i h b j := rfl
theorem nI_mul (a b : Nat) : nI a * nI b = nI (a * b) := (Int32.ofNat_mul a b).symm
theorem nI_sub {a b : Nat} (h : b ≤ a) : nI a - nI b = nI (a - b) := by
  have e : nI a = nI (a - b) + nI b := by rw [nI_add]; congr 1; omega
  rw [e]
  simp
/-- from i on, n times -/
def itf {β : Type} (g : Nat → β → β) : Nat → Nat → β → β
  | _, 0, s => s
  | i, n + 1, s => itf g (i + 1) n (g i s)
theorem lp_for {S β γ : Type} {b : (S → Option γ) → S → Option γ} (enc : Nat → β → S) (I : Nat → β → Prop) (g : Nat → β → β) (e : β → Option γ) (N : Nat)
    (step : ∀ rec k s, k < N → I k s → b rec (enc k s) = rec (enc (k + 1) (g k s))) (inv : ∀ k s, k < N → I k s → I (k + 1) (g k s)) (stop : ∀ rec s, I N s → b rec (enc N s) = e s) :
    ∀ (n f i : Nat) (s : β), i + n = N → n < f → I i s → lp b f (enc i s) = e (itf g i n s) := by
  intro n
  induction n with
  | zero =>
    intro f i s hi hf hI
    cases f with
    | zero => omega
    | succ f =>
      have : i = N := by omega
      subst this
      exact stop (lp b f) s hI
  | succ n ih =>
    intro f i s hi hf hI
    cases f with
    | zero => omega
    | succ f =>
      show b (lp b f) (enc i s) = _
      rw [step (lp b f) i s (by omega) hI]
      exact ih f (i + 1) (g i s) (by omega) (by omega) (inv i s (by omega) hI)
theorem itf_congr {β : Type} {g g' : Nat → β → β} : ∀ (n i : Nat) (s : β), (∀ k s, i ≤ k → k < i + n → g k s = g' k s) → itf g i n s = itf g' i n s := by
  intro n
  induction n with
  | zero => intro i s _; rfl
  | succ n ih =>
    intro i s h
    show itf g (i + 1) n (g i s) = itf g' (i + 1) n (g' i s)
    rw [h i s (Nat.le_refl _) (by omega)]
    exact ih (i + 1) _ (fun k s h1 h2 => h k s (by omega) (by omega))
theorem lp_succ {α β : Type} {b : (α → Option β) → α → Option β} {n : Nat} {s : α} : lp b (n + 1) s = b (lp b n) s := rfl
theorem n_0 : (0 : Int32) = nI 0 := rfl
theorem n_1 : (1 : Int32) = nI 1 := rfl
theorem n_2 : (2 : Int32) = nI 2 := rfl
theorem n_3 : (3 : Int32) = nI 3 := rfl
theorem n_4 : (4 : Int32) = nI 4 := rfl
theorem n_5 : (5 : Int32) = nI 5 := rfl
theorem n_6 : (6 : Int32) = nI 6 := rfl
theorem n_7 : (7 : Int32) = nI 7 := rfl
theorem n_8 : (8 : Int32) = nI 8 := rfl
theorem n_9 : (9 : Int32) = nI 9 := rfl
theorem n_10 : (10 : Int32) = nI 10 := rfl
theorem n_11 : (11 : Int32) = nI 11 := rfl
theorem n_12 : (12 : Int32) = nI 12 := rfl
theorem n_13 : (13 : Int32) = nI 13 := rfl
theorem n_14 : (14 : Int32) = nI 14 := rfl
theorem n_15 : (15 : Int32) = nI 15 := rfl
theorem n_16 : (16 : Int32) = nI 16 := rfl
theorem n_17 : (17 : Int32) = nI 17 := rfl
theorem n_18 : (18 : Int32) = nI 18 := rfl
theorem n_19 : (19 : Int32) = nI 19 := rfl
theorem n_20 : (20 : Int32) = nI 20 := rfl
theorem n_21 : (21 : Int32) = nI 21 := rfl
theorem n_22 : (22 : Int32) = nI 22 := rfl
theorem n_23 : (23 : Int32) = nI 23 := rfl
theorem n_24 : (24 : Int32) = nI 24 := rfl
theorem n_25 : (25 : Int32) = nI 25 := rfl
theorem n_26 : (26 : Int32) = nI 26 := rfl
theorem n_27 : (27 : Int32) = nI 27 := rfl
theorem n_28 : (28 : Int32) = nI 28 := rfl
theorem n_29 : (29 : Int32) = nI 29 := rfl
theorem n_30 : (30 : Int32) = nI 30 := rfl
theorem n_31 : (31 : Int32) = nI 31 := rfl
theorem n_32 : (32 : Int32) = nI 32 := rfl
theorem n_33 : (33 : Int32) = nI 33 := rfl
theorem n_34 : (34 : Int32) = nI 34 := rfl
theorem n_35 : (35 : Int32) = nI 35 := rfl
theorem n_36 : (36 : Int32) = nI 36 := rfl
theorem n_37 : (37 : Int32) = nI 37 := rfl
theorem n_38 : (38 : Int32) = nI 38 := rfl
theorem n_39 : (39 : Int32) = nI 39 := rfl
theorem n_40 : (40 : Int32) = nI 40 := rfl
theorem n_41 : (41 : Int32) = nI 41 := rfl
theorem n_42 : (42 : Int32) = nI 42 := rfl
theorem n_43 : (43 : Int32) = nI 43 := rfl
theorem n_44 : (44 : Int32) = nI 44 := rfl
theorem n_45 : (45 : Int32) = nI 45 := rfl
theorem n_46 : (46 : Int32) = nI 46 := rfl
theorem n_47 : (47 : Int32) = nI 47 := rfl
theorem n_48 : (48 : Int32) = nI 48 := rfl
theorem n_49 : (49 : Int32) = nI 49 := rfl
theorem n_50 : (50 : Int32) = nI 50 := rfl
theorem n_94 : (94 : Int32) = nI 94 := rfl
theorem n_95 : (95 : Int32) = nI 95 := rfl
theorem n_96 : (96 : Int32) = nI 96 := rfl
theorem n_97 : (97 : Int32) = nI 97 := rfl
theorem n_99 : (99 : Int32) = nI 99 := rfl
theorem n_100 : (100 : Int32) = nI 100 := rfl
theorem n_127 : (127 : Int32) = nI 127 := rfl
theorem n_128 : (128 : Int32) = nI 128 := rfl
theorem n_140 : (140 : Int32) = nI 140 := rfl
theorem n_141 : (141 : Int32) = nI 141 := rfl
theorem n_144 : (144 : Int32) = nI 144 := rfl
theorem n_145 : (145 : Int32) = nI 145 := rfl
theorem n_146 : (146 : Int32) = nI 146 := rfl
theorem n_147 : (147 : Int32) = nI 147 := rfl
theorem n_255 : (255 : Int32) = nI 255 := rfl
theorem n_600 : (600 : Int32) = nI 600 := rfl
theorem n_601 : (601 : Int32) = nI 601 := rfl
theorem n_999 : (999 : Int32) = nI 999 := rfl
theorem n_1000 : (1000 : Int32) = nI 1000 := rfl
theorem n_1024 : (1024 : Int32) = nI 1024 := rfl
theorem n_1087 : (1087 : Int32) = nI 1087 := rfl
theorem n_1100 : (1100 : Int32) = nI 1100 := rfl
theorem n_2727 : (2727 : Int32) = nI 2727 := rfl
theorem n_9999 : (9999 : Int32) = nI 9999 := rfl
theorem n_10000 : (10000 : Int32) = nI 10000 := rfl
