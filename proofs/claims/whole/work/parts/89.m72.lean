/-! the draft against what is told -/
theorem REL.draft {g w : Z_H} {T : Nat → Int32} {n N : Nat} {Kf Pf Vf : Nat → Int32} {q : Nat → Nat} {i : Nat} (R : REL g w T n N Kf Pf Vf q i) {a k : Nat} {v : Int32} (h1 : 36 ≤ a) (h2 : a < 45) : REL (z_si g a k v) w T n N Kf Pf Vf q i := by
  have e : ∀ b, b = 35 ∨ 45 ≤ b → z_i (z_si g a k v) b = z_i g b := fun b hb => z_si_o (by omega)
  obtain ⟨⟨⟨r1, r2, r3, r4, r5⟩, c⟩, m, sl, e8⟩ := R
  refine ⟨⟨⟨r1, r2, by rw [e 35 (by omega)]; exact r3, by rw [e 35 (by omega)]; exact r4, r5⟩, fun j hj => by rw [e 47 (by omega), e 48 (by omega), e 49 (by omega)]; exact c j hj⟩, m, by rw [e 35 (by omega)]; exact sl, by rw [e 35 (by omega)]; exact e8⟩
theorem REL.told {g w : Z_H} {T : Nat → Int32} {n N : Nat} {Kf Pf Vf : Nat → Int32} {q : Nat → Nat} {i : Nat} (R : REL g w T n N Kf Pf Vf q i) {k : Nat} {v : Int32} : REL g (z_si w 64 k v) T n N Kf Pf Vf q i := by
  have e : z_i (z_si w 64 k v) 61 = z_i w 61 := z_si_o (by omega)
  obtain ⟨c, ⟨m, w3, w5, mt⟩, sl, e8⟩ := R
  refine ⟨c, ⟨m.mf MF_64, by rw [e]; exact w3, by rw [e]; exact w5, ?_⟩, by rw [e]; exact sl, e8⟩
  unfold MT at *
  rw [e]
  exact mt
theorem VF_congr {A A' : Nat → Int32} {l : Nat} (e : ∀ j, j < 25 → A' (19 + 25 * l + j) = A (19 + 25 * l + j)) (h : VF A l) : VF A' l := by
  have e0 : A' (19 + 25 * l) = A (19 + 25 * l) := e 0 (by omega)
  have en : nf A' l = nf A l := by unfold nf; rw [e0]
  obtain ⟨v1, v2, v3, ⟨dd, w1, w2, w3⟩, v5⟩ := h
  unfold VF
  rw [en, e0]
  refine ⟨v1, v2, v3, ⟨dd, w1, w2, fun j hj => ?_⟩, fun j hj => ?_⟩
  · rw [e (1 + j) (by omega)]
    exact w3 j hj
  · rw [e (9 + j) (by omega), e (17 + j) (by omega)]
    exact v5 j hj
def RCl (c : Nat → Nat → Int32) (A : Nat → Int32) (l : Nat) : Prop := c 7 (l + 1) = A (19 + 25 * l) ∧ ∀ j, j < nf A l → c 8 (8 * (l + 1) + j) = A (19 + 25 * l + (1 + j)) + 11 ∧ c 9 (8 * (l + 1) + j) = A (19 + 25 * l + (9 + j)) ∧ c 10 (8 * (l + 1) + j) = A (19 + 25 * l + (17 + j))
theorem RCl_congr {c c' : Nat → Nat → Int32} {A A' : Nat → Int32} {l : Nat} (v : VF A l) (e : ∀ j, j < 25 → A' (19 + 25 * l + j) = A (19 + 25 * l + j)) (ec : c' 7 (l + 1) = c 7 (l + 1) ∧ ∀ j, j < 8 → c' 8 (8 * (l + 1) + j) = c 8 (8 * (l + 1) + j) ∧ c' 9 (8 * (l + 1) + j) = c 9 (8 * (l + 1) + j) ∧ c' 10 (8 * (l + 1) + j) = c 10 (8 * (l + 1) + j)) (h : RCl c A l) : RCl c' A' l := by
  have e0 : A' (19 + 25 * l) = A (19 + 25 * l) := e 0 (by omega)
  have en : nf A' l = nf A l := by unfold nf; rw [e0]
  have v2 := v.2.1
  unfold RCl
  rw [en, e0, ec.1]
  refine ⟨h.1, fun j hj => ?_⟩
  obtain ⟨c1, c2, c3⟩ := ec.2 j (by omega)
  rw [c1, c2, c3, e (1 + j) (by omega), e (9 + j) (by omega), e (17 + j) (by omega)]
  exact h.2 j hj
/-- the draft holds what is told, as long as no slip was found -/
def DR (g w : Z_H) : Prop := z_i g 35 9 = 0 → VP (z_i w 64) ∧ RCp (fun o => z_i g (33 + o)) (z_i w 64) ∧ z_i w 64 144 = 0 ∧ z_i w 64 146 = 0
