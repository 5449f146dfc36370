/-! the class runs on, once it has broken off -/
def CW (g g' : Z_H) : Prop := z_n g' = z_n g ∧ z_t g' = z_t g ∧ z_x g' = z_x g ∧ ∀ a, a < 35 ∨ 45 ≤ a → z_i g' a = z_i g a
theorem CW.rf {g : Z_H} : CW g g := ⟨rfl, rfl, rfl, fun _ _ => rfl⟩
theorem CW.tr {g g1 g2 : Z_H} (a : CW g g1) (b : CW g1 g2) : CW g g2 := ⟨b.1.trans a.1, b.2.1.trans a.2.1, b.2.2.1.trans a.2.2.1, fun q h => (b.2.2.2 q h).trans (a.2.2.2 q h)⟩
theorem CW_on {g g' : Z_H} {a : Nat} (o : ON g g' a) (h1 : 35 ≤ a) (h2 : a < 45) : CW g g' := ⟨o.1, o.2.1, o.2.2.1, fun q h => o.2.2.2 q (by omega) (by omega)⟩
theorem CW_si {g : Z_H} {a k : Nat} {v : Int32} (h1 : 35 ≤ a) (h2 : a < 45) : CW g (z_si g a k v) := ⟨rfl, rfl, rfl, fun q h => z_si_o (by omega)⟩
def BR (g : Z_H) (N : Nat) (p : Int32) : Prop := (∃ i, RDS g N i) ∧ z_i g 47 N = 0 ∧ z_i g 35 8 = p ∧ p ≠ -1
theorem BR.si {g : Z_H} {N : Nat} {p : Int32} (b : BR g N p) {a k : Nat} {v : Int32} (h1 : 36 ≤ a) (h2 : a < 45) : BR (z_si g a k v) N p := by
  obtain ⟨⟨i, r1, r2, r3, r4, r5⟩, b2, b3, b4⟩ := b
  refine ⟨⟨i, r1, r2, ?_, ?_, r5⟩, ?_, ?_, b4⟩
  · rw [z_si_o (by omega)]; exact r3
  · rw [z_si_o (by omega)]; exact r4
  · rw [z_si_o (by omega)]; exact b2
  · rw [z_si_o (by omega)]; exact b3
theorem BR.number {g : Z_H} {N lo hi : Nat} {p : Int32} (b : BR g N p) (h1 : lo ≤ hi) (h2 : hi ≤ 9999) : ∃ t g', f_X4_number g 35 (nI lo) (nI hi) = some (nI t, g') ∧ lo ≤ t ∧ t ≤ hi ∧ BR g' N p ∧ CW g g' ∧ ON g g' 35 := by
  obtain ⟨⟨i, r⟩, b2, b3, b4⟩ := b
  obtain ⟨t, g', e, nm⟩ := c_number r b2 h1 h2
  obtain ⟨i', r', -, k8⟩ := nm.rds r b2
  refine ⟨t, g', e, nm.2.1, nm.2.2.1, ⟨⟨i', r'⟩, by rw [nm.1.2.2.2 47 (by omega) (by omega)]; exact b2, (k8 (by rw [b3]; exact b4)).trans b3, b4⟩, CW_on nm.1 (by omega) (by omega), nm.1⟩
theorem BR.goOn {g : Z_H} {N : Nat} {p : Int32} (b : BR g N p) : ∃ g', f_X4_goOn g 35 = some g' ∧ BR g' N p ∧ CW g g' := by
  obtain ⟨⟨i, r⟩, b2, b3, b4⟩ := b
  rcases Nat.lt_or_ge i N with c | c
  · refine ⟨z_si g 35 7 (nI (i + 1)), c_goOn r c, ⟨⟨i + 1, r.1, r.2.1, ?_, ?_, c⟩, ?_, ?_, b4⟩, CW_si (by omega) (by omega)⟩
    · rw [zi_si, if_pos rfl, if_neg (by omega)]; exact r.2.2.1
    · rw [zi_si, if_pos rfl, if_pos rfl]
    · rw [z_si_o (by omega)]; exact b2
    · rw [zi_si, if_pos rfl, if_neg (by omega)]; exact b3
  · have e : i = N := by have := r.2.2.2.2; omega
    subst e
    exact ⟨g, c_goOn_e r, ⟨⟨i, r⟩, b2, b3, b4⟩, CW.rf⟩
theorem BR.breakOff {g : Z_H} {N : Nat} {p : Int32} (b : BR g N p) : f_X4_breakOff g 35 = some g := by
  obtain ⟨⟨i, r⟩, b2, b3, b4⟩ := b
  unfold f_X4_breakOff
  exact gdE (r.1.is rfl rfl) (bnd (yI35 r.1 8) (if_neg (by rw [b3]; exact b4)))
/-- the end of a clause, once broken off -/
theorem BR.tail {g : Z_H} {N : Nat} {p : Int32} (b : BR g N p) : ∃ g', ((gR g 35 4 2).bind fun r9 => (gI g 35 4 7).bind fun t10 => (aI g r9 t10).bind fun t11 => if t11 = 2 then ((f_X4_goOn g 35).bind fun h13 => some h13) else ((f_X4_breakOff g 35).bind fun h12 => some h12)) = some g' ∧ BR g' N p ∧ CW g g' := by
  obtain ⟨i, r⟩ := b.1
  obtain ⟨g', e1, e2, e3⟩ := b.goOn
  by_cases c : z_i g 47 i = 2
  · exact ⟨g', bnd (yR35_2 r.1) (bnd r.a7 (bnd r.k ((if_pos c).trans (bnd e1 rfl)))), e2, e3⟩
  · exact ⟨g, bnd (yR35_2 r.1) (bnd r.a7 (bnd r.k ((if_neg c).trans (bnd b.breakOff rfl)))), b, CW.rf⟩
theorem LY.plb {g : Z_H} (H : LY g) : PLB g 36 := by
  have sh : ∀ a k l, a < 72 → kT a = k → lT a = l → SH g a k l := fun a k l ha hk hl => ⟨by have := H.1; omega, (H.2 a ha).1.trans hk, (H.2 a ha).2.1.trans hl⟩
  refine ⟨sh 36 _ _ (by omega) rfl rfl, fun i hi => ?_, sh 40 _ _ (by omega) rfl rfl, fun i hi => ?_, sh 44 _ _ (by omega) rfl rfl, fun i hi => ?_⟩
  · have : i = 0 ∨ i = 1 ∨ i = 2 := by omega
    rcases this with rfl | rfl | rfl
    · exact sh 37 _ _ (by omega) rfl rfl
    · exact sh 38 _ _ (by omega) rfl rfl
    · exact sh 39 _ _ (by omega) rfl rfl
  · have : i = 0 ∨ i = 1 ∨ i = 2 := by omega
    rcases this with rfl | rfl | rfl
    · exact sh 41 _ _ (by omega) rfl rfl
    · exact sh 42 _ _ (by omega) rfl rfl
    · exact sh 43 _ _ (by omega) rfl rfl
  · have : i = 0 ∨ i = 1 ∨ i = 2 ∨ i = 3 ∨ i = 4 ∨ i = 5 ∨ i = 6 ∨ i = 7 := by omega
    rcases this with rfl | rfl | rfl | rfl | rfl | rfl | rfl | rfl <;> exact (H.2 36 (by omega)).2.2 (by omega) _
