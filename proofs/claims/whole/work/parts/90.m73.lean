/-! clauses of one number -/
theorem VP_sc {K : Nat → Int32} (h : VP K) {f tt hi : Nat} (hf : (f = 0 ∧ hi = 9999) ∨ (f = 1 ∧ hi = 99) ∨ (f = 2 ∧ hi = 12) ∨ (f = 3 ∧ hi = 6 ∧ 1 ≤ tt)) (ht : tt ≤ hi) : VP (upd K (3 + f) (nI tt)) := by
  have f4 : f < 4 := by omega
  obtain ⟨a, b, c, d, r, l⟩ := h
  have up : ∀ j, j ≠ 3 + f → upd K (3 + f) (nI tt) j = K j := fun j hj => upd_o hj
  have us : upd K (3 + f) (nI tt) (3 + f) = nI tt := upd_s
  refine ⟨?_, ?_, ?_, ?_, fun x hx => ?_, fun x hx => VF_congr (fun j hj => up _ (by omega)) (l x hx)⟩
  · rcases hf with ⟨rfl, rfl⟩ | ⟨rfl, rfl⟩ | ⟨rfl, rfl⟩ | ⟨rfl, rfl, h1⟩
    · exact ⟨tt, ht, us⟩
    · rw [up 3 (by omega)]; exact a
    · rw [up 3 (by omega)]; exact a
    · rw [up 3 (by omega)]; exact a
  · rcases hf with ⟨rfl, rfl⟩ | ⟨rfl, rfl⟩ | ⟨rfl, rfl⟩ | ⟨rfl, rfl, h1⟩
    · rw [up 4 (by omega)]; exact b
    · exact ⟨tt, ht, us⟩
    · rw [up 4 (by omega)]; exact b
    · rw [up 4 (by omega)]; exact b
  · rcases hf with ⟨rfl, rfl⟩ | ⟨rfl, rfl⟩ | ⟨rfl, rfl⟩ | ⟨rfl, rfl, h1⟩
    · rw [up 5 (by omega)]; exact c
    · rw [up 5 (by omega)]; exact c
    · exact ⟨tt, ht, us⟩
    · rw [up 5 (by omega)]; exact c
  · rcases hf with ⟨rfl, rfl⟩ | ⟨rfl, rfl⟩ | ⟨rfl, rfl⟩ | ⟨rfl, rfl, h1⟩
    · rw [up 6 (by omega)]; exact d
    · rw [up 6 (by omega)]; exact d
    · rw [up 6 (by omega)]; exact d
    · exact ⟨tt, h1, ht, us⟩
  · rw [up (7 + x) (by omega), up (11 + x) (by omega), up (15 + x) (by omega)]
    exact r x hx
theorem sc_ln {T : Nat → Int32} {n N : Nat} {Kf Pf Vf : Nat → Int32} {q : Nat → Nat} (t : TS T n N Kf Pf Vf q) {g w : Z_H} {i : Nat} (R : REL g w T n N Kf Pf Vf q i) (D : DR g w) {f lo hi : Nat} (hf : (f = 0 ∧ hi = 9999 ∧ lo = 0) ∨ (f = 1 ∧ hi = 99 ∧ lo = 0) ∨ (f = 2 ∧ hi = 12 ∧ lo = 0) ∨ (f = 3 ∧ hi = 6 ∧ lo = 1)) : ∃ g2 ok w2, ((gR g 35 4 0).bind fun r17 => bd2 (f_X4_number g 35 (nI lo) (nI hi)) fun t18 h19 => (pI h19 r17 3 f t18).bind fun h20 => some h20) = some g2 ∧ (bd2 (f_X10_takes w 61 0 (nI lo) (nI hi)) fun t42 h43 => if t42 = 0 then (some ((0 : Int32), h43)) else ((gR h43 61 10 12).bind fun r44 => (gR h43 61 10 13).bind fun r45 => (aI h43 r45 0).bind fun t46 => (sI h43 r44 (nI (3 + f)) t46).bind fun h47 => some (1, h47))) = some (ok, w2) ∧ CW g g2 ∧ MF w w2 ∧ ((ok = 1 ∧ i < N ∧ REL g2 w2 T n N Kf Pf Vf q (i + 1) ∧ DR g2 w2) ∨ (ok = 0 ∧ BR g2 N (z_i w2 61 9))) := by
  have G := R.1.1.1
  have hN : z_i g 47 N = 0 := (R.1.2 N (Nat.le_refl _)).1.trans t.2.2.2.2
  obtain ⟨tt, g', ok, w', c1, c2, nm, mf, k64, res⟩ := num_tk t R (x := 0) (lo := lo) (hi := hi) (by omega) (by omega) (by omega)
  have c2' : f_X10_takes w 61 0 (nI lo) (nI hi) = some (ok, w') := c2
  have G' := nm.1.ly G
  have cw : CW g g' := CW_on nm.1 (by omega) (by omega)
  have e1 : ((gR g 35 4 0).bind fun r17 => bd2 (f_X4_number g 35 (nI lo) (nI hi)) fun t18 h19 => (pI h19 r17 3 f t18).bind fun h20 => some h20) = some (z_si g' 36 f (nI tt)) := bnd (yR35_0 G) (bd2E c1 (bnd (yP36 G' f _) rfl))
  rcases res with ⟨rfl, iN, R', k65, s9⟩ | ⟨rfl, b⟩
  · have W' := R'.2.1.1.1
    have a65 : aI w' 65 0 = some (nI tt) := (yA65 (k := 0) W' (by omega)).trans (congrArg some (by rw [k65, upd_s]))
    refine ⟨z_si g' 36 f (nI tt), 1, z_si w' 64 (3 + f) (nI tt), e1, ?_, cw.tr (CW_si (by omega) (by omega)), mf.tr MF_64, Or.inl ⟨rfl, iN, (R'.draft (by omega) (by omega)).told, fun s0 => ?_⟩⟩
    · exact bd2E c2' ((if_neg (by decide)).trans (bnd (yR61_12 W') (bnd (yR61_13 W') (bnd a65 (bnd (yS64 W' (by omega)) rfl)))))
    · rw [z_si_o (by omega)] at s0
      obtain ⟨vp, rc, z4, z6⟩ := D (s9 s0)
      have ek : z_i (z_si w' 64 (3 + f) (nI tt)) 64 = upd (z_i w 64) (3 + f) (nI tt) := by rw [z_si_i, k64]
      rw [ek]
      have l1 := nm.2.1
      have l2 := nm.2.2.1
      have gd : ∀ o, 3 < o → o < 12 → z_i (z_si g' 36 f (nI tt)) (33 + o) = z_i g (33 + o) := fun o h1 h2 => (z_si_o (by omega)).trans (nm.1.2.2.2 _ (by omega) (by omega))
      refine ⟨VP_sc vp (by omega) l2, ⟨fun x hx => ?_, fun r hr => ?_, fun l hl => ?_⟩, by rw [upd_o (by omega)]; exact z4, by rw [upd_o (by omega)]; exact z6⟩
      · show z_i (z_si g' 36 f (nI tt)) 36 x = _
        rw [zi_si, if_pos rfl, nm.1.2.2.2 36 (by omega) (by omega)]
        by_cases c : x = f
        · rw [if_pos c, c, upd_s]
        · rw [if_neg c, upd_o (by omega)]
          exact rc.1 x hx
      · show z_i _ (33 + 4) r = _ ∧ z_i _ (33 + 5) r = _ ∧ z_i _ (33 + 6) r = _
        rw [gd 4 (by omega) (by omega), gd 5 (by omega) (by omega), gd 6 (by omega) (by omega), upd_o (by omega), upd_o (by omega), upd_o (by omega)]
        exact rc.2.1 r hr
      · refine RCl_congr (c := fun o => z_i g (33 + o)) (c' := fun o => z_i (z_si g' 36 f (nI tt)) (33 + o)) (A' := upd (z_i w 64) (3 + f) (nI tt)) (vp.2.2.2.2.2 l hl) (fun j hj => upd_o (by omega)) ⟨?_, fun j hj => ⟨?_, ?_, ?_⟩⟩ (rc.2.2 l hl)
        · exact congrFun (gd 7 (by omega) (by omega)) _
        · exact congrFun (gd 8 (by omega) (by omega)) _
        · exact congrFun (gd 9 (by omega) (by omega)) _
        · exact congrFun (gd 10 (by omega) (by omega)) _
  · obtain ⟨i', r', -, -⟩ := nm.rds R.1.1 hN
    refine ⟨z_si g' 36 f (nI tt), 0, w', e1, bd2E c2' (if_pos rfl), cw.tr (CW_si (by omega) (by omega)), mf, Or.inr ⟨rfl, BR.si ⟨⟨i', r'⟩, by rw [nm.1.2.2.2 47 (by omega) (by omega)]; exact hN, b.1, by rw [← b.1]; exact b.2⟩ (by omega) (by omega)⟩⟩
