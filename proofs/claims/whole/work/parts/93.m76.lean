/-! the model's words, by their numbers -/
theorem lgE {x y : Int64} : lg_cmp x y = 0 ↔ x = y := by
  unfold lg_cmp
  constructor
  · intro h
    split at h
    · exact absurd h (by decide)
    · split at h
      · assumption
      · exact absurd h (by decide)
  · rintro rfl
    have : ¬ x > x := Int64.lt_irrefl
    rw [if_neg this, if_pos rfl]
theorem wkd_c (W : Int64) : (W = 465558725996 ∧ wkd W z_wrds = 4) ∨ (W = 1918987883 ∧ wkd W z_wrds = 5) ∨ (W = 478627065459 ∧ wkd W z_wrds = 6) ∨ (W = 487301543009 ∧ wkd W z_wrds = 7) ∨ (W = 6513008 ∧ wkd W z_wrds = 8) ∨ (W = 1986360180 ∧ wkd W z_wrds = 9) ∨ (W = 131294707347319 ∧ wkd W z_wrds = 10) ∨ (W = 1718378868 ∧ wkd W z_wrds = 11) ∨ (W = 125762789926244 ∧ wkd W z_wrds = 12) ∨ (W = 2003395685 ∧ wkd W z_wrds = 13) ∨ (W = 465726693740 ∧ wkd W z_wrds = 14) ∨ (W = 1836020325 ∧ wkd W z_wrds = 15) ∨ (W = 1818588019 ∧ wkd W z_wrds = 16) ∨ (W = 7566701 ∧ wkd W z_wrds = 17) ∨ ((W ≠ 465558725996 ∧ W ≠ 1918987883 ∧ W ≠ 478627065459 ∧ W ≠ 487301543009 ∧ W ≠ 6513008 ∧ W ≠ 1986360180 ∧ W ≠ 131294707347319 ∧ W ≠ 1718378868 ∧ W ≠ 125762789926244 ∧ W ≠ 2003395685 ∧ W ≠ 465726693740 ∧ W ≠ 1836020325 ∧ W ≠ 1818588019 ∧ W ≠ 7566701) ∧ wkd W z_wrds = 1) := by
  by_cases c0 : W = 465558725996
  · exact Or.inl ⟨c0, by rw [c0]; decide +kernel⟩
  by_cases c1 : W = 1918987883
  · exact Or.inr (Or.inl ⟨c1, by rw [c1]; decide +kernel⟩)
  by_cases c2 : W = 478627065459
  · exact Or.inr (Or.inr (Or.inl ⟨c2, by rw [c2]; decide +kernel⟩))
  by_cases c3 : W = 487301543009
  · exact Or.inr (Or.inr (Or.inr (Or.inl ⟨c3, by rw [c3]; decide +kernel⟩)))
  by_cases c4 : W = 6513008
  · exact Or.inr (Or.inr (Or.inr (Or.inr (Or.inl ⟨c4, by rw [c4]; decide +kernel⟩))))
  by_cases c5 : W = 1986360180
  · exact Or.inr (Or.inr (Or.inr (Or.inr (Or.inr (Or.inl ⟨c5, by rw [c5]; decide +kernel⟩)))))
  by_cases c6 : W = 131294707347319
  · exact Or.inr (Or.inr (Or.inr (Or.inr (Or.inr (Or.inr (Or.inl ⟨c6, by rw [c6]; decide +kernel⟩))))))
  by_cases c7 : W = 1718378868
  · exact Or.inr (Or.inr (Or.inr (Or.inr (Or.inr (Or.inr (Or.inr (Or.inl ⟨c7, by rw [c7]; decide +kernel⟩)))))))
  by_cases c8 : W = 125762789926244
  · exact Or.inr (Or.inr (Or.inr (Or.inr (Or.inr (Or.inr (Or.inr (Or.inr (Or.inl ⟨c8, by rw [c8]; decide +kernel⟩))))))))
  by_cases c9 : W = 2003395685
  · exact Or.inr (Or.inr (Or.inr (Or.inr (Or.inr (Or.inr (Or.inr (Or.inr (Or.inr (Or.inl ⟨c9, by rw [c9]; decide +kernel⟩)))))))))
  by_cases c10 : W = 465726693740
  · exact Or.inr (Or.inr (Or.inr (Or.inr (Or.inr (Or.inr (Or.inr (Or.inr (Or.inr (Or.inr (Or.inl ⟨c10, by rw [c10]; decide +kernel⟩))))))))))
  by_cases c11 : W = 1836020325
  · exact Or.inr (Or.inr (Or.inr (Or.inr (Or.inr (Or.inr (Or.inr (Or.inr (Or.inr (Or.inr (Or.inr (Or.inl ⟨c11, by rw [c11]; decide +kernel⟩)))))))))))
  by_cases c12 : W = 1818588019
  · exact Or.inr (Or.inr (Or.inr (Or.inr (Or.inr (Or.inr (Or.inr (Or.inr (Or.inr (Or.inr (Or.inr (Or.inr (Or.inl ⟨c12, by rw [c12]; decide +kernel⟩))))))))))))
  by_cases c13 : W = 7566701
  · exact Or.inr (Or.inr (Or.inr (Or.inr (Or.inr (Or.inr (Or.inr (Or.inr (Or.inr (Or.inr (Or.inr (Or.inr (Or.inr (Or.inl ⟨c13, by rw [c13]; decide +kernel⟩)))))))))))))
  refine Or.inr (Or.inr (Or.inr (Or.inr (Or.inr (Or.inr (Or.inr (Or.inr (Or.inr (Or.inr (Or.inr (Or.inr (Or.inr (Or.inr (⟨⟨c0, c1, c2, c3, c4, c5, c6, c7, c8, c9, c10, c11, c12, c13⟩, ?_⟩))))))))))))))
  exact (if_neg c0).trans ((if_neg c1).trans ((if_neg c2).trans ((if_neg c3).trans ((if_neg c4).trans ((if_neg c5).trans ((if_neg c6).trans ((if_neg c7).trans ((if_neg c8).trans ((if_neg c9).trans ((if_neg c10).trans ((if_neg c11).trans ((if_neg c12).trans ((if_neg c13).trans (rfl))))))))))))))
def nbK (K : Int32) : Int32 := if 11 ≤ K then K - 11 else -1
theorem e_nodeBy {w : Z_H} (H : LY w) (W : Int64) : f_X10_nodeBy w 61 W = some (nbK (wkd W z_wrds)) := by
  unfold f_X10_nodeBy
  refine gdE (yg61 H) ?_
  rcases wkd_c W with ⟨e, k⟩ | ⟨e, k⟩ | ⟨e, k⟩ | ⟨e, k⟩ | ⟨e, k⟩ | ⟨e, k⟩ | ⟨e, k⟩ | ⟨e, k⟩ | ⟨e, k⟩ | ⟨e, k⟩ | ⟨e, k⟩ | ⟨e, k⟩ | ⟨e, k⟩ | ⟨e, k⟩ | ⟨⟨n0, n1, n2, n3, n4, n5, n6, n7, n8, n9, n10, n11, n12, n13⟩, k⟩
  · rw [k, e]; decide +kernel
  · rw [k, e]; decide +kernel
  · rw [k, e]; decide +kernel
  · rw [k, e]; decide +kernel
  · rw [k, e]; decide +kernel
  · rw [k, e]; decide +kernel
  · rw [k, e]; decide +kernel
  · rw [k, e]; decide +kernel
  · rw [k, e]; decide +kernel
  · rw [k, e]; decide +kernel
  · rw [k, e]; decide +kernel
  · rw [k, e]; decide +kernel
  · rw [k, e]; decide +kernel
  · rw [k, e]; decide +kernel
  · rw [k]
    exact (if_neg (fun q => n7 (lgE.mp q))).trans ((if_neg (fun q => n8 (lgE.mp q))).trans ((if_neg (fun q => n9 (lgE.mp q))).trans ((if_neg (fun q => n10 (lgE.mp q))).trans ((if_neg (fun q => n11 (lgE.mp q))).trans ((if_neg (fun q => n12 (lgE.mp q))).trans ((if_neg (fun q => n13 (lgE.mp q))).trans (rfl)))))))
