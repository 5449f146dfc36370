/-! rank, opens -/
theorem VP_rk {K K' : Nat → Int32} (h : VP K) {r0 : Nat} (e : ∀ j, 3 ≤ j → j < 144 → j ≠ 7 + r0 → j ≠ 11 + r0 → j ≠ 15 + r0 → K' j = K j) (hr : r0 < 4) (k7 : isN (K' (7 + r0)) 9999) (k11 : isN (K' (11 + r0)) 4) (k15 : isN (K' (15 + r0)) 5) : VP K' := by
  obtain ⟨a, b, c, d, r, l⟩ := h
  refine ⟨by rw [e 3 (by omega) (by omega) (by omega) (by omega) (by omega)]; exact a, by rw [e 4 (by omega) (by omega) (by omega) (by omega) (by omega)]; exact b, by rw [e 5 (by omega) (by omega) (by omega) (by omega) (by omega)]; exact c, by rw [e 6 (by omega) (by omega) (by omega) (by omega) (by omega)]; exact d, fun x hx => ?_, fun x hx => VF_congr (fun j hj => e _ (by omega) (by omega) (by omega) (by omega) (by omega)) (l x hx)⟩
  by_cases q : x = r0
  · rw [q]
    exact ⟨k7, k11, k15⟩
  · rw [e (7 + x) (by omega) (by omega) (by omega) (by omega) (by omega), e (11 + x) (by omega) (by omega) (by omega) (by omega) (by omega), e (15 + x) (by omega) (by omega) (by omega) (by omega) (by omega)]
    exact r x hx
