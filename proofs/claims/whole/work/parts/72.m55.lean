/-! a state is made -/
theorem AL.ints {h0 h g : Z_H} {b m t : Nat} {S : RSh} {J : RJt} (G : AL h0 h b m t S J) (e1 : z_n g = z_n h) (e2 : z_t g = z_t h) (e3 : z_x g = z_x h) (e4 : ∀ a, a < b → z_i g a = z_i h a) : AL h0 g b m t S (fun o => z_i g (b + o)) := by
  obtain ⟨g1, g2, g3, g4, g5⟩ := G
  refine ⟨e1.trans g1, e2.trans g2, fun a ha => ⟨?_, (e4 a ha).trans (g3 a ha).2⟩, fun o ho => ?_, g5⟩
  · rw [e3]
    exact (g3 a ha).1
  · obtain ⟨q1, q2, q3, q4⟩ := g4 o ho
    unfold z_k z_len z_r at *
    rw [e3]
    exact ⟨q1, q2, q3, rfl⟩
theorem AL.sh {h0 h : Z_H} {b m t : Nat} {S : RSh} {J : RJt} (G : AL h0 h b m t S J) (o : Nat) {k n : Nat} (ho : Nat.blt o m = true) (hk : (S o).1 = k) (hn : (S o).2.1 = n) : SH h (b + o) k n := by
  have ho : o < m := of_decide_eq_true (by simpa using ho : decide (o < m) = true)
  obtain ⟨q1, q2, q3, q4⟩ := G.2.2.2.1 o ho
  exact ⟨by rw [G.1]; omega, q1.trans hk, q2.trans hn⟩
theorem AL.r {h0 h : Z_H} {b m t : Nat} {S : RSh} {J : RJt} (G : AL h0 h b m t S J) (o k p : Nat) (ho : Nat.blt o m = true) (hr : (S o).2.2 k = some p) : z_r h (b + o) k = some (b + p) := by
  have ho : o < m := of_decide_eq_true (by simpa using ho : decide (o < m) = true)
  rw [(G.2.2.2.1 o ho).2.2.1 k, hr]
  rfl
theorem AL.i {h0 h : Z_H} {b m t : Nat} {S : RSh} {J : RJt} (G : AL h0 h b m t S J) (o k : Nat) {v : Int32} (ho : Nat.blt o m = true) (hv : J o k = v) : z_i h (b + o) k = v := by
  have ho : o < m := of_decide_eq_true (by simpa using ho : decide (o < m) = true)
  rw [(G.2.2.2.1 o ho).2.2.2]
  exact hv
theorem rT_low : ∀ o, o < 33 → ∀ k, k < 26 → (rT (1 + o) k).all (fun q => decide (1 ≤ q)) = true := by decide +kernel
theorem AL.blk {h0 h : Z_H} {b t : Nat} {S : RSh} {J : RJt} (G : AL h0 h b 33 t S J) (hb : 1 ≤ b) (d : ∀ o, o < 33 → (S o).1 = kT (1 + o) ∧ (S o).2.1 = lT (1 + o) ∧ ∀ k, k < 26 → (S o).2.2 k = (rT (1 + o) k).map (fun q => q - 1)) : BLK h b := by
  refine ⟨hb, fun o ho => ?_⟩
  obtain ⟨q1, q2, q3, q4⟩ := G.2.2.2.1 o ho
  obtain ⟨d1, d2, d3⟩ := d o ho
  refine ⟨by rw [G.1]; omega, q1.trans d1, q2.trans d2, fun k => ?_⟩
  rcases Nat.lt_or_ge k 26 with c | c
  · rw [q3 k, d3 k c]
    have := rT_low o ho k c
    cases e : rT (1 + o) k with
    | none => rfl
    | some q =>
      rw [e] at this
      have : 1 ≤ q := of_decide_eq_true this
      show some (b + (q - 1)) = some (q + b - 1)
      congr 1
      omega
  · rw [q3 k, G.2.2.2.2 o k c ho]
    obtain ⟨k', rfl⟩ : ∃ k', k = k' + 26 := ⟨k - 26, by omega⟩
    rw [rT_far]
    rfl
theorem PF.to {g g' : Z_H} {p : Nat} (P : PF g p) (e : ∀ o, o < 8 → z_i g' (p + o) = z_i g (p + o)) : PF g' p := by
  have e0 : z_i g' p = z_i g p := e 0 (by omega)
  unfold PF PFr PFl at *
  rw [e0, e 1 (by omega), e 2 (by omega), e 3 (by omega), e 4 (by omega), e 5 (by omega), e 6 (by omega), e 7 (by omega)]
  exact P
def sS0 : RSh := fun _ => (0, 0, fun _ => none)
def jS0 : RJt := fun _ _ => 0
/-- the ints of a state as it is made -/
def ST0 (h : Z_H) (b : Nat) : Prop := PF h (b + 3) ∧ z_i h (b + 1) 1 = 0 ∧ z_i h b 6 = 0 ∧ z_i h b 7 = -1 ∧ z_i h b 8 = 0 ∧ z_i h (b + 12) 0 = 1 ∧ z_i h (b + 13) 0 = 0 ∧ z_i h (b + 14) 0 = -1 ∧ z_i h (b + 15) 0 = 0 ∧ z_i h (b + 16) 0 = 0 ∧ z_i h (b + 19) 0 = -1 ∧ z_i h (b + 20) 0 = 0 ∧ ∀ s, s < 10 → z_i h (b + 29) s = 0 ∧ z_i h (b + 30) s = 0
theorem c_st {h : Z_H} (hb : 1 ≤ z_n h) : ∃ g h', (∀ {β : Type} (f : Nat → Z_H → β), nw h 7 9 f = f (z_n h) g) ∧ f_X7_init g (z_n h) = some h' ∧ z_n h' = z_n h + 33 ∧ z_t h' = z_t h + 3412 ∧ (∀ a, a < z_n h → z_x h' a = z_x h a ∧ z_i h' a = z_i h a) ∧ BLK h' (z_n h) ∧ ST0 h' (z_n h) := by
  generalize eb : z_n h = b at hb ⊢
  have G0 : AL h h b 0 0 sS0 jS0 := eb ▸ AL.nil
  obtain ⟨g1, e1, G1⟩ := G0.xW (m' := 1) (t' := 9) 7 9 rfl rfl
  obtain ⟨g2, e2, G2⟩ := G1.xW (m' := 2) (t' := 11) 8 2 rfl rfl
  obtain ⟨g3, e3, G3⟩ := G2.xA (m' := 3) (t' := 611) 1 600 (by omega) rfl rfl
  obtain ⟨g4, e4, G4⟩ := G3.xR 1 8 0 2 rfl (by decide +kernel) rfl
  obtain ⟨g5, e5, G5⟩ := G4.xI 1 8 1 (0) rfl (by decide +kernel)
  have EX8 : f_X8_init g2 (b + 1) = some g5 := by
    unfold f_X8_init
    exact bd2E e3 (bnd e4 (bnd e5 (rfl)))
  obtain ⟨g6, e6, G6⟩ := G5.xR 0 7 0 1 rfl (by decide +kernel) rfl
  obtain ⟨g7, e7, G7⟩ := G6.xW (m' := 4) (t' := 623) 3 12 rfl rfl
  obtain ⟨g8, e8, G8⟩ := G7.xA (m' := 5) (t' := 627) 0 4 (by omega) rfl rfl
  obtain ⟨g9, e9, G9⟩ := G8.xR 3 3 4 4 rfl (by decide +kernel) rfl
  obtain ⟨g10, e10, G10⟩ := G9.xA (m' := 6) (t' := 631) 0 4 (by omega) rfl rfl
  obtain ⟨g11, e11, G11⟩ := G10.xR 3 3 5 5 rfl (by decide +kernel) rfl
  obtain ⟨g12, e12, G12⟩ := G11.xA (m' := 7) (t' := 635) 0 4 (by omega) rfl rfl
  obtain ⟨g13, e13, G13⟩ := G12.xR 3 3 6 6 rfl (by decide +kernel) rfl
  obtain ⟨g14, e14, G14⟩ := G13.xA (m' := 8) (t' := 641) 0 6 (by omega) rfl rfl
  obtain ⟨g15, e15, G15⟩ := G14.xR 3 3 7 7 rfl (by decide +kernel) rfl
  obtain ⟨g16, e16, G16⟩ := G15.xA (m' := 9) (t' := 689) 0 48 (by omega) rfl rfl
  obtain ⟨g17, e17, G17⟩ := G16.xR 3 3 8 8 rfl (by decide +kernel) rfl
  obtain ⟨g18, e18, G18⟩ := G17.xA (m' := 10) (t' := 737) 0 48 (by omega) rfl rfl
  obtain ⟨g19, e19, G19⟩ := G18.xR 3 3 9 9 rfl (by decide +kernel) rfl
  obtain ⟨g20, e20, G20⟩ := G19.xA (m' := 11) (t' := 785) 0 48 (by omega) rfl rfl
  obtain ⟨g21, e21, G21⟩ := G20.xR 3 3 10 10 rfl (by decide +kernel) rfl
  obtain ⟨g22, e22, G22⟩ := G21.xA (m' := 12) (t' := 793) 0 8 (by omega) rfl rfl
  obtain ⟨g23, e23, G23⟩ := G22.xR 3 3 11 11 rfl (by decide +kernel) rfl
  have PB : PLB g23 (b + 3) := ⟨G23.sh 3 rfl (by decide +kernel) (by decide +kernel), fun i hi => by
    have : i = 0 ∨ i = 1 ∨ i = 2 := by omega
    rcases this with rfl | rfl | rfl
    · exact G23.sh 4 rfl (by decide +kernel) (by decide +kernel)
    · exact G23.sh 5 rfl (by decide +kernel) (by decide +kernel)
    · exact G23.sh 6 rfl (by decide +kernel) (by decide +kernel)
    , G23.sh 7 rfl (by decide +kernel) (by decide +kernel), fun i hi => by
    have : i = 0 ∨ i = 1 ∨ i = 2 := by omega
    rcases this with rfl | rfl | rfl
    · exact G23.sh 8 rfl (by decide +kernel) (by decide +kernel)
    · exact G23.sh 9 rfl (by decide +kernel) (by decide +kernel)
    · exact G23.sh 10 rfl (by decide +kernel) (by decide +kernel)
    , G23.sh 11 rfl (by decide +kernel) (by decide +kernel), fun i hi => by
    have : i = 0 ∨ i = 1 ∨ i = 2 ∨ i = 3 ∨ i = 4 ∨ i = 5 ∨ i = 6 ∨ i = 7 := by omega
    rcases this with rfl | rfl | rfl | rfl | rfl | rfl | rfl | rfl
    · exact G23.r 3 4 4 rfl (by decide +kernel)
    · exact G23.r 3 5 5 rfl (by decide +kernel)
    · exact G23.r 3 6 6 rfl (by decide +kernel)
    · exact G23.r 3 7 7 rfl (by decide +kernel)
    · exact G23.r 3 8 8 rfl (by decide +kernel)
    · exact G23.r 3 9 9 rfl (by decide +kernel)
    · exact G23.r 3 10 10 rfl (by decide +kernel)
    · exact G23.r 3 11 11 rfl (by decide +kernel)
    ⟩
  obtain ⟨g24, e24, SM, PF1⟩ := c_setFirst PB
  have G24 := G23.ints SM.1 SM.2.1 SM.2.2.1 (fun a ha => SM.2.2.2 a (by omega))
  have EX3 : f_X3_init g7 (b + 3) = some g24 := by
    unfold f_X3_init
    exact bd2E e8 (bnd e9 (bd2E e10 (bnd e11 (bd2E e12 (bnd e13 (bd2E e14 (bnd e15 (bd2E e16 (bnd e17 (bd2E e18 (bnd e19 (bd2E e20 (bnd e21 (bd2E e22 (bnd e23 (bnd e24 (rfl)))))))))))))))))
  obtain ⟨g25, e25, G25⟩ := G24.xR 0 7 1 3 rfl (by decide +kernel) rfl
  obtain ⟨g26, e26, G26⟩ := G25.xW (m' := 13) (t' := 801) 0 8 rfl rfl
  obtain ⟨g27, e27, G27⟩ := G26.xI 12 0 0 (1) rfl (by decide +kernel)
  obtain ⟨g28, e28, G28⟩ := G27.xA (m' := 14) (t' := 811) 0 10 (by omega) rfl rfl
  obtain ⟨g29, e29, G29⟩ := G28.xR 12 0 1 13 rfl (by decide +kernel) rfl
  obtain ⟨g30, e30, G30⟩ := G29.xA (m' := 15) (t' := 821) 0 10 (by omega) rfl rfl
  obtain ⟨g31, e31, G31⟩ := G30.xR 12 0 2 14 rfl (by decide +kernel) rfl
  obtain ⟨g32, e32, G32⟩ := G31.xA (m' := 16) (t' := 831) 0 10 (by omega) rfl rfl
  obtain ⟨g33, e33, G33⟩ := G32.xR 12 0 3 15 rfl (by decide +kernel) rfl
  obtain ⟨g34, e34, G34⟩ := G33.xA (m' := 17) (t' := 841) 0 10 (by omega) rfl rfl
  obtain ⟨g35, e35, G35⟩ := G34.xR 12 0 4 16 rfl (by decide +kernel) rfl
  obtain ⟨g36, e36, G36⟩ := G35.xA (m' := 18) (t' := 961) 0 120 (by omega) rfl rfl
  obtain ⟨g37, e37, G37⟩ := G36.xR 12 0 5 17 rfl (by decide +kernel) rfl
  obtain ⟨g38, e38, G38⟩ := G37.xA (m' := 19) (t' := 1081) 0 120 (by omega) rfl rfl
  obtain ⟨g39, e39, G39⟩ := G38.xR 12 0 6 18 rfl (by decide +kernel) rfl
  obtain ⟨g40, e40, G40⟩ := G39.xA (m' := 20) (t' := 1091) 0 10 (by omega) rfl rfl
  obtain ⟨g41, e41, G41⟩ := G40.xR 12 0 7 19 rfl (by decide +kernel) rfl
  obtain ⟨g42, e42, G42⟩ := G41.xI 12 0 0 (0) rfl (by decide +kernel)
  obtain ⟨g43, e43, G43⟩ := G42.xS 13 0 (0) rfl (by decide +kernel) (by decide +kernel) rfl
  obtain ⟨g44, e44, G44⟩ := G43.xS 14 0 (-1) rfl (by decide +kernel) (by decide +kernel) rfl
  obtain ⟨g45, e45, G45⟩ := G44.xS 15 0 (0) rfl (by decide +kernel) (by decide +kernel) rfl
  obtain ⟨g46, e46, G46⟩ := G45.xS 16 0 (0) rfl (by decide +kernel) (by decide +kernel) rfl
  obtain ⟨g47, e47, G47⟩ := G46.xS 19 0 (-1) rfl (by decide +kernel) (by decide +kernel) rfl
  obtain ⟨g48, e48, G48⟩ := G47.xI 12 0 0 (nI 0 + 1) rfl (by decide +kernel)
  have EA : f_X0_admit g42 (b + 12) (-1) 0 = some (nI 0, g48) := by
    unfold f_X0_admit
    exact gdE (G42.is 12 0 rfl (by decide +kernel)) (bnd (G42.rI 12 0 0 (v := nI 0) rfl (by decide +kernel) rfl) ((if_pos (by decide)).trans (bnd (G42.rR 12 0 1 13 rfl (by decide +kernel) (by decide +kernel)) (bnd e43 (bnd (G43.rR 12 0 2 14 rfl (by decide +kernel) (by decide +kernel)) (bnd e44 (bnd (G44.rR 12 0 3 15 rfl (by decide +kernel) (by decide +kernel)) (bnd e45 (bnd (G45.rR 12 0 4 16 rfl (by decide +kernel) (by decide +kernel)) (bnd e46 (bnd (G46.rR 12 0 7 19 rfl (by decide +kernel) (by decide +kernel)) (bnd e47 (bnd (G47.rI 12 0 0 (v := nI 0) rfl (by decide +kernel) rfl) (bnd e48 (rfl)))))))))))))))
  have EC : f_X0_clear g41 (b + 12) = some g48 := by
    unfold f_X0_clear
    exact gdE (G41.is 12 0 rfl (by decide +kernel)) (bnd e42 (bd2E EA rfl))
  have EX0 : f_X0_init g26 (b + 12) = some g48 := by
    unfold f_X0_init
    exact bnd e27 (bd2E e28 (bnd e29 (bd2E e30 (bnd e31 (bd2E e32 (bnd e33 (bd2E e34 (bnd e35 (bd2E e36 (bnd e37 (bd2E e38 (bnd e39 (bd2E e40 (bnd e41 (bnd EC (rfl))))))))))))))))
  obtain ⟨g49, e49, G49⟩ := G48.xR 0 7 2 12 rfl (by decide +kernel) rfl
  obtain ⟨g50, e50, G50⟩ := G49.xW (m' := 21) (t' := 1099) 5 8 rfl rfl
  obtain ⟨g51, e51, G51⟩ := G50.xI 20 5 0 (0) rfl (by decide +kernel)
  obtain ⟨g52, e52, G52⟩ := G51.xA (m' := 22) (t' := 1139) 0 40 (by omega) rfl rfl
  obtain ⟨g53, e53, G53⟩ := G52.xR 20 5 1 21 rfl (by decide +kernel) rfl
  obtain ⟨g54, e54, G54⟩ := G53.xA (m' := 23) (t' := 1179) 0 40 (by omega) rfl rfl
  obtain ⟨g55, e55, G55⟩ := G54.xR 20 5 2 22 rfl (by decide +kernel) rfl
  obtain ⟨g56, e56, G56⟩ := G55.xA (m' := 24) (t' := 1219) 0 40 (by omega) rfl rfl
  obtain ⟨g57, e57, G57⟩ := G56.xR 20 5 3 23 rfl (by decide +kernel) rfl
  obtain ⟨g58, e58, G58⟩ := G57.xA (m' := 25) (t' := 1259) 0 40 (by omega) rfl rfl
  obtain ⟨g59, e59, G59⟩ := G58.xR 20 5 4 24 rfl (by decide +kernel) rfl
  obtain ⟨g60, e60, G60⟩ := G59.xA (m' := 26) (t' := 1299) 0 40 (by omega) rfl rfl
  obtain ⟨g61, e61, G61⟩ := G60.xR 20 5 5 25 rfl (by decide +kernel) rfl
  obtain ⟨g62, e62, G62⟩ := G61.xA (m' := 27) (t' := 1339) 0 40 (by omega) rfl rfl
  obtain ⟨g63, e63, G63⟩ := G62.xR 20 5 6 26 rfl (by decide +kernel) rfl
  obtain ⟨g64, e64, G64⟩ := G63.xA (m' := 28) (t' := 2739) 0 1400 (by omega) rfl rfl
  obtain ⟨g65, e65, G65⟩ := G64.xR 20 5 7 27 rfl (by decide +kernel) rfl
  have EX5 : f_X5_init g50 (b + 20) = some g65 := by
    unfold f_X5_init
    exact bnd e51 (bd2E e52 (bnd e53 (bd2E e54 (bnd e55 (bd2E e56 (bnd e57 (bd2E e58 (bnd e59 (bd2E e60 (bnd e61 (bd2E e62 (bnd e63 (bd2E e64 (bnd e65 (rfl)))))))))))))))
  obtain ⟨g66, e66, G66⟩ := G65.xR 0 7 3 20 rfl (by decide +kernel) rfl
  obtain ⟨g67, e67, G67⟩ := G66.xW (m' := 29) (t' := 2742) 1 3 rfl rfl
  obtain ⟨g68, e68, G68⟩ := G67.xA (m' := 30) (t' := 2752) 0 10 (by omega) rfl rfl
  obtain ⟨g69, e69, G69⟩ := G68.xR 28 1 0 29 rfl (by decide +kernel) rfl
  obtain ⟨g70, e70, G70⟩ := G69.xA (m' := 31) (t' := 2762) 0 10 (by omega) rfl rfl
  obtain ⟨g71, e71, G71⟩ := G70.xR 28 1 1 30 rfl (by decide +kernel) rfl
  obtain ⟨g72, e72, G72⟩ := G71.xA (m' := 32) (t' := 3402) 0 640 (by omega) rfl rfl
  obtain ⟨g73, e73, G73⟩ := G72.xR 28 1 2 31 rfl (by decide +kernel) rfl
  have EX1 : f_X1_init g67 (b + 28) = some g73 := by
    unfold f_X1_init
    exact bd2E e68 (bnd e69 (bd2E e70 (bnd e71 (bd2E e72 (bnd e73 (rfl))))))
  obtain ⟨g74, e74, G74⟩ := G73.xR 0 7 4 28 rfl (by decide +kernel) rfl
  obtain ⟨g75, e75, G75⟩ := G74.xA (m' := 33) (t' := 3412) 0 10 (by omega) rfl rfl
  obtain ⟨g76, e76, G76⟩ := G75.xR 0 7 5 32 rfl (by decide +kernel) rfl
  obtain ⟨g77, e77, G77⟩ := G76.xI 0 7 6 (0) rfl (by decide +kernel)
  obtain ⟨g78, e78, G78⟩ := G77.xI 0 7 7 (-1) rfl (by decide +kernel)
  obtain ⟨g79, e79, G79⟩ := G78.xI 0 7 8 (0) rfl (by decide +kernel)
  have E7 : f_X7_init g1 b = some g79 := by
    unfold f_X7_init
    exact (e2 _).trans (bnd EX8 (bnd e6 ((e7 _).trans (bnd EX3 (bnd e25 ((e26 _).trans (bnd EX0 (bnd e49 ((e50 _).trans (bnd EX5 (bnd e66 ((e67 _).trans (bnd EX1 (bnd e74 (bd2E e75 (bnd e76 (bnd e77 (bnd e78 (bnd e79 (rfl))))))))))))))))))))
  refine ⟨g1, g79, fun f => e1 f, E7, G79.1, G79.2.1, G79.2.2.1, G79.blk hb (by decide +kernel), PF1.to (fun o ho => ?_), ?_, G79.i 0 6 rfl rfl, G79.i 0 7 rfl rfl, G79.i 0 8 rfl rfl, G79.i 12 0 rfl rfl, G79.i 13 0 rfl rfl, G79.i 14 0 rfl rfl, G79.i 15 0 rfl rfl, G79.i 16 0 rfl rfl, G79.i 19 0 rfl rfl, G79.i 20 0 rfl rfl, fun s hs => ⟨G79.i 29 s rfl rfl, G79.i 30 s rfl rfl⟩⟩
  · have : o = 0 ∨ o = 1 ∨ o = 2 ∨ o = 3 ∨ o = 4 ∨ o = 5 ∨ o = 6 ∨ o = 7 := by omega
    rcases this with rfl | rfl | rfl | rfl | rfl | rfl | rfl | rfl
    · exact (G79.2.2.2.1 3 (by omega)).2.2.2
    · exact (G79.2.2.2.1 4 (by omega)).2.2.2
    · exact (G79.2.2.2.1 5 (by omega)).2.2.2
    · exact (G79.2.2.2.1 6 (by omega)).2.2.2
    · exact (G79.2.2.2.1 7 (by omega)).2.2.2
    · exact (G79.2.2.2.1 8 (by omega)).2.2.2
    · exact (G79.2.2.2.1 9 (by omega)).2.2.2
    · exact (G79.2.2.2.1 10 (by omega)).2.2.2
  · refine G79.i 1 1 rfl ?_
    show z_i g24 (b + 1) 1 = 0
    rw [SM.2.2.2 (b + 1) (by omega)]
    exact G23.i 1 1 rfl rfl
