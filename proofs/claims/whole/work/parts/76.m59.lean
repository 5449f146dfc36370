/-! both objects are made -/
theorem AL.ly {h0 h : Z_H} {t : Nat} {S : RSh} {J : RJt} (G : AL h0 h 0 72 t S J) (d : ∀ o, o < 72 → (S o).1 = kT o ∧ (S o).2.1 = lT o ∧ ∀ k, k < 26 → (S o).2.2 k = if o = 34 then none else rT o k) : LY h ∧ ∀ k, z_r h 34 k = none := by
  have key : ∀ o, o < 72 → z_k h o = kT o ∧ z_len h o = lT o ∧ ∀ k, z_r h o k = if o = 34 then none else rT o k := fun o ho => by
    obtain ⟨q1, q2, q3, q4⟩ := G.2.2.2.1 o ho
    rw [Nat.zero_add] at q1 q2 q3
    obtain ⟨d1, d2, d3⟩ := d o ho
    refine ⟨q1.trans d1, q2.trans d2, fun k => ?_⟩
    have id : ∀ x : Option Nat, x.map (fun q => 0 + q) = x := fun x => by
      cases x with
      | none => rfl
      | some q => exact congrArg some (Nat.zero_add q)
    rw [q3 k, id]
    rcases Nat.lt_or_ge k 26 with c | c
    · exact d3 k c
    · rw [G.2.2.2.2 o k c ho]
      obtain ⟨k', rfl⟩ : ∃ k', k = k' + 26 := ⟨k - 26, by omega⟩
      rw [rT_far]
      exact (ite_self _).symm
  refine ⟨⟨by rw [G.1]; omega, fun a ha => ?_⟩, fun k => ?_⟩
  · obtain ⟨k1, k2, k3⟩ := key a ha
    refine ⟨k1, k2, fun ne k => ?_⟩
    rw [k3 k, if_neg ne]
  · rw [(key 34 (by omega)).2.2 k, if_pos rfl]
theorem c_all {h : Z_H} (hn : z_n h = 0) (ht : z_t h = 0) : ∃ g1 g2 g3 g4, (∀ {β : Type} (f : Nat → Z_H → β), nw h 9 5 f = f 0 g1) ∧ f_X9_init g1 0 = some g2 ∧ (∀ {β : Type} (f : Nat → Z_H → β), nw g2 10 26 f = f 61 g3) ∧ f_X10_init g3 61 = some g4 ∧ Inv g4 := by
  generalize eb : z_n h = b at hn
  have G0 : AL h h b 0 0 sS0 jS0 := eb ▸ AL.nil
  obtain ⟨g1, e1, G1⟩ := G0.xW (m' := 1) (t' := 5) 9 5 rfl rfl
  obtain ⟨g2, e2, G2⟩ := G1.xW (m' := 2) (t' := 14) 7 9 rfl rfl
  obtain ⟨g3, e3, G3⟩ := G2.xW (m' := 3) (t' := 16) 8 2 rfl rfl
  obtain ⟨g4, e4, G4⟩ := G3.xA (m' := 4) (t' := 616) 1 600 (by omega) rfl rfl
  obtain ⟨g5, e5, G5⟩ := G4.xR 2 8 0 3 rfl (by decide +kernel) rfl
  obtain ⟨g6, e6, G6⟩ := G5.xI 2 8 1 (0) rfl (by decide +kernel)
  have EX8_1 : f_X8_init g3 (b + 2) = some g6 := by
    unfold f_X8_init
    exact bd2E e4 (bnd e5 (bnd e6 (rfl)))
  obtain ⟨g7, e7, G7⟩ := G6.xR 1 7 0 2 rfl (by decide +kernel) rfl
  obtain ⟨g8, e8, G8⟩ := G7.xW (m' := 5) (t' := 628) 3 12 rfl rfl
  obtain ⟨g9, e9, G9⟩ := G8.xA (m' := 6) (t' := 632) 0 4 (by omega) rfl rfl
  obtain ⟨g10, e10, G10⟩ := G9.xR 4 3 4 5 rfl (by decide +kernel) rfl
  obtain ⟨g11, e11, G11⟩ := G10.xA (m' := 7) (t' := 636) 0 4 (by omega) rfl rfl
  obtain ⟨g12, e12, G12⟩ := G11.xR 4 3 5 6 rfl (by decide +kernel) rfl
  obtain ⟨g13, e13, G13⟩ := G12.xA (m' := 8) (t' := 640) 0 4 (by omega) rfl rfl
  obtain ⟨g14, e14, G14⟩ := G13.xR 4 3 6 7 rfl (by decide +kernel) rfl
  obtain ⟨g15, e15, G15⟩ := G14.xA (m' := 9) (t' := 646) 0 6 (by omega) rfl rfl
  obtain ⟨g16, e16, G16⟩ := G15.xR 4 3 7 8 rfl (by decide +kernel) rfl
  obtain ⟨g17, e17, G17⟩ := G16.xA (m' := 10) (t' := 694) 0 48 (by omega) rfl rfl
  obtain ⟨g18, e18, G18⟩ := G17.xR 4 3 8 9 rfl (by decide +kernel) rfl
  obtain ⟨g19, e19, G19⟩ := G18.xA (m' := 11) (t' := 742) 0 48 (by omega) rfl rfl
  obtain ⟨g20, e20, G20⟩ := G19.xR 4 3 9 10 rfl (by decide +kernel) rfl
  obtain ⟨g21, e21, G21⟩ := G20.xA (m' := 12) (t' := 790) 0 48 (by omega) rfl rfl
  obtain ⟨g22, e22, G22⟩ := G21.xR 4 3 10 11 rfl (by decide +kernel) rfl
  obtain ⟨g23, e23, G23⟩ := G22.xA (m' := 13) (t' := 798) 0 8 (by omega) rfl rfl
  obtain ⟨g24, e24, G24⟩ := G23.xR 4 3 11 12 rfl (by decide +kernel) rfl
  have PBa : PLB g24 (b + 4) := ⟨G24.sh 4 rfl (by decide +kernel) (by decide +kernel), fun i hi => by
    have : i = 0 ∨ i = 1 ∨ i = 2 := by omega
    rcases this with rfl | rfl | rfl
    · exact G24.sh 5 rfl (by decide +kernel) (by decide +kernel)
    · exact G24.sh 6 rfl (by decide +kernel) (by decide +kernel)
    · exact G24.sh 7 rfl (by decide +kernel) (by decide +kernel)
    , G24.sh 8 rfl (by decide +kernel) (by decide +kernel), fun i hi => by
    have : i = 0 ∨ i = 1 ∨ i = 2 := by omega
    rcases this with rfl | rfl | rfl
    · exact G24.sh 9 rfl (by decide +kernel) (by decide +kernel)
    · exact G24.sh 10 rfl (by decide +kernel) (by decide +kernel)
    · exact G24.sh 11 rfl (by decide +kernel) (by decide +kernel)
    , G24.sh 12 rfl (by decide +kernel) (by decide +kernel), fun i hi => by
    have : i = 0 ∨ i = 1 ∨ i = 2 ∨ i = 3 ∨ i = 4 ∨ i = 5 ∨ i = 6 ∨ i = 7 := by omega
    rcases this with rfl | rfl | rfl | rfl | rfl | rfl | rfl | rfl
    · exact G24.r 4 4 5 rfl (by decide +kernel)
    · exact G24.r 4 5 6 rfl (by decide +kernel)
    · exact G24.r 4 6 7 rfl (by decide +kernel)
    · exact G24.r 4 7 8 rfl (by decide +kernel)
    · exact G24.r 4 8 9 rfl (by decide +kernel)
    · exact G24.r 4 9 10 rfl (by decide +kernel)
    · exact G24.r 4 10 11 rfl (by decide +kernel)
    · exact G24.r 4 11 12 rfl (by decide +kernel)
    ⟩
  obtain ⟨g25, e25, SMa, PF1a⟩ := c_setFirst PBa
  have G25 := G24.ints SMa.1 SMa.2.1 SMa.2.2.1 (fun a ha => SMa.2.2.2 a (by omega))
  have EX3_2 : f_X3_init g8 (b + 4) = some g25 := by
    unfold f_X3_init
    exact bd2E e9 (bnd e10 (bd2E e11 (bnd e12 (bd2E e13 (bnd e14 (bd2E e15 (bnd e16 (bd2E e17 (bnd e18 (bd2E e19 (bnd e20 (bd2E e21 (bnd e22 (bd2E e23 (bnd e24 (bnd e25 (rfl)))))))))))))))))
  obtain ⟨g26, e26, G26⟩ := G25.xR 1 7 1 4 rfl (by decide +kernel) rfl
  obtain ⟨g27, e27, G27⟩ := G26.xW (m' := 14) (t' := 806) 0 8 rfl rfl
  obtain ⟨g28, e28, G28⟩ := G27.xI 13 0 0 (1) rfl (by decide +kernel)
  obtain ⟨g29, e29, G29⟩ := G28.xA (m' := 15) (t' := 816) 0 10 (by omega) rfl rfl
  obtain ⟨g30, e30, G30⟩ := G29.xR 13 0 1 14 rfl (by decide +kernel) rfl
  obtain ⟨g31, e31, G31⟩ := G30.xA (m' := 16) (t' := 826) 0 10 (by omega) rfl rfl
  obtain ⟨g32, e32, G32⟩ := G31.xR 13 0 2 15 rfl (by decide +kernel) rfl
  obtain ⟨g33, e33, G33⟩ := G32.xA (m' := 17) (t' := 836) 0 10 (by omega) rfl rfl
  obtain ⟨g34, e34, G34⟩ := G33.xR 13 0 3 16 rfl (by decide +kernel) rfl
  obtain ⟨g35, e35, G35⟩ := G34.xA (m' := 18) (t' := 846) 0 10 (by omega) rfl rfl
  obtain ⟨g36, e36, G36⟩ := G35.xR 13 0 4 17 rfl (by decide +kernel) rfl
  obtain ⟨g37, e37, G37⟩ := G36.xA (m' := 19) (t' := 966) 0 120 (by omega) rfl rfl
  obtain ⟨g38, e38, G38⟩ := G37.xR 13 0 5 18 rfl (by decide +kernel) rfl
  obtain ⟨g39, e39, G39⟩ := G38.xA (m' := 20) (t' := 1086) 0 120 (by omega) rfl rfl
  obtain ⟨g40, e40, G40⟩ := G39.xR 13 0 6 19 rfl (by decide +kernel) rfl
  obtain ⟨g41, e41, G41⟩ := G40.xA (m' := 21) (t' := 1096) 0 10 (by omega) rfl rfl
  obtain ⟨g42, e42, G42⟩ := G41.xR 13 0 7 20 rfl (by decide +kernel) rfl
  obtain ⟨g43, e43, G43⟩ := G42.xI 13 0 0 (0) rfl (by decide +kernel)
  obtain ⟨g44, e44, G44⟩ := G43.xS 14 0 (0) rfl (by decide +kernel) (by decide +kernel) rfl
  obtain ⟨g45, e45, G45⟩ := G44.xS 15 0 (-1) rfl (by decide +kernel) (by decide +kernel) rfl
  obtain ⟨g46, e46, G46⟩ := G45.xS 16 0 (0) rfl (by decide +kernel) (by decide +kernel) rfl
  obtain ⟨g47, e47, G47⟩ := G46.xS 17 0 (0) rfl (by decide +kernel) (by decide +kernel) rfl
  obtain ⟨g48, e48, G48⟩ := G47.xS 20 0 (-1) rfl (by decide +kernel) (by decide +kernel) rfl
  obtain ⟨g49, e49, G49⟩ := G48.xI 13 0 0 (nI 0 + 1) rfl (by decide +kernel)
  have EA : f_X0_admit g43 (b + 13) (-1) 0 = some (nI 0, g49) := by
    unfold f_X0_admit
    exact gdE (G43.is 13 0 rfl (by decide +kernel)) (bnd (G43.rI 13 0 0 (v := nI 0) rfl (by decide +kernel) rfl) ((if_pos (by decide)).trans (bnd (G43.rR 13 0 1 14 rfl (by decide +kernel) (by decide +kernel)) (bnd e44 (bnd (G44.rR 13 0 2 15 rfl (by decide +kernel) (by decide +kernel)) (bnd e45 (bnd (G45.rR 13 0 3 16 rfl (by decide +kernel) (by decide +kernel)) (bnd e46 (bnd (G46.rR 13 0 4 17 rfl (by decide +kernel) (by decide +kernel)) (bnd e47 (bnd (G47.rR 13 0 7 20 rfl (by decide +kernel) (by decide +kernel)) (bnd e48 (bnd (G48.rI 13 0 0 (v := nI 0) rfl (by decide +kernel) rfl) (bnd e49 (rfl)))))))))))))))
  have EC : f_X0_clear g42 (b + 13) = some g49 := by
    unfold f_X0_clear
    exact gdE (G42.is 13 0 rfl (by decide +kernel)) (bnd e43 (bd2E EA rfl))
  have EX0_3 : f_X0_init g27 (b + 13) = some g49 := by
    unfold f_X0_init
    exact bnd e28 (bd2E e29 (bnd e30 (bd2E e31 (bnd e32 (bd2E e33 (bnd e34 (bd2E e35 (bnd e36 (bd2E e37 (bnd e38 (bd2E e39 (bnd e40 (bd2E e41 (bnd e42 (bnd EC (rfl))))))))))))))))
  obtain ⟨g50, e50, G50⟩ := G49.xR 1 7 2 13 rfl (by decide +kernel) rfl
  obtain ⟨g51, e51, G51⟩ := G50.xW (m' := 22) (t' := 1104) 5 8 rfl rfl
  obtain ⟨g52, e52, G52⟩ := G51.xI 21 5 0 (0) rfl (by decide +kernel)
  obtain ⟨g53, e53, G53⟩ := G52.xA (m' := 23) (t' := 1144) 0 40 (by omega) rfl rfl
  obtain ⟨g54, e54, G54⟩ := G53.xR 21 5 1 22 rfl (by decide +kernel) rfl
  obtain ⟨g55, e55, G55⟩ := G54.xA (m' := 24) (t' := 1184) 0 40 (by omega) rfl rfl
  obtain ⟨g56, e56, G56⟩ := G55.xR 21 5 2 23 rfl (by decide +kernel) rfl
  obtain ⟨g57, e57, G57⟩ := G56.xA (m' := 25) (t' := 1224) 0 40 (by omega) rfl rfl
  obtain ⟨g58, e58, G58⟩ := G57.xR 21 5 3 24 rfl (by decide +kernel) rfl
  obtain ⟨g59, e59, G59⟩ := G58.xA (m' := 26) (t' := 1264) 0 40 (by omega) rfl rfl
  obtain ⟨g60, e60, G60⟩ := G59.xR 21 5 4 25 rfl (by decide +kernel) rfl
  obtain ⟨g61, e61, G61⟩ := G60.xA (m' := 27) (t' := 1304) 0 40 (by omega) rfl rfl
  obtain ⟨g62, e62, G62⟩ := G61.xR 21 5 5 26 rfl (by decide +kernel) rfl
  obtain ⟨g63, e63, G63⟩ := G62.xA (m' := 28) (t' := 1344) 0 40 (by omega) rfl rfl
  obtain ⟨g64, e64, G64⟩ := G63.xR 21 5 6 27 rfl (by decide +kernel) rfl
  obtain ⟨g65, e65, G65⟩ := G64.xA (m' := 29) (t' := 2744) 0 1400 (by omega) rfl rfl
  obtain ⟨g66, e66, G66⟩ := G65.xR 21 5 7 28 rfl (by decide +kernel) rfl
  have EX5_4 : f_X5_init g51 (b + 21) = some g66 := by
    unfold f_X5_init
    exact bnd e52 (bd2E e53 (bnd e54 (bd2E e55 (bnd e56 (bd2E e57 (bnd e58 (bd2E e59 (bnd e60 (bd2E e61 (bnd e62 (bd2E e63 (bnd e64 (bd2E e65 (bnd e66 (rfl)))))))))))))))
  obtain ⟨g67, e67, G67⟩ := G66.xR 1 7 3 21 rfl (by decide +kernel) rfl
  obtain ⟨g68, e68, G68⟩ := G67.xW (m' := 30) (t' := 2747) 1 3 rfl rfl
  obtain ⟨g69, e69, G69⟩ := G68.xA (m' := 31) (t' := 2757) 0 10 (by omega) rfl rfl
  obtain ⟨g70, e70, G70⟩ := G69.xR 29 1 0 30 rfl (by decide +kernel) rfl
  obtain ⟨g71, e71, G71⟩ := G70.xA (m' := 32) (t' := 2767) 0 10 (by omega) rfl rfl
  obtain ⟨g72, e72, G72⟩ := G71.xR 29 1 1 31 rfl (by decide +kernel) rfl
  obtain ⟨g73, e73, G73⟩ := G72.xA (m' := 33) (t' := 3407) 0 640 (by omega) rfl rfl
  obtain ⟨g74, e74, G74⟩ := G73.xR 29 1 2 32 rfl (by decide +kernel) rfl
  have EX1_5 : f_X1_init g68 (b + 29) = some g74 := by
    unfold f_X1_init
    exact bd2E e69 (bnd e70 (bd2E e71 (bnd e72 (bd2E e73 (bnd e74 (rfl))))))
  obtain ⟨g75, e75, G75⟩ := G74.xR 1 7 4 29 rfl (by decide +kernel) rfl
  obtain ⟨g76, e76, G76⟩ := G75.xA (m' := 34) (t' := 3417) 0 10 (by omega) rfl rfl
  obtain ⟨g77, e77, G77⟩ := G76.xR 1 7 5 33 rfl (by decide +kernel) rfl
  obtain ⟨g78, e78, G78⟩ := G77.xI 1 7 6 (0) rfl (by decide +kernel)
  obtain ⟨g79, e79, G79⟩ := G78.xI 1 7 7 (-1) rfl (by decide +kernel)
  obtain ⟨g80, e80, G80⟩ := G79.xI 1 7 8 (0) rfl (by decide +kernel)
  have EX7_6 : f_X7_init g2 (b + 1) = some g80 := by
    unfold f_X7_init
    exact (e3 _).trans (bnd EX8_1 (bnd e7 ((e8 _).trans (bnd EX3_2 (bnd e26 ((e27 _).trans (bnd EX0_3 (bnd e50 ((e51 _).trans (bnd EX5_4 (bnd e67 ((e68 _).trans (bnd EX1_5 (bnd e75 (bd2E e76 (bnd e77 (bnd e78 (bnd e79 (bnd e80 (rfl))))))))))))))))))))
  obtain ⟨g81, e81, G81⟩ := G80.xR 0 9 0 1 rfl (by decide +kernel) rfl
  obtain ⟨g82, e82, G82⟩ := G81.xA (m' := 35) (t' := 3420) 3 3 (by omega) rfl rfl
  obtain ⟨g83, e83, G83⟩ := G82.xR 0 9 1 34 rfl (by decide +kernel) rfl
  obtain ⟨g84, e84, G84⟩ := G83.xW (m' := 36) (t' := 3431) 4 11 rfl rfl
  obtain ⟨g85, e85, G85⟩ := G84.xW (m' := 37) (t' := 3443) 3 12 rfl rfl
  obtain ⟨g86, e86, G86⟩ := G85.xA (m' := 38) (t' := 3447) 0 4 (by omega) rfl rfl
  obtain ⟨g87, e87, G87⟩ := G86.xR 36 3 4 37 rfl (by decide +kernel) rfl
  obtain ⟨g88, e88, G88⟩ := G87.xA (m' := 39) (t' := 3451) 0 4 (by omega) rfl rfl
  obtain ⟨g89, e89, G89⟩ := G88.xR 36 3 5 38 rfl (by decide +kernel) rfl
  obtain ⟨g90, e90, G90⟩ := G89.xA (m' := 40) (t' := 3455) 0 4 (by omega) rfl rfl
  obtain ⟨g91, e91, G91⟩ := G90.xR 36 3 6 39 rfl (by decide +kernel) rfl
  obtain ⟨g92, e92, G92⟩ := G91.xA (m' := 41) (t' := 3461) 0 6 (by omega) rfl rfl
  obtain ⟨g93, e93, G93⟩ := G92.xR 36 3 7 40 rfl (by decide +kernel) rfl
  obtain ⟨g94, e94, G94⟩ := G93.xA (m' := 42) (t' := 3509) 0 48 (by omega) rfl rfl
  obtain ⟨g95, e95, G95⟩ := G94.xR 36 3 8 41 rfl (by decide +kernel) rfl
  obtain ⟨g96, e96, G96⟩ := G95.xA (m' := 43) (t' := 3557) 0 48 (by omega) rfl rfl
  obtain ⟨g97, e97, G97⟩ := G96.xR 36 3 9 42 rfl (by decide +kernel) rfl
  obtain ⟨g98, e98, G98⟩ := G97.xA (m' := 44) (t' := 3605) 0 48 (by omega) rfl rfl
  obtain ⟨g99, e99, G99⟩ := G98.xR 36 3 10 43 rfl (by decide +kernel) rfl
  obtain ⟨g100, e100, G100⟩ := G99.xA (m' := 45) (t' := 3613) 0 8 (by omega) rfl rfl
  obtain ⟨g101, e101, G101⟩ := G100.xR 36 3 11 44 rfl (by decide +kernel) rfl
  have PBb : PLB g101 (b + 36) := ⟨G101.sh 36 rfl (by decide +kernel) (by decide +kernel), fun i hi => by
    have : i = 0 ∨ i = 1 ∨ i = 2 := by omega
    rcases this with rfl | rfl | rfl
    · exact G101.sh 37 rfl (by decide +kernel) (by decide +kernel)
    · exact G101.sh 38 rfl (by decide +kernel) (by decide +kernel)
    · exact G101.sh 39 rfl (by decide +kernel) (by decide +kernel)
    , G101.sh 40 rfl (by decide +kernel) (by decide +kernel), fun i hi => by
    have : i = 0 ∨ i = 1 ∨ i = 2 := by omega
    rcases this with rfl | rfl | rfl
    · exact G101.sh 41 rfl (by decide +kernel) (by decide +kernel)
    · exact G101.sh 42 rfl (by decide +kernel) (by decide +kernel)
    · exact G101.sh 43 rfl (by decide +kernel) (by decide +kernel)
    , G101.sh 44 rfl (by decide +kernel) (by decide +kernel), fun i hi => by
    have : i = 0 ∨ i = 1 ∨ i = 2 ∨ i = 3 ∨ i = 4 ∨ i = 5 ∨ i = 6 ∨ i = 7 := by omega
    rcases this with rfl | rfl | rfl | rfl | rfl | rfl | rfl | rfl
    · exact G101.r 36 4 37 rfl (by decide +kernel)
    · exact G101.r 36 5 38 rfl (by decide +kernel)
    · exact G101.r 36 6 39 rfl (by decide +kernel)
    · exact G101.r 36 7 40 rfl (by decide +kernel)
    · exact G101.r 36 8 41 rfl (by decide +kernel)
    · exact G101.r 36 9 42 rfl (by decide +kernel)
    · exact G101.r 36 10 43 rfl (by decide +kernel)
    · exact G101.r 36 11 44 rfl (by decide +kernel)
    ⟩
  obtain ⟨g102, e102, SMb, PF1b⟩ := c_setFirst PBb
  have G102 := G101.ints SMb.1 SMb.2.1 SMb.2.2.1 (fun a ha => SMb.2.2.2 a (by omega))
  have EX3_7 : f_X3_init g85 (b + 36) = some g102 := by
    unfold f_X3_init
    exact bd2E e86 (bnd e87 (bd2E e88 (bnd e89 (bd2E e90 (bnd e91 (bd2E e92 (bnd e93 (bd2E e94 (bnd e95 (bd2E e96 (bnd e97 (bd2E e98 (bnd e99 (bd2E e100 (bnd e101 (bnd e102 (rfl)))))))))))))))))
  obtain ⟨g103, e103, G103⟩ := G102.xR 35 4 0 36 rfl (by decide +kernel) rfl
  obtain ⟨g104, e104, G104⟩ := G103.xW (m' := 46) (t' := 3615) 8 2 rfl rfl
  obtain ⟨g105, e105, G105⟩ := G104.xA (m' := 47) (t' := 4215) 1 600 (by omega) rfl rfl
  obtain ⟨g106, e106, G106⟩ := G105.xR 45 8 0 46 rfl (by decide +kernel) rfl
  obtain ⟨g107, e107, G107⟩ := G106.xI 45 8 1 (0) rfl (by decide +kernel)
  have EX8_8 : f_X8_init g104 (b + 45) = some g107 := by
    unfold f_X8_init
    exact bd2E e105 (bnd e106 (bnd e107 (rfl)))
  obtain ⟨g108, e108, G108⟩ := G107.xR 35 4 1 45 rfl (by decide +kernel) rfl
  obtain ⟨g109, e109, G109⟩ := G108.xA (m' := 48) (t' := 4816) 0 601 (by omega) rfl rfl
  obtain ⟨g110, e110, G110⟩ := G109.xR 35 4 2 47 rfl (by decide +kernel) rfl
  obtain ⟨g111, e111, G111⟩ := G110.xA (m' := 49) (t' := 5417) 0 601 (by omega) rfl rfl
  obtain ⟨g112, e112, G112⟩ := G111.xR 35 4 3 48 rfl (by decide +kernel) rfl
  obtain ⟨g113, e113, G113⟩ := G112.xA (m' := 50) (t' := 6018) 0 601 (by omega) rfl rfl
  obtain ⟨g114, e114, G114⟩ := G113.xR 35 4 4 49 rfl (by decide +kernel) rfl
  obtain ⟨g115, e115, G115⟩ := G114.xI 35 4 5 (0) rfl (by decide +kernel)
  obtain ⟨g116, e116, G116⟩ := G115.xI 35 4 6 (0) rfl (by decide +kernel)
  obtain ⟨g117, e117, G117⟩ := G116.xI 35 4 7 (0) rfl (by decide +kernel)
  obtain ⟨g118, e118, G118⟩ := G117.xI 35 4 8 (-1) rfl (by decide +kernel)
  obtain ⟨g119, e119, G119⟩ := G118.xI 35 4 9 (0) rfl (by decide +kernel)
  obtain ⟨g120, e120, G120⟩ := G119.xI 35 4 10 (-1) rfl (by decide +kernel)
  have EX4_9 : f_X4_init g84 (b + 35) = some g120 := by
    unfold f_X4_init
    exact (e85 _).trans (bnd EX3_7 (bnd e103 ((e104 _).trans (bnd EX8_8 (bnd e108 (bd2E e109 (bnd e110 (bd2E e111 (bnd e112 (bd2E e113 (bnd e114 (bnd e115 (bnd e116 (bnd e117 (bnd e118 (bnd e119 (bnd e120 (rfl))))))))))))))))))
  obtain ⟨g121, e121, G121⟩ := G120.xR 0 9 2 35 rfl (by decide +kernel) rfl
  obtain ⟨g122, e122, G122⟩ := G121.xW (m' := 51) (t' := 6031) 6 13 rfl rfl
  obtain ⟨g123, e123, G123⟩ := G122.xA (m' := 52) (t' := 6042) 0 11 (by omega) rfl rfl
  obtain ⟨g124, e124, G124⟩ := G123.xR 50 6 0 51 rfl (by decide +kernel) rfl
  obtain ⟨g125, e125, G125⟩ := G124.xA (m' := 53) (t' := 6053) 0 11 (by omega) rfl rfl
  obtain ⟨g126, e126, G126⟩ := G125.xR 50 6 1 52 rfl (by decide +kernel) rfl
  obtain ⟨g127, e127, G127⟩ := G126.xA (m' := 54) (t' := 6064) 0 11 (by omega) rfl rfl
  obtain ⟨g128, e128, G128⟩ := G127.xR 50 6 2 53 rfl (by decide +kernel) rfl
  obtain ⟨g129, e129, G129⟩ := G128.xA (m' := 55) (t' := 6075) 0 11 (by omega) rfl rfl
  obtain ⟨g130, e130, G130⟩ := G129.xR 50 6 3 54 rfl (by decide +kernel) rfl
  obtain ⟨g131, e131, G131⟩ := G130.xA (m' := 56) (t' := 6086) 0 11 (by omega) rfl rfl
  obtain ⟨g132, e132, G132⟩ := G131.xR 50 6 4 55 rfl (by decide +kernel) rfl
  obtain ⟨g133, e133, G133⟩ := G132.xA (m' := 57) (t' := 6097) 0 11 (by omega) rfl rfl
  obtain ⟨g134, e134, G134⟩ := G133.xR 50 6 5 56 rfl (by decide +kernel) rfl
  obtain ⟨g135, e135, G135⟩ := G134.xA (m' := 58) (t' := 6108) 0 11 (by omega) rfl rfl
  obtain ⟨g136, e136, G136⟩ := G135.xR 50 6 6 57 rfl (by decide +kernel) rfl
  obtain ⟨g137, e137, G137⟩ := G136.xA (m' := 59) (t' := 6119) 0 11 (by omega) rfl rfl
  obtain ⟨g138, e138, G138⟩ := G137.xR 50 6 7 58 rfl (by decide +kernel) rfl
  obtain ⟨g139, e139, G139⟩ := G138.xI 50 6 8 (0) rfl (by decide +kernel)
  obtain ⟨g140, e140, G140⟩ := G139.xI 50 6 9 (0) rfl (by decide +kernel)
  obtain ⟨g141, e141, G141⟩ := G140.xI 50 6 10 (0) rfl (by decide +kernel)
  obtain ⟨g142, e142, G142⟩ := G141.xI 50 6 11 (0) rfl (by decide +kernel)
  obtain ⟨g143, e143, G143⟩ := G142.xI 50 6 12 (0) rfl (by decide +kernel)
  have EX6_10 : f_X6_init g122 (b + 50) = some g143 := by
    unfold f_X6_init
    exact bd2E e123 (bnd e124 (bd2E e125 (bnd e126 (bd2E e127 (bnd e128 (bd2E e129 (bnd e130 (bd2E e131 (bnd e132 (bd2E e133 (bnd e134 (bd2E e135 (bnd e136 (bd2E e137 (bnd e138 (bnd e139 (bnd e140 (bnd e141 (bnd e142 (bnd e143 (rfl)))))))))))))))))))))
  obtain ⟨g144, e144, G144⟩ := G143.xR 0 9 3 50 rfl (by decide +kernel) rfl
  obtain ⟨g145, e145, G145⟩ := G144.xW (m' := 60) (t' := 6121) 2 2 rfl rfl
  obtain ⟨g146, e146, G146⟩ := G145.xI 59 2 0 (0) rfl (by decide +kernel)
  obtain ⟨g147, e147, G147⟩ := G146.xA (m' := 61) (t' := 6156) 0 35 (by omega) rfl rfl
  obtain ⟨g148, e148, G148⟩ := G147.xR 59 2 1 60 rfl (by decide +kernel) rfl
  have EX2_11 : f_X2_init g145 (b + 59) = some g148 := by
    unfold f_X2_init
    exact bnd e146 (bd2E e147 (bnd e148 (rfl)))
  obtain ⟨g149, e149, G149⟩ := G148.xR 0 9 4 59 rfl (by decide +kernel) rfl
  have E9 : f_X9_init g1 (b + 0) = some g149 := by
    unfold f_X9_init
    exact (e2 _).trans (bnd EX7_6 (bnd e81 (bd2E e82 (bnd e83 ((e84 _).trans (bnd EX4_9 (bnd e121 ((e122 _).trans (bnd EX6_10 (bnd e144 ((e145 _).trans (bnd EX2_11 (bnd e149 (rfl))))))))))))))
  obtain ⟨g150, e150, G150⟩ := G149.xW (m' := 62) (t' := 6182) 10 26 rfl rfl
  obtain ⟨g151, e151, G151⟩ := G150.xA (m' := 63) (t' := 17090) 0 10908 (by omega) rfl rfl
  obtain ⟨g152, e152, G152⟩ := G151.xR 61 10 1 62 rfl (by decide +kernel) rfl
  obtain ⟨g153, e153, G153⟩ := G152.xA (m' := 64) (t' := 19490) 1 2400 (by omega) rfl rfl
  obtain ⟨g154, e154, G154⟩ := G153.xR 61 10 2 63 rfl (by decide +kernel) rfl
  obtain ⟨g155, e155, G155⟩ := G154.xA (m' := 65) (t' := 19637) 0 147 (by omega) rfl rfl
  obtain ⟨g156, e156, G156⟩ := G155.xR 61 10 12 64 rfl (by decide +kernel) rfl
  obtain ⟨g157, e157, G157⟩ := G156.xA (m' := 66) (t' := 19640) 0 3 (by omega) rfl rfl
  obtain ⟨g158, e158, G158⟩ := G157.xR 61 10 13 65 rfl (by decide +kernel) rfl
  obtain ⟨g159, e159, G159⟩ := G158.xI 61 10 14 (-1) rfl (by decide +kernel)
  obtain ⟨g160, e160, G160⟩ := G159.xA (m' := 67) (t' := 19651) 0 11 (by omega) rfl rfl
  obtain ⟨g161, e161, G161⟩ := G160.xR 61 10 17 66 rfl (by decide +kernel) rfl
  obtain ⟨g162, e162, G162⟩ := G161.xA (m' := 68) (t' := 19662) 2 11 (by omega) rfl rfl
  obtain ⟨g163, e163, G163⟩ := G162.xR 61 10 18 67 rfl (by decide +kernel) rfl
  obtain ⟨g164, e164, G164⟩ := G163.xA (m' := 69) (t' := 20762) 0 1100 (by omega) rfl rfl
  obtain ⟨g165, e165, G165⟩ := G164.xR 61 10 21 68 rfl (by decide +kernel) rfl
  obtain ⟨g166, e166, G166⟩ := G165.xA (m' := 70) (t' := 20771) 0 9 (by omega) rfl rfl
  obtain ⟨g167, e167, G167⟩ := G166.xR 61 10 22 69 rfl (by decide +kernel) rfl
  obtain ⟨g168, e168, G168⟩ := G167.xA (m' := 71) (t' := 20806) 0 35 (by omega) rfl rfl
  obtain ⟨g169, e169, G169⟩ := G168.xR 61 10 23 70 rfl (by decide +kernel) rfl
  obtain ⟨g170, e170, G170⟩ := G169.xA (m' := 72) (t' := 20809) 2 3 (by omega) rfl rfl
  obtain ⟨g171, e171, G171⟩ := G170.xR 61 10 25 71 rfl (by decide +kernel) rfl
  obtain ⟨g172, e172, G172⟩ := G171.xS 62 2 (-1) rfl (by decide +kernel) (by decide +kernel) rfl
  subst hn
  obtain ⟨LYF, n34⟩ := G172.ly (by decide +kernel)
  obtain ⟨q1, a1, a2, a3⟩ := e_atFirst LYF
  obtain ⟨q2, b1, b2, b3⟩ := e_taken (a2.ly LYF)
  have E10 : f_X10_init g150 61 = some q2 := by
    unfold f_X10_init
    exact bd2E e151 (bnd e152 (bd2E e153 (bnd e154 (bd2E e155 (bnd e156 (bd2E e157 (bnd e158 (bnd e159 (bd2E e160 (bnd e161 (bd2E e162 (bnd e163 (bd2E e164 (bnd e165 (bd2E e166 (bnd e167 (bd2E e168 (bnd e169 (bd2E e170 (bnd e171 (bnd (G171.rR 61 10 1 62 rfl (by decide +kernel) (by decide +kernel)) (bnd e172 (bnd a1 (bnd b1 (rfl)))))))))))))))))))))))))
  have on : ∀ a, a ≠ 62 → a ≠ 64 → z_i q2 a = z_i g172 a := fun a h1 h2 => (b2.2.2.2 a h1 h1).trans (a2.2.2.2 a h2 h2)
  have on' : ∀ a k v, a ≠ 62 → a ≠ 64 → z_i g172 a k = v → z_i q2 a k = v := fun a k v h1 h2 e => by rw [on a h1 h2]; exact e
  have l0 : ∀ o, o < 8 → z_i q2 (4 + o) = z_i g25 (4 + o) := fun o ho => by
    have : o = 0 ∨ o = 1 ∨ o = 2 ∨ o = 3 ∨ o = 4 ∨ o = 5 ∨ o = 6 ∨ o = 7 := by omega
    rcases this with rfl | rfl | rfl | rfl | rfl | rfl | rfl | rfl
    · exact (on 4 (by omega) (by omega)).trans ((G172.2.2.2.1 4 (by omega)).2.2.2.trans ((SMb.2.2.2 (0 + 4) (by omega)).trans (G101.2.2.2.1 4 (by omega)).2.2.2))
    · exact (on 5 (by omega) (by omega)).trans ((G172.2.2.2.1 5 (by omega)).2.2.2.trans ((SMb.2.2.2 (0 + 5) (by omega)).trans (G101.2.2.2.1 5 (by omega)).2.2.2))
    · exact (on 6 (by omega) (by omega)).trans ((G172.2.2.2.1 6 (by omega)).2.2.2.trans ((SMb.2.2.2 (0 + 6) (by omega)).trans (G101.2.2.2.1 6 (by omega)).2.2.2))
    · exact (on 7 (by omega) (by omega)).trans ((G172.2.2.2.1 7 (by omega)).2.2.2.trans ((SMb.2.2.2 (0 + 7) (by omega)).trans (G101.2.2.2.1 7 (by omega)).2.2.2))
    · exact (on 8 (by omega) (by omega)).trans ((G172.2.2.2.1 8 (by omega)).2.2.2.trans ((SMb.2.2.2 (0 + 8) (by omega)).trans (G101.2.2.2.1 8 (by omega)).2.2.2))
    · exact (on 9 (by omega) (by omega)).trans ((G172.2.2.2.1 9 (by omega)).2.2.2.trans ((SMb.2.2.2 (0 + 9) (by omega)).trans (G101.2.2.2.1 9 (by omega)).2.2.2))
    · exact (on 10 (by omega) (by omega)).trans ((G172.2.2.2.1 10 (by omega)).2.2.2.trans ((SMb.2.2.2 (0 + 10) (by omega)).trans (G101.2.2.2.1 10 (by omega)).2.2.2))
    · exact (on 11 (by omega) (by omega)).trans ((G172.2.2.2.1 11 (by omega)).2.2.2.trans ((SMb.2.2.2 (0 + 11) (by omega)).trans (G101.2.2.2.1 11 (by omega)).2.2.2))
  have pf : PF q2 (1 + 3) := PF1a.to l0
  have t0 : z_i q2 2 1 = 0 := on' 2 1 0 (by omega) (by omega) (G172.i 2 1 rfl (show z_i g102 (0 + 2) 1 = 0 from (congrFun (SMb.2.2.2 (0 + 2) (by omega)) 1).trans (G101.i 2 1 rfl (show z_i g25 (0 + 2) 1 = 0 from (congrFun (SMa.2.2.2 (0 + 2) (by omega)) 1).trans (G24.i 2 1 rfl rfl)))))
  have A0 : z_i q1 62 0 = 0 := (congrFun (a2.2.2.2 62 (by omega) (by omega)) 0).trans (G172.i 62 0 rfl rfl)
  have A1 : z_i q1 62 1 = 0 := (congrFun (a2.2.2.2 62 (by omega) (by omega)) 1).trans (G172.i 62 1 rfl rfl)
  have A2 : z_i q1 62 2 = -1 := (congrFun (a2.2.2.2 62 (by omega) (by omega)) 2).trans (G172.i 62 2 rfl rfl)
  have nt0 : nt (z_i q1 62) = 0 := by unfold nt; rw [A0]; rfl
  have kv : ∀ j, 3 ≤ j → j < 144 → z_i q1 64 j = atK j := fun j h1 h2 => a3 j h1 (by omega)
  have fc : FC (cl q2) := ⟨on' 13 0 (1) (by omega) (by omega) (G172.i 13 0 rfl (show z_i g102 (0 + 13) 0 = 1 from (congrFun (SMb.2.2.2 (0 + 13) (by omega)) 0).trans (G101.i 13 0 rfl rfl))), on' 1 8 (0) (by omega) (by omega) (G172.i 1 8 rfl (show z_i g102 (0 + 1) 8 = 0 from (congrFun (SMb.2.2.2 (0 + 1) (by omega)) 8).trans (G101.i 1 8 rfl rfl))), on' 14 0 (0) (by omega) (by omega) (G172.i 14 0 rfl (show z_i g102 (0 + 14) 0 = 0 from (congrFun (SMb.2.2.2 (0 + 14) (by omega)) 0).trans (G101.i 14 0 rfl rfl))), on' 15 0 (-1) (by omega) (by omega) (G172.i 15 0 rfl (show z_i g102 (0 + 15) 0 = -1 from (congrFun (SMb.2.2.2 (0 + 15) (by omega)) 0).trans (G101.i 15 0 rfl rfl))), on' 16 0 (0) (by omega) (by omega) (G172.i 16 0 rfl (show z_i g102 (0 + 16) 0 = 0 from (congrFun (SMb.2.2.2 (0 + 16) (by omega)) 0).trans (G101.i 16 0 rfl rfl))), on' 17 0 (0) (by omega) (by omega) (G172.i 17 0 rfl (show z_i g102 (0 + 17) 0 = 0 from (congrFun (SMb.2.2.2 (0 + 17) (by omega)) 0).trans (G101.i 17 0 rfl rfl))), on' 20 0 (-1) (by omega) (by omega) (G172.i 20 0 rfl (show z_i g102 (0 + 20) 0 = -1 from (congrFun (SMb.2.2.2 (0 + 20) (by omega)) 0).trans (G101.i 20 0 rfl rfl))), on' 21 0 (0) (by omega) (by omega) (G172.i 21 0 rfl (show z_i g102 (0 + 21) 0 = 0 from (congrFun (SMb.2.2.2 (0 + 21) (by omega)) 0).trans (G101.i 21 0 rfl rfl))), fun s hs => ⟨on' 30 s (0) (by omega) (by omega) (G172.i 30 s rfl (show z_i g102 (0 + 30) s = 0 from (congrFun (SMb.2.2.2 (0 + 30) (by omega)) s).trans (G101.i 30 s rfl rfl))), on' 31 s (0) (by omega) (by omega) (G172.i 31 s rfl (show z_i g102 (0 + 31) s = 0 from (congrFun (SMb.2.2.2 (0 + 31) (by omega)) s).trans (G101.i 31 s rfl rfl)))⟩⟩
  have f6 : z_i q2 1 6 = 0 := on' 1 6 (0) (by omega) (by omega) (G172.i 1 6 rfl (show z_i g102 (0 + 1) 6 = 0 from (congrFun (SMb.2.2.2 (0 + 1) (by omega)) 6).trans (G101.i 1 6 rfl rfl)))
  have f7 : z_i q2 1 7 = -1 := on' 1 7 (-1) (by omega) (by omega) (G172.i 1 7 rfl (show z_i g102 (0 + 1) 7 = -1 from (congrFun (SMb.2.2.2 (0 + 1) (by omega)) 7).trans (G101.i 1 7 rfl rfl)))
  have xr : ∀ k, z_r q2 34 k = none := fun k => by
    have : z_x q2 = z_x g172 := b2.2.2.1.trans a2.2.2.1
    unfold z_r
    rw [this]
    exact n34 k
  have v71 : ∀ k, z_i q2 71 k = 0 := fun k => on' 71 k 0 (by omega) (by omega) (G172.i 71 k rfl rfl)
  refine ⟨g1, g149, g150, q2, fun f => e1 f, E9, fun f => e150 f, E10, b2.ly (a2.ly LYF), ?_, ?_, ?_⟩
  · rw [b3]
    exact RS_fresh (VP_congr kv VP_at) ((a3 144 (by omega) (by omega)).trans atK_p.2.2.2.1) ((a3 146 (by omega) (by omega)).trans atK_p.2.2.2.2) (RCp_congr kv VP_at (RCp_at (p := 1) pf)) fc ⟨by omega, by rw [nt0]; exact A0, fun i hi => by omega⟩ ⟨t0.trans A0.symm, f6.trans A1.symm, f7.trans A2.symm, fun i hi => by omega⟩
  · exact on' 61 14 (-1) (by omega) (by omega) (G172.i 61 14 rfl rfl)
  · refine ⟨fun k hk => Or.inl ⟨v71 k, xr k⟩, fun k k' b b' _ _ _ e => ?_, ?_, ?_⟩
    · rw [xr k] at e
      cases e
    · rw [v71 0, v71 1, v71 2]
      exact (b2.1.trans a2.1).trans G172.1
    · rw [v71 0, v71 1, v71 2]
      refine (b2.2.1.trans a2.2.1).trans (G172.2.1.trans ?_)
      rw [ht]
      rfl
