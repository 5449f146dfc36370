/-- the scene with one more sale of s -/
def scS (S : Sn) (s : Nat) (a : Int32) : Sn := (S.1, sP S, sT S, sG S, (fun t => if t = s then sO S t + a else sO S t), (fun t => if t = s then sV S t + a else sV S t))
/-- the scene with one more seller under p, who sells -/
def scN (S : Sn) (p : Nat) (a : Int32) : Sn := (S.1 + 1, (fun t => if t = S.1 then some p else sP S t), (fun t => if t = S.1 then true else sT S t), (fun t => if t = S.1 then false else sG S t), (fun t => if t = S.1 then a else sO S t), (fun t => if t = S.1 then a else sV S t))
theorem scS_ok {S : Sn} {s : Nat} {a : Int32} (h : SOK S) : SOK (scS S s a) := h
theorem scN_ok {S : Sn} {p : Nat} {a : Int32} (h : SOK S) (hn : S.1 ≤ 10) (hp : p < S.1) (hT : sT S p = true) : SOK (scN S p a) := by
  obtain ⟨h1, ⟨h2, h3⟩, h4⟩ := h
  have ne : ∀ t, t < S.1 → t ≠ S.1 := fun t ht => by omega
  refine ⟨by show S.1 + 1 ≤ 11; omega, ⟨fun s q hs e => ?_, fun s hs => ?_⟩, fun s q hs ht e => ?_⟩
  · have e : (if s = S.1 then some p else sP S s) = some q := e
    show q < S.1 + 1
    by_cases c : s = S.1
    · rw [if_pos c] at e; cases e; omega
    · rw [if_neg c] at e
      have hs : s < S.1 + 1 := hs
      have := h2 s q (by omega) e
      omega
  · have key : ∀ k s, s < S.1 → upk (sP (scN S p a)) k s = upk (sP S) k s := upk_congr (fun s hs => if_neg (ne s hs)) (fun s q hs e => h2 s q hs e)
    show upk (sP (scN S p a)) (S.1 + 1) s = none
    by_cases c : s = S.1
    · show ((if s = S.1 then some p else sP S s)).bind (upk (sP (scN S p a)) S.1) = none
      rw [if_pos c]
      show upk (sP (scN S p a)) S.1 p = none
      rw [key _ _ hp]
      exact h3 p hp
    · have hs : s < S.1 + 1 := hs
      rw [key _ _ (by omega)]
      exact upk_mono (h3 s (by omega)) (by omega)
  · have e : (if s = S.1 then some p else sP S s) = some q := e
    have ht : (if s = S.1 then true else sT S s) = true := ht
    show (if q = S.1 then true else sT S q) = true
    by_cases c : s = S.1
    · rw [if_pos c] at e
      cases e
      rw [if_neg (ne p hp)]
      exact hT
    · rw [if_neg c] at e ht
      have hs : s < S.1 + 1 := hs
      rw [if_neg (ne q (h2 s q (by omega) e))]
      exact h4 s q (by omega) ht e
theorem LK.pl {c : Nat → Nat → Int32} {A : Nat → Int32} (L : LK c A) : (∀ r, r < 4 → c 4 r = A (7 + r)) ∧ (∀ r, r < 4 → c 5 r = A (11 + r)) ∧ (∀ r, r < 4 → c 6 r = A (15 + r)) ∧ c 3 0 = A 3 ∧ c 3 1 = A 4 := by
  obtain ⟨r1, r2, r3⟩ := L.2.2.2.2.2.2.1
  exact ⟨fun r hr => (r2 r hr).1, fun r hr => (r2 r hr).2.1, fun r hr => (r2 r hr).2.2, r1 0 (by omega), r1 1 (by omega)⟩
theorem c_look {h : Z_H} (H : LY h) {A : Nat → Int32} {m : Nat} (hm : m ≤ 99) (L : LK (cl h) A) : ∃ h', f_X6_look h 50 1 (nI m) = some h' ∧ SCW h h' ∧ Lay h' (sc0 A m) m ∧ Scn h' A (sc0 A m) := by
  obtain ⟨g, e1, w1, l1, l2⟩ := c_lay H hm L
  have G := w1.ly H
  obtain ⟨p1, p2, -, p3, -⟩ := (w1.lk L).pl
  obtain ⟨q, e2, w2, l3, l4⟩ := c_settle (A := A) G (L.ok hm) p1 p2 p3 l1 l2
  refine ⟨q, ?_, w1.tr w2, l3, l4⟩
  unfold f_X6_look
  simp (disch := first | assumption | omega) only [gd, lt, jn, bd2, Option.bind_some, LY_si, LY_sl, LY_row, decide_true, decide_false, if_true, ite_true, ite_false, decide_eq_true_eq, yg0, yg1, yg2, yg4, yg13, yg21, yg29, yg35, yg36, yg45, yg50, yg59, yI0, yI1, yI2, yI4, yI13, yI21, yI29, yI35, yI36, yI45, yI50, yI59, yP0, yP1, yP2, yP4, yP13, yP21, yP29, yP35, yP36, yP45, yP50, yP59, yR0_0, yR0_1, yR0_2, yR0_3, yR0_4, yR1_0, yR1_1, yR1_2, yR1_3, yR1_4, yR1_5, yR2_0, yR4_4, yR4_5, yR4_6, yR4_7, yR4_8, yR4_9, yR4_10, yR4_11, yR13_1, yR13_2, yR13_3, yR13_4, yR13_5, yR13_6, yR13_7, yR21_1, yR21_2, yR21_3, yR21_4, yR21_5, yR21_6, yR21_7, yR29_0, yR29_1, yR29_2, yR35_0, yR35_1, yR35_2, yR35_3, yR35_4, yR36_4, yR36_5, yR36_6, yR36_7, yR36_8, yR36_9, yR36_10, yR36_11, yR45_0, yR50_0, yR50_1, yR50_2, yR50_3, yR50_4, yR50_5, yR50_6, yR50_7, yR59_1, yA3, yA5, yA6, yA7, yA8, yA9, yA10, yA11, yA12, yA14, yA15, yA16, yA17, yA18, yA19, yA20, yA22, yA23, yA24, yA25, yA26, yA27, yA28, yA30, yA31, yA32, yA33, yA37, yA38, yA39, yA40, yA41, yA42, yA43, yA44, yA46, yA47, yA48, yA49, yA51, yA52, yA53, yA54, yA55, yA56, yA57, yA58, yA60, yS3, yS5, yS6, yS7, yS8, yS9, yS10, yS11, yS12, yS14, yS15, yS16, yS17, yS18, yS19, yS20, yS22, yS23, yS24, yS25, yS26, yS27, yS28, yS30, yS31, yS32, yS33, yS37, yS38, yS39, yS40, yS41, yS42, yS43, yS44, yS46, yS47, yS48, yS49, yS51, yS52, yS53, yS54, yS55, yS56, yS57, yS58, yS60, e1, e2]
theorem c_addSale {h : Z_H} (H : LY h) {s : Nat} (hs : s < 11) {a : Int32} : f_X6_addSale h 50 (nI s) a = some (z_si (z_si h 52 s (z_i h 52 s + a)) 53 s (z_i h 53 s + a)) := by
  unfold f_X6_addSale
  have H1 : LY (z_si h 52 s (z_i h 52 s + a)) := H
  have e : z_i (z_si h 52 s (z_i h 52 s + a)) 53 s = z_i h 53 s := by rw [z_si_o (by omega)]
  simp (disch := first | assumption | omega) only [gd, lt, jn, bd2, Option.bind_some, LY_si, LY_sl, LY_row, decide_true, decide_false, if_true, ite_true, ite_false, decide_eq_true_eq, yg0, yg1, yg2, yg4, yg13, yg21, yg29, yg35, yg36, yg45, yg50, yg59, yI0, yI1, yI2, yI4, yI13, yI21, yI29, yI35, yI36, yI45, yI50, yI59, yP0, yP1, yP2, yP4, yP13, yP21, yP29, yP35, yP36, yP45, yP50, yP59, yR0_0, yR0_1, yR0_2, yR0_3, yR0_4, yR1_0, yR1_1, yR1_2, yR1_3, yR1_4, yR1_5, yR2_0, yR4_4, yR4_5, yR4_6, yR4_7, yR4_8, yR4_9, yR4_10, yR4_11, yR13_1, yR13_2, yR13_3, yR13_4, yR13_5, yR13_6, yR13_7, yR21_1, yR21_2, yR21_3, yR21_4, yR21_5, yR21_6, yR21_7, yR29_0, yR29_1, yR29_2, yR35_0, yR35_1, yR35_2, yR35_3, yR35_4, yR36_4, yR36_5, yR36_6, yR36_7, yR36_8, yR36_9, yR36_10, yR36_11, yR45_0, yR50_0, yR50_1, yR50_2, yR50_3, yR50_4, yR50_5, yR50_6, yR50_7, yR59_1, yA3, yA5, yA6, yA7, yA8, yA9, yA10, yA11, yA12, yA14, yA15, yA16, yA17, yA18, yA19, yA20, yA22, yA23, yA24, yA25, yA26, yA27, yA28, yA30, yA31, yA32, yA33, yA37, yA38, yA39, yA40, yA41, yA42, yA43, yA44, yA46, yA47, yA48, yA49, yA51, yA52, yA53, yA54, yA55, yA56, yA57, yA58, yA60, yS3, yS5, yS6, yS7, yS8, yS9, yS10, yS11, yS12, yS14, yS15, yS16, yS17, yS18, yS19, yS20, yS22, yS23, yS24, yS25, yS26, yS27, yS28, yS30, yS31, yS32, yS33, yS37, yS38, yS39, yS40, yS41, yS42, yS43, yS44, yS46, yS47, yS48, yS49, yS51, yS52, yS53, yS54, yS55, yS56, yS57, yS58, yS60, e]
theorem lay_add {h : Z_H} {S : Sn} {m s : Nat} (hs : s < S.1) {a : Int32} (L : Lay h S m) (L0 : Lay0 h S) : Lay (z_si (z_si h 52 s (z_i h 52 s + a)) 53 s (z_i h 53 s + a)) (scS S s a) m ∧ Lay0 (z_si (z_si h 52 s (z_i h 52 s + a)) 53 s (z_i h 53 s + a)) (scS S s a) := by
  obtain ⟨l1, l2, l3, l4, l5⟩ := L
  refine ⟨⟨l1, l2, l3, l4, fun t ht => ⟨(l5 t ht).1, ?_, ?_⟩⟩, L0⟩
  · rw [z_si_o (by omega), z_si_i]
    show _ = if t = s then sO S t + a else sO S t
    by_cases e : t = s
    · rw [if_pos e, e, upd_s, (l5 s hs).2.1]
    · rw [if_neg e, upd_o e]; exact (l5 t ht).2.1
  · rw [z_si_i, z_si_o (by omega)]
    show _ = if t = s then sV S t + a else sV S t
    by_cases e : t = s
    · rw [if_pos e, e, upd_s, (l5 s hs).2.2]
    · rw [if_neg e, upd_o e]; exact (l5 t ht).2.2
theorem c_lookSale {h : Z_H} (H : LY h) {A : Nat → Int32} (L : LK (cl h) A) {s : Nat} (hs : s < nn A) {a : Int32} : ∃ h', f_X6_lookWithSale h 50 1 (nI s) a = some h' ∧ SCW h h' ∧ Lay h' (scS (sc0 A (nwN A)) s a) (nwN A) ∧ Scn h' A (scS (sc0 A (nwN A)) s a) := by
  have h99 := L.1.2.2.2.1
  have h10 := L.1.2.1
  obtain ⟨g, e1, w1, l1, l2⟩ := c_lay H h99 L
  have G := w1.ly H
  have w2 : SCW h (z_si (z_si g 52 s (z_i g 52 s + a)) 53 s (z_i g 53 s + a)) := w1.tr ((SCW_si (by omega)).tr (SCW_si (by omega)))
  have G2 := w2.ly H
  obtain ⟨p1, p2, -, p3, -⟩ := (w2.lk L).pl
  obtain ⟨l3, l4⟩ := lay_add (a := a) (S := sc0 A (nwN A)) hs l1 l2
  obtain ⟨q, e2, w3, l5, l6⟩ := c_settle (A := A) G2 (scS_ok (L.ok h99)) p1 p2 p3 l3 l4
  have e8 : z_i h 1 8 = nI (nwN A) := Eq.trans L.2.2.2.2.2.1.2.1 L.1.2.2.2.2
  refine ⟨q, ?_, w2.tr w3, l5, l6⟩
  unfold f_X6_lookWithSale
  simp (disch := first | assumption | omega) only [gd, lt, jn, bd2, Option.bind_some, LY_si, LY_sl, LY_row, decide_true, decide_false, if_true, ite_true, ite_false, decide_eq_true_eq, yg0, yg1, yg2, yg4, yg13, yg21, yg29, yg35, yg36, yg45, yg50, yg59, yI0, yI1, yI2, yI4, yI13, yI21, yI29, yI35, yI36, yI45, yI50, yI59, yP0, yP1, yP2, yP4, yP13, yP21, yP29, yP35, yP36, yP45, yP50, yP59, yR0_0, yR0_1, yR0_2, yR0_3, yR0_4, yR1_0, yR1_1, yR1_2, yR1_3, yR1_4, yR1_5, yR2_0, yR4_4, yR4_5, yR4_6, yR4_7, yR4_8, yR4_9, yR4_10, yR4_11, yR13_1, yR13_2, yR13_3, yR13_4, yR13_5, yR13_6, yR13_7, yR21_1, yR21_2, yR21_3, yR21_4, yR21_5, yR21_6, yR21_7, yR29_0, yR29_1, yR29_2, yR35_0, yR35_1, yR35_2, yR35_3, yR35_4, yR36_4, yR36_5, yR36_6, yR36_7, yR36_8, yR36_9, yR36_10, yR36_11, yR45_0, yR50_0, yR50_1, yR50_2, yR50_3, yR50_4, yR50_5, yR50_6, yR50_7, yR59_1, yA3, yA5, yA6, yA7, yA8, yA9, yA10, yA11, yA12, yA14, yA15, yA16, yA17, yA18, yA19, yA20, yA22, yA23, yA24, yA25, yA26, yA27, yA28, yA30, yA31, yA32, yA33, yA37, yA38, yA39, yA40, yA41, yA42, yA43, yA44, yA46, yA47, yA48, yA49, yA51, yA52, yA53, yA54, yA55, yA56, yA57, yA58, yA60, yS3, yS5, yS6, yS7, yS8, yS9, yS10, yS11, yS12, yS14, yS15, yS16, yS17, yS18, yS19, yS20, yS22, yS23, yS24, yS25, yS26, yS27, yS28, yS30, yS31, yS32, yS33, yS37, yS38, yS39, yS40, yS41, yS42, yS43, yS44, yS46, yS47, yS48, yS49, yS51, yS52, yS53, yS54, yS55, yS56, yS57, yS58, yS60, e8, e1, c_addSale G (show s < 11 by omega), e2]
theorem c_lookNew {h : Z_H} (H : LY h) {A : Nat → Int32} (L : LK (cl h) A) {p : Nat} (hp : p < nn A) {a : Int32} : ∃ h', f_X6_lookWithNewcomer h 50 1 (nI p) a = some h' ∧ SCW h h' ∧ Lay h' (scN (sc0 A (nwN A)) p a) (nwN A) ∧ Scn h' A (scN (sc0 A (nwN A)) p a) := by
  have h99 := L.1.2.2.2.1
  have h10 := L.1.2.1
  obtain ⟨g, e1, w1, l1, l2⟩ := c_lay H h99 L
  have G := w1.ly H
  let n := nn A
  have hn : n = nn A := rfl
  obtain ⟨l1a, l1b, l1c, l1d, l1e⟩ := l1
  have b11 : nI (bsN (thS A (nwN A)) n) ||| ((1 : Int32) <<< (nI n &&& 31)) = nI (bsN (sT (scN (sc0 A (nwN A)) p a)) (n + 1)) := by
    have := bs_or (p := sT (scN (sc0 A (nwN A)) p a)) (k := n) (by omega)
    rw [← this, show sT (scN (sc0 A (nwN A)) p a) n = true from if_pos rfl, if_pos rfl]
    congr 2
    exact bsN_congr (fun t ht => (if_neg (by omega : t ≠ nn A)).symm)
  have b10 : bsN (sG (scN (sc0 A (nwN A)) p a)) (n + 1) = bsN (gnS A (nwN A)) n := by
    show bsN (sG (scN (sc0 A (nwN A)) p a)) n ||| (if sG (scN (sc0 A (nwN A)) p a) n then 2 ^ n else 0) = _
    rw [show sG (scN (sc0 A (nwN A)) p a) n = false from if_pos rfl, if_neg (by decide), Nat.or_zero]
    exact bsN_congr (fun t ht => if_neg (by omega : t ≠ nn A))
  let g1 := cr6 g n
  let g2 := z_si g1 51 n (nI p)
  let g3 := z_si g2 50 11 (nI (bsN (sT (scN (sc0 A (nwN A)) p a)) (n + 1)))
  let g4 := z_si g3 50 12 (nI (n + 1))
  let g5 := z_si (z_si g4 52 n (z_i g4 52 n + a)) 53 n (z_i g4 53 n + a)
  have W1 : SCW h g1 := w1.tr cr6_w
  have W2 : SCW h g2 := W1.tr (SCW_si (by omega))
  have W3 : SCW h g3 := W2.tr (SCW_si (by omega))
  have W4 : SCW h g4 := W3.tr (SCW_si (by omega))
  have W5 : SCW h g5 := W4.tr ((SCW_si (by omega)).tr (SCW_si (by omega)))
  have G1 := W1.ly H
  have G2 := W2.ly H
  have G3 := W3.ly H
  have G4 := W4.ly H
  have G5 := W5.ly H
  have r50 : ∀ j, z_i g4 50 j = if j = 12 then nI (n + 1) else if j = 11 then nI (bsN (sT (scN (sc0 A (nwN A)) p a)) (n + 1)) else z_i g 50 j := by
    intro j
    show z_i (z_si (z_si (z_si (cr6 g n) 51 n (nI p)) 50 11 _) 50 12 _) 50 j = _
    rw [zi_si, if_pos rfl, zi_si, if_pos rfl, z_si_o (by omega), cr6_o (by omega)]
  have r51 : z_i g4 51 = upd (z_i g 51) n (nI p) := by
    show z_i (z_si (z_si (z_si (cr6 g n) 51 n (nI p)) 50 11 _) 50 12 _) 51 = _
    rw [z_si_o (by omega), z_si_o (by omega), z_si_i, cr6_o (by omega)]
  have r6 : ∀ c, 52 ≤ c → c ≤ 57 → z_i g4 c = upd (z_i g c) n 0 := by
    intro c h1 h2
    show z_i (z_si (z_si (z_si (cr6 g n) 51 n (nI p)) 50 11 _) 50 12 _) c = _
    rw [z_si_o (by omega), z_si_o (by omega), z_si_o (by omega), cr6_i ⟨h1, h2⟩]
  have a52 : z_i g5 52 = upd (z_i g4 52) n (z_i g4 52 n + a) := by
    show z_i (z_si (z_si g4 52 n _) 53 n _) 52 = _
    rw [z_si_o (by omega), z_si_i]
  have a53 : z_i g5 53 = upd (z_i g4 53) n (z_i g4 53 n + a) := by
    show z_i (z_si (z_si g4 52 n _) 53 n _) 53 = _
    rw [z_si_i, z_si_o (by omega)]
  have ao : ∀ c, c ≠ 52 → c ≠ 53 → z_i g5 c = z_i g4 c := by
    intro c h1 h2
    show z_i (z_si (z_si g4 52 n _) 53 n _) c = _
    rw [z_si_o h2, z_si_o h1]
  have L5 : Lay g5 (scN (sc0 A (nwN A)) p a) (nwN A) := by
    refine ⟨?_, ?_, ?_, ?_, fun t ht => ⟨?_, ?_, ?_⟩⟩
    · rw [ao 50 (by omega) (by omega), r50, if_neg (by omega), if_neg (by omega)]; exact l1a
    · rw [ao 50 (by omega) (by omega), r50, if_pos rfl]; rfl
    · rw [ao 50 (by omega) (by omega), r50, if_neg (by omega), if_pos rfl]; rfl
    · rw [ao 50 (by omega) (by omega), r50, if_neg (by omega), if_neg (by omega)]
      refine Eq.trans l1d ?_
      exact congrArg nI b10.symm
    · rw [ao 51 (by omega) (by omega), r51]
      show _ = pe (if t = n then some p else pr A (nwN A) t)
      by_cases e : t = n
      · rw [e, upd_s, if_pos rfl]; rfl
      · rw [upd_o e, if_neg e]
        have ht : t < n + 1 := ht
        exact (l1e t (by show t < nn A; omega)).1
    · rw [a52, r6 52 (by omega) (by omega)]
      show _ = if t = n then a else owS A (nwN A) t
      by_cases e : t = n
      · rw [e, upd_s, upd_s, if_pos rfl, Int32.zero_add]
      · rw [upd_o e, upd_o e, if_neg e]
        have ht : t < n + 1 := ht
        exact (l1e t (by show t < nn A; omega)).2.1
    · rw [a53, r6 53 (by omega) (by omega)]
      show _ = if t = n then a else voS A (nwN A) t
      by_cases e : t = n
      · rw [e, upd_s, upd_s, if_pos rfl, Int32.zero_add]
      · rw [upd_o e, upd_o e, if_neg e]
        have ht : t < n + 1 := ht
        exact (l1e t (by show t < nn A; omega)).2.2
  have L50 : Lay0 g5 (scN (sc0 A (nwN A)) p a) := by
    intro t ht
    have ht : t < n + 1 := ht
    have z : ∀ c, 54 ≤ c → c ≤ 57 → (t < n → z_i g c t = 0) → z_i g5 c t = 0 := by
      intro c h1 h2 h3
      rw [ao c (by omega) (by omega), r6 c (by omega) h2]
      by_cases e : t = n
      · rw [e, upd_s]
      · rw [upd_o e]; exact h3 (by omega)
    exact ⟨z 54 (by omega) (by omega) (fun q => (l2 t q).1), z 55 (by omega) (by omega) (fun q => (l2 t q).2.1), z 56 (by omega) (by omega) (fun q => (l2 t q).2.2.1), z 57 (by omega) (by omega) (fun q => (l2 t q).2.2.2)⟩
  have hT : thS A (nwN A) p = true := by unfold thS; simpa using (L.2.1 p hp).2.1
  obtain ⟨p1, p2, -, p3, -⟩ := (W5.lk L).pl
  obtain ⟨q, e2, w3, l5, l6⟩ := c_settle (A := A) G5 (scN_ok (L.ok h99) (show nn A ≤ 10 from h10) hp hT) p1 p2 p3 L5 L50
  have e8 : z_i h 1 8 = nI (nwN A) := Eq.trans L.2.2.2.2.2.1.2.1 L.1.2.2.2.2
  refine ⟨q, ?_, W5.tr w3, l5, l6⟩
  unfold f_X6_lookWithNewcomer
  have c12 : z_i g 50 12 = nI n := l1b
  have s1 : sI (cr6 g n) 51 (nI n) (nI p) = some g2 := yS51 G1 (by omega)
  have f11 : z_i g2 50 11 = nI (bsN (thS A (nwN A)) n) := by
    show z_i (z_si (cr6 g n) 51 n (nI p)) 50 11 = _
    rw [z_si_o (by omega), cr6_o (by omega)]
    exact l1c
  have s3 : z_si g2 50 11 (nI (bsN (sT (scN (sc0 A (nwN A)) p a)) (n + 1))) = g3 := rfl
  have f12 : z_i g3 50 12 = nI n := by
    show z_i (z_si (z_si (cr6 g n) 51 n (nI p)) 50 11 _) 50 12 = _
    rw [zi_si, if_pos rfl, if_neg (by omega), z_si_o (by omega), cr6_o (by omega)]
    exact l1b
  have s4 : z_si g3 50 12 (nI (n + 1)) = g4 := rfl
  have s5 : f_X6_addSale g4 50 (nI n) a = some g5 := c_addSale G4 (by omega)
  simp (disch := first | assumption | omega) only [gd, lt, jn, bd2, Option.bind_some, LY_si, LY_sl, LY_row, decide_true, decide_false, if_true, ite_true, ite_false, decide_eq_true_eq, yg0, yg1, yg2, yg4, yg13, yg21, yg29, yg35, yg36, yg45, yg50, yg59, yI0, yI1, yI2, yI4, yI13, yI21, yI29, yI35, yI36, yI45, yI50, yI59, yP0, yP1, yP2, yP4, yP13, yP21, yP29, yP35, yP36, yP45, yP50, yP59, yR0_0, yR0_1, yR0_2, yR0_3, yR0_4, yR1_0, yR1_1, yR1_2, yR1_3, yR1_4, yR1_5, yR2_0, yR4_4, yR4_5, yR4_6, yR4_7, yR4_8, yR4_9, yR4_10, yR4_11, yR13_1, yR13_2, yR13_3, yR13_4, yR13_5, yR13_6, yR13_7, yR21_1, yR21_2, yR21_3, yR21_4, yR21_5, yR21_6, yR21_7, yR29_0, yR29_1, yR29_2, yR35_0, yR35_1, yR35_2, yR35_3, yR35_4, yR36_4, yR36_5, yR36_6, yR36_7, yR36_8, yR36_9, yR36_10, yR36_11, yR45_0, yR50_0, yR50_1, yR50_2, yR50_3, yR50_4, yR50_5, yR50_6, yR50_7, yR59_1, yA3, yA5, yA6, yA7, yA8, yA9, yA10, yA11, yA12, yA14, yA15, yA16, yA17, yA18, yA19, yA20, yA22, yA23, yA24, yA25, yA26, yA27, yA28, yA30, yA31, yA32, yA33, yA37, yA38, yA39, yA40, yA41, yA42, yA43, yA44, yA46, yA47, yA48, yA49, yA51, yA52, yA53, yA54, yA55, yA56, yA57, yA58, yA60, yS3, yS5, yS6, yS7, yS8, yS9, yS10, yS11, yS12, yS14, yS15, yS16, yS17, yS18, yS19, yS20, yS22, yS23, yS24, yS25, yS26, yS27, yS28, yS30, yS31, yS32, yS33, yS37, yS38, yS39, yS40, yS41, yS42, yS43, yS44, yS46, yS47, yS48, yS49, yS51, yS52, yS53, yS54, yS55, yS56, yS57, yS58, yS60, e8, e1, c12, c_clearRow G (show n < 11 by omega), s1, f11, b11, s3, f12, nI_1, s4, s5, e2]
