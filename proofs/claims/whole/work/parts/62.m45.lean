def ulS (A : Nat → Int32) (m s : Nat) : Nat := (fnd (fun k => decide (upk (pr A m) k s = none)) 0 (nn A + 1)).getD 0 - 1
theorem ul_some {A : Nat → Int32} {m s : Nat} (ac : ACy (pr A m) (nn A)) (hs : s < nn A) : ∃ K, fnd (fun k => decide (upk (pr A m) k s = none)) 0 (nn A + 1) = some (K + 1) ∧ ulS A m s = K ∧ K < nn A ∧ upk (pr A m) (K + 1) s = none ∧ ∀ j, j ≤ K → upk (pr A m) j s ≠ none := by
  have hx : (fnd (fun k => decide (upk (pr A m) k s = none)) 0 (nn A + 1)).isSome = true := fnd_is.mpr ⟨nn A, by omega, decide_eq_true (ac.2 s hs)⟩
  unfold ulS
  cases hf : fnd (fun k => decide (upk (pr A m) k s = none)) 0 (nn A + 1) with
  | none => rw [hf] at hx; cases hx
  | some l =>
    obtain ⟨-, f2, f3, f4⟩ := fnd_some _ _ _ hf
    have f3 := of_decide_eq_true f3
    cases l with
    | zero => cases f3
    | succ K => exact ⟨K, rfl, rfl, by omega, f3, fun j hj => of_decide_eq_false (f4 j (by omega) (by omega))⟩
theorem c_upline {h : Z_H} (H : LY h) {A : Nat → Int32} {m s : Nat} (hn : nn A ≤ 10) (ac : ACy (pr A m) (nn A)) (hP : ∀ t, t < nn A → z_i h 51 t = pe (pr A m t)) (hs : s < nn A) : f_X6_uplineLength h 50 (nI s) = some (nI (ulS A m s)) := by
  obtain ⟨K, -, k2, k3, k4, k5⟩ := ul_some ac hs
  rw [k2]
  have key := lp_for (b := f_X6_uplineLength_l1 50 h) (fun l (_ : Unit) => (nI l, pe (upk (pr A m) (l + 1) s))) (fun _ _ => True) (fun _ w => w) (fun _ => some (nI K)) K ?_ (fun _ _ _ _ => trivial) ?_ K FU 0 () (by omega) (by unfold FU; omega) trivial
  · have e1 : upk (pr A m) (0 + 1) s = pr A m s := by rw [upk_next]; rfl
    rw [e1] at key
    have key' : lp (f_X6_uplineLength_l1 50 h) FU (0, pe (pr A m s)) = some (nI K) := key
    unfold f_X6_uplineLength
    exact gdE (yg50 H) (bnd (yR50_0 H) (bnd ((yA51 H (show s < 11 by omega)).trans (congrArg some (hP s hs))) (bnd key' rfl)))
  · intro rec l w hl _
    cases hu : upk (pr A m) (l + 1) s with
    | none => exact absurd hu (k5 (l + 1) (by omega))
    | some p =>
      have hp := ac.lt hs hu
      have e51 : aI h 51 (nI p) = some (pe (upk (pr A m) (l + 1 + 1) s)) := by
        rw [yA51 H (by omega), hP p hp, upk_next, hu]
        rfl
      unfold f_X6_uplineLength_l1
      refine (if_neg (show ¬ (10 : Int32) < nI l from nI_nlt (a := 10) (by omega) (by omega))).trans ?_
      refine (if_neg (show ¬ pe (some p) = -1 from nI_m1 (by omega))).trans ?_
      refine bnd (yR50_0 H) (bnd e51 ?_)
      rw [nI_1]
  · intro rec w _
    rw [k4]
    unfold f_X6_uplineLength_l1
    refine (if_neg (show ¬ (10 : Int32) < nI K from nI_nlt (a := 10) (by omega) (by omega))).trans ?_
    exact if_pos rfl
def limT (A : Nat → Int32) (w : Nat) : Nat := if w ≤ 3 ∨ 9 ≤ w then lastN A else nwN A
def trS (A : Nat → Int32) (m s w : Nat) : Int32 := match w with
  | 0 => pe (pr A m s)
  | 1 => nI (ulS A m s)
  | 2 => nI (bsN (inB (sc0 A m) s) (nn A))
  | 3 => nI (bsN (inD (sc0 A m) s) (nn A))
  | 4 => owS A m s
  | 5 => voS A m s
  | 6 => grp (sc0 A m) s
  | 7 => if inA (sc0 A m) (A 3) s then 1 else 0
  | 8 => nI (rnk A (sc0 A m) s)
  | _ => nI (dpt (sc0 A m) s)
theorem c_tree {h : Z_H} {A : Nat → Int32} (C : CA h A) (L : LK (cl h) A) {s m w : Nat} (hs : s < nn A) (hj : jo A s ≤ m) (hw : w ≤ 9) (hl : m ≤ limT A w) (hm : m ≤ 99) : ∃ g, f_X9_tree h 0 (nI s) (nI m) (nI w) = some (trS A m s w, g) ∧ QS h g := by
  have H := C.1
  have h10 := L.1.2.1
  have ja : z_i h 14 s = nI (jo A s) := (C.2.2.2.2.2.1.2.2 s hs).1.trans (C.2.2.1 s hs).1
  obtain ⟨en, h99⟩ := C.now
  have z1 : ¬ (1 : Int32) = 0 := by decide
  obtain ⟨g, p1, p2, p3, p4⟩ := c_look H hm L
  have G := p2.ly H
  have hO := L.ok hm
  have hs1 : s < (sc0 A m).1 := hs
  obtain ⟨q51, q52, q53⟩ := p3.2.2.2.2 s hs1
  obtain ⟨q54, q55, q56, q57, q58⟩ := p4.2 s hs1
  have ul := c_upline (s := s) G h10 hO.2.1 (fun t ht => (p3.2.2.2.2 t ht).1) hs
  have q7 : ((nI (bsN (inA (sc0 A m) (A 3)) (nn A)) >>> (nI s &&& 31)) &&& 1) = if inA (sc0 A m) (A 3) s then 1 else 0 := by
    rw [nI_tb (bsN_2048 (by omega)) (by omega), bsN_tb, decide_eq_true hs]
    rfl
  refine ⟨g, ?_, p2.qs⟩
  have hw' : w = 0 ∨ w = 1 ∨ w = 2 ∨ w = 3 ∨ w = 4 ∨ w = 5 ∨ w = 6 ∨ w = 7 ∨ w = 8 ∨ w = 9 := by omega
  rcases hw' with rfl | rfl | rfl | rfl | rfl | rfl | rfl | rfl | rfl | rfl
  · have hl : m ≤ lastN A := hl
    unfold f_X9_tree
    refine gdE (yg0 H) (bnd (yR0_0 H) (bnd (yR1_2 H) (bnd (c_has_t C hs) ?_)))
    refine (if_neg z1).trans ((if_neg (by decide)).trans ((if_pos (by decide)).trans (jnE (jnE ?_))))
    refine (if_pos (by decide)).trans ?_
    refine bnd (yR0_0 H) (bnd (yR1_2 H) (bnd (yR13_1 H) (bnd ((yA14 H (show s < 10 by omega)).trans (congrArg some ja)) ?_)))
    refine (if_neg (nI_nlt hj (by omega))).trans (jnE ?_)
    refine (if_neg z1).trans (bnd (c_last C) ?_)
    refine (if_pos (nI_le hl (by unfold lastN; omega))).trans ((if_neg (by decide)).trans ?_)
    refine bnd (yR0_3 H) (bnd (yR0_0 H) (bnd p1 ?_))
    refine (if_pos rfl).trans ?_
    exact bnd (yR0_3 G) (bnd (yR50_0 G) (bnd ((yA51 G (show s < 11 by omega)).trans (congrArg some q51)) rfl))
  · have hl : m ≤ lastN A := hl
    unfold f_X9_tree
    refine gdE (yg0 H) (bnd (yR0_0 H) (bnd (yR1_2 H) (bnd (c_has_t C hs) ?_)))
    refine (if_neg z1).trans ((if_neg (by decide)).trans ((if_pos (by decide)).trans (jnE (jnE ?_))))
    refine (if_pos (by decide)).trans ?_
    refine bnd (yR0_0 H) (bnd (yR1_2 H) (bnd (yR13_1 H) (bnd ((yA14 H (show s < 10 by omega)).trans (congrArg some ja)) ?_)))
    refine (if_neg (nI_nlt hj (by omega))).trans (jnE ?_)
    refine (if_neg z1).trans (bnd (c_last C) ?_)
    refine (if_pos (nI_le hl (by unfold lastN; omega))).trans ((if_neg (by decide)).trans ?_)
    refine bnd (yR0_3 H) (bnd (yR0_0 H) (bnd p1 ?_))
    refine (if_neg (by decide)).trans ?_
    refine (if_pos rfl).trans ?_
    exact bnd (yR0_3 G) (bnd ul rfl)
  · have hl : m ≤ lastN A := hl
    unfold f_X9_tree
    refine gdE (yg0 H) (bnd (yR0_0 H) (bnd (yR1_2 H) (bnd (c_has_t C hs) ?_)))
    refine (if_neg z1).trans ((if_neg (by decide)).trans ((if_pos (by decide)).trans (jnE (jnE ?_))))
    refine (if_pos (by decide)).trans ?_
    refine bnd (yR0_0 H) (bnd (yR1_2 H) (bnd (yR13_1 H) (bnd ((yA14 H (show s < 10 by omega)).trans (congrArg some ja)) ?_)))
    refine (if_neg (nI_nlt hj (by omega))).trans (jnE ?_)
    refine (if_neg z1).trans (bnd (c_last C) ?_)
    refine (if_pos (nI_le hl (by unfold lastN; omega))).trans ((if_neg (by decide)).trans ?_)
    refine bnd (yR0_3 H) (bnd (yR0_0 H) (bnd p1 ?_))
    refine (if_neg (by decide)).trans ?_
    refine (if_neg (by decide)).trans ?_
    refine (if_pos rfl).trans ?_
    exact bnd (yR0_3 G) (bnd (yR50_4 G) (bnd ((yA55 G (show s < 11 by omega)).trans (congrArg some q55)) rfl))
  · have hl : m ≤ lastN A := hl
    unfold f_X9_tree
    refine gdE (yg0 H) (bnd (yR0_0 H) (bnd (yR1_2 H) (bnd (c_has_t C hs) ?_)))
    refine (if_neg z1).trans ((if_neg (by decide)).trans ((if_pos (by decide)).trans (jnE (jnE ?_))))
    refine (if_pos (by decide)).trans ?_
    refine bnd (yR0_0 H) (bnd (yR1_2 H) (bnd (yR13_1 H) (bnd ((yA14 H (show s < 10 by omega)).trans (congrArg some ja)) ?_)))
    refine (if_neg (nI_nlt hj (by omega))).trans (jnE ?_)
    refine (if_neg z1).trans (bnd (c_last C) ?_)
    refine (if_pos (nI_le hl (by unfold lastN; omega))).trans ((if_neg (by decide)).trans ?_)
    refine bnd (yR0_3 H) (bnd (yR0_0 H) (bnd p1 ?_))
    refine (if_neg (by decide)).trans ?_
    refine (if_neg (by decide)).trans ?_
    refine (if_neg (by decide)).trans ?_
    refine (if_pos rfl).trans ?_
    exact bnd (yR0_3 G) (bnd (yR50_5 G) (bnd ((yA56 G (show s < 11 by omega)).trans (congrArg some q56)) rfl))
  · have hl : m ≤ nwN A := hl
    unfold f_X9_tree
    refine gdE (yg0 H) (bnd (yR0_0 H) (bnd (yR1_2 H) (bnd (c_has_t C hs) ?_)))
    refine (if_neg z1).trans ((if_neg (by decide)).trans ((if_pos (by decide)).trans (jnE (jnE ?_))))
    refine (if_neg (by decide)).trans ((if_pos (by decide)).trans ?_)
    refine bnd (yR0_0 H) (bnd (yR1_2 H) (bnd (yR13_1 H) (bnd ((yA14 H (show s < 10 by omega)).trans (congrArg some ja)) ?_)))
    refine (if_neg (nI_nlt hj (by omega))).trans (jnE ?_)
    refine (if_pos rfl).trans (bnd (yR0_0 H) (bnd ((yI1 H 8).trans (congrArg some en)) ?_))
    refine (if_pos (nI_le hl (by omega))).trans ((if_neg (by decide)).trans ?_)
    refine bnd (yR0_3 H) (bnd (yR0_0 H) (bnd p1 ?_))
    refine (if_neg (by decide)).trans ?_
    refine (if_neg (by decide)).trans ?_
    refine (if_neg (by decide)).trans ?_
    refine (if_neg (by decide)).trans ?_
    refine (if_pos rfl).trans ?_
    exact bnd (yR0_3 G) (bnd (yR50_1 G) (bnd ((yA52 G (show s < 11 by omega)).trans (congrArg some q52)) rfl))
  · have hl : m ≤ nwN A := hl
    unfold f_X9_tree
    refine gdE (yg0 H) (bnd (yR0_0 H) (bnd (yR1_2 H) (bnd (c_has_t C hs) ?_)))
    refine (if_neg z1).trans ((if_neg (by decide)).trans ((if_pos (by decide)).trans (jnE (jnE ?_))))
    refine (if_neg (by decide)).trans ((if_pos (by decide)).trans ?_)
    refine bnd (yR0_0 H) (bnd (yR1_2 H) (bnd (yR13_1 H) (bnd ((yA14 H (show s < 10 by omega)).trans (congrArg some ja)) ?_)))
    refine (if_neg (nI_nlt hj (by omega))).trans (jnE ?_)
    refine (if_pos rfl).trans (bnd (yR0_0 H) (bnd ((yI1 H 8).trans (congrArg some en)) ?_))
    refine (if_pos (nI_le hl (by omega))).trans ((if_neg (by decide)).trans ?_)
    refine bnd (yR0_3 H) (bnd (yR0_0 H) (bnd p1 ?_))
    refine (if_neg (by decide)).trans ?_
    refine (if_neg (by decide)).trans ?_
    refine (if_neg (by decide)).trans ?_
    refine (if_neg (by decide)).trans ?_
    refine (if_neg (by decide)).trans ?_
    refine (if_pos rfl).trans ?_
    exact bnd (yR0_3 G) (bnd (yR50_2 G) (bnd ((yA53 G (show s < 11 by omega)).trans (congrArg some q53)) rfl))
  · have hl : m ≤ nwN A := hl
    unfold f_X9_tree
    refine gdE (yg0 H) (bnd (yR0_0 H) (bnd (yR1_2 H) (bnd (c_has_t C hs) ?_)))
    refine (if_neg z1).trans ((if_neg (by decide)).trans ((if_pos (by decide)).trans (jnE (jnE ?_))))
    refine (if_neg (by decide)).trans ((if_pos (by decide)).trans ?_)
    refine bnd (yR0_0 H) (bnd (yR1_2 H) (bnd (yR13_1 H) (bnd ((yA14 H (show s < 10 by omega)).trans (congrArg some ja)) ?_)))
    refine (if_neg (nI_nlt hj (by omega))).trans (jnE ?_)
    refine (if_pos rfl).trans (bnd (yR0_0 H) (bnd ((yI1 H 8).trans (congrArg some en)) ?_))
    refine (if_pos (nI_le hl (by omega))).trans ((if_neg (by decide)).trans ?_)
    refine bnd (yR0_3 H) (bnd (yR0_0 H) (bnd p1 ?_))
    refine (if_neg (by decide)).trans ?_
    refine (if_neg (by decide)).trans ?_
    refine (if_neg (by decide)).trans ?_
    refine (if_neg (by decide)).trans ?_
    refine (if_neg (by decide)).trans ?_
    refine (if_neg (by decide)).trans ?_
    refine (if_pos rfl).trans ?_
    exact bnd (yR0_3 G) (bnd (yR50_3 G) (bnd ((yA54 G (show s < 11 by omega)).trans (congrArg some q54)) rfl))
  · have hl : m ≤ nwN A := hl
    unfold f_X9_tree
    refine gdE (yg0 H) (bnd (yR0_0 H) (bnd (yR1_2 H) (bnd (c_has_t C hs) ?_)))
    refine (if_neg z1).trans ((if_neg (by decide)).trans ((if_pos (by decide)).trans (jnE (jnE ?_))))
    refine (if_neg (by decide)).trans ((if_pos (by decide)).trans ?_)
    refine bnd (yR0_0 H) (bnd (yR1_2 H) (bnd (yR13_1 H) (bnd ((yA14 H (show s < 10 by omega)).trans (congrArg some ja)) ?_)))
    refine (if_neg (nI_nlt hj (by omega))).trans (jnE ?_)
    refine (if_pos rfl).trans (bnd (yR0_0 H) (bnd ((yI1 H 8).trans (congrArg some en)) ?_))
    refine (if_pos (nI_le hl (by omega))).trans ((if_neg (by decide)).trans ?_)
    refine bnd (yR0_3 H) (bnd (yR0_0 H) (bnd p1 ?_))
    refine (if_neg (by decide)).trans ?_
    refine (if_neg (by decide)).trans ?_
    refine (if_neg (by decide)).trans ?_
    refine (if_neg (by decide)).trans ?_
    refine (if_neg (by decide)).trans ?_
    refine (if_neg (by decide)).trans ?_
    refine (if_neg (by decide)).trans ?_
    refine (if_pos rfl).trans ?_
    refine bnd (yR0_3 G) (bnd ((yI50 G 9).trans (congrArg some p4.1)) ?_)
    exact congrArg (fun t => some (t, g)) q7
  · have hl : m ≤ nwN A := hl
    unfold f_X9_tree
    refine gdE (yg0 H) (bnd (yR0_0 H) (bnd (yR1_2 H) (bnd (c_has_t C hs) ?_)))
    refine (if_neg z1).trans ((if_neg (by decide)).trans ((if_pos (by decide)).trans (jnE (jnE ?_))))
    refine (if_neg (by decide)).trans ((if_pos (by decide)).trans ?_)
    refine bnd (yR0_0 H) (bnd (yR1_2 H) (bnd (yR13_1 H) (bnd ((yA14 H (show s < 10 by omega)).trans (congrArg some ja)) ?_)))
    refine (if_neg (nI_nlt hj (by omega))).trans (jnE ?_)
    refine (if_pos rfl).trans (bnd (yR0_0 H) (bnd ((yI1 H 8).trans (congrArg some en)) ?_))
    refine (if_pos (nI_le hl (by omega))).trans ((if_neg (by decide)).trans ?_)
    refine bnd (yR0_3 H) (bnd (yR0_0 H) (bnd p1 ?_))
    refine (if_neg (by decide)).trans ?_
    refine (if_neg (by decide)).trans ?_
    refine (if_neg (by decide)).trans ?_
    refine (if_neg (by decide)).trans ?_
    refine (if_neg (by decide)).trans ?_
    refine (if_neg (by decide)).trans ?_
    refine (if_neg (by decide)).trans ?_
    refine (if_neg (by decide)).trans ?_
    refine (if_pos rfl).trans ?_
    exact bnd (yR0_3 G) (bnd (yR50_7 G) (bnd ((yA58 G (show s < 11 by omega)).trans (congrArg some q58)) rfl))
  · have hl : m ≤ lastN A := hl
    unfold f_X9_tree
    refine gdE (yg0 H) (bnd (yR0_0 H) (bnd (yR1_2 H) (bnd (c_has_t C hs) ?_)))
    refine (if_neg z1).trans ((if_neg (by decide)).trans ((if_pos (by decide)).trans (jnE (jnE ?_))))
    refine (if_neg (by decide)).trans ((if_neg (by decide)).trans ?_)
    refine bnd (yR0_0 H) (bnd (yR1_2 H) (bnd (yR13_1 H) (bnd ((yA14 H (show s < 10 by omega)).trans (congrArg some ja)) ?_)))
    refine (if_neg (nI_nlt hj (by omega))).trans (jnE ?_)
    refine (if_neg z1).trans (bnd (c_last C) ?_)
    refine (if_pos (nI_le hl (by unfold lastN; omega))).trans ((if_neg (by decide)).trans ?_)
    refine bnd (yR0_3 H) (bnd (yR0_0 H) (bnd p1 ?_))
    refine (if_neg (by decide)).trans ?_
    refine (if_neg (by decide)).trans ?_
    refine (if_neg (by decide)).trans ?_
    refine (if_neg (by decide)).trans ?_
    refine (if_neg (by decide)).trans ?_
    refine (if_neg (by decide)).trans ?_
    refine (if_neg (by decide)).trans ?_
    refine (if_neg (by decide)).trans ?_
    refine (if_neg (by decide)).trans ?_
    exact bnd (yR0_3 G) (bnd (yR50_6 G) (bnd ((yA57 G (show s < 11 by omega)).trans (congrArg some q57)) rfl))
theorem e_tree {h : Z_H} (H : LY h) {A : Nat → Int32} {c : Nat → Nat → Int32} (eA : z_i h 62 = A) (L : LK c A) (h14 : z_i h 61 14 = -1) {s m w : Nat} (hs : s < nn A) (hj : jo A s ≤ m) (hw : w ≤ 9) (hm : m ≤ 99) : ∃ g, f_X10_ofTree h 61 (nI s) (nI m) (nI w) = some (trS A m s w, g) ∧ MW h g := by
  have hN := L.1
  have h10 := hN.2.1
  have hO := L.ok hm
  obtain ⟨k1, k2, b1, b2, b3, b4, b5, b6, b7⟩ := e_scene2 H eA L h14 hm
  have K1 := b2.ly H
  have K2 := b4.ly K1
  have d2 : z_i k2 62 = A := b4.a.trans (b2.a.trans eA)
  have hs1 : s < (sc0 A m).1 := hs
  have hwin : ∃ w, 1 ≤ w ∧ w ≤ 6 ∧ z_i k2 62 6 = nI w := by rw [d2]; exact L.2.2.1.2.2.2.1
  have hN2 : VN (z_i k2 62) := by rw [d2]; exact hN
  have q66 : z_i k2 66 s = pe (pr A m s) := b7.1.2.2.1 s hs1
  obtain ⟨q68, q53, -⟩ := b7.2.2.2.2 s hs1
  obtain ⟨K, u1, u2, u3, -, -⟩ := ul_some hO.2.1 hs
  have st := e_stepsE K2 b7.1 hs1
  have st : f_X10_stepsUp k2 61 (nI s) (-1) = some (nI (K + 1)) := by
    rw [st]
    show some (match fnd (fun k => decide (upk (pr A m) k s = none)) 0 (nn A + 1) with | some k => nI k | none => -1) = _
    rw [u1]
  have bl := e_belowOf (t := s) K2 b7 hO (by omega)
  have dl := e_directOf (t := s) K2 b7 (by omega)
  have vl := e_volumeOf (t := s) K2 b7 hwin hs1
  have su := (e_sumB K2 b7 hwin (p := inB (sc0 A m) s)).1
  have ia := e_isActive (t := s) K2 b7 hN2 hs1
  rw [d2, inA_t (show sT (sc0 A m) s = true from decide_eq_true hj)] at ia
  have rk := e_rankOf (t := s) K2 b7 hO hN2 hwin (by omega)
  rw [d2] at rk
  have gn := e_generations (t := s) K2 b7 hO (by omega)
  have ix : (100 : Int32) * nI s + nI m = nI (100 * s + m) := by rw [n_100, nI_mul, nI_add]
  refine ⟨k2, ?_, b2.tr b4⟩
  have hw' : w = 0 ∨ w = 1 ∨ w = 2 ∨ w = 3 ∨ w = 4 ∨ w = 5 ∨ w = 6 ∨ w = 7 ∨ w = 8 ∨ w = 9 := by omega
  rcases hw' with rfl | rfl | rfl | rfl | rfl | rfl | rfl | rfl | rfl | rfl
  · unfold f_X10_ofTree
    refine gdE (yg61 H) (bnd b1 (bnd b3 ?_))
    refine (if_pos rfl).trans ?_
    exact bnd (yR61_17 K2) (bnd ((yA66 K2 (show s < 11 by omega)).trans (congrArg some q66)) rfl)
  · unfold f_X10_ofTree
    refine gdE (yg61 H) (bnd b1 (bnd b3 ?_))
    refine (if_neg (by decide)).trans ?_
    refine (if_pos rfl).trans ?_
    refine bnd st ?_
    rw [nI_p1, ← u2]
    rfl
  · unfold f_X10_ofTree
    refine gdE (yg61 H) (bnd b1 (bnd b3 ?_))
    refine (if_neg (by decide)).trans ?_
    refine (if_neg (by decide)).trans ?_
    refine (if_pos rfl).trans ?_
    exact bnd bl rfl
  · unfold f_X10_ofTree
    refine gdE (yg61 H) (bnd b1 (bnd b3 ?_))
    refine (if_neg (by decide)).trans ?_
    refine (if_neg (by decide)).trans ?_
    refine (if_neg (by decide)).trans ?_
    refine (if_pos rfl).trans ?_
    exact bnd dl rfl
  · unfold f_X10_ofTree
    refine gdE (yg61 H) (bnd b1 (bnd b3 ?_))
    refine (if_neg (by decide)).trans ?_
    refine (if_neg (by decide)).trans ?_
    refine (if_neg (by decide)).trans ?_
    refine (if_neg (by decide)).trans ?_
    refine (if_pos rfl).trans ?_
    refine bnd (yR61_21 K2) ?_
    rw [ix]
    exact bnd ((yA68 K2 (show 100 * s + m < 1100 by omega)).trans (congrArg some q68)) rfl
  · unfold f_X10_ofTree
    refine gdE (yg61 H) (bnd b1 (bnd b3 ?_))
    refine (if_neg (by decide)).trans ?_
    refine (if_neg (by decide)).trans ?_
    refine (if_neg (by decide)).trans ?_
    refine (if_neg (by decide)).trans ?_
    refine (if_neg (by decide)).trans ?_
    refine (if_pos rfl).trans ?_
    exact bnd vl rfl
  · unfold f_X10_ofTree
    refine gdE (yg61 H) (bnd b1 (bnd b3 ?_))
    refine (if_neg (by decide)).trans ?_
    refine (if_neg (by decide)).trans ?_
    refine (if_neg (by decide)).trans ?_
    refine (if_neg (by decide)).trans ?_
    refine (if_neg (by decide)).trans ?_
    refine (if_neg (by decide)).trans ?_
    refine (if_pos rfl).trans ?_
    exact bnd bl (bnd su rfl)
  · unfold f_X10_ofTree
    refine gdE (yg61 H) (bnd b1 (bnd b3 ?_))
    refine (if_neg (by decide)).trans ?_
    refine (if_neg (by decide)).trans ?_
    refine (if_neg (by decide)).trans ?_
    refine (if_neg (by decide)).trans ?_
    refine (if_neg (by decide)).trans ?_
    refine (if_neg (by decide)).trans ?_
    refine (if_neg (by decide)).trans ?_
    refine (if_pos rfl).trans ?_
    refine bnd ia ?_
    show (if (if inA (sc0 A m) (A 3) s = true then (1 : Int32) else 0) = 0 then some ((0 : Int32), k2) else some (1, k2)) = some (if inA (sc0 A m) (A 3) s then 1 else 0, k2)
    cases inA (sc0 A m) (A 3) s <;> rfl
  · unfold f_X10_ofTree
    refine gdE (yg61 H) (bnd b1 (bnd b3 ?_))
    refine (if_neg (by decide)).trans ?_
    refine (if_neg (by decide)).trans ?_
    refine (if_neg (by decide)).trans ?_
    refine (if_neg (by decide)).trans ?_
    refine (if_neg (by decide)).trans ?_
    refine (if_neg (by decide)).trans ?_
    refine (if_neg (by decide)).trans ?_
    refine (if_neg (by decide)).trans ?_
    refine (if_pos rfl).trans ?_
    exact bnd rk rfl
  · unfold f_X10_ofTree
    refine gdE (yg61 H) (bnd b1 (bnd b3 ?_))
    refine (if_neg (by decide)).trans ?_
    refine (if_neg (by decide)).trans ?_
    refine (if_neg (by decide)).trans ?_
    refine (if_neg (by decide)).trans ?_
    refine (if_neg (by decide)).trans ?_
    refine (if_neg (by decide)).trans ?_
    refine (if_neg (by decide)).trans ?_
    refine (if_neg (by decide)).trans ?_
    refine (if_neg (by decide)).trans ?_
    refine (if_pos rfl).trans ?_
    exact bnd gn rfl
theorem e_treeP {g : Z_H} (G : LY g) {A : Nat → Int32} (eA : z_i (z_si g 61 0 0) 62 = A) (hN : VN A) {x z y : Int32} : ∃ lim, (((0 : Int32) ≤ y ∧ y ≤ 3) ∨ y = 9 ∨ y = 10 → lim = nI (lastN A)) ∧ (¬ (((0 : Int32) ≤ y ∧ y ≤ 3) ∨ y = 9 ∨ y = 10) → lim = nI (nwN A)) ∧ ∀ R, ((f_X10_isSeller (z_si g 61 0 0) 61 x).bind fun t7 => if t7 = 0 then (some ((-2), z_si g 61 0 0)) else ((f_X10_ofSeller (z_si g 61 0 0) 61 x 0).bind fun t8 => (f_X10_in (z_si g 61 0 0) z t8 lim).bind fun t9 => if t9 = 0 then (some ((-2), z_si g 61 0 0)) else (bd2 (f_X10_ofTree (z_si g 61 0 0) 61 x z y) fun t10 h11 => some (t10, h11)))) = some R → f_X10_tree g 61 x z y = some R := by
  have K0 : LY (z_si g 61 0 0) := G
  obtain ⟨n1, n2⟩ := e_last K0 eA hN
  have z1 : ¬ (1 : Int32) = 0 := by decide
  by_cases c1 : (0 : Int32) ≤ y ∧ y ≤ 3
  · refine ⟨nI (lastN A), fun _ => rfl, fun q => absurd (Or.inl c1) q, fun R hR => ?_⟩
    unfold f_X10_tree
    refine gdE (yg61 G) (bnd (yP61 G 0 0) (bnd (e_in_t c1.1 c1.2) (jnE (jnE ?_))))
    refine (if_neg z1).trans (jnE ?_)
    exact (if_neg z1).trans (bnd n1 (bnd n2 hR))
  · by_cases c2 : y = 9
    · refine ⟨nI (lastN A), fun _ => rfl, fun q => absurd (Or.inr (Or.inl c2)) q, fun R hR => ?_⟩
      unfold f_X10_tree
      refine gdE (yg61 G) (bnd (yP61 G 0 0) (bnd (e_in_f c1) (jnE (jnE ?_))))
      refine (if_pos rfl).trans ((if_pos c2).trans (jnE ?_))
      exact (if_neg z1).trans (bnd n1 (bnd n2 hR))
    · by_cases c3 : y = 10
      · refine ⟨nI (lastN A), fun _ => rfl, fun q => absurd (Or.inr (Or.inr c3)) q, fun R hR => ?_⟩
        unfold f_X10_tree
        refine gdE (yg61 G) (bnd (yP61 G 0 0) (bnd (e_in_f c1) (jnE (jnE ?_))))
        refine (if_pos rfl).trans ((if_neg c2).trans ((if_pos c3).trans (jnE ?_)))
        exact (if_neg z1).trans (bnd n1 (bnd n2 hR))
      · refine ⟨nI (nwN A), fun q => ?_, fun _ => rfl, fun R hR => ?_⟩
        · rcases q with q | q | q
          · exact absurd q c1
          · exact absurd q c2
          · exact absurd q c3
        · unfold f_X10_tree
          refine gdE (yg61 G) (bnd (yP61 G 0 0) (bnd (e_in_f c1) (jnE (jnE ?_))))
          refine (if_pos rfl).trans ((if_neg c2).trans ((if_neg c3).trans (jnE ?_)))
          exact (if_pos rfl).trans (bnd n1 hR)
theorem far_iff {w : Nat} (hw : w ≤ 10) : (((0 : Int32) ≤ nI w ∧ nI w ≤ 3) ∨ nI w = 9 ∨ nI w = 10) ↔ (w ≤ 3 ∨ 9 ≤ w) := by
  have : ∀ w, w < 11 → ((((0 : Int32) ≤ nI w ∧ nI w ≤ 3) ∨ nI w = 9 ∨ nI w = 10) ↔ (w ≤ 3 ∨ 9 ≤ w)) := by decide +kernel
  exact this w (by omega)
/-- whom one could be moved to -/
theorem c_open {h : Z_H} (I : Inv h) {s m : Nat} (rr : Nat → Int32) (hr : ∀ to, to < nn (z_i h 62) → f_X9_reasonAgainst h 0 (nI s) (nI to) (nI m) = some (rr to)) : f_X9_openSponsors h 0 (nI s) (nI m) = some (nI (bsN (fun to => decide (rr to = 0)) (nn (z_i h 62)))) := by
  have H := I.1
  have C := I.ca
  generalize eA : z_i h 62 = A at *
  have h10 := C.2.1.2.1
  have ec := C.n.1
  have key := lp_for (b := f_X9_openSponsors_l1 0 (nI s) (nI m) h) (fun k (_ : Unit) => (nI (bsN (fun to => decide (rr to = 0)) k), nI k)) (fun _ _ => True) (fun _ w => w) (fun _ => some (nI (bsN (fun to => decide (rr to = 0)) (nn A)))) (nn A) ?_ (fun _ _ _ _ => trivial) ?_ (nn A) FU 0 () (by omega) (by unfold FU; omega) trivial
  · have key' : lp (f_X9_openSponsors_l1 0 (nI s) (nI m) h) FU (0, 0) = _ := key
    unfold f_X9_openSponsors
    exact gdE (yg0 H) (bnd key' rfl)
  · intro rec k w hk _
    have bo := bs_or (p := fun to => decide (rr to = 0)) (k := k) (by omega)
    unfold f_X9_openSponsors_l1
    refine bnd (yR0_0 H) (bnd (yR1_2 H) (bnd ((yI13 H 0).trans (congrArg some ec)) ?_))
    refine (if_neg (nI_ge hk (by omega))).trans (bnd (hr k hk) (jnE ?_))
    by_cases c : rr k = 0
    · refine (if_pos c).trans (ltE ?_)
      rw [decide_eq_true c, if_pos rfl] at bo
      rw [bo, nI_1]
    · refine (if_neg c).trans ?_
      rw [decide_eq_false c, if_neg (by simp), or_0] at bo
      rw [bo, nI_1]
  · intro rec w _
    unfold f_X9_openSponsors_l1
    refine bnd (yR0_0 H) (bnd (yR1_2 H) (bnd ((yI13 H 0).trans (congrArg some ec)) ?_))
    exact if_pos (nI_le (Nat.le_refl _) (by omega))
theorem e_could {g : Z_H} (G : LY g) {A : Nat → Int32} (eA : z_i g 62 = A) (hN : VN A) (h14 : z_i g 61 14 = -1) {s m : Nat} (rr : Nat → Int32) (hr : ∀ to, to < nn A → ∀ q, (LY q ∧ z_i q 62 = A ∧ z_i q 61 14 = -1) → ∃ q', f_X10_reason q 61 (nI s) (nI to) (nI m) = some (rr to, q') ∧ QS q q') : ∃ g', f_X10_couldMove g 61 (nI s) (nI m) = some (nI (bsN (fun to => decide (rr to = 0)) (nn A)), g') ∧ QS g g' := by
  have h10 := hN.2.1
  have a145 : ∀ q : Z_H, LY q → z_i q 62 = A → aI q 62 145 = some (nI (nn A)) := fun q Q e => by
    have := yA62 (k := 145) Q (by omega)
    rw [e, hN.2.2.1] at this
    exact this
  have key := lp_ex (b := f_X10_couldMove_l1 61 (nI s) (nI m)) (fun k (q : Z_H) => (nI (bsN (fun to => decide (rr to = 0)) k), nI k, q)) (fun k q => QS g q) (fun q => some (nI (bsN (fun to => decide (rr to = 0)) (nn A)), q)) (nn A) ?_ ?_ (nn A) FU 0 g (by omega) (by unfold FU; omega) QS.rf
  · obtain ⟨q, q1, key⟩ := key
    have key' : lp (f_X10_couldMove_l1 61 (nI s) (nI m)) FU (0, 0, g) = _ := key
    refine ⟨q, ?_, q1⟩
    unfold f_X10_couldMove
    exact gdE (yg61 G) (bnd key' rfl)
  · intro k q hk hq
    have Q := hq.ly G
    have e := hq.a.trans eA
    obtain ⟨q', r1, r2⟩ := hr k hk q ⟨Q, e, hq.2.2.2.2.trans h14⟩
    refine ⟨q', hq.tr r2, fun rec => ?_⟩
    have bo := bs_or (p := fun to => decide (rr to = 0)) (k := k) (by omega)
    unfold f_X10_couldMove_l1
    refine bnd (yR61_1 Q) (bnd (a145 q Q e) ?_)
    refine (if_neg (nI_ge hk (by omega))).trans (bd2E r1 (jnE ?_))
    by_cases c : rr k = 0
    · refine (if_pos c).trans (ltE ?_)
      rw [decide_eq_true c, if_pos rfl] at bo
      rw [bo, nI_1]
    · refine (if_neg c).trans (ltE ?_)
      rw [decide_eq_false c, if_neg (by simp)] at bo
      rw [bo, nI_1]
  · intro rec q hq
    have Q := hq.ly G
    unfold f_X10_couldMove_l1
    refine bnd (yR61_1 Q) (bnd (a145 q Q (hq.a.trans eA)) ?_)
    exact if_pos (nI_le (Nat.le_refl _) (by omega))
theorem op_tree {h : Z_H} (I : Inv h) {x z y : Int32} : ∃ r h1 h2, f_X9_tree h 0 x z y = some (r, h1) ∧ f_X10_tree h1 61 x z y = some (r, h2) ∧ Inv h2 := by
  have H := I.1
  have C := I.ca
  have hv := I.v
  have L : LK (cl h) (z_i h 62) := I.2.1.lk
  have h14 := I.2.2.1
  have rs : ∀ x y z, ∃ r, f_X9_reasonAgainst h 0 x y z = some r ∧ ∀ g, (LY g ∧ z_i g 62 = z_i h 62 ∧ z_i g 61 14 = -1) → ∃ h', f_X10_reason g 61 x y z = some (r, h') ∧ QS g h' := fun x y z => by
    obtain ⟨r, r1, r2, -⟩ := rsn I (x := x) (y := y) (z := z)
    exact ⟨r, r1, r2⟩
  have op := fun s m rr hr => c_open I (s := s) (m := m) rr hr
  generalize eA : z_i h 62 = A at *
  have hN := hv.1
  have h10 := hN.2.1
  have h99 := hN.2.2.2.1
  have hl99 : lastN A ≤ 99 := by unfold lastN; omega
  obtain ⟨en, -⟩ := C.now
  have H1 : LY (z_si h 61 0 0) := H
  have e1 : z_i (z_si h 61 0 0) 62 = A := by rw [m62, eA]
  have hN1 : VN (z_i (z_si h 61 0 0) 62) := by rw [e1]; exact hN
  have z1 : ¬ (1 : Int32) = 0 := by decide
  obtain ⟨lim, l1, l2, l3⟩ := e_treeP (x := x) (z := z) (y := y) H e1 hN
  rcases nI_or (x := x) (n := nn A) (by omega) with ⟨s, hs, rfl⟩ | ⟨-, hx⟩
  · have it := e_isS_t (h := z_si h 61 0 0) (s := s) H1 hN1 (by rw [e1]; exact hs)
    have hC := hv.2.1 s hs
    have o0 := e_os0 (s := s) H1 (by omega)
    rw [e1, hC.1] at o0
    have ja : z_i h 14 s = nI (jo A s) := (C.2.2.2.2.2.1.2.2 s hs).1.trans hC.1
    rcases nI_or (x := y) (n := 11) (by omega) with ⟨w, hw, rfl⟩ | ⟨hyn, hy⟩
    · have elim : lim = nI (limT A w) := by
        unfold limT
        by_cases c : w ≤ 3 ∨ 9 ≤ w
        · rw [if_pos c]
          exact l1 ((far_iff (by omega)).mpr c)
        · rw [if_neg c]
          exact l2 (fun q => c ((far_iff (by omega)).mp q))
      subst elim
      have hlim : limT A w ≤ 99 := by unfold limT; split <;> omega
      by_cases hin : nI (jo A s) ≤ z ∧ z ≤ nI (limT A w)
      · obtain ⟨m, hm0, rfl⟩ := nI_of (x := z) (fun q => nI_pos (show jo A s < 2 ^ 31 by have := hC.2.1; omega) (Int32.lt_of_le_of_lt hin.1 q))
        have hjs := hC.2.1
        have hj : jo A s ≤ m := (nI_leI (by omega) (by omega)).mp hin.1
        have hl : m ≤ limT A w := (nI_leI (by omega) (by omega)).mp hin.2
        by_cases w10 : w = 10
        · subst w10
          have hl : m ≤ lastN A := hl
          let rr : Nat → Int32 := fun to => (rs (nI s) (nI to) (nI m)).choose
          have cop := op s m rr (fun to _ => (rs (nI s) (nI to) (nI m)).choose_spec.1)
          obtain ⟨k1, k2, b1, b2, b3, b4, b5, b6, b7⟩ := e_scene2 H1 e1 L I.m.2.2.1 (show m ≤ 99 by omega)
          have K2 := b4.ly (b2.ly H1)
          have d2 : z_i k2 62 = A := b4.a.trans (b2.a.trans e1)
          have d14 : z_i k2 61 14 = -1 := by rw [b4.2.2.2.2 14 (by omega), b2.2.2.2.2 14 (by omega)]; exact I.m.2.2.1
          obtain ⟨k3, c1, c2⟩ := e_could K2 d2 hN d14 (s := s) (m := m) rr (fun to _ q hq => (rs (nI s) (nI to) (nI m)).choose_spec.2 q hq)
          refine ⟨nI (bsN (fun to => decide (rr to = 0)) (nn A)), h, k3, ?_, l3 _ ?_, ((b2.tr b4).qs.tr c2).inv I.m⟩
          · unfold f_X9_tree
            refine gdE (yg0 H) (bnd (yR0_0 H) (bnd (yR1_2 H) (bnd (c_has_t C hs) ?_)))
            refine (if_neg z1).trans ((if_neg (by decide)).trans ((if_pos (by decide)).trans (jnE (jnE ?_))))
            refine (if_neg (by decide)).trans ((if_neg (by decide)).trans ?_)
            refine bnd (yR0_0 H) (bnd (yR1_2 H) (bnd (yR13_1 H) (bnd ((yA14 H (show s < 10 by omega)).trans (congrArg some ja)) ?_)))
            refine (if_neg (nI_nlt hj (by omega))).trans (jnE ?_)
            refine (if_neg z1).trans (bnd (c_last C) ?_)
            refine (if_pos (nI_le hl (by omega))).trans ((if_pos rfl).trans ?_)
            exact bnd cop rfl
          · refine bnd it ((if_neg z1).trans (bnd o0 (bnd (e_in_t hin.1 hin.2) ((if_neg z1).trans ?_))))
            refine bd2E (a := nI (bsN (fun to => decide (rr to = 0)) (nn A))) (b := k3) ?_ rfl
            unfold f_X10_ofTree
            refine gdE (yg61 H1) (bnd b1 (bnd b3 ?_))
            refine (if_neg (by decide)).trans ((if_neg (by decide)).trans ((if_neg (by decide)).trans ((if_neg (by decide)).trans ((if_neg (by decide)).trans ((if_neg (by decide)).trans ((if_neg (by decide)).trans ((if_neg (by decide)).trans ((if_neg (by decide)).trans ((if_neg (by decide)).trans ((if_pos rfl).trans ?_))))))))))
            exact bd2E c1 rfl
        · obtain ⟨g, c1, c2⟩ := c_tree C L hs hj (show w ≤ 9 by omega) hl (by omega)
          have Im := (c2.inv I).m
          have e8 : z_i (z_si g 61 0 0) 62 = A := by rw [m62, c2.a, eA]
          obtain ⟨lim8, m1, m2, m3⟩ := e_treeP (x := nI s) (z := nI m) (y := nI w) (c2.ly H) e8 hN
          have elim8 : lim8 = nI (limT A w) := by
            unfold limT
            by_cases c : w ≤ 3 ∨ 9 ≤ w
            · rw [if_pos c]
              exact m1 ((far_iff (by omega)).mpr c)
            · rw [if_neg c]
              exact m2 (fun q => c ((far_iff (by omega)).mp q))
          subst elim8
          obtain ⟨k, t1, t2⟩ := e_tree Im.1 e8 L Im.2.2.1 hs hj (show w ≤ 9 by omega) (show m ≤ 99 by omega)
          have it8 := e_isS_t (h := z_si g 61 0 0) (s := s) Im.1 (by rw [e8]; exact hN) (by rw [e8]; exact hs)
          have o08 := e_os0 (s := s) Im.1 (by omega)
          rw [e8, hC.1] at o08
          refine ⟨trS A m s w, g, k, c1, m3 _ ?_, t2.qs.inv Im⟩
          exact bnd it8 ((if_neg z1).trans (bnd o08 (bnd (e_in_t hin.1 hin.2) ((if_neg z1).trans (bd2E t1 rfl)))))
      · refine ⟨-2, h, z_si h 61 0 0, ?_, l3 _ ?_, I.m⟩
        · unfold f_X9_tree
          refine gdE (yg0 H) (bnd (yR0_0 H) (bnd (yR1_2 H) (bnd (c_has_t C hs) ?_)))
          refine (if_neg z1).trans ((if_neg (nI_pos (by omega))).trans ((if_pos (show nI w ≤ (10 : Int32) from nI_le (b := 10) (by omega) (by omega))).trans (jnE (jnE ?_))))
          have fin : ∀ y4 : Int32, y4 = (if w ≤ 3 ∨ 9 ≤ w then 1 else 0) → ((gR h 0 9 0).bind fun r6 => (gR h r6 7 2).bind fun r7 => (gR h r7 0 1).bind fun r8 => (aI h r8 (nI s)).bind fun t9 => if z < t9 then (some ((-2 : Int32), h)) else (jn (fun (y10 : Int32) => if z ≤ y10 then (if nI w = 10 then ((f_X9_openSponsors h 0 (nI s) z).bind fun t43 => some (t43, h)) else ((gR h 0 9 3).bind fun r12 => (gR h 0 9 0).bind fun r13 => (f_X6_look h r12 r13 z).bind fun h14 => if nI w = 0 then ((gR h14 0 9 3).bind fun r15 => (gR h14 r15 6 0).bind fun r16 => (aI h14 r16 (nI s)).bind fun t17 => some (t17, h14)) else (if nI w = 1 then ((gR h14 0 9 3).bind fun r18 => (f_X6_uplineLength h14 r18 (nI s)).bind fun t19 => some (t19, h14)) else (if nI w = 2 then ((gR h14 0 9 3).bind fun r20 => (gR h14 r20 6 4).bind fun r21 => (aI h14 r21 (nI s)).bind fun t22 => some (t22, h14)) else (if nI w = 3 then ((gR h14 0 9 3).bind fun r23 => (gR h14 r23 6 5).bind fun r24 => (aI h14 r24 (nI s)).bind fun t25 => some (t25, h14)) else (if nI w = 4 then ((gR h14 0 9 3).bind fun r26 => (gR h14 r26 6 1).bind fun r27 => (aI h14 r27 (nI s)).bind fun t28 => some (t28, h14)) else (if nI w = 5 then ((gR h14 0 9 3).bind fun r29 => (gR h14 r29 6 2).bind fun r30 => (aI h14 r30 (nI s)).bind fun t31 => some (t31, h14)) else (if nI w = 6 then ((gR h14 0 9 3).bind fun r32 => (gR h14 r32 6 3).bind fun r33 => (aI h14 r33 (nI s)).bind fun t34 => some (t34, h14)) else (if nI w = 7 then ((gR h14 0 9 3).bind fun r35 => (gI h14 r35 6 9).bind fun t36 => some (((t36 >>> (nI s &&& 31)) &&& 1), h14)) else (if nI w = 8 then ((gR h14 0 9 3).bind fun r37 => (gR h14 r37 6 7).bind fun r38 => (aI h14 r38 (nI s)).bind fun t39 => some (t39, h14)) else ((gR h14 0 9 3).bind fun r40 => (gR h14 r40 6 6).bind fun r41 => (aI h14 r41 (nI s)).bind fun t42 => some (t42, h14)))))))))))) else (some ((-2), h))) (fun j11 => if y4 = 0 then ((gR h 0 9 0).bind fun r44 => (gI h r44 7 8).bind fun t45 => j11 t45) else ((f_X9_lastTreeMonth h 0).bind fun t46 => j11 t46)))) = some (-2, h) := by
            intro y4 hy4
            refine bnd (yR0_0 H) (bnd (yR1_2 H) (bnd (yR13_1 H) (bnd ((yA14 H (show s < 10 by omega)).trans (congrArg some ja)) ?_)))
            by_cases c1 : z < nI (jo A s)
            · exact if_pos c1
            · refine (if_neg c1).trans (jnE ?_)
              have c2 : ¬ z ≤ nI (limT A w) := fun q => hin ⟨Int32.not_lt.mp c1, q⟩
              unfold limT at c2
              by_cases cf : w ≤ 3 ∨ 9 ≤ w
              · rw [if_pos cf] at hy4 c2
                rw [hy4]
                exact (if_neg z1).trans (bnd (c_last C) (if_neg c2))
              · rw [if_neg cf] at hy4 c2
                rw [hy4]
                exact (if_pos rfl).trans (bnd (yR0_0 H) (bnd ((yI1 H 8).trans (congrArg some en)) (if_neg c2)))
          by_cases c3 : w ≤ 3
          · refine (if_pos (show nI w ≤ (3 : Int32) from nI_le (b := 3) c3 (by omega))).trans ?_
            exact fin 1 (by rw [if_pos (Or.inl c3)])
          · refine (if_neg (show ¬ nI w ≤ (3 : Int32) from nI_ge (a := 3) (by omega) (by omega))).trans ?_
            by_cases c9 : 9 ≤ w
            · refine (if_neg (show ¬ nI w < (9 : Int32) from nI_nlt (b := 9) c9 (by omega))).trans ?_
              exact fin 1 (by rw [if_pos (Or.inr c9)])
            · refine (if_pos (show nI w < (9 : Int32) from nI_lt (b := 9) (by omega) (by omega))).trans ?_
              exact fin 0 (by rw [if_neg (by omega)])
        · exact bnd it ((if_neg z1).trans (bnd o0 (bnd (e_in_f hin) (if_pos rfl))))
    · have cN : f_X9_tree h 0 (nI s) z y = some (-2, h) := by
        unfold f_X9_tree
        refine gdE (yg0 H) (bnd (yR0_0 H) (bnd (yR1_2 H) (bnd (c_has_t C hs) ?_)))
        refine (if_neg z1).trans ?_
        rcases hy with q | ⟨q1, q2⟩
        · exact if_pos q
        · exact (if_neg q1).trans (if_neg (fun q => nI_ge (show 10 < 11 by omega) (by omega) (Int32.le_trans q2 q)))
      have elim : lim = nI (nwN A) := l2 (fun q => by
        rcases q with q | q | q
        · obtain ⟨w, hw, e⟩ := nI_of2 (x := y) (M := 3) (n := 3) rfl (Int32.not_lt.mpr q.1) q.2
          exact hyn w (by omega) e
        · exact hyn 9 (by omega) q
        · exact hyn 10 (by omega) q)
      subst elim
      by_cases hin : nI (jo A s) ≤ z ∧ z ≤ nI (nwN A)
      · obtain ⟨m, hm0, rfl⟩ := nI_of (x := z) (fun q => nI_pos (show jo A s < 2 ^ 31 by have := hC.2.1; omega) (Int32.lt_of_le_of_lt hin.1 q))
        have hl : m ≤ nwN A := (nI_leI (by omega) (by omega)).mp hin.2
        obtain ⟨k1, k2, b1, b2, b3, b4, b5, b6, b7⟩ := e_scene2 H1 e1 L I.m.2.2.1 (show m ≤ 99 by omega)
        refine ⟨-2, h, k2, cN, l3 _ ?_, (b2.tr b4).qs.inv I.m⟩
        refine bnd it ((if_neg z1).trans (bnd o0 (bnd (e_in_t hin.1 hin.2) ((if_neg z1).trans ?_))))
        refine bd2E (a := -2) (b := k2) ?_ rfl
        unfold f_X10_ofTree
        refine gdE (yg61 H1) (bnd b1 (bnd b3 ?_))
        exact (if_neg (hyn 0 (by omega))).trans ((if_neg (hyn 1 (by omega))).trans ((if_neg (hyn 2 (by omega))).trans ((if_neg (hyn 3 (by omega))).trans ((if_neg (hyn 4 (by omega))).trans ((if_neg (hyn 5 (by omega))).trans ((if_neg (hyn 6 (by omega))).trans ((if_neg (hyn 7 (by omega))).trans ((if_neg (hyn 8 (by omega))).trans ((if_neg (hyn 9 (by omega))).trans (if_neg (hyn 10 (by omega))))))))))))
      · exact ⟨-2, h, z_si h 61 0 0, cN, l3 _ (bnd it ((if_neg z1).trans (bnd o0 (bnd (e_in_f hin) (if_pos rfl))))), I.m⟩
  · refine ⟨-2, h, z_si h 61 0 0, ?_, l3 _ ?_, I.m⟩
    · unfold f_X9_tree
      refine gdE (yg0 H) (bnd (yR0_0 H) (bnd (yR1_2 H) (bnd (c_has_f C hx) ?_)))
      exact if_pos rfl
    · exact bnd (e_isS_f (h := z_si h 61 0 0) H1 hN1 (by rw [e1]; exact hx)) (if_pos rfl)
