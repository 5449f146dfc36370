/-! all sellers, in the model -/
def allT (A : Nat → Int32) (w s : Nat) : Int32 := match w with
  | 9 => eS A (nI s) (A 144) (-1)
  | 10 => if qtB A s = false then nvS A (nI s) else 0
  | 11 => if qtB A s = true then nvS A (nI s) else 0
  | 12 => A (147 + 94 * s + 3)
  | 13 => gre 0 (- blS A (-1) s)
  | _ => if (0 : Int32) ≤ blS A (-1) s then 0 else 1
theorem e_ofAll {h : Z_H} (H : LY h) (hN : VN (z_i h 62)) (hM : MSale (z_i h 62)) {w : Nat} (hw : 9 ≤ w ∧ w ≤ 14) : f_X10_ofAll h 61 (nI w) = some (sm (allT (z_i h 62) w) (nn (z_i h 62))) := by
  have h10 := hN.2.1
  have key := lp_sum (b := f_X10_ofAll_l1 61 (nI w) h) (N := nn (z_i h 62)) (allT (z_i h 62) w) (by omega) ?_ ?_ 0
  · unfold f_X10_ofAll
    refine gdE (yg61 H) (bnd key ?_)
    rw [Int32.zero_add]
  · intro rec s a hs
    have bl := e_balanceOf (s := s) H hM (by omega)
    have hq := e_hasQuit (s := s) H (by omega)
    rw [qt_if] at hq
    unfold f_X10_ofAll_l1
    refine bnd (yR61_1 H) (bnd (e_145 H hN) ((if_neg (nI_ge hs (by omega))).trans (bnd bl (bnd hq (jnE ?_)))))
    have hw' : w = 9 ∨ w = 10 ∨ w = 11 ∨ w = 12 ∨ w = 13 ∨ w = 14 := by omega
    rcases hw' with rfl | rfl | rfl | rfl | rfl | rfl
    · refine (if_pos rfl).trans (bnd (e_now H) (bnd (e_earnedAt H hM) (ltE ?_)))
      rw [nI_1]
      rfl
    · refine (if_neg (by decide)).trans ((if_pos rfl).trans (jnE ?_))
      cases hb : qtB (z_i h 62) s with
      | false =>
        refine (if_pos (show (if false = true then (1 : Int32) else 0) = 0 by decide)).trans (bnd (e_notVested H hM) (ltE ?_))
        rw [nI_1]
        show _ = rec (a + (if qtB (z_i h 62) s = false then nvS (z_i h 62) (nI s) else 0), _)
        rw [if_pos hb]
      | true =>
        refine (if_neg (show ¬ (if true = true then (1 : Int32) else 0) = 0 by decide)).trans (ltE ?_)
        rw [nI_1]
        show _ = rec (a + (if qtB (z_i h 62) s = false then nvS (z_i h 62) (nI s) else 0), _)
        rw [if_neg (by rw [hb]; simp)]
    · refine (if_neg (by decide)).trans ((if_neg (by decide)).trans ((if_pos rfl).trans (jnE ?_)))
      cases hb : qtB (z_i h 62) s with
      | false =>
        refine (if_pos (show (if false = true then (1 : Int32) else 0) = 0 by decide)).trans (ltE ?_)
        rw [nI_1]
        show _ = rec (a + (if qtB (z_i h 62) s = true then nvS (z_i h 62) (nI s) else 0), _)
        rw [if_neg (by rw [hb]; simp)]
      | true =>
        refine (if_neg (show ¬ (if true = true then (1 : Int32) else 0) = 0 by decide)).trans (bnd (e_notVested H hM) (ltE ?_))
        rw [nI_1]
        show _ = rec (a + (if qtB (z_i h 62) s = true then nvS (z_i h 62) (nI s) else 0), _)
        rw [if_pos hb]
    · refine (if_neg (by decide)).trans ((if_neg (by decide)).trans ((if_neg (by decide)).trans ((if_pos rfl).trans (bnd (e_os3 H (by omega)) (ltE ?_)))))
      rw [nI_1]
      rfl
    · refine (if_neg (by decide)).trans ((if_neg (by decide)).trans ((if_neg (by decide)).trans ((if_neg (by decide)).trans ((if_pos rfl).trans (bnd e_greater (ltE ?_))))))
      rw [nI_1]
      rfl
    · refine (if_neg (by decide)).trans ((if_neg (by decide)).trans ((if_neg (by decide)).trans ((if_neg (by decide)).trans ((if_neg (by decide)).trans ((if_pos rfl).trans (jnE ?_))))))
      by_cases c : (0 : Int32) ≤ blS (z_i h 62) (-1) s
      · refine (if_pos c).trans (ltE ?_)
        rw [nI_1]
        show _ = rec (a + (if (0 : Int32) ≤ blS (z_i h 62) (-1) s then 0 else 1), _)
        rw [if_pos c]
      · refine (if_neg c).trans (ltE ?_)
        rw [nI_1]
        show _ = rec (a + (if (0 : Int32) ≤ blS (z_i h 62) (-1) s then 0 else 1), _)
        rw [if_neg c]
  · intro rec a
    unfold f_X10_ofAll_l1
    exact bnd (yR61_1 H) (bnd (e_145 H hN) (if_pos (nI_le (Nat.le_refl _) (by omega))))
theorem e_ofAll15 {h : Z_H} (H : LY h) (hN : VN (z_i h 62)) (hM : MSale (z_i h 62)) : f_X10_ofAll h 61 15 = some (nI (bsN (qtB (z_i h 62)) (nn (z_i h 62)))) := by
  have h10 := hN.2.1
  have key := lp_for (b := f_X10_ofAll_l1 61 15 h) (fun k (_ : Unit) => (nI (bsN (qtB (z_i h 62)) k), nI k)) (fun _ _ => True) (fun _ w => w) (fun _ => some (nI (bsN (qtB (z_i h 62)) (nn (z_i h 62))))) (nn (z_i h 62)) ?_ (fun _ _ _ _ => trivial) ?_ (nn (z_i h 62)) FU 0 () (by omega) (by unfold FU; omega) trivial
  · have key' : lp (f_X10_ofAll_l1 61 15 h) FU (0, 0) = _ := key
    unfold f_X10_ofAll
    exact gdE (yg61 H) (bnd key' rfl)
  · intro rec s w hs _
    have bl := e_balanceOf (s := s) H hM (by omega)
    have hq := e_hasQuit (s := s) H (by omega)
    rw [qt_if] at hq
    have bo := bs_or (p := qtB (z_i h 62)) (k := s) (by omega)
    unfold f_X10_ofAll_l1
    refine bnd (yR61_1 H) (bnd (e_145 H hN) ((if_neg (nI_ge hs (by omega))).trans (bnd bl (bnd hq (jnE ?_)))))
    refine (if_neg (by decide)).trans ((if_neg (by decide)).trans ((if_neg (by decide)).trans ((if_neg (by decide)).trans ((if_neg (by decide)).trans ((if_neg (by decide)).trans (jnE ?_))))))
    cases hb : qtB (z_i h 62) s with
    | true =>
      rw [hb, if_pos rfl] at bo
      refine (if_neg (show ¬ (if true = true then (1 : Int32) else 0) = 0 by decide)).trans (ltE ?_)
      rw [bo, nI_1]
    | false =>
      rw [hb, if_neg (by simp)] at bo
      refine (if_pos (show (if false = true then (1 : Int32) else 0) = 0 by decide)).trans (ltE ?_)
      rw [bo, nI_1]
  · intro rec w _
    unfold f_X10_ofAll_l1
    exact bnd (yR61_1 H) (bnd (e_145 H hN) (if_pos (nI_le (Nat.le_refl _) (by omega))))
/-! the greatest rank -/
def grG (A : Nat → Int32) (s j k : Nat) (q : Int32 × Int32) : Int32 × Int32 := if nI (rnk A (sc0 A (j + k)) s) ≤ q.1 then q else (nI (rnk A (sc0 A (j + k)) s), nI (j + k))
def grS (A : Nat → Int32) (s : Nat) : Int32 × Int32 := itf (grG A s (jo A s)) 0 (nwN A + 1 - jo A s) (-1, -1)
theorem c_greatest {h : Z_H} (I : Inv h) {s : Nat} (hs : s < nn (z_i h 62)) {b : Int32} : ∃ g, f_X9_greatestRank h 0 (nI s) b = some (if b = 0 then (grS (z_i h 62) s).1 else (grS (z_i h 62) s).2, g) ∧ QS h g := by
  have H := I.1
  have Iq : ∀ g, QS h g → CA g (z_i h 62) ∧ LK (cl g) (z_i h 62) := fun g q => by
    have i := q.inv I
    have a := i.ca
    have d := i.2.1.lk
    rw [q.a] at a d
    exact ⟨a, d⟩
  generalize eA : z_i h 62 = A at *
  have hv := (Iq h QS.rf).1
  have hN := hv.2.1
  have h10 := hN.2.1
  have h99 := hN.2.2.2.1
  have hj := (hv.2.2.1 s hs).2.1
  have ja : z_i h 14 s = nI (jo A s) := (hv.2.2.2.2.2.1.2.2 s hs).1.trans (hv.2.2.1 s hs).1
  have key := lp_ex2 (b := f_X9_greatestRank_l1 0 (nI s)) (fun k (g : Z_H) => ((itf (grG A s (jo A s)) 0 k (-1, -1)).1, (itf (grG A s (jo A s)) 0 k (-1, -1)).2, nI (jo A s + k), g)) (fun k g => QS h g) (fun g => some ((grS A s).1, (grS A s).2, g)) (nwN A + 1 - jo A s) ?_ ?_ (nwN A + 1 - jo A s) FU 0 h (by omega) (by unfold FU; omega) QS.rf
  · obtain ⟨g, g1, key⟩ := key
    rw [Nat.add_zero] at key
    have key' : lp (f_X9_greatestRank_l1 0 (nI s)) FU (-1, -1, nI (jo A s), h) = some ((grS A s).1, (grS A s).2, g) := key
    refine ⟨g, ?_, g1⟩
    unfold f_X9_greatestRank
    refine gdE (yg0 H) (bnd (yR0_0 H) (bnd (yR1_2 H) (bnd (yR13_1 H) (bnd ((yA14 H (show s < 10 by omega)).trans (congrArg some ja)) (bnd key' ?_)))))
    by_cases c : b = 0
    · rw [if_pos c]
      exact if_pos c
    · rw [if_neg c]
      exact if_neg c
  · intro k g hk hg
    obtain ⟨C, L⟩ := Iq g hg
    have G := C.1
    have en := C.now.1
    have il : itf (grG A s (jo A s)) 0 (k + 1) (-1, -1) = grG A s (jo A s) k (itf (grG A s (jo A s)) 0 k (-1, -1)) := by rw [itf_last, Nat.zero_add]
    have rl := fun m => rnk_le (A := A) (S := sc0 A m) (t := s)
    by_cases c3 : (3 : Int32) ≤ (itf (grG A s (jo A s)) 0 k (-1, -1)).1
    · have st : grS A s = itf (grG A s (jo A s)) 0 k (-1, -1) := itf_stay _ (by omega) (fun j h1 _ => by
        unfold grG
        exact if_pos (Int32.le_trans (nI_le (b := 3) (rl _) (by omega)) c3))
      refine Or.inr ⟨hg, fun rec => ?_⟩
      rw [st]
      unfold f_X9_greatestRank_l1
      refine bnd (yR0_0 G) (bnd ((yI1 G 8).trans (congrArg some en)) ((if_neg (nI_nlt (by omega) (by omega))).trans ?_))
      exact if_pos c3
    · obtain ⟨g', p1, p2, p3, p4⟩ := c_look G (show jo A s + k ≤ 99 by omega) L
      have G' := p2.ly G
      have q58 := (p4.2 s hs).2.2.2.2
      refine Or.inl ⟨g', hg.tr p2.qs, fun rec => ?_⟩
      rw [il]
      generalize itf (grG A s (jo A s)) 0 k (-1, -1) = q at *
      unfold f_X9_greatestRank_l1 grG
      refine bnd (yR0_0 G) (bnd ((yI1 G 8).trans (congrArg some en)) ((if_neg (nI_nlt (by omega) (by omega))).trans ((if_neg c3).trans ?_)))
      refine bnd (yR0_3 G) (bnd (yR0_0 G) (bnd p1 (bnd (yR0_3 G') (bnd (yR50_7 G') (bnd ((yA58 G' (show s < 11 by omega)).trans (congrArg some q58)) (jnE ?_))))))
      by_cases c : nI (rnk A (sc0 A (jo A s + k)) s) ≤ q.1
      · refine (if_pos c).trans ?_
        rw [if_pos c]
        show rec (q.1, q.2, nI (jo A s + k) + 1, g') = _
        rw [nI_1]
        rfl
      · refine (if_neg c).trans (bnd (yR0_3 G') (bnd (yR50_7 G') (bnd ((yA58 G' (show s < 11 by omega)).trans (congrArg some q58)) ?_)))
        rw [if_neg c]
        show rec (_, _, nI (jo A s + k) + 1, g') = _
        rw [nI_1]
        rfl
  · intro rec g hg
    obtain ⟨C, L⟩ := Iq g hg
    have G := C.1
    unfold f_X9_greatestRank_l1
    refine bnd (yR0_0 G) (bnd ((yI1 G 8).trans (congrArg some C.now.1)) ?_)
    exact if_pos (nI_lt (by omega) (by omega))
theorem e_best {h : Z_H} (H : LY h) {A : Nat → Int32} {c : Nat → Nat → Int32} (eA : z_i h 62 = A) (L : LK c A) (h14 : z_i h 61 14 = -1) {s : Nat} (hs : s < nn A) {b : Int32} : ∃ g, f_X10_bestRank h 61 (nI s) b = some (if b = 0 then (grS A s).1 else (grS A s).2, g) ∧ MW h g := by
  have hN := L.1
  have h10 := hN.2.1
  have h99 := hN.2.2.2.1
  have e144 : A 144 = nI (nwN A) := hN.2.2.2.2
  have hj := (L.2.1 s hs).2.1
  obtain ⟨h1, w1, w2, w3⟩ := e_laysOwn H eA hN L.2.2.2.2.2.2.2.2.a
  have H1 := w2.ly H
  have mw1 := w2.mw (show 64 ≤ 68 ∧ 68 ≤ 70 by omega)
  have e1 : z_i h1 62 = A := mw1.a.trans eA
  have o0 := e_os0 (s := s) H1 (by omega)
  rw [e1, (L.2.1 s hs).1] at o0
  have key := lp_ex (b := f_X10_bestRank_l1 61 (nI s)) (fun k (g : Z_H) => ((itf (grG A s (jo A s)) 0 k (-1, -1)).1, (itf (grG A s (jo A s)) 0 k (-1, -1)).2, nI (jo A s + k), g)) (fun k g => MW h1 g ∧ z_i g 68 = z_i h1 68) (fun g => some ((grS A s).1, (grS A s).2, g)) (nwN A + 1 - jo A s) ?_ ?_ (nwN A + 1 - jo A s) FU 0 h1 (by omega) (by unfold FU; omega) ⟨MW.rf, rfl⟩
  · obtain ⟨g, ⟨g1, g2⟩, key⟩ := key
    rw [Nat.add_zero] at key
    have key' : lp (f_X10_bestRank_l1 61 (nI s)) FU (-1, -1, nI (jo A s), h1) = some ((grS A s).1, (grS A s).2, g) := key
    refine ⟨g, ?_, mw1.tr g1⟩
    unfold f_X10_bestRank
    refine gdE (yg61 H) (bnd w1 (bnd o0 (bnd key' ?_)))
    by_cases c : b = 0
    · rw [if_pos c]
      exact if_pos c
    · rw [if_neg c]
      exact if_neg c
  · rintro k g hk ⟨g1, g2⟩
    have G := g1.ly H1
    have eg : z_i g 62 = A := g1.a.trans e1
    have nw : f_X10_now g 61 = some (nI (nwN A)) := by rw [e_now G, eg, e144]
    obtain ⟨g', s1, s2, s3, s4⟩ := e_scene (m := jo A s + k) G eg L (by rw [g1.2.2.2.2 14 (by omega), mw1.2.2.2.2 14 (by omega)]; exact h14) (by omega) (fun t mo ht hmo => by rw [g2]; exact w3 t mo ht hmo)
    have G' := s2.ly G
    have eg' : z_i g' 62 = A := s2.a.trans eg
    have rk := e_rankOf (t := s) G' s4 (L.ok (show jo A s + k ≤ 99 by omega)) (by rw [eg']; exact hN) (by rw [eg']; exact L.2.2.1.2.2.2.1) (by omega)
    rw [eg'] at rk
    have il : itf (grG A s (jo A s)) 0 (k + 1) (-1, -1) = grG A s (jo A s) k (itf (grG A s (jo A s)) 0 k (-1, -1)) := by rw [itf_last, Nat.zero_add]
    refine ⟨g', ⟨g1.tr s2, s3.trans g2⟩, fun rec => ?_⟩
    rw [il]
    generalize itf (grG A s (jo A s)) 0 k (-1, -1) = q at *
    unfold f_X10_bestRank_l1 grG
    refine bnd nw ((if_neg (nI_nlt (by omega) (by omega))).trans (bnd s1 (bnd rk (jnE ?_))))
    by_cases c : nI (rnk A (sc0 A (jo A s + k)) s) ≤ q.1
    · refine (if_pos c).trans (bnd e_greater ?_)
      rw [if_pos c]
      have eg : gre q.1 (nI (rnk A (sc0 A (jo A s + k)) s)) = q.1 := by
        unfold gre
        by_cases c2 : q.1 ≤ nI (rnk A (sc0 A (jo A s + k)) s)
        · rw [if_pos c2]
          exact Int32.le_antisymm c c2
        · rw [if_neg c2]
      rw [eg, nI_1]
      rfl
    · refine (if_neg c).trans (bnd e_greater ?_)
      rw [if_neg c]
      have eg : gre q.1 (nI (rnk A (sc0 A (jo A s + k)) s)) = nI (rnk A (sc0 A (jo A s + k)) s) := by
        unfold gre
        rw [if_pos (Int32.le_of_lt (Int32.not_le.mp c))]
      rw [eg, nI_1]
      rfl
  · rintro rec g ⟨g1, g2⟩
    have G := g1.ly H1
    have nw : f_X10_now g 61 = some (nI (nwN A)) := by rw [e_now G, g1.a.trans e1, e144]
    unfold f_X10_bestRank_l1
    exact bnd nw (if_pos (nI_lt (by omega) (by omega)))
def gnG (A : Nat → Int32) (k b : Nat) : Nat := if rnk A (sc0 A (nwN A)) k ≤ rnk A (sc0 A (nwN A)) b then b else k
def gnS2 (A : Nat → Int32) : Nat := itf (gnG A) 1 (nn A - 1) 0
theorem gn_lt {A : Nat → Int32} (hN : VN A) : gnS2 A < nn A := itf_inv (P := fun _ b => b < nn A) (nn A - 1) 1 0 (by have := hN.1; omega) (fun k b h1 h2 hb => by
  have := hN.1
  unfold gnG
  split
  · exact hb
  · omega)
theorem c_greatNow {h : Z_H} (I : Inv h) {b : Int32} : ∃ g, f_X9_greatestNow h 0 b = some (if b = 0 then nI (rnk (z_i h 62) (sc0 (z_i h 62) (nwN (z_i h 62))) (gnS2 (z_i h 62))) else nI (gnS2 (z_i h 62)), g) ∧ QS h g := by
  have H := I.1
  have C0 := I.ca
  have L : LK (cl h) (z_i h 62) := I.2.1.lk
  have Iq : ∀ g, QS h g → CA g (z_i h 62) := fun g q => by
    have a := (q.inv I).ca
    rw [q.a] at a
    exact a
  generalize eA : z_i h 62 = A at *
  have hN := L.1
  have h10 := hN.2.1
  obtain ⟨en, h99⟩ := C0.now
  obtain ⟨g, p1, p2, p3, p4⟩ := c_look H h99 L
  have C := Iq g p2.qs
  have G := C.1
  have ec := C.n.1
  have q58 : ∀ t, t < nn A → aI g 58 (nI t) = some (nI (rnk A (sc0 A (nwN A)) t)) := fun t ht => (yA58 G (by omega)).trans (congrArg some (p4.2 t ht).2.2.2.2)
  have rl := fun t => rnk_le (A := A) (S := sc0 A (nwN A)) (t := t)
  have key := lp_for (b := f_X9_greatestNow_l1 0 g) (fun k (b : Nat) => (nI b, nI k)) (fun _ b => b < nn A) (gnG A) (fun b => some (nI b)) (nn A) ?_ (fun k b hk hb => by
    unfold gnG
    split
    · exact hb
    · exact hk) ?_ (nn A - 1) FU 1 0 (by have := hN.1; omega) (by unfold FU; omega) (by have := hN.1; omega)
  · have key' : lp (f_X9_greatestNow_l1 0 g) FU (0, 1) = some (nI (gnS2 A)) := key
    refine ⟨g, ?_, p2.qs⟩
    unfold f_X9_greatestNow
    refine gdE (yg0 H) (bnd (yR0_3 H) (bnd (yR0_0 H) (bnd (yR0_0 H) (bnd ((yI1 H 8).trans (congrArg some en)) (bnd p1 (bnd key' ?_))))))
    by_cases c : b = 0
    · rw [if_pos c, if_pos c]
      exact bnd (yR0_3 G) (bnd (yR50_7 G) (bnd (q58 _ (gn_lt hN)) rfl))
    · rw [if_neg c, if_neg c]
  · intro rec k b hk hb
    have r1 := rl k
    have r2 := rl b
    unfold f_X9_greatestNow_l1 gnG
    refine bnd (yR0_0 G) (bnd (yR1_2 G) (bnd ((yI13 G 0).trans (congrArg some ec)) ((if_neg (nI_ge hk (by omega))).trans ?_)))
    refine bnd (yR0_3 G) (bnd (yR50_7 G) (bnd (q58 k hk) (bnd (yR0_3 G) (bnd (yR50_7 G) (bnd (q58 b hb) (jnE ?_))))))
    by_cases c : rnk A (sc0 A (nwN A)) k ≤ rnk A (sc0 A (nwN A)) b
    · refine (if_pos (nI_le c (by omega))).trans ?_
      rw [if_pos c, nI_1]
    · refine (if_neg (nI_ge (by omega) (by omega))).trans ?_
      rw [if_neg c, nI_1]
  · intro rec b _
    unfold f_X9_greatestNow_l1
    exact bnd (yR0_0 G) (bnd (yR1_2 G) (bnd ((yI13 G 0).trans (congrArg some ec)) (if_pos (nI_le (Nat.le_refl _) (by omega)))))
theorem e_greatest {g : Z_H} (G : LY g) {A : Nat → Int32} {c : Nat → Nat → Int32} (eA : z_i g 62 = A) (L : LK c A) (M : MSn g (sc0 A (nwN A)) (nwN A)) {b : Int32} : f_X10_greatest g 61 b = some (if b = 0 then nI (rnk A (sc0 A (nwN A)) (gnS2 A)) else nI (gnS2 A)) := by
  have hN := L.1
  have h10 := hN.2.1
  have h99 := hN.2.2.2.1
  have rk : ∀ t, t < nn A → f_X10_rankOf g 61 (nI t) = some (nI (rnk A (sc0 A (nwN A)) t)) := fun t ht => by
    have := e_rankOf (t := t) G M (L.ok h99) (by rw [eA]; exact hN) (by rw [eA]; exact L.2.2.1.2.2.2.1) (by omega)
    rw [eA] at this
    exact this
  have e19 : z_i g 61 19 = nI (nn A) := M.1.1
  have rl := fun t => rnk_le (A := A) (S := sc0 A (nwN A)) (t := t)
  have key := lp_for (b := f_X10_greatest_l1 61 g) (fun k (b : Nat) => (nI b, nI k)) (fun _ b => b < nn A) (gnG A) (fun b => some (nI b)) (nn A) ?_ (fun k b hk hb => by
    unfold gnG
    split
    · exact hb
    · exact hk) ?_ (nn A - 1) FU 1 0 (by have := hN.1; omega) (by unfold FU; omega) (by have := hN.1; omega)
  · have key' : lp (f_X10_greatest_l1 61 g) FU (0, 1) = some (nI (gnS2 A)) := key
    unfold f_X10_greatest
    refine gdE (yg61 G) (bnd key' ?_)
    by_cases c : b = 0
    · rw [if_pos c, if_pos c]
      exact bnd (rk _ (gn_lt hN)) rfl
    · rw [if_neg c, if_neg c]
  · intro rec k b hk hb
    have r1 := rl k
    have r2 := rl b
    unfold f_X10_greatest_l1 gnG
    refine bnd ((yI61 G 19).trans (congrArg some e19)) ((if_neg (nI_ge hk (by omega))).trans (bnd (rk k hk) (bnd (rk b hb) (jnE ?_))))
    by_cases c : rnk A (sc0 A (nwN A)) k ≤ rnk A (sc0 A (nwN A)) b
    · refine (if_pos (nI_le c (by omega))).trans ?_
      rw [if_pos c, nI_1]
    · refine (if_neg (nI_ge (by omega) (by omega))).trans ?_
      rw [if_neg c, nI_1]
  · intro rec b _
    unfold f_X10_greatest_l1
    exact bnd ((yI61 G 19).trans (congrArg some e19)) (if_pos (nI_le (Nat.le_refl _) (by omega)))
theorem e_activeNow {g : Z_H} (G : LY g) {A : Nat → Int32} {c : Nat → Nat → Int32} (eA : z_i g 62 = A) (L : LK c A) (M : MSn g (sc0 A (nwN A)) (nwN A)) : f_X10_activeNow g 61 = some (nI (bsN (inA (sc0 A (nwN A)) (A 3)) (nn A))) := by
  have hN := L.1
  have h10 := hN.2.1
  have e19 : z_i g 61 19 = nI (nn A) := M.1.1
  have nw : f_X10_now g 61 = some (nI (nwN A)) := by rw [e_now G, eA, hN.2.2.2.2]
  have key := lp_for (b := f_X10_activeNow_l1 61 g) (fun k (_ : Unit) => (nI (bsN (inA (sc0 A (nwN A)) (A 3)) k), nI k)) (fun _ _ => True) (fun _ w => w) (fun _ => some (nI (bsN (inA (sc0 A (nwN A)) (A 3)) (nn A)))) (nn A) ?_ (fun _ _ _ _ => trivial) ?_ (nn A) FU 0 () (by omega) (by unfold FU; omega) trivial
  · have key' : lp (f_X10_activeNow_l1 61 g) FU (0, 0) = _ := key
    unfold f_X10_activeNow
    exact gdE (yg61 G) (bnd key' rfl)
  · intro rec k w hk _
    have ia := e_isActive (t := k) G M (by rw [eA]; exact hN) hk
    rw [eA, inA_t (th_now (L.2.1 k hk))] at ia
    have bo := bs_or (p := inA (sc0 A (nwN A)) (A 3)) (k := k) (by omega)
    unfold f_X10_activeNow_l1
    refine bnd ((yI61 G 19).trans (congrArg some e19)) ((if_neg (nI_ge hk (by omega))).trans (bnd nw (bnd ia (jnE ?_))))
    cases hb : inA (sc0 A (nwN A)) (A 3) k with
    | true =>
      rw [hb, if_pos rfl] at bo
      refine (if_neg (show ¬ (if true = true then (1 : Int32) else 0) = 0 by decide)).trans (ltE ?_)
      rw [bo, nI_1]
    | false =>
      rw [hb, if_neg (by simp)] at bo
      refine (if_pos (show (if false = true then (1 : Int32) else 0) = 0 by decide)).trans (ltE ?_)
      rw [bo, nI_1]
  · intro rec w _
    unfold f_X10_activeNow_l1
    exact bnd ((yI61 G 19).trans (congrArg some e19)) (if_pos (nI_le (Nat.le_refl _) (by omega)))
