/-! what is stale -/
theorem pu_step {A : Nat → Int32} {S : Sn} {m : Nat} {am : Int32} {s k : Nat} {q : PS} : q.1 ≤ (puG A S m am s k q).1 ∧ ∀ i, i < 7 * q.1 → (puG A S m am s k q).2.2 i = q.2.2 i := by
  unfold puG
  cases upk (sP S) k s with
  | none => exact ⟨Nat.le_refl _, fun _ _ => rfl⟩
  | some u =>
    dsimp only
    cases (decide (q.1 < 5) && inA S (A 3) u) with
    | false => exact ⟨Nat.le_refl _, fun _ _ => rfl⟩
    | true =>
      refine ⟨by show q.1 ≤ q.1 + 1; omega, fun i hi => ?_⟩
      show w7 q.2.2 (7 * q.1) _ i = q.2.2 i
      unfold w7
      rw [if_neg (by omega)]
theorem pu_mono {A : Nat → Int32} {S : Sn} {m : Nat} {am : Int32} {s : Nat} {q0 : PS} {j : Nat} : ∀ n, (itf (puG A S m am s) 1 j q0).1 ≤ (itf (puG A S m am s) 1 (j + n) q0).1 ∧ ∀ i, i < 7 * (itf (puG A S m am s) 1 j q0).1 → (itf (puG A S m am s) 1 (j + n) q0).2.2 i = (itf (puG A S m am s) 1 j q0).2.2 i := by
  intro n
  induction n with
  | zero => exact ⟨Nat.le_refl _, fun _ _ => rfl⟩
  | succ n ih =>
    rw [← Nat.add_assoc, itf_last]
    have st := pu_step (A := A) (S := S) (m := m) (am := am) (s := s) (k := 1 + (j + n)) (q := itf (puG A S m am s) 1 (j + n) q0)
    refine ⟨Nat.le_trans ih.1 st.1, fun i hi => ?_⟩
    rw [st.2 i (by have := ih.1; omega), ih.2 i hi]
def msS (A : Nat → Int32) (i : Nat) : Bool := (fnd (fun n => decide (¬ (rpS A i).2.2 (7 * n + 0) = whS A i n)) 0 (rpS A i).1).isSome
def stS (A : Nat → Int32) (i : Nat) : Bool := decide (¬ (rpS A i).1 = nq A i) || msS A i
theorem ms_t {A : Nat → Int32} {i : Nat} : msS A i = true ↔ ∃ n, n < (rpS A i).1 ∧ ¬ (rpS A i).2.2 (7 * n + 0) = whS A i n := by
  unfold msS
  rw [fnd_is]
  constructor
  · rintro ⟨n, h1, h2⟩
    exact ⟨n, h1, of_decide_eq_true h2⟩
  · rintro ⟨n, h1, h2⟩
    exact ⟨n, h1, decide_eq_true h2⟩
theorem c_stale {g : Z_H} {A : Nat → Int32} (C : CA g A) (hP : VP A) (hL : Lay g (sc0 A (nwN A)) (nwN A)) (hS : Scn g A (sc0 A (nwN A))) (hO : SOK (sc0 A (nwN A))) {i : Nat} (hi : i < nk A) : f_X9_staleInScene g 0 (nI i) = some (if stS A i then 1 else 0) := by
  have G := C.1
  have hN := C.2.1
  have h10 := hN.2.1
  have h40 := C.k.2
  obtain ⟨tk, h5⟩ := C.tk hi
  obtain ⟨hw, ew⟩ := sw_eq hN C.2.2.2.1 hi
  have wh : z_i g 22 i = nI (sw A i) := (c_sale C.2.2.2.2.2.2.1 hi).1.trans ew
  have ac : ACy (pr A (nwN A)) (nn A) := hO.2.1
  let S := sc0 A (nwN A)
  let qj : Nat → PS := fun j => itf (puG A S (nwN A) (naS A i) (sw A i)) 1 j (pu0 A (naS A i))
  have q10 : rpS A i = qj 10 := rfl
  have ql : ∀ j, qj (j + 1) = puG A S (nwN A) (naS A i) (sw A i) (j + 1) (qj j) := fun j => by
    show itf _ 1 (j + 1) _ = _
    rw [itf_last, show 1 + j = j + 1 by omega]
  have mono : ∀ j, j ≤ 10 → (qj j).1 ≤ (rpS A i).1 ∧ ∀ x, x < 7 * (qj j).1 → (rpS A i).2.2 x = (qj j).2.2 x := fun j hj => by
    have := pu_mono (A := A) (S := S) (m := nwN A) (am := naS A i) (s := sw A i) (q0 := pu0 A (naS A i)) (j := j) (10 - j)
    rw [show j + (10 - j) = 10 by omega] at this
    exact this
  have e51 : ∀ v, v < nn A → aI g 51 (nI v) = some (pe (pr A (nwN A) v)) := fun v hv => (yA51 G (by omega)).trans (congrArg some (hL.2.2.2.2 v hv).1)
  have noM : ∀ j, j ≤ 10 → (rpS A i).1 = (qj j).1 → (∀ n, n < (qj j).1 → (qj j).2.2 (7 * n + 0) = whS A i n) → stS A i = decide (¬ (rpS A i).1 = nq A i) := fun j hj e1 e2 => by
    unfold stS
    have : msS A i = false := by
      cases hm : msS A i with
      | false => rfl
      | true =>
        obtain ⟨n, n1, n2⟩ := ms_t.mp hm
        rw [e1] at n1
        exact absurd (((mono j hj).2 (7 * n + 0) (by omega)).trans (e2 n n1)) n2
    rw [this, Bool.or_false]
  have key := lp_ex3 (b := f_X9_staleInScene_l1 0 (nI i) g 21) (fun j (_ : Unit) => (nI (qj j).1, pe (upk (pr A (nwN A)) (j + 1) (sw A i)), nI j)) (fun j _ => (qj j).1 ≤ 5 ∧ (qj j).1 ≤ nq A i ∧ ∀ n, n < (qj j).1 → (qj j).2.2 (7 * n + 0) = whS A i n) (fun r => match r with
    | .inl _ => stS A i = true
    | .inr v => v = nI (rpS A i).1 ∧ (rpS A i).1 ≤ 5 ∧ stS A i = decide (¬ (rpS A i).1 = nq A i)) 10 ?_ ?_ 10 FU 0 () (by omega) (by unfold FU; omega) ⟨Nat.zero_le _, Nat.zero_le _, fun n hn => absurd hn (Nat.not_lt_zero _)⟩
  · obtain ⟨r, hr, key⟩ := key
    have e1 : upk (pr A (nwN A)) (0 + 1) (sw A i) = pr A (nwN A) (sw A i) := by rw [upk_next]; rfl
    rw [e1] at key
    have key' : lp (f_X9_staleInScene_l1 0 (nI i) g 21) FU (0, pe (pr A (nwN A) (sw A i)), 0) = some r := key
    unfold f_X9_staleInScene
    refine gdE (yg0 G) (bnd (yR0_0 G) (bnd (yR1_3 G) (bnd (yR0_3 G) (bnd (yR50_0 G) (bnd (yR21_1 G) (bnd ((yA22 G (show i < 40 by omega)).trans (congrArg some wh)) (bnd (e51 _ hw) (bnd key' ?_))))))))
    cases r with
    | inl u =>
      have hr : stS A i = true := hr
      rw [hr]
      rfl
    | inr v =>
      obtain ⟨r1, r2, r3⟩ := hr
      show ((gR g 21 5 6).bind fun r23 => (aI g r23 (nI i)).bind fun t24 => if v = t24 then some 0 else some 1) = _
      refine bnd (yR21_6 G) (bnd ((yA27 G (show i < 40 by omega)).trans (congrArg some tk)) ?_)
      rw [r1, r3]
      by_cases c : (rpS A i).1 = nq A i
      · rw [decide_eq_false (fun q => q c), if_pos (by rw [c])]
        rfl
      · rw [decide_eq_true c, if_neg (fun e => c ((nI_eq (by omega) (by omega)).mp e))]
        rfl
  · rintro j _ hj ⟨g1, g2, g3⟩
    cases hu : upk (pr A (nwN A)) (j + 1) (sw A i) with
    | none =>
      have st : (rpS A i) = qj j := itf_stay 10 (by omega) (fun k h1 _ => puG_n (upk_mono hu (by omega)))
      refine Or.inr ⟨.inr (nI (qj j).1), ⟨by rw [st], by rw [st]; exact g1, noM j (by omega) (by rw [st]) g3⟩, fun rec => ?_⟩
      unfold f_X9_staleInScene_l1
      refine (if_neg (show ¬ (10 : Int32) ≤ nI j from nI_ge (b := 10) hj (by omega))).trans ?_
      exact if_pos rfl
    | some u =>
      have hun := ac.lt hw hu
      have nxt : pe (pr A (nwN A) u) = pe (upk (pr A (nwN A)) (j + 1 + 1) (sw A i)) := by rw [upk_next, hu]; rfl
      have um : ¬ pe (some u) = -1 := nI_m1 (by omega)
      have c10 : ¬ (10 : Int32) ≤ nI j := nI_ge (b := 10) hj (by omega)
      by_cases c5 : (qj j).1 < 5
      · have gs := puG_s (A := A) (S := S) (m := nwN A) (am := naS A i) hu c5
        have ql' := (ql j).trans gs
        have ia := c_isActive (t := u) G hO.1 hS hun
        have n5 : ¬ (5 : Int32) ≤ nI (qj j).1 := nI_ge (b := 5) c5 (by omega)
        cases hI : inA S (A 3) u with
        | false =>
          rw [hI] at ql'
          have ia : f_X6_isActive g 50 (nI u) = some 0 := by rw [ia, hI]; rfl
          have ql' : qj (j + 1) = qj j := ql'
          refine Or.inl ⟨(), by rw [ql']; exact ⟨g1, g2, g3⟩, fun rec => ?_⟩
          rw [ql']
          unfold f_X9_staleInScene_l1
          refine (if_neg c10).trans ((if_neg um).trans ((if_neg n5).trans (bnd (yR0_3 G) (bnd ia (jnE ((if_pos rfl).trans ?_))))))
          refine bnd (yR0_3 G) (bnd (yR50_0 G) (bnd (e51 u hun) ?_))
          rw [nxt, nI_1]
        | true =>
          rw [hI] at ql'
          have ia : f_X6_isActive g 50 (nI u) = some 1 := by rw [ia, hI]; rfl
          have ql1 : (qj (j + 1)).1 = (qj j).1 + 1 := by rw [ql']; rfl
          have ql2 : ∀ x, x < 7 * (qj j).1 → (qj (j + 1)).2.2 x = (qj j).2.2 x := fun x hx => by
            rw [ql']
            show w7 (qj j).2.2 (7 * (qj j).1) _ x = _
            unfold w7
            rw [if_neg (by omega)]
          have ql3 : (qj (j + 1)).2.2 (7 * (qj j).1 + 0) = nI u := by
            rw [ql']
            show w7 (qj j).2.2 (7 * (qj j).1) _ (7 * (qj j).1 + 0) = _
            unfold w7
            rw [if_pos (by omega), show 7 * (qj j).1 + 0 - 7 * (qj j).1 = 0 by omega]
            rfl
          have pre : ∀ rec R, (if nI (nq A i) < nI (qj j).1 + 1 then some (.inl ()) else ((f_X5_fact g 21 (nI i) (nI (qj j).1 + 1) 0).bind fun t22 => if t22 = nI u then ((gR g 0 9 3).bind fun r17 => (gR g r17 6 0).bind fun r18 => (aI g r18 (nI u)).bind fun t19 => rec (nI (qj j).1 + 1, t19, (nI j + 1))) else some (.inl ()))) = R → f_X9_staleInScene_l1 0 (nI i) g 21 rec (nI (qj j).1, pe (some u), nI j) = R := fun rec R hR => by
            unfold f_X9_staleInScene_l1
            refine (if_neg c10).trans ((if_neg um).trans ((if_neg n5).trans (bnd (yR0_3 G) (bnd ia (jnE ((if_neg (show ¬ (1 : Int32) = 0 by decide)).trans ?_))))))
            exact bnd (yR21_6 G) (bnd ((yA27 G (show i < 40 by omega)).trans (congrArg some tk)) hR)
          have m1 := mono (j + 1) (by omega)
          by_cases ct : nq A i < (qj j).1 + 1
          · refine Or.inr ⟨.inl (), ?_, fun rec => pre rec _ ?_⟩
            · show stS A i = true
              unfold stS
              rw [decide_eq_true (show ¬ (rpS A i).1 = nq A i by have := m1.1; omega)]
              rfl
            · rw [nI_1]
              exact if_pos (nI_lt ct (by omega))
          · have fa := c_fact0 (i := i) (l := (qj j).1) G C.2.2.2.2.2.2.1 C.2.2.2.1 hi (by omega)
            by_cases cm : whS A i (qj j).1 = nI u
            · refine Or.inl ⟨(), ⟨by omega, by omega, fun n hn => ?_⟩, fun rec => pre rec _ ?_⟩
              · by_cases e : n = (qj j).1
                · rw [e, ql3, cm]
                · rw [ql2 _ (by omega)]
                  exact g3 n (by omega)
              · rw [nI_1, ql1]
                refine (if_neg (nI_nlt (by omega) (by omega))).trans (bnd fa ((if_pos cm).trans ?_))
                refine bnd (yR0_3 G) (bnd (yR50_0 G) (bnd (e51 u hun) ?_))
                rw [nxt, nI_1]
            · refine Or.inr ⟨.inl (), ?_, fun rec => pre rec _ ?_⟩
              · show stS A i = true
                unfold stS
                rw [ms_t.mpr ⟨(qj j).1, by have := m1.1; omega, by
                  rw [m1.2 _ (by omega), ql3]
                  exact fun e => cm e.symm⟩, Bool.or_true]
              · rw [nI_1]
                exact (if_neg (nI_nlt (by omega) (by omega))).trans (bnd fa (if_neg cm))
      · have st : (rpS A i) = qj j := itf_stay 10 (by omega) (fun k h1 _ => puG_5 c5)
        refine Or.inr ⟨.inr (nI (qj j).1), ⟨by rw [st], by rw [st]; exact g1, noM j (by omega) (by rw [st]) g3⟩, fun rec => ?_⟩
        unfold f_X9_staleInScene_l1
        exact (if_neg c10).trans ((if_neg um).trans (if_pos (show (5 : Int32) ≤ nI (qj j).1 from nI_le (a := 5) (by omega) (by omega))))
  · rintro _ ⟨g1, g2, g3⟩
    refine ⟨.inr (nI (qj 10).1), ⟨rfl, g1, noM 10 (by omega) rfl g3⟩, fun rec => ?_⟩
    unfold f_X9_staleInScene_l1
    exact if_pos (show (10 : Int32) ≤ nI 10 by decide)
theorem e_stale {h : Z_H} (H : LY h) {A T : Nat → Int32} {c : Nat → Nat → Int32} (eA : z_i h 62 = A) (R : RS c A T) (h14 : z_i h 61 14 = -1) {i : Nat} (hi : i < nk A) : ∃ h', f_X10_isStale h 61 (nI i) = some (if stS A i then 1 else 0, h') ∧ MW h h' := by
  have hS := R.1.2.2.1
  have h40 := hS.1
  obtain ⟨k, v1, v2, v5, v6, v7⟩ := e_laysRepaid H eA R h14 hi
  have K := v2.ly H
  have ek : z_i k 62 = A := v2.a.trans eA
  obtain ⟨-, -, -, q5, eq5, -, -⟩ := hS.2.2 i hi
  have o5 := e_oa5 (s := i) K (by omega)
  rw [ek, eq5] at o5
  have ol : ∀ n, n < 5 → f_X10_ofLevel k 61 (nI i) (nI n) 0 = some (whS A i n) := fun n hn => by
    rw [e_ol0 K (by omega) (by omega), ek]
    rfl
  have i7 : ∀ n, (7 : Int32) * nI n = nI (7 * n + 0) := fun n => by rw [n_7, nI_mul]; rfl
  have key := fun y5 hy => lp_ex3 (b := f_X10_isStale_l1 61 (nI i) k) (fun n (v : Int32) => (v, nI n)) (fun n v => (v = 1 ∧ ∀ n', n' < n → (rpS A i).2.2 (7 * n' + 0) = whS A i n') ∨ (v = 0 ∧ stS A i = true)) (fun r => (r = 1 ∧ msS A i = false) ∨ (r = 0 ∧ stS A i = true)) (rpS A i).1 ?_ ?_ (rpS A i).1 FU 0 y5 (by omega) (by unfold FU; omega) hy
  · have fin : ∀ y5 : Int32, y5 = (if (rpS A i).1 = nq A i then 1 else 0) → ∃ r, lp (f_X10_isStale_l1 61 (nI i) k) FU (y5, 0) = some r ∧ ((r = 1 ∧ stS A i = false) ∨ (r = 0 ∧ stS A i = true)) := fun y5 e => by
      by_cases c : (rpS A i).1 = nq A i
      · rw [if_pos c] at e
        obtain ⟨r, hr, kk⟩ := key y5 (Or.inl ⟨e, fun n' hn => by omega⟩)
        refine ⟨r, kk, ?_⟩
        rcases hr with ⟨r1, r2⟩ | hr
        · refine Or.inl ⟨r1, ?_⟩
          unfold stS
          rw [r2, decide_eq_false (fun q => q c)]
          rfl
        · exact Or.inr hr
      · rw [if_neg c] at e
        have st : stS A i = true := by
          unfold stS
          rw [decide_eq_true c]
          rfl
        obtain ⟨r, hr, kk⟩ := key y5 (Or.inr ⟨e, st⟩)
        refine ⟨r, kk, ?_⟩
        rcases hr with ⟨r1, r2⟩ | hr
        · exfalso
          have : lp (f_X10_isStale_l1 61 (nI i) k) FU (y5, 0) = some 0 := by
            show f_X10_isStale_l1 61 (nI i) k (lp (f_X10_isStale_l1 61 (nI i) k) 4999) (y5, 0) = some 0
            unfold f_X10_isStale_l1
            rw [e]
            refine bnd ((yI61 K 24).trans (congrArg some v6)) ?_
            by_cases c0 : nI (rpS A i).1 ≤ 0
            · exact if_pos c0
            · exact (if_neg c0).trans (if_pos rfl)
          have kk : lp (f_X10_isStale_l1 61 (nI i) k) FU (y5, 0) = some r := kk
          rw [this, r1] at kk
          exact absurd (Option.some.inj kk) (by decide)
        · exact Or.inr hr
    refine ⟨k, ?_, v2⟩
    unfold f_X10_isStale
    refine gdE (yg61 H) (bd2E v1 (bnd ((yI61 K 24).trans (congrArg some v6)) (bnd o5 (jnE ?_))))
    have last : ∀ y5 : Int32, y5 = (if (rpS A i).1 = nq A i then 1 else 0) → ((lp (f_X10_isStale_l1 61 (nI i) k) FU (y5, 0)).bind fun (v9 : Int32) => if v9 = 0 then (some ((1 : Int32), k)) else (some (0, k))) = some (if stS A i then 1 else 0, k) := fun y5 e => by
      obtain ⟨r, r1, r2⟩ := fin y5 e
      refine bnd r1 ?_
      rcases r2 with ⟨q1, q2⟩ | ⟨q1, q2⟩
      · rw [q1, q2]
        rfl
      · rw [q1, q2]
        rfl
    by_cases c : (rpS A i).1 = nq A i
    · refine (if_pos (by rw [c])).trans ?_
      exact last 1 (by rw [if_pos c])
    · refine (if_neg (fun e => c ((nI_eq (by omega) (by omega)).mp e))).trans ?_
      exact last 0 (by rw [if_neg c])
  · rintro n v hn hv
    rcases hv with ⟨e1, e2⟩ | ⟨e1, e2⟩
    · by_cases c : (rpS A i).2.2 (7 * n + 0) = whS A i n
      · refine Or.inl ⟨1, Or.inl ⟨rfl, fun n' hn' => ?_⟩, fun rec => ?_⟩
        · by_cases e : n' = n
          · rw [e]; exact c
          · exact e2 n' (by omega)
        · rw [e1]
          unfold f_X10_isStale_l1
          refine bnd ((yI61 K 24).trans (congrArg some v6)) ((if_neg (nI_ge hn (by omega))).trans ((if_neg (show ¬ (1 : Int32) = 0 by decide)).trans (bnd (yR61_23 K) ?_)))
          rw [i7]
          refine bnd ((yA70 K (show 7 * n + 0 < 35 by omega)).trans (congrArg some (v7 _ (by omega)))) (bnd (ol n (by omega)) (jnE ((if_pos c).trans ?_)))
          rw [nI_1]
      · refine Or.inl ⟨0, Or.inr ⟨rfl, ?_⟩, fun rec => ?_⟩
        · unfold stS
          rw [ms_t.mpr ⟨n, hn, c⟩, Bool.or_true]
        · rw [e1]
          unfold f_X10_isStale_l1
          refine bnd ((yI61 K 24).trans (congrArg some v6)) ((if_neg (nI_ge hn (by omega))).trans ((if_neg (show ¬ (1 : Int32) = 0 by decide)).trans (bnd (yR61_23 K) ?_)))
          rw [i7]
          refine bnd ((yA70 K (show 7 * n + 0 < 35 by omega)).trans (congrArg some (v7 _ (by omega)))) (bnd (ol n (by omega)) (jnE ((if_neg c).trans ?_)))
          rw [nI_1]
    · refine Or.inr ⟨0, Or.inr ⟨rfl, e2⟩, fun rec => ?_⟩
      rw [e1]
      unfold f_X10_isStale_l1
      exact bnd ((yI61 K 24).trans (congrArg some v6)) ((if_neg (nI_ge hn (by omega))).trans (if_pos rfl))
  · rintro v hv
    refine ⟨v, ?_, fun rec => ?_⟩
    · rcases hv with ⟨e1, e2⟩ | hv
      · refine Or.inl ⟨e1, ?_⟩
        cases hm : msS A i with
        | false => rfl
        | true =>
          obtain ⟨n, n1, n2⟩ := ms_t.mp hm
          exact absurd (e2 n n1) n2
      · exact Or.inr hv
    · unfold f_X10_isStale_l1
      exact bnd ((yI61 K 24).trans (congrArg some v6)) (if_pos (nI_le (Nat.le_refl _) (by omega)))
/-! balances -/
theorem CA.on {h h' : Z_H} {A : Nat → Int32} (C : CA h A) (x : ON h h' 33) : CA h' A := by
  have e : ∀ a, a < 33 → z_i h' a = z_i h a := fun a ha => x.2.2.2 a (by omega) (by omega)
  obtain ⟨c1, c2, c3, c4, c5, c6, c7, c8⟩ := C
  refine ⟨x.ly c1, c2, c3, c4, c5, ?_, ?_, ?_⟩
  · unfold RCc cl at *
    rw [e (1 + 12) (by omega), e (1 + 0) (by omega), e (1 + 13) (by omega), e (1 + 14) (by omega), e (1 + 19) (by omega), e (1 + 15) (by omega), e (1 + 16) (by omega)]
    exact c6
  · unfold RCs cl at *
    rw [e (1 + 20) (by omega), e (1 + 26) (by omega), e (1 + 27) (by omega)]
    refine ⟨c7.1, fun i hi => ⟨fun f hf => ?_, (c7.2 i hi).2⟩⟩
    rw [e (1 + (21 + f)) (by omega)]
    exact (c7.2 i hi).1 f hf
  · rw [e 4 (by omega)]
    exact c8
def blT (A : Nat → Int32) (x : Int32) (s i l : Nat) : Int32 := if nI i = x then 0 else if whS A i l = nI s then vS A i l (A 144) else 0
theorem eS_bl {A : Nat → Int32} {x : Int32} {s : Nat} : eS A (nI s) (A 144) x = sm (fun i => sm (blT A x s i) (nq A i)) (nk A) := eS_eq
theorem c_fill {h : Z_H} {A : Nat → Int32} (C : CA h A) {x : Int32} : ∃ h', f_X7_fillBalances h 1 x = some h' ∧ ON h h' 33 ∧ ∀ s, s < nn A → z_i h' 33 s = eS A (nI s) (A 144) x - A (147 + 94 * s + 3) := by
  have H := C.1
  obtain ⟨ec, h10⟩ := C.n
  have h40 := C.k.2
  have k1 := lp_ex (b := f_X7_fillBalances_l1 1) (fun k (g : Z_H) => (nI k, g)) (fun k g => ON h g 33 ∧ ∀ s, s < k → z_i g 33 s = - A (147 + 94 * s + 3)) some (nn A) ?_ ?_ (nn A) FU 0 h (by omega) (by unfold FU; omega) ⟨TW.rf, fun s hs => by omega⟩
  · obtain ⟨g, ⟨g1, g2⟩, k1⟩ := k1
    have k1' : lp (f_X7_fillBalances_l1 1) FU (0, h) = some g := k1
    have k2 := lp_ex (b := f_X7_fillBalances_l2 1 x) (fun k (q : Z_H) => (nI k, q)) (fun k q => ON h q 33 ∧ ∀ s, s < nn A → z_i q 33 s = - A (147 + 94 * s + 3) + sm (fun i => sm (blT A x s i) (nq A i)) k) some (nk A) ?_ ?_ (nk A) FU 0 g (by omega) (by unfold FU; omega) ⟨g1, fun s hs => by
      rw [g2 s hs]
      exact (add_0 _).symm⟩
    · obtain ⟨q, ⟨q1, q2⟩, k2⟩ := k2
      have k2' : lp (f_X7_fillBalances_l2 1 x) FU (0, g) = some q := k2
      refine ⟨q, ?_, q1, fun s hs => ?_⟩
      · unfold f_X7_fillBalances
        exact gdE (yg1 H) (bnd k1' (bnd k2' rfl))
      · rw [q2 s hs, eS_bl, Int32.add_comm, Int32.sub_eq_add_neg]
    · rintro k q hk ⟨q1, q2⟩
      have Cq := C.on q1
      have Q := Cq.1
      obtain ⟨ek, -⟩ := Cq.k
      obtain ⟨tk, h5⟩ := Cq.tk hk
      by_cases cx : nI k = x
      · refine ⟨q, ⟨q1, fun s hs => ?_⟩, fun rec => ?_⟩
        · rw [q2 s hs]
          show _ = _ + (sm (fun i => sm (blT A x s i) (nq A i)) k + sm (blT A x s k) (nq A k))
          rw [sm_zero (nq A k) (fun l _ => by unfold blT; rw [if_pos cx]), add_0]
        · have l3 : lp (f_X7_fillBalances_l3 1 (nI k) 0) FU (1, q) = some q := by
            show f_X7_fillBalances_l3 1 (nI k) 0 (lp (f_X7_fillBalances_l3 1 (nI k) 0) 4999) (1, q) = some q
            unfold f_X7_fillBalances_l3
            exact if_pos (by decide)
          unfold f_X7_fillBalances_l2
          refine bnd (yR1_3 Q) (bnd ((yI21 Q 0).trans (congrArg some ek)) ((if_neg (nI_ge hk (by omega))).trans (jnE ((if_pos cx).trans (bnd l3 ?_)))))
          rw [nI_1]
      · have l3 := lp_ex (b := f_X7_fillBalances_l3 1 (nI k) (nI (nq A k))) (fun l (r : Z_H) => (nI (l + 1), r)) (fun l r => ON q r 33 ∧ ∀ s, s < nn A → z_i r 33 s = z_i q 33 s + sm (blT A x s k) l) some (nq A k) ?_ ?_ (nq A k) FU 0 q (by omega) (by unfold FU; omega) ⟨TW.rf, fun s hs => (add_0 _).symm⟩
        · obtain ⟨r, ⟨r1, r2⟩, l3⟩ := l3
          have l3' : lp (f_X7_fillBalances_l3 1 (nI k) (nI (nq A k))) FU (1, q) = some r := l3
          refine ⟨r, ⟨q1.tr r1, fun s hs => ?_⟩, fun rec => ?_⟩
          · rw [r2 s hs, q2 s hs]
            exact Int32.add_assoc _ _ _
          · unfold f_X7_fillBalances_l2
            refine bnd (yR1_3 Q) (bnd ((yI21 Q 0).trans (congrArg some ek)) ((if_neg (nI_ge hk (by omega))).trans (jnE ((if_neg cx).trans ?_))))
            refine bnd (yR1_3 Q) (bnd (yR21_6 Q) (bnd ((yA27 Q (show k < 40 by omega)).trans (congrArg some tk)) (bnd l3' ?_)))
            rw [nI_1]
        · rintro l r hl ⟨r1, r2⟩
          have Cr := Cq.on r1
          have Rr := Cr.1
          obtain ⟨en, hq⟩ := Cr.vn
          obtain ⟨w, hw, ew⟩ := (C.2.2.2.1.2.2 k hk).2.2.2.2.2.1 l hl
          have fa := c_fact0 (i := k) (l := l) Rr Cr.2.2.2.2.2.2.1 Cr.2.2.2.1 hk hl
          rw [ew] at fa
          refine ⟨z_si r 33 w (z_i r 33 w + vS A k l (A 144)), ⟨r1.tr (TW_si (Or.inl rfl)), fun s hs => ?_⟩, fun rec => ?_⟩
          · rw [z_si_i]
            show _ = _ + (sm (blT A x s k) l + blT A x s k l)
            unfold blT
            rw [if_neg cx]
            by_cases e : s = w
            · rw [e, upd_s, if_pos ew, r2 w hw]
              exact Int32.add_assoc _ _ _
            · rw [upd_o e, if_neg (fun q => e (by
                rw [ew] at q
                exact ((nI_eq (by omega) (by omega)).mp q).symm)), add_0]
              exact r2 s hs
          · unfold f_X7_fillBalances_l3
            refine (if_neg (nI_nlt (by omega) (by omega))).trans (bnd (yR1_5 Rr) (bnd (yR1_3 Rr) (bnd fa (bnd (yA33 Rr (show w < 10 by omega)) (bnd ((yI1 Rr 8).trans (congrArg some en)) (bnd (Cr.ve hk hl hq) (bnd (yS33 Rr (show w < 10 by omega)) ?_)))))))
            rw [nI_1]
        · rintro rec r _
          unfold f_X7_fillBalances_l3
          exact if_pos (nI_lt (by omega) (by omega))
    · rintro rec q ⟨q1, q2⟩
      have Cq := C.on q1
      have Q := Cq.1
      obtain ⟨ek, -⟩ := Cq.k
      unfold f_X7_fillBalances_l2
      exact bnd (yR1_3 Q) (bnd ((yI21 Q 0).trans (congrArg some ek)) (if_pos (nI_le (Nat.le_refl _) (by omega))))
  · rintro k g hk ⟨g1, g2⟩
    have Cg := C.on g1
    have G := Cg.1
    have ecg := Cg.n.1
    have ed : z_i g 16 k = A (147 + 94 * k + 3) := (Cg.2.2.2.2.2.1.2.2 k hk).2.2.2.1
    refine ⟨z_si g 33 k (- A (147 + 94 * k + 3)), ⟨g1.tr (TW_si (Or.inl rfl)), fun s hs => ?_⟩, fun rec => ?_⟩
    · rw [z_si_i]
      by_cases e : s = k
      · rw [e, upd_s]
      · rw [upd_o e]
        exact g2 s (by omega)
    · unfold f_X7_fillBalances_l1
      refine bnd (yR1_2 G) (bnd ((yI13 G 0).trans (congrArg some ecg)) ((if_neg (nI_ge hk (by omega))).trans (bnd (yR1_5 G) (bnd (yR1_2 G) (bnd (yR13_3 G) (bnd ((yA16 G (show k < 10 by omega)).trans (congrArg some ed)) (bnd (yS33 G (show k < 10 by omega)) ?_)))))))
      rw [nI_1]
  · rintro rec g ⟨g1, g2⟩
    have Cg := C.on g1
    have G := Cg.1
    unfold f_X7_fillBalances_l1
    exact bnd (yR1_2 G) (bnd ((yI13 G 0).trans (congrArg some Cg.n.1)) (if_pos (nI_le (Nat.le_refl _) (by omega))))
def blS (A : Nat → Int32) (x : Int32) (s : Nat) : Int32 := eS A (nI s) (A 144) x - A (147 + 94 * s + 3)
theorem c_debtors {h : Z_H} {A : Nat → Int32} (C : CA h A) {x : Int32} : ∃ h', f_X7_debtorsWithout h 1 x = some (sm (fun s => if (0 : Int32) ≤ blS A x s then 0 else 1) (nn A), h') ∧ ON h h' 33 := by
  have H := C.1
  have h10 := C.n.2
  obtain ⟨g, f1, f2, f3⟩ := c_fill C (x := x)
  have Cg := C.on f2
  have G := Cg.1
  have key := lp_sum (b := f_X7_debtorsWithout_l1 1 g) (N := nn A) (fun s => if (0 : Int32) ≤ blS A x s then 0 else 1) (by omega) ?_ ?_ 0
  · refine ⟨g, ?_, f2⟩
    unfold f_X7_debtorsWithout
    refine gdE (yg1 H) (bnd f1 (bnd key ?_))
    rw [Int32.zero_add]
  · intro rec s a hs
    unfold f_X7_debtorsWithout_l1
    refine bnd (yR1_2 G) (bnd ((yI13 G 0).trans (congrArg some Cg.n.1)) ((if_neg (nI_ge hs (by omega))).trans (bnd (yR1_5 G) (bnd ((yA33 G (show s < 10 by omega)).trans (congrArg some (f3 s hs))) (jnE ?_)))))
    by_cases c : (0 : Int32) ≤ blS A x s
    · refine (if_pos c).trans (ltE ?_)
      rw [nI_1, if_pos c]
    · refine (if_neg c).trans (ltE ?_)
      rw [nI_1, if_neg c]
  · intro rec a
    unfold f_X7_debtorsWithout_l1
    exact bnd (yR1_2 G) (bnd ((yI13 G 0).trans (congrArg some Cg.n.1)) (if_pos (nI_le (Nat.le_refl _) (by omega))))
theorem c_allDebts {h : Z_H} {A : Nat → Int32} (C : CA h A) : ∃ h', f_X7_allDebts h 1 = some (sm (fun s => gre 0 (- blS A (-1) s)) (nn A), h') ∧ ON h h' 33 := by
  have H := C.1
  have h10 := C.n.2
  obtain ⟨g, f1, f2, f3⟩ := c_fill C (x := -1)
  have Cg := C.on f2
  have G := Cg.1
  have key := lp_sum (b := f_X7_allDebts_l1 1 g) (N := nn A) (fun s => gre 0 (- blS A (-1) s)) (by omega) ?_ ?_ 0
  · refine ⟨g, ?_, f2⟩
    unfold f_X7_allDebts
    refine gdE (yg1 H) (bnd f1 (bnd key ?_))
    rw [Int32.zero_add]
  · intro rec s a hs
    unfold f_X7_allDebts_l1
    refine bnd (yR1_2 G) (bnd ((yI13 G 0).trans (congrArg some Cg.n.1)) ((if_neg (nI_ge hs (by omega))).trans (bnd (yR1_5 G) (bnd ((yA33 G (show s < 10 by omega)).trans (congrArg some (f3 s hs))) (ltE ?_)))))
    rw [mx_gre, nI_1]
    rfl
  · intro rec a
    unfold f_X7_allDebts_l1
    exact bnd (yR1_2 G) (bnd ((yI13 G 0).trans (congrArg some Cg.n.1)) (if_pos (nI_le (Nat.le_refl _) (by omega))))
theorem e_spillOf {h : Z_H} (H : LY h) (hV : V (z_i h 62) (z_i h 63)) {x : Int32} : f_X10_spillOf h 61 x = some (sm (fun s => if (0 : Int32) ≤ blS (z_i h 62) x s then 0 else 1) (nn (z_i h 62))) := by
  have hN := hV.1
  have h10 := hN.2.1
  have hM := VS.m hN hV.2.2.1
  have key := lp_sum (b := f_X10_spillOf_l1 61 x h) (N := nn (z_i h 62)) (fun s => if (0 : Int32) ≤ blS (z_i h 62) x s then 0 else 1) (by omega) ?_ ?_ 0
  · unfold f_X10_spillOf
    refine gdE (yg61 H) (bnd key ?_)
    rw [Int32.zero_add]
  · intro rec s a hs
    obtain ⟨E, hE, eE⟩ := eS_nat hV.2.2.1 hV.2.2.2.2.2.2.2.1 hV.2.2.2.1.2.2.1 (nI s) (z_i h 62 144) x
    obtain ⟨D, hD, eD⟩ := (hV.2.1 s hs).2.2.2
    have iff : z_i h 62 (147 + 94 * s + 3) ≤ eS (z_i h 62) (nI s) (z_i h 62 144) x ↔ (0 : Int32) ≤ blS (z_i h 62) x s := by
      unfold blS
      rw [eE, eD]
      by_cases c : D ≤ E
      · rw [nI_sub c]
        exact ⟨fun _ => nI_pos' (by omega), fun _ => nI_le c (by omega)⟩
      · exact ⟨fun q => absurd q (nI_ge (by omega) (by omega)), fun q => absurd (sub_neg (by omega) (by omega)) (Int32.not_lt.mpr q)⟩
    unfold f_X10_spillOf_l1
    refine bnd (yR61_1 H) (bnd (e_145 H hN) ((if_neg (nI_ge hs (by omega))).trans (bnd (e_now H) (bnd (e_earnedAt H hM) (bnd (e_os3 H (by omega)) (jnE ?_))))))
    by_cases c : (0 : Int32) ≤ blS (z_i h 62) x s
    · refine (if_pos (iff.mpr c)).trans (ltE ?_)
      rw [nI_1, if_pos c]
    · refine (if_neg (fun q => c (iff.mp q))).trans (ltE ?_)
      rw [nI_1, if_neg c]
  · intro rec a
    unfold f_X10_spillOf_l1
    exact bnd (yR61_1 H) (bnd (e_145 H hN) (if_pos (nI_le (Nat.le_refl _) (by omega))))
