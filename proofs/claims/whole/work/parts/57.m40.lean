def lastN (A : Nat → Int32) : Nat := min (nwN A + 6) 99
def rgB (A : Nat → Int32) (s to mo : Nat) : Bool := (fnd (fun k => !owB A s mo (mo + k) && (lv (pr A (mo + k)) to s).isSome) 0 (lastN A + 1 - mo)).isSome
def hmO (A : Nat → Int32) (s m : Nat) : Option Nat := fnd (fun i => decide (mvm A s i = m)) 0 (mc A s)
theorem e_last {h : Z_H} (H : LY h) {A : Nat → Int32} (eA : z_i h 62 = A) (hN : VN A) : f_X10_now h 61 = some (nI (nwN A)) ∧ f_X10_lesser h 99 (nI (nwN A) + 6) = some (nI (lastN A)) := by
  refine ⟨by rw [e_now H, eA, hN.2.2.2.2], ?_⟩
  have := hN.2.2.2.1
  rw [e_lesser, n_6, nI_add]
  have e := les_nI (a := 99) (b := nwN A + 6) (by omega) (by omega)
  unfold lastN
  rw [Nat.min_comm]
  exact congrArg some e
theorem c_last {h : Z_H} {A : Nat → Int32} (C : CA h A) : f_X9_lastTreeMonth h 0 = some (nI (lastN A)) := by
  have H := C.1
  obtain ⟨en, h99⟩ := C.now
  unfold f_X9_lastTreeMonth
  refine gdE (yg0 H) ?_
  refine bnd (yR0_0 H) ?_
  refine bnd ((yI1 H 8).trans (congrArg some en)) ?_
  rw [n_6, nI_add]
  have e := mn_nI (a := nwN A + 6) (b := 99) (by omega) (by omega)
  exact congrArg some e
theorem e_laysT {h : Z_H} (H : LY h) {A : Nat → Int32} (eA : z_i h 62 = A) (hN : VN A) (hC : ∀ t, t < nn A → VC A t) (hM : ∀ t, t < nn A → VM A t) {s to mo m : Nat} (hs : s < nn A) (hto : to < nn A) (h14 : z_i h 61 14 = nI s) (h15 : z_i h 61 15 = nI to) (h16 : z_i h 61 16 = nI mo) (hmo : mo ≤ m) (hm : m < 1000) : ∃ h', f_X10_laysMonth h 61 (nI m) = some h' ∧ MW h h' ∧ MTr h' (nn A) (tp A s to mo m) := by
  obtain ⟨h', l1, l2, l3, l4, l5, l6, l7⟩ := e_laysMonth H eA hN hC hm (sp := fun t => pe (tp A s to mo m t)) (fun g t mw ht => e_sponsorAtT (mw.ly H) (mw.a.trans eA) hN hM hs hto (by rw [mw.2.2.2.2 14 (by omega)]; exact h14) (by rw [mw.2.2.2.2 15 (by omega)]; exact h15) (by rw [mw.2.2.2.2 16 (by omega)]; exact h16) hmo hm ht)
  refine ⟨h', l1, l2, l5, by have := hN.2.1; omega, fun t ht => (l7 t ht).1, fun t p ht e => ?_⟩
  unfold tp at e
  by_cases c : t = s ∧ owB A s mo m = false
  · rw [if_pos c] at e
    cases e
    exact hto
  · rw [if_neg c] at e
    exact pr_lt hN hM hm t p ht e
def bad (P : Nat → Option Nat) (n t : Nat) : Bool := (fnd (fun k => decide (upk P k t = none)) 0 (n + 1)).isNone
theorem e_turns2 {h : Z_H} (H : LY h) {n : Nat} {P : Nat → Option Nat} (M : MTr h n P) : lp (f_X10_turnsRound_l2 61 h) FU 0 = some (if (fnd (bad P n) 0 n).isSome then .inl () else .inr ()) := by
  have hn := M.2.1
  have key := lp_find (b := f_X10_turnsRound_l2 61 h) (fun t => nI t) (bad P n) (fun _ => some (.inl ())) (some (.inr ())) n ?_ ?_ ?_ n FU 0 (by omega) (by unfold FU; omega)
  · have key' : lp (f_X10_turnsRound_l2 61 h) FU 0 = _ := key
    rw [key']
    cases fnd (bad P n) 0 n <;> rfl
  · intro rec t ht hp
    have st := e_stepsE H M ht
    unfold bad at hp
    cases hf : fnd (fun k => decide (upk P k t = none)) 0 (n + 1) with
    | some k => rw [hf] at hp; cases hp
    | none =>
      rw [hf] at st
      have st : f_X10_stepsUp h 61 (nI t) (-1) = some (-1) := st
      unfold f_X10_turnsRound_l2
      refine ltE ?_
      refine bnd ((yI61 H 19).trans (congrArg some M.1)) ?_
      refine (if_neg (nI_ge ht (by omega))).trans ?_
      refine bnd st ?_
      exact if_neg (by decide)
  · intro rec t ht hp
    have st := e_stepsE H M ht
    unfold bad at hp
    cases hf : fnd (fun k => decide (upk P k t = none)) 0 (n + 1) with
    | none => rw [hf] at hp; cases hp
    | some k =>
      have := (fnd_some _ _ _ hf).2.1
      rw [hf] at st
      have st : f_X10_stepsUp h 61 (nI t) (-1) = some (nI k) := st
      unfold f_X10_turnsRound_l2
      refine ltE ?_
      refine bnd ((yI61 H 19).trans (congrArg some M.1)) ?_
      refine (if_neg (nI_ge ht (by omega))).trans ?_
      refine bnd st ?_
      refine (if_pos (nI_pos' (by omega))).trans ?_
      rw [nI_1]
  · intro rec
    unfold f_X10_turnsRound_l2
    refine ltE ?_
    refine bnd ((yI61 H 19).trans (congrArg some M.1)) ?_
    exact if_pos (nI_le (Nat.le_refl _) (by omega))
theorem ac_bad {P : Nat → Option Nat} {n : Nat} (h : ACy P n) : (fnd (bad P n) 0 n).isSome = false := by
  cases hx : (fnd (bad P n) 0 n).isSome with
  | false => rfl
  | true =>
    obtain ⟨t, ht, hb⟩ := fnd_is.mp hx
    unfold bad at hb
    have : (fnd (fun k => decide (upk P k t = none)) 0 (n + 1)).isSome = true := fnd_is.mpr ⟨n, by omega, decide_eq_true (h.2 t ht)⟩
    cases hf : fnd (fun k => decide (upk P k t = none)) 0 (n + 1) with
    | none => rw [hf] at this; cases this
    | some k => rw [hf] at hb; cases hb
theorem tp_ac {A : Nat → Int32} {s to mo m : Nat} (hA : ACy (pr A m) (nn A)) (hn : nn A ≤ 10) (hs : s < nn A) (hto : to < nn A) (h : (!owB A s mo m && (lv (pr A m) to s).isSome) = false) : ACy (tp A s to mo m) (nn A) := by
  cases ho : owB A s mo m with
  | true =>
    have e : tp A s to mo m = pr A m := by
      funext t
      unfold tp
      rw [if_neg (by rw [ho]; simp)]
    rw [e]
    exact hA
  | false =>
    rw [ho] at h
    have hl : lv (pr A m) to s = none := by
      cases hl : lv (pr A m) to s with
      | none => rfl
      | some k => rw [hl] at h; cases h
    refine ring_no hA (by omega) (fun t ht => ?_) ?_ hs hto hl
    · unfold tp
      rw [if_neg (fun q => ht q.1)]
    · unfold tp
      rw [if_pos ⟨rfl, ho⟩]
theorem bad_tp {A : Nat → Int32} {s to mo m : Nat} (hA : ACy (pr A m) (nn A)) (hn : nn A ≤ 10) (hs : s < nn A) (hto : to < nn A) : (fnd (bad (tp A s to mo m) (nn A)) 0 (nn A)).isSome = (!owB A s mo m && (lv (pr A m) to s).isSome) := by
  cases hx : (!owB A s mo m && (lv (pr A m) to s).isSome) with
  | false => exact ac_bad (tp_ac hA hn hs hto hx)
  | true =>
    rw [Bool.and_eq_true, Bool.not_eq_true'] at hx
    obtain ⟨ho, hl⟩ := hx
    cases hl' : lv (pr A m) to s with
    | none => rw [hl'] at hl; cases hl
    | some e =>
      have ry := ring_yes (P' := tp A s to mo m) (fun t ht => by
        unfold tp
        rw [if_neg (fun q => ht q.1)]) (by
        unfold tp
        rw [if_pos ⟨rfl, ho⟩]) hl'
      refine fnd_is.mpr ⟨s, hs, ?_⟩
      unfold bad
      cases hf : fnd (fun k => decide (upk (tp A s to mo m) k s = none)) 0 (nn A + 1) with
      | none => rfl
      | some k =>
        have := (fnd_some _ _ _ hf).2.2.1
        exact absurd (of_decide_eq_true this) (ry k)
theorem e_turns {h : Z_H} (H : LY h) {A : Nat → Int32} (eA : z_i h 62 = A) (hN : VN A) (hC : ∀ t, t < nn A → VC A t) (hM : ∀ t, t < nn A → VM A t) (hT : VT A) {s to mo : Nat} (hs : s < nn A) (hto : to < nn A) (h14 : z_i h 61 14 = nI s) (h15 : z_i h 61 15 = nI to) (h16 : z_i h 61 16 = nI mo) (hmo : mo ≤ lastN A) : ∃ h', f_X10_turnsRound h 61 (nI mo) = some (if rgB A s to mo then 1 else 0, h') ∧ MW h h' := by
  have h10 := hN.2.1
  have hl99 : lastN A ≤ 99 := by unfold lastN; omega
  have key := lp_ex3 (b := f_X10_turnsRound_l1 61) (fun k (g : Z_H) => (nI (mo + k), g)) (fun k g => MW h g ∧ ∀ j, j < k → (!owB A s mo (mo + j) && (lv (pr A (mo + j)) to s).isSome) = false) (fun r => match r with
    | .inl g => MW h g ∧ rgB A s to mo = true
    | .inr g => MW h g ∧ rgB A s to mo = false) (lastN A + 1 - mo) ?_ ?_ (lastN A + 1 - mo) FU 0 h (by omega) (by unfold FU; omega) ⟨MW.rf, fun j hj => by omega⟩
  · obtain ⟨r, hr, key⟩ := key
    rw [Nat.add_zero] at key
    cases r with
    | inl g =>
      obtain ⟨g1, g2⟩ := hr
      refine ⟨g, ?_, g1⟩
      unfold f_X10_turnsRound
      refine gdE (yg61 H) ?_
      refine bnd key ?_
      rw [g2]
      rfl
    | inr g =>
      obtain ⟨g1, g2⟩ := hr
      refine ⟨g, ?_, g1⟩
      unfold f_X10_turnsRound
      refine gdE (yg61 H) ?_
      refine bnd key ?_
      rw [g2]
      rfl
  · rintro k g hk ⟨g1, g2⟩
    have G := g1.ly H
    have g62 := g1.a.trans eA
    obtain ⟨n1, n2⟩ := e_last G g62 hN
    obtain ⟨g8, l1, l2, l3⟩ := e_laysT (m := mo + k) G g62 hN hC hM hs hto (by rw [g1.2.2.2.2 14 (by omega)]; exact h14) (by rw [g1.2.2.2.2 15 (by omega)]; exact h15) (by rw [g1.2.2.2.2 16 (by omega)]; exact h16) (by omega) (by omega)
    have t2 := e_turns2 (l2.ly G) l3
    rw [bad_tp (hT.ac hN hM (show mo + k ≤ 99 by omega)) h10 hs hto] at t2
    cases hb : (!owB A s mo (mo + k) && (lv (pr A (mo + k)) to s).isSome) with
    | true =>
      rw [hb] at t2
      refine Or.inr ⟨.inl g8, ⟨g1.tr l2, fnd_is.mpr ⟨k, hk, hb⟩⟩, fun rec => ?_⟩
      unfold f_X10_turnsRound_l1
      refine bnd n1 ?_
      refine bnd n2 ?_
      refine (if_neg (nI_nlt (by omega) (by omega))).trans ?_
      refine bnd l1 ?_
      refine bnd t2 ?_
      rfl
    | false =>
      rw [hb] at t2
      refine Or.inl ⟨g8, ⟨g1.tr l2, fun j hj => ?_⟩, fun rec => ?_⟩
      · by_cases e : j = k
        · rw [e]; exact hb
        · exact g2 j (by omega)
      · unfold f_X10_turnsRound_l1
        refine bnd n1 ?_
        refine bnd n2 ?_
        refine (if_neg (nI_nlt (by omega) (by omega))).trans ?_
        refine bnd l1 ?_
        refine bnd t2 ?_
        show rec (nI (mo + k) + 1, g8) = _
        rw [nI_1]
        rfl
  · rintro g ⟨g1, g2⟩
    have G := g1.ly H
    obtain ⟨n1, n2⟩ := e_last G (g1.a.trans eA) hN
    refine ⟨.inr g, ⟨g1, ?_⟩, fun rec => ?_⟩
    · cases hx : rgB A s to mo with
      | false => rfl
      | true =>
        obtain ⟨k, hk, hp⟩ := fnd_is.mp hx
        rw [g2 k hk] at hp
        cases hp
    · unfold f_X10_turnsRound_l1
      refine bnd n1 ?_
      refine bnd n2 ?_
      exact if_pos (nI_lt (by omega) (by omega))
theorem e_moveAt {h : Z_H} (H : LY h) {A : Nat → Int32} (eA : z_i h 62 = A) {s m : Nat} (hs : s < 10) (hM : VM A s) (hm : m < 1000) : f_X10_moveAt h 61 (nI s) (nI m) = some (pe (hmO A s m)) := by
  obtain ⟨a1, a2, -, a4, -⟩ := hM
  have o4 := e_os4 (s := s) H (by omega)
  rw [eA, a2] at o4
  have o5 : ∀ k, k < mc A s → f_X10_ofSeller h 61 (nI s) ((5 : Int32) + nI k) = some (nI (mvm A s k)) := fun k hk => by
    rw [e_os5 H hs (by omega), eA, (a4 k hk).1]
  have key := lp_find (b := f_X10_moveAt_l1 61 (nI s) (nI m) h) (fun k => nI k) (fun i => decide (mvm A s i = m)) (fun k => some (.inl (nI k))) (some (.inr ())) (mc A s) ?_ ?_ ?_ (mc A s) FU 0 (by omega) (by unfold FU; omega)
  · have key' : lp (f_X10_moveAt_l1 61 (nI s) (nI m) h) FU 0 = _ := key
    unfold f_X10_moveAt hmO
    refine gdE (yg61 H) ?_
    rw [key']
    cases fnd (fun i => decide (mvm A s i = m)) 0 (mc A s) <;> rfl
  · intro rec k hk hp
    have hp : mvm A s k = m := of_decide_eq_true hp
    unfold f_X10_moveAt_l1
    refine ltE ?_
    refine bnd o4 ?_
    refine (if_neg (nI_ge hk (by omega))).trans ?_
    refine bnd (o5 k hk) ?_
    exact if_pos (by rw [hp])
  · intro rec k hk hp
    have hp : ¬ mvm A s k = m := of_decide_eq_false hp
    have := (a4 k hk).2.2.1
    unfold f_X10_moveAt_l1
    refine ltE ?_
    refine bnd o4 ?_
    refine (if_neg (nI_ge hk (by omega))).trans ?_
    refine bnd (o5 k hk) ?_
    refine (if_neg (fun e => hp ((nI_eq (by omega) (by omega)).mp e))).trans ?_
    rw [nI_1]
  · intro rec
    unfold f_X10_moveAt_l1
    refine ltE ?_
    refine bnd o4 ?_
    exact if_pos (nI_le (Nat.le_refl _) (by omega))
theorem c_hasMoveOf {h : Z_H} {A : Nat → Int32} (H : LY h) (hC : RCc (cl h) A) (hRm : RCm (cl h) A) (hN : VN A) {s m : Nat} (hs : s < nn A) (hM : VM A s) (hm : m < 1000) : f_X0_hasMoveOf h 13 (nI s) (nI m) = some (if (hmO A s m).isSome then 1 else 0) := by
  have h10 := hN.2.1
  obtain ⟨a1, a2, -, a4, -⟩ := hM
  obtain ⟨r1, r2, -⟩ := hRm s hs
  have t17 : z_i h 17 s = nI (mc A s) := ((hC.2.2 s hs).2.2.2.2).trans a2
  have ix : ∀ k, k < 12 → aI h 18 (nI s * 12 + nI k) = some (z_i h 18 (12 * s + k)) := fun k hk => by
    rw [n_12, nI_mul, nI_add, Nat.mul_comm s 12]
    exact yA18 H (by omega)
  have key := lp_find (b := f_X0_hasMoveOf_l1 13 (nI s) (nI m) h) (fun k => nI k) (fun i => decide (z_i h 18 (12 * s + i) = nI m)) (fun _ => some (.inl ())) (some (.inr ())) (mc A s) ?_ ?_ ?_ (mc A s) FU 0 (by omega) (by unfold FU; omega)
  · have key' : lp (f_X0_hasMoveOf_l1 13 (nI s) (nI m) h) FU 0 = _ := key
    have same : (fnd (fun i => decide (z_i h 18 (12 * s + i) = nI m)) 0 (mc A s)).isSome = (hmO A s m).isSome := by
      have e1 := fnd_is (p := fun i => decide (z_i h 18 (12 * s + i) = nI m)) (n := mc A s)
      have e2 := fnd_is (p := fun i => decide (mvm A s i = m)) (n := mc A s)
      rw [Bool.eq_iff_iff]
      unfold hmO
      rw [e1, e2]
      constructor
      · rintro ⟨i, hi, hp⟩
        obtain ⟨j, hj, q1, -⟩ := r1 i hi
        have hp : z_i h 18 (12 * s + i) = nI m := of_decide_eq_true hp
        have q1 : z_i h 18 (12 * s + i) = A (147 + 94 * s + (5 + j)) := q1
        rw [hp, (a4 j hj).1] at q1
        have := (a4 j hj).2.2.1
        exact ⟨j, hj, decide_eq_true ((nI_eq (by omega) (by omega)).mp q1).symm⟩
      · rintro ⟨j, hj, hp⟩
        obtain ⟨i, hi, q1, -⟩ := r2 j hj
        have hp : mvm A s j = m := of_decide_eq_true hp
        have q1 : z_i h 18 (12 * s + i) = A (147 + 94 * s + (5 + j)) := q1
        rw [(a4 j hj).1, hp] at q1
        exact ⟨i, hi, decide_eq_true q1⟩
    unfold f_X0_hasMoveOf
    refine gdE (yg13 H) ?_
    rw [key', ← same]
    cases fnd (fun i => decide (z_i h 18 (12 * s + i) = nI m)) 0 (mc A s) <;> rfl
  · intro rec k hk hp
    unfold f_X0_hasMoveOf_l1
    refine ltE ?_
    refine bnd (yR13_4 H) ?_
    refine bnd ((yA17 H (show s < 10 by omega)).trans (congrArg some t17)) ?_
    refine (if_neg (nI_ge hk (by omega))).trans ?_
    refine bnd (yR13_5 H) ?_
    refine bnd (ix k (by omega)) ?_
    exact if_pos (of_decide_eq_true hp)
  · intro rec k hk hp
    unfold f_X0_hasMoveOf_l1
    refine ltE ?_
    refine bnd (yR13_4 H) ?_
    refine bnd ((yA17 H (show s < 10 by omega)).trans (congrArg some t17)) ?_
    refine (if_neg (nI_ge hk (by omega))).trans ?_
    refine bnd (yR13_5 H) ?_
    refine bnd (ix k (by omega)) ?_
    refine (if_neg (of_decide_eq_false hp)).trans ?_
    rw [nI_1]
  · intro rec
    unfold f_X0_hasMoveOf_l1
    refine ltE ?_
    refine bnd (yR13_4 H) ?_
    refine bnd ((yA17 H (show s < 10 by omega)).trans (congrArg some t17)) ?_
    exact if_pos (nI_le (Nat.le_refl _) (by omega))
theorem c_isUpFrom {h : Z_H} {A : Nat → Int32} {c : Nat → Nat → Int32} (H : LY h) (L : LK (cl h) A) {s t m : Nat} (hs : s < nn A) (ht : t < nn A) (hm : m ≤ 99) : f_X0_isUpFrom h 13 (nI t) (nI s) (nI m) = some (if (lv (pr A m) t s).isSome then 1 else 0) := by
  have hN := L.1
  have h10 := hN.2.1
  have hA := L.2.2.2.2.1.ac hN L.2.2.2.1 hm
  have upe : ∀ k, ∀ p, upk (pr A m) k t = some p → p < 1000 := fun k p e => by
    have := hA.lt ht e
    omega
  have key := lp_find (b := f_X0_isUpFrom_l1 13 (nI s) (nI m) h) (fun k => (pe (upk (pr A m) k t), nI k)) (fun k => decide (upk (pr A m) k t = some s ∨ upk (pr A m) k t = none)) (fun k => if upk (pr A m) k t = some s then some (.inl ()) else some (.inr ())) (some (.inr ())) 10 ?_ ?_ ?_ 10 FU 0 (by omega) (by unfold FU; omega)
  · have key' : lp (f_X0_isUpFrom_l1 13 (nI s) (nI m) h) FU (nI t, 0) = _ := key
    unfold f_X0_isUpFrom
    refine gdE (yg13 H) ?_
    rw [key']
    cases hf : fnd (fun k => decide (upk (pr A m) k t = some s ∨ upk (pr A m) k t = none)) 0 10 with
    | none =>
      have : lv (pr A m) t s = none := by
        cases hl : lv (pr A m) t s with
        | none => rfl
        | some k =>
          have e := (lv_some hA ht (by omega)).mp hl
          have hk := hA.k ht e
          have := fnd_none _ _ hf k (by omega) (by omega)
          exact absurd (Or.inl e) (of_decide_eq_false this)
      rw [this]
      rfl
    | some k =>
      obtain ⟨-, f2, f3, f4⟩ := fnd_some _ _ _ hf
      dsimp only
      by_cases c : upk (pr A m) k t = some s
      · rw [if_pos c, (lv_some hA ht (by omega)).mpr c]
        rfl
      · have cn_ := (of_decide_eq_true f3).resolve_left c
        have : lv (pr A m) t s = none := by
          cases hl : lv (pr A m) t s with
          | none => rfl
          | some j =>
            have e := (lv_some hA ht (by omega)).mp hl
            rcases Nat.lt_or_ge j k with q | q
            · exact absurd (Or.inl e) (of_decide_eq_false (f4 j (by omega) q))
            · have := upk_mono cn_ q
              rw [e] at this
              cases this
        rw [if_neg c, this]
        rfl
  · intro rec k hk hp
    have hp := of_decide_eq_true hp
    unfold f_X0_isUpFrom_l1
    dsimp only
    rw [if_neg (show ¬ (10 : Int32) ≤ nI k from nI_ge (b := 10) hk (by omega))]
    rcases hp with e | e
    · rw [if_pos e, e, if_neg (show ¬ pe (some s) = -1 from nI_m1 (by omega)), if_pos (show pe (some s) = nI s from rfl)]
    · rw [e, if_pos (show pe none = -1 from rfl), if_neg (fun q => by cases q)]
  · intro rec k hk hp
    have hp := of_decide_eq_false hp
    cases hu : upk (pr A m) k t with
    | none => exact absurd (Or.inr hu) hp
    | some p =>
      have hpn := hA.lt ht hu
      have sp := c_sponsorAt (s := p) (m := m) H hN L.2.2.2.2.2.1 L.2.2.2.2.2.2.2.1 (L.2.2.2.1 p hpn) hpn (by omega)
      rw [sp_pe (L.2.2.2.1 p hpn) hpn hN (by omega)] at sp
      unfold f_X0_isUpFrom_l1
      dsimp only
      rw [if_neg (show ¬ (10 : Int32) ≤ nI k from nI_ge (b := 10) hk (by omega)), if_neg (show ¬ pe (some p) = -1 from nI_m1 (by omega)), if_neg (show ¬ pe (some p) = nI s from fun e => hp (Or.inl (by rw [hu, (nI_eq (by omega) (by omega)).mp e])))]
      refine bnd sp ?_
      rw [nI_1, upk_next, hu]
      rfl
  · intro rec
    unfold f_X0_isUpFrom_l1
    dsimp only
    rw [if_pos (show (10 : Int32) ≤ nI 10 by decide)]
theorem c_makesRing {h : Z_H} {A : Nat → Int32} (C : CA h A) (L : LK (cl h) A) {s to mo : Nat} (hs : s < nn A) (hto : to < nn A) (hmo : mo ≤ lastN A) : f_X9_makesRing h 0 (nI s) (nI to) (nI mo) = some (if rgB A s to mo then 1 else 0) := by
  have H := C.1
  have hN := L.1
  have h10 := hN.2.1
  have hl99 : lastN A ≤ 99 := by unfold lastN; omega
  have lst := c_last C
  have hM := L.2.2.2.1 s hs
  have mv : ∀ k, k < lastN A + 1 - mo → f_X0_hasMoveOf h 13 (nI s) (nI (mo + k)) = some (if (hmO A s (mo + k)).isSome then 1 else 0) := fun k hk => c_hasMoveOf H L.2.2.2.2.2.1 L.2.2.2.2.2.2.2.1 hN hs hM (by omega)
  have up : ∀ k, k < lastN A + 1 - mo → f_X0_isUpFrom h 13 (nI to) (nI s) (nI (mo + k)) = some (if (lv (pr A (mo + k)) to s).isSome then 1 else 0) := fun k hk => c_isUpFrom (c := cl h) H L hs hto (by omega)
  have key := lp_find (b := f_X9_makesRing_l1 0 (nI s) (nI to) (nI mo) h 13) (fun k => nI (mo + k)) (fun k => (decide (0 < k) && (hmO A s (mo + k)).isSome) || (lv (pr A (mo + k)) to s).isSome) (fun k => if (decide (0 < k) && (hmO A s (mo + k)).isSome) then some (.inl ()) else some (.inr (.inl ()))) (some (.inr (.inr ()))) (lastN A + 1 - mo) ?_ ?_ ?_ (lastN A + 1 - mo) FU 0 (by omega) (by unfold FU; omega)
  · rw [Nat.add_zero] at key
    unfold f_X9_makesRing
    refine gdE (yg0 H) ?_
    refine bnd (yR0_0 H) ?_
    refine bnd (yR1_2 H) ?_
    rw [key]
    have rg := fnd_is (p := fun k => !owB A s mo (mo + k) && (lv (pr A (mo + k)) to s).isSome) (n := lastN A + 1 - mo)
    have ow : ∀ m, owB A s mo m = true ↔ ∃ i, i < mc A s ∧ (decide (mo < mvm A s i) && decide (mvm A s i ≤ m)) = true := fun m => fnd_is
    have hmt : ∀ m, (hmO A s m).isSome = true ↔ ∃ i, i < mc A s ∧ decide (mvm A s i = m) = true := fun m => fnd_is
    cases hf : fnd (fun k => (decide (0 < k) && (hmO A s (mo + k)).isSome) || (lv (pr A (mo + k)) to s).isSome) 0 (lastN A + 1 - mo) with
    | none =>
      have hr : rgB A s to mo = false := by
        cases hx : rgB A s to mo with
        | false => rfl
        | true =>
          obtain ⟨k, hk, hp⟩ := rg.mp hx
          have := fnd_none _ _ hf k (by omega) (by omega)
          rw [Bool.or_eq_false_iff] at this
          rw [this.2, Bool.and_false] at hp
          cases hp
      rw [hr]
      rfl
    | some l =>
      obtain ⟨-, f2, f3, f4⟩ := fnd_some _ _ _ hf
      dsimp only
      cases hx : (decide (0 < l) && (hmO A s (mo + l)).isSome) with
      | true =>
        have hr : rgB A s to mo = false := by
          cases hy : rgB A s to mo with
          | false => rfl
          | true =>
            obtain ⟨k, hk, hp⟩ := rg.mp hy
            rw [Bool.and_eq_true, Bool.not_eq_true'] at hp
            rcases Nat.lt_or_ge k l with q | q
            · have := f4 k (by omega) q
              rw [Bool.or_eq_false_iff] at this
              rw [this.2] at hp
              cases hp.2
            · rw [Bool.and_eq_true] at hx
              have h0 : 0 < l := of_decide_eq_true hx.1
              obtain ⟨i, hi, e⟩ := (hmt _).mp hx.2
              have e : mvm A s i = mo + l := of_decide_eq_true e
              have : owB A s mo (mo + k) = true := (ow _).mpr ⟨i, hi, by
                rw [Bool.and_eq_true]
                exact ⟨decide_eq_true (by omega), decide_eq_true (by omega)⟩⟩
              rw [this] at hp
              cases hp.1
        rw [hr]
        rfl
      | false =>
        rw [hx, Bool.false_or] at f3
        have hr : rgB A s to mo = true := rg.mpr ⟨l, by omega, by
          rw [Bool.and_eq_true, Bool.not_eq_true']
          refine ⟨?_, f3⟩
          cases hy : owB A s mo (mo + l) with
          | false => rfl
          | true =>
            obtain ⟨i, hi, e⟩ := (ow _).mp hy
            rw [Bool.and_eq_true] at e
            have e1 : mo < mvm A s i := of_decide_eq_true e.1
            have e2 : mvm A s i ≤ mo + l := of_decide_eq_true e.2
            have hmm : (hmO A s (mo + (mvm A s i - mo))).isSome = true := (hmt _).mpr ⟨i, hi, decide_eq_true (by omega)⟩
            by_cases c : mvm A s i = mo + l
            · rw [show mo + (mvm A s i - mo) = mo + l by omega] at hmm
              rw [hmm, decide_eq_true (show 0 < l by omega)] at hx
              cases hx
            · have := f4 (mvm A s i - mo) (by omega) (by omega)
              rw [Bool.or_eq_false_iff, hmm, decide_eq_true (show 0 < mvm A s i - mo by omega)] at this
              cases this.1⟩
        rw [hr]
        rfl
  · intro rec k hk hp
    unfold f_X9_makesRing_l1
    refine ltE ?_
    refine bnd lst ?_
    refine (if_neg (nI_nlt (by omega) (by omega))).trans ?_
    refine jnE ?_
    cases hx : (decide (0 < k) && (hmO A s (mo + k)).isSome) with
    | true =>
      rw [Bool.and_eq_true] at hx
      have h0 : 0 < k := of_decide_eq_true hx.1
      have m1 := mv k hk
      rw [hx.2] at m1
      have m1 : f_X0_hasMoveOf h 13 (nI s) (nI (mo + k)) = some 1 := m1
      refine (if_neg (nI_ge (by omega) (by omega))).trans ?_
      refine bnd m1 ?_
      exact if_neg (by decide)
    | false =>
      rw [hx, Bool.false_or] at hp
      have u1 := up k hk
      rw [hp] at u1
      have u1 : f_X0_isUpFrom h 13 (nI to) (nI s) (nI (mo + k)) = some 1 := u1
      have fin : ((f_X0_isUpFrom h 13 (nI to) (nI s) (nI (mo + k))).bind fun t7 => if t7 = 0 then rec (nI (mo + k) + 1) else some (.inr (.inl ()))) = some (.inr (.inl ())) := by
        refine bnd u1 ?_
        exact if_neg (by decide)
      by_cases h0 : 0 < k
      · rw [decide_eq_true h0, Bool.true_and] at hx
        have m1 := mv k hk
        rw [hx] at m1
        have m1 : f_X0_hasMoveOf h 13 (nI s) (nI (mo + k)) = some 0 := m1
        refine (if_neg (nI_ge (by omega) (by omega))).trans ?_
        refine bnd m1 ?_
        refine (if_pos rfl).trans ?_
        exact fin
      · refine (if_pos (nI_le (by omega) (by omega))).trans ?_
        exact fin
  · intro rec k hk hp
    rw [Bool.or_eq_false_iff] at hp
    have u1 := up k hk
    rw [hp.2] at u1
    have u1 : f_X0_isUpFrom h 13 (nI to) (nI s) (nI (mo + k)) = some 0 := u1
    have fin : ((f_X0_isUpFrom h 13 (nI to) (nI s) (nI (mo + k))).bind fun t7 => if t7 = 0 then rec (nI (mo + k) + 1) else some (.inr (.inl ()))) = rec (nI (mo + (k + 1))) := by
      refine bnd u1 ?_
      refine (if_pos rfl).trans ?_
      rw [nI_1]
      rfl
    unfold f_X9_makesRing_l1
    refine ltE ?_
    refine bnd lst ?_
    refine (if_neg (nI_nlt (by omega) (by omega))).trans ?_
    refine jnE ?_
    by_cases h0 : 0 < k
    · have hx := hp.1
      rw [decide_eq_true h0, Bool.true_and] at hx
      have m1 := mv k hk
      rw [hx] at m1
      have m1 : f_X0_hasMoveOf h 13 (nI s) (nI (mo + k)) = some 0 := m1
      refine (if_neg (nI_ge (by omega) (by omega))).trans ?_
      refine bnd m1 ?_
      refine (if_pos rfl).trans ?_
      exact fin
    · refine (if_pos (nI_le (by omega) (by omega))).trans ?_
      exact fin
  · intro rec
    unfold f_X9_makesRing_l1
    refine ltE ?_
    refine bnd lst ?_
    exact if_pos (nI_lt (by omega) (by omega))
