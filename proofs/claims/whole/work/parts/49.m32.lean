/-! a percent is a number, 100 at most -/
theorem les_nat {a b B : Nat} (ha : a ≤ B) (hB : B < 2 ^ 31) (hb : b < 2 ^ 31) : ∃ w, w ≤ B ∧ les (nI a) (nI b) = nI w := ⟨min a b, by omega, les_nI (by omega) hb⟩
theorem jop_nat {nd : Int32} {a b : Nat} (ha : a ≤ 100) (hb : b ≤ 100) : ∃ w, w ≤ 100 ∧ jop nd (nI a) (nI b) = nI w := by
  unfold jop
  split
  · exact ⟨max a b, by omega, gre_nI (by omega) (by omega)⟩
  · split
    · exact ⟨min a b, by omega, les_nI (by omega) (by omega)⟩
    · refine ⟨min 100 (a + b), by omega, ?_⟩
      rw [nI_add]
      exact les_nI (a := 100) (by omega) (by omega)
theorem lf_nat {A : Nat → Int32} (hP : VP A) {S : Sn} {m t l j : Nat} (hl : l < 5) (hj : j < nf A l) (hn : S.1 ≤ 11) : ∃ w, w ≤ 100 ∧ lfS A S m t l j = nI w := by
  obtain ⟨-, -, -, -, a5⟩ := hP.2.2.2.2.2 l hl
  obtain ⟨-, r, hr, er⟩ := a5 j hj
  have rl := rnk_le (A := A) (S := S) (t := t)
  unfold lfS
  rw [er]
  split
  · exact ⟨r, by omega, rfl⟩
  · split
    · refine ⟨r * rnk A S t, ?_, nI_mul _ _⟩
      have : r * rnk A S t ≤ 20 * 3 := Nat.mul_le_mul hr rl
      omega
    · split
      · have c := cn_le (p := inD S t) S.1
        refine ⟨r * min 5 (cn (inD S t) S.1), ?_, ?_⟩
        · have : r * min 5 (cn (inD S t) S.1) ≤ 20 * 5 := Nat.mul_le_mul hr (by omega)
          omega
        · rw [← nI_mul]
          congr 1
          exact les_nI (a := 5) (by omega) (by omega)
      · split
        · exact ⟨0, by omega, rfl⟩
        · exact ⟨r, by omega, rfl⟩
theorem pc_nat {A : Nat → Int32} (hP : VP A) {S : Sn} {m t l : Nat} (hl : l < 5) (hn : S.1 ≤ 11) : ∃ w, w ≤ 100 ∧ pcS A S m t l = nI w := by
  have hF := hP.2.2.2.2.2 l hl
  obtain ⟨d, d1, d2, d3, d4, d5⟩ := stk_d (lf := lfS A S m t l) hF
  have key : ∀ k, k ≤ nf A l → ∀ i, i < (stk (ndS A l) (lfS A S m t l) (nf A l) k).1 → ∃ w, w ≤ 100 ∧ (stk (ndS A l) (lfS A S m t l) (nf A l) k).2 i = nI w := by
    intro k
    induction k with
    | zero => intro _ i hi; exact absurd hi (Nat.not_lt_zero _)
    | succ k ih =>
      intro hk i hi
      have ih := ih (by omega)
      have e1 := d4 k (by omega)
      have e2 : nf A l - 1 - k + 1 = nf A l - k := by omega
      generalize eK : stk (ndS A l) (lfS A S m t l) (nf A l) k = K at *
      have un : stk (ndS A l) (lfS A S m t l) (nf A l) (k + 1) = if ndS A l (nf A l - 1 - k) ≤ 3 then (K.1 + 1, upd K.2 K.1 (lfS A S m t l (nf A l - 1 - k))) else (K.1 - 1, upd K.2 (K.1 - 2) (jop (ndS A l (nf A l - 1 - k)) (K.2 (K.1 - 1)) (K.2 (K.1 - 2)))) := by
        rw [← eK]
        rfl
      rw [un] at hi ⊢
      rcases d5 (nf A l - 1 - k) (by omega) with ⟨nd, h1, h2, q⟩ | ⟨nd, h1, h2, h3, h4, q⟩
      · have c : ndS A l (nf A l - 1 - k) ≤ 3 := by rw [h2]; exact nI_le (b := 3) h1 (by omega)
        rw [if_pos c] at hi ⊢
        have hi : i < K.1 + 1 := hi
        show ∃ w, w ≤ 100 ∧ upd K.2 K.1 _ i = nI w
        by_cases e : i = K.1
        · rw [e, upd_s]
          exact lf_nat hP hl (by omega) hn
        · rw [upd_o e]
          exact ih i (by omega)
      · have c : ¬ ndS A l (nf A l - 1 - k) ≤ 3 := by rw [h3]; exact nI_ge (a := 3) (by omega) (by omega)
        rw [if_neg c] at hi ⊢
        have hi : i < K.1 - 1 := hi
        rw [e2] at h4
        show ∃ w, w ≤ 100 ∧ upd K.2 (K.1 - 2) _ i = nI w
        by_cases e : i = K.1 - 2
        · rw [e, upd_s]
          obtain ⟨a, ha, ea⟩ := ih (K.1 - 1) (by omega)
          obtain ⟨b, hb, eb⟩ := ih (K.1 - 2) (by omega)
          rw [ea, eb]
          exact jop_nat ha hb
        · rw [upd_o e]
          exact ih i (by omega)
  have := key (nf A l) (Nat.le_refl _) 0 (by rw [d4 _ (Nat.le_refl _), Nat.sub_self, d2]; omega)
  exact this
theorem div100 {a b : Nat} (ha : a < 2 ^ 31) : nI a / 100 = nI (a / 100) := by
  rw [n_100, pk_div (by omega) (by omega) (by omega)]
/-- what a sale pays, and to whom -/
theorem pu_inv {A : Nat → Int32} {S : Sn} (hO : SOK S) (hP : VP A) {m s v : Nat} (hs : s < S.1) (hv : v ≤ 9999) : ∀ j, ∃ kk uu p : Nat → Nat, ∃ tot, tot ≤ 9999 ∧ (itf (puG A S m (nI v) s) 1 j (pu0 A (nI v))).1 ≤ 5 ∧ (∀ l, l < (itf (puG A S m (nI v) s) 1 j (pu0 A (nI v))).1 → 1 ≤ kk l ∧ kk l ≤ j ∧ upk (sP S) (kk l) s = some (uu l) ∧ (itf (puG A S m (nI v) s) 1 j (pu0 A (nI v))).2.2 (7 * l + 0) = nI (uu l) ∧ (itf (puG A S m (nI v) s) 1 j (pu0 A (nI v))).2.2 (7 * l + 2) = nI (p l)) ∧ (∀ l l', l < l' → l' < (itf (puG A S m (nI v) s) 1 j (pu0 A (nI v))).1 → kk l < kk l') ∧ snat p (itf (puG A S m (nI v) s) 1 j (pu0 A (nI v))).1 ≤ tot ∧ (itf (puG A S m (nI v) s) 1 j (pu0 A (nI v))).2.1 = nI (tot - snat p (itf (puG A S m (nI v) s) 1 j (pu0 A (nI v))).1) := by
  obtain ⟨cp, hcp, ecp⟩ := hP.2.1
  intro j
  induction j with
  | zero =>
    refine ⟨fun _ => 0, fun _ => 0, fun _ => 0, v * cp / 100, ?_, Nat.zero_le _, fun l hl => absurd hl (Nat.not_lt_zero _), fun l l' _ hl => absurd hl (Nat.not_lt_zero _), Nat.zero_le _, ?_⟩
    · have : v * cp ≤ 9999 * 99 := Nat.mul_le_mul hv hcp
      omega
    · show nI v * A 4 / 100 = nI (v * cp / 100 - 0)
      have : v * cp ≤ 9999 * 99 := Nat.mul_le_mul hv hcp
      rw [ecp, nI_mul, div100 (b := 0) (by omega), Nat.sub_zero]
  | succ j ih =>
    obtain ⟨kk, uu, p, tot, h0, h1, h2, h3, h4, h5⟩ := ih
    rw [itf_last, show 1 + j = j + 1 by omega]
    generalize eq : itf (puG A S m (nI v) s) 1 j (pu0 A (nI v)) = q at *
    have keep : puG A S m (nI v) s (j + 1) q = q → ∃ kk uu p : Nat → Nat, ∃ tot, tot ≤ 9999 ∧ (puG A S m (nI v) s (j + 1) q).1 ≤ 5 ∧ (∀ l, l < (puG A S m (nI v) s (j + 1) q).1 → 1 ≤ kk l ∧ kk l ≤ j + 1 ∧ upk (sP S) (kk l) s = some (uu l) ∧ (puG A S m (nI v) s (j + 1) q).2.2 (7 * l + 0) = nI (uu l) ∧ (puG A S m (nI v) s (j + 1) q).2.2 (7 * l + 2) = nI (p l)) ∧ (∀ l l', l < l' → l' < (puG A S m (nI v) s (j + 1) q).1 → kk l < kk l') ∧ snat p (puG A S m (nI v) s (j + 1) q).1 ≤ tot ∧ (puG A S m (nI v) s (j + 1) q).2.1 = nI (tot - snat p (puG A S m (nI v) s (j + 1) q).1) := by
      intro e
      rw [e]
      refine ⟨kk, uu, p, tot, h0, h1, fun l hl => ?_, h3, h4, h5⟩
      obtain ⟨a1, a2, a3⟩ := h2 l hl
      exact ⟨a1, by omega, a3⟩
    cases hu : upk (sP S) (j + 1) s with
    | none => exact keep (puG_n hu)
    | some u =>
      by_cases c5 : q.1 < 5
      · have gs := puG_s (A := A) (m := m) (am := nI v) hu c5
        cases hI : inA S (A 3) u with
        | false =>
          rw [hI] at gs
          exact keep gs
        | true =>
          rw [hI] at gs
          have gs : puG A S m (nI v) s (j + 1) q = (q.1 + 1, q.2.1 - pyS A S m (nI v) q.2.1 u q.1, w7 q.2.2 (7 * q.1) (fcS A S m (nI v) q.2.1 u q.1 (j + 1))) := gs
          clear keep
          rw [gs]
          obtain ⟨w, hw, ew⟩ := pc_nat (m := m) (t := u) hP c5 hO.1
          have hvw : v * w ≤ 9999 * 100 := Nat.mul_le_mul hv hw
          have py : ∃ r, r ≤ tot - snat p q.1 ∧ pyS A S m (nI v) q.2.1 u q.1 = nI r := by
            unfold pyS whl
            rw [ew, nI_mul, div100 (b := 0) (by omega), h5]
            split
            · exact ⟨min (v * w / 100) (tot - snat p q.1), by omega, les_nI (by omega) (by omega)⟩
            · exact ⟨0, by omega, rfl⟩
          obtain ⟨r, hr, er⟩ := py
          have sn : snat (fun l => if l = q.1 then r else p l) (q.1 + 1) = snat p q.1 + r := by
            show snat (fun l => if l = q.1 then r else p l) q.1 + (if q.1 = q.1 then r else p q.1) = _
            rw [if_pos rfl]
            congr 1
            have gen : ∀ n, n ≤ q.1 → snat (fun l => if l = q.1 then r else p l) n = snat p n := by
              intro n
              induction n with
              | zero => intro _; rfl
              | succ n ihn =>
                intro hn
                show snat (fun l => if l = q.1 then r else p l) n + (if n = q.1 then r else p n) = snat p n + p n
                rw [ihn (by omega), if_neg (by omega)]
            exact gen q.1 (Nat.le_refl _)
          refine ⟨fun l => if l = q.1 then j + 1 else kk l, fun l => if l = q.1 then u else uu l, fun l => if l = q.1 then r else p l, tot, h0, by show q.1 + 1 ≤ 5; omega, fun l hl => ?_, fun l l' hll hl => ?_, ?_, ?_⟩
          · have hl : l < q.1 + 1 := hl
            show 1 ≤ (if l = q.1 then j + 1 else kk l) ∧ (if l = q.1 then j + 1 else kk l) ≤ j + 1 ∧ upk (sP S) (if l = q.1 then j + 1 else kk l) s = some (if l = q.1 then u else uu l) ∧ w7 q.2.2 (7 * q.1) (fcS A S m (nI v) q.2.1 u q.1 (j + 1)) (7 * l + 0) = nI (if l = q.1 then u else uu l) ∧ w7 q.2.2 (7 * q.1) (fcS A S m (nI v) q.2.1 u q.1 (j + 1)) (7 * l + 2) = nI (if l = q.1 then r else p l)
            by_cases e : l = q.1
            · subst e
              rw [if_pos rfl, if_pos rfl, if_pos rfl]
              refine ⟨by omega, by omega, hu, ?_, ?_⟩
              · unfold w7
                rw [if_pos (by omega), show 7 * q.1 + 0 - 7 * q.1 = 0 by omega]
                rfl
              · unfold w7
                rw [if_pos (by omega), show 7 * q.1 + 2 - 7 * q.1 = 2 by omega]
                exact er
            · rw [if_neg e, if_neg e, if_neg e]
              obtain ⟨a1, a2, a3, a4, a5⟩ := h2 l (by omega)
              refine ⟨a1, by omega, a3, ?_, ?_⟩
              · unfold w7
                rw [if_neg (by omega)]
                exact a4
              · unfold w7
                rw [if_neg (by omega)]
                exact a5
          · have hl : l' < q.1 + 1 := hl
            show (if l = q.1 then j + 1 else kk l) < (if l' = q.1 then j + 1 else kk l')
            rw [if_neg (by omega)]
            by_cases e : l' = q.1
            · rw [if_pos e]
              have := (h2 l (by omega)).2.1
              omega
            · rw [if_neg e]
              exact h3 l l' hll (by omega)
          · show snat _ (q.1 + 1) ≤ tot
            rw [sn]
            omega
          · show q.2.1 - pyS A S m (nI v) q.2.1 u q.1 = nI (tot - snat _ (q.1 + 1))
            rw [sn, er, h5, nI_sub hr]
            congr 1
            omega
      · exact keep (puG_5 c5)
/-- the same, of the whole -/
theorem pu_all {A : Nat → Int32} {S : Sn} (hO : SOK S) (hP : VP A) {m s v : Nat} (hs : s < S.1) (hv : v ≤ 9999) : ∃ uu p : Nat → Nat, (puS A S m (nI v) s).1 ≤ 5 ∧ (∀ l, l < (puS A S m (nI v) s).1 → (∃ k, 1 ≤ k ∧ upk (sP S) k s = some (uu l)) ∧ (puS A S m (nI v) s).2.2 (7 * l + 0) = nI (uu l) ∧ (puS A S m (nI v) s).2.2 (7 * l + 2) = nI (p l)) ∧ (∀ l l', l < (puS A S m (nI v) s).1 → l' < (puS A S m (nI v) s).1 → uu l = uu l' → l = l') ∧ snat p (puS A S m (nI v) s).1 ≤ 9999 := by
  obtain ⟨kk, uu, p, tot, h0, h1, h2, h3, h4, h5⟩ := pu_inv (m := m) hO hP hs hv 10
  refine ⟨uu, p, h1, fun l hl => ?_, fun l l' hl hl' e => ?_, by
    have : snat p (puS A S m (nI v) s).1 ≤ tot := h4
    omega⟩
  · obtain ⟨a1, a2, a3, a4, a5⟩ := h2 l hl
    exact ⟨⟨kk l, a1, a3⟩, a4, a5⟩
  · obtain ⟨a1, a2, a3, a4, a5⟩ := h2 l hl
    obtain ⟨b1, b2, b3, b4, b5⟩ := h2 l' hl'
    rw [← e] at b3
    have ek := hO.2.1.inj hs a3 b3
    rcases Nat.lt_trichotomy l l' with c | c | c
    · have := h3 l l' c hl'
      omega
    · exact c
    · have := h3 l' l c hl
      omega
