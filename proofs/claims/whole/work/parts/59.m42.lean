/-! a move is told -/
def ixM (A : Nat → Int32) (s mo : Nat) : Nat := (hmO A s mo).getD (mc A s)
def mcN (A : Nat → Int32) (s mo : Nat) : Nat := if (hmO A s mo).isSome then mc A s else mc A s + 1
def mvA (A : Nat → Int32) (s to mo : Nat) : Nat → Int32 := fun j => if j = 147 + 94 * s + 4 then nI (mcN A s mo) else if j = 147 + 94 * s + (5 + ixM A s mo) then nI mo else if j = 147 + 94 * s + (17 + ixM A s mo) then nI to else A j
theorem ixM_s {A : Nat → Int32} {s mo : Nat} (h12 : mc A s < 12 ∨ (hmO A s mo).isSome = true) (hm : mc A s ≤ 12) : ixM A s mo < mcN A s mo ∧ mcN A s mo ≤ 12 ∧ mc A s ≤ mcN A s mo ∧ (∀ j, j < mcN A s mo → j ≠ ixM A s mo → j < mc A s ∧ mvm A s j ≠ mo ∨ (hmO A s mo).isSome = true ∧ j < mc A s) := by
  unfold ixM mcN
  cases hh : hmO A s mo with
  | none =>
    rw [hh] at h12
    have h12 : mc A s < 12 := h12.resolve_right (by simp)
    refine ⟨?_, ?_, ?_, fun j hj hne => ?_⟩
    · show mc A s < mc A s + 1; omega
    · show mc A s + 1 ≤ 12; omega
    · show mc A s ≤ mc A s + 1; omega
    · have hj : j < mc A s + 1 := hj
      have hne : j ≠ mc A s := hne
      refine Or.inl ⟨by omega, ?_⟩
      exact of_decide_eq_false (fnd_none _ _ hh j (by omega) (by omega))
  | some i =>
    have hi := (fnd_some _ _ _ hh).2.1
    refine ⟨?_, ?_, Nat.le_refl _, fun j hj hne => Or.inr ⟨rfl, hj⟩⟩
    · show i < mc A s; omega
    · exact hm
theorem mvA_o {A : Nat → Int32} {s to mo j : Nat} (h : j < 147 + 94 * s + 4 ∨ 147 + 94 * s + 29 ≤ j) (hi : ixM A s mo < 12) : mvA A s to mo j = A j := by
  unfold mvA
  rw [if_neg (by omega), if_neg (by omega), if_neg (by omega)]
theorem mvA_4 {A : Nat → Int32} {s to mo : Nat} : mvA A s to mo (147 + 94 * s + 4) = nI (mcN A s mo) := by
  unfold mvA
  rw [if_pos rfl]
theorem mvA_5 {A : Nat → Int32} {s to mo i : Nat} (hi : i < 12) (hx : ixM A s mo < 12) : mvA A s to mo (147 + 94 * s + (5 + i)) = if i = ixM A s mo then nI mo else A (147 + 94 * s + (5 + i)) := by
  unfold mvA
  rw [if_neg (by omega)]
  by_cases e : i = ixM A s mo
  · rw [if_pos e, if_pos (by rw [e])]
  · rw [if_neg e, if_neg (by omega), if_neg (by omega)]
theorem mvA_17 {A : Nat → Int32} {s to mo i : Nat} (hi : i < 12) (hx : ixM A s mo < 12) : mvA A s to mo (147 + 94 * s + (17 + i)) = if i = ixM A s mo then nI to else A (147 + 94 * s + (17 + i)) := by
  unfold mvA
  rw [if_neg (by omega), if_neg (by omega)]
  by_cases e : i = ixM A s mo
  · rw [if_pos e, if_pos (by rw [e])]
  · rw [if_neg e, if_neg (by omega)]
theorem pr_far {A : Nat → Int32} {t m L : Nat} (hM : VM A t) (h : ∀ i, i < mc A t → mvm A t i ≤ L) (hL : L ≤ m) (hm : m < 1000) : pr A m t = pr A L t := by
  unfold pr
  congr 1
  unfold spS
  rw [itf_congr (g' := spG A t (nI L)) (mc A t) 0 _ (fun k q _ hk => ?_)]
  unfold spG
  obtain ⟨b1, -⟩ := hM.2.2.2.1 k (by omega)
  have := h k (by omega)
  rw [b1]
  by_cases c : q.2 < nI (mvm A t k)
  · rw [if_pos ⟨nI_le (by omega) (by omega), c⟩, if_pos ⟨nI_le (by omega) (by omega), c⟩]
  · rw [if_neg (fun z => c z.2), if_neg (fun z => c z.2)]
theorem ow_far {A : Nat → Int32} {s mo m L : Nat} (h : ∀ i, i < mc A s → mvm A s i ≤ L) (hL : L ≤ m) : owB A s mo m = owB A s mo L := by
  have e1 := fnd_is (p := fun i => decide (mo < mvm A s i) && decide (mvm A s i ≤ m)) (n := mc A s)
  have e2 := fnd_is (p := fun i => decide (mo < mvm A s i) && decide (mvm A s i ≤ L)) (n := mc A s)
  unfold owB
  rw [Bool.eq_iff_iff, e1, e2]
  constructor
  · rintro ⟨i, hi, hp⟩
    rw [Bool.and_eq_true] at hp
    exact ⟨i, hi, by rw [Bool.and_eq_true]; exact ⟨hp.1, decide_eq_true (h i hi)⟩⟩
  · rintro ⟨i, hi, hp⟩
    rw [Bool.and_eq_true] at hp
    have := h i hi
    exact ⟨i, hi, by rw [Bool.and_eq_true]; exact ⟨hp.1, decide_eq_true (by omega)⟩⟩
theorem RS_move {c c' : Nat → Nat → Int32} {A T : Nat → Int32} (hR : RS c A T) {s to mo : Nat} (hs : s < nn A) (hs0 : s ≠ 0) (hto : to < nn A) (hmo : nwN A ≤ mo) (hmo2 : mo ≤ lastN A) (hrg : rgB A s to mo = false) (h12 : mc A s < 12 ∨ (hmO A s mo).isSome = true) (hc : ∀ o, o < 32 → o ≠ 16 → o ≠ 17 → o ≠ 18 → c' o = c o) (h16 : c' 16 = upd (c 16) s (nI (mcN A s mo))) (h17 : ∀ x, x < 12 * s ∨ 12 * s + 12 ≤ x → c' 17 x = c 17 x ∧ c' 18 x = c 18 x) (hRs : (∀ i, i < mcN A s mo → ∃ j, j < mcN A s mo ∧ c' 17 (12 * s + i) = mvA A s to mo (147 + 94 * s + (5 + j)) ∧ c' 18 (12 * s + i) = mvA A s to mo (147 + 94 * s + (17 + j))) ∧ (∀ j, j < mcN A s mo → ∃ i, i < mcN A s mo ∧ c' 17 (12 * s + i) = mvA A s to mo (147 + 94 * s + (5 + j)) ∧ c' 18 (12 * s + i) = mvA A s to mo (147 + 94 * s + (17 + j))) ∧ ∀ i i', i < i' → i' < mcN A s mo → c' 17 (12 * s + i) < c' 17 (12 * s + i')) : RS c' (mvA A s to mo) T := by
  obtain ⟨⟨v1, v2, v3, v4, v5, v6, v7, v8, v9⟩, r1, r2, r3, r4, r5, r6⟩ := hR
  have h10 := v1.2.1
  have h99 := v1.2.2.2.1
  have hl99 : lastN A ≤ 99 := by unfold lastN; omega
  have hl6 : lastN A ≤ nwN A + 6 := by unfold lastN; omega
  have hMs := v5 s hs
  obtain ⟨x1, x2, x3, x4⟩ := ixM_s h12 hMs.1
  have x12 : ixM A s mo < 12 := by omega
  have oo : ∀ j, j < 147 + 94 * s + 4 ∨ 147 + 94 * s + 29 ≤ j → mvA A s to mo j = A j := fun j h => mvA_o h x12
  have q4 := mvA_4 (A := A) (s := s) (to := to) (mo := mo)
  have q5 : ∀ i, i < 12 → mvA A s to mo (147 + 94 * s + (5 + i)) = if i = ixM A s mo then nI mo else A (147 + 94 * s + (5 + i)) := fun i hi => mvA_5 hi x12
  have q17 : ∀ i, i < 12 → mvA A s to mo (147 + 94 * s + (17 + i)) = if i = ixM A s mo then nI to else A (147 + 94 * s + (17 + i)) := fun i hi => mvA_17 hi x12
  have ixs : (hmO A s mo).isSome = true → mvm A s (ixM A s mo) = mo ∧ ixM A s mo < mc A s := fun h => by
    unfold ixM
    cases hh : hmO A s mo with
    | none => rw [hh] at h; cases h
    | some i =>
      obtain ⟨-, f2, f3, -⟩ := fnd_some _ _ _ hh
      exact ⟨of_decide_eq_true f3, by show i < mc A s; omega⟩
  have oth : ∀ j, j < mcN A s mo → j ≠ ixM A s mo → j < mc A s ∧ mvm A s j ≠ mo := fun j hj hne => by
    rcases x4 j hj hne with q | ⟨q1, q2⟩
    · exact q
    · refine ⟨q2, fun e => hne ?_⟩
      obtain ⟨y1, y2⟩ := ixs q1
      exact hMs.2.2.2.2.1 j _ q2 y2 (by omega)
  have inv : ∀ j, j < mc A s → mvm A s j ≠ mo → j ≠ ixM A s mo := fun j hj hne e => by
    subst e
    cases hh : (hmO A s mo).isSome with
    | true => exact hne (ixs hh).1
    | false =>
      unfold ixM at hj
      cases hh' : hmO A s mo with
      | none => rw [hh'] at hj; exact absurd hj (by show ¬ mc A s < mc A s; omega)
      | some i => rw [hh'] at hh; cases hh
  have hts : to ≠ s := fun e => by
    have hx : rgB A s to mo = true := fnd_is.mpr ⟨0, by omega, by
      rw [Bool.and_eq_true, Bool.not_eq_true']
      refine ⟨?_, ?_⟩
      · cases hy : owB A s mo (mo + 0) with
        | false => rfl
        | true =>
          obtain ⟨i, hi, hp⟩ := fnd_is.mp hy
          rw [Bool.and_eq_true] at hp
          have a := of_decide_eq_true hp.1
          have b := of_decide_eq_true hp.2
          omega
      · have := (lv_some (v6.ac v1 v5 (show mo + 0 ≤ 99 by omega)) hto (by omega)).mpr (show upk (pr A (mo + 0)) 0 to = some s by rw [e]; rfl)
        rw [this]
        rfl⟩
    rw [hrg] at hx
    cases hx
  generalize eB : mvA A s to mo = B at *
  have en : nn B = nn A := by unfold nn; rw [oo 145 (by omega)]
  have ew : nwN B = nwN A := by unfold nwN; rw [oo 144 (by omega)]
  have ek : nk B = nk A := by unfold nk; rw [oo 146 (by omega)]
  have row : ∀ t w, t < nn A → w < 94 → (t ≠ s ∨ w < 4 ∨ 29 ≤ w) → B (147 + 94 * t + w) = A (147 + 94 * t + w) := fun t w ht hw h => oo _ (by omega)
  have hi : ∀ j, 1087 ≤ j → B j = A j := fun j hj => oo j (by omega)
  have ej : ∀ t, t < nn A → jo B t = jo A t := fun t ht => by unfold jo; rw [row t 0 ht (by omega) (by omega)]
  have emc : ∀ t, t < nn A → t ≠ s → mc B t = mc A t := fun t ht h => by unfold mc; rw [row t 4 ht (by omega) (Or.inl h)]
  have emcs : mc B s = mcN A s mo := by unfold mc; rw [q4, nI_clamp (by omega)]
  have emm : ∀ t i, t < nn A → t ≠ s → i < 12 → mvm B t i = mvm A t i := fun t i ht h hi => by unfold mvm; rw [row t (5 + i) ht (by omega) (Or.inl h)]
  have emt : ∀ t i, t < nn A → t ≠ s → i < 12 → mvt B t i = mvt A t i := fun t i ht h hi => by unfold mvt; rw [row t (17 + i) ht (by omega) (Or.inl h)]
  have sm_ : ∀ i, i < 12 → mvm B s i = if i = ixM A s mo then mo else mvm A s i := fun i hi => by
    have : mvm B s i = (B (147 + 94 * s + (5 + i))).toNatClampNeg := rfl
    rw [this, q5 i hi]
    by_cases e : i = ixM A s mo
    · rw [if_pos e, if_pos e, nI_clamp (by omega)]
    · rw [if_neg e, if_neg e]
      rfl
  have st_ : ∀ i, i < 12 → mvt B s i = if i = ixM A s mo then to else mvt A s i := fun i hi => by
    have : mvt B s i = (B (147 + 94 * s + (17 + i))).toNatClampNeg := rfl
    rw [this, q17 i hi]
    by_cases e : i = ixM A s mo
    · rw [if_pos e, if_pos e, nI_clamp (by omega)]
    · rw [if_neg e, if_neg e]
      rfl
  have eq : ∀ i, nq B i = nq A i := fun i => by unfold nq; rw [hi _ (by omega)]
  have ewh : ∀ i l, whS B i l = whS A i l := fun i l => by unfold whS; rw [hi _ (by omega)]
  have enj : ∀ t, t < nn A → nj B t = nj A t := fun t ht => by unfold nj; rw [row t 29 ht (by omega) (by omega)]
  have espo : ∀ t, t < nn A → t ≠ s → ∀ m, spS B t m = spS A t m := by
    intro t ht hne m
    have hm := (v5 t ht).1
    unfold spS
    rw [emc t ht hne, row t 2 ht (by omega) (by omega), itf_congr (g' := spG A t m) (mc A t) 0 _ (fun k q _ hk => ?_)]
    unfold spG
    rw [row t (5 + k) ht (by omega) (Or.inl hne), row t (17 + k) ht (by omega) (Or.inl hne)]
  have vmB : ∀ t, t < nn A → VM B t := by
    intro t ht
    by_cases e : t = s
    · subst e
      obtain ⟨a1, a2, a3, a4, a5, a6⟩ := hMs
      unfold VM
      rw [emcs, q4, en, ew, ej t ht, row t 2 ht (by omega) (by omega)]
      refine ⟨x2, rfl, fun e => absurd e hs0, fun i hi' => ?_, fun i i' hi' hi'' => ?_, ?_⟩
      · rw [sm_ i (by omega), st_ i (by omega), q5 i (by omega), q17 i (by omega)]
        by_cases e : i = ixM A t mo
        · rw [if_pos e, if_pos e, if_pos e, if_pos e, ej to hto]
          have j1 := (v2 t ht).2.1
          have j2 := (v2 to hto).2.1
          exact ⟨rfl, rfl, by omega, by omega, hto, hts, by omega, by omega⟩
        · rw [if_neg e, if_neg e, if_neg e, if_neg e]
          obtain ⟨p1, p2, p3, p4, p5, p6, p7, p8⟩ := a4 i (oth i hi' e).1
          rw [ej _ p5]
          exact ⟨p1, p2, p3, p4, p5, p6, p7, p8⟩
      · rw [sm_ i (by omega), sm_ i' (by omega)]
        by_cases e : i = ixM A t mo
        · by_cases e' : i' = ixM A t mo
          · intro _; omega
          · rw [if_pos e, if_neg e']
            intro w
            exact absurd w.symm (oth i' hi'' e').2
        · by_cases e' : i' = ixM A t mo
          · rw [if_neg e, if_pos e']
            intro w
            exact absurd w (oth i hi' e).2
          · rw [if_neg e, if_neg e']
            exact a5 i i' (oth i hi' e).1 (oth i' hi'' e').1
      · rcases a6 with q | ⟨p, p1, p2, p3⟩
        · exact absurd q.1 hs0
        · exact Or.inr ⟨p, p1, p2, by rw [ej p (by omega)]; exact p3⟩
    · obtain ⟨a1, a2, a3, a4, a5, a6⟩ := v5 t ht
      unfold VM
      rw [emc t ht e, en, ej t ht, ew, row t 4 ht (by omega) (Or.inl e), row t 2 ht (by omega) (by omega)]
      refine ⟨a1, a2, a3, fun i hi' => ?_, fun i i' hi' hi'' => ?_, ?_⟩
      · obtain ⟨p1, p2, p3, p4, p5, p6, p7, p8⟩ := a4 i hi'
        rw [row t (5 + i) ht (by omega) (Or.inl e), row t (17 + i) ht (by omega) (Or.inl e), emm t i ht e (by omega), emt t i ht e (by omega), ej _ p5]
        exact ⟨p1, p2, p3, p4, p5, p6, p7, p8⟩
      · rw [emm t i ht e (by omega), emm t i' ht e (by omega)]
        exact a5 i i' hi' hi''
      · rcases a6 with q | ⟨p, p1, p2, p3⟩
        · exact Or.inl q
        · exact Or.inr ⟨p, p1, p2, by rw [ej p (by omega)]; exact p3⟩
  have vnB : VN B := by
    unfold VN
    rw [en, ew, oo 145 (by omega), oo 144 (by omega)]
    exact v1
  -- whom he is under, by the new row
  have early : ∀ m, m < mo → ∀ t, t < nn A → pr B m t = pr A m t := by
    intro m hm t ht
    unfold pr
    by_cases e : t = s
    · subst e
      congr 1
      rcases sp_cases (vmB t ht) (show m < 1000 by omega) with ⟨e1, f1⟩ | ⟨i, i1, i2, i3, i4⟩
      · rcases sp_cases hMs (show m < 1000 by omega) with ⟨e2, -⟩ | ⟨j, j1, j2, j3, j4⟩
        · rw [e1, e2, row t 2 ht (by omega) (by omega)]
        · have hj12 := hMs.1
          have hne := inv j j1 (by omega)
          have := f1 j (by rw [emcs]; omega)
          rw [sm_ j (by omega), if_neg hne] at this
          omega
      · rw [emcs] at i1
        have hne : i ≠ ixM A t mo := fun e => by
          rw [sm_ i (by omega), if_pos e] at i3
          omega
        have io := oth i i1 hne
        rw [sm_ i (by omega), if_neg hne] at i3
        rw [st_ i (by omega), if_neg hne] at i2
        rcases sp_cases hMs (show m < 1000 by omega) with ⟨-, f2⟩ | ⟨j, j1, j2, j3, j4⟩
        · have := f2 i io.1
          omega
        · have hj12 := hMs.1
          have hne' := inv j j1 (by omega)
          have w1 := i4 j (by rw [emcs]; omega) (by rw [sm_ j (by omega), if_neg hne']; exact j3)
          rw [sm_ j (by omega), if_neg hne', sm_ i (by omega), if_neg hne] at w1
          have w2 := j4 i io.1 i3
          have : i = j := hMs.2.2.2.2.1 i j io.1 j1 (by omega)
          rw [i2, j2, this]
    · rw [espo t ht e]
  have late : ∀ m, mo ≤ m → m < 1000 → ∀ t, t < nn A → pr B m t = tp A s to mo m t := by
    intro m hm hm2 t ht
    unfold tp
    by_cases e : t = s
    · subst e
      have ow := fnd_is (p := fun i => decide (mo < mvm A t i) && decide (mvm A t i ≤ m)) (n := mc A t)
      rcases sp_cases (vmB t ht) hm2 with ⟨-, f1⟩ | ⟨i, i1, i2, i3, i4⟩
      · have := f1 (ixM A t mo) (by rw [emcs]; exact x1)
        rw [sm_ _ x12, if_pos rfl] at this
        omega
      · rw [emcs] at i1
        have hmx := i4 (ixM A t mo) (by rw [emcs]; exact x1) (by rw [sm_ _ x12, if_pos rfl]; exact hm)
        rw [sm_ _ x12, if_pos rfl] at hmx
        cases ho : owB A t mo m with
        | true =>
          rw [if_neg (by simp)]
          obtain ⟨k, k1, k2⟩ := ow.mp ho
          rw [Bool.and_eq_true] at k2
          have k3 : mo < mvm A t k := of_decide_eq_true k2.1
          have k4 : mvm A t k ≤ m := of_decide_eq_true k2.2
          have hj12 := hMs.1
          have kne := inv k k1 (by omega)
          have w := i4 k (by rw [emcs]; omega) (by rw [sm_ k (by omega), if_neg kne]; exact k4)
          rw [sm_ k (by omega), if_neg kne] at w
          have hne : i ≠ ixM A t mo := fun e => by
            rw [sm_ i (by omega), if_pos e] at w
            omega
          have io := oth i i1 hne
          rw [sm_ i (by omega), if_neg hne] at i3 w
          rw [st_ i (by omega), if_neg hne] at i2
          rcases sp_cases hMs hm2 with ⟨-, f2⟩ | ⟨j, j1, j2, j3, j4⟩
          · have := f2 i io.1
            omega
          · have w2 := j4 i io.1 i3
            have jne := inv j j1 (by omega)
            have w1 := i4 j (by rw [emcs]; omega) (by rw [sm_ j (by omega), if_neg jne]; exact j3)
            rw [sm_ j (by omega), if_neg jne, sm_ i (by omega), if_neg hne] at w1
            have : i = j := hMs.2.2.2.2.1 i j io.1 j1 (by omega)
            unfold pr
            rw [i2, j2, this]
        | false =>
          rw [if_pos ⟨rfl, rfl⟩]
          have ei : i = ixM A t mo := by
            by_cases hne : i = ixM A t mo
            · exact hne
            · exfalso
              have io := oth i i1 hne
              rw [sm_ i (by omega), if_neg hne] at i3 hmx
              have := ow.mpr ⟨i, io.1, by
                rw [Bool.and_eq_true]
                exact ⟨decide_eq_true (by omega), decide_eq_true i3⟩⟩
              have ho : (fnd (fun i => decide (mo < mvm A t i) && decide (mvm A t i ≤ m)) 0 (mc A t)).isSome = false := ho
              rw [ho] at this
              cases this
          rw [st_ i (by omega), if_pos ei] at i2
          unfold pr prO
          rw [i2, if_neg (nI_m1 (by omega)), nI_clamp (by omega)]
    · rw [if_neg (fun q => e q.1)]
      unfold pr
      rw [espo t ht e]
  have acB : ∀ m, m ≤ 99 → ACy (pr B m) (nn A) := by
    intro m hm
    have cong : ∀ P, ACy P (nn A) → (∀ t, t < nn A → pr B m t = P t) → ACy (pr B m) (nn A) := fun P hP hE => by
      refine ⟨fun t p ht e => hP.1 t p ht (by rw [← hE t ht]; exact e), fun t ht => ?_⟩
      rw [upk_congr (P := P) (n := nn A) hE (fun t p ht e => hP.1 t p ht e) (nn A) t ht]
      exact hP.2 t ht
    rcases Nat.lt_or_ge m mo with q | q
    · exact cong _ (v6.ac v1 v5 hm) (early m q)
    · have lo : ∀ m', mo ≤ m' → m' ≤ lastN A → ACy (tp A s to mo m') (nn A) := fun m' g1 g2 => by
        refine tp_ac (v6.ac v1 v5 (show m' ≤ 99 by omega)) h10 hs hto ?_
        cases hx : (!owB A s mo m' && (lv (pr A m') to s).isSome) with
        | false => rfl
        | true =>
          have : rgB A s to mo = true := fnd_is.mpr ⟨m' - mo, by omega, by rw [show mo + (m' - mo) = m' by omega]; exact hx⟩
          rw [hrg] at this
          cases this
      rcases Nat.lt_or_ge (lastN A) m with q2 | q2
      · have hfar : ∀ t, t < nn A → ∀ i, i < mc A t → mvm A t i ≤ lastN A := fun t ht i hi' => by
          obtain ⟨-, -, p3, p4, -⟩ := (v5 t ht).2.2.2.1 i hi'
          unfold lastN
          omega
        refine cong _ (lo (lastN A) hmo2 (Nat.le_refl _)) (fun t ht => ?_)
        rw [late m q (by omega) t ht]
        unfold tp
        rw [ow_far (hfar s hs) (by omega), pr_far (v5 t ht) (hfar t ht) (by omega) (by omega)]
      · exact cong _ (lo m q q2) (late m q (by omega))
  refine ⟨⟨vnB, fun t ht => ?_, ?_, VP_to (fun j h1 h2 => oo j (by omega)) v4, fun t ht => vmB t (by rw [en] at ht; exact ht), fun m hm t ht => ?_, fun t ht => ?_, fun i hi' => ?_, ?_⟩, ?_, ?_, ?_, fun t ht => ?_, ⟨fun t ht => ?_, fun t g1 g2 => ?_⟩, ?_⟩
  · rw [en] at ht
    have := v2 t ht
    unfold VC at *
    rw [ej t ht, ew, row t 0 ht (by omega) (by omega), row t 1 ht (by omega) (by omega), row t 3 ht (by omega) (by omega)]
    exact this
  · unfold VS
    rw [ek, oo 146 (by omega)]
    refine ⟨v3.1, v3.2.1, fun i hi' => ?_⟩
    obtain ⟨⟨w, mo', to', b1, b2, b3, b4, b5, b6, b7, b8⟩, a2, a3, a4, a5, a6, a7⟩ := v3.2.2 i hi'
    unfold VK
    rw [eq, en, ew, hi (1087 + 41 * i + 0) (by omega), hi (1087 + 41 * i + 1) (by omega), hi (1087 + 41 * i + 2) (by omega), hi (1087 + 41 * i + 3) (by omega), hi (1087 + 41 * i + 4) (by omega), hi (1087 + 41 * i + 5) (by omega)]
    refine ⟨⟨w, mo', to', b1, b2, b3, b4, by rw [ej w b1]; exact b5, b6, b7, b8⟩, a2, a3, a4, a5, fun l hl' => by rw [ewh]; exact a6 l hl', fun l l' h1 h2 => by rw [ewh i l, ewh i l']; exact a7 l l' h1 h2⟩
  · rw [en] at ht ⊢
    exact ⟨nn A, Nat.le_refl _, (acB m hm).2 t ht⟩
  · rw [en] at ht
    rw [enj t ht, row t 29 ht (by omega) (by omega)]
    exact v7 t ht
  · rw [ek] at hi'
    obtain ⟨p, p1, p2⟩ := v8 i hi'
    rw [eq]
    exact ⟨p, fun l hl' => by rw [hi _ (by omega)]; exact p1 l hl', p2⟩
  · unfold VA nt at *
    rw [oo 0 (by omega)]
    exact v9
  · refine ⟨by rw [oo 145 (by omega), hc 12 (by omega) (by omega) (by omega) (by omega)]; exact r1.1, by rw [hc 0 (by omega) (by omega) (by omega) (by omega), oo 144 (by omega)]; exact r1.2.1, fun t ht => ?_⟩
    rw [en] at ht
    rw [hc 13 (by omega) (by omega) (by omega) (by omega), hc 14 (by omega) (by omega) (by omega) (by omega), hc 19 (by omega) (by omega) (by omega) (by omega), hc 15 (by omega) (by omega) (by omega) (by omega), row t 0 ht (by omega) (by omega), row t 1 ht (by omega) (by omega), row t 2 ht (by omega) (by omega), row t 3 ht (by omega) (by omega), h16]
    obtain ⟨w1, w2, w3, w4, w5⟩ := r1.2.2 t ht
    refine ⟨w1, w2, w3, w4, ?_⟩
    by_cases e : t = s
    · rw [e, upd_s, q4]
    · rw [upd_o e, row t 4 ht (by omega) (Or.inl e)]
      exact w5
  · unfold RCs at *
    rw [ek, oo 146 (by omega), hc 20 (by omega) (by omega) (by omega) (by omega), hc 26 (by omega) (by omega) (by omega) (by omega), hc 27 (by omega) (by omega) (by omega) (by omega)]
    refine ⟨r2.1, fun i hi' => ⟨fun f hf => ?_, ?_, fun l hl' f hf => ?_⟩⟩
    · rw [hc (21 + f) (by omega) (by omega) (by omega) (by omega), hi _ (by omega)]
      exact (r2.2 i hi').1 f hf
    · rw [hi _ (by omega)]
      exact (r2.2 i hi').2.1
    · rw [eq] at hl'
      rw [hi _ (by omega)]
      exact (r2.2 i hi').2.2 l hl' f hf
  · refine RCp_to (fun j h1 h2 => oo j (by omega)) v4 ?_
    unfold RCp at *
    rw [hc 3 (by omega) (by omega) (by omega) (by omega), hc 4 (by omega) (by omega) (by omega) (by omega), hc 5 (by omega) (by omega) (by omega) (by omega), hc 6 (by omega) (by omega) (by omega) (by omega), hc 7 (by omega) (by omega) (by omega) (by omega), hc 8 (by omega) (by omega) (by omega) (by omega), hc 9 (by omega) (by omega) (by omega) (by omega), hc 10 (by omega) (by omega) (by omega) (by omega)]
    exact r3
  · rw [en] at ht
    by_cases e : t = s
    · rw [e, emcs]
      exact hRs
    · have h12' := (v5 t ht).1
      obtain ⟨b1, b2, b3⟩ := r4 t ht
      rw [emc t ht e]
      refine ⟨fun i hi' => ?_, fun j hj => ?_, fun i i' g1 g2 => ?_⟩
      · obtain ⟨j, j1, j2, j3⟩ := b1 i hi'
        rw [(h17 (12 * t + i) (by omega)).1, (h17 (12 * t + i) (by omega)).2]
        exact ⟨j, j1, by rw [row t (5 + j) ht (by omega) (Or.inl e)]; exact j2, by rw [row t (17 + j) ht (by omega) (Or.inl e)]; exact j3⟩
      · obtain ⟨i, j1, j2, j3⟩ := b2 j hj
        refine ⟨i, j1, ?_, ?_⟩
        · rw [(h17 (12 * t + i) (by omega)).1, row t (5 + j) ht (by omega) (Or.inl e)]; exact j2
        · rw [(h17 (12 * t + i) (by omega)).2, row t (17 + j) ht (by omega) (Or.inl e)]; exact j3
      · rw [(h17 (12 * t + i) (by omega)).1, (h17 (12 * t + i') (by omega)).1]
        exact b3 i i' g1 g2
  · rw [en] at ht
    rw [hc 29 (by omega) (by omega) (by omega) (by omega), hc 30 (by omega) (by omega) (by omega) (by omega), hc 31 (by omega) (by omega) (by omega) (by omega)]
    obtain ⟨w1, x, w2, w3, w4, w5⟩ := r5.1 t ht
    have h16' := (v7 t ht).1
    rw [enj t ht, row t 29 ht (by omega) (by omega)]
    refine ⟨w1, x, w2, w3, w4, fun i hi' v hv => ?_⟩
    rw [row t (30 + 4 * i + v) ht (by omega) (by omega)]
    exact w5 i hi' v hv
  · rw [en] at g1
    rw [hc 29 (by omega) (by omega) (by omega) (by omega), hc 30 (by omega) (by omega) (by omega) (by omega)]
    exact r5.2 t g1 g2
  · unfold RCa nt at *
    rw [hc 1 (by omega) (by omega) (by omega) (by omega), hc 2 (by omega) (by omega) (by omega) (by omega), hc 0 (by omega) (by omega) (by omega) (by omega), oo 0 (by omega), oo 1 (by omega), oo 2 (by omega)]
    exact r6
