/-! rings -/
theorem pigeon : ∀ (n : Nat) (f : Nat → Nat) (L : Nat), (∀ i, i < L → f i < n) → (∀ i j, i < j → j < L → f i ≠ f j) → L ≤ n := by
  intro n
  induction n with
  | zero =>
    intro f L h1 _
    rcases Nat.eq_zero_or_pos L with e | e
    · omega
    · have := h1 0 e
      omega
  | succ n ih =>
    intro f L h1 h2
    by_cases hx : ∃ i, i < L ∧ f i = n
    · obtain ⟨i0, hi0, e0⟩ := hx
      have := ih (fun i => if i < i0 then f i else f (i + 1)) (L - 1) (fun i hi => by
        show (if i < i0 then f i else f (i + 1)) < n
        by_cases c : i < i0
        · rw [if_pos c]
          have a := h1 i (by omega)
          have b := h2 i i0 c hi0
          omega
        · rw [if_neg c]
          have a := h1 (i + 1) (by omega)
          have b := h2 i0 (i + 1) (by omega) (by omega)
          omega) (fun i j hij hj => by
        show (if i < i0 then f i else f (i + 1)) ≠ (if j < i0 then f j else f (j + 1))
        by_cases c : i < i0
        · rw [if_pos c]
          by_cases d : j < i0
          · rw [if_pos d]
            exact h2 i j hij (by omega)
          · rw [if_neg d]
            exact h2 i (j + 1) (by omega) (by omega)
        · rw [if_neg c, if_neg (by omega)]
          exact h2 (i + 1) (j + 1) (by omega) (by omega))
      omega
    · have := ih f L (fun i hi => by
        have a := h1 i hi
        have b : f i ≠ n := fun e => hx ⟨i, hi, e⟩
        omega) h2
      omega
theorem upk_cl {P : Nat → Option Nat} {n : Nat} (hc : ∀ s p, s < n → P s = some p → p < n) : ∀ {k s t : Nat}, s < n → upk P k s = some t → t < n := by
  intro k
  induction k with
  | zero => intro s t hs e; cases e; exact hs
  | succ k ih =>
    intro s t hs e
    rw [upk_next] at e
    cases hu : upk P k s with
    | none => rw [hu] at e; cases e
    | some p =>
      rw [hu] at e
      exact hc p t (ih hs hu) e
theorem ac_of {P : Nat → Option Nat} {n : Nat} (hc : ∀ s p, s < n → P s = some p → p < n) (ht : ∀ s, s < n → ∃ k, upk P k s = none) : ACy P n := by
  refine ⟨hc, fun s hs => ?_⟩
  cases hx : upk P n s with
  | none => rfl
  | some x =>
    exfalso
    have hsome : ∀ k, k ≤ n → upk P k s = some ((upk P k s).getD 0) := by
      intro k hk
      cases hu : upk P k s with
      | none =>
        have := upk_mono hu hk
        rw [hx] at this
        cases this
      | some p => rfl
    by_cases hd : ∀ i j, i < j → j < n + 1 → (upk P i s).getD 0 ≠ (upk P j s).getD 0
    · have := pigeon n (fun k => (upk P k s).getD 0) (n + 1) (fun i hi => upk_cl hc hs (hsome i (by omega))) hd
      omega
    · apply hd
      intro i j hij hj e
      have h1 := hsome i (by omega)
      have h2 := hsome j (by omega)
      rw [← e] at h2
      generalize (upk P i s).getD 0 = y at *
      have h3 : upk P (j - i) y = some y := by
        have := upk_plus (P := P) i (j - i) s
        rw [show i + (j - i) = j by omega, h2, h1] at this
        exact this.symm
      obtain ⟨k, hk⟩ := ht y (upk_cl hc hs h1)
      have h4 := upk_loop h3 k
      have h5 := upk_mono hk (show k ≤ k * (j - i) by
        have : k * 1 ≤ k * (j - i) := Nat.mul_le_mul_left k (by omega)
        omega)
      rw [h4] at h5
      cases h5
theorem upk_avoid {P P' : Nat → Option Nat} {s : Nat} (h : ∀ t, t ≠ s → P' t = P t) : ∀ k t, (∀ j, j < k → upk P j t ≠ some s) → upk P' k t = upk P k t := by
  intro k
  induction k with
  | zero => intro t _; rfl
  | succ k ih =>
    intro t hj
    rw [upk_next, upk_next, ih t (fun j hjk => hj j (by omega))]
    have := hj k (by omega)
    cases hu : upk P k t with
    | none => rfl
    | some p =>
      rw [hu] at this
      exact h p (fun e => this (by rw [e]))
theorem fnd_is {p : Nat → Bool} {n : Nat} : (fnd p 0 n).isSome = true ↔ ∃ i, i < n ∧ p i = true := by
  cases hf : fnd p 0 n with
  | none =>
    refine ⟨fun q => (by cases q), ?_⟩
    rintro ⟨i, hi, hp⟩
    have := fnd_none _ _ hf i (by omega) (by omega)
    rw [hp] at this
    cases this
  | some l =>
    obtain ⟨-, h2, h3, -⟩ := fnd_some _ _ _ hf
    exact ⟨fun _ => ⟨l, by omega, h3⟩, fun _ => rfl⟩
theorem ring_no {P P' : Nat → Option Nat} {n s to : Nat} (hA : ACy P n) (hn : n ≤ 11) (h : ∀ t, t ≠ s → P' t = P t) (hs' : P' s = some to) (hs : s < n) (hto : to < n) (hl : lv P to s = none) : ACy P' n := by
  have av : ∀ j, upk P j to ≠ some s := fun j e => by
    have := (lv_some hA hto hn).mpr e
    rw [hl] at this
    cases this
  have e1 : ∀ k, upk P' k to = upk P k to := fun k => upk_avoid h k to (fun j _ => av j)
  have e2 : upk P' (n + 1) s = none := by
    show (P' s).bind (upk P' n) = none
    rw [hs']
    show upk P' n to = none
    rw [e1]
    exact hA.2 to hto
  refine ac_of (fun t p ht e => ?_) (fun t ht => ?_)
  · by_cases c : t = s
    · rw [c, hs'] at e
      cases e
      exact hto
    · rw [h t c] at e
      exact hA.1 t p ht e
  · by_cases hx : ∃ j, upk P j t = some s
    · have hf : (fnd (fun j => decide (upk P j t = some s)) 0 n).isSome = true := by
        obtain ⟨j, hj⟩ := hx
        exact fnd_is.mpr ⟨j, hA.k ht hj, decide_eq_true hj⟩
      cases hf' : fnd (fun j => decide (upk P j t = some s)) 0 n with
      | none => rw [hf'] at hf; cases hf
      | some i =>
        obtain ⟨-, -, f3, f4⟩ := fnd_some _ _ _ hf'
        have f3 : upk P i t = some s := of_decide_eq_true f3
        have e3 : upk P' i t = some s := by
          rw [upk_avoid h i t (fun j hj => of_decide_eq_false (f4 j (by omega) hj))]
          exact f3
        refine ⟨i + (n + 1), ?_⟩
        rw [upk_plus, e3]
        exact e2
    · refine ⟨n, ?_⟩
      rw [upk_avoid h n t (fun j _ e => hx ⟨j, e⟩)]
      exact hA.2 t ht
theorem ring_yes {P P' : Nat → Option Nat} {s to e : Nat} (h : ∀ t, t ≠ s → P' t = P t) (hs' : P' s = some to) (hl : lv P to s = some e) : ∀ k, upk P' k s ≠ none := by
  obtain ⟨-, -, f3, f4⟩ := fnd_some _ _ _ hl
  have f3 : upk P e to = some s := of_decide_eq_true f3
  have e1 : upk P' e to = some s := by
    rw [upk_avoid h e to (fun j hj => of_decide_eq_false (f4 j (by omega) hj))]
    exact f3
  have e2 : upk P' (e + 1) s = some s := by
    show (P' s).bind (upk P' e) = some s
    rw [hs']
    exact e1
  intro k hk
  have h1 := upk_loop e2 k
  have h2 := upk_mono hk (show k ≤ k * (e + 1) by
    have : k * 1 ≤ k * (e + 1) := Nat.mul_le_mul_left k (by omega)
    omega)
  rw [h1] at h2
  cases h2
theorem lp_ex3 {S β γ : Type} {b : (S → Option γ) → S → Option γ} (enc : Nat → β → S) (I : Nat → β → Prop) (J : γ → Prop) (N : Nat)
    (step : ∀ k s, k < N → I k s → (∃ s', I (k + 1) s' ∧ ∀ rec, b rec (enc k s) = rec (enc (k + 1) s')) ∨ (∃ r, J r ∧ ∀ rec, b rec (enc k s) = some r)) (stop : ∀ s, I N s → ∃ r, J r ∧ ∀ rec, b rec (enc N s) = some r) :
    ∀ (n f i : Nat) (s : β), i + n = N → n < f → I i s → ∃ r, J r ∧ lp b f (enc i s) = some r := by
  intro n
  induction n with
  | zero =>
    intro f i s hi hf hI
    cases f with
    | zero => omega
    | succ f =>
      have : i = N := by omega
      subst this
      obtain ⟨r, hr, e⟩ := stop s hI
      exact ⟨r, hr, e (lp b f)⟩
  | succ n ih =>
    intro f i s hi hf hI
    cases f with
    | zero => omega
    | succ f =>
      rcases step i s (by omega) hI with ⟨s', h1, h2⟩ | ⟨r, hr, h2⟩
      · obtain ⟨r, hr, e⟩ := ih f (i + 1) s' (by omega) (by omega) h1
        exact ⟨r, hr, (h2 (lp b f)).trans e⟩
      · exact ⟨r, hr, h2 (lp b f)⟩
/-! a move that is tried -/
def owB (A : Nat → Int32) (s mo m : Nat) : Bool := (fnd (fun i => decide (mo < mvm A s i) && decide (mvm A s i ≤ m)) 0 (mc A s)).isSome
def tp (A : Nat → Int32) (s to mo m : Nat) : Nat → Option Nat := fun t => if t = s ∧ owB A s mo m = false then some to else pr A m t
def spE (A : Nat → Int32) (s : Nat) (m mo : Int32) (i : Nat) (q : Int32 × Int32) : Int32 × Int32 := if A (147 + 94 * s + (5 + i)) ≤ m ∧ q.2 < A (147 + 94 * s + (5 + i)) ∧ ¬ A (147 + 94 * s + (5 + i)) = mo then (A (147 + 94 * s + (17 + i)), A (147 + 94 * s + (5 + i))) else q
theorem spE_cases {A : Nat → Int32} {s : Nat} (hM : VM A s) {m mo : Nat} (hm : m < 1000) (hmo : mo < 1000) : ∀ k, k ≤ mc A s → (((itf (spE A s (nI m) (nI mo)) 0 k (A (147 + 94 * s + 2), -1)).2 = -1 ∧ ∀ i, i < k → mvm A s i ≤ m → mvm A s i = mo) ∨ ∃ i, i < k ∧ itf (spE A s (nI m) (nI mo)) 0 k (A (147 + 94 * s + 2), -1) = (nI (mvt A s i), nI (mvm A s i)) ∧ mvm A s i ≤ m ∧ mvm A s i ≠ mo ∧ ∀ i', i' < k → mvm A s i' ≤ m → mvm A s i' ≠ mo → mvm A s i' ≤ mvm A s i) := by
  obtain ⟨a1, a2, a3, a4, a5, a6⟩ := hM
  intro k
  induction k with
  | zero => intro _; exact Or.inl ⟨rfl, fun i hi => by omega⟩
  | succ k ih =>
    intro hk
    have ih := ih (by omega)
    obtain ⟨b1, b2, b3, -⟩ := a4 k (by omega)
    rw [itf_last, Nat.zero_add]
    generalize itf (spE A s (nI m) (nI mo)) 0 k (A (147 + 94 * s + 2), -1) = q at *
    unfold spE
    rw [b1, b2]
    by_cases c1 : mvm A s k ≤ m
    · by_cases c3 : mvm A s k = mo
      · rw [if_neg (fun z => z.2.2 (by rw [c3]))]
        rcases ih with ⟨q1, q2⟩ | ⟨i, q1, q2, q3, q4, q5⟩
        · refine Or.inl ⟨q1, fun i hi h2 => ?_⟩
          by_cases e : i = k
          · rw [e]; exact c3
          · exact q2 i (by omega) h2
        · refine Or.inr ⟨i, by omega, q2, q3, q4, fun i' h1 h2 h3 => ?_⟩
          by_cases e : i' = k
          · rw [e] at h3; exact absurd c3 h3
          · exact q5 i' (by omega) h2 h3
      · have c3' : ¬ nI (mvm A s k) = nI mo := fun e => c3 ((nI_eq (by omega) (by omega)).mp e)
        rcases ih with ⟨q1, q2⟩ | ⟨i, q1, q2, q3, q4, q5⟩
        · rw [if_pos ⟨nI_le c1 (by omega), by rw [q1]; exact Int32.lt_of_lt_of_le m1_eq (nI_pos' (by omega)), c3'⟩]
          refine Or.inr ⟨k, by omega, rfl, c1, c3, fun i' h1 h2 h3 => ?_⟩
          by_cases e : i' = k
          · rw [e]; exact Nat.le_refl _
          · exact absurd (q2 i' (by omega) h2) h3
        · have hmi := (a4 i (by omega)).2.2.1
          by_cases c2 : mvm A s i < mvm A s k
          · rw [if_pos ⟨nI_le c1 (by omega), by rw [q2]; exact nI_lt c2 (by omega), c3'⟩]
            refine Or.inr ⟨k, by omega, rfl, c1, c3, fun i' h1 h2 h3 => ?_⟩
            by_cases e : i' = k
            · rw [e]; exact Nat.le_refl _
            · have := q5 i' (by omega) h2 h3; omega
          · rw [if_neg (fun z => c2 (by
              have := z.2.1
              rw [q2] at this
              exact (nI_ltI (by omega) (by omega)).mp this))]
            refine Or.inr ⟨i, by omega, q2, q3, q4, fun i' h1 h2 h3 => ?_⟩
            by_cases e : i' = k
            · rw [e]; omega
            · exact q5 i' (by omega) h2 h3
    · rw [if_neg (fun z => c1 ((nI_leI (by omega) (by omega)).mp z.1))]
      rcases ih with ⟨q1, q2⟩ | ⟨i, q1, q2, q3, q4, q5⟩
      · refine Or.inl ⟨q1, fun i hi h2 => ?_⟩
        by_cases e : i = k
        · rw [e] at h2; exact absurd h2 c1
        · exact q2 i (by omega) h2
      · refine Or.inr ⟨i, by omega, q2, q3, q4, fun i' h1 h2 h3 => ?_⟩
        by_cases e : i' = k
        · rw [e] at h2; omega
        · exact q5 i' (by omega) h2 h3
theorem e_sponsorAtT {g : Z_H} (G : LY g) {A : Nat → Int32} (eA : z_i g 62 = A) (hN : VN A) (hM : ∀ t, t < nn A → VM A t) {s to mo m t : Nat} (hs : s < nn A) (hto : to < nn A) (h14 : z_i g 61 14 = nI s) (h15 : z_i g 61 15 = nI to) (h16 : z_i g 61 16 = nI mo) (hmo : mo ≤ m) (hm : m < 1000) (ht : t < nn A) : f_X10_sponsorAt g 61 (nI t) (nI m) = some (pe (tp A s to mo m t)) := by
  have h10 := hN.2.1
  have hMt := hM t ht
  by_cases c : t = s
  · subst c
    have o4 := e_os4 (s := t) G (by omega)
    rw [eA, hMt.2.1] at o4
    have o2 := e_os2 (s := t) G (by omega)
    rw [eA] at o2
    have h12 := hMt.1
    have key := lp_for (b := f_X10_sponsorAt_l1 61 (nI t) (nI m) g 1) (fun k (q : Int32 × Int32) => (q.1, q.2, nI k)) (fun _ _ => True) (spE A t (nI m) (nI mo)) some (mc A t) ?_ (fun _ _ _ _ => trivial) ?_ (mc A t) FU 0 (A (147 + 94 * t + 2), -1) (by omega) (by unfold FU; omega) trivial
    · have key' : lp (f_X10_sponsorAt_l1 61 (nI t) (nI m) g 1) FU (A (147 + 94 * t + 2), -1, 0) = some (itf (spE A t (nI m) (nI mo)) 0 (mc A t) (A (147 + 94 * t + 2), -1)) := key
      have cs := spE_cases hMt hm (show mo < 1000 by omega) (mc A t) (Nat.le_refl _)
      have ow := fnd_is (p := fun i => decide (mo < mvm A t i) && decide (mvm A t i ≤ m)) (n := mc A t)
      have body : ∀ q, itf (spE A t (nI m) (nI mo)) 0 (mc A t) (A (147 + 94 * t + 2), -1) = q → f_X10_sponsorAt g 61 (nI t) (nI m) = if nI mo ≤ q.2 then some q.1 else some (nI to) := by
        intro q eq
        rw [eq] at key'
        unfold f_X10_sponsorAt
        refine gdE (yg61 G) ?_
        refine bnd o2 ?_
        refine bnd ((yI61 G 14).trans (congrArg some h14)) ?_
        refine jnE ?_
        refine (if_pos rfl).trans ?_
        refine bnd key' ?_
        refine (if_neg (show ¬ (1 : Int32) = 0 by decide)).trans ?_
        refine bnd ((yI61 G 16).trans (congrArg some h16)) ?_
        refine (if_neg (nI_nlt hmo (by omega))).trans ?_
        refine bnd ((yI61 G 16).trans (congrArg some h16)) ?_
        by_cases c : nI mo ≤ q.2
        · rw [if_pos c, if_pos c]
        · rw [if_neg c, if_neg c]
          refine bnd ((yI61 G 15).trans (congrArg some h15)) ?_
          rfl
      rcases cs with ⟨q1, q2⟩ | ⟨i, q1, q2, q3, q4, q5⟩
      · have eo : owB A t mo m = false := by
          cases hb : owB A t mo m with
          | false => rfl
          | true =>
            obtain ⟨i, hi, hp⟩ := ow.mp hb
            simp only [Bool.and_eq_true, decide_eq_true_eq] at hp
            have := q2 i hi hp.2
            omega
        rw [body _ rfl, q1, if_neg (by
          intro w
          exact nI_pos (show mo < 2 ^ 31 by omega) (Int32.lt_of_le_of_lt w m1_eq))]
        unfold tp
        rw [if_pos ⟨rfl, eo⟩]
        rfl
      · rw [body _ q2]
        have hmi := (hMt.2.2.2.1 i q1).2.2.1
        by_cases c2 : mo < mvm A t i
        · have eo : owB A t mo m = true := ow.mpr ⟨i, q1, by simp only [Bool.and_eq_true, decide_eq_true_eq]; exact ⟨c2, q3⟩⟩
          dsimp only
          rw [if_pos (nI_le (by omega) (by omega))]
          unfold tp
          rw [if_neg (by rw [eo]; simp), ← sp_pe hMt ht hN hm]
          rcases sp_cases hMt hm with ⟨-, r2⟩ | ⟨i', r1, r2, r3, r4⟩
          · have := r2 i q1
            omega
          · have h1 := r4 i q1 q3
            have h2 := q5 i' r1 r3 (by omega)
            have : i' = i := hMt.2.2.2.2.1 i' i r1 q1 (by omega)
            rw [r2, this]
        · have eo : owB A t mo m = false := by
            cases hb : owB A t mo m with
            | false => rfl
            | true =>
              obtain ⟨i', hi', hp⟩ := ow.mp hb
              simp only [Bool.and_eq_true, decide_eq_true_eq] at hp
              have := q5 i' hi' hp.2 (by omega)
              omega
          dsimp only
          rw [if_neg (nI_ge (by omega) (by omega))]
          unfold tp
          rw [if_pos ⟨rfl, eo⟩]
          rfl
    · rintro rec k ⟨v, l⟩ hk _
      have o5 := e_os5 (s := t) (k := k) G (by omega) (by omega)
      have o17 := e_os17 (s := t) (k := k) G (by omega) (by omega)
      rw [eA] at o5 o17
      unfold f_X10_sponsorAt_l1 spE
      refine bnd o4 ?_
      refine (if_neg (nI_ge hk (by omega))).trans ?_
      refine bnd o5 ?_
      refine jnE ?_
      dsimp only
      rw [nI_1]
      by_cases c1 : nI m < A (147 + 94 * t + (5 + k))
      · rw [if_pos c1, if_neg (fun q => absurd c1 (Int32.not_lt.mpr q.1))]
      · rw [if_neg c1]
        by_cases c2 : A (147 + 94 * t + (5 + k)) ≤ l
        · rw [if_pos c2, if_neg (fun q => absurd c2 (Int32.not_le.mpr q.2.1))]
        · rw [if_neg c2]
          refine jnE ?_
          refine (if_neg (show ¬ (1 : Int32) = 0 by decide)).trans ?_
          refine bnd ((yI61 G 16).trans (congrArg some h16)) ?_
          by_cases c3 : A (147 + 94 * t + (5 + k)) = nI mo
          · refine (if_pos c3).trans ?_
            rw [if_neg (fun q => q.2.2 c3)]
          · refine (if_neg c3).trans ?_
            rw [if_pos ⟨Int32.not_lt.mp c1, Int32.not_le.mp c2, c3⟩]
            refine bnd o17 ?_
            rfl
    · rintro rec ⟨v, l⟩ _
      unfold f_X10_sponsorAt_l1
      refine bnd o4 ?_
      exact if_pos (nI_le (Nat.le_refl _) (by omega))
  · have := e_sponsorAt0 (m := nI m) (s := t) G (by omega) (by rw [eA]; exact hMt.1) (by rw [eA]; exact hMt.2.1) (by
      rw [h14]
      exact fun e => c ((nI_eq (by omega) (by omega)).mp e))
    rw [this, eA, sp_pe hMt ht hN hm]
    unfold tp
    rw [if_neg (fun q => c q.1)]
