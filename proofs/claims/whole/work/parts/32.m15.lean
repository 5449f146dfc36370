theorem lp_ex2 {S β γ : Type} {b : (S → Option γ) → S → Option γ} (enc : Nat → β → S) (I : Nat → β → Prop) (e : β → Option γ) (N : Nat)
    (step : ∀ k s, k < N → I k s → (∃ s', I (k + 1) s' ∧ ∀ rec, b rec (enc k s) = rec (enc (k + 1) s')) ∨ (I N s ∧ ∀ rec, b rec (enc k s) = e s)) (stop : ∀ rec s, I N s → b rec (enc N s) = e s) :
    ∀ (n f i : Nat) (s : β), i + n = N → n < f → I i s → ∃ s', I N s' ∧ lp b f (enc i s) = e s' := by
  intro n
  induction n with
  | zero =>
    intro f i s hi hf hI
    cases f with
    | zero => omega
    | succ f =>
      have : i = N := by omega
      subst this
      exact ⟨s, hI, stop (lp b f) s hI⟩
  | succ n ih =>
    intro f i s hi hf hI
    cases f with
    | zero => omega
    | succ f =>
      rcases step i s (by omega) hI with ⟨s', h1, h2⟩ | ⟨h1, h2⟩
      · obtain ⟨s2, h3, h4⟩ := ih f (i + 1) s' (by omega) (by omega) h1
        refine ⟨s2, h3, ?_⟩
        show b (lp b f) (enc i s) = _
        rw [h2]
        exact h4
      · exact ⟨s, h1, h2 _⟩
theorem fnd_app {p : Nat → Bool} : ∀ n i, fnd p i (n + 1) = match fnd p i n with | some l => some l | none => if p (i + n) then some (i + n) else none := by
  intro n
  induction n with
  | zero =>
    intro i
    show (if p i = true then some i else none) = if p (i + 0) = true then some (i + 0) else none
    rfl
  | succ n ih =>
    intro i
    conv => lhs; unfold fnd
    conv => rhs; unfold fnd
    by_cases hp : p i = true
    · rw [if_pos hp, if_pos hp]
    · rw [if_neg hp, if_neg hp, ih (i + 1), show i + 1 + n = i + (n + 1) by omega]
theorem upk_plus {P : Nat → Option Nat} : ∀ i j s, upk P (i + j) s = (upk P i s).bind (upk P j) := by
  intro i
  induction i with
  | zero => intro j s; rw [Nat.zero_add]; rfl
  | succ i ih =>
    intro j s
    rw [show i + 1 + j = (i + j) + 1 by omega]
    show (P s).bind (upk P (i + j)) = ((P s).bind (upk P i)).bind (upk P j)
    cases P s with
    | none => rfl
    | some p => exact ih j p
theorem upk_next {P : Nat → Option Nat} (k s : Nat) : upk P (k + 1) s = (upk P k s).bind P := by
  rw [upk_plus k 1 s]
  congr 1
  funext t
  show (P t).bind some = P t
  cases P t <;> rfl
theorem upk_mono {P : Nat → Option Nat} {k s : Nat} (h : upk P k s = none) {j : Nat} (hj : k ≤ j) : upk P j s = none := by
  rw [show j = k + (j - k) by omega, upk_plus, h]
  rfl
/-- a forest of n -/
def ACy (P : Nat → Option Nat) (n : Nat) : Prop := (∀ s p, s < n → P s = some p → p < n) ∧ ∀ s, s < n → upk P n s = none
theorem ACy.lt {P : Nat → Option Nat} {n : Nat} (h : ACy P n) : ∀ {k s t : Nat}, s < n → upk P k s = some t → t < n := by
  intro k
  induction k with
  | zero => intro s t hs e; cases e; exact hs
  | succ k ih =>
    intro s t hs e
    rw [upk_next] at e
    cases hu : upk P k s with
    | none => rw [hu] at e; cases e
    | some q => rw [hu] at e; exact h.1 q t (ih hs hu) e
theorem ACy.k {P : Nat → Option Nat} {n : Nat} (h : ACy P n) {k s t : Nat} (hs : s < n) (e : upk P k s = some t) : k < n := by
  rcases Nat.lt_or_ge k n with q | q
  · exact q
  · rw [upk_mono (h.2 s hs) q] at e; cases e
theorem upk_loop {P : Nat → Option Nat} {d t : Nat} (h : upk P d t = some t) : ∀ m, upk P (m * d) t = some t := by
  intro m
  induction m with
  | zero => rw [Nat.zero_mul]; rfl
  | succ m ih => rw [Nat.succ_mul, upk_plus, ih]; exact h
theorem ACy.inj {P : Nat → Option Nat} {n : Nat} (h : ACy P n) {i j s t : Nat} (hs : s < n) (h1 : upk P i s = some t) (h2 : upk P j s = some t) : i = j := by
  have key : ∀ i j, i < j → upk P i s = some t → upk P j s = some t → False := by
    intro i j hij h1 h2
    rw [show j = i + (j - i) by omega, upk_plus, h1] at h2
    have := upk_loop (P := P) (d := j - i) (t := t) h2 n
    have hn := h.2 t (h.lt hs h1)
    rw [upk_mono hn (Nat.le_mul_of_pos_right n (by omega))] at this
    cases this
  rcases Nat.lt_trichotomy i j with q | q | q
  · exact (key i j q h1 h2).elim
  · exact q
  · exact (key j i q h2 h1).elim
def pe (o : Option Nat) : Int32 := match o with
  | some p => nI p
  | none => -1
theorem pe_m1 {o : Option Nat} (h : ∀ p, o = some p → p < 1000) : pe o = -1 ↔ o = none := by
  cases o with
  | none => exact ⟨fun _ => rfl, fun _ => rfl⟩
  | some p => exact ⟨fun q => absurd q (nI_m1 (by have := h p rfl; omega)), fun q => by cases q⟩
theorem pe_eq {o : Option Nat} {t : Nat} (h : ∀ p, o = some p → p < 1000) (ht : t < 1000) : pe o = nI t ↔ o = some t := by
  cases o with
  | none => exact ⟨fun q => absurd q.symm (nI_m1 (by omega)), fun q => by cases q⟩
  | some p =>
    have hp := h p rfl
    constructor
    · intro q
      have := (nI_eq (by omega) (by omega)).mp q
      rw [this]
    · intro q
      cases q
      rfl
/-! sets as bits -/
def bsN (p : Nat → Bool) : Nat → Nat
  | 0 => 0
  | k + 1 => bsN p k ||| (if p k then 2 ^ k else 0)
theorem bsN_tb {p : Nat → Bool} {t : Nat} : ∀ n, (bsN p n).testBit t = (decide (t < n) && p t) := by
  intro n
  induction n with
  | zero => simp [bsN]
  | succ n ih =>
    unfold bsN
    rw [Nat.testBit_or, ih]
    by_cases hp : p n = true
    · rw [if_pos hp, Nat.testBit_two_pow]
      by_cases e : n = t
      · subst e
        simp [hp]
      · have : (decide (t < n + 1)) = decide (t < n) := by
          apply decide_eq_decide.mpr
          omega
        rw [this]
        simp [e]
    · rw [if_neg hp, Nat.zero_testBit, Bool.or_false]
      by_cases e : n = t
      · subst e
        simp [hp]
      · have : (decide (t < n + 1)) = decide (t < n) := by
          apply decide_eq_decide.mpr
          omega
        rw [this]
theorem bsN_lt {p : Nat → Bool} : ∀ n, bsN p n < 2 ^ n := by
  intro n
  induction n with
  | zero => exact Nat.one_pos
  | succ n ih =>
    unfold bsN
    apply Nat.or_lt_two_pow
    · have : (2 : Nat) ^ n ≤ 2 ^ (n + 1) := Nat.pow_le_pow_right (by omega) (by omega)
      omega
    · split
      · exact Nat.pow_lt_pow_right (by omega) (by omega)
      · exact Nat.two_pow_pos _
theorem bsN_2048 {p : Nat → Bool} {n : Nat} (hn : n ≤ 11) : bsN p n < 2048 := by
  have h1 := bsN_lt (p := p) n
  have h2 : (2 : Nat) ^ n ≤ 2 ^ 11 := Nat.pow_le_pow_right (by omega) hn
  omega
theorem bsN_congr {p q : Nat → Bool} {n : Nat} (h : ∀ t, t < n → p t = q t) : bsN p n = bsN q n := by
  apply Nat.eq_of_testBit_eq
  intro t
  rw [bsN_tb, bsN_tb]
  by_cases ht : t < n
  · rw [h t ht]
  · simp [ht]
theorem nI_bor (a b : Nat) : nI a ||| nI b = nI (a ||| b) := by
  unfold nI
  apply Int32.toBitVec_inj.mp
  show BitVec.ofNat 32 a ||| BitVec.ofNat 32 b = BitVec.ofNat 32 (a ||| b)
  rw [BitVec.ofNat_or]
theorem nI_band (a b : Nat) : nI a &&& nI b = nI (a &&& b) := by
  unfold nI
  apply Int32.toBitVec_inj.mp
  show BitVec.ofNat 32 a &&& BitVec.ofNat 32 b = BitVec.ofNat 32 (a &&& b)
  rw [BitVec.ofNat_and]
theorem bsN_and {p q : Nat → Bool} {n : Nat} : bsN p n &&& bsN q n = bsN (fun t => p t && q t) n := by
  apply Nat.eq_of_testBit_eq
  intro t
  rw [Nat.testBit_and, bsN_tb, bsN_tb, bsN_tb]
  by_cases ht : t < n <;> simp [ht]
theorem nI_shl : ∀ k, k < 31 → (1 : Int32) <<< (nI k &&& 31) = nI (2 ^ k) := by decide +kernel
theorem nI_tb {v k : Nat} (hv : v < 2048) (hk : k < 11) : ((nI v >>> (nI k &&& 31)) &&& 1) = if v.testBit k then 1 else 0 := by
  have := nI_tb0 (v / 64) (by omega) (v % 64) (by omega) k hk
  rw [show 64 * (v / 64) + v % 64 = v by omega] at this
  exact this
theorem bs_or {p : Nat → Bool} {k : Nat} (hk : k < 31) : nI (bsN p k) ||| (if p k then (1 : Int32) <<< (nI k &&& 31) else 0) = nI (bsN p (k + 1)) := by
  have e : (if p k then (1 : Int32) <<< (nI k &&& 31) else 0) = nI (if p k then 2 ^ k else 0) := by
    split
    · exact nI_shl k hk
    · rfl
  rw [e, nI_bor]
  rfl
theorem e_has {h : Z_H} {p : Nat → Bool} {n k : Nat} (hn : n ≤ 11) (hk : k < n) : f_X10_has h (nI (bsN p n)) (nI k) = some (if p k then 1 else 0) := by
  unfold f_X10_has
  rw [nI_tb (bsN_2048 hn) (by omega), bsN_tb]
  simp only [hk, decide_true, Bool.true_and]
  by_cases hp : p k = true
  · rw [if_pos hp, if_pos rfl]
  · rw [if_neg hp, if_neg (by decide)]
theorem cn_le {p : Nat → Bool} : ∀ n, cn p n ≤ n := by
  intro n
  induction n with
  | zero => exact Nat.le_refl _
  | succ n ih =>
    unfold cn
    split <;> omega
theorem cn_congr {p q : Nat → Bool} : ∀ n, (∀ t, t < n → p t = q t) → cn p n = cn q n := by
  intro n
  induction n with
  | zero => intro _; rfl
  | succ n ih =>
    intro h
    unfold cn
    rw [ih (fun t ht => h t (by omega)), h n (by omega)]
theorem cn_ext {p : Nat → Bool} {n : Nat} : ∀ m, n ≤ m → (∀ t, n ≤ t → t < m → p t = false) → cn p m = cn p n := by
  intro m
  induction m with
  | zero => intro h _; rw [show n = 0 by omega]
  | succ m ih =>
    intro h h2
    by_cases e : n = m + 1
    · rw [e]
    · have e2 := ih (by omega) (fun t h3 h4 => h2 t h3 (by omega))
      show cn p m + (if p m then 1 else 0) = _
      rw [e2, h2 m (by omega) (by omega)]
      rfl
theorem cn_bs {p : Nat → Bool} {n : Nat} (hn : n ≤ 11) : cn (bsN p n).testBit 11 = cn p n := by
  rw [cn_ext (n := n) 11 hn (fun t h1 _ => by rw [bsN_tb]; simp; omega)]
  exact cn_congr n (fun t ht => by rw [bsN_tb]; simp [ht])
theorem sm_cn {p : Nat → Bool} : ∀ n, sm (fun k => if p k then 1 else 0) n = nI (cn p n) := by
  intro n
  induction n with
  | zero => rfl
  | succ n ih =>
    show sm (fun k => if p k then 1 else 0) n + (if p n then 1 else 0) = _
    rw [ih]
    show _ = nI (cn p n + (if p n then 1 else 0))
    split
    · exact nI_1 _
    · exact Int32.add_zero _
theorem c_bits {h : Z_H} {v : Nat} (hv : v < 2048) : f_J6_bitCount_0f7a4 h (nI v) = some (nI (cn v.testBit 11)) := by
  have := bc_0 (v / 64) (by omega) (v % 64) (by omega)
  rw [show 64 * (v / 64) + v % 64 = v by omega] at this
  rw [← this]
  rfl
theorem c_bitsS {h : Z_H} {p : Nat → Bool} {n : Nat} (hn : n ≤ 11) : f_J6_bitCount_0f7a4 h (nI (bsN p n)) = some (nI (cn p n)) := by
  rw [c_bits (bsN_2048 hn), cn_bs hn]
theorem e_onesV {h : Z_H} {v : Nat} (hv : v < 2048) : f_X10_ones h (nI v) = some (nI (cn v.testBit 11)) := by
  unfold f_X10_ones
  have key := lp_sum (b := f_X10_ones_l1 (nI v) h) (N := 11) (fun k => if v.testBit k then 1 else 0) (by omega) ?_ ?_ 0
  · rw [key, sm_cn, Int32.zero_add]
    rfl
  · intro rec k s hk
    unfold f_X10_ones_l1 f_X10_has
    dsimp only [jn, lt]
    rw [if_neg (show ¬ (10 : Int32) < nI k from nI_nlt (a := 10) (by omega) (by omega)), nI_tb hv hk, nI_1]
    by_cases e : v.testBit k = true
    · rw [if_pos e, if_pos rfl]
      rfl
    · rw [if_neg e, if_neg (by decide)]
      rfl
  · intro rec s
    unfold f_X10_ones_l1
    dsimp only
    rw [if_pos (by decide)]
theorem e_ones {h : Z_H} {p : Nat → Bool} {n : Nat} (hn : n ≤ 11) : f_X10_ones h (nI (bsN p n)) = some (nI (cn p n)) := by
  rw [e_onesV (bsN_2048 hn), cn_bs hn]
