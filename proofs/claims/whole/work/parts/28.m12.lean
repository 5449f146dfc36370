theorem lp_ex {S β γ : Type} {b : (S → Option γ) → S → Option γ} (enc : Nat → β → S) (I : Nat → β → Prop) (e : β → Option γ) (N : Nat)
    (step : ∀ k s, k < N → I k s → ∃ s', I (k + 1) s' ∧ ∀ rec, b rec (enc k s) = rec (enc (k + 1) s')) (stop : ∀ rec s, I N s → b rec (enc N s) = e s) :
    ∀ (n f i : Nat) (s : β), i + n = N → n < f → I i s → ∃ s', I N s' ∧ lp b f (enc i s) = e s' := by
  intro n
  induction n with
  | zero =>
    intro f i s hi hf hI
    cases f with
    | zero => omega
    | succ f =>
      have : i = N := by omega
      subst this
      exact ⟨s, hI, stop (lp b f) s hI⟩
  | succ n ih =>
    intro f i s hi hf hI
    cases f with
    | zero => omega
    | succ f =>
      obtain ⟨s', h1, h2⟩ := step i s (by omega) hI
      obtain ⟨s2, h3, h4⟩ := ih f (i + 1) s' (by omega) (by omega) h1
      exact ⟨s2, h3, (h2 (lp b f)).trans h4⟩
theorem jA_upd {A : Nat → Int32} {i s : Nat} {v w m mu sa : Int32} (hi : 1087 ≤ i) (hs : s < 10) : jA (upd A i v) s w m mu sa = upd (jA A s w m mu sa) i v := by
  funext j
  by_cases e : j = i
  · unfold jA
    rw [if_neg (by omega), if_neg (by omega), if_neg (by omega), if_neg (by omega), if_neg (by omega), if_neg (by omega), e, upd_s, upd_s]
  · rw [upd_o e]
    unfold jA
    by_cases c6 : 177 + 94 * s + 4 ≤ j ∧ j < 177 + 94 * s + 64
    · rw [upd_o (show j - 4 ≠ i by omega), upd_o e]
    · rw [if_neg c6, if_neg c6, upd_o e]
theorem jA_lo {A : Nat → Int32} {s j : Nat} {w m mu sa : Int32} (hj : j < 147) : jA A s w m mu sa j = A j := by
  unfold jA
  rw [if_neg (by omega), if_neg (by omega), if_neg (by omega), if_neg (by omega), if_neg (by omega), if_neg (by omega)]
theorem jA_hi {A : Nat → Int32} {s j : Nat} {w m mu sa : Int32} (hs : s < 10) (hj : 1087 ≤ j) : jA A s w m mu sa j = A j := by
  unfold jA
  rw [if_neg (by omega), if_neg (by omega), if_neg (by omega), if_neg (by omega), if_neg (by omega), if_neg (by omega)]
/-- lines of n levels: level l has one, of much t l, if that is above 0 -/
def jL (A : Nat → Int32) (kd m sa : Int32) (w : Nat → Nat) (t : Nat → Int32) : Nat → (Nat → Int32)
  | 0 => A
  | l + 1 => if t l ≤ 0 then jL A kd m sa w t l else jA (jL A kd m sa w t l) (w l) kd m (t l) sa
theorem jL_lo {A : Nat → Int32} {kd m sa : Int32} {w : Nat → Nat} {t : Nat → Int32} {j : Nat} (hj : j < 147) : ∀ n, jL A kd m sa w t n j = A j := by
  intro n
  induction n with
  | zero => rfl
  | succ n ih =>
    unfold jL
    split
    · exact ih
    · rw [jA_lo hj]; exact ih
theorem jL_hi {A : Nat → Int32} {kd m sa : Int32} {w : Nat → Nat} {t : Nat → Int32} {j : Nat} (hj : 1087 ≤ j) : ∀ n, (∀ l, l < n → w l < 10) → jL A kd m sa w t n j = A j := by
  intro n
  induction n with
  | zero => intro _; rfl
  | succ n ih =>
    intro hw
    unfold jL
    split
    · exact ih (fun l hl => hw l (by omega))
    · rw [jA_hi (hw n (by omega)) hj]; exact ih (fun l hl => hw l (by omega))
theorem jL_upd {A : Nat → Int32} {kd m sa v : Int32} {w : Nat → Nat} {t : Nat → Int32} {i : Nat} (hi : 1087 ≤ i) : ∀ n, (∀ l, l < n → w l < 10) → jL (upd A i v) kd m sa w t n = upd (jL A kd m sa w t n) i v := by
  intro n
  induction n with
  | zero => intro _; rfl
  | succ n ih =>
    intro hw
    unfold jL
    rw [ih (fun l hl => hw l (by omega))]
    split
    · rfl
    · rw [jA_upd hi (hw n (by omega))]
theorem ne41 {i s l f w : Nat} (hl : l < 5) (hf : f < 7) (hw : w < 6) : 1087 + 41 * i + (6 + 7 * l + f) ≠ 1087 + 41 * s + w := by
  have : l = 0 ∨ l = 1 ∨ l = 2 ∨ l = 3 ∨ l = 4 := by omega
  rcases this with rfl | rfl | rfl | rfl | rfl <;> omega
/-- how much of a sale has come back is another -/
theorem RS_back {c c' : Nat → Nat → Int32} {A T : Nat → Int32} (hR : RS c A T) {s b : Nat} (hs : s < nk A) (hb : b ≤ 100) (hc : ∀ o, o < 32 → o ≠ 25 → c' o = c o) (h25 : c' 25 = upd (c 25) s (nI b)) : RS c' (upd A (1087 + 41 * s + 4) (nI b)) T := by
  obtain ⟨⟨v1, v2, v3, v4, v5, v6, v7, v8, v9⟩, r1, r2, r3, r4, r5, r6⟩ := hR
  have h : ∀ j, j ≠ 1087 + 41 * s + 4 → upd A (1087 + 41 * s + 4) (nI b) j = A j := fun j hj => upd_o hj
  generalize hA' : upd A (1087 + 41 * s + 4) (nI b) = A' at *
  have h4 : A' (1087 + 41 * s + 4) = nI b := by rw [← hA']; exact upd_s
  have hl : ∀ j, j < 1087 → A' j = A j := fun j hj => h j (by omega)
  have en : nn A' = nn A := by unfold nn; rw [hl 145 (by omega)]
  have ew : nwN A' = nwN A := by unfold nwN; rw [hl 144 (by omega)]
  have h10 := v1.2.1
  have ek : nk A' = nk A := by unfold nk; rw [hl 146 (by omega)]
  have eq : ∀ i, nq A' i = nq A i := fun i => by unfold nq; rw [h _ (by omega)]
  have ewh : ∀ i l, l < 5 → whS A' i l = whS A i l := fun i l hl => by unfold whS; rw [h _ (by omega)]
  have row : ∀ t v, t < nn A → v < 94 → A' (147 + 94 * t + v) = A (147 + 94 * t + v) := fun t v ht hv => hl _ (by omega)
  have ej : ∀ t, t < nn A → jo A' t = jo A t := fun t ht => by unfold jo; rw [row t 0 ht (by omega)]
  have emc : ∀ t, t < nn A → mc A' t = mc A t := fun t ht => by unfold mc; rw [row t 4 ht (by omega)]
  have emm : ∀ t i, t < nn A → i < 12 → mvm A' t i = mvm A t i := fun t i ht hi => by unfold mvm; rw [row t (5 + i) ht (by omega)]
  have emt : ∀ t i, t < nn A → i < 12 → mvt A' t i = mvt A t i := fun t i ht hi => by unfold mvt; rw [row t (17 + i) ht (by omega)]
  have enj : ∀ t, t < nn A → nj A' t = nj A t := fun t ht => by unfold nj; rw [row t 29 ht (by omega)]
  have esp : ∀ t, t < nn A → ∀ m, spS A' t m = spS A t m := by
    intro t ht m
    have hm := (v5 t ht).1
    unfold spS
    rw [emc t ht, row t 2 ht (by omega), itf_congr (g' := spG A t m) (mc A t) 0 _ (fun k q _ hk => ?_)]
    unfold spG
    rw [row t (5 + k) ht (by omega), row t (17 + k) ht (by omega)]
  refine ⟨⟨?_, fun t ht => ?_, ?_, VP_to (fun j _ h => hl j (by omega)) v4, fun t ht => ?_, fun m hm t ht => ?_, ?_, ?_, ?_⟩, ?_, ?_, ?_, ?_, ?_, ?_⟩
  · unfold VN at *
    rw [en, ew, hl 145 (by omega), hl 144 (by omega)]
    exact v1
  · rw [en] at ht
    have := v2 t ht
    unfold VC at *
    rw [ej t ht, ew, row t 0 ht (by omega), row t 1 ht (by omega), row t 3 ht (by omega)]
    exact this
  · unfold VS
    rw [ek, hl 146 (by omega)]
    refine ⟨v3.1, v3.2.1, fun i hi => ?_⟩
    obtain ⟨⟨w, mo, to, b1, b2, b3, b4, b5, b6, b7, b8⟩, a2, a3, a4, a5, a6, a7⟩ := v3.2.2 i hi
    unfold VK
    rw [eq, en, ew, h (1087 + 41 * i + 0) (by omega), h (1087 + 41 * i + 1) (by omega), h (1087 + 41 * i + 2) (by omega), h (1087 + 41 * i + 3) (by omega), h (1087 + 41 * i + 5) (by omega)]
    refine ⟨⟨w, mo, to, b1, b2, b3, b4, by rw [ej w b1]; exact b5, b6, b7, b8⟩, a2, ?_, a4, a5, fun l hl' => by rw [ewh i l (by omega)]; exact a6 l hl', fun l l' h1 h2 => by rw [ewh i l (by omega), ewh i l' (by omega)]; exact a7 l l' h1 h2⟩
    by_cases e : i = s
    · rw [e, h4]; exact ⟨b, hb, rfl⟩
    · rw [h (1087 + 41 * i + 4) (by omega)]; exact a3
  · rw [en] at ht
    obtain ⟨a1, a2, a3, a4, a5, a6⟩ := v5 t ht
    unfold VM
    rw [emc t ht, en, ej t ht, ew, row t 4 ht (by omega), row t 2 ht (by omega)]
    refine ⟨a1, a2, a3, fun i hi => ?_, fun i i' hi hi' => ?_, ?_⟩
    · obtain ⟨q1, q2, q3, q4, q5, q6, q7, q8⟩ := a4 i hi
      rw [row t (5 + i) ht (by omega), row t (17 + i) ht (by omega), emm t i ht (by omega), emt t i ht (by omega), ej _ q5]
      exact ⟨q1, q2, q3, q4, q5, q6, q7, q8⟩
    · rw [emm t i ht (by omega), emm t i' ht (by omega)]
      exact a5 i i' hi hi'
    · rcases a6 with q | ⟨p, p1, p2, p3⟩
      · exact Or.inl q
      · exact Or.inr ⟨p, p1, p2, by rw [ej p (by omega)]; exact p3⟩
  · rw [en] at ht ⊢
    obtain ⟨k, hk, e⟩ := v6 m hm t ht
    refine ⟨k, hk, ?_⟩
    rw [upk_congr (P := pr A m) (n := nn A) (fun t ht => by unfold pr; rw [esp t ht]) (fun t p ht hp => ?_) k t ht]
    · exact e
    · rcases pr_spec (v5 t ht) ht v1 (m := m) (by omega) with ⟨-, -, q⟩ | ⟨p', q1, -, -, q2, -⟩
      · rw [q] at hp; cases hp
      · rw [q2] at hp; cases hp; exact q1
  · intro t ht
    rw [en] at ht
    rw [enj t ht, row t 29 ht (by omega)]
    exact v7 t ht
  · intro i hi
    rw [ek] at hi
    obtain ⟨p, p1, p2⟩ := v8 i hi
    rw [eq]
    have := (v3.2.2 i hi).2.2.2.1
    exact ⟨p, fun l hl' => by rw [h _ (by omega)]; exact p1 l hl', p2⟩
  · unfold VA nt at *
    rw [hl 0 (by omega)]
    exact v9
  · unfold RCc at *
    rw [en, hl 145 (by omega), hl 144 (by omega), hc 12 (by omega) (by omega), hc 0 (by omega) (by omega), hc 13 (by omega) (by omega), hc 14 (by omega) (by omega), hc 19 (by omega) (by omega), hc 15 (by omega) (by omega), hc 16 (by omega) (by omega)]
    refine ⟨r1.1, r1.2.1, fun t ht => ?_⟩
    rw [row t 0 ht (by omega), row t 1 ht (by omega), row t 2 ht (by omega), row t 3 ht (by omega), row t 4 ht (by omega)]
    exact r1.2.2 t ht
  · unfold RCs at *
    rw [ek, hl 146 (by omega), hc 20 (by omega) (by omega), hc 26 (by omega) (by omega), hc 27 (by omega) (by omega)]
    refine ⟨r2.1, fun i hi => ⟨fun f hf => ?_, ?_, fun l hl' f hf => ?_⟩⟩
    · by_cases f4 : f = 4
      · subst f4
        show c' 25 i = _
        rw [h25]
        by_cases e : i = s
        · rw [e, upd_s, h4]
        · rw [upd_o e, h _ (by omega)]
          exact (r2.2 i hi).1 4 (by omega)
      · rw [hc (21 + f) (by omega) (by omega), h _ (by omega)]
        exact (r2.2 i hi).1 f hf
    · rw [h _ (by omega)]
      exact (r2.2 i hi).2.1
    · rw [eq] at hl'
      have q5 := (v3.2.2 i hi).2.2.2.1
      rw [h _ (ne41 (Nat.lt_of_lt_of_le hl' q5) hf (by omega))]
      exact (r2.2 i hi).2.2 l hl' f hf
  · refine RCp_to (fun j _ h => hl j (by omega)) v4 ?_
    unfold RCp at *
    rw [hc 3 (by omega) (by omega), hc 4 (by omega) (by omega), hc 5 (by omega) (by omega), hc 6 (by omega) (by omega), hc 7 (by omega) (by omega), hc 8 (by omega) (by omega), hc 9 (by omega) (by omega), hc 10 (by omega) (by omega)]
    exact r3
  · intro t ht
    rw [en] at ht
    have h12 := (v5 t ht).1
    obtain ⟨b1, b2, b3⟩ := r4 t ht
    rw [hc 17 (by omega) (by omega), hc 18 (by omega) (by omega), emc t ht]
    refine ⟨fun i hi => ?_, fun j hj => ?_, b3⟩
    · obtain ⟨j, j1, j2, j3⟩ := b1 i hi
      exact ⟨j, j1, by rw [row t (5 + j) ht (by omega)]; exact j2, by rw [row t (17 + j) ht (by omega)]; exact j3⟩
    · obtain ⟨i, j1, j2, j3⟩ := b2 j hj
      exact ⟨i, j1, by rw [row t (5 + j) ht (by omega)]; exact j2, by rw [row t (17 + j) ht (by omega)]; exact j3⟩
  · refine ⟨fun t ht => ?_, fun t g1 g2 => ?_⟩
    · rw [en] at ht
      obtain ⟨q1, x, q2, q3, q4, q5⟩ := r5.1 t ht
      have h16 := (v7 t ht).1
      rw [hc 29 (by omega) (by omega), hc 30 (by omega) (by omega), hc 31 (by omega) (by omega), enj t ht, row t 29 ht (by omega)]
      refine ⟨q1, x, q2, q3, q4, fun i hi v hv => ?_⟩
      rw [row t (30 + 4 * i + v) ht (by omega)]
      exact q5 i hi v hv
    · rw [en] at g1
      rw [hc 29 (by omega) (by omega), hc 30 (by omega) (by omega)]
      exact r5.2 t g1 g2
  · unfold RCa nt at *
    rw [hc 1 (by omega) (by omega), hc 2 (by omega) (by omega), hc 0 (by omega) (by omega), hl 0 (by omega), hl 1 (by omega), hl 2 (by omega)]
    exact r6
