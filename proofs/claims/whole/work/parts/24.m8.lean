theorem itf_inv {β : Type} {g : Nat → β → β} {P : Nat → β → Prop} : ∀ (n i : Nat) (s : β), P i s → (∀ k s, i ≤ k → k < i + n → P k s → P (k + 1) (g k s)) → P (i + n) (itf g i n s) := by
  intro n
  induction n with
  | zero => intro i s h _; exact h
  | succ n ih =>
    intro i s h hs
    have := ih (i + 1) (g i s) (hs i s (Nat.le_refl _) (by omega) h) (fun k s h1 h2 => hs k s (by omega) (by omega))
    rw [show i + 1 + n = i + (n + 1) by omega] at this
    exact this
theorem sp_cases {A : Nat → Int32} {s : Nat} (hM : VM A s) {m : Nat} (hm : m < 1000) : (spS A s (nI m) = A (147 + 94 * s + 2) ∧ ∀ i, i < mc A s → m < mvm A s i) ∨ ∃ i, i < mc A s ∧ spS A s (nI m) = nI (mvt A s i) ∧ mvm A s i ≤ m ∧ ∀ i', i' < mc A s → mvm A s i' ≤ m → mvm A s i' ≤ mvm A s i := by
  obtain ⟨a1, a2, a3, a4, a5, a6⟩ := hM
  have key := itf_inv (g := spG A s (nI m)) (P := fun k (q : Int32 × Int32) => (q.1 = A (147 + 94 * s + 2) ∧ q.2 = -1 ∧ ∀ i, i < k → m < mvm A s i) ∨ ∃ i, i < k ∧ q.1 = nI (mvt A s i) ∧ q.2 = nI (mvm A s i) ∧ mvm A s i ≤ m ∧ ∀ i', i' < k → mvm A s i' ≤ m → mvm A s i' ≤ mvm A s i) (mc A s) 0 (A (147 + 94 * s + 2), -1) (Or.inl ⟨rfl, rfl, fun i hi => by omega⟩) ?_
  · rw [Nat.zero_add] at key
    rcases key with ⟨k1, -, k3⟩ | ⟨i, k1, k2, -, k4, k5⟩
    · exact Or.inl ⟨k1, k3⟩
    · exact Or.inr ⟨i, k1, k2, k4, k5⟩
  · intro k q _ hk hq
    rw [Nat.zero_add] at hk
    obtain ⟨b1, b2, b3, -⟩ := a4 k hk
    unfold spG
    rw [b1, b2]
    by_cases c1 : mvm A s k ≤ m
    · rcases hq with ⟨q1, q2, q3⟩ | ⟨i, q1, q2, q3, q4, q5⟩
      · rw [if_pos ⟨nI_le c1 (by omega), by rw [q2]; exact Int32.lt_of_lt_of_le m1_eq (nI_pos' (by omega))⟩]
        refine Or.inr ⟨k, by omega, rfl, rfl, c1, fun i' h1 h2 => ?_⟩
        by_cases e : i' = k
        · rw [e]; exact Nat.le_refl _
        · have := q3 i' (by omega); omega
      · by_cases c2 : mvm A s i < mvm A s k
        · rw [if_pos ⟨nI_le c1 (by omega), by rw [q3]; exact nI_lt c2 (by omega)⟩]
          refine Or.inr ⟨k, by omega, rfl, rfl, c1, fun i' h1 h2 => ?_⟩
          by_cases e : i' = k
          · rw [e]; exact Nat.le_refl _
          · have := q5 i' (by omega) h2; omega
        · rw [if_neg (fun z => c2 (by
            have := z.2
            rw [q3] at this
            exact (nI_ltI (by have := (a4 i (by omega)).2.2.1; omega) (by omega)).mp this))]
          refine Or.inr ⟨i, by omega, q2, q3, q4, fun i' h1 h2 => ?_⟩
          by_cases e : i' = k
          · rw [e]; omega
          · exact q5 i' (by omega) h2
    · rw [if_neg (fun z => c1 ((nI_leI (by omega) (by omega)).mp z.1))]
      rcases hq with ⟨q1, q2, q3⟩ | ⟨i, q1, q2, q3, q4, q5⟩
      · refine Or.inl ⟨q1, q2, fun i hi => ?_⟩
        by_cases e : i = k
        · rw [e]; omega
        · exact q3 i (by omega)
      · refine Or.inr ⟨i, by omega, q2, q3, q4, fun i' h1 h2 => ?_⟩
        by_cases e : i' = k
        · rw [e] at h2; omega
        · exact q5 i' (by omega) h2
/-- whom the sponsor is: nobody, or one of the crew who had joined by then -/
theorem pr_spec {A : Nat → Int32} {s : Nat} (hM : VM A s) (hs : s < nn A) (hN : VN A) {m : Nat} (hm : m < 1000) : (s = 0 ∧ spS A s (nI m) = -1 ∧ pr A m s = none) ∨ ∃ p, p < nn A ∧ p ≠ s ∧ spS A s (nI m) = nI p ∧ pr A m s = some p ∧ (jo A s ≤ m → jo A p ≤ m) := by
  have h10 := hN.2.1
  have hpr : ∀ p, p < nn A → spS A s (nI m) = nI p → pr A m s = some p := by
    intro p hp e
    unfold pr prO
    rw [e, if_neg (nI_m1 (by omega)), nI_clamp (by omega)]
  rcases sp_cases hM hm with ⟨e, -⟩ | ⟨i, hi, e, hle, -⟩
  · rcases hM.2.2.2.2.2 with ⟨h0, e2⟩ | ⟨p, hp, e2, hj⟩
    · refine Or.inl ⟨h0, e.trans e2, ?_⟩
      unfold pr prO
      rw [e, e2, if_pos rfl]
    · exact Or.inr ⟨p, by omega, by omega, e.trans e2, hpr p (by omega) (e.trans e2), fun q => by omega⟩
  · obtain ⟨-, -, -, -, b5, b6, -, b8⟩ := hM.2.2.2.1 i hi
    exact Or.inr ⟨mvt A s i, b5, b6, e, hpr _ b5 e, fun _ => by omega⟩
theorem upk_congr {P P' : Nat → Option Nat} {n : Nat} (h : ∀ s, s < n → P' s = P s) (hc : ∀ s p, s < n → P s = some p → p < n) : ∀ k s, s < n → upk P' k s = upk P k s := by
  intro k
  induction k with
  | zero => intro s _; rfl
  | succ k ih =>
    intro s hs
    show (P' s).bind (upk P' k) = (P s).bind (upk P k)
    rw [h s hs]
    cases hp : P s with
    | none => rfl
    | some p => exact ih p (hc s p hs hp)
/-- the journals alone are others -/
theorem RS_jour {c c' : Nat → Nat → Int32} {A A' T : Nat → Int32} (hR : RS c A T) (h1 : ∀ j, j < 147 → A' j = A j) (h2 : ∀ s w, w < 29 → A' (147 + 94 * s + w) = A (147 + 94 * s + w)) (h3 : ∀ j, 1087 ≤ j → A' j = A j) (hc : ∀ o, o < 32 → o ≠ 29 → o ≠ 30 → o ≠ 31 → c' o = c o) (hJ : VJ A') (hRj : RCj c' A') : RS c' A' T := by
  obtain ⟨⟨v1, v2, v3, v4, v5, v6, v7, v8, v9⟩, r1, r2, r3, r4, r5, r6⟩ := hR
  have en : nn A' = nn A := by unfold nn; rw [h1 145 (by omega)]
  have ew : nwN A' = nwN A := by unfold nwN; rw [h1 144 (by omega)]
  have ej : ∀ s, jo A' s = jo A s := fun s => by unfold jo; rw [h2 s 0 (by omega)]
  have ek : nk A' = nk A := by unfold nk; rw [h1 146 (by omega)]
  have eq : ∀ i, nq A' i = nq A i := fun i => by unfold nq; rw [h3 _ (by omega)]
  have ewh : ∀ i l, whS A' i l = whS A i l := fun i l => by unfold whS; rw [h3 _ (by omega)]
  have emc : ∀ s, mc A' s = mc A s := fun s => by unfold mc; rw [h2 s 4 (by omega)]
  have emm : ∀ s i, i < 12 → mvm A' s i = mvm A s i := fun s i hi => by unfold mvm; rw [h2 s (5 + i) (by omega)]
  have emt : ∀ s i, i < 12 → mvt A' s i = mvt A s i := fun s i hi => by unfold mvt; rw [h2 s (17 + i) (by omega)]
  have esp : ∀ s, s < nn A → ∀ m, spS A' s m = spS A s m := by
    intro s hs m
    have hm := (v5 s hs).1
    unfold spS
    rw [emc, h2 s 2 (by omega), itf_congr (g' := spG A s m) (mc A s) 0 _ (fun k q _ hk => ?_)]
    unfold spG
    rw [h2 s (5 + k) (by omega), h2 s (17 + k) (by omega)]
  refine ⟨⟨?_, fun s hs => ?_, ?_, VP_to (fun j _ h => h1 j (by omega)) v4, fun s hs => ?_, fun m hm s hs => ?_, hJ, ?_, ?_⟩, ?_, ?_, ?_, ?_, hRj, ?_⟩
  · unfold VN at *
    rw [en, ew, h1 145 (by omega), h1 144 (by omega)]
    exact v1
  · rw [en] at hs
    have := v2 s hs
    unfold VC at *
    rw [ej, ew, h2 s 0 (by omega), h2 s 1 (by omega), h2 s 3 (by omega)]
    exact this
  · unfold VS
    rw [ek, h1 146 (by omega)]
    refine ⟨v3.1, v3.2.1, fun i hi => ?_⟩
    have := v3.2.2 i hi
    unfold VK at *
    simp only [eq, ewh, en, ej, ew]
    rw [h3 (1087 + 41 * i + 0) (by omega), h3 (1087 + 41 * i + 1) (by omega), h3 (1087 + 41 * i + 2) (by omega), h3 (1087 + 41 * i + 3) (by omega), h3 (1087 + 41 * i + 4) (by omega), h3 (1087 + 41 * i + 5) (by omega)]
    exact this
  · rw [en] at hs
    obtain ⟨a1, a2, a3, a4, a5, a6⟩ := v5 s hs
    unfold VM
    simp only [emc, en, ej, ew]
    rw [h2 s 4 (by omega), h2 s 2 (by omega)]
    refine ⟨a1, a2, a3, fun i hi => ?_, fun i i' hi hi' => ?_, a6⟩
    · rw [h2 s (5 + i) (by omega), h2 s (17 + i) (by omega), emm s i (by omega), emt s i (by omega)]
      exact a4 i hi
    · rw [emm s i (by omega), emm s i' (by omega)]
      exact a5 i i' hi hi'
  · rw [en] at hs ⊢
    obtain ⟨k, hk, e⟩ := v6 m hm s hs
    refine ⟨k, hk, ?_⟩
    rw [upk_congr (P := pr A m) (n := nn A) (fun t ht => by unfold pr; rw [esp t ht]) (fun t p ht hp => ?_) k s hs]
    · exact e
    · rcases pr_spec (v5 t ht) ht v1 (m := m) (by omega) with ⟨-, -, q⟩ | ⟨p', q1, -, -, q2, -⟩
      · rw [q] at hp; cases hp
      · rw [q2] at hp; cases hp; exact q1
  · unfold VB at *
    simp only [ek, eq]
    intro i hi
    obtain ⟨p, p1, p2⟩ := v8 i hi
    exact ⟨p, fun l hl => by rw [h3 _ (by omega)]; exact p1 l hl, p2⟩
  · unfold VA nt at *
    rw [h1 0 (by omega)]
    exact v9
  · unfold RCc at *
    rw [en, h1 145 (by omega), h1 144 (by omega), hc 12 (by omega) (by omega) (by omega) (by omega), hc 0 (by omega) (by omega) (by omega) (by omega), hc 13 (by omega) (by omega) (by omega) (by omega), hc 14 (by omega) (by omega) (by omega) (by omega), hc 19 (by omega) (by omega) (by omega) (by omega), hc 15 (by omega) (by omega) (by omega) (by omega), hc 16 (by omega) (by omega) (by omega) (by omega)]
    refine ⟨r1.1, r1.2.1, fun s hs => ?_⟩
    rw [h2 s 0 (by omega), h2 s 1 (by omega), h2 s 2 (by omega), h2 s 3 (by omega), h2 s 4 (by omega)]
    exact r1.2.2 s hs
  · unfold RCs at *
    simp only [ek, eq]
    rw [h1 146 (by omega), hc 20 (by omega) (by omega) (by omega) (by omega), hc 26 (by omega) (by omega) (by omega) (by omega), hc 27 (by omega) (by omega) (by omega) (by omega)]
    refine ⟨r2.1, fun i hi => ⟨fun f hf => ?_, ?_, fun l hl f hf => ?_⟩⟩
    · rw [hc (21 + f) (by omega) (by omega) (by omega) (by omega), h3 _ (by omega)]
      exact (r2.2 i hi).1 f hf
    · rw [h3 _ (by omega)]
      exact (r2.2 i hi).2.1
    · rw [h3 _ (by omega)]
      exact (r2.2 i hi).2.2 l hl f hf
  · refine RCp_to (fun j _ h => h1 j (by omega)) v4 ?_
    unfold RCp at *
    rw [hc 3 (by omega) (by omega) (by omega) (by omega), hc 4 (by omega) (by omega) (by omega) (by omega), hc 5 (by omega) (by omega) (by omega) (by omega), hc 6 (by omega) (by omega) (by omega) (by omega), hc 7 (by omega) (by omega) (by omega) (by omega), hc 8 (by omega) (by omega) (by omega) (by omega), hc 9 (by omega) (by omega) (by omega) (by omega), hc 10 (by omega) (by omega) (by omega) (by omega)]
    exact r3
  · intro s hs
    rw [en] at hs
    have h12 := (v5 s hs).1
    obtain ⟨b1, b2, b3⟩ := r4 s hs
    rw [hc 17 (by omega) (by omega) (by omega) (by omega), hc 18 (by omega) (by omega) (by omega) (by omega), emc]
    refine ⟨fun i hi => ?_, fun j hj => ?_, b3⟩
    · obtain ⟨j, j1, j2, j3⟩ := b1 i hi
      exact ⟨j, j1, by rw [h2 s (5 + j) (by omega)]; exact j2, by rw [h2 s (17 + j) (by omega)]; exact j3⟩
    · obtain ⟨i, j1, j2, j3⟩ := b2 j hj
      exact ⟨i, j1, by rw [h2 s (5 + j) (by omega)]; exact j2, by rw [h2 s (17 + j) (by omega)]; exact j3⟩
  · unfold RCa nt at *
    rw [hc 1 (by omega) (by omega) (by omega) (by omega), hc 2 (by omega) (by omega) (by omega) (by omega), hc 0 (by omega) (by omega) (by omega) (by omega), h1 0 (by omega), h1 1 (by omega), h1 2 (by omega)]
    exact r6
