/-! the sales' rows alone are others -/
def LO (A A' : Nat → Int32) : Prop := ∀ j, j < 1087 → j ≠ 146 → A' j = A j
theorem LO.n {A A' : Nat → Int32} (h : LO A A') : nn A' = nn A ∧ nwN A' = nwN A := ⟨by unfold nn; rw [h 145 (by omega) (by omega)], by unfold nwN; rw [h 144 (by omega) (by omega)]⟩
theorem LO.row {A A' : Nat → Int32} (h : LO A A') {t v : Nat} (ht : t < 10) (hv : v < 94) : A' (147 + 94 * t + v) = A (147 + 94 * t + v) := h _ (by omega) (by omega)
theorem LO.j {A A' : Nat → Int32} (h : LO A A') {t : Nat} (ht : t < 10) : jo A' t = jo A t := by unfold jo; rw [h.row ht (by omega)]
theorem LO.vn {A A' : Nat → Int32} (h : LO A A') (v : VN A) : VN A' := by
  unfold VN at *
  rw [h.n.1, h.n.2, h 145 (by omega) (by omega), h 144 (by omega) (by omega)]
  exact v
theorem LO.vc {A A' : Nat → Int32} (h : LO A A') {t : Nat} (ht : t < 10) (v : VC A t) : VC A' t := by
  unfold VC at *
  rw [h.j ht, h.n.2, h.row ht (by omega), h.row ht (by omega), h.row ht (by omega)]
  exact v
theorem LO.vm {A A' : Nat → Int32} (h : LO A A') (hn : nn A ≤ 10) {t : Nat} (ht : t < 10) (v : VM A t) : VM A' t ∧ mc A' t = mc A t := by
  have emc : mc A' t = mc A t := by unfold mc; rw [h.row ht (by omega)]
  have emm : ∀ i, i < 12 → mvm A' t i = mvm A t i := fun i hi => by unfold mvm; rw [h.row ht (by omega)]
  have emt : ∀ i, i < 12 → mvt A' t i = mvt A t i := fun i hi => by unfold mvt; rw [h.row ht (by omega)]
  obtain ⟨a1, a2, a3, a4, a5, a6⟩ := v
  refine ⟨?_, emc⟩
  unfold VM
  rw [emc, h.n.1, h.j ht, h.n.2, h.row (v := 4) ht (by omega), h.row (v := 2) ht (by omega)]
  refine ⟨a1, a2, a3, fun i hi => ?_, fun i i' hi hi' => ?_, ?_⟩
  · obtain ⟨q1, q2, q3, q4, q5, q6, q7, q8⟩ := a4 i hi
    rw [h.row (v := 5 + i) ht (by omega), h.row (v := 17 + i) ht (by omega), emm i (by omega), emt i (by omega), h.j (by omega)]
    exact ⟨q1, q2, q3, q4, q5, q6, q7, q8⟩
  · rw [emm i (by omega), emm i' (by omega)]
    exact a5 i i' hi hi'
  · rcases a6 with q | ⟨p, p1, p2, p3⟩
    · exact Or.inl q
    · exact Or.inr ⟨p, p1, p2, by rw [h.j (by omega)]; exact p3⟩
theorem LO.sp {A A' : Nat → Int32} (h : LO A A') {t : Nat} (ht : t < 10) (v : VM A t) (m : Int32) : spS A' t m = spS A t m := by
  have emc : mc A' t = mc A t := by unfold mc; rw [h.row ht (by omega)]
  have hm := v.1
  unfold spS
  rw [emc, h.row (v := 2) ht (by omega), itf_congr (g' := spG A t m) (mc A t) 0 _ (fun k q _ hk => ?_)]
  unfold spG
  rw [h.row (v := 5 + k) ht (by omega), h.row (v := 17 + k) ht (by omega)]
theorem LO.vt {A A' : Nat → Int32} (h : LO A A') (hN : VN A) (hM : ∀ t, t < nn A → VM A t) (v : VT A) : VT A' := by
  intro m hm t ht
  rw [h.n.1] at ht ⊢
  have h10 := hN.2.1
  obtain ⟨k, hk, e⟩ := v m hm t ht
  refine ⟨k, hk, ?_⟩
  rw [upk_congr (P := pr A m) (n := nn A) (fun t ht => by unfold pr; rw [h.sp (by omega) (hM t ht)]) (fun t p ht hp => pr_lt hN hM (by omega) t p ht hp) k t ht]
  exact e
theorem LO.rcc {c c' : Nat → Nat → Int32} {A A' : Nat → Int32} (h : LO A A') (hN : VN A) (hc : ∀ o, o < 20 → c' o = c o) (r : RCc c A) : RCc c' A' := by
  have h10 := hN.2.1
  unfold RCc at *
  rw [h.n.1, h 145 (by omega) (by omega), h 144 (by omega) (by omega), hc 12 (by omega), hc 0 (by omega), hc 13 (by omega), hc 14 (by omega), hc 19 (by omega), hc 15 (by omega), hc 16 (by omega)]
  refine ⟨r.1, r.2.1, fun t ht => ?_⟩
  rw [h.row (v := 0) (by omega) (by omega), h.row (v := 1) (by omega) (by omega), h.row (v := 2) (by omega) (by omega), h.row (v := 3) (by omega) (by omega), h.row (v := 4) (by omega) (by omega)]
  exact r.2.2 t ht
theorem LO.rcp {c c' : Nat → Nat → Int32} {A A' : Nat → Int32} (h : LO A A') (hP : VP A) (hc : ∀ o, o < 20 → c' o = c o) (r : RCp c A) : RCp c' A' := by
  refine RCp_to (fun j _ h2 => h j (by omega) (by omega)) hP ?_
  unfold RCp at *
  rw [hc 3 (by omega), hc 4 (by omega), hc 5 (by omega), hc 6 (by omega), hc 7 (by omega), hc 8 (by omega), hc 9 (by omega), hc 10 (by omega)]
  exact r
theorem LO.rcm {c c' : Nat → Nat → Int32} {A A' : Nat → Int32} (h : LO A A') (hN : VN A) (hM : ∀ t, t < nn A → VM A t) (hc : ∀ o, o < 20 → c' o = c o) (r : RCm c A) : RCm c' A' := by
  have h10 := hN.2.1
  intro t ht
  rw [h.n.1] at ht
  have h12 := (hM t ht).1
  obtain ⟨b1, b2, b3⟩ := r t ht
  rw [hc 17 (by omega), hc 18 (by omega), (h.vm h10 (by omega) (hM t ht)).2]
  refine ⟨fun i hi => ?_, fun j hj => ?_, b3⟩
  · obtain ⟨j, j1, j2, j3⟩ := b1 i hi
    exact ⟨j, j1, by rw [h.row (v := 5 + j) (by omega) (by omega)]; exact j2, by rw [h.row (v := 17 + j) (by omega) (by omega)]; exact j3⟩
  · obtain ⟨i, j1, j2, j3⟩ := b2 j hj
    exact ⟨i, j1, by rw [h.row (v := 5 + j) (by omega) (by omega)]; exact j2, by rw [h.row (v := 17 + j) (by omega) (by omega)]; exact j3⟩
theorem LK.hi {c c' : Nat → Nat → Int32} {A A' : Nat → Int32} (L : LK c A) (h : LO A A') (hc : ∀ o, o < 20 → c' o = c o) (hS : SLs c' A') : LK c' A' := by
  obtain ⟨l1, l2, l3, l4, l5, l6, l7, l8, l9⟩ := L
  have h10 := l1.2.1
  refine ⟨h.vn l1, fun s hs => ?_, VP_to (fun j _ h2 => h j (by omega) (by omega)) l3, fun s hs => ?_, h.vt l1 l4 l5, h.rcc l1 hc l6, h.rcp l3 hc l7, h.rcm l1 l4 hc l8, hS⟩
  · rw [h.n.1] at hs
    exact h.vc (by omega) (l2 s hs)
  · rw [h.n.1] at hs
    exact (h.vm h10 (by omega) (l4 s hs)).1
theorem RS_hi {c c' : Nat → Nat → Int32} {A A' T : Nat → Int32} (hR : RS c A T) (h : LO A A') (hc : ∀ o, o < 32 → o < 20 ∨ 28 ≤ o → c' o = c o) (hS : VS A') (hB : VB A') (hs : RCs c' A') : RS c' A' T := by
  obtain ⟨⟨v1, v2, v3, v4, v5, v6, v7, v8, v9⟩, r1, r2, r3, r4, r5, r6⟩ := hR
  have h10 := v1.2.1
  have hc' : ∀ o, o < 20 → c' o = c o := fun o ho => hc o (by omega) (by omega)
  have enj : ∀ t, t < nn A → nj A' t = nj A t := fun t ht => by unfold nj; rw [h.row (v := 29) (by omega) (by omega)]
  refine ⟨⟨h.vn v1, fun s hs => ?_, hS, VP_to (fun j _ h2 => h j (by omega) (by omega)) v4, fun s hs => ?_, h.vt v1 v5 v6, ?_, hB, ?_⟩, h.rcc v1 hc' r1, hs, h.rcp v4 hc' r3, h.rcm v1 v5 hc' r4, ?_, ?_⟩
  · rw [h.n.1] at hs
    exact h.vc (by omega) (v2 s hs)
  · rw [h.n.1] at hs
    exact (h.vm h10 (by omega) (v5 s hs)).1
  · intro t ht
    rw [h.n.1] at ht
    rw [enj t ht, h.row (v := 29) (by omega) (by omega)]
    exact v7 t ht
  · unfold VA nt at *
    rw [h 0 (by omega) (by omega)]
    exact v9
  · refine ⟨fun t ht => ?_, fun t g1 g2 => ?_⟩
    · rw [h.n.1] at ht
      obtain ⟨q1, x, q2, q3, q4, q5⟩ := r5.1 t ht
      have h16 := (v7 t ht).1
      rw [hc 29 (by omega) (by omega), hc 30 (by omega) (by omega), hc 31 (by omega) (by omega), enj t ht, h.row (v := 29) (by omega) (by omega)]
      refine ⟨q1, x, q2, q3, q4, fun i hi v hv => ?_⟩
      rw [h.row (v := 30 + 4 * i + v) (by omega) (by omega)]
      exact q5 i hi v hv
    · rw [h.n.1] at g1
      rw [hc 29 (by omega) (by omega), hc 30 (by omega) (by omega)]
      exact r5.2 t g1 g2
  · unfold RCa nt at *
    rw [hc 1 (by omega) (by omega), hc 2 (by omega) (by omega), hc 0 (by omega) (by omega), h 0 (by omega) (by omega), h 1 (by omega) (by omega), h 2 (by omega) (by omega)]
    exact r6
/-- one more sale -/
def NS (A A2 : Nat → Int32) (s v mo : Nat) : Prop := (∀ j, j ≠ 146 → (j < 1087 + 41 * nk A ∨ 1087 + 41 * nk A + 41 ≤ j) → A2 j = A j) ∧ A2 146 = nI (nk A + 1) ∧ A2 (1087 + 41 * nk A + 0) = nI s ∧ A2 (1087 + 41 * nk A + 1) = nI v ∧ A2 (1087 + 41 * nk A + 2) = nI mo ∧ A2 (1087 + 41 * nk A + 3) = nI (nwN A) ∧ A2 (1087 + 41 * nk A + 4) = nI 0
theorem NS.lo {A A2 : Nat → Int32} {s v mo : Nat} (h : NS A A2 s v mo) : LO A A2 := fun j h1 h2 => h.1 j h2 (by omega)
theorem NS.k {A A2 : Nat → Int32} {s v mo : Nat} (h : NS A A2 s v mo) (hk : nk A < 40) : nk A2 = nk A + 1 := by
  unfold nk
  rw [h.2.1]
  exact nI_clamp (by have : (A 146).toNatClampNeg < 40 := hk; show (A 146).toNatClampNeg + 1 < _; omega)
theorem NS.sls {c c' : Nat → Nat → Int32} {A A2 : Nat → Int32} {s v mo : Nat} (h : NS A A2 s v mo) (hk : nk A < 40) (hs : s < nn A) (hmo : mo ≤ 99) (S : SLs c A) (h20 : c' 20 0 = nI (nk A + 1)) (hc : ∀ f, f < 5 → c' (21 + f) = upd (c (21 + f)) (nk A) (A2 (1087 + 41 * nk A + f))) : SLs c' A2 := by
  refine ⟨by rw [h.k hk]; omega, by rw [h.k hk]; exact h.2.1, by rw [h.2.1]; exact h20, fun i hi => ?_⟩
  rw [h.k hk] at hi
  by_cases e : i = nk A
  · subst e
    have esm : smo A2 (nk A) = mo := by unfold smo; rw [h.2.2.2.2.1, nI_clamp (by omega)]
    refine ⟨⟨s, by rw [h.lo.n.1]; exact hs, h.2.2.1, by rw [esm]; exact h.2.2.2.2.1, by omega⟩, fun f hf => ?_⟩
    rw [hc f hf, upd_s]
  · obtain ⟨⟨w, w1, w2, w3, w4⟩, w5⟩ := S.2.2.2 i (by omega)
    have lo : ∀ f, f < 41 → A2 (1087 + 41 * i + f) = A (1087 + 41 * i + f) := fun f hf => h.1 _ (by omega) (by omega)
    have esm : smo A2 i = smo A i := by unfold smo; rw [lo 2 (by omega)]
    refine ⟨⟨w, by rw [h.lo.n.1]; exact w1, by rw [lo 0 (by omega)]; exact w2, by rw [esm, lo 2 (by omega)]; exact w3, by rw [esm]; exact w4⟩, fun f hf => ?_⟩
    rw [hc f hf, upd_o e, lo f (by omega)]
    exact w5 f hf
/-- the sale with what it pays -/
theorem NS.rs {c c' : Nat → Nat → Int32} {A A2 T F : Nat → Int32} {s v mo n : Nat} (h : NS A A2 s v mo) (hR : RS c A T) (hk : nk A < 40) (hs : s < nn A) (hj : jo A s ≤ mo) (hmo : mo ≤ nwN A) (hmo2 : nwN A ≤ mo + 2) (hv : 1 ≤ v ∧ v ≤ 9999) (hn : n ≤ 5) (h5 : A2 (1087 + 41 * nk A + 5) = nI n) (hF : ∀ i, i < 7 * n → A2 (1087 + 41 * nk A + (6 + i)) = F i) {uu p : Nat → Nat} (hu : ∀ l, l < n → uu l < nn A ∧ F (7 * l + 0) = nI (uu l) ∧ F (7 * l + 2) = nI (p l)) (hd : ∀ l l', l < n → l' < n → uu l = uu l' → l = l') (hp : snat p n ≤ 9999) (hc : ∀ o, o < 32 → o < 20 ∨ 28 ≤ o → c' o = c o) (h20 : c' 20 0 = nI (nk A + 1)) (hcf : ∀ f, f < 5 → c' (21 + f) = upd (c (21 + f)) (nk A) (A2 (1087 + 41 * nk A + f))) (h26 : c' 26 = upd (c 26) (nk A) (nI n)) (h27 : ∀ j, c' 27 j = if nk A * 35 ≤ j ∧ j < nk A * 35 + 7 * n then F (j - nk A * 35) else c 27 j) : RS c' A2 T := by
  have hN := hR.1.1
  have h10 := hN.2.1
  have hS := hR.1.2.2.1
  have rs := hR.2.2.1
  have en := h.lo.n.1
  have ew := h.lo.n.2
  have ek := h.k hk
  have eqn : nq A2 (nk A) = n := by unfold nq; rw [h5, nI_clamp (by omega)]
  have lo : ∀ i f, i < nk A → f < 41 → A2 (1087 + 41 * i + f) = A (1087 + 41 * i + f) := fun i f hi hf => h.1 _ (by omega) (by omega)
  have eqo : ∀ i, i < nk A → nq A2 i = nq A i := fun i hi => by unfold nq; rw [lo i 5 hi (by omega)]
  have hF7 : ∀ l f, l < n → f < 7 → A2 (1087 + 41 * nk A + (6 + 7 * l + f)) = F (7 * l + f) := fun l f hl hf => by
    rw [show 6 + 7 * l + f = 6 + (7 * l + f) by omega]
    exact hF (7 * l + f) (by omega)
  have wn_ : ∀ l, l < n → whS A2 (nk A) l = nI (uu l) := fun l hl => by
    unfold whS
    rw [hF7 l 0 hl (by omega)]
    exact (hu l hl).2.1
  refine RS_hi hR h.lo hc ⟨by omega, by rw [ek]; exact h.2.1, fun i hi => ?_⟩ (fun i hi => ?_) ⟨by rw [h.2.1]; exact h20, fun i hi => ?_⟩
  · rw [ek] at hi
    by_cases e : i = nk A
    · subst e
      unfold VK
      rw [eqn, en, ew]
      refine ⟨⟨s, mo, nwN A, hs, h.2.2.1, h.2.2.2.2.1, h.2.2.2.2.2.1, by rw [h.lo.j (by omega)]; exact hj, hmo, hmo2, Nat.le_refl _⟩, ⟨v, hv.1, hv.2, h.2.2.2.1⟩, ⟨0, by omega, h.2.2.2.2.2.2⟩, hn, h5, fun l hl => ⟨uu l, (hu l hl).1, wn_ l hl⟩, fun l l' hl hl' e => ?_⟩
      rw [wn_ l hl, wn_ l' hl'] at e
      have u1 := (hu l hl).1
      have u2 := (hu l' hl').1
      exact hd l l' hl hl' ((nI_eq (by omega) (by omega)).mp e)
    · have hi : i < nk A := by omega
      obtain ⟨⟨w, m', to, b1, b2, b3, b4, b5, b6, b7, b8⟩, a2, a3, a4, a5, a6, a7⟩ := hS.2.2 i hi
      have ewh : ∀ l, l < nq A i → whS A2 i l = whS A i l := fun l hl => by unfold whS; rw [lo i _ hi (by omega)]
      unfold VK
      rw [eqo i hi, en, ew, lo i 0 hi (by omega), lo i 1 hi (by omega), lo i 2 hi (by omega), lo i 3 hi (by omega), lo i 4 hi (by omega), lo i 5 hi (by omega)]
      refine ⟨⟨w, m', to, b1, b2, b3, b4, by rw [h.lo.j (by omega)]; exact b5, b6, b7, b8⟩, a2, a3, a4, a5, fun l hl => by rw [ewh l hl]; exact a6 l hl, fun l l' hl hl' => by rw [ewh l hl, ewh l' hl']; exact a7 l l' hl hl'⟩
  · rw [ek] at hi
    by_cases e : i = nk A
    · subst e
      rw [eqn]
      refine ⟨p, fun l hl => ?_, by rw [snat_list]; exact hp⟩
      rw [hF7 l 2 hl (by omega)]
      exact (hu l hl).2.2
    · have hi : i < nk A := by omega
      obtain ⟨p', p1, p2⟩ := hR.1.2.2.2.2.2.2.2.1 i hi
      have := (hS.2.2 i hi).2.2.2.1
      rw [eqo i hi]
      exact ⟨p', fun l hl => by rw [lo i _ hi (by omega)]; exact p1 l hl, p2⟩
  · rw [ek] at hi
    by_cases e : i = nk A
    · subst e
      rw [eqn]
      refine ⟨fun f hf => by rw [hcf f hf, upd_s], by rw [h26, upd_s, h5], fun l hl f hf => ?_⟩
      rw [h27, hF7 l f hl hf, if_pos (by omega)]
      congr 1
      omega
    · have hi : i < nk A := by omega
      obtain ⟨q1, q2, q3⟩ := rs.2 i hi
      have q5 := (hS.2.2 i hi).2.2.2.1
      rw [eqo i hi, lo i 5 hi (by omega)]
      refine ⟨fun f hf => by rw [hcf f hf, upd_o e, lo i f hi (by omega)]; exact q1 f hf, by rw [h26, upd_o e]; exact q2, fun l hl f hf => ?_⟩
      rw [h27, lo i _ hi (by omega), if_neg (by omega)]
      exact q3 l hl f hf
