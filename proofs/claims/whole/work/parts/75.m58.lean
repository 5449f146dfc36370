def FC (c : Nat → Nat → Int32) : Prop := c 12 0 = 1 ∧ c 0 8 = 0 ∧ c 13 0 = 0 ∧ c 14 0 = -1 ∧ c 15 0 = 0 ∧ c 16 0 = 0 ∧ c 19 0 = -1 ∧ c 20 0 = 0 ∧ ∀ s, s < 10 → c 29 s = 0 ∧ c 30 s = 0
theorem RS_fresh {c : Nat → Nat → Int32} {A K T : Nat → Int32} (hv : VP K) (k4 : K 144 = 0) (k6 : K 146 = 0) (hp : RCp c K) (fc : FC c) (ha : VA A T) (ra : RCa c A T) : RS c (tkn A K) T := by
  obtain ⟨f1, f2, f3, f4, f5, f6, f7, f8, f9⟩ := fc
  have z0 : (0 : Int32).toNatClampNeg = 0 := rfl
  have b5 : tkn A K 145 = nI 1 := jnR_5
  have b4 : tkn A K 144 = 0 := (tkn_p (by omega) (by omega) (by omega)).trans k4
  have b6 : tkn A K 146 = 0 := (tkn_p (by omega) (by omega) (by omega)).trans k6
  have nn1 : nn (tkn A K) = 1 := by unfold nn; rw [b5]; rfl
  have nk0 : nk (tkn A K) = 0 := by unfold nk; rw [b6]; rfl
  have nw0 : nwN (tkn A K) = 0 := by unfold nwN; rw [b4]; rfl
  have s0 : tkn A K (147 + 94 * 0 + 0) = 0 := by
    unfold tkn
    rw [jnR_0, upd_o (by omega)]
    exact k4
  have s1 : tkn A K (147 + 94 * 0 + 1) = -1 := jnR_1
  have s2 : tkn A K (147 + 94 * 0 + 2) = -1 := jnR_2
  have sw : ∀ w, 3 ≤ w → w < 94 → tkn A K (147 + 94 * 0 + w) = 0 := fun w h1 h2 => jnR_w h1 h2
  have jo0 : jo (tkn A K) 0 = 0 := by unfold jo; rw [s0]; rfl
  have mc0 : mc (tkn A K) 0 = 0 := by unfold mc; rw [sw 4 (by omega) (by omega)]; rfl
  have nj0 : nj (tkn A K) 0 = 0 := by unfold nj; rw [sw 29 (by omega) (by omega)]; rfl
  have ea : ∀ j, j < 3 → tkn A K j = A j := fun j hj => tkn_l hj
  have nt0 : nt (tkn A K) = nt A := by unfold nt; rw [ea 0 (by omega)]
  have ep : ∀ j, 3 ≤ j → j < 144 → tkn A K j = K j := fun j h1 h2 => tkn_p h1 (by omega) (by omega)
  have lt1 : ∀ s, s < nn (tkn A K) → s = 0 := fun s hs => by omega
  refine ⟨⟨⟨by omega, by omega, by rw [nn1]; exact b5, by omega, by rw [nw0]; exact b4⟩, fun s hs => ?_, ⟨by omega, by rw [nk0]; exact b6, fun i hi => by omega⟩, VP_congr ep hv, fun s hs => ?_, fun m hm s hs => ?_, fun s hs => ?_, fun i hi => by omega, ?_⟩, ⟨?_, ?_, fun s hs => ?_⟩, ⟨?_, fun i hi => by omega⟩, RCp_congr ep hv hp, fun s hs => ?_, ⟨fun s hs => ?_, fun s h1 h2 => f9 s h2⟩, ?_⟩
  · rw [lt1 s hs]
    unfold VC
    rw [jo0, s0, s1, sw 3 (by omega) (by omega)]
    exact ⟨rfl, by omega, Or.inl rfl, 0, by omega, rfl⟩
  · rw [lt1 s hs]
    unfold VM
    rw [mc0, sw 4 (by omega) (by omega)]
    exact ⟨by omega, rfl, fun _ => rfl, fun i hi => absurd hi (Nat.not_lt_zero _), fun i i' hi => absurd hi (Nat.not_lt_zero _), Or.inl ⟨rfl, s2⟩⟩
  · rw [lt1 s hs]
    refine ⟨1, by omega, ?_⟩
    show (pr (tkn A K) m 0).bind (upk (pr (tkn A K) m) 0) = none
    have : pr (tkn A K) m 0 = none := by
      unfold pr spS
      rw [mc0]
      show prO (tkn A K (147 + 94 * 0 + 2)) = none
      rw [s2]
      rfl
    rw [this]
    rfl
  · rw [lt1 s hs, nj0, sw 29 (by omega) (by omega)]
    exact ⟨by omega, rfl⟩
  · unfold VA
    rw [nt0, ea 0 (by omega)]
    exact ha
  · rw [b5]
    exact f1
  · rw [b4]
    exact f2
  · rw [lt1 s hs, s0, s1, s2, sw 3 (by omega) (by omega), sw 4 (by omega) (by omega)]
    exact ⟨f3, f4, f7, f5, f6⟩
  · rw [b6]
    exact f8
  · rw [lt1 s hs, mc0]
    exact ⟨fun i hi => absurd hi (Nat.not_lt_zero _), fun i hi => absurd hi (Nat.not_lt_zero _), fun i i' _ hi => absurd hi (Nat.not_lt_zero _)⟩
  · rw [lt1 s hs, nj0, sw 29 (by omega) (by omega)]
    refine ⟨(f9 0 (by omega)).1, 0, by omega, (f9 0 (by omega)).2, fun _ => rfl, fun i hi => absurd hi (Nat.not_lt_zero _)⟩
  · unfold RCa
    rw [nt0, ea 0 (by omega), ea 1 (by omega), ea 2 (by omega)]
    exact ra
theorem atK_p : (atK 3 = 100 ∧ atK 4 = 30 ∧ atK 5 = 3 ∧ atK 6 = 2) ∧ (∀ r, r < 4 → atK (7 + r) = nI (1000 * r) ∧ atK (11 + r) = nI r ∧ atK (15 + r) = nI (r + 1)) ∧ (∀ l, l < 5 → atK (19 + 25 * l) = 1 ∧ atK (19 + 25 * l + 1) = 0 ∧ atK (19 + 25 * l + 9) = 0 ∧ atK (19 + 25 * l + 17) = fq l) ∧ atK 144 = 0 ∧ atK 146 = 0 := by decide +kernel
theorem VP_at : VP atK := by
  obtain ⟨⟨a3, a4, a5, a6⟩, ar, al, -, -⟩ := atK_p
  refine ⟨⟨100, by omega, a3⟩, ⟨30, by omega, a4⟩, ⟨3, by omega, a5⟩, ⟨2, by omega, by omega, a6⟩, fun r hr => ⟨⟨1000 * r, by omega, (ar r hr).1⟩, ⟨r, by omega, (ar r hr).2.1⟩, ⟨r + 1, by omega, (ar r hr).2.2⟩⟩, fun l hl => ?_⟩
  obtain ⟨l1, l2, l3, l4⟩ := al l hl
  have nf1 : nf atK l = 1 := by unfold nf; rw [l1]; rfl
  unfold VF
  rw [nf1]
  refine ⟨by omega, by omega, l1, ⟨fun j => 1 - j, rfl, rfl, fun j hj => ?_⟩, fun j hj => ?_⟩
  · have : j = 0 := by omega
    subst this
    exact Or.inl ⟨0, by omega, l2, rfl⟩
  · have : j = 0 := by omega
    subst this
    refine ⟨⟨0, by omega, l3⟩, ?_⟩
    have : l = 0 ∨ l = 1 ∨ 2 ≤ l := by omega
    rcases this with rfl | rfl | q
    · exact ⟨10, by omega, l4⟩
    · exact ⟨5, by omega, l4⟩
    · refine ⟨0, by omega, l4.trans ?_⟩
      unfold fq
      rw [if_neg (by omega), if_neg (by omega)]
      rfl
theorem RCp_at {h : Z_H} {p : Nat} (P : PF h (p + 3)) : RCp (fun o => z_i h (p + o)) atK := by
  obtain ⟨⟨a3, a4, a5, a6⟩, ar, al, -, -⟩ := atK_p
  obtain ⟨⟨p0, p1, p2, p3⟩, pr, pl⟩ := P
  refine ⟨fun i hi => ?_, fun r hr => ?_, fun l hl => ?_⟩
  · have : i = 0 ∨ i = 1 ∨ i = 2 ∨ i = 3 := by omega
    rcases this with rfl | rfl | rfl | rfl
    · exact p0.trans a3.symm
    · exact p1.trans a4.symm
    · exact p2.trans a5.symm
    · exact p3.trans a6.symm
  · obtain ⟨q1, q2, q3⟩ := pr r hr
    obtain ⟨r1, r2, r3⟩ := ar r hr
    exact ⟨q1.trans r1.symm, q2.trans r2.symm, q3.trans r3.symm⟩
  · obtain ⟨l1, l2, l3, l4⟩ := al l hl
    obtain ⟨q1, q2, q3, q4⟩ := pl l hl
    have nf1 : nf atK l = 1 := by unfold nf; rw [l1]; rfl
    rw [nf1]
    refine ⟨q1.trans l1.symm, fun j hj => ?_⟩
    have : j = 0 := by omega
    subst this
    refine ⟨q2.trans ?_, q3.trans l3.symm, q4.trans l4.symm⟩
    rw [show 19 + 25 * l + (1 + 0) = 19 + 25 * l + 1 by omega, l2]
    rfl
