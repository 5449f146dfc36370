/-! a level's form, on both sides -/
def FD (A : Nat → Int32) (c : Nat → Nat → Int32) (l v need : Nat) : Prop := (∃ d : Nat → Nat, d v = need ∧ d 0 = 1 ∧ ∀ j, j < v → (∃ nd, nd ≤ 3 ∧ A (19 + 25 * l + (1 + j)) = nI nd ∧ d j = d (j + 1) + 1) ∨ (∃ nd, 4 ≤ nd ∧ nd ≤ 6 ∧ A (19 + 25 * l + (1 + j)) = nI nd ∧ 2 ≤ d (j + 1) ∧ d j + 1 = d (j + 1))) ∧ (∀ j, j < v → isN (A (19 + 25 * l + (9 + j))) 99 ∧ isN (A (19 + 25 * l + (17 + j))) 20) ∧ ∀ j, j < v → c 8 (8 * (l + 1) + j) = A (19 + 25 * l + (1 + j)) + 11 ∧ c 9 (8 * (l + 1) + j) = A (19 + 25 * l + (9 + j)) ∧ c 10 (8 * (l + 1) + j) = A (19 + 25 * l + (17 + j))
theorem FD.step {A A' : Nat → Int32} {c c' : Nat → Nat → Int32} {l v need k a b : Nat} (f : FD A c l v need) (hv : v < 8) (hn : 1 ≤ need) (h1 : 11 ≤ k) (h2 : k ≤ 17) (ha : a ≤ 99) (hb : b ≤ 20) (eA : A' = upd (upd (upd A (19 + 25 * l + (1 + v)) (nI (k - 11))) (19 + 25 * l + (9 + v)) (nI a)) (19 + 25 * l + (17 + v)) (nI b)) (e8 : c' 8 = upd (c 8) (8 * (l + 1) + v) (nI k)) (e9 : c' 9 = upd (c 9) (8 * (l + 1) + v) (nI a)) (e10 : c' 10 = upd (c 10) (8 * (l + 1) + v) (nI b)) : FD A' c' l (v + 1) (if 15 ≤ k then need + 1 else need - 1) := by
  obtain ⟨⟨d, d1, d2, d3⟩, f2, f3⟩ := f
  have a1 : ∀ j, j < v → A' (19 + 25 * l + (1 + j)) = A (19 + 25 * l + (1 + j)) ∧ A' (19 + 25 * l + (9 + j)) = A (19 + 25 * l + (9 + j)) ∧ A' (19 + 25 * l + (17 + j)) = A (19 + 25 * l + (17 + j)) := fun j hj => by
    rw [eA]
    refine ⟨?_, ?_, ?_⟩
    · rw [upd_o (by omega), upd_o (by omega), upd_o (by omega)]
    · rw [upd_o (by omega), upd_o (by omega), upd_o (by omega)]
    · rw [upd_o (by omega), upd_o (by omega), upd_o (by omega)]
  have av : A' (19 + 25 * l + (1 + v)) = nI (k - 11) ∧ A' (19 + 25 * l + (9 + v)) = nI a ∧ A' (19 + 25 * l + (17 + v)) = nI b := by
    rw [eA]
    refine ⟨?_, ?_, ?_⟩
    · rw [upd_o (by omega), upd_o (by omega), upd_s]
    · rw [upd_o (by omega), upd_s]
    · rw [upd_s]
  have cs : ∀ j, j < v + 1 → j < v ∨ j = v := fun j hj => by omega
  refine ⟨⟨fun j => if j = v + 1 then (if 15 ≤ k then need + 1 else need - 1) else d j, if_pos rfl, (if_neg (by omega)).trans d2, fun j hj => ?_⟩, fun j hj => ?_, fun j hj => ?_⟩
  · rcases cs j hj with c | rfl
    · rw [(a1 j c).1]
      dsimp only
      rw [if_neg (show ¬ j = v + 1 by omega), if_neg (show ¬ j + 1 = v + 1 by omega)]
      exact d3 j c
    · rw [av.1]
      dsimp only
      rw [if_neg (show ¬ j = j + 1 by omega), if_pos rfl, d1]
      by_cases c15 : 15 ≤ k
      · rw [if_pos c15]
        exact Or.inr ⟨k - 11, by omega, by omega, rfl, by omega, rfl⟩
      · rw [if_neg c15]
        exact Or.inl ⟨k - 11, by omega, rfl, by omega⟩
  · rcases cs j hj with c | rfl
    · rw [(a1 j c).2.1, (a1 j c).2.2]
      exact f2 j c
    · rw [av.2.1, av.2.2]
      exact ⟨⟨a, ha, rfl⟩, ⟨b, hb, rfl⟩⟩
  · rw [e8, e9, e10]
    rcases cs j hj with c | rfl
    · rw [(a1 j c).1, (a1 j c).2.1, (a1 j c).2.2, upd_o (by omega), upd_o (by omega), upd_o (by omega)]
      exact f3 j c
    · rw [av.1, av.2.1, av.2.2, upd_s, upd_s, upd_s]
      refine ⟨?_, rfl, rfl⟩
      rw [show (11 : Int32) = nI 11 from rfl, nI_add]
      congr 1
      omega
def LV (g0 w0 g w : Z_H) (l v need : Nat) : Prop := z_i g 35 9 = 0 → z_i g0 35 9 = 0 ∧ v ≤ 8 ∧ FD (z_i w 64) (fun o => z_i g (33 + o)) l v need ∧ (∀ x, x < 19 + 25 * l + 1 ∨ 19 + 25 * l + 25 ≤ x → z_i w 64 x = z_i w0 64 x) ∧ (∀ o, o ≠ 35 → o ≠ 41 → o ≠ 42 → o ≠ 43 → z_i g o = z_i g0 o) ∧ ∀ o, o = 41 ∨ o = 42 ∨ o = 43 → ∀ x, x < 8 * (l + 1) ∨ 8 * (l + 1) + 8 ≤ x → z_i g o x = z_i g0 o x
theorem kd_n {W : Int64} (h : 11 ≤ wkd W z_wrds) : ∃ k, 11 ≤ k ∧ k ≤ 17 ∧ wkd W z_wrds = nI k := by
  rcases wkd_c W with ⟨-, k⟩ | ⟨-, k⟩ | ⟨-, k⟩ | ⟨-, k⟩ | ⟨-, k⟩ | ⟨-, k⟩ | ⟨-, k⟩ | ⟨-, k⟩ | ⟨-, k⟩ | ⟨-, k⟩ | ⟨-, k⟩ | ⟨-, k⟩ | ⟨-, k⟩ | ⟨-, k⟩ | ⟨-, k⟩
  · rw [k] at h; exact absurd h (by decide)
  · rw [k] at h; exact absurd h (by decide)
  · rw [k] at h; exact absurd h (by decide)
  · rw [k] at h; exact absurd h (by decide)
  · rw [k] at h; exact absurd h (by decide)
  · rw [k] at h; exact absurd h (by decide)
  · rw [k] at h; exact absurd h (by decide)
  · exact ⟨11, by omega, by omega, k⟩
  · exact ⟨12, by omega, by omega, k⟩
  · exact ⟨13, by omega, by omega, k⟩
  · exact ⟨14, by omega, by omega, k⟩
  · exact ⟨15, by omega, by omega, k⟩
  · exact ⟨16, by omega, by omega, k⟩
  · exact ⟨17, by omega, by omega, k⟩
  · rw [k] at h; exact absurd h (by decide)
theorem BR.lv {g : Z_H} {N : Nat} {p : Int32} (B : BR g N p) {t1 x : Int32} {v : Int32} {rec : (Int32 × Int32 × Int32 × Z_H) → Option (Int32 × Z_H)} : f_X4_readLevel_l1 35 t1 rec (x, v, v, g) = some (v, g) := by
  obtain ⟨⟨i, r⟩, b2, b3, b4⟩ := B
  unfold f_X4_readLevel_l1
  by_cases c1 : (600 : Int32) < v
  · exact if_pos c1
  · refine (if_neg c1).trans ?_
    by_cases c2 : x ≤ 0
    · exact if_pos c2
    · exact (if_neg c2).trans (bnd (yI35 r.1 8) (if_neg (by rw [b3]; exact b4)))
theorem lv_lp {T : Nat → Int32} {n N : Nat} {Kf Pf Vf : Nat → Int32} {q : Nat → Nat} (t : TS T n N Kf Pf Vf q) {l : Nat} (hl : l < 5) {g0 w0 : Z_H} : ∀ (d i v need F1 F2 : Nat) (g w : Z_H), N - i ≤ d → d + 2 ≤ F1 → d + 2 ≤ F2 → REL g w T n N Kf Pf Vf q i → v ≤ i → need ≤ i + 1 → LV g0 w0 g w l v need → ∃ v2 g2, lp (f_X4_readLevel_l1 35 (nI (l + 1))) F1 (nI need, nI v, nI v, g) = some (nI v2, g2) ∧ v2 ≤ 601 ∧ CW g g2 ∧ ((∃ w2 i2, lp (f_X10_formOf_l1 61 (nI (19 + 25 * l))) F2 (nI need, nI v, w) = some (.inr (.inr (nI v2, w2))) ∧ MF w w2 ∧ REL g2 w2 T n N Kf Pf Vf q i2 ∧ i ≤ i2 ∧ LV g0 w0 g2 w2 l v2 0) ∨ (∃ w2, lp (f_X10_formOf_l1 61 (nI (19 + 25 * l))) F2 (nI need, nI v, w) = some (.inr (.inl w2)) ∧ MF w w2 ∧ BR g2 N (z_i w2 61 9)) ∨ (∃ w2, lp (f_X10_formOf_l1 61 (nI (19 + 25 * l))) F2 (nI need, nI v, w) = some (.inl w2) ∧ MF w w2 ∧ LY w2 ∧ BR g2 N (z_i w2 61 5))) := by
  intro d
  induction d using Nat.strongRecOn with
  | _ d ih =>
    intro i v need F1 F2 g w hd hF1 hF2 R hv hn lv
    obtain ⟨f1, rfl⟩ : ∃ f, F1 = f + 1 := ⟨F1 - 1, by omega⟩
    obtain ⟨f2, rfl⟩ : ∃ f, F2 = f + 1 := ⟨F2 - 1, by omega⟩
    have G := R.1.1.1
    have iN := R.1.1.2.2.2.2
    have n6 := t.2.1
    have nv : ¬ (600 : Int32) < nI v := nI_nlt (a := 600) (by omega) (by omega)
    rw [lp_succ, lp_succ]
    rcases Nat.eq_zero_or_pos need with c0 | c0
    · subst c0
      refine ⟨v, g, ?_, by omega, CW.rf, Or.inl ⟨w, i, ?_, MF.rf, R, Nat.le_refl _, lv⟩⟩
      · unfold f_X4_readLevel_l1
        exact (if_neg nv).trans (if_pos (by decide))
      · unfold f_X10_formOf_l1
        exact if_pos (by decide)
    · have k47 := (R.1.2 i iN).1
      have body : ∀ (g2 : Z_H) (rec : (Int32 × Int32 × Int32 × Z_H) → Option (Int32 × Z_H)), f_X4_readNode g 35 (nI (l + 1)) (nI v) = some g2 → f_X4_readLevel_l1 35 (nI (l + 1)) rec (nI need, nI v, nI v, g) = rec (nI need + (if Kf i < 15 then -1 else 1), nI (v + 1), nI (v + 1), g2) := fun g2 rec e => by
        unfold f_X4_readLevel_l1
        refine (if_neg nv).trans ((if_neg (nI_nle (by omega) (by omega))).trans (bnd ((yI35 G 8).trans (congrArg some R.2.2.2)) ((if_pos rfl).trans (bnd (yR35_2 G) (bnd R.1.1.a7 (bnd (R.1.1.k.trans (congrArg some k47)) (jnE ?_)))))))
        rw [← nI_1 v]
        by_cases c : Kf i < 15
        · exact (if_pos c).trans (ltE (bnd e (by rw [if_pos c])))
        · exact (if_neg c).trans (ltE (bnd e (by rw [if_neg c])))
      obtain ⟨f3, rfl⟩ : ∃ f, f1 = f + 1 := ⟨f1 - 1, by omega⟩
      by_cases ck : 11 ≤ Kf i
      · have wd := R.2.1.2.2.2.wd (Int32.le_trans (by decide) ck)
        obtain ⟨k, k1, k2, k3⟩ := kd_n (W := z_l w 61 8) (by rw [← wd.2]; exact ck)
        rw [← wd.2] at k3
        have hs : 8 < v → z_i g 35 9 ≠ 0 := fun c e => absurd (lv e).2.1 (by omega)
        obtain ⟨g2, e2, cw2, res⟩ := nd_ok t R k1 k2 k3 (l := l) (v := v) (need := need) hl (by omega) hs c0 (by omega)
        have nx : nI need + (if Kf i < 15 then -1 else 1) = nI (if 15 ≤ k then need + 1 else need - 1) := by
          have kl : nI k < 15 ↔ k < 15 := nI_ltI (b := 15) (by omega) (by omega)
          rw [k3]
          by_cases c : 15 ≤ k
          · rw [if_pos c, if_neg (fun h => absurd (kl.mp h) (by omega)), nI_1]
          · rw [if_neg c, if_pos (kl.mpr (by omega)), ← nI_sub (a := need) (b := 1) c0]
            exact (Int32.sub_eq_add_neg _ _).symm
        rcases res with ⟨w2, i2, a, b, m2, mf2, R2, hi2, ha, hb, s9, ch, fr⟩ | ⟨w2, m2, mf2, B2⟩
        · have i2N := R2.1.1.2.2.2.2
          have lv2 : LV g0 w0 g2 w2 l (v + 1) (if 15 ≤ k then need + 1 else need - 1) := fun h => by
            obtain ⟨h9, h8⟩ := s9 h
            obtain ⟨l1, l2, l3, l4, l5, l6⟩ := lv h9
            obtain ⟨u1, u2, u3, u4⟩ := ch h8
            refine ⟨l1, by omega, l3.step h8 c0 k1 k2 ha hb u1 u2 u3 u4, fun x hx => ?_, fun o o1 o2 o3 o4 => (fr o o1 o2 o3 o4).trans (l5 o o1 o2 o3 o4), fun o ho x hx => ?_⟩
            · rw [u1, upd_o (by omega), upd_o (by omega), upd_o (by omega)]
              exact l4 x hx
            · rcases ho with rfl | rfl | rfl
              · rw [u2, upd_o (by omega)]; exact l6 41 (Or.inl rfl) x hx
              · rw [u3, upd_o (by omega)]; exact l6 42 (Or.inr (Or.inl rfl)) x hx
              · rw [u4, upd_o (by omega)]; exact l6 43 (Or.inr (Or.inr rfl)) x hx
          have nb : (if 15 ≤ k then need + 1 else need - 1) ≤ i2 + 1 := by split <;> omega
          obtain ⟨v3, g3, e3, hv3, cw3, r3⟩ := ih (d - 1) (by omega) i2 (v + 1) (if 15 ≤ k then need + 1 else need - 1) (f3 + 1) f2 g2 w2 (by omega) (by omega) (by omega) R2 (by omega) nb lv2
          refine ⟨v3, g3, (body g2 _ e2).trans (by rw [nx]; exact e3), hv3, cw2.tr cw3, ?_⟩
          rcases r3 with ⟨w3, i3, p1, p2, p3, p4, p5⟩ | ⟨w3, p1, p2, p3⟩ | ⟨w3, p1, p2, p3, p4⟩
          · exact Or.inl ⟨w3, i3, (m2 _).trans p1, mf2.tr p2, p3, by omega, p5⟩
          · exact Or.inr (Or.inl ⟨w3, (m2 _).trans p1, mf2.tr p2, p3⟩)
          · exact Or.inr (Or.inr ⟨w3, (m2 _).trans p1, mf2.tr p2, p3, p4⟩)
        · exact ⟨v + 1, g2, (body g2 _ e2).trans B2.lv, by omega, cw2, Or.inr (Or.inl ⟨w2, m2 _, mf2, B2⟩)⟩
      · obtain ⟨g2, e2, cw2, B2, m2⟩ := nd_no t R ck (l := l) (v := v) (need := need) c0 (by omega)
        exact ⟨v + 1, g2, (body g2 _ e2).trans B2.lv, by omega, cw2, Or.inr (Or.inr ⟨w, m2 _, MF.rf, R.2.1.1.1, by rw [R.2.1.2.2.1]; exact B2⟩)⟩
