/-! one who joins -/
def jnR (A : Nat → Int32) (n : Nat) (sp : Int32) : Nat → Int32 := fun j => if j = 145 then nI (n + 1) else if j = 147 + 94 * n + 0 then A 144 else if j = 147 + 94 * n + 1 then -1 else if j = 147 + 94 * n + 2 then sp else if 147 + 94 * n ≤ j ∧ j < 147 + 94 * n + 94 then 0 else A j
theorem jnR_o {A : Nat → Int32} {n : Nat} {sp : Int32} {j : Nat} (h1 : j ≠ 145) (h2 : j < 147 + 94 * n ∨ 147 + 94 * n + 94 ≤ j) : jnR A n sp j = A j := by
  unfold jnR
  rw [if_neg h1, if_neg (by omega), if_neg (by omega), if_neg (by omega), if_neg (by omega)]
theorem jnR_5 {A : Nat → Int32} {n : Nat} {sp : Int32} : jnR A n sp 145 = nI (n + 1) := by
  unfold jnR
  rw [if_pos rfl]
theorem jnR_0 {A : Nat → Int32} {n : Nat} {sp : Int32} : jnR A n sp (147 + 94 * n + 0) = A 144 := by
  unfold jnR
  rw [if_neg (by omega), if_pos rfl]
theorem jnR_1 {A : Nat → Int32} {n : Nat} {sp : Int32} : jnR A n sp (147 + 94 * n + 1) = -1 := by
  unfold jnR
  rw [if_neg (by omega), if_neg (by omega), if_pos rfl]
theorem jnR_2 {A : Nat → Int32} {n : Nat} {sp : Int32} : jnR A n sp (147 + 94 * n + 2) = sp := by
  unfold jnR
  rw [if_neg (by omega), if_neg (by omega), if_neg (by omega), if_pos rfl]
theorem jnR_w {A : Nat → Int32} {n : Nat} {sp : Int32} {w : Nat} (h1 : 3 ≤ w) (h2 : w < 94) : jnR A n sp (147 + 94 * n + w) = 0 := by
  unfold jnR
  rw [if_neg (by omega), if_neg (by omega), if_neg (by omega), if_neg (by omega), if_pos (by omega)]
def jnK (A : Nat → Int32) (n k : Nat) : Nat → Int32 := fun j => if 147 + 94 * n ≤ j ∧ j < 147 + 94 * n + k then 0 else A j
theorem e_joins {h : Z_H} (H : LY h) {n : Nat} {sp : Int32} (hn : n < 10) (e5 : z_i h 62 145 = nI n) : ∃ h', f_X10_joins h 61 sp = some h' ∧ ON h h' 62 ∧ z_i h' 62 = jnR (z_i h 62) n sp := by
  let b := 147 + 94 * n
  have eb : (147 : Int32) + (94 : Int32) * nI n = nI b := by rw [n_147, n_94, nI_mul, nI_add]
  have a145 : aI h 62 145 = some (nI n) := by
    have := yA62 (k := 145) H (by omega)
    rw [e5] at this
    exact this
  have key := lp_ex (b := f_X10_joins_l1 61 (nI b)) (fun k (g : Z_H) => (nI k, g)) (fun k g => ON h g 62 ∧ z_i g 62 = jnK (z_i h 62) n k) some 94 ?_ ?_ 94 FU 0 h rfl (by unfold FU; omega) ⟨TW.rf, by
    funext j
    unfold jnK
    rw [if_neg (by omega)]⟩
  · obtain ⟨g, ⟨g1, g2⟩, key⟩ := key
    have key' : lp (f_X10_joins_l1 61 (nI b)) FU (0, h) = some g := key
    have G := g1.ly H
    let g3 := z_si g 62 (b + 0) (z_i h 62 144)
    let g4 := z_si g3 62 (b + 1) (-1)
    let g5 := z_si g4 62 (b + 2) sp
    let g6 := z_si g5 62 145 (nI (n + 1))
    have G3 : LY g3 := G
    have G4 : LY g4 := G
    have G5 : LY g5 := G
    have ss : ∀ q : Z_H, LY q → ∀ f x, f < 7 → sI q 62 (nI b + nI f) x = some (z_si q 62 (b + f) x) := fun q Q f x hf => by
      rw [nI_add]
      exact yS62 Q (by show 147 + 94 * n + f < 10908; omega)
    have a144 : aI g 62 144 = some (z_i h 62 144) := by
      have := yA62 (k := 144) G (by omega)
      rw [g2] at this
      rw [show (144 : Int32) = nI 144 from rfl, this]
      unfold jnK
      rw [if_neg (by omega)]
    have x5 : z_i g5 62 = upd (upd (upd (jnK (z_i h 62) n 94) (b + 0) (z_i h 62 144)) (b + 1) (-1)) (b + 2) sp := by
      show z_i (z_si (z_si (z_si g 62 (b + 0) (z_i h 62 144)) 62 (b + 1) (-1)) 62 (b + 2) sp) 62 = _
      rw [z_si_i, z_si_i, z_si_i, g2]
    have b145 : aI g5 62 145 = some (nI n) := by
      have := yA62 (k := 145) G5 (by omega)
      rw [show (145 : Int32) = nI 145 from rfl, this, x5, upd_o (by show 145 ≠ 147 + 94 * n + 2; omega), upd_o (by show 145 ≠ 147 + 94 * n + 1; omega), upd_o (by show 145 ≠ 147 + 94 * n + 0; omega)]
      unfold jnK
      rw [if_neg (by omega), e5]
    refine ⟨g6, ?_, ?_, ?_⟩
    · unfold f_X10_joins
      refine gdE (yg61 H) ?_
      refine bnd (yR61_1 H) ?_
      refine bnd a145 ?_
      refine ltE ?_
      rw [eb]
      refine bnd key' ?_
      refine bnd (yR61_1 G) ?_
      refine bnd (yR61_1 G) ?_
      refine bnd a144 ?_
      refine bnd (a := g3) (ss g G 0 _ (by omega)) ?_
      refine bnd (yR61_1 G3) ?_
      refine bnd (a := g4) (ss g3 G3 1 _ (by omega)) ?_
      refine bnd (yR61_1 G4) ?_
      refine bnd (a := g5) (ss g4 G4 2 _ (by omega)) ?_
      refine bnd (yR61_1 G5) ?_
      refine bnd b145 ?_
      rw [nI_1]
      refine bnd (a := g6) (yS62 (k := 145) G5 (by omega)) ?_
      rfl
    · exact g1.tr ((TW_si (Or.inl rfl)).tr ((TW_si (Or.inl rfl)).tr ((TW_si (Or.inl rfl)).tr (TW_si (Or.inl rfl)))))
    · show z_i (z_si g5 62 145 (nI (n + 1))) 62 = _
      rw [z_si_i, x5]
      funext j
      unfold jnR jnK
      by_cases c0 : j = 145
      · rw [c0, upd_s, if_pos rfl]
      · rw [upd_o c0, if_neg c0]
        by_cases c1 : j = 147 + 94 * n + 2
        · rw [show j = b + 2 from c1, upd_s, if_neg (by show b + 2 ≠ b + 0; omega), if_neg (by show b + 2 ≠ b + 1; omega), if_pos rfl]
        · rw [upd_o (by show j ≠ 147 + 94 * n + 2; omega)]
          by_cases c2 : j = 147 + 94 * n + 1
          · rw [show j = b + 1 from c2, upd_s, if_neg (by show b + 1 ≠ b + 0; omega), if_pos rfl]
          · rw [upd_o (by show j ≠ 147 + 94 * n + 1; omega)]
            by_cases c3 : j = 147 + 94 * n + 0
            · rw [show j = b + 0 from c3, upd_s, if_pos rfl]
            · rw [upd_o (by show j ≠ 147 + 94 * n + 0; omega), if_neg c3, if_neg c2, if_neg c1]
  · rintro k g hk ⟨g1, g2⟩
    have G := g1.ly H
    refine ⟨z_si g 62 (b + k) 0, ⟨g1.tr (TW_si (Or.inl rfl)), ?_⟩, fun rec => ?_⟩
    · rw [z_si_i, g2]
      funext j
      unfold jnK
      by_cases e : j = 147 + 94 * n + k
      · rw [show j = b + k from e, upd_s, if_pos (by show 147 + 94 * n ≤ 147 + 94 * n + k ∧ 147 + 94 * n + k < 147 + 94 * n + (k + 1); omega)]
      · rw [upd_o (by show j ≠ 147 + 94 * n + k; omega)]
        by_cases c : 147 + 94 * n ≤ j ∧ j < 147 + 94 * n + k
        · rw [if_pos c, if_pos (by omega)]
        · rw [if_neg c, if_neg (by omega)]
    · unfold f_X10_joins_l1
      refine (if_neg (show ¬ (94 : Int32) ≤ nI k from nI_ge (b := 94) hk (by omega))).trans ?_
      refine bnd (yR61_1 G) ?_
      rw [nI_add]
      refine bnd (yS62 G (by show 147 + 94 * n + k < 10908; omega)) ?_
      rw [nI_1]
  · rintro rec g _
    unfold f_X10_joins_l1
    exact if_pos (by decide)
def adm (h : Z_H) (n : Nat) (sp mo : Int32) : Z_H := z_si (z_si (z_si (z_si (z_si (z_si h 14 n mo) 15 n (-1)) 16 n 0) 17 n 0) 20 n sp) 13 0 (nI (n + 1))
theorem c_admit {h : Z_H} (H : LY h) {n : Nat} {sp mo : Int32} (hn : n < 10) (e0 : z_i h 13 0 = nI n) : f_X0_admit h 13 sp mo = some (nI n, adm h n sp mo) := by
  unfold f_X0_admit adm
  refine gdE (yg13 H) ?_
  refine bnd ((yI13 H 0).trans (congrArg some e0)) ?_
  refine (if_pos (show nI n < (10 : Int32) from nI_lt (b := 10) hn (by omega))).trans ?_
  refine bnd (yR13_1 H) ?_
  refine bnd (yS14 H hn) ?_
  refine bnd (yR13_2 (h := z_si h 14 n mo) H) ?_
  refine bnd (yS15 (h := z_si h 14 n mo) H hn) ?_
  refine bnd (yR13_3 (h := z_si (z_si h 14 n mo) 15 n (-1)) H) ?_
  refine bnd (yS16 (h := z_si (z_si h 14 n mo) 15 n (-1)) H hn) ?_
  refine bnd (yR13_4 (h := z_si (z_si (z_si h 14 n mo) 15 n (-1)) 16 n 0) H) ?_
  refine bnd (yS17 (h := z_si (z_si (z_si h 14 n mo) 15 n (-1)) 16 n 0) H hn) ?_
  refine bnd (yR13_7 (h := z_si (z_si (z_si (z_si h 14 n mo) 15 n (-1)) 16 n 0) 17 n 0) H) ?_
  refine bnd (yS20 (h := z_si (z_si (z_si (z_si h 14 n mo) 15 n (-1)) 16 n 0) 17 n 0) H hn) ?_
  refine bnd ((yI13 (h := z_si (z_si (z_si (z_si (z_si h 14 n mo) 15 n (-1)) 16 n 0) 17 n 0) 20 n sp) H 0).trans (congrArg some e0)) ?_
  refine bnd (yP13 (h := z_si (z_si (z_si (z_si (z_si h 14 n mo) 15 n (-1)) 16 n 0) 17 n 0) 20 n sp) H 0 (nI n + 1)) ?_
  rw [nI_1]
theorem adm_cl {h : Z_H} {n : Nat} {sp mo : Int32} : z_i (adm h n sp mo) 13 0 = nI (n + 1) ∧ z_i (adm h n sp mo) 14 = upd (z_i h 14) n mo ∧ z_i (adm h n sp mo) 15 = upd (z_i h 15) n (-1) ∧ z_i (adm h n sp mo) 16 = upd (z_i h 16) n 0 ∧ z_i (adm h n sp mo) 17 = upd (z_i h 17) n 0 ∧ z_i (adm h n sp mo) 20 = upd (z_i h 20) n sp ∧ ∀ a, a ≠ 13 → a ≠ 14 → a ≠ 15 → a ≠ 16 → a ≠ 17 → a ≠ 20 → z_i (adm h n sp mo) a = z_i h a := by
  unfold adm
  refine ⟨rfl, ?_, ?_, ?_, ?_, ?_, fun a h1 h2 h3 h4 h5 h6 => ?_⟩
  · rw [z_si_o (by omega), z_si_o (by omega), z_si_o (by omega), z_si_o (by omega), z_si_o (by omega), z_si_i]
  · rw [z_si_o (by omega), z_si_o (by omega), z_si_o (by omega), z_si_o (by omega), z_si_i, z_si_o (by omega)]
  · rw [z_si_o (by omega), z_si_o (by omega), z_si_o (by omega), z_si_i, z_si_o (by omega), z_si_o (by omega)]
  · rw [z_si_o (by omega), z_si_o (by omega), z_si_i, z_si_o (by omega), z_si_o (by omega), z_si_o (by omega)]
  · rw [z_si_o (by omega), z_si_i, z_si_o (by omega), z_si_o (by omega), z_si_o (by omega), z_si_o (by omega)]
  · rw [z_si_o h1, z_si_o h6, z_si_o h5, z_si_o h4, z_si_o h3, z_si_o h2]
theorem RS_join {c c' : Nat → Nat → Int32} {A T : Nat → Int32} (hR : RS c A T) {s : Nat} (hn : nn A < 10) (hs : s < nn A) (hc : ∀ o, o < 32 → o ≠ 12 → o ≠ 13 → o ≠ 14 → o ≠ 15 → o ≠ 16 → o ≠ 19 → c' o = c o) (h12 : c' 12 0 = nI (nn A + 1)) (h13 : c' 13 = upd (c 13) (nn A) (A 144)) (h14 : c' 14 = upd (c 14) (nn A) (-1)) (h15 : c' 15 = upd (c 15) (nn A) 0) (h16 : c' 16 = upd (c 16) (nn A) 0) (h19 : c' 19 = upd (c 19) (nn A) (nI s)) : RS c' (jnR A (nn A) (nI s)) T := by
  obtain ⟨⟨v1, v2, v3, v4, v5, v6, v7, v8, v9⟩, r1, r2, r3, r4, r5, r6⟩ := hR
  have e144 : A 144 = nI (nwN A) := v1.2.2.2.2
  have h99 := v1.2.2.2.1
  have oo : ∀ j, j ≠ 145 → (j < 147 + 94 * nn A ∨ 147 + 94 * nn A + 94 ≤ j) → jnR A (nn A) (nI s) j = A j := fun j h1 h2 => jnR_o h1 h2
  have o5 := jnR_5 (A := A) (n := nn A) (sp := nI s)
  have o0 := jnR_0 (A := A) (n := nn A) (sp := nI s)
  have o1 := jnR_1 (A := A) (n := nn A) (sp := nI s)
  have o2 := jnR_2 (A := A) (n := nn A) (sp := nI s)
  have ow : ∀ w, 3 ≤ w → w < 94 → jnR A (nn A) (nI s) (147 + 94 * nn A + w) = 0 := fun w h1 h2 => jnR_w h1 h2
  generalize eB : jnR A (nn A) (nI s) = B at *
  have en : nn B = nn A + 1 := by
    have : nn B = (B 145).toNatClampNeg := rfl
    rw [this, o5, nI_clamp (by omega)]
  have ew : nwN B = nwN A := by unfold nwN; rw [oo 144 (by omega) (by omega)]
  have row : ∀ t w, t < nn A → w < 94 → B (147 + 94 * t + w) = A (147 + 94 * t + w) := fun t w ht hw => oo _ (by omega) (by omega)
  have hi : ∀ j, 1087 ≤ j → B j = A j := fun j hj => oo j (by omega) (by omega)
  have ej : ∀ t, t < nn A → jo B t = jo A t := fun t ht => by unfold jo; rw [row t 0 ht (by omega)]
  have ejn : jo B (nn A) = nwN A := by unfold jo; rw [o0, e144, nI_clamp (by omega)]
  have emc : ∀ t, t < nn A → mc B t = mc A t := fun t ht => by unfold mc; rw [row t 4 ht (by omega)]
  have emcn : mc B (nn A) = 0 := by unfold mc; rw [ow 4 (by omega) (by omega)]; rfl
  have emm : ∀ t i, t < nn A → i < 12 → mvm B t i = mvm A t i := fun t i ht hi => by unfold mvm; rw [row t (5 + i) ht (by omega)]
  have emt : ∀ t i, t < nn A → i < 12 → mvt B t i = mvt A t i := fun t i ht hi => by unfold mvt; rw [row t (17 + i) ht (by omega)]
  have enj : ∀ t, t < nn A → nj B t = nj A t := fun t ht => by unfold nj; rw [row t 29 ht (by omega)]
  have enjn : nj B (nn A) = 0 := by unfold nj; rw [ow 29 (by omega) (by omega)]; rfl
  have ek : nk B = nk A := by unfold nk; rw [oo 146 (by omega) (by omega)]
  have eq : ∀ i, nq B i = nq A i := fun i => by unfold nq; rw [hi _ (by omega)]
  have ewh : ∀ i l, whS B i l = whS A i l := fun i l => by unfold whS; rw [hi _ (by omega)]
  have esp : ∀ t, t < nn A → ∀ m, spS B t m = spS A t m := by
    intro t ht m
    have hm := (v5 t ht).1
    unfold spS
    rw [emc t ht, row t 2 ht (by omega), itf_congr (g' := spG A t m) (mc A t) 0 _ (fun k q _ hk => ?_)]
    unfold spG
    rw [row t (5 + k) ht (by omega), row t (17 + k) ht (by omega)]
  have prn : ∀ m, pr B m (nn A) = some s := fun m => by
    unfold pr spS
    rw [emcn, o2]
    show prO (nI s) = some s
    unfold prO
    rw [if_neg (nI_m1 (by omega)), nI_clamp (by omega)]
  refine ⟨⟨?_, fun t ht => ?_, ?_, VP_to (fun j h1 h2 => oo j (by omega) (by omega)) v4, fun t ht => ?_, fun m hm t ht => ?_, fun t ht => ?_, fun i hi' => ?_, ?_⟩, ?_, ?_, ?_, fun t ht => ?_, ⟨fun t ht => ?_, fun t g1 g2 => ?_⟩, ?_⟩
  · unfold VN
    rw [en, ew, o5, oo 144 (by omega) (by omega)]
    exact ⟨by omega, by omega, rfl, h99, e144⟩
  · rw [en] at ht
    by_cases e : t = nn A
    · subst e
      unfold VC
      rw [ejn, ew, o0, o1, ow 3 (by omega) (by omega)]
      exact ⟨e144, Nat.le_refl _, Or.inl rfl, ⟨0, by omega, rfl⟩⟩
    · have ht : t < nn A := by omega
      have := v2 t ht
      unfold VC at *
      rw [ej t ht, ew, row t 0 ht (by omega), row t 1 ht (by omega), row t 3 ht (by omega)]
      exact this
  · unfold VS
    rw [ek, oo 146 (by omega) (by omega)]
    refine ⟨v3.1, v3.2.1, fun i hi' => ?_⟩
    obtain ⟨⟨w, mo, to, b1, b2, b3, b4, b5, b6, b7, b8⟩, a2, a3, a4, a5, a6, a7⟩ := v3.2.2 i hi'
    unfold VK
    rw [eq, en, ew, hi (1087 + 41 * i + 0) (by omega), hi (1087 + 41 * i + 1) (by omega), hi (1087 + 41 * i + 2) (by omega), hi (1087 + 41 * i + 3) (by omega), hi (1087 + 41 * i + 4) (by omega), hi (1087 + 41 * i + 5) (by omega)]
    refine ⟨⟨w, mo, to, by omega, b2, b3, b4, by rw [ej w b1]; exact b5, b6, b7, b8⟩, a2, a3, a4, a5, fun l hl' => ?_, fun l l' h1 h2 => by rw [ewh i l, ewh i l']; exact a7 l l' h1 h2⟩
    obtain ⟨w', q1, q2⟩ := a6 l hl'
    exact ⟨w', by omega, by rw [ewh]; exact q2⟩
  · rw [en] at ht
    by_cases e : t = nn A
    · subst e
      unfold VM
      rw [emcn, o2, ow 4 (by omega) (by omega), ejn]
      refine ⟨by omega, rfl, fun q => by omega, fun i hi' => by omega, fun i i' hi' => by omega, Or.inr ⟨s, hs, rfl, ?_⟩⟩
      rw [ej s hs]
      exact (v2 s hs).2.1
    · have ht : t < nn A := by omega
      obtain ⟨a1, a2, a3, a4, a5, a6⟩ := v5 t ht
      unfold VM
      rw [emc t ht, en, ej t ht, ew, row t 4 ht (by omega), row t 2 ht (by omega)]
      refine ⟨a1, a2, a3, fun i hi' => ?_, fun i i' hi' hi'' => ?_, ?_⟩
      · obtain ⟨q1, q2, q3, q4, q5, q6, q7, q8⟩ := a4 i hi'
        rw [row t (5 + i) ht (by omega), row t (17 + i) ht (by omega), emm t i ht (by omega), emt t i ht (by omega), ej _ q5]
        exact ⟨q1, q2, q3, q4, by omega, q6, q7, q8⟩
      · rw [emm t i ht (by omega), emm t i' ht (by omega)]
        exact a5 i i' hi' hi''
      · rcases a6 with q | ⟨p, p1, p2, p3⟩
        · exact Or.inl q
        · exact Or.inr ⟨p, p1, p2, by rw [ej p (by omega)]; exact p3⟩
  · rw [en] at ht ⊢
    have low : ∀ k t, t < nn A → upk (pr B m) k t = upk (pr A m) k t := fun k t ht => upk_congr (P := pr A m) (n := nn A) (fun t ht => by unfold pr; rw [esp t ht]) (fun t p ht hp => pr_lt v1 v5 (by omega) t p ht hp) k t ht
    by_cases e : t = nn A
    · subst e
      obtain ⟨k, hk, ek'⟩ := v6 m hm s hs
      refine ⟨k + 1, by omega, ?_⟩
      show (pr B m (nn A)).bind (upk (pr B m) k) = none
      rw [prn]
      show upk (pr B m) k s = none
      rw [low k s hs]
      exact ek'
    · have ht : t < nn A := by omega
      obtain ⟨k, hk, ek'⟩ := v6 m hm t ht
      exact ⟨k, by omega, by rw [low k t ht]; exact ek'⟩
  · rw [en] at ht
    by_cases e : t = nn A
    · subst e
      rw [enjn, ow 29 (by omega) (by omega)]
      exact ⟨by omega, rfl⟩
    · have ht : t < nn A := by omega
      rw [enj t ht, row t 29 ht (by omega)]
      exact v7 t ht
  · rw [ek] at hi'
    obtain ⟨p, p1, p2⟩ := v8 i hi'
    rw [eq]
    exact ⟨p, fun l hl' => by rw [hi _ (by omega)]; exact p1 l hl', p2⟩
  · unfold VA nt at *
    rw [oo 0 (by omega) (by omega)]
    exact v9
  · refine ⟨by rw [o5]; exact h12, by rw [hc 0 (by omega) (by omega) (by omega) (by omega) (by omega) (by omega) (by omega), oo 144 (by omega) (by omega)]; exact r1.2.1, fun t ht => ?_⟩
    rw [en] at ht
    rw [h13, h14, h15, h16, h19]
    by_cases e : t = nn A
    · subst e
      rw [upd_s, upd_s, upd_s, upd_s, upd_s, o0, o1, o2, ow 3 (by omega) (by omega), ow 4 (by omega) (by omega)]
      exact ⟨rfl, rfl, rfl, rfl, rfl⟩
    · have ht : t < nn A := by omega
      rw [upd_o e, upd_o e, upd_o e, upd_o e, upd_o e, row t 0 ht (by omega), row t 1 ht (by omega), row t 2 ht (by omega), row t 3 ht (by omega), row t 4 ht (by omega)]
      exact r1.2.2 t ht
  · unfold RCs at *
    rw [ek, oo 146 (by omega) (by omega), hc 20 (by omega) (by omega) (by omega) (by omega) (by omega) (by omega) (by omega), hc 26 (by omega) (by omega) (by omega) (by omega) (by omega) (by omega) (by omega), hc 27 (by omega) (by omega) (by omega) (by omega) (by omega) (by omega) (by omega)]
    refine ⟨r2.1, fun i hi' => ⟨fun f hf => ?_, ?_, fun l hl' f hf => ?_⟩⟩
    · rw [hc (21 + f) (by omega) (by omega) (by omega) (by omega) (by omega) (by omega) (by omega), hi _ (by omega)]
      exact (r2.2 i hi').1 f hf
    · rw [hi _ (by omega)]
      exact (r2.2 i hi').2.1
    · rw [eq] at hl'
      rw [hi _ (by omega)]
      exact (r2.2 i hi').2.2 l hl' f hf
  · refine RCp_to (fun j h1 h2 => oo j (by omega) (by omega)) v4 ?_
    unfold RCp at *
    rw [hc 3 (by omega) (by omega) (by omega) (by omega) (by omega) (by omega) (by omega), hc 4 (by omega) (by omega) (by omega) (by omega) (by omega) (by omega) (by omega), hc 5 (by omega) (by omega) (by omega) (by omega) (by omega) (by omega) (by omega), hc 6 (by omega) (by omega) (by omega) (by omega) (by omega) (by omega) (by omega), hc 7 (by omega) (by omega) (by omega) (by omega) (by omega) (by omega) (by omega), hc 8 (by omega) (by omega) (by omega) (by omega) (by omega) (by omega) (by omega), hc 9 (by omega) (by omega) (by omega) (by omega) (by omega) (by omega) (by omega), hc 10 (by omega) (by omega) (by omega) (by omega) (by omega) (by omega) (by omega)]
    exact r3
  · rw [en] at ht
    rw [hc 17 (by omega) (by omega) (by omega) (by omega) (by omega) (by omega) (by omega), hc 18 (by omega) (by omega) (by omega) (by omega) (by omega) (by omega) (by omega)]
    by_cases e : t = nn A
    · subst e
      rw [emcn]
      exact ⟨fun i hi' => by omega, fun i hi' => by omega, fun i i' h1 h2 => by omega⟩
    · have ht : t < nn A := by omega
      have h12' := (v5 t ht).1
      obtain ⟨b1, b2, b3⟩ := r4 t ht
      rw [emc t ht]
      refine ⟨fun i hi' => ?_, fun j hj => ?_, b3⟩
      · obtain ⟨j, j1, j2, j3⟩ := b1 i hi'
        exact ⟨j, j1, by rw [row t (5 + j) ht (by omega)]; exact j2, by rw [row t (17 + j) ht (by omega)]; exact j3⟩
      · obtain ⟨i, j1, j2, j3⟩ := b2 j hj
        exact ⟨i, j1, by rw [row t (5 + j) ht (by omega)]; exact j2, by rw [row t (17 + j) ht (by omega)]; exact j3⟩
  · rw [en] at ht
    rw [hc 29 (by omega) (by omega) (by omega) (by omega) (by omega) (by omega) (by omega), hc 30 (by omega) (by omega) (by omega) (by omega) (by omega) (by omega) (by omega), hc 31 (by omega) (by omega) (by omega) (by omega) (by omega) (by omega) (by omega)]
    by_cases e : t = nn A
    · subst e
      rw [enjn, ow 29 (by omega) (by omega)]
      obtain ⟨z1, z2⟩ := r5.2 (nn A) (Nat.le_refl _) hn
      exact ⟨z1, 0, by omega, z2, fun _ => rfl, fun i hi' => by omega⟩
    · have ht : t < nn A := by omega
      obtain ⟨q1, x, q2, q3, q4, q5⟩ := r5.1 t ht
      have h16' := (v7 t ht).1
      rw [enj t ht, row t 29 ht (by omega)]
      refine ⟨q1, x, q2, q3, q4, fun i hi' v hv => ?_⟩
      rw [row t (30 + 4 * i + v) ht (by omega)]
      exact q5 i hi' v hv
  · rw [en] at g1
    rw [hc 29 (by omega) (by omega) (by omega) (by omega) (by omega) (by omega) (by omega), hc 30 (by omega) (by omega) (by omega) (by omega) (by omega) (by omega) (by omega)]
    exact r5.2 t (by omega) g2
  · unfold RCa nt at *
    rw [hc 1 (by omega) (by omega) (by omega) (by omega) (by omega) (by omega) (by omega), hc 2 (by omega) (by omega) (by omega) (by omega) (by omega) (by omega) (by omega), hc 0 (by omega) (by omega) (by omega) (by omega) (by omega) (by omega) (by omega), oo 0 (by omega) (by omega), oo 1 (by omega) (by omega), oo 2 (by omega) (by omega)]
    exact r6
theorem op_join {h : Z_H} (I : Inv h) {x : Int32} : ∃ r h1 h2, f_X9_join h 0 x = some (r, h1) ∧ f_X10_join h1 61 x = some (r, h2) ∧ Inv h2 := by
  have H := I.1
  have C := I.ca
  have hv := I.v
  have R := I.2.1
  have h14 := I.2.2.1
  generalize eA : z_i h 62 = A at *
  generalize eT : z_i h 63 = T at *
  have hN := hv.1
  have h10 := hN.2.1
  obtain ⟨en, h99⟩ := C.now
  obtain ⟨ec, -⟩ := C.n
  have e144 : A 144 = nI (nwN A) := hN.2.2.2.2
  have H1 : LY (z_si h 61 0 0) := H
  have e1 : z_i (z_si h 61 0 0) 62 = A := by rw [m62, eA]
  have hN1 : VN (z_i (z_si h 61 0 0) 62) := by rw [e1]; exact hN
  rcases nI_or (x := x) (n := nn A) (by omega) with ⟨s, hs, rfl⟩ | ⟨-, hx⟩
  · have wt := c_works_t C hs
    have it := e_isS_t (h := z_si h 61 0 0) (s := s) H1 hN1 (by rw [e1]; exact hs)
    have hq := e_hasQuit (h := z_si h 61 0 0) (s := s) H1 (by omega)
    rw [e1] at hq
    have a145 : ∀ g : Z_H, LY g → z_i g 62 = A → aI g 62 145 = some (nI (nn A)) := fun g G e => by
      have := yA62 (k := 145) G (by omega)
      rw [e, hN.2.2.1] at this
      exact this
    by_cases q : A (147 + 94 * s + 1) = -1
    · rw [if_pos q] at wt hq
      by_cases hn : nn A < 10
      · let g := adm h (nn A) (nI s) (nI (nwN A))
        have G : LY g := H
        obtain ⟨a1, a2, a3, a4, a5, a6, a7⟩ := adm_cl (h := h) (n := nn A) (sp := nI s) (mo := nI (nwN A))
        have g62 : z_i g 62 = A := (a7 62 (by omega) (by omega) (by omega) (by omega) (by omega) (by omega)).trans eA
        let k0 := z_si g 61 0 0
        have K0 : LY k0 := G
        have x0 : z_i k0 62 = A := (z_si_o (by omega)).trans g62
        obtain ⟨k, j1, j2, j3⟩ := e_joins (h := k0) (n := nn A) (sp := nI s) K0 hn (by rw [x0]; exact hN.2.2.1)
        rw [x0] at j3
        have K := j2.ly K0
        have oo : ∀ a, a ≠ 61 → a ≠ 62 → z_i k a = z_i g a := fun a h1 h2 => by
          rw [j2.2.2.2 a h2 h2]
          exact z_si_o h1
        refine ⟨nI (nn A), g, k, ?_, ?_, I.of ⟨j2.1, j2.2.1, j2.2.2.1, fun a ha => ?_, fun j hj => ?_, fun j _ => ?_, ?_⟩ ?_ ?_⟩
        · unfold f_X9_join
          refine gdE (yg0 H) ?_
          refine bnd (yR0_0 H) ?_
          refine bnd (yR1_2 H) ?_
          refine bnd wt ?_
          refine (if_neg (show ¬ (1 : Int32) = 0 by decide)).trans ?_
          refine bnd ((yI13 H 0).trans (congrArg some ec)) ?_
          refine (if_pos (show nI (nn A) < (10 : Int32) from nI_lt (b := 10) hn (by omega))).trans ?_
          refine bnd (yR0_0 H) ?_
          refine bnd ((yI1 H 8).trans (congrArg some en)) ?_
          refine bd2E (c_admit H hn ec) ?_
          rfl
        · have it8 := e_isS_t (h := k0) (s := s) K0 (by rw [x0]; exact hN) (by rw [x0]; exact hs)
          have hq8 := e_hasQuit (h := k0) (s := s) K0 (by omega)
          rw [x0, if_pos q] at hq8
          have b145 : aI k 62 145 = some (nI (nn A + 1)) := by
            have := yA62 (k := 145) K (by omega)
            rw [j3, jnR_5] at this
            exact this
          unfold f_X10_join
          refine gdE (yg61 G) ?_
          refine bnd (yP61 G 0 0) ?_
          refine bnd it8 ?_
          refine (if_neg (show ¬ (1 : Int32) = 0 by decide)).trans ?_
          refine bnd hq8 ?_
          refine (if_pos rfl).trans ?_
          refine bnd (yR61_1 K0) ?_
          refine bnd (a145 k0 K0 x0) ?_
          refine (if_neg (show ¬ nI (nn A) = (10 : Int32) from fun e => by
            have := (nI_eq (a := nn A) (b := 10) (by omega) (by omega)).mp e
            omega)).trans ?_
          refine bnd j1 ?_
          refine bnd (yR61_1 K) ?_
          refine bnd b145 ?_
          rw [nI_p1]
        · rw [oo a (by omega) (by omega)]
          exact a7 a (by omega) (by omega) (by omega) (by omega) (by omega) (by omega)
        · rw [j3, jnR_o (by omega) (by omega), eA]
        · rw [oo 63 (by omega) (by omega)]
          exact congrFun (a7 63 (by omega) (by omega) (by omega) (by omega) (by omega) (by omega)) j
        · rw [oo 71 (by omega) (by omega)]
          exact a7 71 (by omega) (by omega) (by omega) (by omega) (by omega) (by omega)
        · have t63 : z_i k 63 = T := by
            rw [oo 63 (by omega) (by omega)]
            exact (a7 63 (by omega) (by omega) (by omega) (by omega) (by omega) (by omega)).trans eT
          rw [j3, t63]
          have ko : ∀ o, o < 32 → cl k o = cl g o := fun o ho => oo (1 + o) (by omega) (by omega)
          refine RS_join R hn hs (fun o h1 h2 h3 h4 h5 h6 h7 => ?_) ?_ ?_ ?_ ?_ ?_ ?_
          · rw [ko o h1]
            exact a7 (1 + o) (by omega) (by omega) (by omega) (by omega) (by omega) (by omega)
          · rw [ko 12 (by omega)]; exact a1
          · rw [ko 13 (by omega), e144]; exact a2
          · rw [ko 14 (by omega)]; exact a3
          · rw [ko 15 (by omega)]; exact a4
          · rw [ko 16 (by omega)]; exact a5
          · rw [ko 19 (by omega)]; exact a6
        · rw [j2.2.2.2 61 (by omega) (by omega)]
          show z_i (z_si g 61 0 0) 61 14 = -1
          rw [zi_si, if_pos rfl, if_neg (by omega), a7 61 (by omega) (by omega) (by omega) (by omega) (by omega) (by omega)]
          exact h14
      · have hn10 : nn A = 10 := by omega
        refine ⟨-1, h, z_si h 61 0 0, ?_, ?_, I.m⟩
        · unfold f_X9_join
          refine gdE (yg0 H) ?_
          refine bnd (yR0_0 H) ?_
          refine bnd (yR1_2 H) ?_
          refine bnd wt ?_
          refine (if_neg (show ¬ (1 : Int32) = 0 by decide)).trans ?_
          refine bnd ((yI13 H 0).trans (congrArg some ec)) ?_
          exact if_neg (show ¬ nI (nn A) < (10 : Int32) by rw [hn10]; decide)
        · unfold f_X10_join
          refine gdE (yg61 H) ?_
          refine bnd (yP61 H 0 0) ?_
          refine bnd it ?_
          refine (if_neg (show ¬ (1 : Int32) = 0 by decide)).trans ?_
          refine bnd hq ?_
          refine (if_pos rfl).trans ?_
          refine bnd (yR61_1 H1) ?_
          refine bnd (a145 _ H1 e1) ?_
          exact if_pos (show nI (nn A) = (10 : Int32) by rw [hn10]; rfl)
    · rw [if_neg q] at wt hq
      refine ⟨-1, h, z_si h 61 0 0, ?_, ?_, I.m⟩
      · unfold f_X9_join
        refine gdE (yg0 H) ?_
        refine bnd (yR0_0 H) ?_
        refine bnd (yR1_2 H) ?_
        refine bnd wt ?_
        exact if_pos rfl
      · unfold f_X10_join
        refine gdE (yg61 H) ?_
        refine bnd (yP61 H 0 0) ?_
        refine bnd it ?_
        refine (if_neg (show ¬ (1 : Int32) = 0 by decide)).trans ?_
        refine bnd hq ?_
        exact if_neg (show ¬ (1 : Int32) = 0 by decide)
  · refine ⟨-1, h, z_si h 61 0 0, ?_, ?_, I.m⟩
    · unfold f_X9_join
      refine gdE (yg0 H) ?_
      refine bnd (yR0_0 H) ?_
      refine bnd (yR1_2 H) ?_
      refine bnd (c_works_f C hx) ?_
      exact if_pos rfl
    · unfold f_X10_join
      refine gdE (yg61 H) ?_
      refine bnd (yP61 H 0 0) ?_
      refine bnd (e_isS_f (h := z_si h 61 0 0) H1 hN1 (by rw [e1]; exact hx)) ?_
      exact if_pos rfl
