def oz {α : Type} (x : Option Nat) (r1 r2 : α) : α := match x with
  | some _ => r1
  | none => r2
theorem z_rn_rf {rho : Nat → Nat} {x : Option Nat} : z_rn rho (va_rf x) = va_rf (x.map fun b => rho (b + 1)) := by
  cases x <;> rfl
theorem z_aldR {G : Z_G} {I : Z_M} {E : Type} {pc : Nat} {la : List (Option Value)} {h : Z_H} {k : E → Option (Int32 × Z_H)} {rest : List Value} {a : Nat} {i : Int32} {f : Option Nat → Option E} (hdg : decode I.2.1 pc = .ok (.aaload, 1)) (kk : ∀ x, Z_S G I (pc + 1) la (va_rf x :: rest) h (f x) k) : Z_S G I pc la (.int i :: .ref a :: rest) h ((aR h a i).bind f) k := by
  intro rF hF ee
  by_cases hi : z_ar h a 3 i = true
  · rw [aR, if_pos hi] at ee
    obtain ⟨hm, w⟩ := kk _ rF hF ee
    refine ⟨hm, ?_⟩
    intro p e Rm s m args below meth c0 A Q n0 t0 rho0 cid0 H locs cells slots rho cid Ls Cx D
    obtain ⟨hx, hb, -⟩ := id Cx
    obtain ⟨ha, hka, h0, h1⟩ := z_ar_spec hi
    obtain ⟨d1, d2, d3, d4, d5, d6, d7, d8⟩ := id D
    refine va_aldq (tys := [(cid a, .object RX7)]) (C := RX7) (f := fun j => (z_r h a j).map fun b => rho (b + 1)) hx hb (z_K1 d7 ha (by omega) (by rw [hka]; rfl)) d5 a 0 (by rw [z_w_at ha, z_e_ref hka]) rfl (z_vin h0 h1) hdg ?_
    have q := w p e Rm s m args below meth c0 A Q n0 t0 rho0 cid0 H locs cells slots rho cid Ls Cx (D.st (fun q => z_sk_cons.mpr ⟨?_, z_d1 (z_d1 q)⟩))
    · rw [List.map_cons, z_rn_rf] at q
      exact q
    · cases hz : z_r h a i.toNatClampNeg with
      | none => exact trivial
      | some b => exact d1 a ha _ b hz
  · rw [aR, if_neg hi] at ee
    cases ee
theorem z_nn {G : Z_G} {I : Z_M} {E : Type} {pc : Nat} {la : List (Option Value)} {h : Z_H} {k : E → Option (Int32 × Z_H)} {rest : List Value} {x : Option Nat} {f : Nat → Option E} (kk : ∀ b, Z_S G I pc la (.ref b :: rest) h (f b) k) : Z_S G I pc la (va_rf x :: rest) h (x.bind f) k := by
  intro rF hF ee
  cases x with
  | none => cases ee
  | some b => exact kk b rF hF ee
theorem z_ifnn {G : Z_G} {I : Z_M} {E : Type} {pc : Nat} {la : List (Option Value)} {h : Z_H} {k : E → Option (Int32 × Z_H)} {rest : List Value} {R1 R2 : Option E} {x : Option Nat} {off : Int} {tgt : Nat} (hdg : decode I.2.1 pc = .ok (.ifnonnull off, 3)) (ht : (pc : Int) + off = (tgt : Int)) (kt : Z_S G I tgt la rest h R1 k) (kf : Z_S G I (pc + 3) la rest h R2 k) : Z_S G I pc la (va_rf x :: rest) h (oz x R1 R2) k := by
  intro rF hF ee
  cases x with
  | none =>
    obtain ⟨hm, w⟩ := kf rF hF ee
    refine ⟨hm, ?_⟩
    intro p e Rm s m args below meth c0 A Q n0 t0 rho0 cid0 H locs cells slots rho cid Ls Cx D
    obtain ⟨hx, hb, -⟩ := id Cx
    exact lv_ifnonnullN hx hb hdg (w p e Rm s m args below meth c0 A Q n0 t0 rho0 cid0 H locs cells slots rho cid Ls Cx (D.st (fun q => z_d1 q)))
  | some b =>
    obtain ⟨hm, w⟩ := kt rF hF ee
    refine ⟨hm, ?_⟩
    intro p e Rm s m args below meth c0 A Q n0 t0 rho0 cid0 H locs cells slots rho cid Ls Cx D
    obtain ⟨hx, hb, -⟩ := id Cx
    exact lv_ifnonnull hx hb hdg ht (w p e Rm s m args below meth c0 A Q n0 t0 rho0 cid0 H locs cells slots rho cid Ls Cx (D.st (fun q => z_d1 q)))
theorem z_astR {G : Z_G} {I : Z_M} {E : Type} {pc : Nat} {la : List (Option Value)} {h : Z_H} {k : E → Option (Int32 × Z_H)} {rest : List Value} {a b : Nat} {i : Int32} {f : Z_H → Option E} (hdg : decode I.2.1 pc = .ok (.aastore, 1)) (kk : ∀ h1, Z_S G I (pc + 1) la rest h1 (f h1) k) : Z_S G I pc la (.ref b :: .int i :: .ref a :: rest) h ((sR h a i b).bind f) k := by
  intro rF hF ee
  by_cases hi : (z_ar h a 3 i && z_is h b 7) = true
  · rw [sR, if_pos hi] at ee
    obtain ⟨hm, w⟩ := kk _ rF hF ee
    refine ⟨hm, ?_⟩
    intro p e Rm s m args below meth c0 A Q n0 t0 rho0 cid0 H locs cells slots rho cid Ls Cx D
    obtain ⟨hx, hb, -⟩ := id Cx
    rw [Bool.and_eq_true] at hi
    obtain ⟨ha, hka, h0, h1⟩ := z_ar_spec hi.1
    obtain ⟨hbn, hkb⟩ := z_is_spec hi.2
    obtain ⟨d1, d2, d3, d4, d5, d6, d7, d8, d9⟩ := id D
    refine va_astq (tys := [(cid a, .object RX7)]) (r := (RX7, TX7, 9)) (vs := z_fs rho h b 7) (f := fun j => (z_r h a j).map fun b => rho (b + 1)) hx hb (z_K1 d7 ha (by omega) (by rw [hka]; rfl)) d5 d6 d8 a 0 b 7 (by rw [z_w_at ha, z_e_ref hka]) rfl (by rw [z_w_at hbn, z_e_obj hkb]) rfl (z_vin h0 h1) hdg (fun H1 locs1 hP hD hS => ?_)
    have ew : (z_w rho cid h).set a (rho (a + 1), .inl (cid a, z_len h a, .inr (.inr (.inr (.inr (va_up (fun j => (z_r h a j).map fun b => rho (b + 1)) i.toNatClampNeg (some (rho (b + 1))))))))) = z_w rho cid (z_sr h a i.toNatClampNeg b) := by
      refine z_w_set rfl ha ?_ (fun q hq => ?_)
      · rw [z_e_ref (by rw [z_sr_k]; exact hka), z_sr_len]
        congr 7
        funext j
        rw [z_sr_r]
        unfold va_up
        split <;> rfl
      · exact z_e_same (z_sr_x hq) rfl rfl
    rw [ew] at hP hD
    exact w p e Rm s m args below meth c0 A Q n0 t0 rho0 cid0 H1 locs1 cells slots rho cid Ls Cx ⟨z_ok_sr d1 hbn, z_d1 (z_d1 (z_d1 d2)), d3, d4, hP, hD, ⟨d7.1, fun q hq hqk => by rw [z_sr_k] at hqk ⊢; exact d7.2 q hq hqk⟩, hS, d9⟩
  · rw [sR, if_neg hi] at ee
    cases ee
theorem z_agr.rn {n : Nat} {rho rho' : Nat → Nat} {cid cid' : Nat → ClassId} (g : z_agr n rho' rho cid' cid) {v : Value} (hv : z_vk n v) : z_rn rho' v = z_rn rho v := by
  cases v with
  | ref i => show Value.ref _ = Value.ref _; rw [(g.2 i hv).1]
  | retAddr i => show Value.ref _ = Value.ref _; rw [g.1]
  | _ => rfl
theorem z_agr.map {n : Nat} {rho rho' : Nat → Nat} {cid cid' : Nat → ClassId} (g : z_agr n rho' rho cid' cid) {st : List Value} (hv : z_sk n st) : st.map (z_rn rho') = st.map (z_rn rho) := List.map_congr_left fun v h => g.rn (hv v h)
theorem z_agr.lo {n nL : Nat} {rho rho' : Nat → Nat} {cid cid' : Nat → ClassId} (g : z_agr n rho' rho cid' cid) {la : List (Option Value)} {Ls : Array Slot} (hk : z_lk n la) (h : z_LO rho nL Ls la) : z_LO rho' nL Ls la := ⟨h.1, h.2.1, fun i v hv => by rw [g.rn (hk i v hv)]; exact h.2.2 i v hv⟩
theorem z_agr.tr {n n0 : Nat} {rho rho' rho0 : Nat → Nat} {cid cid' cid0 : Nat → ClassId} (hn : n0 ≤ n) (g : z_agr n rho' rho cid' cid) (g0 : z_agr n0 rho rho0 cid cid0) : z_agr n0 rho' rho0 cid' cid0 := ⟨g.1.trans g0.1, fun i hi => ⟨(g.2 i (by omega)).1.trans (g0.2 i hi).1, (g.2 i (by omega)).2.trans (g0.2 i hi).2⟩⟩
theorem z_vk.mono {n n' : Nat} (hn : n ≤ n') {v : Value} (h : z_vk n v) : z_vk n' v := by
  cases v with
  | ref i => exact Nat.lt_of_lt_of_le h hn
  | _ => exact trivial
theorem z_sk.mono {n n' : Nat} (hn : n ≤ n') {st : List Value} (h : z_sk n st) : z_sk n' st := fun v hv => (h v hv).mono hn
theorem z_lk.mono {n n' : Nat} (hn : n ≤ n') {la : List (Option Value)} (h : z_lk n la) : z_lk n' la := fun i v hv => (h i v hv).mono hn
theorem z_up_agr (n q : Nat) (rho : Nat → Nat) (cid : Nat → ClassId) (cA : ClassId) : z_agr n (va_up rho (n + 1) q) rho (va_up cid n cA) cid := by
  refine ⟨?_, fun i hi => ⟨?_, ?_⟩⟩
  · unfold va_up; rw [if_neg (by omega)]
  · unfold va_up; rw [if_neg (by omega)]
  · unfold va_up; rw [if_neg (by omega)]
theorem z_new_x {h : Z_H} {t n a : Nat} (ha : a ≠ z_n h) : z_x (z_new h t n) a = z_x h a ∧ z_i (z_new h t n) a = z_i h a ∧ z_l (z_new h t n) a = z_l h a := by
  refine ⟨?_, ?_, ?_⟩
  · show (if a = h.1 then _ else _) = _
    rw [if_neg (show ¬ a = h.1 from ha)]; rfl
  · show (if a = h.1 then _ else _) = _
    rw [if_neg (show ¬ a = h.1 from ha)]; rfl
  · show (if a = h.1 then _ else _) = _
    rw [if_neg (show ¬ a = h.1 from ha)]; rfl
theorem z_new_at {h : Z_H} {t n : Nat} : z_x (z_new h t n) (z_n h) = (t, n, fun _ => none) ∧ z_i (z_new h t n) (z_n h) = (fun _ => 0) ∧ z_l (z_new h t n) (z_n h) = fun _ => 0 := by
  refine ⟨?_, ?_, ?_⟩
  · show (if h.1 = h.1 then _ else _) = _
    rw [if_pos rfl]
  · show (if h.1 = h.1 then _ else _) = _
    rw [if_pos rfl]
  · show (if h.1 = h.1 then _ else _) = _
    rw [if_pos rfl]
theorem z_e_agr {n : Nat} {rho rho' : Nat → Nat} {cid cid' : Nat → ClassId} (g : z_agr n rho' rho cid' cid) {h : Z_H} (hn : z_n h = n) (hok : z_ok h) {a : Nat} (ha : a < n) : z_e rho' cid' h a = z_e rho cid h a := by
  have e1 : ∀ j, ((z_r h a j).map fun b => rho' (b + 1)) = (z_r h a j).map fun b => rho (b + 1) := by
    intro j
    cases hz : z_r h a j with
    | none => rfl
    | some b =>
      have hb := hok a (by omega) j b hz
      show some (rho' (b + 1)) = some (rho (b + 1))
      rw [(g.2 b (by omega)).1]
  have e2 := (g.2 a ha).2
  unfold z_e z_fs
  simp only [e1, e2]
theorem z_w_new {rho : Nat → Nat} {cid : Nat → ClassId} {h : Z_H} {t n q : Nat} {cA : ClassId} (hok : z_ok h) : z_w (va_up rho (z_n h + 1) q) (va_up cid (z_n h) cA) (z_new h t n) = z_w rho cid h ++ [(q, z_e (va_up rho (z_n h + 1) q) (va_up cid (z_n h) cA) (z_new h t n) (z_n h))] := by
  have g := z_up_agr (z_n h) q rho cid cA
  have hn : z_n (z_new h t n) = z_n h + 1 := rfl
  unfold z_w
  rw [hn, List.range_succ, List.map_append]
  congr 1
  · refine List.map_congr_left (fun a ha => ?_)
    have ha := List.mem_range.mp ha
    obtain ⟨x1, x2, x3⟩ := z_new_x (h := h) (t := t) (n := n) (a := a) (by omega)
    rw [(g.2 a ha).1, z_e_same x1 x2 x3, z_e_agr g rfl hok ha]
  · show [(_, _)] = [(_, _)]
    have e : va_up rho (z_n h + 1) q (z_n h + 1) = q := by unfold va_up; rw [if_pos rfl]
    rw [e]
theorem z_ok_new {h : Z_H} {t n : Nat} (hok : z_ok h) : z_ok (z_new h t n) := by
  intro a ha j b hb
  have hn : z_n (z_new h t n) = z_n h + 1 := rfl
  by_cases e : a = z_n h
  · subst e
    have z : z_r (z_new h t n) (z_n h) j = none := by
      unfold z_r
      rw [z_new_at.1]
    rw [z] at hb
    cases hb
  · obtain ⟨x1, -, -⟩ := z_new_x (h := h) (t := t) (n := n) (a := a) e
    have z : z_r (z_new h t n) a j = z_r h a j := by
      unfold z_r
      rw [x1]
    rw [z] at hb
    have := hok a (by omega) j b hb
    omega
theorem z_K_new {G : Z_G} {cid : Nat → ClassId} {h : Z_H} {s : State} {t n : Nat} {cA : ClassId} (hK : z_K G cid h s) (hc : t < 4 → ArrOfT s cA (z_ak t) ∧ va_RA s cA (z_ak t)) : z_K G (va_up cid (z_n h) cA) (z_new h t n) s := by
  refine ⟨hK.1, fun a ha hk => ?_⟩
  have hn : z_n (z_new h t n) = z_n h + 1 := rfl
  by_cases e : a = z_n h
  · subst e
    have z : z_k (z_new h t n) (z_n h) = t := by unfold z_k; rw [z_new_at.1]
    rw [z] at hk ⊢
    have e : va_up cid (z_n h) cA (z_n h) = cA := by unfold va_up; rw [if_pos rfl]
    rw [e]
    exact hc hk
  · obtain ⟨x1, -, -⟩ := z_new_x (h := h) (t := t) (n := n) (a := a) e
    have z : z_k (z_new h t n) a = z_k h a := by unfold z_k; rw [x1]
    have e2 : va_up cid (z_n h) cA a = cid a := by unfold va_up; rw [if_neg e]
    rw [z] at hk ⊢
    rw [e2]
    exact hK.2 a (by omega) hk
theorem z_newaI {G : Z_G} {I : Z_M} {E : Type} {pc : Nat} {la : List (Option Value)} {h : Z_H} {k : E → Option (Int32 × Z_H)} {rest : List Value} {n : Int32} {f : Nat × Z_H → Option E} (hdg : decode I.2.1 pc = .ok (.newarray .int, 2)) (hw : Cond.arrayClass .int ∈ Z_W) (kk : ∀ a h1, Z_S G I (pc + 2) la (.ref a :: rest) h1 (f (a, h1)) k) : Z_S G I pc la (.int n :: rest) h ((nA h 0 n).bind f) k := by
  intro rF hF ee
  by_cases hi : (decide (0 ≤ n) && decide (n.toNatClampNeg ≤ 100000)) = true
  · rw [nA, if_pos hi] at ee
    obtain ⟨hm, w⟩ := kk _ _ rF hF ee
    have hn1 : z_n (z_new h 0 n.toNatClampNeg) = z_n h + 1 := rfl
    have ht1 : z_t (z_new h 0 n.toNatClampNeg) = z_t h + n.toNatClampNeg := rfl
    refine ⟨⟨by omega, by omega⟩, ?_⟩
    intro p e Rm s m args below meth c0 A Q n0 t0 rho0 cid0 H locs cells slots rho cid Ls Cx D
    obtain ⟨hx, hb, hml, hown, hts, hr, hlk, hin, hA, hfr, hlo, hce, hsl, hE, hsc, hret⟩ := id Cx
    have hj : 0 ≤ n ∧ n.toNatClampNeg ≤ 100000 := by simpa using hi
    obtain ⟨d1, d2, d3, d4, d5, d6, d7, d8, d9, d10, d11⟩ := id D
    refine va_newa (atype := .int) (ty := .int) (D := (G.2.1, G.2.2.1)) (cl := Z_cl) (tys := []) (ws := z_w rho cid h) (a0 := (n.toNatClampNeg, .inl (fun _ => 0))) hx hb (hts _ hw) rfl d7.1 d5 d6 d8 hA (fun cA => rfl) (Int32.not_lt.mpr hj.1) rfl (by show n.toNatClampNeg * _ ≤ _; simp only [componentBytes]; omega) (by omega) (by omega) hdg (fun q cA H1 hK hP hD hS => ?_)
    have hk : ArrOfT s cA .int ∧ va_RA s cA .int := hK.2 0 (cA, .int) rfl
    have ee : z_e (va_up rho (z_n h + 1) q) (va_up cid (z_n h) cA) (z_new h 0 n.toNatClampNeg) (z_n h) = .inl (cA, n.toNatClampNeg, .inl (fun _ => 0)) := by
      obtain ⟨y1, y2, y3⟩ := z_new_at (h := h) (t := 0) (n := n.toNatClampNeg)
      have k1 : z_k (z_new h 0 n.toNatClampNeg) (z_n h) = 0 := by unfold z_k; rw [y1]
      have k2 : z_len (z_new h 0 n.toNatClampNeg) (z_n h) = n.toNatClampNeg := by unfold z_len; rw [y1]
      have k3 : va_up cid (z_n h) cA (z_n h) = cA := by unfold va_up; rw [if_pos rfl]
      rw [z_e_arr (by omega), k2, y2, k3]
    have ew := z_w_new (rho := rho) (cid := cid) (t := 0) (n := n.toNatClampNeg) (q := q) (cA := cA) d1
    rw [ee] at ew
    rw [← ew] at hP hD
    have g := z_up_agr (z_n h) q rho cid cA
    have key := w p e Rm s m args below meth c0 A Q n0 t0 rho0 cid0 H1 locs (cells + 1) (slots + n.toNatClampNeg) (va_up rho (z_n h + 1) q) (va_up cid (z_n h) cA) Ls Cx ⟨z_ok_new d1, z_sk_cons.mpr ⟨by show z_n h < _; omega, (z_d1 d2).mono (by omega)⟩, d3.mono (by omega), g.lo d3 d4, hP, hD, z_K_new d7 (fun _ => hk), hS, by omega, by omega, g.tr (by omega) d11⟩
    rw [List.map_cons, g.map (z_d1 d2)] at key
    have e9 : z_rn (va_up rho (z_n h + 1) q) (.ref (z_n h)) = .ref q := by
      show Value.ref (va_up rho (z_n h + 1) q (z_n h + 1)) = _
      unfold va_up
      rw [if_pos rfl]
    rw [e9] at key
    exact key
  · rw [nA, if_neg hi] at ee
    cases ee
theorem z_newaB {G : Z_G} {I : Z_M} {E : Type} {pc : Nat} {la : List (Option Value)} {h : Z_H} {k : E → Option (Int32 × Z_H)} {rest : List Value} {n : Int32} {f : Nat × Z_H → Option E} (hdg : decode I.2.1 pc = .ok (.newarray .byte, 2)) (hw : Cond.arrayClass .byte ∈ Z_W) (kk : ∀ a h1, Z_S G I (pc + 2) la (.ref a :: rest) h1 (f (a, h1)) k) : Z_S G I pc la (.int n :: rest) h ((nA h 1 n).bind f) k := by
  intro rF hF ee
  by_cases hi : (decide (0 ≤ n) && decide (n.toNatClampNeg ≤ 100000)) = true
  · rw [nA, if_pos hi] at ee
    obtain ⟨hm, w⟩ := kk _ _ rF hF ee
    have hn1 : z_n (z_new h 1 n.toNatClampNeg) = z_n h + 1 := rfl
    have ht1 : z_t (z_new h 1 n.toNatClampNeg) = z_t h + n.toNatClampNeg := rfl
    refine ⟨⟨by omega, by omega⟩, ?_⟩
    intro p e Rm s m args below meth c0 A Q n0 t0 rho0 cid0 H locs cells slots rho cid Ls Cx D
    obtain ⟨hx, hb, hml, hown, hts, hr, hlk, hin, hA, hfr, hlo, hce, hsl, hE, hsc, hret⟩ := id Cx
    have hj : 0 ≤ n ∧ n.toNatClampNeg ≤ 100000 := by simpa using hi
    obtain ⟨d1, d2, d3, d4, d5, d6, d7, d8, d9, d10, d11⟩ := id D
    refine va_newa (atype := .byte) (ty := .byte) (D := (G.2.1, G.2.2.1)) (cl := Z_cl) (tys := []) (ws := z_w rho cid h) (a0 := (n.toNatClampNeg, .inl (fun _ => 0))) hx hb (hts _ hw) rfl d7.1 d5 d6 d8 hA (fun cA => rfl) (Int32.not_lt.mpr hj.1) rfl (by show n.toNatClampNeg * _ ≤ _; simp only [componentBytes]; omega) (by omega) (by omega) hdg (fun q cA H1 hK hP hD hS => ?_)
    have hk : ArrOfT s cA .byte ∧ va_RA s cA .byte := hK.2 0 (cA, .byte) rfl
    have ee : z_e (va_up rho (z_n h + 1) q) (va_up cid (z_n h) cA) (z_new h 1 n.toNatClampNeg) (z_n h) = .inl (cA, n.toNatClampNeg, .inl (fun _ => 0)) := by
      obtain ⟨y1, y2, y3⟩ := z_new_at (h := h) (t := 1) (n := n.toNatClampNeg)
      have k1 : z_k (z_new h 1 n.toNatClampNeg) (z_n h) = 1 := by unfold z_k; rw [y1]
      have k2 : z_len (z_new h 1 n.toNatClampNeg) (z_n h) = n.toNatClampNeg := by unfold z_len; rw [y1]
      have k3 : va_up cid (z_n h) cA (z_n h) = cA := by unfold va_up; rw [if_pos rfl]
      rw [z_e_arr (by omega), k2, y2, k3]
    have ew := z_w_new (rho := rho) (cid := cid) (t := 1) (n := n.toNatClampNeg) (q := q) (cA := cA) d1
    rw [ee] at ew
    rw [← ew] at hP hD
    have g := z_up_agr (z_n h) q rho cid cA
    have key := w p e Rm s m args below meth c0 A Q n0 t0 rho0 cid0 H1 locs (cells + 1) (slots + n.toNatClampNeg) (va_up rho (z_n h + 1) q) (va_up cid (z_n h) cA) Ls Cx ⟨z_ok_new d1, z_sk_cons.mpr ⟨by show z_n h < _; omega, (z_d1 d2).mono (by omega)⟩, d3.mono (by omega), g.lo d3 d4, hP, hD, z_K_new d7 (fun _ => hk), hS, by omega, by omega, g.tr (by omega) d11⟩
    rw [List.map_cons, g.map (z_d1 d2)] at key
    have e9 : z_rn (va_up rho (z_n h + 1) q) (.ref (z_n h)) = .ref q := by
      show Value.ref (va_up rho (z_n h + 1) q (z_n h + 1)) = _
      unfold va_up
      rw [if_pos rfl]
    rw [e9] at key
    exact key
  · rw [nA, if_neg hi] at ee
    cases ee
theorem z_newaZ {G : Z_G} {I : Z_M} {E : Type} {pc : Nat} {la : List (Option Value)} {h : Z_H} {k : E → Option (Int32 × Z_H)} {rest : List Value} {n : Int32} {f : Nat × Z_H → Option E} (hdg : decode I.2.1 pc = .ok (.newarray .boolean, 2)) (hw : Cond.arrayClass .boolean ∈ Z_W) (kk : ∀ a h1, Z_S G I (pc + 2) la (.ref a :: rest) h1 (f (a, h1)) k) : Z_S G I pc la (.int n :: rest) h ((nA h 2 n).bind f) k := by
  intro rF hF ee
  by_cases hi : (decide (0 ≤ n) && decide (n.toNatClampNeg ≤ 100000)) = true
  · rw [nA, if_pos hi] at ee
    obtain ⟨hm, w⟩ := kk _ _ rF hF ee
    have hn1 : z_n (z_new h 2 n.toNatClampNeg) = z_n h + 1 := rfl
    have ht1 : z_t (z_new h 2 n.toNatClampNeg) = z_t h + n.toNatClampNeg := rfl
    refine ⟨⟨by omega, by omega⟩, ?_⟩
    intro p e Rm s m args below meth c0 A Q n0 t0 rho0 cid0 H locs cells slots rho cid Ls Cx D
    obtain ⟨hx, hb, hml, hown, hts, hr, hlk, hin, hA, hfr, hlo, hce, hsl, hE, hsc, hret⟩ := id Cx
    have hj : 0 ≤ n ∧ n.toNatClampNeg ≤ 100000 := by simpa using hi
    obtain ⟨d1, d2, d3, d4, d5, d6, d7, d8, d9, d10, d11⟩ := id D
    refine va_newa (atype := .boolean) (ty := .boolean) (D := (G.2.1, G.2.2.1)) (cl := Z_cl) (tys := []) (ws := z_w rho cid h) (a0 := (n.toNatClampNeg, .inl (fun _ => 0))) hx hb (hts _ hw) rfl d7.1 d5 d6 d8 hA (fun cA => rfl) (Int32.not_lt.mpr hj.1) rfl (by show n.toNatClampNeg * _ ≤ _; simp only [componentBytes]; omega) (by omega) (by omega) hdg (fun q cA H1 hK hP hD hS => ?_)
    have hk : ArrOfT s cA .boolean ∧ va_RA s cA .boolean := hK.2 0 (cA, .boolean) rfl
    have ee : z_e (va_up rho (z_n h + 1) q) (va_up cid (z_n h) cA) (z_new h 2 n.toNatClampNeg) (z_n h) = .inl (cA, n.toNatClampNeg, .inl (fun _ => 0)) := by
      obtain ⟨y1, y2, y3⟩ := z_new_at (h := h) (t := 2) (n := n.toNatClampNeg)
      have k1 : z_k (z_new h 2 n.toNatClampNeg) (z_n h) = 2 := by unfold z_k; rw [y1]
      have k2 : z_len (z_new h 2 n.toNatClampNeg) (z_n h) = n.toNatClampNeg := by unfold z_len; rw [y1]
      have k3 : va_up cid (z_n h) cA (z_n h) = cA := by unfold va_up; rw [if_pos rfl]
      rw [z_e_arr (by omega), k2, y2, k3]
    have ew := z_w_new (rho := rho) (cid := cid) (t := 2) (n := n.toNatClampNeg) (q := q) (cA := cA) d1
    rw [ee] at ew
    rw [← ew] at hP hD
    have g := z_up_agr (z_n h) q rho cid cA
    have key := w p e Rm s m args below meth c0 A Q n0 t0 rho0 cid0 H1 locs (cells + 1) (slots + n.toNatClampNeg) (va_up rho (z_n h + 1) q) (va_up cid (z_n h) cA) Ls Cx ⟨z_ok_new d1, z_sk_cons.mpr ⟨by show z_n h < _; omega, (z_d1 d2).mono (by omega)⟩, d3.mono (by omega), g.lo d3 d4, hP, hD, z_K_new d7 (fun _ => hk), hS, by omega, by omega, g.tr (by omega) d11⟩
    rw [List.map_cons, g.map (z_d1 d2)] at key
    have e9 : z_rn (va_up rho (z_n h + 1) q) (.ref (z_n h)) = .ref q := by
      show Value.ref (va_up rho (z_n h + 1) q (z_n h + 1)) = _
      unfold va_up
      rw [if_pos rfl]
    rw [e9] at key
    exact key
  · rw [nA, if_neg hi] at ee
    cases ee
