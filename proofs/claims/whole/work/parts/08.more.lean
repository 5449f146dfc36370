def z_f0 (c : Nat) : List Value := (List.range (Z_N c)).map fun j => z_fv (Z_ty c j) 0 0 none
theorem z_fs_new {rho : Nat → Nat} {h : Z_H} {t n c : Nat} : z_fs rho (z_new h t n) (z_n h) c = z_f0 c := by
  obtain ⟨y1, y2, y3⟩ := z_new_at (h := h) (t := t) (n := n)
  have y4 : ∀ j, z_r (z_new h t n) (z_n h) j = none := fun j => by unfold z_r; rw [y1]
  unfold z_fs z_f0
  simp only [y2, y3, y4]
  rfl
theorem z_newO {G : Z_G} {I : Z_M} {E : Type} {pc : Nat} {la : List (Option Value)} {h : Z_H} {k : E → Option (Int32 × Z_H)} {rest : List Value} {c N idx : Nat} {C : String} {T : u_T} {f : Nat × Z_H → Option E} (hc : z_cls c C T N) (hdg : decode I.2.1 pc = .ok (.new idx, 3)) (hl : Cond.classLink I.2.2.2.2.1 idx C ∈ Z_W) (hi1 : Cond.instantiable C N ∈ Z_W) (hi2 : Cond.initialized C ∈ Z_W) (hdv : ∀ j, j < N → z_fv (Z_ty c j) 0 0 none = defaultValue (Z_ty c j)) (kk : ∀ a h1, Z_S G I (pc + 3) la (.ref a :: rest) h1 (f (a, h1)) k) : Z_S G I pc la rest h (lt (nO h c N) f) k := by
  intro rF hF ee
  obtain ⟨hm, w⟩ := kk (z_n h) (z_new h (4 + c) N) rF hF ee
  have hn1 : z_n (z_new h (4 + c) N) = z_n h + 1 := rfl
  have ht1 : z_t (z_new h (4 + c) N) = z_t h + N := rfl
  refine ⟨⟨by omega, by omega⟩, ?_⟩
  intro p e Rm s m args below meth c0 A Q n0 t0 rho0 cid0 H locs cells slots rho cid Ls Cx D
  obtain ⟨hx, hb, hml, hown, hts, hr, hlk, hin, hA, hfr, hlo, hce, hsl, hE, hsc, hret⟩ := id Cx
  obtain ⟨d1, d2, d3, d4, d5, d6, d7, d8, d9, d10, d11⟩ := id D
  obtain ⟨c1, c2, c3, c4, c5⟩ := hc
  refine va_new (ci := c) (fs := z_f0 c) (D := (G.2.1, G.2.2.1)) (cl := Z_cl) (tys := []) (ws := z_w rho cid h) hx hb hts c2 (Z_ty c) c4 hown (hts _ hl) (hts _ hi1) (hts _ hi2) d7.1 d5 d6 d8 hA c1 (fun j hj => ?_) (by omega) (by omega) hdg (fun q H1 hP hD hS => ?_)
  · rw [← hdv j hj]
    show _ = (z_f0 c).getD j .null
    unfold z_f0
    rw [List.getD_eq_getElem?_getD, List.getElem?_map, List.getElem?_range (by omega)]
    rfl
  have ee : z_e (va_up rho (z_n h + 1) q) (va_up cid (z_n h) (cid 0)) (z_new h (4 + c) N) (z_n h) = .inr (c, z_f0 c) := by
    obtain ⟨y1, y2, y3⟩ := z_new_at (h := h) (t := 4 + c) (n := N)
    have k1 : z_k (z_new h (4 + c) N) (z_n h) = 4 + c := by unfold z_k; rw [y1]
    rw [z_e_obj k1, z_fs_new]
  have ew := z_w_new (rho := rho) (cid := cid) (t := 4 + c) (n := N) (q := q) (cA := cid 0) d1
  rw [ee] at ew
  rw [← ew] at hP hD
  have g := z_up_agr (z_n h) q rho cid (cid 0)
  have key := w p e Rm s m args below meth c0 A Q n0 t0 rho0 cid0 H1 locs (cells + 1) (slots + N) (va_up rho (z_n h + 1) q) (va_up cid (z_n h) (cid 0)) Ls Cx ⟨z_ok_new d1, z_sk_cons.mpr ⟨by show z_n h < _; omega, d2.mono (by omega)⟩, d3.mono (by omega), g.lo d3 d4, hP, hD, z_K_new d7 (fun q => absurd q (by omega)), hS, by omega, by omega, g.tr (by omega) d11⟩
  rw [List.map_cons, g.map d2] at key
  have e9 : z_rn (va_up rho (z_n h + 1) q) (.ref (z_n h)) = .ref q := by
    show Value.ref (va_up rho (z_n h + 1) q (z_n h + 1)) = _
    unfold va_up
    rw [if_pos rfl]
  rw [e9] at key
  exact key
theorem z_newR {G : Z_G} {I : Z_M} {E : Type} {pc : Nat} {la : List (Option Value)} {h : Z_H} {k : E → Option (Int32 × Z_H)} {rest : List Value} {n : Int32} {idx : Nat} {f : Nat × Z_H → Option E} (hdg : decode I.2.1 pc = .ok (.anewarray idx, 3)) (hl : Cond.classLink I.2.2.2.2.1 idx RX7 ∈ Z_W) (hao : ∀ A s, G.2.2.2.1 A s → va_AO RX7 s) (kk : ∀ a h1, Z_S G I (pc + 3) la (.ref a :: rest) h1 (f (a, h1)) k) : Z_S G I pc la (.int n :: rest) h ((nA h 3 n).bind f) k := by
  intro rF hF ee
  by_cases hi : (decide (0 ≤ n) && decide (n.toNatClampNeg ≤ 100000)) = true
  · rw [nA, if_pos hi] at ee
    obtain ⟨hm, w⟩ := kk _ _ rF hF ee
    have hn1 : z_n (z_new h 3 n.toNatClampNeg) = z_n h + 1 := rfl
    have ht1 : z_t (z_new h 3 n.toNatClampNeg) = z_t h + n.toNatClampNeg := rfl
    refine ⟨⟨by omega, by omega⟩, ?_⟩
    intro p e Rm s m args below meth c0 A Q n0 t0 rho0 cid0 H locs cells slots rho cid Ls Cx D
    obtain ⟨hx, hb, hml, hown, hts, hr, hlk, hin, hA, hfr, hlo, hce, hsl, hE, hsc, hret⟩ := id Cx
    have hj : 0 ≤ n ∧ n.toNatClampNeg ≤ 100000 := by simpa using hi
    obtain ⟨d1, d2, d3, d4, d5, d6, d7, d8, d9, d10, d11⟩ := id D
    refine va_newq (C := RX7) (D := (G.2.1, G.2.2.1)) (cl := Z_cl) (tys := []) (ws := z_w rho cid h) hx hb hown (hts _ hl) (hao A s hE) d7.1 d5 d6 d8 hA (Int32.not_lt.mpr hj.1) rfl (by omega) (by omega) (by omega) hdg (fun q cA H1 hK hP hD hS => ?_)
    have hk : ArrOfT s cA (.object RX7) ∧ va_RA s cA (.object RX7) := hK.2 0 (cA, .object RX7) rfl
    have ee : z_e (va_up rho (z_n h + 1) q) (va_up cid (z_n h) cA) (z_new h 3 n.toNatClampNeg) (z_n h) = .inl (cA, n.toNatClampNeg, .inr (.inr (.inr (.inr (fun _ => none))))) := by
      obtain ⟨y1, y2, y3⟩ := z_new_at (h := h) (t := 3) (n := n.toNatClampNeg)
      have k1 : z_k (z_new h 3 n.toNatClampNeg) (z_n h) = 3 := by unfold z_k; rw [y1]
      have k2 : z_len (z_new h 3 n.toNatClampNeg) (z_n h) = n.toNatClampNeg := by unfold z_len; rw [y1]
      have k3 : va_up cid (z_n h) cA (z_n h) = cA := by unfold va_up; rw [if_pos rfl]
      have k4 : ∀ j, z_r (z_new h 3 n.toNatClampNeg) (z_n h) j = none := fun j => by unfold z_r; rw [y1]
      rw [z_e_ref k1, k2, k3]
      simp only [k4]
      rfl
    have ew := z_w_new (rho := rho) (cid := cid) (t := 3) (n := n.toNatClampNeg) (q := q) (cA := cA) d1
    rw [ee] at ew
    rw [← ew] at hP hD
    have g := z_up_agr (z_n h) q rho cid cA
    have key := w p e Rm s m args below meth c0 A Q n0 t0 rho0 cid0 H1 locs (cells + 1) (slots + n.toNatClampNeg) (va_up rho (z_n h + 1) q) (va_up cid (z_n h) cA) Ls Cx ⟨z_ok_new d1, z_sk_cons.mpr ⟨by show z_n h < _; omega, (z_d1 d2).mono (by omega)⟩, d3.mono (by omega), g.lo d3 d4, hP, hD, z_K_new d7 (fun _ => hk), hS, by omega, by omega, g.tr (by omega) d11⟩
    rw [List.map_cons, g.map (z_d1 d2)] at key
    have e9 : z_rn (va_up rho (z_n h + 1) q) (.ref (z_n h)) = .ref q := by
      show Value.ref (va_up rho (z_n h + 1) q (z_n h + 1)) = _
      unfold va_up
      rw [if_pos rfl]
    rw [e9] at key
    exact key
  · rw [nA, if_neg hi] at ee
    cases ee
theorem z_cat {rho : Nat → Nat} {st : List Value} : ((st.map (z_rn rho)).map fun v => v.category) = st.map fun v => v.category := by
  rw [List.map_map]
  exact List.map_congr_left fun v _ => z_rn_cat rho v
theorem z_objInit {G : Z_G} {I : Z_M} {E : Type} {pc : Nat} {la : List (Option Value)} {h : Z_H} {k : E → Option (Int32 × Z_H)} {rest : List Value} {R : Option E} {a idx : Nat} (hdg : decode I.2.1 pc = .ok (.invokespecial idx, 3)) (w1 : Cond.methodLink I.2.2.2.2.1 idx Lib.objectInit ∈ Z_W) (w2 : Cond.instanceMethod Lib.objectInit ∈ Z_W) (w3 : Cond.code Lib.objectInit ⟨#[0xb1]⟩ 1 none ∈ Z_W) (hr1 : 1 ≤ I.2.2.2.2.2.1) (hr2 : (rest.map fun v => v.category).sum + 12 ≤ I.2.2.2.2.2.2) (kk : Z_S G I (pc + 3) la rest h R k) : Z_S G I pc la (.ref a :: rest) h R k := by
  refine z_next kk (fun _ e => e) (fun rF hF w => ?_)
  intro p e Rm s m args below meth c0 A Q n0 t0 rho0 cid0 H locs cells slots rho cid Ls Cx D
  obtain ⟨hx, hb, hml, hown, hts, hr, hlk, hin, hA, hfr, hlo, hce, hsl, hE, hsc, hret⟩ := id Cx
  refine W.objInit hx hb hown (hts _ w1) (hts _ w2) (hts _ w3) rfl (by rw [hml]; exact D.2.2.2.1.1) (a := rho (a + 1)) (rest := rest.map (z_rn rho)) rfl hdg (by omega) ?_ ?_
  · rw [z_cat]
    show 2 * 0 + _ + 12 ≤ _
    omega
  · exact w p e Rm s m args below meth c0 A Q n0 t0 rho0 cid0 H locs cells slots rho cid Ls Cx (D.st (fun q => z_d1 q))
def sc (L : Nat) (xs : Nat → Int32) (i : Int32) : Option Int32 := if decide (0 ≤ i) && decide (i.toNatClampNeg < L) then some (xs i.toNatClampNeg) else none
theorem z_sld {G : Z_G} {I : Z_M} {E : Type} {pc : Nat} {la : List (Option Value)} {h : Z_H} {k : E → Option (Int32 × Z_H)} {rest : List Value} {x : Nat} {i : Int32} {f : Int32 → Option E} (hdg : decode I.2.1 pc = .ok (.iaload, 1)) (kk : ∀ y, Z_S G I (pc + 1) la (.int y :: rest) h (f y) k) : Z_S G I pc la (.int i :: .retAddr x :: rest) h ((sc G.2.2.2.2.1 G.2.2.2.2.2 i).bind f) k := by
  intro rF hF ee
  by_cases hi : (decide (0 ≤ i) && decide (i.toNatClampNeg < G.2.2.2.2.1)) = true
  · rw [sc, if_pos hi] at ee
    obtain ⟨hm, w⟩ := kk _ rF hF ee
    refine ⟨hm, ?_⟩
    intro p e Rm s m args below meth c0 A Q n0 t0 rho0 cid0 H locs cells slots rho cid Ls Cx D
    obtain ⟨hx, hb, hml, hown, hts, hr, hlk, hin, hA, hfr, hlo, hce, hsl, hE, hsc, hret⟩ := id Cx
    obtain ⟨d1, d2, d3, d4, d5, d6, d7, d8, d9, d10, d11⟩ := id D
    have hj : 0 ≤ i ∧ i.toNatClampNeg < G.2.2.2.2.1 := by simpa using hi
    obtain ⟨s1, s2, s3⟩ := hsc
    rw [← d11.1] at s1 s2 s3
    exact va_sld (b := rho 0) hx hb s1 s2 s3 d8 (z_vin hj.1 hj.2) hdg (w p e Rm s m args below meth c0 A Q n0 t0 rho0 cid0 H locs cells slots rho cid Ls Cx (D.st (fun q => z_pi (z_d1 (z_d1 q)))))
  · rw [sc, if_neg hi] at ee
    cases ee
theorem z_slen {G : Z_G} {I : Z_M} {E : Type} {pc : Nat} {la : List (Option Value)} {h : Z_H} {k : E → Option (Int32 × Z_H)} {rest : List Value} {R : Option E} {x : Nat} (hdg : decode I.2.1 pc = .ok (.arraylength, 1)) (kk : Z_S G I (pc + 1) la (.int (Int32.ofNat G.2.2.2.2.1) :: rest) h R k) : Z_S G I pc la (.retAddr x :: rest) h R k := by
  refine z_next kk (fun _ e => e) (fun rF hF w => ?_)
  intro p e Rm s m args below meth c0 A Q n0 t0 rho0 cid0 H locs cells slots rho cid Ls Cx D
  obtain ⟨hx, hb, hml, hown, hts, hr, hlk, hin, hA, hfr, hlo, hce, hsl, hE, hsc, hret⟩ := id Cx
  obtain ⟨d1, d2, d3, d4, d5, d6, d7, d8, d9, d10, d11⟩ := id D
  obtain ⟨s1, s2, s3⟩ := hsc
  rw [← d11.1] at s1 s2 s3
  exact va_slen (b := rho 0) hx hb s1 s2 s3 d8 hdg (w p e Rm s m args below meth c0 A Q n0 t0 rho0 cid0 H locs cells slots rho cid Ls Cx (D.st (fun q => z_pi (z_d1 q))))
theorem z_fit_spec {f : Nat → Int32} : ∀ (n i : Nat), z_fit f i n = true → ∀ j, j < n → fits .byte (.int (f (i + j))) = true := by
  intro n
  induction n with
  | zero => intro i _ j hj; omega
  | succ n ih =>
    intro i hf j hj
    unfold z_fit at hf
    rw [Bool.and_eq_true] at hf
    cases j with
    | zero => exact hf.1
    | succ j =>
      have := ih (i + 1) hf.2 j (by omega)
      rw [show i + (j + 1) = i + 1 + j by omega]
      exact this
theorem z_row_n {h : Z_H} {a : Nat} {f : Nat → Int32} : z_i (z_row h a f) a = f := by
  show (if a = a then f else _) = f
  rw [if_pos rfl]
theorem z_row_o {h : Z_H} {a b : Nat} {f : Nat → Int32} (e : b ≠ a) : z_i (z_row h a f) b = z_i h b := by
  show (if b = a then f else _) = _
  rw [if_neg e]
  rfl
theorem z_cp {G : Z_G} {I : Z_M} {E : Type} {pc : Nat} {la : List (Option Value)} {h : Z_H} {k : E → Option (Int32 × Z_H)} {rest : List Value} {a b idx : Nat} {i j n : Int32} {f : Z_H → Option E} (hdg : decode I.2.1 pc = .ok (.invokestatic idx, 3)) (w1 : Cond.methodLink I.2.2.2.2.1 idx arraycopyName ∈ Z_W) (w2 : Cond.native arraycopyName ∈ Z_W) (w3 : Cond.static arraycopyName ∈ Z_W) (w4 : Cond.initialized "java/lang/System" ∈ Z_W) (hr1 : 1 ≤ I.2.2.2.2.2.1) (hr2 : (rest.map fun v => v.category).sum + (nativeFrameWords "java/lang/System" "arraycopy" 5 + 11) ≤ I.2.2.2.2.2.2) (kk : ∀ h1, Z_S G I (pc + 3) la rest h1 (f h1) k) : Z_S G I pc la (.int n :: .int j :: .ref b :: .int i :: .ref a :: rest) h ((cp h a i b j n).bind f) k := by
  intro rF hF ee
  unfold cp at ee
  split at ee
  · rename_i hi
    obtain ⟨hm, w⟩ := kk _ rF hF ee
    refine ⟨hm, ?_⟩
    intro p e Rm s m args below meth c0 A Q n0 t0 rho0 cid0 H locs cells slots rho cid Ls Cx D
    obtain ⟨hx, hb, hml, hown, hts, hr, hlk, hin, hA, hfr, hlo, hce, hsl, hE, hsc, hret⟩ := id Cx
    obtain ⟨d1, d2, d3, d4, d5, d6, d7, d8, d9⟩ := id D
    simp only [Bool.and_eq_true, Bool.or_eq_true, decide_eq_true_eq] at hi
    obtain ⟨ha, hbn, hk, hkb, hi0, hj0, hn0, hl1, hl2, hft⟩ := hi
    have hfit : ∀ q, q < n.toNatClampNeg → fits (z_ak (z_k h a)) (.int (z_i h a (i.toNatClampNeg + q))) = true := by
      intro q hq
      rcases hft with e0 | e1
      · rw [e0]; rfl
      · have h01 : z_k h a = 0 ∨ z_k h a = 1 := by omega
        rcases h01 with e0 | e0
        · rw [e0]; rfl
        · rw [e0]; exact z_fit_spec _ _ e1 q hq
    have hprim : refKind (z_ak (z_k h a)) = false := by
      have h01 : z_k h a = 0 ∨ z_k h a = 1 := by omega
      rcases h01 with e0 | e0 <;> (rw [e0]; rfl)
    have hK : va_K (G.2.1, G.2.2.1) Z_cl [(cid a, z_ak (z_k h a)), (cid b, z_ak (z_k h a))] s := (z_K1 d7 ha (by omega) rfl).app (z_K1 d7 hbn (by omega) (by rw [hkb]))
    refine va_copyi (tys := [(cid a, z_ak (z_k h a)), (cid b, z_ak (z_k h a))]) (f := z_i h a) (g := z_i h b) (ty := z_ak (z_k h a)) hx hb (by rw [hml]; exact d4.1.symm) hown (hts _ w1) (hts _ w2) (hts _ w3) (hts _ w4) hK d5 d6 d8 a b 0 1 (by rw [z_w_at ha, z_e_arr (by omega)]) (by rw [z_w_at hbn, z_e_arr (by omega)]) rfl rfl hprim (Int32.not_lt.mpr hi0) (Int32.not_lt.mpr hj0) (Int32.not_lt.mpr hn0) hl1 hl2 hfit (by omega) (by rw [z_cat]; omega) hdg (fun H1 locs1 hP hD hS => ?_)
    have ew : (z_w rho cid h).set b (rho (b + 1), .inl (cid b, z_len h b, .inl (va_cpy (z_i h a) (z_i h b) i.toNatClampNeg j.toNatClampNeg n.toNatClampNeg))) = z_w rho cid (z_row h b (va_cpy (z_i h a) (z_i h b) i.toNatClampNeg j.toNatClampNeg n.toNatClampNeg)) := by
      refine z_w_set rfl hbn ?_ (fun q hq => ?_)
      · rw [z_e_arr (h := z_row h b _) (show z_k h b < 3 by omega), z_row_n]
        rfl
      · exact z_e_same rfl (z_row_o hq) rfl
    rw [ew] at hP hD
    exact w p e Rm s m args below meth c0 A Q n0 t0 rho0 cid0 H1 locs1 cells slots rho cid Ls Cx ⟨d1, z_d1 (z_d1 (z_d1 (z_d1 (z_d1 d2)))), d3, d4, hP, hD, d7, hS, d9⟩
  · cases ee
