theorem z_w_at {rho : Nat → Nat} {cid : Nat → ClassId} {h : Z_H} {a : Nat} (ha : a < z_n h) : (z_w rho cid h)[a]? = some (rho (a + 1), z_e rho cid h a) := by
  simp [z_w, List.getElem?_map, List.getElem?_range, ha]
theorem z_w_len {rho : Nat → Nat} {cid : Nat → ClassId} {h : Z_H} : (z_w rho cid h).length = z_n h := by
  simp [z_w]
theorem z_is_spec {h : Z_H} {a c : Nat} (hc : z_is h a c = true) : a < z_n h ∧ z_k h a = 4 + c := by
  simpa [z_is] using hc
theorem z_ar_spec {h : Z_H} {a t : Nat} {i : Int32} (hc : z_ar h a t i = true) : a < z_n h ∧ z_k h a = t ∧ 0 ≤ i ∧ i.toNatClampNeg < z_len h a := by
  simpa [z_ar] using hc
theorem z_vin {i : Int32} {n : Nat} (h1 : 0 ≤ i) (h2 : i.toNatClampNeg < n) : vp_in i n := by
  intro q
  rcases q with q | q
  · exact absurd q (Int32.not_lt.mpr h1)
  · omega
theorem z_e_obj {rho : Nat → Nat} {cid : Nat → ClassId} {h : Z_H} {a c : Nat} (hk : z_k h a = 4 + c) : z_e rho cid h a = .inr (c, z_fs rho h a c) := by
  unfold z_e
  rw [if_neg (by omega), if_neg (by omega)]
  have e : z_k h a - 4 = c := by omega
  rw [e]
theorem z_e_arr {rho : Nat → Nat} {cid : Nat → ClassId} {h : Z_H} {a : Nat} (hk : z_k h a < 3) : z_e rho cid h a = .inl (cid a, z_len h a, .inl (z_i h a)) := by
  unfold z_e
  rw [if_pos hk]
theorem z_e_ref {rho : Nat → Nat} {cid : Nat → ClassId} {h : Z_H} {a : Nat} (hk : z_k h a = 3) : z_e rho cid h a = .inl (cid a, z_len h a, .inr (.inr (.inr (.inr (fun j => (z_r h a j).map fun b => rho (b + 1)))))) := by
  unfold z_e
  rw [if_neg (by omega), if_pos hk]
theorem z_fs_at {rho : Nat → Nat} {h : Z_H} {a c j : Nat} (hj : j < Z_N c) : (z_fs rho h a c)[j]? = some (z_fv (Z_ty c j) (z_i h a j) (z_l h a j) ((z_r h a j).map fun b => rho (b + 1))) := by
  simp [z_fs, List.getElem?_map, List.getElem?_range, hj]
theorem z_fs_len {rho : Nat → Nat} {h : Z_H} {a c : Nat} : (z_fs rho h a c).length = Z_N c := by
  simp [z_fs]
theorem z_fs_set {rho : Nat → Nat} {h h1 : Z_H} {a c j : Nat} {v : Value} (hj : j < Z_N c) (hv : z_fv (Z_ty c j) (z_i h1 a j) (z_l h1 a j) ((z_r h1 a j).map fun b => rho (b + 1)) = v) (ho : ∀ i, i ≠ j → z_i h1 a i = z_i h a i ∧ z_l h1 a i = z_l h a i ∧ z_r h1 a i = z_r h a i) : (z_fs rho h a c).set j v = z_fs rho h1 a c := by
  refine List.ext_getElem? (fun i => ?_)
  rw [List.getElem?_set]
  by_cases e : j = i
  · subst e
    rw [if_pos rfl, if_pos (by rw [z_fs_len]; exact hj), z_fs_at hj, hv]
  · rw [if_neg e]
    by_cases q : i < Z_N c
    · obtain ⟨a1, a2, a3⟩ := ho i (fun z => e z.symm)
      rw [z_fs_at q, z_fs_at q, a1, a2, a3]
    · rw [List.getElem?_eq_none (by rw [z_fs_len]; omega), List.getElem?_eq_none (by rw [z_fs_len]; omega)]
theorem z_w_set {rho : Nat → Nat} {cid : Nat → ClassId} {h h1 : Z_H} {a : Nat} {x : va_E} (hn : z_n h1 = z_n h) (ha : a < z_n h) (he : z_e rho cid h1 a = x) (ho : ∀ b, b ≠ a → z_e rho cid h1 b = z_e rho cid h b) : (z_w rho cid h).set a (rho (a + 1), x) = z_w rho cid h1 := by
  refine List.ext_getElem? (fun i => ?_)
  rw [List.getElem?_set]
  by_cases e : a = i
  · subst e
    rw [if_pos rfl, if_pos (by rw [z_w_len]; exact ha), z_w_at (by omega), he]
  · rw [if_neg e]
    by_cases q : i < z_n h
    · rw [z_w_at q, z_w_at (by omega), ho i (fun z => e z.symm)]
    · rw [List.getElem?_eq_none (by rw [z_w_len]; omega), List.getElem?_eq_none (by rw [z_w_len]; omega)]
theorem z_e_same {rho : Nat → Nat} {cid : Nat → ClassId} {h h1 : Z_H} {b : Nat} (hx : z_x h1 b = z_x h b) (hi : z_i h1 b = z_i h b) (hl : z_l h1 b = z_l h b) : z_e rho cid h1 b = z_e rho cid h b := by
  have e1 : z_k h1 b = z_k h b := by unfold z_k; rw [hx]
  have e2 : z_len h1 b = z_len h b := by unfold z_len; rw [hx]
  have e3 : z_r h1 b = z_r h b := by funext j; unfold z_r; rw [hx]
  unfold z_e z_fs
  rw [e1, e2, e3, hi, hl]
def z_cls (c : Nat) (C : String) (T : u_T) (N : Nat) : Prop := Z_cl[c]? = some (C, T, N) ∧ (∀ w ∈ u_ws C T N, w ∈ Z_W) ∧ Z_N c = N ∧ (∀ k, k < N → parseFieldDescriptor (T k).2.2.1 = some (Z_ty c k)) ∧ ∀ a, a < N → ∀ b, b < N → a ≠ b → (T a).2.1 ≠ (T b).2.1
theorem z_K1 {G : Z_G} {cid : Nat → ClassId} {h : Z_H} {s : State} (hK : z_K G cid h s) {a : Nat} (ha : a < z_n h) {ty : FieldType} (hk : z_k h a < 4) (ht : z_ak (z_k h a) = ty) : va_K (G.2.1, G.2.2.1) Z_cl [(cid a, ty)] s := by
  refine ⟨hK.1.1, fun j q hq => ?_⟩
  cases j with
  | zero =>
    cases hq
    rw [← ht]
    exact hK.2 a ha hk
  | succ j => simp at hq
def z_isr (ty : FieldType) : Bool := match ty with
  | .object _ => true
  | .array _ => true
  | _ => false
theorem z_fv_r {ty : FieldType} {x : Int32} {y : Int64} {r : Option Nat} (h : z_isr ty = true) : z_fv ty x y r = va_rf r := by
  cases ty <;> first | rfl | cases h
theorem z_nar_r {ty : FieldType} {a : Nat} (h : z_isr ty = true) : narrow ty (.ref a) = .ref a ∧ fits ty (.ref a) = true := by
  cases ty <;> first | exact ⟨rfl, rfl⟩ | cases h
theorem z_si_n {h : Z_H} {a j : Nat} {v : Int32} : z_n (z_si h a j v) = z_n h := rfl
theorem z_si_x {h : Z_H} {a j : Nat} {v : Int32} : z_x (z_si h a j v) = z_x h := rfl
theorem z_si_l {h : Z_H} {a j : Nat} {v : Int32} : z_l (z_si h a j v) = z_l h := rfl
theorem z_si_i {h : Z_H} {a j : Nat} {v : Int32} : z_i (z_si h a j v) a = upd (z_i h a) j v := by
  funext i
  show z_up (z_i h) a j v a i = _
  unfold z_up upd
  rw [if_pos rfl]
theorem z_si_o {h : Z_H} {a j b : Nat} {v : Int32} (e : b ≠ a) : z_i (z_si h a j v) b = z_i h b := by
  funext i
  show z_up (z_i h) a j v b i = _
  unfold z_up
  rw [if_neg e]
theorem z_sl_l {h : Z_H} {a j i : Nat} {v : Int64} : z_l (z_sl h a j v) a i = if i = j then v else z_l h a i := by
  show z_up (z_l h) a j v a i = _
  unfold z_up
  rw [if_pos rfl]
theorem z_sl_o {h : Z_H} {a j b : Nat} {v : Int64} (e : b ≠ a) : z_l (z_sl h a j v) b = z_l h b := by
  funext i
  show z_up (z_l h) a j v b i = _
  unfold z_up
  rw [if_neg e]
theorem z_sr_r {h : Z_H} {a j b i : Nat} : z_r (z_sr h a j b) a i = if i = j then some b else z_r h a i := by
  show (z_upx (z_x h) a j b a).2.2 i = _
  unfold z_upx
  rw [if_pos rfl]
  rfl
theorem z_sr_x {h : Z_H} {a j b q : Nat} (e : q ≠ a) : z_x (z_sr h a j b) q = z_x h q := by
  show z_upx (z_x h) a j b q = _
  unfold z_upx
  rw [if_neg e]
theorem z_sr_k {h : Z_H} {a j b q : Nat} : z_k (z_sr h a j b) q = z_k h q := by
  by_cases e : q = a
  · subst e
    show (z_upx (z_x h) q j b q).1 = _
    unfold z_upx
    rw [if_pos rfl]
    rfl
  · unfold z_k
    rw [z_sr_x e]
theorem z_sr_len {h : Z_H} {a j b q : Nat} : z_len (z_sr h a j b) q = z_len h q := by
  by_cases e : q = a
  · subst e
    show (z_upx (z_x h) q j b q).2.1 = _
    unfold z_upx
    rw [if_pos rfl]
    rfl
  · unfold z_len
    rw [z_sr_x e]
theorem z_ok_sr {h : Z_H} {a j b : Nat} (hk : z_ok h) (hb : b < z_n h) : z_ok (z_sr h a j b) := by
  intro q hq i d hd
  by_cases e : q = a
  · subst e
    rw [z_sr_r] at hd
    split at hd
    · cases hd; exact hb
    · exact hk q hq i d hd
  · have z : z_r (z_sr h a j b) q i = z_r h q i := by unfold z_r; rw [z_sr_x e]
    rw [z] at hd
    exact hk q hq i d hd
theorem z_getI {G : Z_G} {I : Z_M} {E : Type} {pc : Nat} {la : List (Option Value)} {h : Z_H} {k : E → Option (Int32 × Z_H)} {rest : List Value} {a c j idx N : Nat} {C : String} {T : u_T} {f : Int32 → Option E} (hc : z_cls c C T N) (hdg : decode I.2.1 pc = .ok (.getfield idx, 3)) (hk : j < N) (hty : Z_ty c j = .int) (hl : Cond.fieldLink I.2.2.2.2.1 idx (T j).1 (T j).2.1 (T j).2.2.1 ∈ Z_W) (kk : ∀ x, Z_S G I (pc + 3) la (.int x :: rest) h (f x) k) : Z_S G I pc la (.ref a :: rest) h ((gI h a c j).bind f) k := by
  intro rF hF ee
  by_cases hi : z_is h a c = true
  · rw [gI, if_pos hi] at ee
    obtain ⟨hm, w⟩ := kk _ rF hF ee
    refine ⟨hm, ?_⟩
    intro p e Rm s m args below meth c0 A Q n0 t0 rho0 cid0 H locs cells slots rho cid Ls Cx D
    obtain ⟨hx, hb, hml, hown, hts, -⟩ := id Cx
    obtain ⟨ha, hka⟩ := z_is_spec hi
    obtain ⟨c1, c2, c3, c4, c5⟩ := hc
    obtain ⟨d1, d2, d3, d4, d5, d6, d7, d8⟩ := id D
    refine va_get (D := (G.2.1, G.2.2.1)) (cl := Z_cl) (tys := []) (ws := z_w rho cid h) (ci := c) (v := .int (z_i h a j)) hx hb hts c2 hown d7.1 d5 a (by rw [z_w_at ha, z_e_obj hka]) c1 j hk (hts _ hl) (fun _ h9 => h9) ?_ hdg ?_
    · rw [z_fs_at (by omega), hty]
      rfl
    · exact w p e Rm s m args below meth c0 A Q n0 t0 rho0 cid0 H locs cells slots rho cid Ls Cx (D.st (fun q => z_pi (z_d1 q)))
  · rw [gI, if_neg hi] at ee
    cases ee
theorem z_getL {G : Z_G} {I : Z_M} {E : Type} {pc : Nat} {la : List (Option Value)} {h : Z_H} {k : E → Option (Int32 × Z_H)} {rest : List Value} {a c j idx N : Nat} {C : String} {T : u_T} {f : Int64 → Option E} (hc : z_cls c C T N) (hdg : decode I.2.1 pc = .ok (.getfield idx, 3)) (hk : j < N) (hty : Z_ty c j = .long) (hl : Cond.fieldLink I.2.2.2.2.1 idx (T j).1 (T j).2.1 (T j).2.2.1 ∈ Z_W) (kk : ∀ x, Z_S G I (pc + 3) la (.long x :: rest) h (f x) k) : Z_S G I pc la (.ref a :: rest) h ((gL h a c j).bind f) k := by
  intro rF hF ee
  by_cases hi : z_is h a c = true
  · rw [gL, if_pos hi] at ee
    obtain ⟨hm, w⟩ := kk _ rF hF ee
    refine ⟨hm, ?_⟩
    intro p e Rm s m args below meth c0 A Q n0 t0 rho0 cid0 H locs cells slots rho cid Ls Cx D
    obtain ⟨hx, hb, hml, hown, hts, -⟩ := id Cx
    obtain ⟨ha, hka⟩ := z_is_spec hi
    obtain ⟨c1, c2, c3, c4, c5⟩ := hc
    obtain ⟨d1, d2, d3, d4, d5, d6, d7, d8⟩ := id D
    refine va_get (D := (G.2.1, G.2.2.1)) (cl := Z_cl) (tys := []) (ws := z_w rho cid h) (ci := c) (v := .long (z_l h a j)) hx hb hts c2 hown d7.1 d5 a (by rw [z_w_at ha, z_e_obj hka]) c1 j hk (hts _ hl) (fun _ h9 => h9) ?_ hdg ?_
    · rw [z_fs_at (by omega), hty]
      rfl
    · exact w p e Rm s m args below meth c0 A Q n0 t0 rho0 cid0 H locs cells slots rho cid Ls Cx (D.st (fun q => z_pl (z_d1 q)))
  · rw [gL, if_neg hi] at ee
    cases ee
theorem z_getR {G : Z_G} {I : Z_M} {E : Type} {pc : Nat} {la : List (Option Value)} {h : Z_H} {k : E → Option (Int32 × Z_H)} {rest : List Value} {a c j idx N : Nat} {C : String} {T : u_T} {f : Nat → Option E} (hc : z_cls c C T N) (hdg : decode I.2.1 pc = .ok (.getfield idx, 3)) (hk : j < N) (hty : z_isr (Z_ty c j) = true) (hl : Cond.fieldLink I.2.2.2.2.1 idx (T j).1 (T j).2.1 (T j).2.2.1 ∈ Z_W) (kk : ∀ x, Z_S G I (pc + 3) la (.ref x :: rest) h (f x) k) : Z_S G I pc la (.ref a :: rest) h ((gR h a c j).bind f) k := by
  intro rF hF ee
  by_cases hi : z_is h a c = true
  · rw [gR, if_pos hi] at ee
    cases hz : z_r h a j with
    | none => rw [hz] at ee; cases ee
    | some b =>
      rw [hz] at ee
      obtain ⟨hm, w⟩ := kk b rF hF ee
      refine ⟨hm, ?_⟩
      intro p e Rm s m args below meth c0 A Q n0 t0 rho0 cid0 H locs cells slots rho cid Ls Cx D
      obtain ⟨hx, hb, hml, hown, hts, -⟩ := id Cx
      obtain ⟨ha, hka⟩ := z_is_spec hi
      obtain ⟨c1, c2, c3, c4, c5⟩ := hc
      obtain ⟨d1, d2, d3, d4, d5, d6, d7, d8⟩ := id D
      refine va_get (D := (G.2.1, G.2.2.1)) (cl := Z_cl) (tys := []) (ws := z_w rho cid h) (ci := c) (v := .ref (rho (b + 1))) hx hb hts c2 hown d7.1 d5 a (by rw [z_w_at ha, z_e_obj hka]) c1 j hk (hts _ hl) (fun _ h9 => h9) ?_ hdg ?_
      · rw [z_fs_at (by omega), z_fv_r hty, hz]
        rfl
      · exact w p e Rm s m args below meth c0 A Q n0 t0 rho0 cid0 H locs cells slots rho cid Ls Cx (D.st (fun q => z_sk_cons.mpr ⟨d1 a ha j b hz, z_d1 q⟩))
  · rw [gR, if_neg hi] at ee
    cases ee
theorem z_putI {G : Z_G} {I : Z_M} {E : Type} {pc : Nat} {la : List (Option Value)} {h : Z_H} {k : E → Option (Int32 × Z_H)} {rest : List Value} {a c j idx N : Nat} {C : String} {T : u_T} {v : Int32} {f : Z_H → Option E} (hc : z_cls c C T N) (hdg : decode I.2.1 pc = .ok (.putfield idx, 3)) (hk : j < N) (hty : Z_ty c j = .int) (hfin : (T j).2.2.2 = false) (hl : Cond.fieldLink I.2.2.2.2.1 idx (T j).1 (T j).2.1 (T j).2.2.1 ∈ Z_W) (kk : ∀ h1, Z_S G I (pc + 3) la rest h1 (f h1) k) : Z_S G I pc la (.int v :: .ref a :: rest) h ((pI h a c j v).bind f) k := by
  intro rF hF ee
  by_cases hi : z_is h a c = true
  · rw [pI, if_pos hi] at ee
    obtain ⟨hm, w⟩ := kk _ rF hF ee
    refine ⟨hm, ?_⟩
    intro p e Rm s m args below meth c0 A Q n0 t0 rho0 cid0 H locs cells slots rho cid Ls Cx D
    obtain ⟨hx, hb, hml, hown, hts, -⟩ := id Cx
    obtain ⟨ha, hka⟩ := z_is_spec hi
    obtain ⟨c1, c2, c3, c4, c5⟩ := hc
    obtain ⟨d1, d2, d3, d4, d5, d6, d7, d8, d9⟩ := id D
    refine va_put (D := (G.2.1, G.2.2.1)) (cl := Z_cl) (tys := []) (ws := z_w rho cid h) (ci := c) (v := .int v) (ty := .int) hx hb hts c2 (Z_ty c) c4 c5 hown d7.1 d5 d6 d8 a (by rw [z_w_at ha, z_e_obj hka]) c1 j hk (hts _ hl) (fun _ h9 => h9) hfin (by rw [c4 j hk, hty]) rfl rfl (by rw [z_fs_len]; omega) hdg (fun H1 locs1 hP hD hS => ?_)
    have ew : (z_w rho cid h).set a (rho (a + 1), .inr (c, (z_fs rho h a c).set j (.int v))) = z_w rho cid (z_si h a j v) := by
      refine z_w_set rfl ha ?_ (fun q hq => ?_)
      · rw [z_e_obj (h := z_si h a j v) (c := c) hka]
        congr 2
        symm
        refine z_fs_set (by omega) ?_ (fun i hi => ⟨?_, rfl, rfl⟩)
        · rw [hty, z_si_i]
          show Value.int (if j = j then v else _) = _
          rw [if_pos rfl]
        · rw [z_si_i]
          show (if i = j then v else _) = _
          rw [if_neg hi]
      · exact z_e_same rfl (z_si_o hq) rfl
    rw [ew] at hP hD
    exact w p e Rm s m args below meth c0 A Q n0 t0 rho0 cid0 H1 locs1 cells slots rho cid Ls Cx ⟨d1, z_d1 (z_d1 d2), d3, d4, hP, hD, d7, hS, d9⟩
  · rw [pI, if_neg hi] at ee
    cases ee
theorem z_putL {G : Z_G} {I : Z_M} {E : Type} {pc : Nat} {la : List (Option Value)} {h : Z_H} {k : E → Option (Int32 × Z_H)} {rest : List Value} {a c j idx N : Nat} {C : String} {T : u_T} {v : Int64} {f : Z_H → Option E} (hc : z_cls c C T N) (hdg : decode I.2.1 pc = .ok (.putfield idx, 3)) (hk : j < N) (hty : Z_ty c j = .long) (hfin : (T j).2.2.2 = false) (hl : Cond.fieldLink I.2.2.2.2.1 idx (T j).1 (T j).2.1 (T j).2.2.1 ∈ Z_W) (kk : ∀ h1, Z_S G I (pc + 3) la rest h1 (f h1) k) : Z_S G I pc la (.long v :: .ref a :: rest) h ((pL h a c j v).bind f) k := by
  intro rF hF ee
  by_cases hi : z_is h a c = true
  · rw [pL, if_pos hi] at ee
    obtain ⟨hm, w⟩ := kk _ rF hF ee
    refine ⟨hm, ?_⟩
    intro p e Rm s m args below meth c0 A Q n0 t0 rho0 cid0 H locs cells slots rho cid Ls Cx D
    obtain ⟨hx, hb, hml, hown, hts, -⟩ := id Cx
    obtain ⟨ha, hka⟩ := z_is_spec hi
    obtain ⟨c1, c2, c3, c4, c5⟩ := hc
    obtain ⟨d1, d2, d3, d4, d5, d6, d7, d8, d9⟩ := id D
    refine va_put (D := (G.2.1, G.2.2.1)) (cl := Z_cl) (tys := []) (ws := z_w rho cid h) (ci := c) (v := .long v) (ty := .long) hx hb hts c2 (Z_ty c) c4 c5 hown d7.1 d5 d6 d8 a (by rw [z_w_at ha, z_e_obj hka]) c1 j hk (hts _ hl) (fun _ h9 => h9) hfin (by rw [c4 j hk, hty]) rfl rfl (by rw [z_fs_len]; omega) hdg (fun H1 locs1 hP hD hS => ?_)
    have ew : (z_w rho cid h).set a (rho (a + 1), .inr (c, (z_fs rho h a c).set j (.long v))) = z_w rho cid (z_sl h a j v) := by
      refine z_w_set rfl ha ?_ (fun q hq => ?_)
      · rw [z_e_obj (h := z_sl h a j v) (c := c) hka]
        congr 2
        symm
        refine z_fs_set (by omega) ?_ (fun i hi => ⟨rfl, ?_, rfl⟩)
        · rw [hty, z_sl_l, if_pos rfl]
          rfl
        · rw [z_sl_l, if_neg hi]
      · exact z_e_same rfl rfl (z_sl_o hq)
    rw [ew] at hP hD
    exact w p e Rm s m args below meth c0 A Q n0 t0 rho0 cid0 H1 locs1 cells slots rho cid Ls Cx ⟨d1, z_d1 (z_d1 d2), d3, d4, hP, hD, d7, hS, d9⟩
  · rw [pL, if_neg hi] at ee
    cases ee
theorem z_putR {G : Z_G} {I : Z_M} {E : Type} {pc : Nat} {la : List (Option Value)} {h : Z_H} {k : E → Option (Int32 × Z_H)} {rest : List Value} {a c j idx N b : Nat} {C : String} {T : u_T} {f : Z_H → Option E} (hc : z_cls c C T N) (hdg : decode I.2.1 pc = .ok (.putfield idx, 3)) (hk : j < N) (hty : z_isr (Z_ty c j) = true) (hfin : (T j).2.2.2 = true) (hI : I.1.name = "<init>") (hdecl : (T j).1 = I.2.2.2.2.1) (hl : Cond.fieldLink I.2.2.2.2.1 idx (T j).1 (T j).2.1 (T j).2.2.1 ∈ Z_W) (kk : ∀ h1, Z_S G I (pc + 3) la rest h1 (f h1) k) : Z_S G I pc la (.ref b :: .ref a :: rest) h ((pR h a c j b).bind f) k := by
  intro rF hF ee
  by_cases hi : z_is h a c = true
  · rw [pR, if_pos hi] at ee
    obtain ⟨hm, w⟩ := kk _ rF hF ee
    refine ⟨hm, ?_⟩
    intro p e Rm s m args below meth c0 A Q n0 t0 rho0 cid0 H locs cells slots rho cid Ls Cx D
    obtain ⟨hx, hb, hml, hown, hts, hr, hlk, hin, -⟩ := id Cx
    obtain ⟨ha, hka⟩ := z_is_spec hi
    obtain ⟨c1, c2, c3, c4, c5⟩ := hc
    obtain ⟨d1, d2, d3, d4, d5, d6, d7, d8, d9⟩ := id D
    refine va_putF (D := (G.2.1, G.2.2.1)) (cl := Z_cl) (tys := []) (ws := z_w rho cid h) (ci := c) (v := .ref (rho (b + 1))) (ty := Z_ty c j) hx hb hts c2 (Z_ty c) c4 c5 hown d7.1 d5 d6 d8 a (by rw [z_w_at ha, z_e_obj hka]) c1 j hk (hts _ hl) (fun _ h9 => h9) hfin (hin hI) hdecl (c4 j hk) (z_nar_r hty).1 (z_nar_r hty).2 (by rw [z_fs_len]; omega) hdg (fun H1 locs1 hP hD hS => ?_)
    have ew : (z_w rho cid h).set a (rho (a + 1), .inr (c, (z_fs rho h a c).set j (.ref (rho (b + 1))))) = z_w rho cid (z_sr h a j b) := by
      refine z_w_set rfl ha ?_ (fun q hq => ?_)
      · rw [z_e_obj (c := c) (by rw [z_sr_k]; exact hka)]
        congr 2
        symm
        refine z_fs_set (by omega) ?_ (fun i hi => ⟨rfl, rfl, ?_⟩)
        · rw [z_fv_r hty, z_sr_r, if_pos rfl]
          rfl
        · rw [z_sr_r, if_neg hi]
      · exact z_e_same (z_sr_x hq) rfl rfl
    rw [ew] at hP hD
    have hbn : b < z_n h := (z_sk_cons.mp d2).1
    exact w p e Rm s m args below meth c0 A Q n0 t0 rho0 cid0 H1 locs1 cells slots rho cid Ls Cx ⟨z_ok_sr d1 hbn, z_d1 (z_d1 d2), d3, d4, hP, hD, ⟨d7.1, fun q hq hqk => by rw [z_sr_k] at hqk ⊢; exact d7.2 q hq hqk⟩, hS, d9⟩
  · rw [pR, if_neg hi] at ee
    cases ee
theorem z_aldI {G : Z_G} {I : Z_M} {E : Type} {pc : Nat} {la : List (Option Value)} {h : Z_H} {k : E → Option (Int32 × Z_H)} {rest : List Value} {a : Nat} {i : Int32} {f : Int32 → Option E} (hdg : decode I.2.1 pc = .ok (.iaload, 1)) (kk : ∀ x, Z_S G I (pc + 1) la (.int x :: rest) h (f x) k) : Z_S G I pc la (.int i :: .ref a :: rest) h ((aI h a i).bind f) k := by
  intro rF hF ee
  by_cases hi : z_ar h a 0 i = true
  · rw [aI, if_pos hi] at ee
    obtain ⟨hm, w⟩ := kk _ rF hF ee
    refine ⟨hm, ?_⟩
    intro p e Rm s m args below meth c0 A Q n0 t0 rho0 cid0 H locs cells slots rho cid Ls Cx D
    obtain ⟨hx, hb, -⟩ := id Cx
    obtain ⟨ha, hka, h0, h1⟩ := z_ar_spec hi
    obtain ⟨d1, d2, d3, d4, d5, d6, d7, d8⟩ := id D
    refine va_iald (tys := [(cid a, .int)]) (f := z_i h a) hx hb (z_K1 d7 ha (by omega) (by rw [hka]; rfl)) d5 a 0 (by rw [z_w_at ha, z_e_arr (by omega)]) rfl (z_vin h0 h1) hdg ?_
    exact w p e Rm s m args below meth c0 A Q n0 t0 rho0 cid0 H locs cells slots rho cid Ls Cx (D.st (fun q => z_pi (z_d1 (z_d1 q))))
  · rw [aI, if_neg hi] at ee
    cases ee
theorem z_aldB {G : Z_G} {I : Z_M} {E : Type} {pc : Nat} {la : List (Option Value)} {h : Z_H} {k : E → Option (Int32 × Z_H)} {rest : List Value} {a : Nat} {i : Int32} {f : Int32 → Option E} (hdg : decode I.2.1 pc = .ok (.baload, 1)) (kk : ∀ x, Z_S G I (pc + 1) la (.int x :: rest) h (f x) k) : Z_S G I pc la (.int i :: .ref a :: rest) h ((aB h a i).bind f) k := by
  intro rF hF ee
  by_cases hi : z_ar h a 1 i = true
  · rw [aB, if_pos hi] at ee
    obtain ⟨hm, w⟩ := kk _ rF hF ee
    refine ⟨hm, ?_⟩
    intro p e Rm s m args below meth c0 A Q n0 t0 rho0 cid0 H locs cells slots rho cid Ls Cx D
    obtain ⟨hx, hb, -⟩ := id Cx
    obtain ⟨ha, hka, h0, h1⟩ := z_ar_spec hi
    obtain ⟨d1, d2, d3, d4, d5, d6, d7, d8⟩ := id D
    refine va_bald (tys := [(cid a, .byte)]) (f := z_i h a) hx hb (z_K1 d7 ha (by omega) (by rw [hka]; rfl)) d5 a 0 (by rw [z_w_at ha, z_e_arr (by omega)]) rfl (z_vin h0 h1) hdg ?_
    exact w p e Rm s m args below meth c0 A Q n0 t0 rho0 cid0 H locs cells slots rho cid Ls Cx (D.st (fun q => z_pi (z_d1 (z_d1 q))))
  · rw [aB, if_neg hi] at ee
    cases ee
theorem z_aldZ {G : Z_G} {I : Z_M} {E : Type} {pc : Nat} {la : List (Option Value)} {h : Z_H} {k : E → Option (Int32 × Z_H)} {rest : List Value} {a : Nat} {i : Int32} {f : Int32 → Option E} (hdg : decode I.2.1 pc = .ok (.baload, 1)) (kk : ∀ x, Z_S G I (pc + 1) la (.int x :: rest) h (f x) k) : Z_S G I pc la (.int i :: .ref a :: rest) h ((aZ h a i).bind f) k := by
  intro rF hF ee
  by_cases hi : z_ar h a 2 i = true
  · rw [aZ, if_pos hi] at ee
    obtain ⟨hm, w⟩ := kk _ rF hF ee
    refine ⟨hm, ?_⟩
    intro p e Rm s m args below meth c0 A Q n0 t0 rho0 cid0 H locs cells slots rho cid Ls Cx D
    obtain ⟨hx, hb, -⟩ := id Cx
    obtain ⟨ha, hka, h0, h1⟩ := z_ar_spec hi
    obtain ⟨d1, d2, d3, d4, d5, d6, d7, d8⟩ := id D
    refine va_zald (tys := [(cid a, .boolean)]) (f := z_i h a) hx hb (z_K1 d7 ha (by omega) (by rw [hka]; rfl)) d5 a 0 (by rw [z_w_at ha, z_e_arr (by omega)]) rfl (z_vin h0 h1) hdg ?_
    exact w p e Rm s m args below meth c0 A Q n0 t0 rho0 cid0 H locs cells slots rho cid Ls Cx (D.st (fun q => z_pi (z_d1 (z_d1 q))))
  · rw [aZ, if_neg hi] at ee
    cases ee
theorem z_astI {G : Z_G} {I : Z_M} {E : Type} {pc : Nat} {la : List (Option Value)} {h : Z_H} {k : E → Option (Int32 × Z_H)} {rest : List Value} {a : Nat} {i v : Int32} {f : Z_H → Option E} (hdg : decode I.2.1 pc = .ok (.iastore, 1)) (kk : ∀ h1, Z_S G I (pc + 1) la rest h1 (f h1) k) : Z_S G I pc la (.int v :: .int i :: .ref a :: rest) h ((sI h a i v).bind f) k := by
  intro rF hF ee
  by_cases hi : z_ar h a 0 i = true
  · rw [sI, if_pos hi] at ee
    obtain ⟨hm, w⟩ := kk _ rF hF ee
    refine ⟨hm, ?_⟩
    intro p e Rm s m args below meth c0 A Q n0 t0 rho0 cid0 H locs cells slots rho cid Ls Cx D
    obtain ⟨hx, hb, -⟩ := id Cx
    obtain ⟨ha, hka, h0, h1⟩ := z_ar_spec hi
    obtain ⟨d1, d2, d3, d4, d5, d6, d7, d8, d9⟩ := id D
    refine va_iast (tys := [(cid a, .int)]) (f := z_i h a) hx hb (z_K1 d7 ha (by omega) (by rw [hka]; rfl)) d5 d6 d8 a 0 (by rw [z_w_at ha, z_e_arr (by omega)]) rfl (z_vin h0 h1) hdg (fun H1 locs1 hP hD hS => ?_)
    have ew : (z_w rho cid h).set a (rho (a + 1), .inl (cid a, z_len h a, .inl (upd (z_i h a) i.toNatClampNeg v))) = z_w rho cid (z_si h a i.toNatClampNeg v) := by
      refine z_w_set rfl ha ?_ (fun q hq => ?_)
      · rw [z_e_arr (h := z_si h a i.toNatClampNeg v) (show z_k h a < 3 by omega), z_si_i]
        rfl
      · exact z_e_same rfl (z_si_o hq) rfl
    have hP : va_P (G.2.1, G.2.2.1) Z_cl ((z_w rho cid h).set a (rho (a + 1), .inl (cid a, z_len h a, .inl (upd (z_i h a) i.toNatClampNeg v)))) H1 := hP
    have hD : va_D A ((z_w rho cid h).set a (rho (a + 1), .inl (cid a, z_len h a, .inl (upd (z_i h a) i.toNatClampNeg v)))) := hD
    rw [ew] at hP hD
    exact w p e Rm s m args below meth c0 A Q n0 t0 rho0 cid0 H1 locs1 cells slots rho cid Ls Cx ⟨d1, z_d1 (z_d1 (z_d1 d2)), d3, d4, hP, hD, d7, hS, d9⟩
  · rw [sI, if_neg hi] at ee
    cases ee
theorem z_astB {G : Z_G} {I : Z_M} {E : Type} {pc : Nat} {la : List (Option Value)} {h : Z_H} {k : E → Option (Int32 × Z_H)} {rest : List Value} {a : Nat} {i v : Int32} {f : Z_H → Option E} (hdg : decode I.2.1 pc = .ok (.bastore, 1)) (kk : ∀ h1, Z_S G I (pc + 1) la rest h1 (f h1) k) : Z_S G I pc la (.int v :: .int i :: .ref a :: rest) h ((sB h a i v).bind f) k := by
  intro rF hF ee
  by_cases hi : z_ar h a 1 i = true
  · rw [sB, if_pos hi] at ee
    obtain ⟨hm, w⟩ := kk _ rF hF ee
    refine ⟨hm, ?_⟩
    intro p e Rm s m args below meth c0 A Q n0 t0 rho0 cid0 H locs cells slots rho cid Ls Cx D
    obtain ⟨hx, hb, -⟩ := id Cx
    obtain ⟨ha, hka, h0, h1⟩ := z_ar_spec hi
    obtain ⟨d1, d2, d3, d4, d5, d6, d7, d8, d9⟩ := id D
    refine va_bast (tys := [(cid a, .byte)]) (f := z_i h a) hx hb (z_K1 d7 ha (by omega) (by rw [hka]; rfl)) d5 d6 d8 a 0 (by rw [z_w_at ha, z_e_arr (by omega)]) rfl (z_vin h0 h1) hdg (fun H1 locs1 hP hD hS => ?_)
    have ew : (z_w rho cid h).set a (rho (a + 1), .inl (cid a, z_len h a, .inl (upd (z_i h a) i.toNatClampNeg v.toInt8.toInt32))) = z_w rho cid (z_si h a i.toNatClampNeg v.toInt8.toInt32) := by
      refine z_w_set rfl ha ?_ (fun q hq => ?_)
      · rw [z_e_arr (h := z_si h a i.toNatClampNeg v.toInt8.toInt32) (show z_k h a < 3 by omega), z_si_i]
        rfl
      · exact z_e_same rfl (z_si_o hq) rfl
    have hP : va_P (G.2.1, G.2.2.1) Z_cl ((z_w rho cid h).set a (rho (a + 1), .inl (cid a, z_len h a, .inl (upd (z_i h a) i.toNatClampNeg v.toInt8.toInt32)))) H1 := hP
    have hD : va_D A ((z_w rho cid h).set a (rho (a + 1), .inl (cid a, z_len h a, .inl (upd (z_i h a) i.toNatClampNeg v.toInt8.toInt32)))) := hD
    rw [ew] at hP hD
    exact w p e Rm s m args below meth c0 A Q n0 t0 rho0 cid0 H1 locs1 cells slots rho cid Ls Cx ⟨d1, z_d1 (z_d1 (z_d1 d2)), d3, d4, hP, hD, d7, hS, d9⟩
  · rw [sB, if_neg hi] at ee
    cases ee
theorem z_astZ {G : Z_G} {I : Z_M} {E : Type} {pc : Nat} {la : List (Option Value)} {h : Z_H} {k : E → Option (Int32 × Z_H)} {rest : List Value} {a : Nat} {i v : Int32} {f : Z_H → Option E} (hdg : decode I.2.1 pc = .ok (.bastore, 1)) (kk : ∀ h1, Z_S G I (pc + 1) la rest h1 (f h1) k) : Z_S G I pc la (.int v :: .int i :: .ref a :: rest) h ((sZ h a i v).bind f) k := by
  intro rF hF ee
  by_cases hi : z_ar h a 2 i = true
  · rw [sZ, if_pos hi] at ee
    obtain ⟨hm, w⟩ := kk _ rF hF ee
    refine ⟨hm, ?_⟩
    intro p e Rm s m args below meth c0 A Q n0 t0 rho0 cid0 H locs cells slots rho cid Ls Cx D
    obtain ⟨hx, hb, -⟩ := id Cx
    obtain ⟨ha, hka, h0, h1⟩ := z_ar_spec hi
    obtain ⟨d1, d2, d3, d4, d5, d6, d7, d8, d9⟩ := id D
    refine va_zast (tys := [(cid a, .boolean)]) (f := z_i h a) hx hb (z_K1 d7 ha (by omega) (by rw [hka]; rfl)) d5 d6 d8 a 0 (by rw [z_w_at ha, z_e_arr (by omega)]) rfl (z_vin h0 h1) hdg (fun H1 locs1 hP hD hS => ?_)
    have ew : (z_w rho cid h).set a (rho (a + 1), .inl (cid a, z_len h a, .inl (upd (z_i h a) i.toNatClampNeg (v &&& 1)))) = z_w rho cid (z_si h a i.toNatClampNeg (v &&& 1)) := by
      refine z_w_set rfl ha ?_ (fun q hq => ?_)
      · rw [z_e_arr (h := z_si h a i.toNatClampNeg (v &&& 1)) (show z_k h a < 3 by omega), z_si_i]
        rfl
      · exact z_e_same rfl (z_si_o hq) rfl
    have hP : va_P (G.2.1, G.2.2.1) Z_cl ((z_w rho cid h).set a (rho (a + 1), .inl (cid a, z_len h a, .inl (upd (z_i h a) i.toNatClampNeg (v &&& 1))))) H1 := hP
    have hD : va_D A ((z_w rho cid h).set a (rho (a + 1), .inl (cid a, z_len h a, .inl (upd (z_i h a) i.toNatClampNeg (v &&& 1))))) := hD
    rw [ew] at hP hD
    exact w p e Rm s m args below meth c0 A Q n0 t0 rho0 cid0 H1 locs1 cells slots rho cid Ls Cx ⟨d1, z_d1 (z_d1 (z_d1 d2)), d3, d4, hP, hD, d7, hS, d9⟩
  · rw [sZ, if_neg hi] at ee
    cases ee
theorem z_alen {G : Z_G} {I : Z_M} {E : Type} {pc : Nat} {la : List (Option Value)} {h : Z_H} {k : E → Option (Int32 × Z_H)} {rest : List Value} {a : Nat} {f : Int32 → Option E} (hdg : decode I.2.1 pc = .ok (.arraylength, 1)) (kk : ∀ x, Z_S G I (pc + 1) la (.int x :: rest) h (f x) k) : Z_S G I pc la (.ref a :: rest) h ((aN h a).bind f) k := by
  intro rF hF ee
  by_cases hi : (decide (a < z_n h) && decide (z_k h a < 4)) = true
  · rw [aN, if_pos hi] at ee
    obtain ⟨hm, w⟩ := kk _ rF hF ee
    refine ⟨hm, ?_⟩
    intro p e Rm s m args below meth c0 A Q n0 t0 rho0 cid0 H locs cells slots rho cid Ls Cx D
    obtain ⟨hx, hb, -⟩ := id Cx
    have hj : a < z_n h ∧ z_k h a < 4 := by simpa using hi
    obtain ⟨ha, hka⟩ := hj
    obtain ⟨d1, d2, d3, d4, d5, d6, d7, d8⟩ := id D
    by_cases h3 : z_k h a < 3
    · exact va_alen (tys := [(cid a, z_ak (z_k h a))]) (x := (z_len h a, .inl (z_i h a))) hx hb (z_K1 d7 ha hka rfl) d5 a 0 (by rw [z_w_at ha, z_e_arr h3]) rfl rfl hdg (w p e Rm s m args below meth c0 A Q n0 t0 rho0 cid0 H locs cells slots rho cid Ls Cx (D.st (fun q => z_pi (z_d1 q))))
    · exact va_alen (tys := [(cid a, z_ak (z_k h a))]) (x := (z_len h a, .inr (.inr (.inr (.inr (fun j => (z_r h a j).map fun b => rho (b + 1))))))) hx hb (z_K1 d7 ha hka rfl) d5 a 0 (by rw [z_w_at ha, z_e_ref (by omega)]) rfl rfl hdg (w p e Rm s m args below meth c0 A Q n0 t0 rho0 cid0 H locs cells slots rho cid Ls Cx (D.st (fun q => z_pi (z_d1 q))))
  · rw [aN, if_neg hi] at ee
    cases ee
