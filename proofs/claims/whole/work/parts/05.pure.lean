theorem z_d1 {n : Nat} {v : Value} {st : List Value} (q : z_sk n (v :: st)) : z_sk n st := (z_sk_cons.mp q).2
theorem z_pi {n : Nat} {x : Int32} {st : List Value} (q : z_sk n st) : z_sk n (.int x :: st) := z_sk_cons.mpr ⟨trivial, q⟩
theorem z_pl {n : Nat} {x : Int64} {st : List Value} (q : z_sk n st) : z_sk n (.long x :: st) := z_sk_cons.mpr ⟨trivial, q⟩
def z_pr (rho : Nat → Nat) (la : List (Option Value)) : List (Nat × Value) := (List.range la.length).filterMap fun i => match la[i]? with
  | some (some v) => some (i, z_rn rho v)
  | _ => none
theorem z_pr_mem {rho : Nat → Nat} {la : List (Option Value)} {i : Nat} {v : Value} (h : la[i]? = some (some v)) : (i, z_rn rho v) ∈ z_pr rho la := by
  refine List.mem_filterMap.mpr ⟨i, List.mem_range.mpr (List.getElem?_eq_some_iff.mp h).1, ?_⟩
  rw [h]
theorem z_pr_of {rho : Nat → Nat} {la : List (Option Value)} {q : Nat × Value} (h : q ∈ z_pr rho la) : ∃ v, la[q.1]? = some (some v) ∧ q.2 = z_rn rho v := by
  obtain ⟨i, -, e⟩ := List.mem_filterMap.mp h
  split at e
  · rename_i v hv
    cases e
    exact ⟨v, hv, rfl⟩
  · cases e
theorem z_LO.has {rho : Nat → Nat} {nL : Nat} {Ls : Array Slot} {la : List (Option Value)} (h : z_LO rho nL Ls la) : lv_has Ls nL (z_pr rho la) := by
  refine ⟨h.1, h.2.1, fun q hq => ?_⟩
  obtain ⟨v, h1, h2⟩ := z_pr_of hq
  rw [h2]
  exact h.2.2 _ _ h1
def z_c2 (la : List (Option Value)) (i : Nat) : Bool := match i with
  | 0 => true
  | j + 1 => match la[j]? with
    | some (some v) => v.category != 2
    | _ => true
theorem z_c2_spec {la : List (Option Value)} {i j : Nat} {v : Value} (hc : z_c2 la i = true) (hj : la[j]? = some (some v)) (e : j + 1 = i) : (v.category == 2) = false := by
  subst e
  simp only [z_c2, hj] at hc
  simpa using hc
theorem z_LO.set {rho : Nat → Nat} {nL : Nat} {Ls' : Array Slot} {la la' : List (Option Value)} {i : Nat} {v : Value} (h : lv_has Ls' nL ((i, z_rn rho v) :: (z_pr rho la).filter (fun q => !(q.1 == i) && !(q.1 + 1 == i && q.2.category == 2)))) (hc : z_c2 la i = true) (hl : la.set i (some v) = la') : z_LO rho nL Ls' la' := by
  refine ⟨h.1, h.2.1, fun j w hw => ?_⟩
  subst hl
  rw [List.getElem?_set] at hw
  by_cases e : i = j
  · subst e
    split at hw
    · split at hw
      · cases hw
        exact h.2.2 (i, z_rn rho v) List.mem_cons_self
      · cases hw
    · rename_i q; exact absurd rfl q
  · rw [if_neg e] at hw
    refine h.2.2 (j, z_rn rho w) (List.mem_cons_of_mem _ (List.mem_filter.mpr ⟨z_pr_mem hw, ?_⟩))
    have e' : (j == i) = false := by simpa using fun q => e q.symm
    by_cases e2 : j + 1 = i
    · have q := z_c2_spec hc hw e2
      rw [← z_rn_cat rho w] at q
      simp [e', q]
    · simp [e', e2]
theorem z_lk.set {n : Nat} {la la' : List (Option Value)} {i : Nat} {v : Value} (h : z_lk n la) (hv : z_vk n v) (hl : la.set i (some v) = la') : z_lk n la' := by
  intro j w hw
  subst hl
  rw [List.getElem?_set] at hw
  by_cases e : i = j
  · rw [if_pos e] at hw
    split at hw
    · cases hw; exact hv
    · cases hw
  · rw [if_neg e] at hw
    exact h j w hw
theorem z_cv {G : Z_G} {I : Z_M} {E : Type} {pc : Nat} {la : List (Option Value)} {st : List Value} {h : Z_H} {R R' : Option E} {k : E → Option (Int32 × Z_H)} (e : R = R') (kk : Z_S G I pc la st h R' k) : Z_S G I pc la st h R k := e ▸ kk
theorem lt_ite {α β : Type} {c : Prop} [Decidable c] {a b : α} {f : α → β} : lt (if c then a else b) f = if c then lt a f else lt b f := by
  split <;> rfl

theorem z_iadd {G : Z_G} {I : Z_M} {E : Type} {pc : Nat} {la : List (Option Value)} {h : Z_H} {R : Option E} {k : E → Option (Int32 × Z_H)} {rest : List Value} {x y : Int32} (hdg : decode I.2.1 pc = .ok (.iadd, 1)) (kk : Z_S G I (pc + 1) la (.int (x + y) :: rest) h R k) : Z_S G I pc la (.int y :: .int x :: rest) h R k := by
  refine z_next kk (fun _ e => e) (fun rF hF w => ?_)
  intro p e Rm s m args below meth c A Q n0 t0 rho0 cid0 H locs cells slots rho cid Ls C D
  obtain ⟨hx, hb, hml, hown, hts, -⟩ := id C
  exact lv_iadd hx hb hdg (w p e Rm s m args below meth c A Q n0 t0 rho0 cid0 H locs cells slots rho cid Ls C (D.st (fun q => z_pi (z_d1 (z_d1 q)))))
theorem z_isub {G : Z_G} {I : Z_M} {E : Type} {pc : Nat} {la : List (Option Value)} {h : Z_H} {R : Option E} {k : E → Option (Int32 × Z_H)} {rest : List Value} {x y : Int32} (hdg : decode I.2.1 pc = .ok (.isub, 1)) (kk : Z_S G I (pc + 1) la (.int (x - y) :: rest) h R k) : Z_S G I pc la (.int y :: .int x :: rest) h R k := by
  refine z_next kk (fun _ e => e) (fun rF hF w => ?_)
  intro p e Rm s m args below meth c A Q n0 t0 rho0 cid0 H locs cells slots rho cid Ls C D
  obtain ⟨hx, hb, hml, hown, hts, -⟩ := id C
  exact lv_isub hx hb hdg (w p e Rm s m args below meth c A Q n0 t0 rho0 cid0 H locs cells slots rho cid Ls C (D.st (fun q => z_pi (z_d1 (z_d1 q)))))
theorem z_imul {G : Z_G} {I : Z_M} {E : Type} {pc : Nat} {la : List (Option Value)} {h : Z_H} {R : Option E} {k : E → Option (Int32 × Z_H)} {rest : List Value} {x y : Int32} (hdg : decode I.2.1 pc = .ok (.imul, 1)) (kk : Z_S G I (pc + 1) la (.int (x * y) :: rest) h R k) : Z_S G I pc la (.int y :: .int x :: rest) h R k := by
  refine z_next kk (fun _ e => e) (fun rF hF w => ?_)
  intro p e Rm s m args below meth c A Q n0 t0 rho0 cid0 H locs cells slots rho cid Ls C D
  obtain ⟨hx, hb, hml, hown, hts, -⟩ := id C
  exact lv_imul hx hb hdg (w p e Rm s m args below meth c A Q n0 t0 rho0 cid0 H locs cells slots rho cid Ls C (D.st (fun q => z_pi (z_d1 (z_d1 q)))))
theorem z_iand {G : Z_G} {I : Z_M} {E : Type} {pc : Nat} {la : List (Option Value)} {h : Z_H} {R : Option E} {k : E → Option (Int32 × Z_H)} {rest : List Value} {x y : Int32} (hdg : decode I.2.1 pc = .ok (.iand, 1)) (kk : Z_S G I (pc + 1) la (.int (x &&& y) :: rest) h R k) : Z_S G I pc la (.int y :: .int x :: rest) h R k := by
  refine z_next kk (fun _ e => e) (fun rF hF w => ?_)
  intro p e Rm s m args below meth c A Q n0 t0 rho0 cid0 H locs cells slots rho cid Ls C D
  obtain ⟨hx, hb, hml, hown, hts, -⟩ := id C
  exact lv_iand hx hb hdg (w p e Rm s m args below meth c A Q n0 t0 rho0 cid0 H locs cells slots rho cid Ls C (D.st (fun q => z_pi (z_d1 (z_d1 q)))))
theorem z_ior {G : Z_G} {I : Z_M} {E : Type} {pc : Nat} {la : List (Option Value)} {h : Z_H} {R : Option E} {k : E → Option (Int32 × Z_H)} {rest : List Value} {x y : Int32} (hdg : decode I.2.1 pc = .ok (.ior, 1)) (kk : Z_S G I (pc + 1) la (.int (x ||| y) :: rest) h R k) : Z_S G I pc la (.int y :: .int x :: rest) h R k := by
  refine z_next kk (fun _ e => e) (fun rF hF w => ?_)
  intro p e Rm s m args below meth c A Q n0 t0 rho0 cid0 H locs cells slots rho cid Ls C D
  obtain ⟨hx, hb, hml, hown, hts, -⟩ := id C
  exact lv_ior hx hb hdg (w p e Rm s m args below meth c A Q n0 t0 rho0 cid0 H locs cells slots rho cid Ls C (D.st (fun q => z_pi (z_d1 (z_d1 q)))))
theorem z_ixor {G : Z_G} {I : Z_M} {E : Type} {pc : Nat} {la : List (Option Value)} {h : Z_H} {R : Option E} {k : E → Option (Int32 × Z_H)} {rest : List Value} {x y : Int32} (hdg : decode I.2.1 pc = .ok (.ixor, 1)) (kk : Z_S G I (pc + 1) la (.int (x ^^^ y) :: rest) h R k) : Z_S G I pc la (.int y :: .int x :: rest) h R k := by
  refine z_next kk (fun _ e => e) (fun rF hF w => ?_)
  intro p e Rm s m args below meth c A Q n0 t0 rho0 cid0 H locs cells slots rho cid Ls C D
  obtain ⟨hx, hb, hml, hown, hts, -⟩ := id C
  exact lv_ixor hx hb hdg (w p e Rm s m args below meth c A Q n0 t0 rho0 cid0 H locs cells slots rho cid Ls C (D.st (fun q => z_pi (z_d1 (z_d1 q)))))
theorem z_ishl {G : Z_G} {I : Z_M} {E : Type} {pc : Nat} {la : List (Option Value)} {h : Z_H} {R : Option E} {k : E → Option (Int32 × Z_H)} {rest : List Value} {x y : Int32} (hdg : decode I.2.1 pc = .ok (.ishl, 1)) (kk : Z_S G I (pc + 1) la (.int (x <<< (y &&& 31)) :: rest) h R k) : Z_S G I pc la (.int y :: .int x :: rest) h R k := by
  refine z_next kk (fun _ e => e) (fun rF hF w => ?_)
  intro p e Rm s m args below meth c A Q n0 t0 rho0 cid0 H locs cells slots rho cid Ls C D
  obtain ⟨hx, hb, hml, hown, hts, -⟩ := id C
  exact lv_ishl hx hb hdg (w p e Rm s m args below meth c A Q n0 t0 rho0 cid0 H locs cells slots rho cid Ls C (D.st (fun q => z_pi (z_d1 (z_d1 q)))))
theorem z_ishr {G : Z_G} {I : Z_M} {E : Type} {pc : Nat} {la : List (Option Value)} {h : Z_H} {R : Option E} {k : E → Option (Int32 × Z_H)} {rest : List Value} {x y : Int32} (hdg : decode I.2.1 pc = .ok (.ishr, 1)) (kk : Z_S G I (pc + 1) la (.int (x >>> (y &&& 31)) :: rest) h R k) : Z_S G I pc la (.int y :: .int x :: rest) h R k := by
  refine z_next kk (fun _ e => e) (fun rF hF w => ?_)
  intro p e Rm s m args below meth c A Q n0 t0 rho0 cid0 H locs cells slots rho cid Ls C D
  obtain ⟨hx, hb, hml, hown, hts, -⟩ := id C
  exact lv_ishr hx hb hdg (w p e Rm s m args below meth c A Q n0 t0 rho0 cid0 H locs cells slots rho cid Ls C (D.st (fun q => z_pi (z_d1 (z_d1 q)))))
theorem z_iushr {G : Z_G} {I : Z_M} {E : Type} {pc : Nat} {la : List (Option Value)} {h : Z_H} {R : Option E} {k : E → Option (Int32 × Z_H)} {rest : List Value} {x y : Int32} (hdg : decode I.2.1 pc = .ok (.iushr, 1)) (kk : Z_S G I (pc + 1) la (.int (x.toUInt32 >>> (y.toUInt32 &&& Int32.toUInt32 31)).toInt32 :: rest) h R k) : Z_S G I pc la (.int y :: .int x :: rest) h R k := by
  refine z_next kk (fun _ e => e) (fun rF hF w => ?_)
  intro p e Rm s m args below meth c A Q n0 t0 rho0 cid0 H locs cells slots rho cid Ls C D
  obtain ⟨hx, hb, hml, hown, hts, -⟩ := id C
  exact lv_iushr hx hb hdg rfl (w p e Rm s m args below meth c A Q n0 t0 rho0 cid0 H locs cells slots rho cid Ls C (D.st (fun q => z_pi (z_d1 (z_d1 q)))))
theorem z_ineg {G : Z_G} {I : Z_M} {E : Type} {pc : Nat} {la : List (Option Value)} {h : Z_H} {R : Option E} {k : E → Option (Int32 × Z_H)} {rest : List Value} {x : Int32} (hdg : decode I.2.1 pc = .ok (.ineg, 1)) (kk : Z_S G I (pc + 1) la (.int (-x) :: rest) h R k) : Z_S G I pc la (.int x :: rest) h R k := by
  refine z_next kk (fun _ e => e) (fun rF hF w => ?_)
  intro p e Rm s m args below meth c A Q n0 t0 rho0 cid0 H locs cells slots rho cid Ls C D
  obtain ⟨hx, hb, hml, hown, hts, -⟩ := id C
  exact lv_ineg hx hb hdg (w p e Rm s m args below meth c A Q n0 t0 rho0 cid0 H locs cells slots rho cid Ls C (D.st (fun q => z_pi (z_d1 q))))
theorem z_i2b {G : Z_G} {I : Z_M} {E : Type} {pc : Nat} {la : List (Option Value)} {h : Z_H} {R : Option E} {k : E → Option (Int32 × Z_H)} {rest : List Value} {x : Int32} (hdg : decode I.2.1 pc = .ok (.i2b, 1)) (kk : Z_S G I (pc + 1) la (.int x.toInt8.toInt32 :: rest) h R k) : Z_S G I pc la (.int x :: rest) h R k := by
  refine z_next kk (fun _ e => e) (fun rF hF w => ?_)
  intro p e Rm s m args below meth c A Q n0 t0 rho0 cid0 H locs cells slots rho cid Ls C D
  obtain ⟨hx, hb, hml, hown, hts, -⟩ := id C
  exact lv_i2b hx hb hdg rfl (w p e Rm s m args below meth c A Q n0 t0 rho0 cid0 H locs cells slots rho cid Ls C (D.st (fun q => z_pi (z_d1 q))))
theorem z_i2l {G : Z_G} {I : Z_M} {E : Type} {pc : Nat} {la : List (Option Value)} {h : Z_H} {R : Option E} {k : E → Option (Int32 × Z_H)} {rest : List Value} {x : Int32} (hdg : decode I.2.1 pc = .ok (.i2l, 1)) (kk : Z_S G I (pc + 1) la (.long x.toInt64 :: rest) h R k) : Z_S G I pc la (.int x :: rest) h R k := by
  refine z_next kk (fun _ e => e) (fun rF hF w => ?_)
  intro p e Rm s m args below meth c A Q n0 t0 rho0 cid0 H locs cells slots rho cid Ls C D
  obtain ⟨hx, hb, hml, hown, hts, -⟩ := id C
  exact lv_i2l hx hb hdg rfl (w p e Rm s m args below meth c A Q n0 t0 rho0 cid0 H locs cells slots rho cid Ls C (D.st (fun q => z_pl (z_d1 q))))
theorem z_lor {G : Z_G} {I : Z_M} {E : Type} {pc : Nat} {la : List (Option Value)} {h : Z_H} {R : Option E} {k : E → Option (Int32 × Z_H)} {rest : List Value} {x y : Int64} (hdg : decode I.2.1 pc = .ok (.lor, 1)) (kk : Z_S G I (pc + 1) la (.long (x ||| y) :: rest) h R k) : Z_S G I pc la (.long y :: .long x :: rest) h R k := by
  refine z_next kk (fun _ e => e) (fun rF hF w => ?_)
  intro p e Rm s m args below meth c A Q n0 t0 rho0 cid0 H locs cells slots rho cid Ls C D
  obtain ⟨hx, hb, hml, hown, hts, -⟩ := id C
  exact lv_lor hx hb hdg (w p e Rm s m args below meth c A Q n0 t0 rho0 cid0 H locs cells slots rho cid Ls C (D.st (fun q => z_pl (z_d1 (z_d1 q)))))
theorem z_lshl {G : Z_G} {I : Z_M} {E : Type} {pc : Nat} {la : List (Option Value)} {h : Z_H} {R : Option E} {k : E → Option (Int32 × Z_H)} {rest : List Value} {x : Int64} {y : Int32} (hdg : decode I.2.1 pc = .ok (.lshl, 1)) (kk : Z_S G I (pc + 1) la (.long (x <<< (y.toInt64 &&& 63)) :: rest) h R k) : Z_S G I pc la (.int y :: .long x :: rest) h R k := by
  refine z_next kk (fun _ e => e) (fun rF hF w => ?_)
  intro p e Rm s m args below meth c A Q n0 t0 rho0 cid0 H locs cells slots rho cid Ls C D
  obtain ⟨hx, hb, hml, hown, hts, -⟩ := id C
  exact lv_lshl hx hb hdg rfl (w p e Rm s m args below meth c A Q n0 t0 rho0 cid0 H locs cells slots rho cid Ls C (D.st (fun q => z_pl (z_d1 (z_d1 q)))))
theorem z_lcmp {G : Z_G} {I : Z_M} {E : Type} {pc : Nat} {la : List (Option Value)} {h : Z_H} {R : Option E} {k : E → Option (Int32 × Z_H)} {rest : List Value} {x y : Int64} (hdg : decode I.2.1 pc = .ok (.lcmp, 1)) (kk : Z_S G I (pc + 1) la (.int (lg_cmp x y) :: rest) h R k) : Z_S G I pc la (.long y :: .long x :: rest) h R k := by
  refine z_next kk (fun _ e => e) (fun rF hF w => ?_)
  intro p e Rm s m args below meth c A Q n0 t0 rho0 cid0 H locs cells slots rho cid Ls C D
  obtain ⟨hx, hb, hml, hown, hts, -⟩ := id C
  exact W.lcmp hx hb hdg (w p e Rm s m args below meth c A Q n0 t0 rho0 cid0 H locs cells slots rho cid Ls C (D.st (fun q => z_pi (z_d1 (z_d1 q)))))
theorem z_iconst {G : Z_G} {I : Z_M} {E : Type} {pc : Nat} {la : List (Option Value)} {h : Z_H} {R : Option E} {k : E → Option (Int32 × Z_H)} {rest : List Value} {n : Int} {v : Int32} (hdg : decode I.2.1 pc = .ok (.iconst n, 1)) (hv : Int32.ofInt n = v) (kk : Z_S G I (pc + 1) la (.int v :: rest) h R k) : Z_S G I pc la (rest) h R k := by
  refine z_next kk (fun _ e => e) (fun rF hF w => ?_)
  intro p e Rm s m args below meth c A Q n0 t0 rho0 cid0 H locs cells slots rho cid Ls C D
  obtain ⟨hx, hb, hml, hown, hts, -⟩ := id C
  exact lv_iconst hx hb hdg hv (w p e Rm s m args below meth c A Q n0 t0 rho0 cid0 H locs cells slots rho cid Ls C (D.st (fun q => z_pi q)))
theorem z_bipush {G : Z_G} {I : Z_M} {E : Type} {pc : Nat} {la : List (Option Value)} {h : Z_H} {R : Option E} {k : E → Option (Int32 × Z_H)} {rest : List Value} {n : Int} {v : Int32} (hdg : decode I.2.1 pc = .ok (.bipush n, 2)) (hv : (Int8.ofInt n).toInt32 = v) (kk : Z_S G I (pc + 2) la (.int v :: rest) h R k) : Z_S G I pc la (rest) h R k := by
  refine z_next kk (fun _ e => e) (fun rF hF w => ?_)
  intro p e Rm s m args below meth c A Q n0 t0 rho0 cid0 H locs cells slots rho cid Ls C D
  obtain ⟨hx, hb, hml, hown, hts, -⟩ := id C
  exact lv_bipush hx hb hdg hv (w p e Rm s m args below meth c A Q n0 t0 rho0 cid0 H locs cells slots rho cid Ls C (D.st (fun q => z_pi q)))
theorem z_sipush {G : Z_G} {I : Z_M} {E : Type} {pc : Nat} {la : List (Option Value)} {h : Z_H} {R : Option E} {k : E → Option (Int32 × Z_H)} {rest : List Value} {n : Int} {v : Int32} (hdg : decode I.2.1 pc = .ok (.sipush n, 3)) (hv : (Int16.ofInt n).toInt32 = v) (kk : Z_S G I (pc + 3) la (.int v :: rest) h R k) : Z_S G I pc la (rest) h R k := by
  refine z_next kk (fun _ e => e) (fun rF hF w => ?_)
  intro p e Rm s m args below meth c A Q n0 t0 rho0 cid0 H locs cells slots rho cid Ls C D
  obtain ⟨hx, hb, hml, hown, hts, -⟩ := id C
  exact lv_sipush hx hb hdg hv (w p e Rm s m args below meth c A Q n0 t0 rho0 cid0 H locs cells slots rho cid Ls C (D.st (fun q => z_pi q)))
theorem z_lconst {G : Z_G} {I : Z_M} {E : Type} {pc : Nat} {la : List (Option Value)} {h : Z_H} {R : Option E} {k : E → Option (Int32 × Z_H)} {rest : List Value} {n : Fin 2} {v : Int64} (hdg : decode I.2.1 pc = .ok (.lconst n, 1)) (hv : Int64.ofNat (n : Nat) = v) (kk : Z_S G I (pc + 1) la (.long v :: rest) h R k) : Z_S G I pc la (rest) h R k := by
  refine z_next kk (fun _ e => e) (fun rF hF w => ?_)
  intro p e Rm s m args below meth c A Q n0 t0 rho0 cid0 H locs cells slots rho cid Ls C D
  obtain ⟨hx, hb, hml, hown, hts, -⟩ := id C
  exact lv_lconst hx hb hdg hv (w p e Rm s m args below meth c A Q n0 t0 rho0 cid0 H locs cells slots rho cid Ls C (D.st (fun q => z_pl q)))
theorem z_ldc {G : Z_G} {I : Z_M} {E : Type} {pc : Nat} {la : List (Option Value)} {h : Z_H} {R : Option E} {k : E → Option (Int32 × Z_H)} {rest : List Value} {i : Nat} {v : Int32} (hdg : decode I.2.1 pc = .ok (.ldc i, 2)) (hw : Cond.constant I.2.2.2.2.1 i v ∈ Z_W) (kk : Z_S G I (pc + 2) la (.int v :: rest) h R k) : Z_S G I pc la (rest) h R k := by
  refine z_next kk (fun _ e => e) (fun rF hF w => ?_)
  intro p e Rm s m args below meth c A Q n0 t0 rho0 cid0 H locs cells slots rho cid Ls C D
  obtain ⟨hx, hb, hml, hown, hts, -⟩ := id C
  exact lv_ldc hx hb hown (hts _ hw) hdg (w p e Rm s m args below meth c A Q n0 t0 rho0 cid0 H locs cells slots rho cid Ls C (D.st (fun q => z_pi q)))
theorem z_ldcw {G : Z_G} {I : Z_M} {E : Type} {pc : Nat} {la : List (Option Value)} {h : Z_H} {R : Option E} {k : E → Option (Int32 × Z_H)} {rest : List Value} {i : Nat} {v : Int32} (hdg : decode I.2.1 pc = .ok (.ldc_w i, 3)) (hw : Cond.constant I.2.2.2.2.1 i v ∈ Z_W) (kk : Z_S G I (pc + 3) la (.int v :: rest) h R k) : Z_S G I pc la (rest) h R k := by
  refine z_next kk (fun _ e => e) (fun rF hF w => ?_)
  intro p e Rm s m args below meth c A Q n0 t0 rho0 cid0 H locs cells slots rho cid Ls C D
  obtain ⟨hx, hb, hml, hown, hts, -⟩ := id C
  exact lv_ldcw hx hb hown (hts _ hw) hdg (w p e Rm s m args below meth c A Q n0 t0 rho0 cid0 H locs cells slots rho cid Ls C (D.st (fun q => z_pi q)))
theorem z_ldc2 {G : Z_G} {I : Z_M} {E : Type} {pc : Nat} {la : List (Option Value)} {h : Z_H} {R : Option E} {k : E → Option (Int32 × Z_H)} {rest : List Value} {i : Nat} {v : Int64} (hdg : decode I.2.1 pc = .ok (.ldc2_w i, 3)) (hw : Cond.constantLong I.2.2.2.2.1 i v ∈ Z_W) (kk : Z_S G I (pc + 3) la (.long v :: rest) h R k) : Z_S G I pc la (rest) h R k := by
  refine z_next kk (fun _ e => e) (fun rF hF w => ?_)
  intro p e Rm s m args below meth c A Q n0 t0 rho0 cid0 H locs cells slots rho cid Ls C D
  obtain ⟨hx, hb, hml, hown, hts, -⟩ := id C
  exact lv_ldc2 hx hb hown (hts _ hw) hdg (w p e Rm s m args below meth c A Q n0 t0 rho0 cid0 H locs cells slots rho cid Ls C (D.st (fun q => z_pl q)))
theorem z_dup {G : Z_G} {I : Z_M} {E : Type} {pc : Nat} {la : List (Option Value)} {h : Z_H} {R : Option E} {k : E → Option (Int32 × Z_H)} {rest : List Value} {v : Value} (hdg : decode I.2.1 pc = .ok (.dup, 1)) (hv : v.category = 1) (kk : Z_S G I (pc + 1) la (v :: v :: rest) h R k) : Z_S G I pc la (v :: rest) h R k := by
  refine z_next kk (fun _ e => e) (fun rF hF w => ?_)
  intro p e Rm s m args below meth c A Q n0 t0 rho0 cid0 H locs cells slots rho cid Ls C D
  obtain ⟨hx, hb, hml, hown, hts, -⟩ := id C
  exact lv_dup hx hb hdg ((z_rn_cat rho v).trans hv) (w p e Rm s m args below meth c A Q n0 t0 rho0 cid0 H locs cells slots rho cid Ls C (D.st (fun q => z_sk_cons.mpr ⟨(z_sk_cons.mp q).1, q⟩)))
theorem z_dup2 {G : Z_G} {I : Z_M} {E : Type} {pc : Nat} {la : List (Option Value)} {h : Z_H} {R : Option E} {k : E → Option (Int32 × Z_H)} {rest : List Value} {v u : Value} (hdg : decode I.2.1 pc = .ok (.dup2, 1)) (hv : v.category = 1) (hu : u.category = 1) (kk : Z_S G I (pc + 1) la (v :: u :: v :: u :: rest) h R k) : Z_S G I pc la (v :: u :: rest) h R k := by
  refine z_next kk (fun _ e => e) (fun rF hF w => ?_)
  intro p e Rm s m args below meth c A Q n0 t0 rho0 cid0 H locs cells slots rho cid Ls C D
  obtain ⟨hx, hb, hml, hown, hts, -⟩ := id C
  exact lv_dup2_11 hx hb hdg ((z_rn_cat rho v).trans hv) ((z_rn_cat rho u).trans hu) (w p e Rm s m args below meth c A Q n0 t0 rho0 cid0 H locs cells slots rho cid Ls C (D.st (fun q => z_sk_cons.mpr ⟨(z_sk_cons.mp q).1, z_sk_cons.mpr ⟨(z_sk_cons.mp (z_d1 q)).1, q⟩⟩)))
theorem z_pop {G : Z_G} {I : Z_M} {E : Type} {pc : Nat} {la : List (Option Value)} {h : Z_H} {R : Option E} {k : E → Option (Int32 × Z_H)} {rest : List Value} {v : Value} (hdg : decode I.2.1 pc = .ok (.pop, 1)) (hv : v.category = 1) (kk : Z_S G I (pc + 1) la (rest) h R k) : Z_S G I pc la (v :: rest) h R k := by
  refine z_next kk (fun _ e => e) (fun rF hF w => ?_)
  intro p e Rm s m args below meth c A Q n0 t0 rho0 cid0 H locs cells slots rho cid Ls C D
  obtain ⟨hx, hb, hml, hown, hts, -⟩ := id C
  exact lv_pop hx hb hdg ((z_rn_cat rho v).trans hv) (w p e Rm s m args below meth c A Q n0 t0 rho0 cid0 H locs cells slots rho cid Ls C (D.st (fun q => z_d1 q)))
theorem z_iload_n {G : Z_G} {I : Z_M} {E : Type} {pc : Nat} {la : List (Option Value)} {h : Z_H} {R : Option E} {k : E → Option (Int32 × Z_H)} {rest : List Value} {j : Fin 4} {i : Nat} {x : Int32} (hdg : decode I.2.1 pc = .ok (.iload_n j, 1)) (hi : (j : Nat) = i) (hv : la[i]? = some (some (.int x))) (kk : Z_S G I (pc + 1) la (.int x :: rest) h R k) : Z_S G I pc la (rest) h R k := by
  refine z_next kk (fun _ e => e) (fun rF hF w => ?_)
  intro p e Rm s m args below meth c A Q n0 t0 rho0 cid0 H locs cells slots rho cid Ls C D
  obtain ⟨hx, hb, hml, hown, hts, -⟩ := id C
  exact lv_iload_n hx hb hdg hi (D.2.2.2.1.2.2 _ _ hv) (w p e Rm s m args below meth c A Q n0 t0 rho0 cid0 H locs cells slots rho cid Ls C (D.st (fun q => z_pi q)))
theorem z_iload {G : Z_G} {I : Z_M} {E : Type} {pc : Nat} {la : List (Option Value)} {h : Z_H} {R : Option E} {k : E → Option (Int32 × Z_H)} {rest : List Value} {i : Nat} {x : Int32} (hdg : decode I.2.1 pc = .ok (.iload i, 2)) (hv : la[i]? = some (some (.int x))) (kk : Z_S G I (pc + 2) la (.int x :: rest) h R k) : Z_S G I pc la (rest) h R k := by
  refine z_next kk (fun _ e => e) (fun rF hF w => ?_)
  intro p e Rm s m args below meth c A Q n0 t0 rho0 cid0 H locs cells slots rho cid Ls C D
  obtain ⟨hx, hb, hml, hown, hts, -⟩ := id C
  exact lv_iload hx hb hdg (D.2.2.2.1.2.2 _ _ hv) (w p e Rm s m args below meth c A Q n0 t0 rho0 cid0 H locs cells slots rho cid Ls C (D.st (fun q => z_pi q)))
theorem z_lload_n {G : Z_G} {I : Z_M} {E : Type} {pc : Nat} {la : List (Option Value)} {h : Z_H} {R : Option E} {k : E → Option (Int32 × Z_H)} {rest : List Value} {j : Fin 4} {i : Nat} {x : Int64} (hdg : decode I.2.1 pc = .ok (.lload_n j, 1)) (hi : (j : Nat) = i) (hv : la[i]? = some (some (.long x))) (kk : Z_S G I (pc + 1) la (.long x :: rest) h R k) : Z_S G I pc la (rest) h R k := by
  refine z_next kk (fun _ e => e) (fun rF hF w => ?_)
  intro p e Rm s m args below meth c A Q n0 t0 rho0 cid0 H locs cells slots rho cid Ls C D
  obtain ⟨hx, hb, hml, hown, hts, -⟩ := id C
  exact lv_lload_n hx hb hdg hi (D.2.2.2.1.2.2 _ _ hv) (w p e Rm s m args below meth c A Q n0 t0 rho0 cid0 H locs cells slots rho cid Ls C (D.st (fun q => z_pl q)))
theorem z_lload {G : Z_G} {I : Z_M} {E : Type} {pc : Nat} {la : List (Option Value)} {h : Z_H} {R : Option E} {k : E → Option (Int32 × Z_H)} {rest : List Value} {i : Nat} {x : Int64} (hdg : decode I.2.1 pc = .ok (.lload i, 2)) (hv : la[i]? = some (some (.long x))) (kk : Z_S G I (pc + 2) la (.long x :: rest) h R k) : Z_S G I pc la (rest) h R k := by
  refine z_next kk (fun _ e => e) (fun rF hF w => ?_)
  intro p e Rm s m args below meth c A Q n0 t0 rho0 cid0 H locs cells slots rho cid Ls C D
  obtain ⟨hx, hb, hml, hown, hts, -⟩ := id C
  exact lv_lload hx hb hdg (D.2.2.2.1.2.2 _ _ hv) (w p e Rm s m args below meth c A Q n0 t0 rho0 cid0 H locs cells slots rho cid Ls C (D.st (fun q => z_pl q)))
theorem z_aload_n {G : Z_G} {I : Z_M} {E : Type} {pc : Nat} {la : List (Option Value)} {h : Z_H} {R : Option E} {k : E → Option (Int32 × Z_H)} {rest : List Value} {j : Fin 4} {i : Nat} {x : Nat} (hdg : decode I.2.1 pc = .ok (.aload_n j, 1)) (hi : (j : Nat) = i) (hv : la[i]? = some (some (.ref x))) (kk : Z_S G I (pc + 1) la (.ref x :: rest) h R k) : Z_S G I pc la (rest) h R k := by
  refine z_next kk (fun _ e => e) (fun rF hF w => ?_)
  intro p e Rm s m args below meth c A Q n0 t0 rho0 cid0 H locs cells slots rho cid Ls C D
  obtain ⟨hx, hb, hml, hown, hts, -⟩ := id C
  exact lv_aload_n hx hb hdg hi (D.2.2.2.1.2.2 _ _ hv) (w p e Rm s m args below meth c A Q n0 t0 rho0 cid0 H locs cells slots rho cid Ls C (D.st (fun q => z_sk_cons.mpr ⟨D.2.2.1 _ _ hv, q⟩)))
theorem z_aload {G : Z_G} {I : Z_M} {E : Type} {pc : Nat} {la : List (Option Value)} {h : Z_H} {R : Option E} {k : E → Option (Int32 × Z_H)} {rest : List Value} {i : Nat} {x : Nat} (hdg : decode I.2.1 pc = .ok (.aload i, 2)) (hv : la[i]? = some (some (.ref x))) (kk : Z_S G I (pc + 2) la (.ref x :: rest) h R k) : Z_S G I pc la (rest) h R k := by
  refine z_next kk (fun _ e => e) (fun rF hF w => ?_)
  intro p e Rm s m args below meth c A Q n0 t0 rho0 cid0 H locs cells slots rho cid Ls C D
  obtain ⟨hx, hb, hml, hown, hts, -⟩ := id C
  exact lv_aload hx hb hdg (D.2.2.2.1.2.2 _ _ hv) (w p e Rm s m args below meth c A Q n0 t0 rho0 cid0 H locs cells slots rho cid Ls C (D.st (fun q => z_sk_cons.mpr ⟨D.2.2.1 _ _ hv, q⟩)))
theorem z_sload_n {G : Z_G} {I : Z_M} {E : Type} {pc : Nat} {la : List (Option Value)} {h : Z_H} {R : Option E} {k : E → Option (Int32 × Z_H)} {rest : List Value} {j : Fin 4} {i x : Nat} (hdg : decode I.2.1 pc = .ok (.aload_n j, 1)) (hi : (j : Nat) = i) (hv : la[i]? = some (some (.retAddr x))) (kk : Z_S G I (pc + 1) la (.retAddr x :: rest) h R k) : Z_S G I pc la (rest) h R k := by
  refine z_next kk (fun _ e => e) (fun rF hF w => ?_)
  intro p e Rm s m args below meth c A Q n0 t0 rho0 cid0 H locs cells slots rho cid Ls C D
  obtain ⟨hx, hb, hml, hown, hts, -⟩ := id C
  exact lv_aload_n hx hb hdg hi (D.2.2.2.1.2.2 _ _ hv) (w p e Rm s m args below meth c A Q n0 t0 rho0 cid0 H locs cells slots rho cid Ls C (D.st (fun q => z_sk_cons.mpr ⟨trivial, q⟩)))
theorem z_istore_n {G : Z_G} {I : Z_M} {E : Type} {pc : Nat} {la : List (Option Value)} {h : Z_H} {R : Option E} {k : E → Option (Int32 × Z_H)} {rest : List Value} {x : Int32} {i : Nat} {la' : List (Option Value)} {j : Fin 4} (hdg : decode I.2.1 pc = .ok (.istore_n j, 1)) (hi : (j : Nat) = i) (hn : i < I.2.2.1) (hc : z_c2 la i = true) (hl : la.set i (some (.int x)) = la') (kk : Z_S G I (pc + 1) la' rest h R k) : Z_S G I pc la (.int x :: rest) h R k := by
  refine z_next kk (fun _ e => e) (fun rF hF w => ?_)
  intro p e Rm s m args below meth c A Q n0 t0 rho0 cid0 H locs cells slots rho cid Ls C D
  obtain ⟨hx, hb, hml, hown, hts, -⟩ := id C
  obtain ⟨d1, d2, d3, d4, d5⟩ := id D
  refine lv_istore_n hx hb hdg hi d4.has hn rfl (fun Ls' hL => ?_)
  exact w p e Rm s m args below meth c A Q n0 t0 rho0 cid0 H locs cells slots rho cid Ls' C ⟨d1, z_d1 d2, d3.set (z_sk_cons.mp d2).1 hl, z_LO.set (v := .int x) hL hc hl, d5⟩
theorem z_istore {G : Z_G} {I : Z_M} {E : Type} {pc : Nat} {la : List (Option Value)} {h : Z_H} {R : Option E} {k : E → Option (Int32 × Z_H)} {rest : List Value} {x : Int32} {i : Nat} {la' : List (Option Value)} (hdg : decode I.2.1 pc = .ok (.istore i, 2)) (hn : i < I.2.2.1) (hc : z_c2 la i = true) (hl : la.set i (some (.int x)) = la') (kk : Z_S G I (pc + 2) la' rest h R k) : Z_S G I pc la (.int x :: rest) h R k := by
  refine z_next kk (fun _ e => e) (fun rF hF w => ?_)
  intro p e Rm s m args below meth c A Q n0 t0 rho0 cid0 H locs cells slots rho cid Ls C D
  obtain ⟨hx, hb, hml, hown, hts, -⟩ := id C
  obtain ⟨d1, d2, d3, d4, d5⟩ := id D
  refine lv_istore hx hb hdg d4.has hn rfl (fun Ls' hL => ?_)
  exact w p e Rm s m args below meth c A Q n0 t0 rho0 cid0 H locs cells slots rho cid Ls' C ⟨d1, z_d1 d2, d3.set (z_sk_cons.mp d2).1 hl, z_LO.set (v := .int x) hL hc hl, d5⟩
theorem z_astore_n {G : Z_G} {I : Z_M} {E : Type} {pc : Nat} {la : List (Option Value)} {h : Z_H} {R : Option E} {k : E → Option (Int32 × Z_H)} {rest : List Value} {x : Nat} {i : Nat} {la' : List (Option Value)} {j : Fin 4} (hdg : decode I.2.1 pc = .ok (.astore_n j, 1)) (hi : (j : Nat) = i) (hn : i < I.2.2.1) (hc : z_c2 la i = true) (hl : la.set i (some (.ref x)) = la') (kk : Z_S G I (pc + 1) la' rest h R k) : Z_S G I pc la (.ref x :: rest) h R k := by
  refine z_next kk (fun _ e => e) (fun rF hF w => ?_)
  intro p e Rm s m args below meth c A Q n0 t0 rho0 cid0 H locs cells slots rho cid Ls C D
  obtain ⟨hx, hb, hml, hown, hts, -⟩ := id C
  obtain ⟨d1, d2, d3, d4, d5⟩ := id D
  refine lv_astore_n hx hb hdg hi d4.has hn rfl (fun Ls' hL => ?_)
  exact w p e Rm s m args below meth c A Q n0 t0 rho0 cid0 H locs cells slots rho cid Ls' C ⟨d1, z_d1 d2, d3.set (z_sk_cons.mp d2).1 hl, z_LO.set (v := .ref x) hL hc hl, d5⟩
theorem z_astore {G : Z_G} {I : Z_M} {E : Type} {pc : Nat} {la : List (Option Value)} {h : Z_H} {R : Option E} {k : E → Option (Int32 × Z_H)} {rest : List Value} {x : Nat} {i : Nat} {la' : List (Option Value)} (hdg : decode I.2.1 pc = .ok (.astore i, 2)) (hn : i < I.2.2.1) (hc : z_c2 la i = true) (hl : la.set i (some (.ref x)) = la') (kk : Z_S G I (pc + 2) la' rest h R k) : Z_S G I pc la (.ref x :: rest) h R k := by
  refine z_next kk (fun _ e => e) (fun rF hF w => ?_)
  intro p e Rm s m args below meth c A Q n0 t0 rho0 cid0 H locs cells slots rho cid Ls C D
  obtain ⟨hx, hb, hml, hown, hts, -⟩ := id C
  obtain ⟨d1, d2, d3, d4, d5⟩ := id D
  refine lv_astore hx hb hdg d4.has hn rfl (fun Ls' hL => ?_)
  exact w p e Rm s m args below meth c A Q n0 t0 rho0 cid0 H locs cells slots rho cid Ls' C ⟨d1, z_d1 d2, d3.set (z_sk_cons.mp d2).1 hl, z_LO.set (v := .ref x) hL hc hl, d5⟩
theorem z_iinc {G : Z_G} {I : Z_M} {E : Type} {pc : Nat} {la : List (Option Value)} {h : Z_H} {R : Option E} {k : E → Option (Int32 × Z_H)} {rest : List Value} {i : Nat} {n : Int} {x v : Int32} {la' : List (Option Value)} (hdg : decode I.2.1 pc = .ok (.iinc i n, 3)) (hv : la[i]? = some (some (.int x))) (he : x + Int32.ofInt n = v) (hn : i < I.2.2.1) (hc : z_c2 la i = true) (hl : la.set i (some (.int v)) = la') (kk : Z_S G I (pc + 3) la' rest h R k) : Z_S G I pc la rest h R k := by
  refine z_next kk (fun _ e => e) (fun rF hF w => ?_)
  intro p e Rm s m args below meth c A Q n0 t0 rho0 cid0 H locs cells slots rho cid Ls C D
  obtain ⟨hx, hb, hml, hown, hts, -⟩ := id C
  obtain ⟨d1, d2, d3, d4, d5⟩ := id D
  obtain ⟨kx, hkx⟩ := List.getElem?_of_mem (z_pr_mem (rho := rho) hv)
  refine lv_iinc (k := kx) hx hb hdg d4.has hkx he hn rfl (fun Ls' hL => ?_)
  exact w p e Rm s m args below meth c A Q n0 t0 rho0 cid0 H locs cells slots rho cid Ls' C ⟨d1, d2, d3.set (v := .int v) trivial hl, z_LO.set (v := .int v) hL hc hl, d5⟩
theorem z_goto {G : Z_G} {I : Z_M} {E : Type} {pc : Nat} {la : List (Option Value)} {h : Z_H} {R : Option E} {k : E → Option (Int32 × Z_H)} {rest : List Value} {off : Int} {tgt : Nat} (hdg : decode I.2.1 pc = .ok (.goto off, 3)) (ht : (pc : Int) + off = (tgt : Int)) (kk : Z_S G I tgt la rest h R k) : Z_S G I pc la rest h R k := by
  refine z_next kk (fun _ e => e) (fun rF hF w => ?_)
  intro p e Rm s m args below meth c A Q n0 t0 rho0 cid0 H locs cells slots rho cid Ls C D
  obtain ⟨hx, hb, -⟩ := id C
  exact lv_goto hx hb hdg ht (w p e Rm s m args below meth c A Q n0 t0 rho0 cid0 H locs cells slots rho cid Ls C D)
theorem z_if_eq {G : Z_G} {I : Z_M} {E : Type} {pc : Nat} {la : List (Option Value)} {h : Z_H} {R1 R2 : Option E} {k : E → Option (Int32 × Z_H)} {rest : List Value} {x : Int32} {off : Int} {tgt : Nat} (hdg : decode I.2.1 pc = .ok (.ifCond .eq off, 3)) (ht : (pc : Int) + off = (tgt : Int)) (kt : x = 0 → Z_S G I tgt la rest h R1 k) (kf : ¬ (x = 0) → Z_S G I (pc + 3) la rest h R2 k) : Z_S G I pc la (.int x :: rest) h (if x = 0 then R1 else R2) k := by
  intro rF hF e
  by_cases hc : x = 0
  · rw [if_pos hc] at e
    obtain ⟨hm, w⟩ := kt hc rF hF e
    refine ⟨hm, ?_⟩
    intro p e Rm s m args below meth c A Q n0 t0 rho0 cid0 H locs cells slots rho cid Ls C D
    obtain ⟨hx, hb, -⟩ := id C
    exact lv_if_eq hx hb hdg ht (fun _ => w p e Rm s m args below meth c A Q n0 t0 rho0 cid0 H locs cells slots rho cid Ls C (D.st (fun q => z_d1 q))) (fun q => absurd hc q)
  · rw [if_neg hc] at e
    obtain ⟨hm, w⟩ := kf hc rF hF e
    refine ⟨hm, ?_⟩
    intro p e Rm s m args below meth c A Q n0 t0 rho0 cid0 H locs cells slots rho cid Ls C D
    obtain ⟨hx, hb, -⟩ := id C
    exact lv_if_eq hx hb hdg ht (fun q => absurd q hc) (fun _ => w p e Rm s m args below meth c A Q n0 t0 rho0 cid0 H locs cells slots rho cid Ls C (D.st (fun q => z_d1 q)))
theorem z_if_lt {G : Z_G} {I : Z_M} {E : Type} {pc : Nat} {la : List (Option Value)} {h : Z_H} {R1 R2 : Option E} {k : E → Option (Int32 × Z_H)} {rest : List Value} {x : Int32} {off : Int} {tgt : Nat} (hdg : decode I.2.1 pc = .ok (.ifCond .lt off, 3)) (ht : (pc : Int) + off = (tgt : Int)) (kt : x < 0 → Z_S G I tgt la rest h R1 k) (kf : ¬ (x < 0) → Z_S G I (pc + 3) la rest h R2 k) : Z_S G I pc la (.int x :: rest) h (if x < 0 then R1 else R2) k := by
  intro rF hF e
  by_cases hc : x < 0
  · rw [if_pos hc] at e
    obtain ⟨hm, w⟩ := kt hc rF hF e
    refine ⟨hm, ?_⟩
    intro p e Rm s m args below meth c A Q n0 t0 rho0 cid0 H locs cells slots rho cid Ls C D
    obtain ⟨hx, hb, -⟩ := id C
    exact lv_if_lt hx hb hdg ht (fun _ => w p e Rm s m args below meth c A Q n0 t0 rho0 cid0 H locs cells slots rho cid Ls C (D.st (fun q => z_d1 q))) (fun q => absurd hc q)
  · rw [if_neg hc] at e
    obtain ⟨hm, w⟩ := kf hc rF hF e
    refine ⟨hm, ?_⟩
    intro p e Rm s m args below meth c A Q n0 t0 rho0 cid0 H locs cells slots rho cid Ls C D
    obtain ⟨hx, hb, -⟩ := id C
    exact lv_if_lt hx hb hdg ht (fun q => absurd q hc) (fun _ => w p e Rm s m args below meth c A Q n0 t0 rho0 cid0 H locs cells slots rho cid Ls C (D.st (fun q => z_d1 q)))
theorem z_if_ge {G : Z_G} {I : Z_M} {E : Type} {pc : Nat} {la : List (Option Value)} {h : Z_H} {R1 R2 : Option E} {k : E → Option (Int32 × Z_H)} {rest : List Value} {x : Int32} {off : Int} {tgt : Nat} (hdg : decode I.2.1 pc = .ok (.ifCond .ge off, 3)) (ht : (pc : Int) + off = (tgt : Int)) (kt : 0 ≤ x → Z_S G I tgt la rest h R1 k) (kf : ¬ (0 ≤ x) → Z_S G I (pc + 3) la rest h R2 k) : Z_S G I pc la (.int x :: rest) h (if 0 ≤ x then R1 else R2) k := by
  intro rF hF e
  by_cases hc : 0 ≤ x
  · rw [if_pos hc] at e
    obtain ⟨hm, w⟩ := kt hc rF hF e
    refine ⟨hm, ?_⟩
    intro p e Rm s m args below meth c A Q n0 t0 rho0 cid0 H locs cells slots rho cid Ls C D
    obtain ⟨hx, hb, -⟩ := id C
    exact lv_if_ge hx hb hdg ht (fun _ => w p e Rm s m args below meth c A Q n0 t0 rho0 cid0 H locs cells slots rho cid Ls C (D.st (fun q => z_d1 q))) (fun q => absurd hc q)
  · rw [if_neg hc] at e
    obtain ⟨hm, w⟩ := kf hc rF hF e
    refine ⟨hm, ?_⟩
    intro p e Rm s m args below meth c A Q n0 t0 rho0 cid0 H locs cells slots rho cid Ls C D
    obtain ⟨hx, hb, -⟩ := id C
    exact lv_if_ge hx hb hdg ht (fun q => absurd q hc) (fun _ => w p e Rm s m args below meth c A Q n0 t0 rho0 cid0 H locs cells slots rho cid Ls C (D.st (fun q => z_d1 q)))
theorem z_if_gt {G : Z_G} {I : Z_M} {E : Type} {pc : Nat} {la : List (Option Value)} {h : Z_H} {R1 R2 : Option E} {k : E → Option (Int32 × Z_H)} {rest : List Value} {x : Int32} {off : Int} {tgt : Nat} (hdg : decode I.2.1 pc = .ok (.ifCond .gt off, 3)) (ht : (pc : Int) + off = (tgt : Int)) (kt : 0 < x → Z_S G I tgt la rest h R1 k) (kf : ¬ (0 < x) → Z_S G I (pc + 3) la rest h R2 k) : Z_S G I pc la (.int x :: rest) h (if 0 < x then R1 else R2) k := by
  intro rF hF e
  by_cases hc : 0 < x
  · rw [if_pos hc] at e
    obtain ⟨hm, w⟩ := kt hc rF hF e
    refine ⟨hm, ?_⟩
    intro p e Rm s m args below meth c A Q n0 t0 rho0 cid0 H locs cells slots rho cid Ls C D
    obtain ⟨hx, hb, -⟩ := id C
    exact lv_if_gt hx hb hdg ht (fun _ => w p e Rm s m args below meth c A Q n0 t0 rho0 cid0 H locs cells slots rho cid Ls C (D.st (fun q => z_d1 q))) (fun q => absurd hc q)
  · rw [if_neg hc] at e
    obtain ⟨hm, w⟩ := kf hc rF hF e
    refine ⟨hm, ?_⟩
    intro p e Rm s m args below meth c A Q n0 t0 rho0 cid0 H locs cells slots rho cid Ls C D
    obtain ⟨hx, hb, -⟩ := id C
    exact lv_if_gt hx hb hdg ht (fun q => absurd q hc) (fun _ => w p e Rm s m args below meth c A Q n0 t0 rho0 cid0 H locs cells slots rho cid Ls C (D.st (fun q => z_d1 q)))
theorem z_if_le {G : Z_G} {I : Z_M} {E : Type} {pc : Nat} {la : List (Option Value)} {h : Z_H} {R1 R2 : Option E} {k : E → Option (Int32 × Z_H)} {rest : List Value} {x : Int32} {off : Int} {tgt : Nat} (hdg : decode I.2.1 pc = .ok (.ifCond .le off, 3)) (ht : (pc : Int) + off = (tgt : Int)) (kt : x ≤ 0 → Z_S G I tgt la rest h R1 k) (kf : ¬ (x ≤ 0) → Z_S G I (pc + 3) la rest h R2 k) : Z_S G I pc la (.int x :: rest) h (if x ≤ 0 then R1 else R2) k := by
  intro rF hF e
  by_cases hc : x ≤ 0
  · rw [if_pos hc] at e
    obtain ⟨hm, w⟩ := kt hc rF hF e
    refine ⟨hm, ?_⟩
    intro p e Rm s m args below meth c A Q n0 t0 rho0 cid0 H locs cells slots rho cid Ls C D
    obtain ⟨hx, hb, -⟩ := id C
    exact lv_if_le hx hb hdg ht (fun _ => w p e Rm s m args below meth c A Q n0 t0 rho0 cid0 H locs cells slots rho cid Ls C (D.st (fun q => z_d1 q))) (fun q => absurd hc q)
  · rw [if_neg hc] at e
    obtain ⟨hm, w⟩ := kf hc rF hF e
    refine ⟨hm, ?_⟩
    intro p e Rm s m args below meth c A Q n0 t0 rho0 cid0 H locs cells slots rho cid Ls C D
    obtain ⟨hx, hb, -⟩ := id C
    exact lv_if_le hx hb hdg ht (fun q => absurd q hc) (fun _ => w p e Rm s m args below meth c A Q n0 t0 rho0 cid0 H locs cells slots rho cid Ls C (D.st (fun q => z_d1 q)))
theorem z_ic_eq {G : Z_G} {I : Z_M} {E : Type} {pc : Nat} {la : List (Option Value)} {h : Z_H} {R1 R2 : Option E} {k : E → Option (Int32 × Z_H)} {rest : List Value} {x y : Int32} {off : Int} {tgt : Nat} (hdg : decode I.2.1 pc = .ok (.if_icmp .eq off, 3)) (ht : (pc : Int) + off = (tgt : Int)) (kt : x = y → Z_S G I tgt la rest h R1 k) (kf : ¬ (x = y) → Z_S G I (pc + 3) la rest h R2 k) : Z_S G I pc la (.int y :: .int x :: rest) h (if x = y then R1 else R2) k := by
  intro rF hF e
  by_cases hc : x = y
  · rw [if_pos hc] at e
    obtain ⟨hm, w⟩ := kt hc rF hF e
    refine ⟨hm, ?_⟩
    intro p e Rm s m args below meth c A Q n0 t0 rho0 cid0 H locs cells slots rho cid Ls C D
    obtain ⟨hx, hb, -⟩ := id C
    exact lv_icmp_eq hx hb hdg ht (fun _ => w p e Rm s m args below meth c A Q n0 t0 rho0 cid0 H locs cells slots rho cid Ls C (D.st (fun q => z_d1 (z_d1 q)))) (fun q => absurd hc q)
  · rw [if_neg hc] at e
    obtain ⟨hm, w⟩ := kf hc rF hF e
    refine ⟨hm, ?_⟩
    intro p e Rm s m args below meth c A Q n0 t0 rho0 cid0 H locs cells slots rho cid Ls C D
    obtain ⟨hx, hb, -⟩ := id C
    exact lv_icmp_eq hx hb hdg ht (fun q => absurd q hc) (fun _ => w p e Rm s m args below meth c A Q n0 t0 rho0 cid0 H locs cells slots rho cid Ls C (D.st (fun q => z_d1 (z_d1 q))))
theorem z_ic_lt {G : Z_G} {I : Z_M} {E : Type} {pc : Nat} {la : List (Option Value)} {h : Z_H} {R1 R2 : Option E} {k : E → Option (Int32 × Z_H)} {rest : List Value} {x y : Int32} {off : Int} {tgt : Nat} (hdg : decode I.2.1 pc = .ok (.if_icmp .lt off, 3)) (ht : (pc : Int) + off = (tgt : Int)) (kt : x < y → Z_S G I tgt la rest h R1 k) (kf : ¬ (x < y) → Z_S G I (pc + 3) la rest h R2 k) : Z_S G I pc la (.int y :: .int x :: rest) h (if x < y then R1 else R2) k := by
  intro rF hF e
  by_cases hc : x < y
  · rw [if_pos hc] at e
    obtain ⟨hm, w⟩ := kt hc rF hF e
    refine ⟨hm, ?_⟩
    intro p e Rm s m args below meth c A Q n0 t0 rho0 cid0 H locs cells slots rho cid Ls C D
    obtain ⟨hx, hb, -⟩ := id C
    exact lv_icmp_lt hx hb hdg ht (fun _ => w p e Rm s m args below meth c A Q n0 t0 rho0 cid0 H locs cells slots rho cid Ls C (D.st (fun q => z_d1 (z_d1 q)))) (fun q => absurd hc q)
  · rw [if_neg hc] at e
    obtain ⟨hm, w⟩ := kf hc rF hF e
    refine ⟨hm, ?_⟩
    intro p e Rm s m args below meth c A Q n0 t0 rho0 cid0 H locs cells slots rho cid Ls C D
    obtain ⟨hx, hb, -⟩ := id C
    exact lv_icmp_lt hx hb hdg ht (fun q => absurd q hc) (fun _ => w p e Rm s m args below meth c A Q n0 t0 rho0 cid0 H locs cells slots rho cid Ls C (D.st (fun q => z_d1 (z_d1 q))))
theorem z_ic_ge {G : Z_G} {I : Z_M} {E : Type} {pc : Nat} {la : List (Option Value)} {h : Z_H} {R1 R2 : Option E} {k : E → Option (Int32 × Z_H)} {rest : List Value} {x y : Int32} {off : Int} {tgt : Nat} (hdg : decode I.2.1 pc = .ok (.if_icmp .ge off, 3)) (ht : (pc : Int) + off = (tgt : Int)) (kt : y ≤ x → Z_S G I tgt la rest h R1 k) (kf : ¬ (y ≤ x) → Z_S G I (pc + 3) la rest h R2 k) : Z_S G I pc la (.int y :: .int x :: rest) h (if y ≤ x then R1 else R2) k := by
  intro rF hF e
  by_cases hc : y ≤ x
  · rw [if_pos hc] at e
    obtain ⟨hm, w⟩ := kt hc rF hF e
    refine ⟨hm, ?_⟩
    intro p e Rm s m args below meth c A Q n0 t0 rho0 cid0 H locs cells slots rho cid Ls C D
    obtain ⟨hx, hb, -⟩ := id C
    exact lv_icmp_ge hx hb hdg ht (fun _ => w p e Rm s m args below meth c A Q n0 t0 rho0 cid0 H locs cells slots rho cid Ls C (D.st (fun q => z_d1 (z_d1 q)))) (fun q => absurd hc q)
  · rw [if_neg hc] at e
    obtain ⟨hm, w⟩ := kf hc rF hF e
    refine ⟨hm, ?_⟩
    intro p e Rm s m args below meth c A Q n0 t0 rho0 cid0 H locs cells slots rho cid Ls C D
    obtain ⟨hx, hb, -⟩ := id C
    exact lv_icmp_ge hx hb hdg ht (fun q => absurd q hc) (fun _ => w p e Rm s m args below meth c A Q n0 t0 rho0 cid0 H locs cells slots rho cid Ls C (D.st (fun q => z_d1 (z_d1 q))))
theorem z_ic_gt {G : Z_G} {I : Z_M} {E : Type} {pc : Nat} {la : List (Option Value)} {h : Z_H} {R1 R2 : Option E} {k : E → Option (Int32 × Z_H)} {rest : List Value} {x y : Int32} {off : Int} {tgt : Nat} (hdg : decode I.2.1 pc = .ok (.if_icmp .gt off, 3)) (ht : (pc : Int) + off = (tgt : Int)) (kt : y < x → Z_S G I tgt la rest h R1 k) (kf : ¬ (y < x) → Z_S G I (pc + 3) la rest h R2 k) : Z_S G I pc la (.int y :: .int x :: rest) h (if y < x then R1 else R2) k := by
  intro rF hF e
  by_cases hc : y < x
  · rw [if_pos hc] at e
    obtain ⟨hm, w⟩ := kt hc rF hF e
    refine ⟨hm, ?_⟩
    intro p e Rm s m args below meth c A Q n0 t0 rho0 cid0 H locs cells slots rho cid Ls C D
    obtain ⟨hx, hb, -⟩ := id C
    exact lv_icmp_gt hx hb hdg ht (fun _ => w p e Rm s m args below meth c A Q n0 t0 rho0 cid0 H locs cells slots rho cid Ls C (D.st (fun q => z_d1 (z_d1 q)))) (fun q => absurd hc q)
  · rw [if_neg hc] at e
    obtain ⟨hm, w⟩ := kf hc rF hF e
    refine ⟨hm, ?_⟩
    intro p e Rm s m args below meth c A Q n0 t0 rho0 cid0 H locs cells slots rho cid Ls C D
    obtain ⟨hx, hb, -⟩ := id C
    exact lv_icmp_gt hx hb hdg ht (fun q => absurd q hc) (fun _ => w p e Rm s m args below meth c A Q n0 t0 rho0 cid0 H locs cells slots rho cid Ls C (D.st (fun q => z_d1 (z_d1 q))))
theorem z_ic_le {G : Z_G} {I : Z_M} {E : Type} {pc : Nat} {la : List (Option Value)} {h : Z_H} {R1 R2 : Option E} {k : E → Option (Int32 × Z_H)} {rest : List Value} {x y : Int32} {off : Int} {tgt : Nat} (hdg : decode I.2.1 pc = .ok (.if_icmp .le off, 3)) (ht : (pc : Int) + off = (tgt : Int)) (kt : x ≤ y → Z_S G I tgt la rest h R1 k) (kf : ¬ (x ≤ y) → Z_S G I (pc + 3) la rest h R2 k) : Z_S G I pc la (.int y :: .int x :: rest) h (if x ≤ y then R1 else R2) k := by
  intro rF hF e
  by_cases hc : x ≤ y
  · rw [if_pos hc] at e
    obtain ⟨hm, w⟩ := kt hc rF hF e
    refine ⟨hm, ?_⟩
    intro p e Rm s m args below meth c A Q n0 t0 rho0 cid0 H locs cells slots rho cid Ls C D
    obtain ⟨hx, hb, -⟩ := id C
    exact lv_icmp_le hx hb hdg ht (fun _ => w p e Rm s m args below meth c A Q n0 t0 rho0 cid0 H locs cells slots rho cid Ls C (D.st (fun q => z_d1 (z_d1 q)))) (fun q => absurd hc q)
  · rw [if_neg hc] at e
    obtain ⟨hm, w⟩ := kf hc rF hF e
    refine ⟨hm, ?_⟩
    intro p e Rm s m args below meth c A Q n0 t0 rho0 cid0 H locs cells slots rho cid Ls C D
    obtain ⟨hx, hb, -⟩ := id C
    exact lv_icmp_le hx hb hdg ht (fun q => absurd q hc) (fun _ => w p e Rm s m args below meth c A Q n0 t0 rho0 cid0 H locs cells slots rho cid Ls C (D.st (fun q => z_d1 (z_d1 q))))
theorem z_if_ne {G : Z_G} {I : Z_M} {E : Type} {pc : Nat} {la : List (Option Value)} {h : Z_H} {R1 R2 : Option E} {k : E → Option (Int32 × Z_H)} {rest : List Value} {x : Int32} {off : Int} {tgt : Nat} (hdg : decode I.2.1 pc = .ok (.ifCond .ne off, 3)) (ht : (pc : Int) + off = (tgt : Int)) (kt : ¬ (x = 0) → Z_S G I tgt la rest h R2 k) (kf : x = 0 → Z_S G I (pc + 3) la rest h R1 k) : Z_S G I pc la (.int x :: rest) h (if x = 0 then R1 else R2) k := by
  intro rF hF e
  by_cases hc : x = 0
  · rw [if_pos hc] at e
    obtain ⟨hm, w⟩ := kf hc rF hF e
    refine ⟨hm, ?_⟩
    intro p e Rm s m args below meth c A Q n0 t0 rho0 cid0 H locs cells slots rho cid Ls C D
    obtain ⟨hx, hb, -⟩ := id C
    exact lv_if_ne hx hb hdg ht (fun q => absurd hc q) (fun _ => w p e Rm s m args below meth c A Q n0 t0 rho0 cid0 H locs cells slots rho cid Ls C (D.st (fun q => z_d1 q)))
  · rw [if_neg hc] at e
    obtain ⟨hm, w⟩ := kt hc rF hF e
    refine ⟨hm, ?_⟩
    intro p e Rm s m args below meth c A Q n0 t0 rho0 cid0 H locs cells slots rho cid Ls C D
    obtain ⟨hx, hb, -⟩ := id C
    exact lv_if_ne hx hb hdg ht (fun _ => w p e Rm s m args below meth c A Q n0 t0 rho0 cid0 H locs cells slots rho cid Ls C (D.st (fun q => z_d1 q))) (fun q => absurd q hc)
theorem z_ic_ne {G : Z_G} {I : Z_M} {E : Type} {pc : Nat} {la : List (Option Value)} {h : Z_H} {R1 R2 : Option E} {k : E → Option (Int32 × Z_H)} {rest : List Value} {x y : Int32} {off : Int} {tgt : Nat} (hdg : decode I.2.1 pc = .ok (.if_icmp .ne off, 3)) (ht : (pc : Int) + off = (tgt : Int)) (kt : ¬ (x = y) → Z_S G I tgt la rest h R2 k) (kf : x = y → Z_S G I (pc + 3) la rest h R1 k) : Z_S G I pc la (.int y :: .int x :: rest) h (if x = y then R1 else R2) k := by
  intro rF hF e
  by_cases hc : x = y
  · rw [if_pos hc] at e
    obtain ⟨hm, w⟩ := kf hc rF hF e
    refine ⟨hm, ?_⟩
    intro p e Rm s m args below meth c A Q n0 t0 rho0 cid0 H locs cells slots rho cid Ls C D
    obtain ⟨hx, hb, -⟩ := id C
    exact lv_icmp_ne hx hb hdg ht (fun q => absurd hc q) (fun _ => w p e Rm s m args below meth c A Q n0 t0 rho0 cid0 H locs cells slots rho cid Ls C (D.st (fun q => z_d1 (z_d1 q))))
  · rw [if_neg hc] at e
    obtain ⟨hm, w⟩ := kt hc rF hF e
    refine ⟨hm, ?_⟩
    intro p e Rm s m args below meth c A Q n0 t0 rho0 cid0 H locs cells slots rho cid Ls C D
    obtain ⟨hx, hb, -⟩ := id C
    exact lv_icmp_ne hx hb hdg ht (fun _ => w p e Rm s m args below meth c A Q n0 t0 rho0 cid0 H locs cells slots rho cid Ls C (D.st (fun q => z_d1 (z_d1 q)))) (fun q => absurd q hc)
theorem z_idiv {G : Z_G} {I : Z_M} {E : Type} {pc : Nat} {la : List (Option Value)} {h : Z_H} {R : Option E} {k : E → Option (Int32 × Z_H)} {rest : List Value} {x y : Int32} (hy : ¬ y = 0) (hdg : decode I.2.1 pc = .ok (.idiv, 1)) (kk : Z_S G I (pc + 1) la (.int (x / y) :: rest) h R k) : Z_S G I pc la (.int y :: .int x :: rest) h R k := by
  refine z_next kk (fun _ e => e) (fun rF hF w => ?_)
  intro p e Rm s m args below meth c A Q n0 t0 rho0 cid0 H locs cells slots rho cid Ls C D
  obtain ⟨hx, hb, hml, hown, hts, -⟩ := id C
  exact lv_idiv hx hb hdg hy (w p e Rm s m args below meth c A Q n0 t0 rho0 cid0 H locs cells slots rho cid Ls C (D.st (fun q => z_pi (z_d1 (z_d1 q)))))
theorem z_irem {G : Z_G} {I : Z_M} {E : Type} {pc : Nat} {la : List (Option Value)} {h : Z_H} {R : Option E} {k : E → Option (Int32 × Z_H)} {rest : List Value} {x y : Int32} (hy : ¬ y = 0) (hdg : decode I.2.1 pc = .ok (.irem, 1)) (kk : Z_S G I (pc + 1) la (.int (x - x / y * y) :: rest) h R k) : Z_S G I pc la (.int y :: .int x :: rest) h R k := by
  refine z_next kk (fun _ e => e) (fun rF hF w => ?_)
  intro p e Rm s m args below meth c A Q n0 t0 rho0 cid0 H locs cells slots rho cid Ls C D
  obtain ⟨hx, hb, hml, hown, hts, -⟩ := id C
  exact lv_irem hx hb hdg hy (w p e Rm s m args below meth c A Q n0 t0 rho0 cid0 H locs cells slots rho cid Ls C (D.st (fun q => z_pi (z_d1 (z_d1 q)))))
theorem z_gd {G : Z_G} {I : Z_M} {E : Type} {pc : Nat} {la : List (Option Value)} {h : Z_H} {R : Option E} {k : E → Option (Int32 × Z_H)} {rest : List Value} {st : List Value} {b : Bool} (kk : b = true → Z_S G I pc la st h R k) : Z_S G I pc la st h (gd b R) k := by
  intro rF hF e
  by_cases hb : b = true
  · rw [gd, if_pos hb] at e
    exact kk hb rF hF e
  · rw [gd, if_neg hb] at e
    cases e
theorem z_by {G : Z_G} {I : Z_M} {E : Type} {pc : Nat} {la : List (Option Value)} {h : Z_H} {R1 R2 : Option E} {k : E → Option (Int32 × Z_H)} {rest : List Value} {st : List Value} {q : Prop} [Decidable q] (kt : q → Z_S G I pc la st h R1 k) (kf : ¬ q → Z_S G I pc la st h R2 k) : Z_S G I pc la st h (if q then R1 else R2) k := by
  intro rF hF e
  by_cases hc : q
  · rw [if_pos hc] at e
    exact kt hc rF hF e
  · rw [if_neg hc] at e
    exact kf hc rF hF e
theorem z_nm {G : Z_G} {I : Z_M} {E : Type} {pc : Nat} {la : List (Option Value)} {h : Z_H} {k : E → Option (Int32 × Z_H)} {rest : List Value} {x : Int32} {f : Int32 → Option E} (kk : ∀ y, Z_S G I pc la (.int y :: rest) h (f y) k) : Z_S G I pc la (.int x :: rest) h (lt x f) k := kk x
theorem z_nml {G : Z_G} {I : Z_M} {E : Type} {pc : Nat} {la : List (Option Value)} {h : Z_H} {k : E → Option (Int32 × Z_H)} {rest : List Value} {x : Int64} {f : Int64 → Option E} (kk : ∀ y, Z_S G I pc la (.long y :: rest) h (f y) k) : Z_S G I pc la (.long x :: rest) h (lt x f) k := kk x
theorem z_jn {G : Z_G} {I : Z_M} {E T : Type} {pc : Nat} {la : List (Option Value)} {h : Z_H} {k : E → Option (Int32 × Z_H)} {st : List Value} {kj : T → Option E} {r : (T → Option E) → Option E} (pcM : Nat) (laM : T → List (Option Value)) (stM : T → List Value) (hM : T → Z_H) (hj : ∀ t, Z_S G I pcM (laM t) (stM t) (hM t) (kj t) k) (hr : ∀ j : T → Option E, (∀ t, Z_S G I pcM (laM t) (stM t) (hM t) (j t) k) → Z_S G I pc la st h (r j) k) : Z_S G I pc la st h (jn kj r) k := hr kj hj
theorem z_lp {G : Z_G} {I : Z_M} {E S T : Type} {k : E → Option (Int32 × Z_H)} {b : (S → Option T) → S → Option T} {f : T → Option E} (pcL : Nat) (laL : S → List (Option Value)) (hL : S → Z_H) (pcX : T → Nat) (laX : T → List (Option Value)) (hX : T → Z_H) {n : Nat} {s0 : S}
    (hf : ∀ t, Z_S G I (pcX t) (laX t) [] (hX t) (f t) k)
    (hb : ∀ k' : T → Option (Int32 × Z_H), (∀ t, Z_S G I (pcX t) (laX t) [] (hX t) (some t) k') → ∀ rec : S → Option T, (∀ s, Z_S G I pcL (laL s) [] (hL s) (rec s) k') → ∀ s, Z_S G I pcL (laL s) [] (hL s) (b rec s) k') :
    Z_S G I pcL (laL s0) [] (hL s0) ((lp b n s0).bind f) k := by
  have key : ∀ (n : Nat) (s : S), Z_S G I pcL (laL s) [] (hL s) (lp b n s) (fun t => (f t).bind k) := by
    intro n
    induction n with
    | zero => intro s rF hF e; cases e
    | succ n ih => exact fun s => hb (fun t => (f t).bind k) hf (lp b n) ih s
  intro rF hF e
  rw [Option.bind_assoc] at e
  exact key n s0 rF hF e
theorem z_ireturn {G : Z_G} {I : Z_M} {E : Type} {pc : Nat} {la : List (Option Value)} {h : Z_H} {k : E → Option (Int32 × Z_H)} {x : Int32} {ty : FieldType} {t : E} (hdg : decode I.2.1 pc = .ok (.ireturn, 1)) (hr : I.2.2.2.1 = some ty) (hn : narrow ty (.int x) = .int x) (hk : k t = some (x, h)) : Z_S G I pc la [.int x] h (some t) k := by
  intro rF hF e
  have e2 : k t = some (rF, hF) := e
  rw [hk] at e2
  cases e2
  refine ⟨⟨Nat.le_refl _, Nat.le_refl _⟩, ?_⟩
  intro p e Rm s m args below meth c A Q n0 t0 rho0 cid0 H locs cells slots rho cid Ls C D
  obtain ⟨-, -, -, -, -, -, -, -, -, -, -, -, -, -, -, hret⟩ := C
  obtain ⟨d1, d2, d3, d4, d5, d6, d7, d8, d9, d10, d11⟩ := D
  have q := hret pc Ls H locs cells slots rho cid (by rw [hr]; exact hdg) (fun ty' ht => by rw [hr] at ht; cases ht; exact hn) d1 d5 d6 d7 d8 d9 d10 d11
  rw [hr] at q
  exact q
theorem z_return {G : Z_G} {I : Z_M} {E : Type} {pc : Nat} {la : List (Option Value)} {h : Z_H} {k : E → Option (Int32 × Z_H)} {t : E} (hdg : decode I.2.1 pc = .ok (.return_, 1)) (hr : I.2.2.2.1 = none) (hk : k t = some (0, h)) : Z_S G I pc la [] h (some t) k := by
  intro rF hF e
  have e2 : k t = some (rF, hF) := e
  rw [hk] at e2
  cases e2
  refine ⟨⟨Nat.le_refl _, Nat.le_refl _⟩, ?_⟩
  intro p e Rm s m args below meth c A Q n0 t0 rho0 cid0 H locs cells slots rho cid Ls C D
  obtain ⟨-, -, -, -, -, -, -, -, -, -, -, -, -, -, -, hret⟩ := C
  obtain ⟨d1, d2, d3, d4, d5, d6, d7, d8, d9, d10, d11⟩ := D
  have q := hret pc Ls H locs cells slots rho cid (by rw [hr]; exact hdg) (fun ty' ht => by rw [hr] at ht; cases ht) d1 d5 d6 d7 d8 d9 d10 d11
  rw [hr] at q
  exact q
theorem z_tsw {G : Z_G} {I : Z_M} {E : Type} {pc : Nat} {la : List (Option Value)} {h : Z_H} {R : Option E} {k : E → Option (Int32 × Z_H)} {rest : List Value} {dflt lo hi : Int} {offs : Array Int} {len : Nat} {x : Int32} {off : Int} {tgt : Nat} (hdg : decode I.2.1 pc = .ok (.tableswitch dflt lo hi offs, len)) (h1 : ¬ x.toInt < lo) (h2 : ¬ hi < x.toInt) (ho : offs[(x.toInt - lo).toNat]? = some off) (ht : (pc : Int) + off = (tgt : Int)) (kk : Z_S G I tgt la rest h R k) : Z_S G I pc la (.int x :: rest) h R k := by
  refine z_next kk (fun _ e => e) (fun rF hF w => ?_)
  intro p e Rm s m args below meth c A Q n0 t0 rho0 cid0 H locs cells slots rho cid Ls C D
  obtain ⟨hx, hb, -⟩ := id C
  exact lv_tableIn hx hb hdg h1 h2 ho ht (w p e Rm s m args below meth c A Q n0 t0 rho0 cid0 H locs cells slots rho cid Ls C (D.st (fun q => z_d1 q)))
theorem z_tswO {G : Z_G} {I : Z_M} {E : Type} {pc : Nat} {la : List (Option Value)} {h : Z_H} {R : Option E} {k : E → Option (Int32 × Z_H)} {rest : List Value} {dflt lo hi : Int} {offs : Array Int} {len : Nat} {x : Int32} {tgt : Nat} (hdg : decode I.2.1 pc = .ok (.tableswitch dflt lo hi offs, len)) (h1 : x.toInt < lo ∨ hi < x.toInt) (ht : (pc : Int) + dflt = (tgt : Int)) (kk : Z_S G I tgt la rest h R k) : Z_S G I pc la (.int x :: rest) h R k := by
  refine z_next kk (fun _ e => e) (fun rF hF w => ?_)
  intro p e Rm s m args below meth c A Q n0 t0 rho0 cid0 H locs cells slots rho cid Ls C D
  obtain ⟨hx, hb, -⟩ := id C
  exact lv_tableOut hx hb hdg h1 ht (w p e Rm s m args below meth c A Q n0 t0 rho0 cid0 H locs cells slots rho cid Ls C (D.st (fun q => z_d1 q)))
theorem z_lsw {G : Z_G} {I : Z_M} {E : Type} {pc : Nat} {la : List (Option Value)} {h : Z_H} {R : Option E} {k : E → Option (Int32 × Z_H)} {rest : List Value} {dflt : Int} {ps : Array (Int × Int)} {len : Nat} {x : Int32} {off : Int} {tgt : Nat} (hdg : decode I.2.1 pc = .ok (.lookupswitch dflt ps, len)) (hp : (ps.toList.zip (ps.toList.drop 1)).all (fun (a, next) => a.1 < next.1) = true) (ho : Op.lookupswitch.offset ps.toList dflt x.toInt = off) (ht : (pc : Int) + off = (tgt : Int)) (kk : Z_S G I tgt la rest h R k) : Z_S G I pc la (.int x :: rest) h R k := by
  refine z_next kk (fun _ e => e) (fun rF hF w => ?_)
  intro p e Rm s m args below meth c A Q n0 t0 rho0 cid0 H locs cells slots rho cid Ls C D
  obtain ⟨hx, hb, -⟩ := id C
  exact lv_lookup hx hb hdg hp ho ht (w p e Rm s m args below meth c A Q n0 t0 rho0 cid0 H locs cells slots rho cid Ls C (D.st (fun q => z_d1 q)))
