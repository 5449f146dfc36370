def z_ws (I : Z_M) : List Cond := Cond.code I.1 I.2.1 I.2.2.1 I.2.2.2.1 :: Z_W
def z_rm (I : Z_M) (mc ms : Nat) : Room := { frames := I.2.2.2.2.2.1, cells := mc, slots := ms, locals := I.2.2.2.2.2.2 }
def z_B (G : Z_G) (rho : Nat → Nat) (cid : Nat → ClassId) (h : Z_H) (sz : Nat) (U : State) : Prop := U.heap.size = sz ∧ z_ok h ∧ va_P (G.2.1, G.2.2.1) Z_cl (z_w rho cid h) U.heap ∧ z_K G cid h U ∧ va_D (fun _ => True) (z_w rho cid h) ∧ G.2.2.2.1 (va_A (z_w rho cid h) sz) U ∧ z_sc G rho (va_A (z_w rho cid h) sz) U
def z_P (G : Z_G) (rho : Nat → Nat) (cid : Nat → ClassId) (h : Z_H) (sz : Nat) (h' : Z_H) (u : (Nat → Nat) × (Nat → ClassId)) (t : State) : Prop := z_ok h' ∧ va_P (G.2.1, G.2.2.1) Z_cl (z_w u.1 u.2 h') t.heap ∧ z_K G u.2 h' t ∧ va_D (va_A (z_w rho cid h) sz) (z_w u.1 u.2 h') ∧ z_agr (z_n h) u.1 rho u.2 cid
def z_Q (G : Z_G) (ret : Option FieldType) (rho : Nat → Nat) (cid : Nat → ClassId) (h : Z_H) (sz : Nat) (r : Int32) (h' : Z_H) : Array Value → State → Outcome → State → Prop := match ret with
  | none => va_Qv (fun _ : (Nat → Nat) × (Nat → ClassId) => True) (z_P G rho cid h sz h') (va_A (z_w rho cid h) sz)
  | some _ => va_Qi (fun (x : Int32) (_ : (Nat → Nat) × (Nat → ClassId)) => x = r) (z_P G rho cid h sz h') (va_A (z_w rho cid h) sz)
/-- A METHOD'S CONTRACT: where K tells an answer and a heap, the method comes to them -/
def z_Met (G : Z_G) (I : Z_M) (av : List Value) (h : Z_H) (K : Option (Int32 × Z_H)) : Prop := ∀ r h', K = some (r, h') → (z_n h ≤ z_n h' ∧ z_t h ≤ z_t h') ∧ (z_sk (z_n h) av → ∀ (rho : Nat → Nat) (cid : Nat → ClassId) (sz : Nat), Met G.1 I.1 (z_ws I) (z_rm I (z_n h' - z_n h) (z_t h' - z_t h)) (va_Pc (av.map (z_rn rho)) (z_B G rho cid h sz)) (z_Q G I.2.2.2.1 rho cid h sz r h') (z_n h' - z_n h) (z_t h' - z_t h) (va_A (z_w rho cid h) sz))
theorem z_K.moved {G : Z_G} {cid : Nat → ClassId} {h : Z_H} {u U : State} (hvm : u.vm.Alike U.vm) (hK : z_K G cid h u) : z_K G cid h U := ⟨va_K.moved hvm hK.1, fun a ha hk => ⟨arrOfT_moved hvm (hK.2 a ha hk).1, (hK.2 a ha hk).2.moved hvm⟩⟩
set_option maxHeartbeats 1000000 in
theorem z_enter {G : Z_G} {I : Z_M} {av : List Value} {h : Z_H} {E : Type} {R : Option E} {k : E → Option (Int32 × Z_H)} {la : List (Option Value)} (hp : plainName I.1.cls = true) (ho : I.2.2.2.2.1 = I.1.cls) (hl : ∀ rho, (lg_sl (av.map (z_rn rho))).length ≤ I.2.2.1) (hla : ∀ (rho : Nat → Nat) (i : Nat) (v : Value), la[i]? = some (some v) → (i, z_rn rho v) ∈ lv_args 0 (av.map (z_rn rho))) (hlv : ∀ (i : Nat) (v : Value), la[i]? = some (some v) → v ∈ av) (kk : Z_S G I 0 la [] h R k) : z_Met G I av h (R.bind k) := by
  intro r h' ee
  obtain ⟨hm, w⟩ := kk r h' ee
  refine ⟨hm, fun hsk rho cid sz => ?_⟩
  refine Met.ofW (cc := I.2.1) (maxL := I.2.2.1) (ret := I.2.2.2.1) hp rfl ?_
  intro p e s m args below meth c s₁ B hml hv
  obtain ⟨rfl, hsz, b1, b2, b3, b4, b5, b6⟩ := hv
  have hx := B.exec
  have hb := B.bytes
  have hr := B.returns
  have hlk := B.notSynchronized
  have hts := atoms_spec (ws := z_ws I) B.pre
  have hown : s.vm.findClass I.1.cls = some m.cls := findClass_of_methodNamed B.named
  have hnm := (name_of_methodNamed B.named B.method).1
  subst hsz
  have hD := b4.self (sz := s.heap.size)
  have hl' := lv_entry (av.map (z_rn rho)) (n := I.2.2.1) (hl rho)
  rw [lg_entry_eq]
  generalize (lg_sl (av.map (z_rn rho)) ++ List.replicate (I.2.2.1 - (lg_sl (av.map (z_rn rho))).length) Slot.unset).toArray = Ls at hl' ⊢
  have hLO : z_LO rho I.2.2.1 Ls la := ⟨hl'.1, hl'.2.1, fun i v hv => hl'.2.2 (i, z_rn rho v) (hla rho i v hv)⟩
  have hs0 : z_sk (z_n h) [] := fun v hv => absurd hv List.not_mem_nil
  have hk0 : z_lk (z_n h) la := fun i v hv => hsk v (hlv i v hv)
  have hg0 : z_agr (z_n h) rho rho cid cid := ⟨rfl, fun i _ => ⟨rfl, rfl⟩⟩
  refine w p e _ s m _ below meth c (va_A (z_w rho cid h) s.heap.size) _ (z_n h) (z_t h) rho cid s.heap [] 0 0 rho cid Ls ⟨hx, hb, hml, by rw [ho]; exact hown, fun q hq => hts q (List.mem_cons_of_mem _ hq), hr, hlk, fun q => hnm.trans q, fun q hq => Or.inr hq, Nat.le_refl _, Nat.le_refl _, ?_, ?_, b5, b6, ?_⟩ ⟨b1, hs0, hk0, hLO, b2, hD, b3, va_S.rf, Nat.zero_add _, Nat.zero_add _, hg0⟩
  · show _ ≤ _ + (_ - _)
    omega
  · show _ ≤ _ + (_ - _)
    omega
  · intro pc Ls H locs cells slots rho' cid' hd hn ok P D K S e1 e2 ag
    have q1 : cells = z_n h' - z_n h := by omega
    have q2 : slots = z_t h' - z_t h := by omega
    subst q1
    subst q2
    generalize hret : I.2.2.2.1 = rt at hd hr hn ⊢
    cases rt with
    | none => exact W.vret hx hb hr (fun t ht hW => ⟨⟨(rho', cid'), rfl, trivial, ok, by rw [ht]; exact P, K.moved hW.alike, D, ag⟩, S.F ht⟩) S.2.2 hd
    | some ty => exact W.zret hx hb hr (hn ty rfl) (fun t ht hW => ⟨⟨r, (rho', cid'), rfl, rfl, ok, by rw [ht]; exact P, K.moved hW.alike, D, ag⟩, S.F ht⟩) S.2.2 hd
theorem z_good {ws : List Cond} (h : ∀ w ∈ ws, w ∈ Z_W) : GoodIn Z_W ws := fun w hw => ⟨h w hw, good_of_word (List.mem_filter.mp (h w hw)).2⟩
def z_ps (ret : Option FieldType) (x : Int32) (rest : List Value) : List Value := match ret with
  | none => rest
  | some _ => .int x :: rest
theorem z_sc.moved {G : Z_G} {rho rho0 : Nat → Nat} {A B : Nat → Prop} {s U : State} {H : Heap} {locs : List Loc} (e : rho 0 = rho0 0) (hs : z_sc G rho0 A s) (hS : va_S A s.heap H locs) (hU : U.heap = H) (hW : s.vm.Alike U.vm) (hAB : ∀ q, B q → A q) : z_sc G rho B U := by
  obtain ⟨⟨scr, x1, x2, x3, x4, x5⟩, x6, x7⟩ := hs
  unfold z_sc
  rw [e, hU]
  exact ⟨⟨scr, by rw [hS.2.1 _ x6 x7]; exact x1, State.isArrayOf_alike hW x2, x3, x4, x5⟩, Nat.lt_of_lt_of_le x6 hS.1, fun q => x7 (hAB _ q)⟩
theorem z_blind {G : Z_G} (hE : z_EV G) {av : List Value} {rho : Nat → Nat} {cid : Nat → ClassId} {h : Z_H} {sz : Nat} : FrameBlind (va_Pc av (z_B G rho cid h sz)) := by
  intro a U g mk q
  obtain ⟨q0, q1, q2, q3, q4, q5, q6, q7⟩ := q
  refine ⟨q0, q1, q2, q3, q4.moved (U := U.calling g mk a) (Vm.Alike.refl U.vm), q5, hE.2 _ _ _ _ _ q6, ?_⟩
  obtain ⟨⟨scr, x1, x2, x3, x4, x5⟩, x6, x7⟩ := q7
  exact ⟨⟨scr, x1, State.isArrayOf_alike (T := U.calling g mk a) (Vm.Alike.refl U.vm) x2, x3, x4, x5⟩, x6, x7⟩
set_option maxHeartbeats 1000000 in
/-- A CALL, whatever its kind -/
theorem z_call {G : Z_G} {I : Z_M} {E : Type} {pc : Nat} {la : List (Option Value)} {h : Z_H} {k : E → Option (Int32 × Z_H)} {rest : List Value} {J : Z_M} {st av : List Value} {K : Option (Int32 × Z_H)} {R : Option E} {R' : Int32 → Z_H → Option E} (hE : z_EV G) (hM : z_Met G J av h K)
    (hR : ∀ q, R.bind k = some q → ∃ x h1, K = some (x, h1) ∧ (R' x h1).bind k = some q) (hsub : z_sk (z_n h) st → z_sk (z_n h) av ∧ z_sk (z_n h) rest)
    (hrun : ∀ (p : Program) (e : Env) (Rm : Room) (s : State) (m : MethodId) (args : Array Value) (below : List Frame) (meth : Method) (c0 : Code) (A : Nat → Prop) (Q : State → Prop) (n0 t0 : Nat) (rho0 : Nat → Nat) (cid0 : Nat → ClassId) (H : Heap) (locs : List Loc) (cells slots : Nat) (rho : Nat → Nat) (cid : Nat → ClassId) (Ls : Array Slot) (x : Int32) (h1 : Z_H) (rF : Int32) (hF : Z_H), K = some (x, h1) → z_C G I p e Rm s m args below meth c0 A Q n0 t0 rho0 cid0 rF hF → z_D G I.2.2.1 s A n0 t0 rho0 cid0 la st h H locs cells slots rho cid Ls → Met G.1 J.1 (z_ws J) (z_rm J (z_n h1 - z_n h) (z_t h1 - z_t h)) (va_Pc (av.map (z_rn rho)) (z_B G rho cid h H.size)) (z_Q G J.2.2.2.1 rho cid h H.size x h1) (z_n h1 - z_n h) (z_t h1 - z_t h) (va_A (z_w rho cid h) H.size) → FrameBlind (va_Pc (av.map (z_rn rho)) (z_B G rho cid h H.size)) → (∀ U : State, U.heap = H → s.WarmedH U.vm → z_B G rho cid h H.size U) → cells + (z_n h1 - z_n h) ≤ Rm.cells ∧ slots + (z_t h1 - z_t h) ≤ Rm.slots → va_Run p G.1 e Rm s m args below meth c0 H locs cells slots (z_n h1 - z_n h) (z_t h1 - z_t h) (F0 m pc Ls (st.map (z_rn rho))) (rest.map (z_rn rho)) (z_Q G J.2.2.2.1 rho cid h H.size x h1 (av.map (z_rn rho)).toArray) (va_A (z_w rho cid h) H.size))
    (kk : ∀ x h1, K = some (x, h1) → Z_S G I (pc + 3) la (z_ps J.2.2.2.1 x rest) h1 (R' x h1) k) : Z_S G I pc la st h R k := by
  intro rF hF ee
  obtain ⟨x, h1, hK, ee2⟩ := hR _ ee
  obtain ⟨hm, w⟩ := kk x h1 hK rF hF ee2
  obtain ⟨hm1, hM1⟩ := hM x h1 hK
  refine ⟨⟨by omega, by omega⟩, ?_⟩
  intro p e Rm s m args below meth c0 A Q n0 t0 rho0 cid0 H locs cells slots rho cid Ls Cx D
  obtain ⟨hx, hb, hml, hown, hts, hr, hlk, hin, hA, hfr, hlo, hce, hsl, hEv, hsc, hret⟩ := id Cx
  obtain ⟨d1, d2, d3, d4, d5, d6, d7, d8, d9, d10, d11⟩ := id D
  obtain ⟨hav, hre⟩ := hsub d2
  have hfree : ∀ q, va_A (z_w rho cid h) H.size q → A q := by
    intro q hq
    rcases hq with ⟨i, y, hy⟩ | hq
    · exact d6.2 i _ hy
    · exact hA q (Nat.le_trans d8.1 hq)
  have hpre : ∀ U : State, U.heap = H → s.WarmedH U.vm → z_B G rho cid h H.size U := fun U hU hW => ⟨by rw [hU], d1, by rw [hU]; exact d5, d7.moved hW.alike, d6.weaken (fun _ _ _ _ => trivial), hE.1 A _ s U H locs hEv d8 hU hW hfree, z_sc.moved d11.1 hsc d8 hU hW.alike hfree⟩
  have hr0 := hrun p e Rm s m args below meth c0 A Q n0 t0 rho0 cid0 H locs cells slots rho cid Ls x h1 rF hF hK Cx D (hM1 hav rho cid H.size) (z_blind hE) hpre ⟨by omega, by omega⟩
  have tail : ∀ (u : (Nat → Nat) × (Nat → ClassId)) (t : State) (H1 : Heap) (locs1 : List Loc), t.heap = H1 → s.vm.Alike t.vm → z_P G rho cid h H.size h1 u t → va_S A s.heap H1 locs1 → W p G.1 e Rm s m args below meth c0 H1 locs1 (cells + (z_n h1 - z_n h)) (slots + (z_t h1 - z_t h)) Q (F0 m (pc + 3) Ls (z_ps J.2.2.2.1 x (rest.map (z_rn rho)))) := by
    intro u t H1 locs1 ht hvm hB hS
    obtain ⟨g1, g2, g3, g4, g5⟩ := hB
    have key := w p e Rm s m args below meth c0 A Q n0 t0 rho0 cid0 H1 locs1 (cells + (z_n h1 - z_n h)) (slots + (z_t h1 - z_t h)) u.1 u.2 Ls Cx ⟨g1, ?_, d3.mono hm1.1, g5.lo d3 d4, by rw [← ht]; exact g2, g4.weaken (fun _ _ _ q => hfree _ q), g3.moved hvm.symm, hS, by omega, by omega, g5.tr (by omega) d11⟩
    · have e1 : (z_ps J.2.2.2.1 x rest).map (z_rn u.1) = z_ps J.2.2.2.1 x (rest.map (z_rn rho)) := by
        unfold z_ps
        cases J.2.2.2.1 with
        | none => exact g5.map hre
        | some ty =>
          show _ :: _ = _ :: _
          rw [g5.map hre]
          rfl
      rw [e1] at key
      exact key
    · unfold z_ps
      cases J.2.2.2.1 with
      | none => exact hre.mono hm1.1
      | some ty => exact z_pi (hre.mono hm1.1)
  generalize hrt : J.2.2.2.1 = rt at hr0 tail
  cases rt with
  | none => exact va_callv (a := (av.map (z_rn rho)).toArray) (A1 := va_A (z_w rho cid h) H.size) hr0 d8 (fun q _ hq => hfree q hq) hfree (fun u t H1 locs1 ht hvm hp hB hz hk hS => tail u t H1 locs1 ht hvm hB hS)
  | some ty =>
    refine va_calli (a := (av.map (z_rn rho)).toArray) (A1 := va_A (z_w rho cid h) H.size) hr0 d8 (fun q _ hq => hfree q hq) hfree (fun r u t H1 locs1 ht hvm hp hB hz hk hS => ?_)
    rw [hp]
    exact tail u t H1 locs1 ht hvm hB hS
def z_room (J I : Z_M) : Bool := Nat.ble (J.2.2.2.2.2.1 + 1) I.2.2.2.2.2.1 && Nat.ble (8 + (J.2.2.1 + 11) + J.2.2.2.2.2.2) I.2.2.2.2.2.2
theorem z_room_spec {J I : Z_M} (h : z_room J I = true) : J.2.2.2.2.2.1 + 1 ≤ I.2.2.2.2.2.1 ∧ 8 + (J.2.2.1 + 11) + J.2.2.2.2.2.2 ≤ I.2.2.2.2.2.2 := by
  unfold z_room at h
  rw [Bool.and_eq_true] at h
  exact ⟨Nat.le_of_ble_eq_true h.1, Nat.le_of_ble_eq_true h.2⟩
def z_dsc (y : MethodName) (n : Nat) : Prop := y.cls ≠ "java/lang/invoke/MethodHandle" ∧ y.cls ≠ "java/lang/invoke/VarHandle" ∧ (parseMethodDescriptor y.desc).map (fun d => d.parameters.length) = some n
set_option maxHeartbeats 1000000 in
theorem z_callV {G : Z_G} {I : Z_M} {E : Type} {pc : Nat} {la : List (Option Value)} {h : Z_H} {k : E → Option (Int32 × Z_H)} {rest : List Value} {J : Z_M} {As : List Value} {K : Option (Int32 × Z_H)} {R : Option E} {R' : Int32 → Z_H → Option E} {a c idx N : Nat} {T : u_T} {st : List Value} (hE : z_EV G) (hM : z_Met G J (.ref a :: As) h K) (hR : ∀ q, R.bind k = some q → ∃ x h1, K = some (x, h1) ∧ (R' x h1).bind k = some q)
    (hrc : ∀ q, K = some q → z_is h a c = true) (hc : z_cls c J.1.cls T N) (hdg : decode I.2.1 pc = .ok (.invokevirtual idx, 3)) (hst : st = As.reverse ++ .ref a :: rest) (w1 : Cond.methodLink I.2.2.2.2.1 idx J.1 ∈ Z_W) (w2 : Cond.instanceMethod J.1 ∈ Z_W) (w3 : Cond.selects J.1.cls J.1 J.1 ∈ Z_W) (w4 : Cond.initialized J.1.cls ∈ Z_W) (w5 : Cond.code J.1 J.2.1 J.2.2.1 J.2.2.2.1 ∈ Z_W) (hd : z_dsc J.1 As.length) (hro : z_room J I = true) (hs : Nat.ble (rest.map fun v => v.category).sum 8 = true)
    (kk : ∀ x h1, K = some (x, h1) → Z_S G I (pc + 3) la (z_ps J.2.2.2.1 x rest) h1 (R' x h1) k) : Z_S G I pc la st h R k := by
  subst hst
  refine z_call (rest := rest) hE hM hR (fun q => ⟨fun v hv => ?_, fun v hv => q v (List.mem_append_right _ (List.mem_cons_of_mem _ hv))⟩) ?_ kk
  · rcases List.mem_cons.mp hv with e | e
    · exact q v (List.mem_append_right _ (by rw [e]; exact List.mem_cons_self))
    · exact q v (List.mem_append_left _ (List.mem_reverse.mpr e))
  · intro p e Rm s m args below meth c0 A Q n0 t0 rho0 cid0 H locs cells slots rho cid Ls x h1 rF hF hK Cx D hmet hbl hpre hrm
    obtain ⟨hx, hb, hml, hown, hts, hr, hlk, hin, hA, hfr, hlo, hce, hsl, hEv, hsc, hret⟩ := id Cx
    obtain ⟨d1, d2, d3, d4, d5, d6, d7, d8, d9, d10, d11⟩ := id D
    obtain ⟨ha, hka⟩ := z_is_spec (hrc _ hK)
    obtain ⟨hr1, hr2⟩ := z_room_spec hro
    have hG : GoodIn Z_W (wsV I.2.2.2.2.1 idx J.1.cls J.1 (z_ws J)) := z_good (fun w hw => by
      rcases List.mem_append.mp hw with q | q
      · rcases List.mem_cons.mp q with q | q
        · rw [q]; exact w1
        rcases List.mem_cons.mp q with q | q
        · rw [q]; exact w2
        rcases List.mem_cons.mp q with q | q
        · rw [q]; exact w3
        rcases List.mem_cons.mp q with q | q
        · rw [q]; exact w4
        cases q
      · rcases List.mem_cons.mp q with q | q
        · rw [q]; exact w5
        · exact q)
    have hrm' : (z_rm J (z_n h1 - z_n h) (z_t h1 - z_t h)).frames + 1 ≤ Rm.frames ∧ 8 + (J.2.2.1 + 11) + (z_rm J (z_n h1 - z_n h) (z_t h1 - z_t h)).locals ≤ Rm.locals := ⟨Nat.le_trans hr1 hfr, Nat.le_trans hr2 hlo⟩
    refine va_runV (C := J.1.cls) (b := rho (a + 1)) (As := As.map (z_rn rho)) (rest := rest.map (z_rn rho)) ⟨hx, hb, hml, hown, hts⟩ hmet (cwV (ws' := Z_W) (bytes := J.2.1) (maxL := J.2.2.1) (ret := J.2.2.2.1) As.length hts hG rfl rfl rfl ⟨rfl, hd⟩ hrm') ⟨hbl, va_recv d7.1 d5 (ci := c) (q0 := a) hc.1 (by rw [z_w_at ha, z_e_obj hka]), fun U hU hW => ⟨rfl, hpre U hU hW⟩⟩ rfl (by rw [List.length_map]) d4.1 ?_ (lv_room (by rw [z_cat]; exact Nat.le_of_ble_eq_true hs)) hdg hrm
    show ((As.reverse ++ .ref a :: rest).map (z_rn rho)) = _
    rw [List.map_append, List.map_reverse]
    rfl
