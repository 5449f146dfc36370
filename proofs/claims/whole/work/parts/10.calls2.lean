set_option maxHeartbeats 1000000 in
theorem z_callS {G : Z_G} {I : Z_M} {E : Type} {pc : Nat} {la : List (Option Value)} {h : Z_H} {k : E → Option (Int32 × Z_H)} {rest : List Value} {J : Z_M} {As : List Value} {K : Option (Int32 × Z_H)} {R : Option E} {R' : Int32 → Z_H → Option E} {idx : Nat} {st : List Value} (hE : z_EV G) (hM : z_Met G J As h K) (hR : ∀ q, R.bind k = some q → ∃ x h1, K = some (x, h1) ∧ (R' x h1).bind k = some q)
    (hdg : decode I.2.1 pc = .ok (.invokestatic idx, 3)) (hst : st = As.reverse ++ rest) (w1 : Cond.methodLink I.2.2.2.2.1 idx J.1 ∈ Z_W) (w2 : Cond.static J.1 ∈ Z_W) (w4 : Cond.initialized J.1.cls ∈ Z_W) (w5 : Cond.code J.1 J.2.1 J.2.2.1 J.2.2.2.1 ∈ Z_W) (hd : z_dsc J.1 As.length) (hro : z_room J I = true) (hs : Nat.ble (rest.map fun v => v.category).sum 8 = true)
    (kk : ∀ x h1, Z_S G I (pc + 3) la (z_ps J.2.2.2.1 x rest) h1 (R' x h1) k) : Z_S G I pc la st h R k := by
  subst hst
  refine z_call (rest := rest) hE hM hR (fun q => ⟨fun v hv => q v (List.mem_append_left _ (List.mem_reverse.mpr hv)), fun v hv => q v (List.mem_append_right _ hv)⟩) ?_ (fun x h1 _ => kk x h1)
  · intro p e Rm s m args below meth c0 A Q n0 t0 rho0 cid0 H locs cells slots rho cid Ls x h1 rF hF hK Cx D hmet hbl hpre hrm
    obtain ⟨hx, hb, hml, hown, hts, hr, hlk, hin, hA, hfr, hlo, hce, hsl, hEv, hsc, hret⟩ := id Cx
    obtain ⟨d1, d2, d3, d4, d5, d6, d7, d8, d9, d10, d11⟩ := id D
    obtain ⟨hr1, hr2⟩ := z_room_spec hro
    have hG : GoodIn Z_W (va_wsS I.2.2.2.2.1 idx J.1 (z_ws J)) := z_good (fun w hw => by
      rcases List.mem_append.mp hw with q | q
      · rcases List.mem_cons.mp q with q | q
        · rw [q]; exact w1
        rcases List.mem_cons.mp q with q | q
        · rw [q]; exact w2
        rcases List.mem_cons.mp q with q | q
        · rw [q]; exact w4
        cases q
      · rcases List.mem_cons.mp q with q | q
        · rw [q]; exact w5
        · exact q)
    have hrm' : (z_rm J (z_n h1 - z_n h) (z_t h1 - z_t h)).frames + 1 ≤ Rm.frames ∧ 8 + (J.2.2.1 + 11) + (z_rm J (z_n h1 - z_n h) (z_t h1 - z_t h)).locals ≤ Rm.locals := ⟨Nat.le_trans hr1 hfr, Nat.le_trans hr2 hlo⟩
    refine va_runS (As := As.map (z_rn rho)) (rest := rest.map (z_rn rho)) ⟨hx, hb, hml, hown, hts⟩ hmet (va_cwS (ws' := Z_W) (bytes := J.2.1) (maxL := J.2.2.1) (ret := J.2.2.2.1) As.length hts hG rfl rfl rfl hd hrm') ⟨hbl, fun U hU hW => ⟨rfl, hpre U hU hW⟩⟩ rfl (by rw [List.length_map]) d4.1 ?_ (lv_room (by rw [z_cat]; exact Nat.le_of_ble_eq_true hs)) hdg hrm
    show ((As.reverse ++ rest).map (z_rn rho)) = _
    rw [List.map_append, List.map_reverse]

set_option maxHeartbeats 1000000 in
theorem z_callSN {G : Z_G} {I : Z_M} {E : Type} {pc : Nat} {la : List (Option Value)} {h : Z_H} {k : E → Option (Int32 × Z_H)} {rest : List Value} {J : Z_M} {As : List Value} {K : Option (Int32 × Z_H)} {R : Option E} {R' : Int32 → Z_H → Option E} {idx : Nat} {st : List Value} (hE : z_EV G) (hM : z_Met G J As h K) (hR : ∀ q, R.bind k = some q → ∃ x h1, K = some (x, h1) ∧ (R' x h1).bind k = some q)
    (hdg : decode I.2.1 pc = .ok (.invokestatic idx, 3)) (hst : st = As.reverse ++ rest) {host : String} (hnw : ∀ A s, G.2.2.2.1 A s → va_Nw (.methodLinkNest I.2.2.2.2.1 idx J.1 host) s) (w2 : Cond.static J.1 ∈ Z_W) (w4 : Cond.initialized J.1.cls ∈ Z_W) (w5 : Cond.code J.1 J.2.1 J.2.2.1 J.2.2.2.1 ∈ Z_W) (hd : z_dsc J.1 As.length) (hro : z_room J I = true) (hs : Nat.ble (rest.map fun v => v.category).sum 8 = true)
    (kk : ∀ x h1, Z_S G I (pc + 3) la (z_ps J.2.2.2.1 x rest) h1 (R' x h1) k) : Z_S G I pc la st h R k := by
  subst hst
  refine z_call (rest := rest) hE hM hR (fun q => ⟨fun v hv => q v (List.mem_append_left _ (List.mem_reverse.mpr hv)), fun v hv => q v (List.mem_append_right _ hv)⟩) ?_ (fun x h1 _ => kk x h1)
  · intro p e Rm s m args below meth c0 A Q n0 t0 rho0 cid0 H locs cells slots rho cid Ls x h1 rF hF hK Cx D hmet hbl hpre hrm
    obtain ⟨hx, hb, hml, hown, hts, hr, hlk, hin, hA, hfr, hlo, hce, hsl, hEv, hsc, hret⟩ := id Cx
    obtain ⟨d1, d2, d3, d4, d5, d6, d7, d8, d9, d10, d11⟩ := id D
    obtain ⟨hr1, hr2⟩ := z_room_spec hro
    have hG : GoodIn Z_W (z_ws J) := z_good (fun w hw => by
      rcases List.mem_cons.mp hw with q | q
      · rw [q]; exact w5
      · exact q)
    have hrm' : (z_rm J (z_n h1 - z_n h) (z_t h1 - z_t h)).frames + 1 ≤ Rm.frames ∧ 8 + (J.2.2.1 + 11) + (z_rm J (z_n h1 - z_n h) (z_t h1 - z_t h)).locals ≤ Rm.locals := ⟨Nat.le_trans hr1 hfr, Nat.le_trans hr2 hlo⟩
    refine va_runSN (As := As.map (z_rn rho)) (rest := rest.map (z_rn rho)) ⟨hx, hb, hml, hown, hts⟩ hmet ⟨va_cnB (ws' := Z_W) (bytes := J.2.1) (maxL := J.2.2.1) (ret := J.2.2.2.1) As.length hts hG rfl rfl rfl (hnw A s hEv) (hts _ w4) hd hrm', hts _ w2, trivial⟩ ⟨hbl, fun U hU hW => ⟨rfl, hpre U hU hW⟩⟩ rfl (by rw [List.length_map]) d4.1 ?_ (lv_room (by rw [z_cat]; exact Nat.le_of_ble_eq_true hs)) hdg hrm
    show ((As.reverse ++ rest).map (z_rn rho)) = _
    rw [List.map_append, List.map_reverse]

set_option maxHeartbeats 1000000 in
theorem z_callI {G : Z_G} {I : Z_M} {E : Type} {pc : Nat} {la : List (Option Value)} {h : Z_H} {k : E → Option (Int32 × Z_H)} {rest : List Value} {J : Z_M} {As : List Value} {K : Option (Int32 × Z_H)} {R : Option E} {R' : Int32 → Z_H → Option E} {a idx : Nat} {st : List Value} (hE : z_EV G) (hM : z_Met G J (.ref a :: As) h K) (hR : ∀ q, R.bind k = some q → ∃ x h1, K = some (x, h1) ∧ (R' x h1).bind k = some q)
    (hdg : decode I.2.1 pc = .ok (.invokespecial idx, 3)) (hst : st = As.reverse ++ .ref a :: rest) (hret0 : J.2.2.2.1 = none) (hnm : J.1.name = "<init>") (w1 : Cond.methodLink I.2.2.2.2.1 idx J.1 ∈ Z_W) (w2 : Cond.instanceMethod J.1 ∈ Z_W) (w4 : Cond.initialized J.1.cls ∈ Z_W) (w5 : Cond.code J.1 J.2.1 J.2.2.1 J.2.2.2.1 ∈ Z_W) (hd : z_dsc J.1 As.length) (hro : z_room J I = true) (hs : Nat.ble (rest.map fun v => v.category).sum 8 = true)
    (kk : ∀ x h1, Z_S G I (pc + 3) la (z_ps J.2.2.2.1 x rest) h1 (R' x h1) k) : Z_S G I pc la st h R k := by
  subst hst
  refine z_call (rest := rest) hE hM hR (fun q => ⟨fun v hv => ?_, fun v hv => q v (List.mem_append_right _ (List.mem_cons_of_mem _ hv))⟩) ?_ (fun x h1 _ => kk x h1)
  · rcases List.mem_cons.mp hv with e | e
    · exact q v (List.mem_append_right _ (by rw [e]; exact List.mem_cons_self))
    · exact q v (List.mem_append_left _ (List.mem_reverse.mpr e))
  · intro p e Rm s m args below meth c0 A Q n0 t0 rho0 cid0 H locs cells slots rho cid Ls x h1 rF hF hK Cx D hmet hbl hpre hrm
    obtain ⟨hx, hb, hml, hown, hts, hr, hlk, hin, hA, hfr, hlo, hce, hsl, hEv, hsc, hret⟩ := id Cx
    obtain ⟨d1, d2, d3, d4, d5, d6, d7, d8, d9, d10, d11⟩ := id D
    obtain ⟨hr1, hr2⟩ := z_room_spec hro
    have hG : GoodIn Z_W (z_ws J) := z_good (fun w hw => by
      rcases List.mem_cons.mp hw with q | q
      · rw [q]; exact w5
      · exact q)
    have hrm' : (z_rm J (z_n h1 - z_n h) (z_t h1 - z_t h)).frames + 1 ≤ Rm.frames ∧ 8 + (J.2.2.1 + 11) + (z_rm J (z_n h1 - z_n h) (z_t h1 - z_t h)).locals ≤ Rm.locals := ⟨Nat.le_trans hr1 hfr, Nat.le_trans hr2 hlo⟩
    refine va_runI (b := rho (a + 1)) (As := As.map (z_rn rho)) (rest := rest.map (z_rn rho)) ⟨hx, hb, hml, hown, hts⟩ hmet (cwI (ws' := Z_W) (bytes := J.2.1) (maxL := J.2.2.1) As.length hts hG (by unfold z_ws; rw [hret0]) rfl rfl (hts _ w4) (hts _ w1) (hts _ w2) hnm hd hrm') ⟨hbl, fun U hU hW => ⟨rfl, hpre U hU hW⟩⟩ rfl (by rw [List.length_map]) d4.1 ?_ (lv_room (by rw [z_cat]; exact Nat.le_of_ble_eq_true hs)) hdg hrm
    show ((As.reverse ++ .ref a :: rest).map (z_rn rho)) = _
    rw [List.map_append, List.map_reverse]
    rfl

set_option maxHeartbeats 1000000 in
theorem z_callIN {G : Z_G} {I : Z_M} {E : Type} {pc : Nat} {la : List (Option Value)} {h : Z_H} {k : E → Option (Int32 × Z_H)} {rest : List Value} {J : Z_M} {As : List Value} {K : Option (Int32 × Z_H)} {R : Option E} {R' : Int32 → Z_H → Option E} {a idx : Nat} {st : List Value} (hE : z_EV G) (hM : z_Met G J (.ref a :: As) h K) (hR : ∀ q, R.bind k = some q → ∃ x h1, K = some (x, h1) ∧ (R' x h1).bind k = some q)
    (hdg : decode I.2.1 pc = .ok (.invokespecial idx, 3)) (hst : st = As.reverse ++ .ref a :: rest) {host : String} (hret0 : J.2.2.2.1 = none) (hnm : J.1.name = "<init>") (hnw : ∀ A s, G.2.2.2.1 A s → va_Nw (.methodLinkNest I.2.2.2.2.1 idx J.1 host) s) (w2 : Cond.instanceMethod J.1 ∈ Z_W) (w4 : Cond.initialized J.1.cls ∈ Z_W) (w5 : Cond.code J.1 J.2.1 J.2.2.1 J.2.2.2.1 ∈ Z_W) (hd : z_dsc J.1 As.length) (hro : z_room J I = true) (hs : Nat.ble (rest.map fun v => v.category).sum 8 = true)
    (kk : ∀ x h1, Z_S G I (pc + 3) la (z_ps J.2.2.2.1 x rest) h1 (R' x h1) k) : Z_S G I pc la st h R k := by
  subst hst
  refine z_call (rest := rest) hE hM hR (fun q => ⟨fun v hv => ?_, fun v hv => q v (List.mem_append_right _ (List.mem_cons_of_mem _ hv))⟩) ?_ (fun x h1 _ => kk x h1)
  · rcases List.mem_cons.mp hv with e | e
    · exact q v (List.mem_append_right _ (by rw [e]; exact List.mem_cons_self))
    · exact q v (List.mem_append_left _ (List.mem_reverse.mpr e))
  · intro p e Rm s m args below meth c0 A Q n0 t0 rho0 cid0 H locs cells slots rho cid Ls x h1 rF hF hK Cx D hmet hbl hpre hrm
    obtain ⟨hx, hb, hml, hown, hts, hr, hlk, hin, hA, hfr, hlo, hce, hsl, hEv, hsc, hret⟩ := id Cx
    obtain ⟨d1, d2, d3, d4, d5, d6, d7, d8, d9, d10, d11⟩ := id D
    obtain ⟨hr1, hr2⟩ := z_room_spec hro
    have hG : GoodIn Z_W (z_ws J) := z_good (fun w hw => by
      rcases List.mem_cons.mp hw with q | q
      · rw [q]; exact w5
      · exact q)
    have hrm' : (z_rm J (z_n h1 - z_n h) (z_t h1 - z_t h)).frames + 1 ≤ Rm.frames ∧ 8 + (J.2.2.1 + 11) + (z_rm J (z_n h1 - z_n h) (z_t h1 - z_t h)).locals ≤ Rm.locals := ⟨Nat.le_trans hr1 hfr, Nat.le_trans hr2 hlo⟩
    refine va_runIN (b := rho (a + 1)) (As := As.map (z_rn rho)) (rest := rest.map (z_rn rho)) ⟨hx, hb, hml, hown, hts⟩ hmet ⟨va_cnB (ws' := Z_W) (bytes := J.2.1) (maxL := J.2.2.1) (ret := none) As.length hts hG (by unfold z_ws; rw [hret0]) rfl rfl (hnw A s hEv) (hts _ w4) hd hrm', hnm, hts _ w2⟩ ⟨hbl, fun U hU hW => ⟨rfl, hpre U hU hW⟩⟩ rfl (by rw [List.length_map]) d4.1 ?_ (lv_room (by rw [z_cat]; exact Nat.le_of_ble_eq_true hs)) hdg hrm
    show ((As.reverse ++ .ref a :: rest).map (z_rn rho)) = _
    rw [List.map_append, List.map_reverse]
    rfl

