set_option maxHeartbeats 1000000 in
theorem z_callS {G : Z_G} {I : Z_M} {E : Type} {pc : Nat} {la : List (Option Value)} {h : Z_H} {k : E → Option (Int32 × Z_H)} {rest : List Value} {J : Z_M} {As : List Value} {K : Option (Int32 × Z_H)} {R : Option E} {R' : Int32 → Z_H → Option E} {idx : Nat} {st : List Value} (hE : z_EV G) (hM : z_Met G J As h K) (hR : ∀ q, R.bind k = some q → ∃ x h1, K = some (x, h1) ∧ (R' x h1).bind k = some q)
    (hdg : decode I.2.1 pc = .ok (.invokestatic idx, 3)) (hst : st = As.reverse ++ rest) (w1 : Cond.methodLink I.2.2.2.2.1 idx J.1 ∈ Z_W) (w2 : Cond.static J.1 ∈ Z_W) (w4 : Cond.initialized J.1.cls ∈ Z_W) (w5 : Cond.code J.1 J.2.1 J.2.2.1 J.2.2.2.1 ∈ Z_W) (hd : z_dsc J.1 As.length) (hro : z_room J I = true) (hs : Nat.ble (rest.map fun v => v.category).sum 8 = true)
    (kk : ∀ x h1, K = some (x, h1) → Z_S G I (pc + 3) la (z_ps J.2.2.2.1 x rest) h1 (R' x h1) k) : Z_S G I pc la st h R k := by
  subst hst
  refine z_call (rest := rest) hE hM hR (fun q => ⟨fun v hv => q v (List.mem_append_left _ (List.mem_reverse.mpr hv)), fun v hv => q v (List.mem_append_right _ hv)⟩) ?_ kk
  · intro p e Rm s m args below meth c0 A Q n0 t0 rho0 cid0 H locs cells slots rho cid Ls x h1 rF hF hK Cx D hmet hbl hpre hrm
    obtain ⟨hx, hb, hml, hown, hts, hr, hlk, hin, hA, hfr, hlo, hce, hsl, hEv, hsc, hret⟩ := id Cx
    obtain ⟨d1, d2, d3, d4, d5, d6, d7, d8, d9, d10, d11⟩ := id D
    obtain ⟨hr1, hr2⟩ := z_room_spec hro
    have hG : GoodIn Z_W (va_wsS I.2.2.2.2.1 idx J.1 (z_ws J)) := z_good (fun w hw => by
      rcases List.mem_append.mp hw with q | q
      · rcases List.mem_cons.mp q with q | q
        · rw [q]; exact w1
        rcases List.mem_cons.mp q with q | q
        · rw [q]; exact w2
        rcases List.mem_cons.mp q with q | q
        · rw [q]; exact w4
        cases q
      · rcases List.mem_cons.mp q with q | q
        · rw [q]; exact w5
        · exact q)
    have hrm' : (z_rm J (z_n h1 - z_n h) (z_t h1 - z_t h)).frames + 1 ≤ Rm.frames ∧ 8 + (J.2.2.1 + 11) + (z_rm J (z_n h1 - z_n h) (z_t h1 - z_t h)).locals ≤ Rm.locals := ⟨Nat.le_trans hr1 hfr, Nat.le_trans hr2 hlo⟩
    refine va_runS (As := As.map (z_rn rho)) (rest := rest.map (z_rn rho)) ⟨hx, hb, hml, hown, hts⟩ hmet (va_cwS (ws' := Z_W) (bytes := J.2.1) (maxL := J.2.2.1) (ret := J.2.2.2.1) As.length hts hG rfl rfl rfl hd hrm') ⟨hbl, fun U hU hW => ⟨rfl, hpre U hU hW⟩⟩ rfl (by rw [List.length_map]) d4.1 ?_ (lv_room (by rw [z_cat]; exact Nat.le_of_ble_eq_true hs)) hdg hrm
    show ((As.reverse ++ rest).map (z_rn rho)) = _
    rw [List.map_append, List.map_reverse]

set_option maxHeartbeats 1000000 in
theorem z_callSN {G : Z_G} {I : Z_M} {E : Type} {pc : Nat} {la : List (Option Value)} {h : Z_H} {k : E → Option (Int32 × Z_H)} {rest : List Value} {J : Z_M} {As : List Value} {K : Option (Int32 × Z_H)} {R : Option E} {R' : Int32 → Z_H → Option E} {idx : Nat} {st : List Value} (hE : z_EV G) (hM : z_Met G J As h K) (hR : ∀ q, R.bind k = some q → ∃ x h1, K = some (x, h1) ∧ (R' x h1).bind k = some q)
    (hdg : decode I.2.1 pc = .ok (.invokestatic idx, 3)) (hst : st = As.reverse ++ rest) {host : String} (hnw : ∀ A s, G.2.2.2.1 A s → va_Nw (.methodLinkNest I.2.2.2.2.1 idx J.1 host) s) (w2 : Cond.static J.1 ∈ Z_W) (w4 : Cond.initialized J.1.cls ∈ Z_W) (w5 : Cond.code J.1 J.2.1 J.2.2.1 J.2.2.2.1 ∈ Z_W) (hd : z_dsc J.1 As.length) (hro : z_room J I = true) (hs : Nat.ble (rest.map fun v => v.category).sum 8 = true)
    (kk : ∀ x h1, K = some (x, h1) → Z_S G I (pc + 3) la (z_ps J.2.2.2.1 x rest) h1 (R' x h1) k) : Z_S G I pc la st h R k := by
  subst hst
  refine z_call (rest := rest) hE hM hR (fun q => ⟨fun v hv => q v (List.mem_append_left _ (List.mem_reverse.mpr hv)), fun v hv => q v (List.mem_append_right _ hv)⟩) ?_ kk
  · intro p e Rm s m args below meth c0 A Q n0 t0 rho0 cid0 H locs cells slots rho cid Ls x h1 rF hF hK Cx D hmet hbl hpre hrm
    obtain ⟨hx, hb, hml, hown, hts, hr, hlk, hin, hA, hfr, hlo, hce, hsl, hEv, hsc, hret⟩ := id Cx
    obtain ⟨d1, d2, d3, d4, d5, d6, d7, d8, d9, d10, d11⟩ := id D
    obtain ⟨hr1, hr2⟩ := z_room_spec hro
    have hG : GoodIn Z_W (z_ws J) := z_good (fun w hw => by
      rcases List.mem_cons.mp hw with q | q
      · rw [q]; exact w5
      · exact q)
    have hrm' : (z_rm J (z_n h1 - z_n h) (z_t h1 - z_t h)).frames + 1 ≤ Rm.frames ∧ 8 + (J.2.2.1 + 11) + (z_rm J (z_n h1 - z_n h) (z_t h1 - z_t h)).locals ≤ Rm.locals := ⟨Nat.le_trans hr1 hfr, Nat.le_trans hr2 hlo⟩
    refine va_runSN (As := As.map (z_rn rho)) (rest := rest.map (z_rn rho)) ⟨hx, hb, hml, hown, hts⟩ hmet ⟨va_cnB (ws' := Z_W) (bytes := J.2.1) (maxL := J.2.2.1) (ret := J.2.2.2.1) As.length hts hG rfl rfl rfl (hnw A s hEv) (hts _ w4) hd hrm', hts _ w2, trivial⟩ ⟨hbl, fun U hU hW => ⟨rfl, hpre U hU hW⟩⟩ rfl (by rw [List.length_map]) d4.1 ?_ (lv_room (by rw [z_cat]; exact Nat.le_of_ble_eq_true hs)) hdg hrm
    show ((As.reverse ++ rest).map (z_rn rho)) = _
    rw [List.map_append, List.map_reverse]

set_option maxHeartbeats 1000000 in
theorem z_callI {G : Z_G} {I : Z_M} {E : Type} {pc : Nat} {la : List (Option Value)} {h : Z_H} {k : E → Option (Int32 × Z_H)} {rest : List Value} {J : Z_M} {As : List Value} {K : Option (Int32 × Z_H)} {R : Option E} {R' : Int32 → Z_H → Option E} {a idx : Nat} {st : List Value} (hE : z_EV G) (hM : z_Met G J (.ref a :: As) h K) (hR : ∀ q, R.bind k = some q → ∃ x h1, K = some (x, h1) ∧ (R' x h1).bind k = some q)
    (hdg : decode I.2.1 pc = .ok (.invokespecial idx, 3)) (hst : st = As.reverse ++ .ref a :: rest) (hret0 : J.2.2.2.1 = none) (hnm : J.1.name = "<init>") (w1 : Cond.methodLink I.2.2.2.2.1 idx J.1 ∈ Z_W) (w2 : Cond.instanceMethod J.1 ∈ Z_W) (w4 : Cond.initialized J.1.cls ∈ Z_W) (w5 : Cond.code J.1 J.2.1 J.2.2.1 J.2.2.2.1 ∈ Z_W) (hd : z_dsc J.1 As.length) (hro : z_room J I = true) (hs : Nat.ble (rest.map fun v => v.category).sum 8 = true)
    (kk : ∀ x h1, K = some (x, h1) → Z_S G I (pc + 3) la (z_ps J.2.2.2.1 x rest) h1 (R' x h1) k) : Z_S G I pc la st h R k := by
  subst hst
  refine z_call (rest := rest) hE hM hR (fun q => ⟨fun v hv => ?_, fun v hv => q v (List.mem_append_right _ (List.mem_cons_of_mem _ hv))⟩) ?_ kk
  · rcases List.mem_cons.mp hv with e | e
    · exact q v (List.mem_append_right _ (by rw [e]; exact List.mem_cons_self))
    · exact q v (List.mem_append_left _ (List.mem_reverse.mpr e))
  · intro p e Rm s m args below meth c0 A Q n0 t0 rho0 cid0 H locs cells slots rho cid Ls x h1 rF hF hK Cx D hmet hbl hpre hrm
    obtain ⟨hx, hb, hml, hown, hts, hr, hlk, hin, hA, hfr, hlo, hce, hsl, hEv, hsc, hret⟩ := id Cx
    obtain ⟨d1, d2, d3, d4, d5, d6, d7, d8, d9, d10, d11⟩ := id D
    obtain ⟨hr1, hr2⟩ := z_room_spec hro
    have hG : GoodIn Z_W (z_ws J) := z_good (fun w hw => by
      rcases List.mem_cons.mp hw with q | q
      · rw [q]; exact w5
      · exact q)
    have hrm' : (z_rm J (z_n h1 - z_n h) (z_t h1 - z_t h)).frames + 1 ≤ Rm.frames ∧ 8 + (J.2.2.1 + 11) + (z_rm J (z_n h1 - z_n h) (z_t h1 - z_t h)).locals ≤ Rm.locals := ⟨Nat.le_trans hr1 hfr, Nat.le_trans hr2 hlo⟩
    refine va_runI (b := rho (a + 1)) (As := As.map (z_rn rho)) (rest := rest.map (z_rn rho)) ⟨hx, hb, hml, hown, hts⟩ hmet (cwI (ws' := Z_W) (bytes := J.2.1) (maxL := J.2.2.1) As.length hts hG (by unfold z_ws; rw [hret0]) rfl rfl (hts _ w4) (hts _ w1) (hts _ w2) hnm hd hrm') ⟨hbl, fun U hU hW => ⟨rfl, hpre U hU hW⟩⟩ rfl (by rw [List.length_map]) d4.1 ?_ (lv_room (by rw [z_cat]; exact Nat.le_of_ble_eq_true hs)) hdg hrm
    show ((As.reverse ++ .ref a :: rest).map (z_rn rho)) = _
    rw [List.map_append, List.map_reverse]
    rfl

set_option maxHeartbeats 1000000 in
theorem z_callIN {G : Z_G} {I : Z_M} {E : Type} {pc : Nat} {la : List (Option Value)} {h : Z_H} {k : E → Option (Int32 × Z_H)} {rest : List Value} {J : Z_M} {As : List Value} {K : Option (Int32 × Z_H)} {R : Option E} {R' : Int32 → Z_H → Option E} {a idx : Nat} {st : List Value} (hE : z_EV G) (hM : z_Met G J (.ref a :: As) h K) (hR : ∀ q, R.bind k = some q → ∃ x h1, K = some (x, h1) ∧ (R' x h1).bind k = some q)
    (hdg : decode I.2.1 pc = .ok (.invokespecial idx, 3)) (hst : st = As.reverse ++ .ref a :: rest) {host : String} (hret0 : J.2.2.2.1 = none) (hnm : J.1.name = "<init>") (hnw : ∀ A s, G.2.2.2.1 A s → va_Nw (.methodLinkNest I.2.2.2.2.1 idx J.1 host) s) (w2 : Cond.instanceMethod J.1 ∈ Z_W) (w4 : Cond.initialized J.1.cls ∈ Z_W) (w5 : Cond.code J.1 J.2.1 J.2.2.1 J.2.2.2.1 ∈ Z_W) (hd : z_dsc J.1 As.length) (hro : z_room J I = true) (hs : Nat.ble (rest.map fun v => v.category).sum 8 = true)
    (kk : ∀ x h1, K = some (x, h1) → Z_S G I (pc + 3) la (z_ps J.2.2.2.1 x rest) h1 (R' x h1) k) : Z_S G I pc la st h R k := by
  subst hst
  refine z_call (rest := rest) hE hM hR (fun q => ⟨fun v hv => ?_, fun v hv => q v (List.mem_append_right _ (List.mem_cons_of_mem _ hv))⟩) ?_ kk
  · rcases List.mem_cons.mp hv with e | e
    · exact q v (List.mem_append_right _ (by rw [e]; exact List.mem_cons_self))
    · exact q v (List.mem_append_left _ (List.mem_reverse.mpr e))
  · intro p e Rm s m args below meth c0 A Q n0 t0 rho0 cid0 H locs cells slots rho cid Ls x h1 rF hF hK Cx D hmet hbl hpre hrm
    obtain ⟨hx, hb, hml, hown, hts, hr, hlk, hin, hA, hfr, hlo, hce, hsl, hEv, hsc, hret⟩ := id Cx
    obtain ⟨d1, d2, d3, d4, d5, d6, d7, d8, d9, d10, d11⟩ := id D
    obtain ⟨hr1, hr2⟩ := z_room_spec hro
    have hG : GoodIn Z_W (z_ws J) := z_good (fun w hw => by
      rcases List.mem_cons.mp hw with q | q
      · rw [q]; exact w5
      · exact q)
    have hrm' : (z_rm J (z_n h1 - z_n h) (z_t h1 - z_t h)).frames + 1 ≤ Rm.frames ∧ 8 + (J.2.2.1 + 11) + (z_rm J (z_n h1 - z_n h) (z_t h1 - z_t h)).locals ≤ Rm.locals := ⟨Nat.le_trans hr1 hfr, Nat.le_trans hr2 hlo⟩
    refine va_runIN (b := rho (a + 1)) (As := As.map (z_rn rho)) (rest := rest.map (z_rn rho)) ⟨hx, hb, hml, hown, hts⟩ hmet ⟨va_cnB (ws' := Z_W) (bytes := J.2.1) (maxL := J.2.2.1) (ret := none) As.length hts hG (by unfold z_ws; rw [hret0]) rfl rfl (hnw A s hEv) (hts _ w4) hd hrm', hnm, hts _ w2⟩ ⟨hbl, fun U hU hW => ⟨rfl, hpre U hU hW⟩⟩ rfl (by rw [List.length_map]) d4.1 ?_ (lv_room (by rw [z_cat]; exact Nat.le_of_ble_eq_true hs)) hdg hrm
    show ((As.reverse ++ .ref a :: rest).map (z_rn rho)) = _
    rw [List.map_append, List.map_reverse]
    rfl

def z_mk : Nat → List Value → List (Option Value)
  | n, [] => List.replicate n none
  | n, v :: vs => if v.category = 2 then some v :: none :: z_mk (n - 2) vs else some v :: z_mk (n - 1) vs
theorem z_mk_spec (rho : Nat → Nat) : ∀ (av : List Value) (n o i : Nat) (v : Value), (z_mk n av)[i]? = some (some v) → (o + i, z_rn rho v) ∈ lv_args o (av.map (z_rn rho)) ∧ v ∈ av := by
  intro av
  induction av with
  | nil =>
    intro n o i v h
    unfold z_mk at h
    rw [List.getElem?_replicate] at h
    split at h <;> cases h
  | cons w av ih =>
    intro n o i v h
    unfold z_mk at h
    rw [List.map_cons]
    unfold lv_args
    rw [z_rn_cat]
    by_cases hc : w.category = 2
    · rw [if_pos hc] at h ⊢
      cases i with
      | zero =>
        cases h
        exact ⟨List.mem_cons_self, List.mem_cons_self⟩
      | succ i =>
        cases i with
        | zero => cases h
        | succ i =>
          obtain ⟨q1, q2⟩ := ih (n - 2) (o + 2) i v h
          exact ⟨List.mem_cons_of_mem _ (by rw [show o + (i + 1 + 1) = o + 2 + i by omega]; exact q1), List.mem_cons_of_mem _ q2⟩
    · rw [if_neg hc] at h ⊢
      cases i with
      | zero =>
        cases h
        exact ⟨List.mem_cons_self, List.mem_cons_self⟩
      | succ i =>
        obtain ⟨q1, q2⟩ := ih (n - 1) (o + 1) i v h
        exact ⟨List.mem_cons_of_mem _ (by rw [show o + (i + 1) = o + 1 + i by omega]; exact q1), List.mem_cons_of_mem _ q2⟩
theorem z_sl_len (rho : Nat → Nat) : ∀ av : List Value, (lg_sl (av.map (z_rn rho))).length = (av.map fun v => if v.category = 2 then 2 else 1).sum := by
  intro av
  induction av with
  | nil => rfl
  | cons v av ih =>
    have e : lg_sl ((v :: av).map (z_rn rho)) = (if (z_rn rho v).category = 2 then [Slot.val (z_rn rho v), .second] else [.val (z_rn rho v)]) ++ lg_sl (av.map (z_rn rho)) := rfl
    rw [e, List.length_append, ih, List.map_cons, List.sum_cons, z_rn_cat]
    split <;> rfl
theorem z_in {G : Z_G} {I : Z_M} {av : List Value} {h : Z_H} {E : Type} {R : Option E} {k : E → Option (Int32 × Z_H)} {la : List (Option Value)} (hp : plainName I.1.cls = true) (ho : I.2.2.2.2.1 = I.1.cls) (hl : Nat.ble (av.map fun v => if v.category = 2 then 2 else 1).sum I.2.2.1 = true) (hla : z_mk I.2.2.1 av = la) (kk : Z_S G I 0 la [] h R k) : z_Met G I av h (R.bind k) := by
  subst hla
  refine z_enter hp ho (fun rho => by rw [z_sl_len]; exact Nat.le_of_ble_eq_true hl) (fun rho i v hv => ?_) (fun i v hv => (z_mk_spec id av _ 0 i v hv).2) kk
  have q := (z_mk_spec rho av _ 0 i v hv).1
  rw [Nat.zero_add] at q
  exact q
def z_le : List (Option Value) → List (Option Value) → Prop
  | [], _ => True
  | none :: l, _ :: l' => z_le l l'
  | some v :: l, w :: l' => w = some v ∧ z_le l l'
  | _ :: _, [] => False
theorem z_le_spec : ∀ (l l' : List (Option Value)), z_le l l' → ∀ (i : Nat) (v : Value), l[i]? = some (some v) → l'[i]? = some (some v) := by
  intro l
  induction l with
  | nil => intro l' _ i v h; cases h
  | cons w l ih =>
    intro l' hl i v h
    cases l' with
    | nil => cases w <;> exact hl.elim
    | cons w' l' =>
      cases w with
      | none =>
        cases i with
        | zero => cases h
        | succ i => exact ih l' hl i v h
      | some u =>
        cases i with
        | zero =>
          cases h
          rw [hl.1]
          rfl
        | succ i => exact ih l' hl.2 i v h
theorem z_weak {G : Z_G} {I : Z_M} {E : Type} {pc : Nat} {la la' : List (Option Value)} {st : List Value} {h : Z_H} {R : Option E} {k : E → Option (Int32 × Z_H)} (hw : z_le la' la) (kk : Z_S G I pc la' st h R k) : Z_S G I pc la st h R k := by
  refine z_next kk (fun _ e => e) (fun rF hF w => ?_)
  intro p e Rm s m args below meth c A Q n0 t0 rho0 cid0 H locs cells slots rho cid Ls C D
  obtain ⟨d1, d2, d3, d4, d5⟩ := id D
  exact w p e Rm s m args below meth c A Q n0 t0 rho0 cid0 H locs cells slots rho cid Ls C ⟨d1, d2, fun i v hv => d3 i v (z_le_spec _ _ hw i v hv), ⟨d4.1, d4.2.1, fun i v hv => d4.2.2 i v (z_le_spec _ _ hw i v hv)⟩, d5⟩
theorem z_gdb {α β : Type} {b : Bool} {R : Option α} {k : α → Option β} {q : β} (e : (gd b R).bind k = some q) : b = true := by
  cases b with
  | true => rfl
  | false => cases e
theorem z_hP {E : Type} {k : E → Option (Int32 × Z_H)} {h : Z_H} {f : Option Int32} {g : Int32 → Option E} : ∀ q, (f.bind g).bind k = some q → ∃ x h1, (f.bind fun x => some (x, h)) = some (x, h1) ∧ (g x).bind k = some q := by
  intro q e
  cases f with
  | none => cases e
  | some x => exact ⟨x, h, rfl, e⟩
theorem z_eP {h h1 : Z_H} {x : Int32} {f : Option Int32} (e : (f.bind fun x => some (x, h)) = some (x, h1)) : h1 = h := by
  cases f with
  | none => cases e
  | some y => cases e; rfl
theorem z_hI {E : Type} {k : E → Option (Int32 × Z_H)} {f : Option (Int32 × Z_H)} {g : Int32 × Z_H → Option E} : ∀ q, (f.bind g).bind k = some q → ∃ x h1, (f.bind some) = some (x, h1) ∧ (g (x, h1)).bind k = some q := by
  intro q e
  cases f with
  | none => cases e
  | some x => exact ⟨x.1, x.2, rfl, e⟩
theorem z_hV {E : Type} {k : E → Option (Int32 × Z_H)} {f : Option Z_H} {g : Z_H → Option E} : ∀ q, (f.bind g).bind k = some q → ∃ (x : Int32) (h1 : Z_H), (f.bind fun h1 => some (0, h1)) = some (x, h1) ∧ (g h1).bind k = some q := by
  intro q e
  cases f with
  | none => cases e
  | some x => exact ⟨0, x, rfl, e⟩
