/-! spells -/
def SB (G : Z_G) (adK adV : Nat → Nat) (A : Nat → Prop) (rho : Nat → Nat) (cid : Nat → ClassId) (h : Z_H) (U : State) : Prop := SF adK adV A U ∧ va_P (G.2.1, G.2.2.1) Z_cl (z_w rho cid h) U.heap ∧ z_K G cid h U
theorem SB.to {G : Z_G} {adK adV : Nat → Nat} {A : Nat → Prop} {rho : Nat → Nat} {cid : Nat → ClassId} {h : Z_H} {u U : State} (hvm : u.vm.Alike U.vm) (hH : U.heap = u.heap) (q : SB G adK adV A rho cid h u) : SB G adK adV A rho cid h U := ⟨q.1.to hvm hH, by rw [hH]; exact q.2.1, q.2.2.moved hvm⟩
theorem SB.cal {G : Z_G} {adK adV : Nat → Nat} {A : Nat → Prop} {rho : Nat → Nat} {cid : Nat → ClassId} {h : Z_H} {U : State} (g : JFrame) (mk : MethodId) (a : Array Value) (q : SB G adK adV A rho cid h U) : SB G adK adV A rho cid h (U.calling g mk a) := SB.to (u := U) (U := U.calling g mk a) (Vm.Alike.refl U.vm) rfl q
def RF (h : Z_H) (a b d x : Nat) : Prop := z_is h a 4 = true ∧ z_r h a 1 = some b ∧ z_i h a 6 = nI x ∧ z_is h b 8 = true ∧ z_r h b 0 = some d ∧ d < z_n h ∧ z_k h d = 1 ∧ z_len h d = 600 ∧ x ≤ 600
set_option maxHeartbeats 4000000 in
set_option maxRecDepth 100000 in
theorem s_loop {p : Program} {e : Env} {s : State} {m : MethodId} {args : Array Value} {below : List Frame} {meth : Method} {c : Code} {G : Z_G} {adK adV : Nat → Nat} {A : Nat → Prop} {rho : Nat → Nat} {cid : Nat → ClassId} {h : Z_H} {a b d x j i : Nat} {r : Int32} (hx : p.tables.exec = Jvm.exec) (hb : c.code = cX4_spells) (hml : c.maxLocals = 4) (hown : s.vm.findClass RX4 = some m.cls) (hts : ∀ w ∈ Z_W, w.before args s = true) (hr : meth.sig.returnType = some .boolean) (hlk : meth.locks = false) (hSB : SB G adK adV A rho cid h s) (rf : RF h a b d x) (hi : i < 14) (hj : j + lenS.getD i 0 ≤ x) : ∀ (bl : List Int32) (k : Nat) (ls : Array Slot) (locs : List Loc), (bytS.getD i []).drop k = bl → k + bl.length = lenS.getD i 0 → va_S FA s.heap s.heap locs → lv_has ls 4 [(3, .int (nI k)), (0, .ref (rho (a + 1))), (1, .int (nI j)), (2, .ref (adK i))] → (if z_spell h d (j + k) bl then (1 : Int32) else 0) = r → W p G.1 e (sRm 4 85) s m args below meth c s.heap locs 0 0 (MQ below (sQi r s.heap) args s 0 0 FA) (F0 m 17 ls []) := by
  obtain ⟨hSF, hP, hK⟩ := id hSB
  have hSt := hSF.2.2
  obtain ⟨f1, f2, f3, f4, f5, f6, f7, f8, f9⟩ := rf
  obtain ⟨ha, hka⟩ := z_is_spec f1
  obtain ⟨hbn, hkb⟩ := z_is_spec f4
  obtain ⟨le1, le2⟩ := lenE i hi
  intro bl
  induction bl with
  | nil =>
    intro k ls locs e1 e2 hS hl er
    have ek : k = lenS.getD i 0 := e2
    refine lv_iload_n hx hb dX4_spells_17 rfl (lv_at hl 0 rfl) ?_
    refine lv_aload_n hx hb dX4_spells_18 rfl (lv_at hl 3 rfl) ?_
    refine s_callV (b := adK i) (As := []) (rest := [.int (nI k)]) hx hb hml hown hts (k_len (adK := adK) (adV := adV) (A := A) hi) (vk_recv hSt hi hS.wk) (fun U g mk a q => q.cal g mk a) (fun U hU hW => hSF.to hW.alike hU) hS w_475 w_476 w_477 w_13 w_478 q_len ⟨Nat.le_of_ble_eq_true rfl, Nat.le_of_ble_eq_true rfl⟩ hl.1 rfl (Nat.le_of_ble_eq_true rfl) dX4_spells_19 ⟨Nat.zero_le _, Nat.zero_le _⟩ (fun locs1 hS => ?_)
    refine lv_icmp_ge (tgt := 52) hx hb dX4_spells_22 (by decide) (fun _ => ?_) (fun q => absurd (nI_le (by omega) (by omega)) q)
    refine lv_iconst (v := 1) hx hb dX4_spells_52 (by decide) ?_
    exact W.zret (v := 1) hx hb hr rfl (fun t ht hW => ⟨⟨1, (), rfl, er, ht⟩, hS.F ht⟩) hS.2.2 dX4_spells_53
  | cons b0 bl ih =>
    intro k ls locs e1 e2 hS hl er
    obtain ⟨g1, g2, g3, g4⟩ := sc_dropC e1
    have e3 : k + (bl.length + 1) = lenS.getD i 0 := e2
    have hk : k < lenS.getD i 0 := by omega
    have er2 : (if (decide (z_i h d (j + k) = b0) && z_spell h d (j + k + 1) bl) then (1 : Int32) else 0) = r := er
    refine lv_iload_n hx hb dX4_spells_17 rfl (lv_at hl 0 rfl) ?_
    refine lv_aload_n hx hb dX4_spells_18 rfl (lv_at hl 3 rfl) ?_
    refine s_callV (b := adK i) (As := []) (rest := [.int (nI k)]) hx hb hml hown hts (k_len (adK := adK) (adV := adV) (A := A) hi) (vk_recv hSt hi hS.wk) (fun U g mk a q => q.cal g mk a) (fun U hU hW => hSF.to hW.alike hU) hS w_475 w_476 w_477 w_13 w_478 q_len ⟨Nat.le_of_ble_eq_true rfl, Nat.le_of_ble_eq_true rfl⟩ hl.1 rfl (Nat.le_of_ble_eq_true rfl) dX4_spells_19 ⟨Nat.zero_le _, Nat.zero_le _⟩ (fun locs1 hS => ?_)
    refine lv_icmp_ge (tgt := 52) hx hb dX4_spells_22 (by decide) (fun q => absurd q (nI_ge hk (by omega))) (fun _ => ?_)
    refine lv_aload_n hx hb dX4_spells_25 rfl (lv_at hl 1 rfl) ?_
    refine va_get (D := (G.2.1, G.2.2.1)) (cl := Z_cl) (tys := []) (ws := z_w rho cid h) (ci := 4) (v := .ref (rho (b + 1))) hx hb hts cX4.2.1 hown hK.1 hP a (by rw [z_w_at ha, z_e_obj hka]) cX4.1 1 (by decide) (hts _ w_294) (fun _ h9 => h9) ?_ dX4_spells_26 ?_
    · rw [z_fs_at (by decide), z_fv_r rfl, f2]
      rfl
    refine va_get (D := (G.2.1, G.2.2.1)) (cl := Z_cl) (tys := []) (ws := z_w rho cid h) (ci := 8) (v := .ref (rho (d + 1))) hx hb hts cX8.2.1 hown hK.1 hP b (by rw [z_w_at hbn, z_e_obj hkb]) cX8.1 0 (by decide) (hts _ w_41) (fun _ h9 => h9) ?_ dX4_spells_29 ?_
    · rw [z_fs_at (by decide), z_fv_r rfl, f5]
      rfl
    refine lv_iload_n hx hb dX4_spells_32 rfl (lv_at hl 2 rfl) ?_
    refine lv_iload_n hx hb dX4_spells_33 rfl (lv_at hl 0 rfl) ?_
    refine lv_iadd hx hb dX4_spells_34 ?_
    rw [nI_add]
    refine va_bald (tys := [(cid d, .byte)]) (f := z_i h d) hx hb (z_K1 hK f6 (by omega) (by rw [f7]; rfl)) hP d 0 (by rw [z_w_at f6, z_e_arr (by omega)]) rfl (z_vin (nI_pos' (by omega)) (by rw [nI_clamp (by omega), f8]; omega)) dX4_spells_35 ?_
    rw [nI_clamp (by omega)]
    refine lv_aload_n hx hb dX4_spells_36 rfl (lv_at hl 3 rfl) ?_
    refine lv_iload_n hx hb dX4_spells_37 rfl (lv_at hl 0 rfl) ?_
    refine s_callV (b := adK i) (As := [.int (nI k)]) (rest := [.int (z_i h d (j + k))]) hx hb hml hown hts (k_chA (adK := adK) (adV := adV) (A := A) hi hk) (vk_recv hSt hi hS.wk) (fun U g mk a q => q.cal g mk a) (fun U hU hW => hSF.to hW.alike hU) hS w_485 w_486 w_487 w_13 w_488 q_chA ⟨Nat.le_of_ble_eq_true rfl, Nat.le_of_ble_eq_true rfl⟩ hl.1 rfl (Nat.le_of_ble_eq_true rfl) dX4_spells_38 ⟨Nat.zero_le _, Nat.zero_le _⟩ (fun locs1 hS => ?_)
    rw [g2]
    refine lv_icmp_eq (tgt := 46) hx hb dX4_spells_41 (by decide) (fun q => ?_) (fun q => ?_)
    · refine lv_iinc (k := 0) (v := nI (k + 1)) hx hb dX4_spells_46 hl rfl (nI_1 k) (by decide) rfl (fun ls2 hl2 => ?_)
      refine lv_goto (tgt := 17) hx hb dX4_spells_49 (by decide) ?_
      refine ih (k + 1) ls2 _ g3 (by omega) hS hl2 ?_
      rw [decide_eq_true q, Bool.true_and] at er2
      exact er2
    · rw [decide_eq_false q, Bool.false_and, if_neg (by decide)] at er2
      refine lv_iconst (v := 0) hx hb dX4_spells_44 (by decide) ?_
      exact W.zret (v := 0) hx hb hr rfl (fun t ht hW => ⟨⟨0, (), rfl, er2, ht⟩, hS.F ht⟩) hS.2.2 dX4_spells_45
set_option maxHeartbeats 4000000 in
set_option maxRecDepth 100000 in
theorem k_spl {G : Z_G} {adK adV : Nat → Nat} {A : Nat → Prop} {H0 : Heap} {rho : Nat → Nat} {cid : Nat → ClassId} {h : Z_H} {a b d x j i : Nat} {r : Int32} (hi : i < 14) (rf : RF h a b d x) (hj : j ≤ x) (er : (if (decide (x - j = (bytS.getD i []).length) && z_spell h d j (bytS.getD i [])) then (1 : Int32) else 0) = r) : Met G.1 yX4_spells (sWs yX4_spells cX4_spells 4 (some .boolean)) (sRm 4 85) (sPc [.ref (rho (a + 1)), .int (nI j), .ref (adK i)] H0 (SB G adK adV A rho cid h)) (sQi r H0) 0 0 FA := by
  refine Met.ofW (cc := cX4_spells) (maxL := 4) (ret := (some .boolean)) (by decide) rfl ?_
  intro p e s m args below meth c s₁ B hml hv
  obtain ⟨rfl, hH, hSB⟩ := hv
  have hx := B.exec
  have hb := B.bytes
  have hr := B.returns
  have hlk := B.notSynchronized
  have hts0 := atoms_spec (ws := sWs yX4_spells cX4_spells 4 (some .boolean)) B.pre
  have hts : ∀ w ∈ Z_W, w.before ([.ref (rho (a + 1)), .int (nI j), .ref (adK i)] : List Value).toArray s = true := fun q hq => hts0 q (List.mem_cons_of_mem _ hq)
  have hown : s.vm.findClass RX4 = some m.cls := findClass_of_methodNamed B.named
  subst hH
  have hS : va_S FA s.heap s.heap [] := va_S.rf
  have hl := lv_entry ([.ref (rho (a + 1)), .int (nI j), .ref (adK i)]) (n := 4) (Nat.le_of_ble_eq_true rfl)
  rw [lg_entry_eq]
  generalize (lg_sl ([.ref (rho (a + 1)), .int (nI j), .ref (adK i)]) ++ List.replicate (4 - (lg_sl ([.ref (rho (a + 1)), .int (nI j), .ref (adK i)])).length) Slot.unset).toArray = ls at hl ⊢
  have hl : lv_has ls 4 [(0, .ref (rho (a + 1))), (1, .int (nI j)), (2, .ref (adK i))] := hl
  obtain ⟨hSF, hP, hK⟩ := id hSB
  have hSt := hSF.2.2
  obtain ⟨f1, f2, f3, f4, f5, f6, f7, f8, f9⟩ := id rf
  obtain ⟨ha, hka⟩ := z_is_spec f1
  obtain ⟨le1, le2⟩ := lenE i hi
  refine lv_aload_n hx hb dX4_spells_0 rfl (lv_at hl 0 rfl) ?_
  refine va_get (D := (G.2.1, G.2.2.1)) (cl := Z_cl) (tys := []) (ws := z_w rho cid h) (ci := 4) (v := .int (nI x)) hx hb hts cX4.2.1 hown hK.1 hP a (by rw [z_w_at ha, z_e_obj hka]) cX4.1 6 (by decide) (hts _ w_299) (fun _ h9 => h9) ?_ dX4_spells_1 ?_
  · rw [z_fs_at (by decide), f3]
    rfl
  refine lv_iload_n hx hb dX4_spells_4 rfl (lv_at hl 1 rfl) ?_
  refine lv_isub hx hb dX4_spells_5 ?_
  rw [nI_sub hj]
  refine lv_aload_n hx hb dX4_spells_6 rfl (lv_at hl 2 rfl) ?_
  refine s_callV (b := adK i) (As := []) (rest := [.int (nI (x - j))]) hx hb hml hown hts (k_len (adK := adK) (adV := adV) (A := A) hi) (vk_recv hSt hi hS.wk) (fun U g mk a q => q.cal g mk a) (fun U hU hW => hSF.to hW.alike hU) hS w_475 w_476 w_477 w_13 w_478 q_len ⟨Nat.le_of_ble_eq_true rfl, Nat.le_of_ble_eq_true rfl⟩ hl.1 rfl (Nat.le_of_ble_eq_true rfl) dX4_spells_7 ⟨Nat.zero_le _, Nat.zero_le _⟩ (fun locs1 hS => ?_)
  refine lv_icmp_eq (tgt := 15) hx hb dX4_spells_10 (by decide) (fun q => ?_) (fun q => ?_)
  · have q' : x - j = lenS.getD i 0 := (nI_eq (by omega) (by omega)).mp q
    rw [decide_eq_true (q'.trans le1), Bool.true_and] at er
    refine lv_iconst (v := 0) hx hb dX4_spells_15 (by decide) ?_
    refine lv_istore_n (lv' := [(3, .int (nI 0)), (0, .ref (rho (a + 1))), (1, .int (nI j)), (2, .ref (adK i))]) hx hb dX4_spells_16 rfl hl (by decide) rfl (fun ls2 hl2 => ?_)
    exact s_loop hx hb hml hown hts hr hlk hSB rf hi (by omega) (bytS.getD i []) 0 ls2 locs1 rfl (by omega) hS hl2 er
  · have q' : ¬ x - j = (bytS.getD i []).length := fun z => q (by rw [z, le1])
    rw [decide_eq_false q', Bool.false_and, if_neg (by decide)] at er
    refine lv_iconst (v := 0) hx hb dX4_spells_13 (by decide) ?_
    exact W.zret (v := 0) hx hb hr rfl (fun t ht hW => ⟨⟨0, (), rfl, er, ht⟩, hS.F ht⟩) hS.2.2 dX4_spells_14
