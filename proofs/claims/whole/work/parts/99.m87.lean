/-! String's own methods, walked -/
theorem gd_mem {l : List Int32} {k : Nat} (h : k < l.length) : l.getD k 0 ∈ l := by
  rw [List.getD_eq_getElem?_getD, List.getElem?_eq_getElem h]
  exact List.getElem_mem h
theorem q_chk : z_dsc yJ3_checkIndex_8e157 3 := ⟨by decide, by decide, by decide +kernel⟩
theorem q_chkS : z_dsc yJ0_checkIndex_df160 2 := ⟨by decide, by decide, by decide +kernel⟩
theorem q_chL : z_dsc yJ1_charAt_3b067 2 := ⟨by decide, by decide, by decide +kernel⟩
theorem q_chA : z_dsc yJ0_charAt_5068e 1 := ⟨by decide, by decide, by decide +kernel⟩
theorem q_len : z_dsc yJ0_length_8abf5 0 := ⟨by decide, by decide, by decide +kernel⟩
theorem q_cod : z_dsc yJ0_coder_7d493 0 := ⟨by decide, by decide, by decide +kernel⟩
theorem q_lat : z_dsc yJ0_isLatin1_aae02 0 := ⟨by decide, by decide, by decide +kernel⟩
theorem q_spl : z_dsc yX4_spells 2 := ⟨by decide, by decide, by decide +kernel⟩
set_option maxHeartbeats 4000000 in
set_option maxRecDepth 100000 in
theorem k_coder {l : Launch} {adK adV : Nat → Nat} {A : Nat → Prop} {H0 : Heap} {i : Nat} (hi : i < 14) : Met l yJ0_coder_7d493 (sWs yJ0_coder_7d493 cJ0_coder_7d493 1 (some .byte)) (sRm 0 0) (sPc [.ref (adK i)] H0 (SF adK adV A)) (sQi 0 H0) 0 0 FA := by
  refine Met.ofW (cc := cJ0_coder_7d493) (maxL := 1) (ret := (some .byte)) (by decide) rfl ?_
  intro p e s m args below meth c s₁ B hml hv
  obtain ⟨rfl, hH, hZ, hZq, hSt⟩ := hv
  have hx := B.exec
  have hb := B.bytes
  have hr := B.returns
  have hlk := B.notSynchronized
  have hts0 := atoms_spec (ws := sWs yJ0_coder_7d493 cJ0_coder_7d493 1 (some .byte)) B.pre
  have hts : ∀ w ∈ Z_W, w.before ([.ref (adK i)] : List Value).toArray s = true := fun q hq => hts0 q (List.mem_cons_of_mem _ hq)
  have hown : s.vm.findClass RJ0 = some m.cls := findClass_of_methodNamed B.named
  subst hH
  have hS : va_S FA s.heap s.heap [] := va_S.rf
  have hl := lv_entry ([.ref (adK i)]) (n := 1) (Nat.le_of_ble_eq_true rfl)
  rw [lg_entry_eq]
  generalize (lg_sl ([.ref (adK i)]) ++ List.replicate (1 - (lg_sl ([.ref (adK i)])).length) Slot.unset).toArray = ls at hl ⊢
  have hl : lv_has ls 1 [(0, .ref (adK i))] := hl
  refine va_gets hx hb hZ hS.wk hown (hts _ w_483) (fun _ h9 => h9) dJ0_coder_7d493_0 ?_
  refine lv_if_eq (tgt := 13) hx hb dJ0_coder_7d493_3 (by decide) (fun h => absurd h (by decide)) (fun _ => ?_)
  refine lv_aload_n hx hb dJ0_coder_7d493_6 rfl (lv_at hl 0 rfl) ?_
  refine vk_getf hx hb (hSt.1 i hi).2.1 hS.wk hown (hts _ w_1586) (fun _ h9 => h9) dJ0_coder_7d493_7 ?_
  refine lv_goto (tgt := 14) hx hb dJ0_coder_7d493_10 (by decide) ?_
  exact W.zret (v := 0) hx hb hr rfl (fun t ht hW => ⟨⟨0, (), rfl, rfl, ht⟩, hS.F ht⟩) hS.2.2 dJ0_coder_7d493_14
set_option maxHeartbeats 4000000 in
set_option maxRecDepth 100000 in
theorem k_isLatin1 {l : Launch} {adK adV : Nat → Nat} {A : Nat → Prop} {H0 : Heap} {i : Nat} (hi : i < 14) : Met l yJ0_isLatin1_aae02 (sWs yJ0_isLatin1_aae02 cJ0_isLatin1_aae02 1 (some .boolean)) (sRm 0 0) (sPc [.ref (adK i)] H0 (SF adK adV A)) (sQi 1 H0) 0 0 FA := by
  refine Met.ofW (cc := cJ0_isLatin1_aae02) (maxL := 1) (ret := (some .boolean)) (by decide) rfl ?_
  intro p e s m args below meth c s₁ B hml hv
  obtain ⟨rfl, hH, hZ, hZq, hSt⟩ := hv
  have hx := B.exec
  have hb := B.bytes
  have hr := B.returns
  have hlk := B.notSynchronized
  have hts0 := atoms_spec (ws := sWs yJ0_isLatin1_aae02 cJ0_isLatin1_aae02 1 (some .boolean)) B.pre
  have hts : ∀ w ∈ Z_W, w.before ([.ref (adK i)] : List Value).toArray s = true := fun q hq => hts0 q (List.mem_cons_of_mem _ hq)
  have hown : s.vm.findClass RJ0 = some m.cls := findClass_of_methodNamed B.named
  subst hH
  have hS : va_S FA s.heap s.heap [] := va_S.rf
  have hl := lv_entry ([.ref (adK i)]) (n := 1) (Nat.le_of_ble_eq_true rfl)
  rw [lg_entry_eq]
  generalize (lg_sl ([.ref (adK i)]) ++ List.replicate (1 - (lg_sl ([.ref (adK i)])).length) Slot.unset).toArray = ls at hl ⊢
  have hl : lv_has ls 1 [(0, .ref (adK i))] := hl
  refine va_gets hx hb hZ hS.wk hown (hts _ w_483) (fun _ h9 => h9) dJ0_isLatin1_aae02_0 ?_
  refine lv_if_eq (tgt := 17) hx hb dJ0_isLatin1_aae02_3 (by decide) (fun h => absurd h (by decide)) (fun _ => ?_)
  refine lv_aload_n hx hb dJ0_isLatin1_aae02_6 rfl (lv_at hl 0 rfl) ?_
  refine vk_getf hx hb (hSt.1 i hi).2.1 hS.wk hown (hts _ w_1586) (fun _ h9 => h9) dJ0_isLatin1_aae02_7 ?_
  refine lv_if_ne (tgt := 17) hx hb dJ0_isLatin1_aae02_10 (by decide) (fun h => absurd rfl h) (fun _ => ?_)
  refine lv_iconst (v := 1) hx hb dJ0_isLatin1_aae02_13 (by decide) ?_
  refine lv_goto (tgt := 18) hx hb dJ0_isLatin1_aae02_14 (by decide) ?_
  exact W.zret (v := 1) hx hb hr rfl (fun t ht hW => ⟨⟨1, (), rfl, rfl, ht⟩, hS.F ht⟩) hS.2.2 dJ0_isLatin1_aae02_18
set_option maxHeartbeats 4000000 in
set_option maxRecDepth 100000 in
theorem k_chk0 {l : Launch} {adK adV : Nat → Nat} {A : Nat → Prop} {H0 : Heap} {k n : Int32} (h0 : ¬ k < 0) (h1 : k < n) : Met l yJ3_checkIndex_8e157 (sWs yJ3_checkIndex_8e157 cJ3_checkIndex_8e157 3 (some .int)) (sRm 0 0) (sPc [.int k, .int n, .null] H0 (SF adK adV A)) (sQi k H0) 0 0 FA := by
  refine Met.ofW (cc := cJ3_checkIndex_8e157) (maxL := 3) (ret := (some .int)) (by decide) rfl ?_
  intro p e s m args below meth c s₁ B hml hv
  obtain ⟨rfl, hH, hZ, hZq, hSt⟩ := hv
  have hx := B.exec
  have hb := B.bytes
  have hr := B.returns
  have hlk := B.notSynchronized
  have hts0 := atoms_spec (ws := sWs yJ3_checkIndex_8e157 cJ3_checkIndex_8e157 3 (some .int)) B.pre
  have hts : ∀ w ∈ Z_W, w.before ([.int k, .int n, .null] : List Value).toArray s = true := fun q hq => hts0 q (List.mem_cons_of_mem _ hq)
  have hown : s.vm.findClass RJ3 = some m.cls := findClass_of_methodNamed B.named
  subst hH
  have hS : va_S FA s.heap s.heap [] := va_S.rf
  have hl := lv_entry ([.int k, .int n, .null]) (n := 3) (Nat.le_of_ble_eq_true rfl)
  rw [lg_entry_eq]
  generalize (lg_sl ([.int k, .int n, .null]) ++ List.replicate (3 - (lg_sl ([.int k, .int n, .null])).length) Slot.unset).toArray = ls at hl ⊢
  have hl : lv_has ls 3 [(0, .int k), (1, .int n), (2, .null)] := hl
  refine lv_iload_n hx hb dJ3_checkIndex_8e157_0 rfl (lv_at hl 0 rfl) ?_
  refine lv_if_lt (tgt := 9) hx hb dJ3_checkIndex_8e157_1 (by decide) (fun h => absurd h h0) (fun _ => ?_)
  refine lv_iload_n hx hb dJ3_checkIndex_8e157_4 rfl (lv_at hl 0 rfl) ?_
  refine lv_iload_n hx hb dJ3_checkIndex_8e157_5 rfl (lv_at hl 1 rfl) ?_
  refine lv_icmp_lt (tgt := 16) hx hb dJ3_checkIndex_8e157_6 (by decide) (fun _ => ?_) (fun h => absurd h1 h)
  refine lv_iload_n hx hb dJ3_checkIndex_8e157_16 rfl (lv_at hl 0 rfl) ?_
  exact W.zret (v := k) hx hb hr rfl (fun t ht hW => ⟨⟨k, (), rfl, rfl, ht⟩, hS.F ht⟩) hS.2.2 dJ3_checkIndex_8e157_17
set_option maxHeartbeats 4000000 in
set_option maxRecDepth 100000 in
theorem k_chk1 {l : Launch} {adK adV : Nat → Nat} {A : Nat → Prop} {H0 : Heap} {t : Nat} {k n : Int32} (h0 : ¬ k < 0) (h1 : k < n) : Met l yJ3_checkIndex_8e157 (sWs yJ3_checkIndex_8e157 cJ3_checkIndex_8e157 3 (some .int)) (sRm 0 0) (sPc [.int k, .int n, .ref t] H0 (SF adK adV A)) (sQi k H0) 0 0 FA := by
  refine Met.ofW (cc := cJ3_checkIndex_8e157) (maxL := 3) (ret := (some .int)) (by decide) rfl ?_
  intro p e s m args below meth c s₁ B hml hv
  obtain ⟨rfl, hH, hZ, hZq, hSt⟩ := hv
  have hx := B.exec
  have hb := B.bytes
  have hr := B.returns
  have hlk := B.notSynchronized
  have hts0 := atoms_spec (ws := sWs yJ3_checkIndex_8e157 cJ3_checkIndex_8e157 3 (some .int)) B.pre
  have hts : ∀ w ∈ Z_W, w.before ([.int k, .int n, .ref t] : List Value).toArray s = true := fun q hq => hts0 q (List.mem_cons_of_mem _ hq)
  have hown : s.vm.findClass RJ3 = some m.cls := findClass_of_methodNamed B.named
  subst hH
  have hS : va_S FA s.heap s.heap [] := va_S.rf
  have hl := lv_entry ([.int k, .int n, .ref t]) (n := 3) (Nat.le_of_ble_eq_true rfl)
  rw [lg_entry_eq]
  generalize (lg_sl ([.int k, .int n, .ref t]) ++ List.replicate (3 - (lg_sl ([.int k, .int n, .ref t])).length) Slot.unset).toArray = ls at hl ⊢
  have hl : lv_has ls 3 [(0, .int k), (1, .int n), (2, .ref t)] := hl
  refine lv_iload_n hx hb dJ3_checkIndex_8e157_0 rfl (lv_at hl 0 rfl) ?_
  refine lv_if_lt (tgt := 9) hx hb dJ3_checkIndex_8e157_1 (by decide) (fun h => absurd h h0) (fun _ => ?_)
  refine lv_iload_n hx hb dJ3_checkIndex_8e157_4 rfl (lv_at hl 0 rfl) ?_
  refine lv_iload_n hx hb dJ3_checkIndex_8e157_5 rfl (lv_at hl 1 rfl) ?_
  refine lv_icmp_lt (tgt := 16) hx hb dJ3_checkIndex_8e157_6 (by decide) (fun _ => ?_) (fun h => absurd h1 h)
  refine lv_iload_n hx hb dJ3_checkIndex_8e157_16 rfl (lv_at hl 0 rfl) ?_
  exact W.zret (v := k) hx hb hr rfl (fun t ht hW => ⟨⟨k, (), rfl, rfl, ht⟩, hS.F ht⟩) hS.2.2 dJ3_checkIndex_8e157_17
theorem k_chk {l : Launch} {adK adV : Nat → Nat} {A : Nat → Prop} {H0 : Heap} {o : Option Nat} {k n : Int32} (h0 : ¬ k < 0) (h1 : k < n) : Met l yJ3_checkIndex_8e157 (sWs yJ3_checkIndex_8e157 cJ3_checkIndex_8e157 3 (some .int)) (sRm 0 0) (sPc [.int k, .int n, va_rf o] H0 (SF adK adV A)) (sQi k H0) 0 0 FA := by
  cases o with
  | none => exact k_chk0 h0 h1
  | some t => exact k_chk1 h0 h1
set_option maxHeartbeats 4000000 in
set_option maxRecDepth 100000 in
theorem k_chkS {l : Launch} {adK adV : Nat → Nat} {A : Nat → Prop} {H0 : Heap} {k n : Int32} (h0 : ¬ k < 0) (h1 : k < n) : Met l yJ0_checkIndex_df160 (sWs yJ0_checkIndex_df160 cJ0_checkIndex_df160 2 none) (sRm 1 22) (sPc [.int k, .int n] H0 (SF adK adV A)) (sQv H0) 0 0 FA := by
  refine Met.ofW (cc := cJ0_checkIndex_df160) (maxL := 2) (ret := none) (by decide) rfl ?_
  intro p e s m args below meth c s₁ B hml hv
  obtain ⟨rfl, hH, hZ, hZq, hSt⟩ := hv
  have hx := B.exec
  have hb := B.bytes
  have hr := B.returns
  have hlk := B.notSynchronized
  have hts0 := atoms_spec (ws := sWs yJ0_checkIndex_df160 cJ0_checkIndex_df160 2 none) B.pre
  have hts : ∀ w ∈ Z_W, w.before ([.int k, .int n] : List Value).toArray s = true := fun q hq => hts0 q (List.mem_cons_of_mem _ hq)
  have hown : s.vm.findClass RJ0 = some m.cls := findClass_of_methodNamed B.named
  subst hH
  have hS : va_S FA s.heap s.heap [] := va_S.rf
  have hl := lv_entry ([.int k, .int n]) (n := 2) (Nat.le_of_ble_eq_true rfl)
  rw [lg_entry_eq]
  generalize (lg_sl ([.int k, .int n]) ++ List.replicate (2 - (lg_sl ([.int k, .int n])).length) Slot.unset).toArray = ls at hl ⊢
  have hl : lv_has ls 2 [(0, .int k), (1, .int n)] := hl
  have hSF : SF adK adV A s := ⟨hZ, hZq, hSt⟩
  obtain ⟨o, hZo⟩ : ∃ o : Option Nat, va_Z RJ3 "SIOOBE_FORMATTER" "Ljava/util/function/BiFunction;" (va_rf o) A s s.heap := by
    rcases hZq with q | ⟨t, q⟩
    · exact ⟨none, q⟩
    · exact ⟨some t, q⟩
  refine lv_iload_n hx hb dJ0_checkIndex_df160_0 rfl (lv_at hl 0 rfl) ?_
  refine lv_iload_n hx hb dJ0_checkIndex_df160_1 rfl (lv_at hl 1 rfl) ?_
  refine va_gets hx hb hZo hS.wk hown (hts _ w_499) (fun _ h9 => h9) dJ0_checkIndex_df160_2 ?_
  refine s_callS (As := [.int k, .int n, va_rf o]) (rest := []) hx hb hml hown hts (k_chk (adK := adK) (adV := adV) (A := A) h0 h1) (fun U g mk a q => q.cal g mk a) (fun U hU hW => hSF.to hW.alike hU) hS w_501 w_502 w_15 w_503 q_chk ⟨Nat.le_of_ble_eq_true rfl, Nat.le_of_ble_eq_true rfl⟩ hl.1 rfl (Nat.le_of_ble_eq_true rfl) dJ0_checkIndex_df160_5 ⟨Nat.zero_le _, Nat.zero_le _⟩ (fun locs1 hS => ?_)
  refine lv_pop hx hb dJ0_checkIndex_df160_8 rfl ?_
  exact W.vret hx hb hr (fun t ht hW => ⟨⟨(), rfl, trivial, ht⟩, hS.F ht⟩) hS.2.2 dJ0_checkIndex_df160_9
set_option maxHeartbeats 4000000 in
set_option maxRecDepth 100000 in
theorem k_chL {l : Launch} {adK adV : Nat → Nat} {A : Nat → Prop} {H0 : Heap} {i k : Nat} (hi : i < 14) (hk : k < lenS.getD i 0) : Met l yJ1_charAt_3b067 (sWs yJ1_charAt_3b067 cJ1_charAt_3b067 2 (some .char)) (sRm 2 43) (sPc [.ref (adV i), .int (nI k)] H0 (SF adK adV A)) (sQi ((bytS.getD i []).getD k 0) H0) 0 0 FA := by
  refine Met.ofW (cc := cJ1_charAt_3b067) (maxL := 2) (ret := (some .char)) (by decide) rfl ?_
  intro p e s m args below meth c s₁ B hml hv
  obtain ⟨rfl, hH, hZ, hZq, hSt⟩ := hv
  have hx := B.exec
  have hb := B.bytes
  have hr := B.returns
  have hlk := B.notSynchronized
  have hts0 := atoms_spec (ws := sWs yJ1_charAt_3b067 cJ1_charAt_3b067 2 (some .char)) B.pre
  have hts : ∀ w ∈ Z_W, w.before ([.ref (adV i), .int (nI k)] : List Value).toArray s = true := fun q hq => hts0 q (List.mem_cons_of_mem _ hq)
  have hown : s.vm.findClass RJ1 = some m.cls := findClass_of_methodNamed B.named
  subst hH
  have hS : va_S FA s.heap s.heap [] := va_S.rf
  have hl := lv_entry ([.ref (adV i), .int (nI k)]) (n := 2) (Nat.le_of_ble_eq_true rfl)
  rw [lg_entry_eq]
  generalize (lg_sl ([.ref (adV i), .int (nI k)]) ++ List.replicate (2 - (lg_sl ([.ref (adV i), .int (nI k)])).length) Slot.unset).toArray = ls at hl ⊢
  have hl : lv_has ls 2 [(0, .ref (adV i)), (1, .int (nI k))] := hl
  have hSF : SF adK adV A s := ⟨hZ, hZq, hSt⟩
  obtain ⟨le1, le2⟩ := lenE i hi
  have hT := (hSt.1 i hi).2.2.2
  have hmem : (bytS.getD i []).getD k 0 ∈ bytS.getD i [] := by
    exact gd_mem (by omega)
  have hby : (bytS.getD i []).getD k 0 &&& 255 = (bytS.getD i []).getD k 0 := bytE i hi _ hmem
  generalize hbe : (bytS.getD i []).getD k 0 = b at hby ⊢
  refine lv_iload_n hx hb dJ1_charAt_3b067_0 rfl (lv_at hl 1 rfl) ?_
  refine lv_aload_n hx hb dJ1_charAt_3b067_1 rfl (lv_at hl 0 rfl) ?_
  refine va_tlen hx hb hT hS.wk (v := nI (lenS.getD i 0)) rfl dJ1_charAt_3b067_2 ?_
  refine s_callSv (As := [.int (nI k), .int (nI (lenS.getD i 0))]) (rest := []) hx hb hml hown hts (k_chkS (adK := adK) (adV := adV) (A := A) (nI_pos (by omega)) (nI_lt hk (by omega))) (fun U g mk a q => q.cal g mk a) (fun U hU hW => hSF.to hW.alike hU) hS w_496 w_497 w_13 w_498 q_chkS ⟨Nat.le_of_ble_eq_true rfl, Nat.le_of_ble_eq_true rfl⟩ hl.1 rfl (Nat.le_of_ble_eq_true rfl) dJ1_charAt_3b067_3 ⟨Nat.zero_le _, Nat.zero_le _⟩ (fun locs1 hS => ?_)
  refine lv_aload_n hx hb dJ1_charAt_3b067_6 rfl (lv_at hl 0 rfl) ?_
  refine lv_iload_n hx hb dJ1_charAt_3b067_7 rfl (lv_at hl 1 rfl) ?_
  refine va_tb hx hb hT hS.wk (i := nI k) (v := .int b) (z_vin (nI_pos' (by omega)) (by rw [nI_clamp (by omega)]; exact hk)) (by rw [nI_clamp (by omega), hbe]) dJ1_charAt_3b067_8 ?_
  refine lv_sipush (v := 255) hx hb dJ1_charAt_3b067_9 (by decide) ?_
  refine lv_iand hx hb dJ1_charAt_3b067_12 ?_
  refine lv_i2c (v := b) hx hb dJ1_charAt_3b067_13 (by rw [sc_c2]; exact hby) ?_
  exact W.zret (v := b) hx hb hr (by rw [← hby]; exact sc_nar b) (fun t ht hW => ⟨⟨b, (), rfl, rfl, ht⟩, hS.F ht⟩) hS.2.2 dJ1_charAt_3b067_14
set_option maxHeartbeats 4000000 in
set_option maxRecDepth 100000 in
theorem k_chA {l : Launch} {adK adV : Nat → Nat} {A : Nat → Prop} {H0 : Heap} {i k : Nat} (hi : i < 14) (hk : k < lenS.getD i 0) : Met l yJ0_charAt_5068e (sWs yJ0_charAt_5068e cJ0_charAt_5068e 2 (some .char)) (sRm 3 64) (sPc [.ref (adK i), .int (nI k)] H0 (SF adK adV A)) (sQi ((bytS.getD i []).getD k 0) H0) 0 0 FA := by
  refine Met.ofW (cc := cJ0_charAt_5068e) (maxL := 2) (ret := (some .char)) (by decide) rfl ?_
  intro p e s m args below meth c s₁ B hml hv
  obtain ⟨rfl, hH, hZ, hZq, hSt⟩ := hv
  have hx := B.exec
  have hb := B.bytes
  have hr := B.returns
  have hlk := B.notSynchronized
  have hts0 := atoms_spec (ws := sWs yJ0_charAt_5068e cJ0_charAt_5068e 2 (some .char)) B.pre
  have hts : ∀ w ∈ Z_W, w.before ([.ref (adK i), .int (nI k)] : List Value).toArray s = true := fun q hq => hts0 q (List.mem_cons_of_mem _ hq)
  have hown : s.vm.findClass RJ0 = some m.cls := findClass_of_methodNamed B.named
  subst hH
  have hS : va_S FA s.heap s.heap [] := va_S.rf
  have hl := lv_entry ([.ref (adK i), .int (nI k)]) (n := 2) (Nat.le_of_ble_eq_true rfl)
  rw [lg_entry_eq]
  generalize (lg_sl ([.ref (adK i), .int (nI k)]) ++ List.replicate (2 - (lg_sl ([.ref (adK i), .int (nI k)])).length) Slot.unset).toArray = ls at hl ⊢
  have hl : lv_has ls 2 [(0, .ref (adK i)), (1, .int (nI k))] := hl
  have hSF : SF adK adV A s := ⟨hZ, hZq, hSt⟩
  obtain ⟨le1, le2⟩ := lenE i hi
  have hmem : (bytS.getD i []).getD k 0 ∈ bytS.getD i [] := by
    exact gd_mem (by omega)
  have hby : (bytS.getD i []).getD k 0 &&& 255 = (bytS.getD i []).getD k 0 := bytE i hi _ hmem
  refine lv_aload_n hx hb dJ0_charAt_5068e_0 rfl (lv_at hl 0 rfl) ?_
  refine s_callV (b := adK i) (As := []) (rest := []) hx hb hml hown hts (k_isLatin1 (adK := adK) (adV := adV) (A := A) hi) (vk_recv hSt hi hS.wk) (fun U g mk a q => q.cal g mk a) (fun U hU hW => hSF.to hW.alike hU) hS w_489 w_490 w_491 w_13 w_492 q_lat ⟨Nat.le_of_ble_eq_true rfl, Nat.le_of_ble_eq_true rfl⟩ hl.1 rfl (Nat.le_of_ble_eq_true rfl) dJ0_charAt_5068e_1 ⟨Nat.zero_le _, Nat.zero_le _⟩ (fun locs1 hS => ?_)
  refine lv_if_eq (tgt := 16) hx hb dJ0_charAt_5068e_4 (by decide) (fun h => absurd h (by decide)) (fun _ => ?_)
  refine lv_aload_n hx hb dJ0_charAt_5068e_7 rfl (lv_at hl 0 rfl) ?_
  refine vk_getf hx hb (hSt.1 i hi).2.2.1 hS.wk hown (hts _ w_1585) (fun _ h9 => h9) dJ0_charAt_5068e_8 ?_
  refine lv_iload_n hx hb dJ0_charAt_5068e_11 rfl (lv_at hl 1 rfl) ?_
  refine s_callS (As := [.ref (adV i), .int (nI k)]) (rest := []) hx hb hml hown hts (k_chL (adK := adK) (adV := adV) (A := A) hi hk) (fun U g mk a q => q.cal g mk a) (fun U hU hW => hSF.to hW.alike hU) hS w_493 w_494 w_14 w_495 q_chL ⟨Nat.le_of_ble_eq_true rfl, Nat.le_of_ble_eq_true rfl⟩ hl.1 rfl (Nat.le_of_ble_eq_true rfl) dJ0_charAt_5068e_12 ⟨Nat.zero_le _, Nat.zero_le _⟩ (fun locs1 hS => ?_)
  exact W.zret (v := (bytS.getD i []).getD k 0) hx hb hr (by rw [← hby]; exact sc_nar _) (fun t ht hW => ⟨⟨(bytS.getD i []).getD k 0, (), rfl, rfl, ht⟩, hS.F ht⟩) hS.2.2 dJ0_charAt_5068e_15
set_option maxHeartbeats 4000000 in
set_option maxRecDepth 100000 in
theorem k_len {l : Launch} {adK adV : Nat → Nat} {A : Nat → Prop} {H0 : Heap} {i : Nat} (hi : i < 14) : Met l yJ0_length_8abf5 (sWs yJ0_length_8abf5 cJ0_length_8abf5 1 (some .int)) (sRm 1 20) (sPc [.ref (adK i)] H0 (SF adK adV A)) (sQi (nI (lenS.getD i 0)) H0) 0 0 FA := by
  refine Met.ofW (cc := cJ0_length_8abf5) (maxL := 1) (ret := (some .int)) (by decide) rfl ?_
  intro p e s m args below meth c s₁ B hml hv
  obtain ⟨rfl, hH, hZ, hZq, hSt⟩ := hv
  have hx := B.exec
  have hb := B.bytes
  have hr := B.returns
  have hlk := B.notSynchronized
  have hts0 := atoms_spec (ws := sWs yJ0_length_8abf5 cJ0_length_8abf5 1 (some .int)) B.pre
  have hts : ∀ w ∈ Z_W, w.before ([.ref (adK i)] : List Value).toArray s = true := fun q hq => hts0 q (List.mem_cons_of_mem _ hq)
  have hown : s.vm.findClass RJ0 = some m.cls := findClass_of_methodNamed B.named
  subst hH
  have hS : va_S FA s.heap s.heap [] := va_S.rf
  have hl := lv_entry ([.ref (adK i)]) (n := 1) (Nat.le_of_ble_eq_true rfl)
  rw [lg_entry_eq]
  generalize (lg_sl ([.ref (adK i)]) ++ List.replicate (1 - (lg_sl ([.ref (adK i)])).length) Slot.unset).toArray = ls at hl ⊢
  have hl : lv_has ls 1 [(0, .ref (adK i))] := hl
  have hSF : SF adK adV A s := ⟨hZ, hZq, hSt⟩
  obtain ⟨le1, le2⟩ := lenE i hi
  refine lv_aload_n hx hb dJ0_length_8abf5_0 rfl (lv_at hl 0 rfl) ?_
  refine vk_getf hx hb (hSt.1 i hi).2.2.1 hS.wk hown (hts _ w_1585) (fun _ h9 => h9) dJ0_length_8abf5_1 ?_
  refine va_tlen hx hb (hSt.1 i hi).2.2.2 hS.wk (v := nI (lenS.getD i 0)) rfl dJ0_length_8abf5_4 ?_
  refine lv_aload_n hx hb dJ0_length_8abf5_5 rfl (lv_at hl 0 rfl) ?_
  refine s_callV (b := adK i) (As := []) (rest := [.int (nI (lenS.getD i 0))]) hx hb hml hown hts (k_coder (adK := adK) (adV := adV) (A := A) hi) (vk_recv hSt hi hS.wk) (fun U g mk a q => q.cal g mk a) (fun U hU hW => hSF.to hW.alike hU) hS w_479 w_480 w_481 w_13 w_482 q_cod ⟨Nat.le_of_ble_eq_true rfl, Nat.le_of_ble_eq_true rfl⟩ hl.1 rfl (Nat.le_of_ble_eq_true rfl) dJ0_length_8abf5_6 ⟨Nat.zero_le _, Nat.zero_le _⟩ (fun locs1 hS => ?_)
  refine lv_ishr hx hb dJ0_length_8abf5_9 ?_
  rw [sc_shr0 (by omega)]
  exact W.zret (v := nI (lenS.getD i 0)) hx hb hr rfl (fun t ht hW => ⟨⟨nI (lenS.getD i 0), (), rfl, rfl, ht⟩, hS.F ht⟩) hS.2.2 dJ0_length_8abf5_10
