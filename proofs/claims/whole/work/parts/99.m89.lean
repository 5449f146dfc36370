/-! what is known of the rest of the heap; wordFrom -/
def idxS : List Nat := [155, 161, 163, 164, 165, 166, 167, 168, 170, 172, 174, 176, 178, 180]
def txS : List String := ["level", "rank", "opens", "quota", "cap", "vest", "window", "flat", "ranked", "wide", "loyal", "more", "less", "sum"]
def codS : List Int32 := z_wrds.map Prod.snd
def EVp (adK adV : Nat → Nat) (A : Nat → Prop) (U : State) : Prop := (∀ w ∈ Z_nw, va_Nw w U) ∧ va_AO RX7 U ∧ SF adK adV A U ∧ ∀ i, i < 14 → vk_R RX4 (idxS.getD i 0) (txS.getD i "") (adK i) U
def gG (l : Launch) (dC : Nat → ClassId) (dI : Nat → Nat → Nat) (adK adV : Nat → Nat) (L : Nat) (xs : Nat → Int32) : Z_G := (l, dC, dI, EVp adK adV, L, xs)
theorem nw_warm {s U : State} (hW : s.WarmedH U.vm) (h : ∀ w ∈ Z_nw, va_Nw w s) : ∀ w ∈ Z_nw, va_Nw w U := by
  intro w hw
  have h1 := h w hw
  simp only [Z_nw, List.mem_cons, List.not_mem_nil, or_false] at hw
  rcases hw with rfl | rfl | rfl | rfl | rfl | rfl | rfl | rfl | rfl
  all_goals exact va_Nw.warmM hW h1
theorem nw_same {s U : State} (e : s.vm = U.vm) (h : ∀ w ∈ Z_nw, va_Nw w s) : ∀ w ∈ Z_nw, va_Nw w U := by
  intro w hw
  have h1 := h w hw
  simp only [Z_nw, List.mem_cons, List.not_mem_nil, or_false] at hw
  rcases hw with rfl | rfl | rfl | rfl | rfl | rfl | rfl | rfl | rfl
  all_goals exact va_Nw.same rfl e h1
theorem EV_ok {l : Launch} {dC : Nat → ClassId} {dI : Nat → Nat → Nat} {adK adV : Nat → Nat} {L : Nat} {xs : Nat → Int32} : z_EV (gG l dC dI adK adV L xs) := by
  refine ⟨?_, ?_⟩
  · rintro A B s U H locs ⟨e1, e2, e3, e4⟩ hS hU hW hBA
    refine ⟨nw_warm hW e1, va_AO.moved hW.alike e2, ?_, fun i hi => (e4 i hi).warm hW⟩
    unfold SF
    rw [hU]
    exact ⟨(va_Z.moved hW.alike (e3.1.kept hS.2.1)).narrow hBA, (va_Zq.moved hW.alike (e3.2.1.kept hS.2.1)).narrow hBA, (vk_S.moved hW.alike (e3.2.2.kept hS.2.1)).narrow hBA⟩
  · rintro A U g mk a ⟨e1, e2, e3, e4⟩
    exact ⟨nw_same (s := U) (U := U.calling g mk a) rfl e1, va_AO.moved (u := U) (U := U.calling g mk a) (Vm.Alike.refl U.vm) e2, e3.cal g mk a, fun i hi => vk_R.same (u := U) (U := U.calling g mk a) rfl (e4 i hi)⟩
theorem pk_t {c : Bool} {v r w : Int32} (q : ¬ (if c then (1 : Int32) else 0) = 0) (e : (if c then v else w) = r) : v = r := by
  cases c with
  | true => exact e
  | false => exact absurd rfl q
theorem pk_f {c : Bool} {v r w : Int32} (q : (if c then (1 : Int32) else 0) = 0) (e : (if c then v else w) = r) : w = r := by
  cases c with
  | true => exact absurd q (by decide)
  | false => exact e
theorem pick_s (h : Z_H) (d j n : Nat) : ∀ i, i < 14 → z_pick h d j n (z_wrds.drop i) = if (decide (n = (bytS.getD i []).length) && z_spell h d j (bytS.getD i [])) then codS.getD i 0 else z_pick h d j n (z_wrds.drop (i + 1)) := by
  intro i hi
  match i, hi with
  | 0, _ => rfl
  | 1, _ => rfl
  | 2, _ => rfl
  | 3, _ => rfl
  | 4, _ => rfl
  | 5, _ => rfl
  | 6, _ => rfl
  | 7, _ => rfl
  | 8, _ => rfl
  | 9, _ => rfl
  | 10, _ => rfl
  | 11, _ => rfl
  | 12, _ => rfl
  | 13, _ => rfl
  | n + 14, hi => exact absurd hi (by omega)
theorem word_f {h h' : Z_H} {a : Nat} {x1 r : Int32} (ee : ((f_X4_wordFrom h a x1).bind fun r => some (r, h)) = some (r, h')) : h' = h ∧ ∃ b d x j, RF h a b d x ∧ x1 = nI j ∧ j ≤ x ∧ z_pick h d j (x - j) z_wrds = r := by
  unfold f_X4_wordFrom at ee
  by_cases c1 : z_is h a 4 = true
  · rw [gd, if_pos c1, gR, if_pos c1] at ee
    cases hb : z_r h a 1 with
    | none => rw [hb] at ee; cases ee
    | some b =>
      rw [hb, Option.bind_some, gI, if_pos c1, Option.bind_some] at ee
      by_cases c2 : z_is h b 8 = true
      · rw [gR, if_pos c2] at ee
        cases hd : z_r h b 0 with
        | none => rw [hd] at ee; cases ee
        | some d =>
          rw [hd, Option.bind_some] at ee
          by_cases c3 : (decide (d < z_n h) && (decide (z_k h d = 1) && (decide (z_len h d = 600) && (decide (0 ≤ x1) && (decide (x1 ≤ z_i h a 6) && decide (z_i h a 6 ≤ 600)))))) = true
          · rw [gd, if_pos c3] at ee
            simp only [Bool.and_eq_true, decide_eq_true_eq] at c3
            obtain ⟨g1, g2, g3, g4, g5, g6⟩ := c3
            obtain ⟨j, hj, rfl⟩ := nI_of (Int32.not_lt.mpr g4)
            obtain ⟨x, hx, ex⟩ := nI_of (x := z_i h a 6) (Int32.not_lt.mpr (Int32.le_trans g4 g5))
            rw [ex] at g5 g6 ee
            have l1 : j ≤ x := (nI_leI hj hx).mp g5
            have l2 : x ≤ 600 := (nI_leI (b := 600) hx (by omega)).mp g6
            rw [nI_clamp hj, nI_clamp hx, Option.bind_some] at ee
            cases ee
            exact ⟨rfl, b, d, x, j, ⟨c1, hb, ex, c2, hd, g1, g2, g3, l2⟩, rfl, l1, rfl⟩
          · rw [gd, if_neg c3] at ee
            cases ee
      · rw [gR, if_neg c2] at ee
        cases ee
  · rw [gd, if_neg c1] at ee
    cases ee
set_option maxHeartbeats 4000000 in
set_option maxRecDepth 100000 in
theorem k_word {l : Launch} {dC : Nat → ClassId} {dI : Nat → Nat → Nat} {adK adV : Nat → Nat} {L : Nat} {xs : Nat → Int32} (h : Z_H) (a : Nat) (x1 : Int32) : z_Met (gG l dC dI adK adV L xs) iX4_wordFrom [.ref a, .int x1] h ((f_X4_wordFrom h a x1).bind fun r => some (r, h)) := by
  intro r h' ee
  obtain ⟨rfl, b, d, x, j, rf, rfl, hj, pk⟩ := word_f ee
  refine ⟨⟨Nat.le_refl _, Nat.le_refl _⟩, fun hsk rho cid sz => ?_⟩
  rw [Nat.sub_self, Nat.sub_self]
  show Met l yX4_wordFrom (sWs yX4_wordFrom cX4_wordFrom 2 (some .int)) (sRm 6 129) (va_Pc [.ref (rho (a + 1)), .int (nI j)] (z_B (gG l dC dI adK adV L xs) rho cid h' sz)) (va_Qi (fun (x : Int32) (_ : (Nat → Nat) × (Nat → ClassId)) => x = r) (z_P (gG l dC dI adK adV L xs) rho cid h' sz h') (va_A (z_w rho cid h') sz)) 0 0 (va_A (z_w rho cid h') sz)
  refine Met.ofW (cc := cX4_wordFrom) (maxL := 2) (ret := (some .int)) (by decide) rfl ?_
  intro p e s m args below meth c s₁ B hml hv
  obtain ⟨rfl, hsz, b1, b2, b3, b4, b5, b6⟩ := hv
  have hx := B.exec
  have hb := B.bytes
  have hr := B.returns
  have hlk := B.notSynchronized
  have hts0 := atoms_spec (ws := sWs yX4_wordFrom cX4_wordFrom 2 (some .int)) B.pre
  have hts : ∀ w ∈ Z_W, w.before ([.ref (rho (a + 1)), .int (nI j)] : List Value).toArray s = true := fun q hq => hts0 q (List.mem_cons_of_mem _ hq)
  have hown : s.vm.findClass RX4 = some m.cls := findClass_of_methodNamed B.named
  subst hsz
  have hD := b4.self (sz := s.heap.size)
  have hS : va_S FA s.heap s.heap [] := va_S.rf
  obtain ⟨-, -, hSF, hRs⟩ := b5
  have hSB : SB (gG l dC dI adK adV L xs) adK adV (va_A (z_w rho cid h') s.heap.size) rho cid h' s := ⟨hSF, b2, b3⟩
  obtain ⟨ha, hka⟩ := z_is_spec rf.1
  have hrc : ∃ cell : Cell, s.heap[rho (a + 1)]? = some cell ∧ cell.vm.isStatics = false ∧ s.vm.findClass yX4_spells.cls = some cell.cls := va_recv b3.1 b2 (ci := 4) (q0 := a) cX4.1 (by rw [z_w_at ha, z_e_obj hka])
  have hl := lv_entry ([.ref (rho (a + 1)), .int (nI j)]) (n := 2) (Nat.le_of_ble_eq_true rfl)
  rw [lg_entry_eq]
  generalize (lg_sl ([.ref (rho (a + 1)), .int (nI j)]) ++ List.replicate (2 - (lg_sl ([.ref (rho (a + 1)), .int (nI j)])).length) Slot.unset).toArray = ls at hl ⊢
  have hl : lv_has ls 2 [(0, .ref (rho (a + 1))), (1, .int (nI j))] := hl
  have fin : ∀ (locs : List Loc), va_S FA s.heap s.heap locs → W p l e (sRm 6 129) s m ([.ref (rho (a + 1)), .int (nI j)] : List Value).toArray below meth c s.heap locs 0 0 (MQ below (va_Qi (fun (x : Int32) (_ : (Nat → Nat) × (Nat → ClassId)) => x = r) (z_P (gG l dC dI adK adV L xs) rho cid h' s.heap.size h') (va_A (z_w rho cid h') s.heap.size)) ([.ref (rho (a + 1)), .int (nI j)] : List Value).toArray s 0 0 (va_A (z_w rho cid h') s.heap.size)) (F0 m 209 ls [.int r]) := fun locs hS =>
    W.zret (v := r) hx hb hr rfl (fun t ht hW => ⟨⟨r, (rho, cid), rfl, rfl, b1, by rw [ht]; exact b2, b3.moved hW.alike, hD, ⟨rfl, fun i _ => ⟨rfl, rfl⟩⟩⟩, hS.wk.F ht⟩) (fun q hq => (hS.2.2 q hq).elim) dX4_wordFrom_209
  have pk0 : z_pick h' d j (x - j) (z_wrds.drop 0) = r := pk
  rw [pick_s h' d j (x - j) 0 (by decide)] at pk0
  have hR0 : vk_R RX4 155 "level" (adK 0) s := hRs 0 (by decide)
  refine lv_aload_n hx hb dX4_wordFrom_0 rfl (lv_at hl 0 rfl) ?_
  refine lv_iload_n hx hb dX4_wordFrom_1 rfl (lv_at hl 1 rfl) ?_
  refine va_ldcS hx hb hown hR0 dX4_wordFrom_2 ?_
  refine s_callV (b := rho (a + 1)) (As := [.int (nI j), .ref (adK 0)]) (rest := []) hx hb hml hown hts (k_spl (G := gG l dC dI adK adV L xs) (adK := adK) (adV := adV) (A := va_A (z_w rho cid h') s.heap.size) (i := 0) (by decide) rf hj rfl) hrc (fun U g mk a q => q.cal g mk a) (fun U hU hW => hSB.to hW.alike hU) hS w_471 w_473 v_6 w_8 w_474 q_spl ⟨Nat.le_of_ble_eq_true rfl, Nat.le_of_ble_eq_true rfl⟩ hl.1 rfl (Nat.le_of_ble_eq_true rfl) dX4_wordFrom_4 ⟨Nat.zero_le _, Nat.zero_le _⟩ (fun locs0 hS => ?_)
  refine lv_if_eq (tgt := 14) hx hb dX4_wordFrom_7 (by decide) (fun q => ?_) (fun q => by
    have er : (4 : Int32) = r := pk_t q pk0
    refine lv_iconst (v := 4) hx hb dX4_wordFrom_10 (by decide) ?_
    refine lv_goto (tgt := 209) hx hb dX4_wordFrom_11 (by decide) ?_
    rw [er]
    exact fin _ hS)
  have pk1 := pk_f q pk0
  rw [pick_s h' d j (x - j) 1 (by decide)] at pk1
  have hR1 : vk_R RX4 161 "rank" (adK 1) s := hRs 1 (by decide)
  refine lv_aload_n hx hb dX4_wordFrom_14 rfl (lv_at hl 0 rfl) ?_
  refine lv_iload_n hx hb dX4_wordFrom_15 rfl (lv_at hl 1 rfl) ?_
  refine va_ldcS hx hb hown hR1 dX4_wordFrom_16 ?_
  refine s_callV (b := rho (a + 1)) (As := [.int (nI j), .ref (adK 1)]) (rest := []) hx hb hml hown hts (k_spl (G := gG l dC dI adK adV L xs) (adK := adK) (adV := adV) (A := va_A (z_w rho cid h') s.heap.size) (i := 1) (by decide) rf hj rfl) hrc (fun U g mk a q => q.cal g mk a) (fun U hU hW => hSB.to hW.alike hU) hS w_471 w_473 v_6 w_8 w_474 q_spl ⟨Nat.le_of_ble_eq_true rfl, Nat.le_of_ble_eq_true rfl⟩ hl.1 rfl (Nat.le_of_ble_eq_true rfl) dX4_wordFrom_18 ⟨Nat.zero_le _, Nat.zero_le _⟩ (fun locs1 hS => ?_)
  refine lv_if_eq (tgt := 28) hx hb dX4_wordFrom_21 (by decide) (fun q => ?_) (fun q => by
    have er : (5 : Int32) = r := pk_t q pk1
    refine lv_iconst (v := 5) hx hb dX4_wordFrom_24 (by decide) ?_
    refine lv_goto (tgt := 209) hx hb dX4_wordFrom_25 (by decide) ?_
    rw [er]
    exact fin _ hS)
  have pk2 := pk_f q pk1
  rw [pick_s h' d j (x - j) 2 (by decide)] at pk2
  have hR2 : vk_R RX4 163 "opens" (adK 2) s := hRs 2 (by decide)
  refine lv_aload_n hx hb dX4_wordFrom_28 rfl (lv_at hl 0 rfl) ?_
  refine lv_iload_n hx hb dX4_wordFrom_29 rfl (lv_at hl 1 rfl) ?_
  refine va_ldcS hx hb hown hR2 dX4_wordFrom_30 ?_
  refine s_callV (b := rho (a + 1)) (As := [.int (nI j), .ref (adK 2)]) (rest := []) hx hb hml hown hts (k_spl (G := gG l dC dI adK adV L xs) (adK := adK) (adV := adV) (A := va_A (z_w rho cid h') s.heap.size) (i := 2) (by decide) rf hj rfl) hrc (fun U g mk a q => q.cal g mk a) (fun U hU hW => hSB.to hW.alike hU) hS w_471 w_473 v_6 w_8 w_474 q_spl ⟨Nat.le_of_ble_eq_true rfl, Nat.le_of_ble_eq_true rfl⟩ hl.1 rfl (Nat.le_of_ble_eq_true rfl) dX4_wordFrom_32 ⟨Nat.zero_le _, Nat.zero_le _⟩ (fun locs2 hS => ?_)
  refine lv_if_eq (tgt := 43) hx hb dX4_wordFrom_35 (by decide) (fun q => ?_) (fun q => by
    have er : (6 : Int32) = r := pk_t q pk2
    refine lv_bipush (v := 6) hx hb dX4_wordFrom_38 (by decide) ?_
    refine lv_goto (tgt := 209) hx hb dX4_wordFrom_40 (by decide) ?_
    rw [er]
    exact fin _ hS)
  have pk3 := pk_f q pk2
  rw [pick_s h' d j (x - j) 3 (by decide)] at pk3
  have hR3 : vk_R RX4 164 "quota" (adK 3) s := hRs 3 (by decide)
  refine lv_aload_n hx hb dX4_wordFrom_43 rfl (lv_at hl 0 rfl) ?_
  refine lv_iload_n hx hb dX4_wordFrom_44 rfl (lv_at hl 1 rfl) ?_
  refine va_ldcS hx hb hown hR3 dX4_wordFrom_45 ?_
  refine s_callV (b := rho (a + 1)) (As := [.int (nI j), .ref (adK 3)]) (rest := []) hx hb hml hown hts (k_spl (G := gG l dC dI adK adV L xs) (adK := adK) (adV := adV) (A := va_A (z_w rho cid h') s.heap.size) (i := 3) (by decide) rf hj rfl) hrc (fun U g mk a q => q.cal g mk a) (fun U hU hW => hSB.to hW.alike hU) hS w_471 w_473 v_6 w_8 w_474 q_spl ⟨Nat.le_of_ble_eq_true rfl, Nat.le_of_ble_eq_true rfl⟩ hl.1 rfl (Nat.le_of_ble_eq_true rfl) dX4_wordFrom_47 ⟨Nat.zero_le _, Nat.zero_le _⟩ (fun locs3 hS => ?_)
  refine lv_if_eq (tgt := 58) hx hb dX4_wordFrom_50 (by decide) (fun q => ?_) (fun q => by
    have er : (7 : Int32) = r := pk_t q pk3
    refine lv_bipush (v := 7) hx hb dX4_wordFrom_53 (by decide) ?_
    refine lv_goto (tgt := 209) hx hb dX4_wordFrom_55 (by decide) ?_
    rw [er]
    exact fin _ hS)
  have pk4 := pk_f q pk3
  rw [pick_s h' d j (x - j) 4 (by decide)] at pk4
  have hR4 : vk_R RX4 165 "cap" (adK 4) s := hRs 4 (by decide)
  refine lv_aload_n hx hb dX4_wordFrom_58 rfl (lv_at hl 0 rfl) ?_
  refine lv_iload_n hx hb dX4_wordFrom_59 rfl (lv_at hl 1 rfl) ?_
  refine va_ldcS hx hb hown hR4 dX4_wordFrom_60 ?_
  refine s_callV (b := rho (a + 1)) (As := [.int (nI j), .ref (adK 4)]) (rest := []) hx hb hml hown hts (k_spl (G := gG l dC dI adK adV L xs) (adK := adK) (adV := adV) (A := va_A (z_w rho cid h') s.heap.size) (i := 4) (by decide) rf hj rfl) hrc (fun U g mk a q => q.cal g mk a) (fun U hU hW => hSB.to hW.alike hU) hS w_471 w_473 v_6 w_8 w_474 q_spl ⟨Nat.le_of_ble_eq_true rfl, Nat.le_of_ble_eq_true rfl⟩ hl.1 rfl (Nat.le_of_ble_eq_true rfl) dX4_wordFrom_62 ⟨Nat.zero_le _, Nat.zero_le _⟩ (fun locs4 hS => ?_)
  refine lv_if_eq (tgt := 73) hx hb dX4_wordFrom_65 (by decide) (fun q => ?_) (fun q => by
    have er : (8 : Int32) = r := pk_t q pk4
    refine lv_bipush (v := 8) hx hb dX4_wordFrom_68 (by decide) ?_
    refine lv_goto (tgt := 209) hx hb dX4_wordFrom_70 (by decide) ?_
    rw [er]
    exact fin _ hS)
  have pk5 := pk_f q pk4
  rw [pick_s h' d j (x - j) 5 (by decide)] at pk5
  have hR5 : vk_R RX4 166 "vest" (adK 5) s := hRs 5 (by decide)
  refine lv_aload_n hx hb dX4_wordFrom_73 rfl (lv_at hl 0 rfl) ?_
  refine lv_iload_n hx hb dX4_wordFrom_74 rfl (lv_at hl 1 rfl) ?_
  refine va_ldcS hx hb hown hR5 dX4_wordFrom_75 ?_
  refine s_callV (b := rho (a + 1)) (As := [.int (nI j), .ref (adK 5)]) (rest := []) hx hb hml hown hts (k_spl (G := gG l dC dI adK adV L xs) (adK := adK) (adV := adV) (A := va_A (z_w rho cid h') s.heap.size) (i := 5) (by decide) rf hj rfl) hrc (fun U g mk a q => q.cal g mk a) (fun U hU hW => hSB.to hW.alike hU) hS w_471 w_473 v_6 w_8 w_474 q_spl ⟨Nat.le_of_ble_eq_true rfl, Nat.le_of_ble_eq_true rfl⟩ hl.1 rfl (Nat.le_of_ble_eq_true rfl) dX4_wordFrom_77 ⟨Nat.zero_le _, Nat.zero_le _⟩ (fun locs5 hS => ?_)
  refine lv_if_eq (tgt := 88) hx hb dX4_wordFrom_80 (by decide) (fun q => ?_) (fun q => by
    have er : (9 : Int32) = r := pk_t q pk5
    refine lv_bipush (v := 9) hx hb dX4_wordFrom_83 (by decide) ?_
    refine lv_goto (tgt := 209) hx hb dX4_wordFrom_85 (by decide) ?_
    rw [er]
    exact fin _ hS)
  have pk6 := pk_f q pk5
  rw [pick_s h' d j (x - j) 6 (by decide)] at pk6
  have hR6 : vk_R RX4 167 "window" (adK 6) s := hRs 6 (by decide)
  refine lv_aload_n hx hb dX4_wordFrom_88 rfl (lv_at hl 0 rfl) ?_
  refine lv_iload_n hx hb dX4_wordFrom_89 rfl (lv_at hl 1 rfl) ?_
  refine va_ldcS hx hb hown hR6 dX4_wordFrom_90 ?_
  refine s_callV (b := rho (a + 1)) (As := [.int (nI j), .ref (adK 6)]) (rest := []) hx hb hml hown hts (k_spl (G := gG l dC dI adK adV L xs) (adK := adK) (adV := adV) (A := va_A (z_w rho cid h') s.heap.size) (i := 6) (by decide) rf hj rfl) hrc (fun U g mk a q => q.cal g mk a) (fun U hU hW => hSB.to hW.alike hU) hS w_471 w_473 v_6 w_8 w_474 q_spl ⟨Nat.le_of_ble_eq_true rfl, Nat.le_of_ble_eq_true rfl⟩ hl.1 rfl (Nat.le_of_ble_eq_true rfl) dX4_wordFrom_92 ⟨Nat.zero_le _, Nat.zero_le _⟩ (fun locs6 hS => ?_)
  refine lv_if_eq (tgt := 103) hx hb dX4_wordFrom_95 (by decide) (fun q => ?_) (fun q => by
    have er : (10 : Int32) = r := pk_t q pk6
    refine lv_bipush (v := 10) hx hb dX4_wordFrom_98 (by decide) ?_
    refine lv_goto (tgt := 209) hx hb dX4_wordFrom_100 (by decide) ?_
    rw [er]
    exact fin _ hS)
  have pk7 := pk_f q pk6
  rw [pick_s h' d j (x - j) 7 (by decide)] at pk7
  have hR7 : vk_R RX4 168 "flat" (adK 7) s := hRs 7 (by decide)
  refine lv_aload_n hx hb dX4_wordFrom_103 rfl (lv_at hl 0 rfl) ?_
  refine lv_iload_n hx hb dX4_wordFrom_104 rfl (lv_at hl 1 rfl) ?_
  refine va_ldcS hx hb hown hR7 dX4_wordFrom_105 ?_
  refine s_callV (b := rho (a + 1)) (As := [.int (nI j), .ref (adK 7)]) (rest := []) hx hb hml hown hts (k_spl (G := gG l dC dI adK adV L xs) (adK := adK) (adV := adV) (A := va_A (z_w rho cid h') s.heap.size) (i := 7) (by decide) rf hj rfl) hrc (fun U g mk a q => q.cal g mk a) (fun U hU hW => hSB.to hW.alike hU) hS w_471 w_473 v_6 w_8 w_474 q_spl ⟨Nat.le_of_ble_eq_true rfl, Nat.le_of_ble_eq_true rfl⟩ hl.1 rfl (Nat.le_of_ble_eq_true rfl) dX4_wordFrom_107 ⟨Nat.zero_le _, Nat.zero_le _⟩ (fun locs7 hS => ?_)
  refine lv_if_eq (tgt := 118) hx hb dX4_wordFrom_110 (by decide) (fun q => ?_) (fun q => by
    have er : (11 : Int32) = r := pk_t q pk7
    refine lv_bipush (v := 11) hx hb dX4_wordFrom_113 (by decide) ?_
    refine lv_goto (tgt := 209) hx hb dX4_wordFrom_115 (by decide) ?_
    rw [er]
    exact fin _ hS)
  have pk8 := pk_f q pk7
  rw [pick_s h' d j (x - j) 8 (by decide)] at pk8
  have hR8 : vk_R RX4 170 "ranked" (adK 8) s := hRs 8 (by decide)
  refine lv_aload_n hx hb dX4_wordFrom_118 rfl (lv_at hl 0 rfl) ?_
  refine lv_iload_n hx hb dX4_wordFrom_119 rfl (lv_at hl 1 rfl) ?_
  refine va_ldcS hx hb hown hR8 dX4_wordFrom_120 ?_
  refine s_callV (b := rho (a + 1)) (As := [.int (nI j), .ref (adK 8)]) (rest := []) hx hb hml hown hts (k_spl (G := gG l dC dI adK adV L xs) (adK := adK) (adV := adV) (A := va_A (z_w rho cid h') s.heap.size) (i := 8) (by decide) rf hj rfl) hrc (fun U g mk a q => q.cal g mk a) (fun U hU hW => hSB.to hW.alike hU) hS w_471 w_473 v_6 w_8 w_474 q_spl ⟨Nat.le_of_ble_eq_true rfl, Nat.le_of_ble_eq_true rfl⟩ hl.1 rfl (Nat.le_of_ble_eq_true rfl) dX4_wordFrom_122 ⟨Nat.zero_le _, Nat.zero_le _⟩ (fun locs8 hS => ?_)
  refine lv_if_eq (tgt := 133) hx hb dX4_wordFrom_125 (by decide) (fun q => ?_) (fun q => by
    have er : (12 : Int32) = r := pk_t q pk8
    refine lv_bipush (v := 12) hx hb dX4_wordFrom_128 (by decide) ?_
    refine lv_goto (tgt := 209) hx hb dX4_wordFrom_130 (by decide) ?_
    rw [er]
    exact fin _ hS)
  have pk9 := pk_f q pk8
  rw [pick_s h' d j (x - j) 9 (by decide)] at pk9
  have hR9 : vk_R RX4 172 "wide" (adK 9) s := hRs 9 (by decide)
  refine lv_aload_n hx hb dX4_wordFrom_133 rfl (lv_at hl 0 rfl) ?_
  refine lv_iload_n hx hb dX4_wordFrom_134 rfl (lv_at hl 1 rfl) ?_
  refine va_ldcS hx hb hown hR9 dX4_wordFrom_135 ?_
  refine s_callV (b := rho (a + 1)) (As := [.int (nI j), .ref (adK 9)]) (rest := []) hx hb hml hown hts (k_spl (G := gG l dC dI adK adV L xs) (adK := adK) (adV := adV) (A := va_A (z_w rho cid h') s.heap.size) (i := 9) (by decide) rf hj rfl) hrc (fun U g mk a q => q.cal g mk a) (fun U hU hW => hSB.to hW.alike hU) hS w_471 w_473 v_6 w_8 w_474 q_spl ⟨Nat.le_of_ble_eq_true rfl, Nat.le_of_ble_eq_true rfl⟩ hl.1 rfl (Nat.le_of_ble_eq_true rfl) dX4_wordFrom_137 ⟨Nat.zero_le _, Nat.zero_le _⟩ (fun locs9 hS => ?_)
  refine lv_if_eq (tgt := 148) hx hb dX4_wordFrom_140 (by decide) (fun q => ?_) (fun q => by
    have er : (13 : Int32) = r := pk_t q pk9
    refine lv_bipush (v := 13) hx hb dX4_wordFrom_143 (by decide) ?_
    refine lv_goto (tgt := 209) hx hb dX4_wordFrom_145 (by decide) ?_
    rw [er]
    exact fin _ hS)
  have pk10 := pk_f q pk9
  rw [pick_s h' d j (x - j) 10 (by decide)] at pk10
  have hR10 : vk_R RX4 174 "loyal" (adK 10) s := hRs 10 (by decide)
  refine lv_aload_n hx hb dX4_wordFrom_148 rfl (lv_at hl 0 rfl) ?_
  refine lv_iload_n hx hb dX4_wordFrom_149 rfl (lv_at hl 1 rfl) ?_
  refine va_ldcS hx hb hown hR10 dX4_wordFrom_150 ?_
  refine s_callV (b := rho (a + 1)) (As := [.int (nI j), .ref (adK 10)]) (rest := []) hx hb hml hown hts (k_spl (G := gG l dC dI adK adV L xs) (adK := adK) (adV := adV) (A := va_A (z_w rho cid h') s.heap.size) (i := 10) (by decide) rf hj rfl) hrc (fun U g mk a q => q.cal g mk a) (fun U hU hW => hSB.to hW.alike hU) hS w_471 w_473 v_6 w_8 w_474 q_spl ⟨Nat.le_of_ble_eq_true rfl, Nat.le_of_ble_eq_true rfl⟩ hl.1 rfl (Nat.le_of_ble_eq_true rfl) dX4_wordFrom_152 ⟨Nat.zero_le _, Nat.zero_le _⟩ (fun locs10 hS => ?_)
  refine lv_if_eq (tgt := 163) hx hb dX4_wordFrom_155 (by decide) (fun q => ?_) (fun q => by
    have er : (14 : Int32) = r := pk_t q pk10
    refine lv_bipush (v := 14) hx hb dX4_wordFrom_158 (by decide) ?_
    refine lv_goto (tgt := 209) hx hb dX4_wordFrom_160 (by decide) ?_
    rw [er]
    exact fin _ hS)
  have pk11 := pk_f q pk10
  rw [pick_s h' d j (x - j) 11 (by decide)] at pk11
  have hR11 : vk_R RX4 176 "more" (adK 11) s := hRs 11 (by decide)
  refine lv_aload_n hx hb dX4_wordFrom_163 rfl (lv_at hl 0 rfl) ?_
  refine lv_iload_n hx hb dX4_wordFrom_164 rfl (lv_at hl 1 rfl) ?_
  refine va_ldcS hx hb hown hR11 dX4_wordFrom_165 ?_
  refine s_callV (b := rho (a + 1)) (As := [.int (nI j), .ref (adK 11)]) (rest := []) hx hb hml hown hts (k_spl (G := gG l dC dI adK adV L xs) (adK := adK) (adV := adV) (A := va_A (z_w rho cid h') s.heap.size) (i := 11) (by decide) rf hj rfl) hrc (fun U g mk a q => q.cal g mk a) (fun U hU hW => hSB.to hW.alike hU) hS w_471 w_473 v_6 w_8 w_474 q_spl ⟨Nat.le_of_ble_eq_true rfl, Nat.le_of_ble_eq_true rfl⟩ hl.1 rfl (Nat.le_of_ble_eq_true rfl) dX4_wordFrom_167 ⟨Nat.zero_le _, Nat.zero_le _⟩ (fun locs11 hS => ?_)
  refine lv_if_eq (tgt := 178) hx hb dX4_wordFrom_170 (by decide) (fun q => ?_) (fun q => by
    have er : (15 : Int32) = r := pk_t q pk11
    refine lv_bipush (v := 15) hx hb dX4_wordFrom_173 (by decide) ?_
    refine lv_goto (tgt := 209) hx hb dX4_wordFrom_175 (by decide) ?_
    rw [er]
    exact fin _ hS)
  have pk12 := pk_f q pk11
  rw [pick_s h' d j (x - j) 12 (by decide)] at pk12
  have hR12 : vk_R RX4 178 "less" (adK 12) s := hRs 12 (by decide)
  refine lv_aload_n hx hb dX4_wordFrom_178 rfl (lv_at hl 0 rfl) ?_
  refine lv_iload_n hx hb dX4_wordFrom_179 rfl (lv_at hl 1 rfl) ?_
  refine va_ldcS hx hb hown hR12 dX4_wordFrom_180 ?_
  refine s_callV (b := rho (a + 1)) (As := [.int (nI j), .ref (adK 12)]) (rest := []) hx hb hml hown hts (k_spl (G := gG l dC dI adK adV L xs) (adK := adK) (adV := adV) (A := va_A (z_w rho cid h') s.heap.size) (i := 12) (by decide) rf hj rfl) hrc (fun U g mk a q => q.cal g mk a) (fun U hU hW => hSB.to hW.alike hU) hS w_471 w_473 v_6 w_8 w_474 q_spl ⟨Nat.le_of_ble_eq_true rfl, Nat.le_of_ble_eq_true rfl⟩ hl.1 rfl (Nat.le_of_ble_eq_true rfl) dX4_wordFrom_182 ⟨Nat.zero_le _, Nat.zero_le _⟩ (fun locs12 hS => ?_)
  refine lv_if_eq (tgt := 193) hx hb dX4_wordFrom_185 (by decide) (fun q => ?_) (fun q => by
    have er : (16 : Int32) = r := pk_t q pk12
    refine lv_bipush (v := 16) hx hb dX4_wordFrom_188 (by decide) ?_
    refine lv_goto (tgt := 209) hx hb dX4_wordFrom_190 (by decide) ?_
    rw [er]
    exact fin _ hS)
  have pk13 := pk_f q pk12
  rw [pick_s h' d j (x - j) 13 (by decide)] at pk13
  have hR13 : vk_R RX4 180 "sum" (adK 13) s := hRs 13 (by decide)
  refine lv_aload_n hx hb dX4_wordFrom_193 rfl (lv_at hl 0 rfl) ?_
  refine lv_iload_n hx hb dX4_wordFrom_194 rfl (lv_at hl 1 rfl) ?_
  refine va_ldcS hx hb hown hR13 dX4_wordFrom_195 ?_
  refine s_callV (b := rho (a + 1)) (As := [.int (nI j), .ref (adK 13)]) (rest := []) hx hb hml hown hts (k_spl (G := gG l dC dI adK adV L xs) (adK := adK) (adV := adV) (A := va_A (z_w rho cid h') s.heap.size) (i := 13) (by decide) rf hj rfl) hrc (fun U g mk a q => q.cal g mk a) (fun U hU hW => hSB.to hW.alike hU) hS w_471 w_473 v_6 w_8 w_474 q_spl ⟨Nat.le_of_ble_eq_true rfl, Nat.le_of_ble_eq_true rfl⟩ hl.1 rfl (Nat.le_of_ble_eq_true rfl) dX4_wordFrom_197 ⟨Nat.zero_le _, Nat.zero_le _⟩ (fun locs13 hS => ?_)
  refine lv_if_eq (tgt := 208) hx hb dX4_wordFrom_200 (by decide) (fun q => ?_) (fun q => by
    have er : (17 : Int32) = r := pk_t q pk13
    refine lv_bipush (v := 17) hx hb dX4_wordFrom_203 (by decide) ?_
    refine lv_goto (tgt := 209) hx hb dX4_wordFrom_205 (by decide) ?_
    rw [er]
    exact fin _ hS)
  have pk14 := pk_f q pk13
  have er : (1 : Int32) = r := pk14
  refine lv_iconst (v := 1) hx hb dX4_wordFrom_208 (by decide) ?_
  rw [er]
  exact fin _ hS
theorem GG_ok {l : Launch} {dC : Nat → ClassId} {dI : Nat → Nat → Nat} {adK adV : Nat → Nat} {L : Nat} {xs : Nat → Int32} : z_GG (gG l dC dI adK adV L xs) := ⟨EV_ok, fun w hw _ _ E => E.1 w hw, fun _ _ E => E.2.1, k_word⟩
