/-! THE START -/
def z_h0 : Z_H := (0, 0, fun _ => (0, 0, fun _ => none), fun _ _ => 0, fun _ _ => 0)
theorem k_cls {s : State} {args : Array Value} (d : ClassId) (hW : ∀ w ∈ Z_W, w.before args s = true) : ∀ k : Nat, ∃ z : ClassId × (Nat → Nat), ∀ q : vw_C, Z_cl[k]? = some q → u_Kn s q.1 q.2.1 q.2.2 z.1 z.2 := by
  intro k
  match k with
  | 0 =>
    obtain ⟨c, f, hk⟩ := u_known (C := RX0) (T := TX0) (N := 8) (n := 8) hW cX0.2.1 (hW _ w_125)
    exact ⟨(c, f), fun q hq => by cases hq; exact hk⟩
  | 1 =>
    obtain ⟨c, f, hk⟩ := u_known (C := RX1) (T := TX1) (N := 3) (n := 3) hW cX1.2.1 (hW _ w_223)
    exact ⟨(c, f), fun q hq => by cases hq; exact hk⟩
  | 2 =>
    obtain ⟨c, f, hk⟩ := u_known (C := RX2) (T := TX2) (N := 2) (n := 2) hW cX2.2.1 (hW _ w_388)
    exact ⟨(c, f), fun q hq => by cases hq; exact hk⟩
  | 3 =>
    obtain ⟨c, f, hk⟩ := u_known (C := RX3) (T := TX3) (N := 12) (n := 12) hW cX3.2.1 (hW _ w_52)
    exact ⟨(c, f), fun q hq => by cases hq; exact hk⟩
  | 4 =>
    obtain ⟨c, f, hk⟩ := u_known (C := RX4) (T := TX4) (N := 11) (n := 11) hW cX4.2.1 (hW _ w_283)
    exact ⟨(c, f), fun q hq => by cases hq; exact hk⟩
  | 5 =>
    obtain ⟨c, f, hk⟩ := u_known (C := RX5) (T := TX5) (N := 8) (n := 8) hW cX5.2.1 (hW _ w_178)
    exact ⟨(c, f), fun q hq => by cases hq; exact hk⟩
  | 6 =>
    obtain ⟨c, f, hk⟩ := u_known (C := RX6) (T := TX6) (N := 13) (n := 13) hW cX6.2.1 (hW _ w_328)
    exact ⟨(c, f), fun q hq => by cases hq; exact hk⟩
  | 7 =>
    obtain ⟨c, f, hk⟩ := u_known (C := RX7) (T := TX7) (N := 9) (n := 9) hW cX7.2.1 (hW _ w_29)
    exact ⟨(c, f), fun q hq => by cases hq; exact hk⟩
  | 8 =>
    obtain ⟨c, f, hk⟩ := u_known (C := RX8) (T := TX8) (N := 2) (n := 2) hW cX8.2.1 (hW _ w_35)
    exact ⟨(c, f), fun q hq => by cases hq; exact hk⟩
  | 9 =>
    obtain ⟨c, f, hk⟩ := u_known (C := RX9) (T := TX9) (N := 5) (n := 5) hW cX9.2.1 (hW _ w_21)
    exact ⟨(c, f), fun q hq => by cases hq; exact hk⟩
  | 10 =>
    obtain ⟨c, f, hk⟩ := u_known (C := RX10) (T := TX10) (N := 26) (n := 26) hW cX10.2.1 (hW _ w_1070)
    exact ⟨(c, f), fun q hq => by cases hq; exact hk⟩
  | n + 11 => exact ⟨(d, fun _ => 0), fun q hq => by cases hq⟩
set_option maxHeartbeats 4000000 in
set_option maxRecDepth 100000 in
theorem whole_start {p : Program} {e : Env} {s : State} {m : MethodId} {below : List Frame} {meth : Method} {c : Code} (l : Launch) (hflags : l.flags = flags0) {b L : Nat} {xs : Nat → Int32} (hL : L ≤ 3072) (C0 : lw_At p s m meth c b L xs) : W p l e room_1 s m #[Value.ref b] below meth c s.heap [] 0 0 (lw_Z below #[Value.ref b] s) (entryFrame m ([Value.ref b] : List Value).toArray 4) := by
  obtain ⟨hx, hb, hr, hml, hown, hts, hX, hbl, hlk, hgv⟩ := id C0
  have hgA : ∀ a : Nat, a < s.heap.size → ¬ (fun q : Nat => s.heap.size ≤ q) a := fun a h => Nat.not_le.mpr h
  have hW : ∀ w ∈ Z_W, w.before #[Value.ref b] s = true := fun w h => hts w (List.mem_filter.mp h).1
  obtain ⟨z, hz⟩ := Classical.axiomOfChoice (k_cls m.cls hW)
  have hK : va_K (fun k => (z k).1, fun k => (z k).2) Z_cl [] s := ⟨hz, fun k q h => by simp at h⟩
  generalize (fun k => (z k).1) = dC at hK
  generalize (fun k => (z k).2) = dI at hK
  have hs := flat_of_before _ hgv
  obtain ⟨adK, adV, hSt, hSe⟩ := vk_Sof (args := #[Value.ref b]) (s := s) (N := 14) (tm := fun i => Term.string RX4 (idxS.getD i 0)) (len := lenS) (byt := bytS) (A := fun q : Nat => s.heap.size ≤ q) (fun i hi => by have := (lenE i hi).2; omega) (fun i hi => hs _ (f_ex i hi)) (fun i hi => hs _ (f_co i hi)) (fun i hi => hs _ (f_ar i hi)) (fun i hi => hs _ (f_le i hi)) (fun i hi j hj => hs _ (f_el i hi j hj)) (fun i j hi hj hij => (f_ne i hi j hj hij).imp (fun q => hs _ q) (fun q => hs _ q)) hgA
  have hZ : va_Z RJ0 "COMPACT_STRINGS" "Z" (.int 1) (fun q : Nat => s.heap.size ≤ q) s s.heap := va_Zof (hts _ f_l1) (hW _ w_13) (va_eqi (hs _ f_cs)) hgA
  have hZq : va_Zq RJ3 "SIOOBE_FORMATTER" "Ljava/util/function/BiFunction;" (fun q : Nat => s.heap.size ≤ q) s s.heap := va_Zqof (hts _ f_l2) (hW _ w_15) (hs _ f_sf) hgA
  have EV : EVp adK adV (fun q : Nat => s.heap.size ≤ q) s := ⟨fun w hw => va_Nw.of (nw_on w hw) (hts w (Z_nw_in w hw)), va_AO.of (hts _ f_ao), ⟨hZ, hZq, hSt⟩, fun i hi => vk_R.of (hts _ (f_sr i hi)) (hSe i hi)⟩
  obtain ⟨h', e1, e2, e3⟩ := law_pure plan_ok (L := L) (xs := xs) hL (h := z_h0) rfl rfl
  obtain ⟨hm, w⟩ := s_L_law (GG_ok (l := l) (dC := dC) (dI := dI) (adK := adK) (adV := adV) (L := L) (xs := xs)) z_h0 1 h' (by
    show (f_L_law L xs z_h0).bind some = _
    rw [e1]
    rfl)
  have hl := lv_entry ([.ref b]) (n := 4) (Nat.le_of_ble_eq_true rfl)
  rw [lg_entry_eq]
  generalize (lg_sl ([.ref b]) ++ List.replicate (4 - (lg_sl ([.ref b])).length) Slot.unset).toArray = ls at hl ⊢
  have hl : lv_has ls 4 [(0, .ref b)] := hl
  have hLO : z_LO (fun _ => b) 4 ls [some (.retAddr 0), none, none, none] := ⟨hl.1, hl.2.1, fun i v hv => by
    match i, hv with
    | 0, hv => cases hv; exact lv_at hl 0 rfl
    | 1, hv => cases hv
    | 2, hv => cases hv
    | 3, hv => cases hv
    | n + 4, hv => cases hv⟩
  have hlk0 : z_lk (z_n z_h0) [some (.retAddr 0), none, none, none] := fun i v hv => by
    match i, hv with
    | 0, hv => cases hv; exact trivial
    | 1, hv => cases hv
    | 2, hv => cases hv
    | 3, hv => cases hv
    | n + 4, hv => cases hv
  have hP : va_P (dC, dI) Z_cl [] s.heap := fun k q h => by simp at h
  have hD : va_D (fun q : Nat => s.heap.size ≤ q) [] := ⟨fun i j p q h => by simp at h, fun k q h => by simp at h⟩
  refine w p e room_1 s m #[Value.ref b] below meth c (fun q : Nat => s.heap.size ≤ q) (lw_Z below #[Value.ref b] s) 0 0 (fun _ => b) (fun _ => m.cls) s.heap [] 0 0 (fun _ => b) (fun _ => m.cls) ls ⟨hx, hb, hml, hown, hW, hr, hlk, fun q => absurd q (by decide), fun q h => h, Nat.le_of_ble_eq_true rfl, Nat.le_of_ble_eq_true rfl, ?_, ?_, EV, ⟨hX, hbl, Nat.not_le.mpr hbl⟩, ?_⟩ ⟨fun a ha => absurd ha (Nat.not_lt_zero _), fun v hv => absurd hv List.not_mem_nil, hlk0, hLO, hP, hD, ⟨hK, fun a ha => absurd ha (Nat.not_lt_zero _)⟩, va_S.rf, rfl, rfl, ⟨rfl, fun i hi => absurd hi (Nat.not_lt_zero _)⟩⟩
  · show z_n h' ≤ 0 + 70300
    omega
  · show z_t h' ≤ 0 + 8891350
    omega
  · intro pc Ls H locs cells slots rho' cid' hd hn ok P D K S q1 q2 ag
    exact va_forget (fun q hq => S.2.2 q hq) (W.widen (k := 70300) (n := 8891350) (by omega) (by omega) (lw_ret hx hb hr hlk hd))
