/-! an image is taken -/
def cK (f : Nat → Int32) : Nat := im1 (f 0) + im1 (f 1) + im1 (f 2)
def ROOM (h g : Z_H) (k b : Nat) : Prop := LY g ∧ STA g b ∧ z_r g 34 k = some b ∧ (∀ k', k' ≠ k → z_r g 34 k' = z_r h 34 k') ∧ (∀ k' b', k' < 3 → k' ≠ k → z_r h 34 k' = some b' → STA g b' ∧ (b + 33 ≤ b' ∨ b' + 33 ≤ b)) ∧ (∀ a, a < z_n h → z_i g a = z_i h a) ∧ (∀ k' b', k' < 3 → k' ≠ k → z_r h 34 k' = some b' → b' + 33 ≤ z_n h) ∧ z_n g = 72 + 33 * cK (upd (z_i h 71) k 1) ∧ z_t g = 20809 + 3412 * cK (upd (z_i h 71) k 1)
theorem cK_1 {f : Nat → Int32} {k : Nat} (hk : k < 3) (e : f k = 1) : cK (upd f k 1) = cK f := by
  have : upd f k 1 = f := by
    funext j
    unfold upd
    by_cases c : j = k
    · rw [if_pos c, c, e]
    · rw [if_neg c]
  rw [this]
theorem cK_0 {f : Nat → Int32} {k : Nat} (hk : k < 3) (e : f k = 0) : cK (upd f k 1) = cK f + 1 := by
  have i0 : im1 0 = 0 := rfl
  have i1 : im1 1 = 1 := rfl
  have : k = 0 ∨ k = 1 ∨ k = 2 := by omega
  unfold cK
  rcases this with rfl | rfl | rfl
  · rw [upd_s, upd_o (by omega), upd_o (by omega), e, i0, i1]; omega
  · rw [upd_s, upd_o (by omega), upd_o (by omega), e, i0, i1]; omega
  · rw [upd_s, upd_o (by omega), upd_o (by omega), e, i0, i1]
theorem img_sta {h : Z_H} (I : IMG h) {k b : Nat} (hk : k < 3) (e : z_r h 34 k = some b) : z_i h 71 k = 1 ∧ STA h b ∧ RS (fun o => z_i h (b + o)) (fun j => z_i h 62 (2727 * (k + 1) + j)) (fun j => z_i h 63 (600 * (k + 1) + j)) := by
  rcases I.1 k hk with ⟨-, c⟩ | ⟨c1, b', c2, c3, c4⟩
  · rw [e] at c
    cases c
  · rw [e] at c2
    cases c2
    exact ⟨c1, c3, c4⟩
theorem STA.low {h g : Z_H} {b : Nat} (S : STA h b) (hn : z_n h ≤ z_n g) (e : ∀ a, 72 ≤ a → a < z_n h → z_x g a = z_x h a) : STA g b := by
  have s1 := S.1
  have s2 := S.2.1
  refine ⟨s1, by omega, fun o ho => ?_⟩
  have := S.2.2 o ho
  unfold z_k z_len z_r at *
  rw [e (b + o) (by omega) (by omega)]
  exact this
theorem c_room {h : Z_H} (I : Inv h) {k : Nat} (hk : k < 3) : ∃ g b, ROOM h g k b ∧ ∀ {γ : Type} (K : Z_H → Option γ), ((aR h 34 (nI k)).bind fun o2 => jn K (fun j4 => oz o2 (j4 h) ((gR h 0 9 1).bind fun r10 => nw h 7 9 fun r11 h12 => (f_X7_init h12 r11).bind fun h13 => (sR h13 r10 (nI k) r11).bind fun h14 => j4 h14))) = K g := by
  have H := I.1
  have C := I.2.2.2.2.2
  have cn : z_n h = 72 + 33 * cK (z_i h 71) := C.1
  have ct : z_t h = 20809 + 3412 * cK (z_i h 71) := C.2
  have dis := I.2.2.2.2.1
  rcases I.2.2.2.1 k hk with ⟨a1, a2⟩ | ⟨a1, b, a2, a3, a4⟩
  · obtain ⟨g, q, e1, e2, n1, t1, low, B, -⟩ := c_st (h := h) (by omega)
    have H1 : 72 ≤ z_n h := H.1
    let b := z_n h
    let w := z_sr q 34 k b
    have Q : LY q := by
      refine ⟨by omega, fun a ha => ?_⟩
      have := H.2 a ha
      unfold z_k z_len z_r at *
      rw [(low a (by omega)).1]
      exact this
    have W : LY w := by
      refine ⟨Q.1, fun a ha => ?_⟩
      obtain ⟨q1, q2, q3⟩ := Q.2 a ha
      refine ⟨z_sr_k.trans q1, z_sr_len.trans q2, fun ne j => ?_⟩
      have := q3 ne j
      unfold z_r at *
      rw [z_sr_x ne]
      exact this
    have lowr : ∀ j, z_r q 34 j = z_r h 34 j := fun j => by
      unfold z_r
      rw [(low 34 (by omega)).1]
    refine ⟨w, b, ⟨W, ⟨H1, by show z_n h + 33 ≤ z_n q; omega, fun o ho => ?_⟩, ?_, fun k' ne => ?_, fun k' b' hk' ne e => ?_, fun a ha => (low a ha).2, fun k' b' hk' ne e => (img_sta I.2.2.2 hk' e).2.1.2.1, ?_, ?_⟩, fun K => ?_⟩
    · obtain ⟨b1, b2, b3, b4⟩ := B.2 o ho
      refine ⟨z_sr_k.trans b2, z_sr_len.trans b3, fun j => ?_⟩
      have := b4 j
      unfold z_r at *
      rw [z_sr_x (show z_n h + o ≠ 34 by omega)]
      exact this
    · show z_r (z_sr q 34 k b) 34 k = _
      rw [z_sr_r, if_pos rfl]
    · show z_r (z_sr q 34 k b) 34 k' = _
      rw [z_sr_r, if_neg ne, lowr]
    · have st := (img_sta I.2.2.2 hk' e).2.1
      refine ⟨st.low (by show z_n h ≤ z_n q; omega) (fun a h1 h2 => ?_), Or.inr st.2.1⟩
      show z_x (z_sr q 34 k b) a = _
      rw [z_sr_x (by omega)]
      exact (low a h2).1
    · show z_n q = _
      rw [cK_0 hk a1]
      omega
    · show z_t q = _
      rw [cK_0 hk a1, t1, ct, Nat.mul_add, Nat.add_assoc]
    · refine bnd ((c_im H hk).trans (congrArg some a2)) (jnE ?_)
      show ((gR h 0 9 1).bind fun r10 => nw h 7 9 fun r11 h12 => (f_X7_init h12 r11).bind fun h13 => (sR h13 r10 (nI k) r11).bind fun h14 => K h14) = K w
      refine bnd (yR0_1 H) ((e1 _).trans (bnd e2 (bnd (a := w) ?_ rfl)))
      unfold sR
      rw [Q.ar (a := 34) (t := 3) rfl rfl rfl hk, (B.sh 0 (by omega) (rfl : kT (1 + 0) = 4 + 7) rfl).is, if_pos (show (true && true) = true from rfl), nI_clamp (by omega)]
  · refine ⟨h, b, ⟨H, a3, a2, fun _ _ => rfl, fun k' b' hk' ne e => ⟨(img_sta I.2.2.2 hk' e).2.1, dis k k' b b' hk hk' (fun q => ne q.symm) a2 e⟩, fun _ _ => rfl, fun k' b' hk' ne e => (img_sta I.2.2.2 hk' e).2.1.2.1, by rw [cK_1 hk a1]; exact cn, by rw [cK_1 hk a1]; exact ct⟩, fun K => ?_⟩
    refine bnd ((c_im H hk).trans (congrArg some a2)) (jnE ?_)
    rfl
theorem op_image {h : Z_H} (I : Inv h) {x : Int32} : ∃ r h1 h2, f_X9_image h 0 x = some (r, h1) ∧ f_X10_image h1 61 x = some (r, h2) ∧ Inv h2 := by
  have H := I.1
  have H1 : LY (z_si h 61 0 0) := H
  have z1 : ¬ (1 : Int32) = 0 := by decide
  rcases nI_or (x := x) (n := 3) (by omega) with ⟨k, hk, rfl⟩ | ⟨-, hx⟩
  · have lt0 : ¬ nI k < 0 := nI_pos (by omega)
    have lt3 : nI k < 3 := nI_lt (b := 3) hk (by omega)
    have ein : ∀ g : Z_H, f_X10_in g (nI k) 0 2 = some 1 := fun g => e_in_t (nI_pos' (by omega)) (nI_le (b := 2) (by omega) (by omega))
    have h72 := H.1
    obtain ⟨g, b, ⟨G, st, rk, ro, so, gi, lo, gn, gt⟩, E⟩ := c_room I hk
    have b72 := st.1
    have Rg : RS (fun o => z_i g (1 + o)) (z_i h 62) (z_i h 63) := ⟨I.2.1.1, RC_congr (fun o _ ho => gi (1 + o) (by omega)) I.2.1.2⟩
    obtain ⟨q, c1, c2, c3, c4, c5, c6⟩ := c_copy (h := g) (d := b) (s := 1) st.blk G.blk (by omega) Rg
    have Q := LY_x c2 c4 G
    let k0 := z_si q 61 0 0
    have K0 : LY k0 := Q
    obtain ⟨w, q1, q2, q3, q4⟩ := e_copyAll (h := k0) (x := 0) (y := k + 1) K0 (by omega) (by omega) (by omega)
    have low : ∀ a, a < 72 → z_i q a = z_i h a := fun a ha => (c5 a (by omega)).trans (gi a (by omega))
    have o62 : z_i k0 62 = z_i h 62 := (z_si_o (by omega)).trans (low 62 (by omega))
    have o63 : z_i k0 63 = z_i h 63 := (z_si_o (by omega)).trans (low 63 (by omega))
    rw [o62] at q3
    rw [o63] at q4
    let v := z_si w 71 k 1
    have W : LY w := q2.ly K0
    have oth : ∀ a, a ≠ 61 → a ≠ 62 → a ≠ 63 → a ≠ 71 → z_i v a = z_i q a := fun a h1 h2 h3 h4 => by
      show z_i (z_si w 71 k 1) a = _
      rw [z_si_o h4, q2.2.2.2 a h2 h3]
      exact z_si_o h1
    have v62 : z_i v 62 = cAl (z_i h 62) (2727 * 0) (2727 * (k + 1)) 2727 := (z_si_o (by omega)).trans q3
    have v63 : z_i v 63 = cBl (z_i h 63) (600 * 0) (600 * (k + 1)) 600 := (z_si_o (by omega)).trans q4
    have v71 : z_i v 71 = upd (z_i h 71) k 1 := by
      show z_i (z_si w 71 k 1) 71 = _
      rw [z_si_i, q2.2.2.2 71 (by omega) (by omega)]
      have : z_i k0 71 = z_i h 71 := (z_si_o (by omega)).trans (low 71 (by omega))
      rw [this]
    have vx : z_x v = z_x g := q2.2.2.1.trans c4
    have vn : z_n v = z_n g := q2.1.trans c2
    have vt : z_t v = z_t g := q2.2.1.trans c3
    have vr : ∀ j, z_r v 34 j = z_r g 34 j := fun j => by
      unfold z_r
      rw [vx]
    have sv : ∀ b', STA g b' → STA v b' := fun b' s => s.low (by omega) (fun a _ _ => by rw [vx])
    refine ⟨1, q, v, ?_, ?_, W, ?_, ?_, fun k' hk' => ?_, fun k1 k2 b1 b2 h1 h2 ne e1 e2 => ?_, ?_, ?_⟩
    · unfold f_X9_image
      refine gdE (yg0 H) ((if_neg lt0).trans ((if_pos lt3).trans (bnd (yR0_1 H) ((E _).trans ?_))))
      exact bnd (yR0_1 G) (bnd ((c_im G hk).trans (congrArg some rk)) (bnd rfl (bnd (yR0_0 G) (bnd c1 rfl))))
    · have q1' : f_X10_copyAll k0 61 0 (nI k + 1) = some w := by
        rw [nI_1]
        exact q1
      unfold f_X10_image
      exact gdE (yg61 Q) (bnd (yP61 Q 0 0) (bnd (ein _) ((if_neg z1).trans (bnd q1' (bnd (yR61_25 W) (bnd (yS71 W hk) rfl))))))
    · have base : RS (cl v) (z_i h 62) (z_i h 63) := ⟨I.2.1.1, RC_congr (fun o _ ho => (oth (1 + o) (by omega) (by omega) (by omega) (by omega)).trans (low (1 + o) (by omega))) I.2.1.2⟩
      refine RS_row base (fun j hj => ?_) (fun j hj => ?_)
      · rw [v62]
        unfold cAl
        rw [if_neg (by omega)]
      · rw [v63]
        unfold cBl
        rw [if_neg (by omega)]
    · show z_i (z_si w 71 k 1) 61 14 = -1
      rw [z_si_o (by omega), q2.2.2.2 61 (by omega) (by omega)]
      show z_i (z_si q 61 0 0) 61 14 = -1
      rw [zi_si, if_pos rfl, if_neg (by omega), low 61 (by omega)]
      exact I.2.2.1
    · by_cases e : k' = k
      · subst e
        refine Or.inr ⟨by rw [v71, upd_s], b, (vr k').trans rk, sv b st, ?_⟩
        have base : RS (fun o => z_i v (b + o)) (z_i h 62) (z_i h 63) := ⟨c6.1, RC_congr (fun o _ ho => oth (b + o) (by omega) (by omega) (by omega) (by omega)) c6.2⟩
        have fit := base.1.2.2.2.2.2.2.2.2.2.2
        have nt6 := base.1.2.2.2.2.2.2.2.2.1
        have st := RS_tape (T' := fun j => z_i v 63 (600 * (k' + 1) + j)) base (fun j hj => by
          rw [v63]
          unfold cBl
          rw [if_pos (by omega), show 600 * 0 + (600 * (k' + 1) + j - 600 * (k' + 1)) = j by omega]
          exact byte_id (fit j hj))
        refine RS_row st (fun j hj => ?_) (fun _ _ => rfl)
        rw [v62]
        unfold cAl
        rw [if_pos (by omega), show 2727 * 0 + (2727 * (k' + 1) + j - 2727 * (k' + 1)) = j by omega]
      · have e71 : z_i v 71 k' = z_i h 71 k' := by rw [v71, upd_o e]
        have er : z_r v 34 k' = z_r h 34 k' := (vr k').trans (ro k' e)
        rw [e71, er]
        rcases I.2.2.2.1 k' hk' with ⟨a1, a2⟩ | ⟨a1, b', a2, a3, a4⟩
        · exact Or.inl ⟨a1, a2⟩
        · obtain ⟨s1, s2⟩ := so k' b' hk' e a2
          have hb' := lo k' b' hk' e a2
          have s3 := a3.1
          refine Or.inr ⟨a1, b', a2, sv b' s1, ?_⟩
          have base : RS (fun o => z_i v (b' + o)) (fun j => z_i h 62 (2727 * (k' + 1) + j)) (fun j => z_i h 63 (600 * (k' + 1) + j)) := ⟨a4.1, RC_congr (fun o _ ho => by
            show z_i v (b' + o) = z_i h (b' + o)
            rw [oth (b' + o) (by omega) (by omega) (by omega) (by omega), c5 (b' + o) (by omega), gi (b' + o) (by omega)]) a4.2⟩
          have kk : k' + 1 ≤ k ∨ k + 1 ≤ k' := by omega
          refine RS_row base (fun j hj => ?_) (fun j hj => ?_)
          · rw [v62]
            unfold cAl
            rw [if_neg (by omega)]
          · rw [v63]
            unfold cBl
            rw [if_neg (by omega)]
    · rw [vr] at e1 e2
      by_cases c1 : k1 = k
      · subst c1
        have c2 : k2 ≠ k1 := fun q => ne q.symm
        rw [rk] at e1
        cases e1
        rw [ro k2 c2] at e2
        exact (so k2 b2 h2 c2 e2).2
      · rw [ro k1 c1] at e1
        by_cases c2 : k2 = k
        · subst c2
          rw [rk] at e2
          cases e2
          exact (so k1 b1 h1 c1 e1).2.symm
        · rw [ro k2 c2] at e2
          exact I.2.2.2.2.1 k1 k2 b1 b2 h1 h2 ne e1 e2
    · show z_n v = 72 + 33 * cK (z_i v 71)
      rw [v71, vn]
      exact gn
    · show z_t v = 20809 + 3412 * cK (z_i v 71)
      rw [v71, vt]
      exact gt
  · refine ⟨0, h, z_si h 61 0 0, ?_, ?_, I.m⟩
    · unfold f_X9_image
      refine gdE (yg0 H) ?_
      rcases hx with q | ⟨q1, q2⟩
      · exact if_pos q
      · exact (if_neg q1).trans (if_neg (fun q => absurd q2 (Int32.not_le.mpr q)))
    · unfold f_X10_image
      exact gdE (yg61 H) (bnd (yP61 H 0 0) (bnd (e_in_f (in_f' (n := 2) (by omega) hx)) (if_pos rfl)))
