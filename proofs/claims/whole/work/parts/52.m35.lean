theorem cp_ok {h : Z_H} {a b i j n : Nat} (ha : a < z_n h) (hb : b < z_n h) (ka : z_k h a = 0) (kb : z_k h b = 0) (hi : i + n ≤ z_len h a) (hj : j + n ≤ z_len h b) (h1 : i + n < 2 ^ 31) (h2 : j + n < 2 ^ 31) : cp h a (nI i) b (nI j) (nI n) = some (z_row h b (va_cpy (z_i h a) (z_i h b) i j n)) := by
  unfold cp
  rw [nI_clamp (show i < 2 ^ 31 by omega), nI_clamp (show j < 2 ^ 31 by omega), nI_clamp (show n < 2 ^ 31 by omega), if_pos]
  simp only [Bool.and_eq_true, Bool.or_eq_true, decide_eq_true_eq]
  refine ⟨ha, hb, by omega, by omega, nI_pos' (by omega), nI_pos' (by omega), nI_pos' (by omega), hi, hj, Or.inl ka⟩
theorem z_row_i {h : Z_H} {a : Nat} {f : Nat → Int32} : z_i (z_row h a f) a = f := by
  show (if a = a then f else z_i h a) = f
  rw [if_pos rfl]
/-! the rows as sell leaves them -/
def slA (A : Nat → Int32) (s v mo : Nat) : Nat → Int32 := upd (upd (upd (upd (upd (upd A 146 (nI (nk A + 1))) (1087 + 41 * nk A + 0) (nI s)) (1087 + 41 * nk A + 1) (nI v)) (1087 + 41 * nk A + 2) (nI mo)) (1087 + 41 * nk A + 3) (nI (nwN A))) (1087 + 41 * nk A + 4) (nI 0)
def slP (A : Nat → Int32) (s v mo : Nat) : PS := puS (slA A s v mo) (sc0 (slA A s v mo) mo) mo (nI v) s
def slK (A : Nat → Int32) (s v mo k : Nat) : Nat → Int32 := fun j => if 1087 + 41 * nk A + 6 ≤ j ∧ j < 1087 + 41 * nk A + 6 + k then (slP A s v mo).2.2 (j - (1087 + 41 * nk A + 6)) else upd (slA A s v mo) (1087 + 41 * nk A + 5) (nI (slP A s v mo).1) j
def slB (A : Nat → Int32) (s v mo : Nat) : Nat → Int32 := slK A s v mo (7 * (slP A s v mo).1)
def slW (A : Nat → Int32) (s v mo l : Nat) : Nat := ((slP A s v mo).2.2 (7 * l + 0)).toNatClampNeg
def slT (A : Nat → Int32) (s v mo l : Nat) : Int32 := (slP A s v mo).2.2 (7 * l + 2)
def slC (A : Nat → Int32) (s v mo k : Nat) : Nat → Int32 := jL (slB A s v mo) 0 (nI (nwN A)) (nI (nk A)) (slW A s v mo) (slT A s v mo) k
theorem slA_ns {A : Nat → Int32} {s v mo : Nat} : NS A (slA A s v mo) s v mo := by
  unfold slA
  refine ⟨fun j h1 h2 => ?_, ?_, ?_, ?_, ?_, ?_, ?_⟩
  · rw [upd_o (by omega), upd_o (by omega), upd_o (by omega), upd_o (by omega), upd_o (by omega), upd_o (by omega)]
  · rw [upd_o (by omega), upd_o (by omega), upd_o (by omega), upd_o (by omega), upd_o (by omega), upd_s]
  · rw [upd_o (by omega), upd_o (by omega), upd_o (by omega), upd_o (by omega), upd_s]
  · rw [upd_o (by omega), upd_o (by omega), upd_o (by omega), upd_s]
  · rw [upd_o (by omega), upd_o (by omega), upd_s]
  · rw [upd_o (by omega), upd_s]
  · rw [upd_s]
theorem slB_ns {A : Nat → Int32} {s v mo : Nat} (h5 : (slP A s v mo).1 ≤ 5) : NS A (slB A s v mo) s v mo ∧ slB A s v mo (1087 + 41 * nk A + 5) = nI (slP A s v mo).1 ∧ ∀ i, i < 7 * (slP A s v mo).1 → slB A s v mo (1087 + 41 * nk A + (6 + i)) = (slP A s v mo).2.2 i := by
  have n := slA_ns (A := A) (s := s) (v := v) (mo := mo)
  have lo : ∀ j, j < 1087 + 41 * nk A + 5 ∨ 1087 + 41 * nk A + 41 ≤ j → slB A s v mo j = slA A s v mo j := fun j hj => by
    unfold slB slK
    rw [if_neg (by omega), upd_o (by omega)]
  refine ⟨⟨fun j h1 h2 => ?_, ?_, ?_, ?_, ?_, ?_, ?_⟩, ?_, fun i hi => ?_⟩
  · rw [lo j (by omega)]; exact n.1 j h1 h2
  · rw [lo _ (by omega)]; exact n.2.1
  · rw [lo _ (by omega)]; exact n.2.2.1
  · rw [lo _ (by omega)]; exact n.2.2.2.1
  · rw [lo _ (by omega)]; exact n.2.2.2.2.1
  · rw [lo _ (by omega)]; exact n.2.2.2.2.2.1
  · rw [lo _ (by omega)]; exact n.2.2.2.2.2.2
  · unfold slB slK
    rw [if_neg (by omega), upd_s]
  · unfold slB slK
    rw [if_pos (by omega), show 1087 + 41 * nk A + (6 + i) - (1087 + 41 * nk A + 6) = i by omega]
/-- what can be said of a sale's pays -/
theorem sl_facts {c : Nat → Nat → Int32} {A : Nat → Int32} {s v mo : Nat} (L : LK c (slA A s v mo)) (hN : VN A) (hs : s < nn A) (hv : v ≤ 9999) (hm : mo ≤ 99) : ∃ p : Nat → Nat, (slP A s v mo).1 ≤ 5 ∧ (∀ l, l < (slP A s v mo).1 → slW A s v mo l < nn A ∧ (slP A s v mo).2.2 (7 * l + 0) = nI (slW A s v mo l) ∧ slT A s v mo l = nI (p l)) ∧ (∀ l l', l < (slP A s v mo).1 → l' < (slP A s v mo).1 → slW A s v mo l = slW A s v mo l' → l = l') ∧ snat p (slP A s v mo).1 ≤ 9999 := by
  have h10 := hN.2.1
  have en : nn (slA A s v mo) = nn A := slA_ns.lo.n.1
  have hO := L.ok hm
  obtain ⟨uu, p, a1, a2, a3, a4⟩ := pu_all (m := mo) (s := s) (v := v) hO L.2.2.1 (show s < nn (slA A s v mo) by omega) hv
  have key : ∀ l, l < (slP A s v mo).1 → uu l < nn A ∧ slW A s v mo l = uu l := fun l hl => by
    obtain ⟨⟨k, k1, k2⟩, b1, b2⟩ := a2 l hl
    have hu : uu l < nn A := by
      have := hO.2.1.lt (show s < nn (slA A s v mo) by omega) k2
      have : uu l < nn (slA A s v mo) := this
      omega
    refine ⟨hu, ?_⟩
    unfold slW
    rw [show (slP A s v mo).2.2 (7 * l + 0) = nI (uu l) from b1, nI_clamp (by omega)]
  refine ⟨p, a1, fun l hl => ?_, fun l l' hl hl' e => ?_, a4⟩
  · obtain ⟨k1, k2⟩ := key l hl
    rw [k2]
    exact ⟨k1, (a2 l hl).2.1, (a2 l hl).2.2⟩
  · rw [(key l hl).2, (key l' hl').2] at e
    exact a3 l l' hl hl' e
def ad7 (h : Z_H) (k : Nat) (s v mo nw : Int32) : Z_H := z_si (z_si (z_si (z_si (z_si (z_si (z_si h 22 k s) 23 k v) 24 k mo) 25 k nw) 26 k 0) 27 k 0) 21 0 (nI (k + 1))
theorem c_add {h : Z_H} (H : LY h) {k : Nat} (hk : k < 40) (ek : z_i h 21 0 = nI k) {s v mo nw : Int32} : f_X5_add h 21 s v mo nw = some (nI k, ad7 h k s v mo nw) := by
  unfold f_X5_add ad7
  refine gdE (yg21 H) ?_
  refine bnd ((yI21 H 0).trans (congrArg some ek)) ?_
  refine (if_pos (show nI k < (40 : Int32) from nI_lt (b := 40) hk (by omega))).trans ?_
  refine bnd (yR21_1 H) ?_
  refine bnd (yS22 H hk) ?_
  refine bnd (yR21_2 (h := z_si h 22 k s) H) ?_
  refine bnd (yS23 (h := z_si h 22 k s) H hk) ?_
  refine bnd (yR21_3 (h := z_si (z_si h 22 k s) 23 k v) H) ?_
  refine bnd (yS24 (h := z_si (z_si h 22 k s) 23 k v) H hk) ?_
  refine bnd (yR21_4 (h := z_si (z_si (z_si h 22 k s) 23 k v) 24 k mo) H) ?_
  refine bnd (yS25 (h := z_si (z_si (z_si h 22 k s) 23 k v) 24 k mo) H hk) ?_
  refine bnd (yR21_5 (h := z_si (z_si (z_si (z_si h 22 k s) 23 k v) 24 k mo) 25 k nw) H) ?_
  refine bnd (yS26 (h := z_si (z_si (z_si (z_si h 22 k s) 23 k v) 24 k mo) 25 k nw) H hk) ?_
  refine bnd (yR21_6 (h := z_si (z_si (z_si (z_si (z_si h 22 k s) 23 k v) 24 k mo) 25 k nw) 26 k 0) H) ?_
  refine bnd (yS27 (h := z_si (z_si (z_si (z_si (z_si h 22 k s) 23 k v) 24 k mo) 25 k nw) 26 k 0) H hk) ?_
  refine bnd ((yI21 (h := z_si (z_si (z_si (z_si (z_si (z_si h 22 k s) 23 k v) 24 k mo) 25 k nw) 26 k 0) 27 k 0) H 0).trans (congrArg some ek)) ?_
  refine bnd (yP21 (h := z_si (z_si (z_si (z_si (z_si (z_si h 22 k s) 23 k v) 24 k mo) 25 k nw) 26 k 0) 27 k 0) H 0 (nI k + 1)) ?_
  rw [nI_1]
theorem ad7_o {h : Z_H} {k a : Nat} {s v mo nw : Int32} (ha : a < 21 ∨ 27 < a) : z_i (ad7 h k s v mo nw) a = z_i h a := by
  unfold ad7
  rw [z_si_o (by omega), z_si_o (by omega), z_si_o (by omega), z_si_o (by omega), z_si_o (by omega), z_si_o (by omega), z_si_o (by omega)]
theorem ad7_cl {h : Z_H} {A : Nat → Int32} {s v mo : Nat} : ∀ f, f < 5 → cl (ad7 h (nk A) (nI s) (nI v) (nI mo) (nI (nwN A))) (21 + f) = upd (cl h (21 + f)) (nk A) (slA A s v mo (1087 + 41 * nk A + f)) := by
  intro f hf
  obtain ⟨-, -, n0, n1, n2, n3, n4⟩ := slA_ns (A := A) (s := s) (v := v) (mo := mo)
  have : f = 0 ∨ f = 1 ∨ f = 2 ∨ f = 3 ∨ f = 4 := by omega
  rcases this with rfl | rfl | rfl | rfl | rfl
  · rw [n0]
    show z_i (ad7 h (nk A) (nI s) (nI v) (nI mo) (nI (nwN A))) 22 = upd (z_i h 22) (nk A) (nI s)
    unfold ad7
    rw [z_si_o (by omega), z_si_o (by omega), z_si_o (by omega), z_si_o (by omega), z_si_o (by omega), z_si_o (by omega), z_si_i]
  · rw [n1]
    show z_i (ad7 h (nk A) (nI s) (nI v) (nI mo) (nI (nwN A))) 23 = upd (z_i h 23) (nk A) (nI v)
    unfold ad7
    rw [z_si_o (by omega), z_si_o (by omega), z_si_o (by omega), z_si_o (by omega), z_si_o (by omega), z_si_i, z_si_o (by omega)]
  · rw [n2]
    show z_i (ad7 h (nk A) (nI s) (nI v) (nI mo) (nI (nwN A))) 24 = upd (z_i h 24) (nk A) (nI mo)
    unfold ad7
    rw [z_si_o (by omega), z_si_o (by omega), z_si_o (by omega), z_si_o (by omega), z_si_i, z_si_o (by omega), z_si_o (by omega)]
  · rw [n3]
    show z_i (ad7 h (nk A) (nI s) (nI v) (nI mo) (nI (nwN A))) 25 = upd (z_i h 25) (nk A) (nI (nwN A))
    unfold ad7
    rw [z_si_o (by omega), z_si_o (by omega), z_si_o (by omega), z_si_i, z_si_o (by omega), z_si_o (by omega), z_si_o (by omega)]
  · rw [n4]
    show z_i (ad7 h (nk A) (nI s) (nI v) (nI mo) (nI (nwN A))) 26 = upd (z_i h 26) (nk A) (nI 0)
    unfold ad7
    rw [z_si_o (by omega), z_si_o (by omega), z_si_i, z_si_o (by omega), z_si_o (by omega), z_si_o (by omega), z_si_o (by omega)]
    rfl
theorem ad7_26 {h : Z_H} {k : Nat} {s v mo nw : Int32} : z_i (ad7 h k s v mo nw) 27 = upd (z_i h 27) k 0 := by
  unfold ad7
  rw [z_si_o (by omega), z_si_i, z_si_o (by omega), z_si_o (by omega), z_si_o (by omega), z_si_o (by omega), z_si_o (by omega)]
theorem sl_lk {h : Z_H} {A T : Nat → Int32} {s v mo : Nat} (R : RS (cl h) A T) (hK : nk A < 40) (hs : s < nn A) (hm : mo ≤ 99) : LK (cl (ad7 h (nk A) (nI s) (nI v) (nI mo) (nI (nwN A)))) (slA A s v mo) :=
  R.lk.hi slA_ns.lo (fun o ho => ad7_o (by omega)) (slA_ns.sls hK hs hm R.lk.2.2.2.2.2.2.2.2 rfl ad7_cl)
theorem c_keep {h : Z_H} (H : LY h) {k n : Nat} (hk : k < 40) (hn : n ≤ 5) (e0 : z_i h 59 0 = nI n) : f_X5_keep h 21 (nI k) 59 = some (z_row (z_si h 27 k (nI n)) 28 (va_cpy (z_i h 60) (z_i h 28) 0 (k * 35) (7 * n))) := by
  have H3 : LY (z_si h 27 k (nI n)) := H
  unfold f_X5_keep
  refine gdE (yg21 H) ?_
  refine bnd (yR21_6 H) ?_
  refine bnd ((yI59 H 0).trans (congrArg some e0)) ?_
  refine bnd (yS27 H hk) ?_
  refine bnd (yR59_1 H3) ?_
  refine bnd (yR21_7 H3) ?_
  refine bnd ((yI59 H3 0).trans (congrArg some e0)) ?_
  have i1 : nI k * 5 * 7 = nI (k * 35) := by
    rw [n_5, n_7, nI_mul, nI_mul, Nat.mul_assoc]
  have i2 : nI n * 7 = nI (7 * n) := by rw [n_7, nI_mul, Nat.mul_comm]
  have c60 := (H3.2 60 (by omega))
  have c28 := (H3.2 28 (by omega))
  have n72 := H3.1
  have := cp_ok (h := z_si h 27 k (nI n)) (a := 60) (b := 28) (i := 0) (j := k * 35) (n := 7 * n) (by omega) (by omega) c60.1 c28.1 (by rw [c60.2.1]; show 0 + 7 * n ≤ 35; omega) (by rw [c28.2.1]; show k * 35 + 7 * n ≤ 1400; omega) (by omega) (by omega)
  refine bnd (a := z_row (z_si h 27 k (nI n)) 28 (va_cpy (z_i h 60) (z_i h 28) 0 (k * 35) (7 * n))) ?_ rfl
  rw [i1, i2]
  exact this
