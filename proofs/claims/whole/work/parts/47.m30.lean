/-! sets, once more -/
theorem bs_andn {p q : Nat → Bool} {n : Nat} : nI (bsN p n) &&& (nI (bsN q n) ^^^ (-1)) = nI (bsN (fun t => p t && !q t) n) := by
  unfold nI
  apply Int32.toBitVec_inj.mp
  show BitVec.ofNat 32 (bsN p n) &&& (BitVec.ofNat 32 (bsN q n) ^^^ BitVec.allOnes 32) = BitVec.ofNat 32 _
  apply BitVec.eq_of_getLsbD_eq
  intro i hi
  simp only [BitVec.getLsbD_and, BitVec.getLsbD_xor, BitVec.getLsbD_ofNat, BitVec.getLsbD_allOnes, bsN_tb, hi, decide_true, Bool.true_and]
  cases decide (i < n) <;> cases p i <;> cases q i <;> rfl
theorem bs_two {t n : Nat} (ht : t < n) : 2 ^ t = bsN (fun u => decide (u = t)) n := by
  apply Nat.eq_of_testBit_eq
  intro i
  rw [Nat.testBit_two_pow, bsN_tb]
  by_cases e : i = t
  · subst e
    simp [ht]
  · have : ¬ t = i := fun q => e q.symm
    simp [e, this]
theorem bs_self {v n : Nat} (hv : v < 2 ^ n) : bsN v.testBit n = v := by
  apply Nat.eq_of_testBit_eq
  intro i
  rw [bsN_tb]
  by_cases hi : i < n
  · simp [hi]
  · have : v.testBit i = false := Nat.testBit_lt_two_pow (Nat.lt_of_lt_of_le hv (Nat.pow_le_pow_right (by omega) (by omega)))
    simp [hi, this]
theorem bs_11 {p : Nat → Bool} {n : Nat} (hn : n ≤ 11) : bsN p n = bsN (fun t => decide (t < n) && p t) 11 := by
  apply Nat.eq_of_testBit_eq
  intro i
  rw [bsN_tb, bsN_tb]
  by_cases hi : i < n
  · have : i < 11 := by omega
    simp [hi, this]
  · simp [hi]
def sbS (r : Nat → Bool) (n v : Nat) : Bool := decide (v &&& bsN r n = v)
theorem sb_c {r : Nat → Bool} {n v : Nat} (hn : n ≤ 11) (hv : v < 2048) : (nI v &&& (nI (bsN r n) ^^^ (-1)) = 0) ↔ sbS r n v = true := by
  have ev : bsN v.testBit 11 = v := bs_self hv
  unfold sbS
  rw [decide_eq_true_eq, bs_11 hn]
  have e1 : nI v &&& (nI (bsN (fun t => decide (t < n) && r t) 11) ^^^ (-1)) = nI (bsN (fun t => v.testBit t && !(decide (t < n) && r t)) 11) := by
    have := bs_andn (p := v.testBit) (q := fun t => decide (t < n) && r t) (n := 11)
    rw [ev] at this
    exact this
  rw [e1, n_0, nI_eq (by have := bsN_2048 (p := fun t => v.testBit t && !(decide (t < n) && r t)) (n := 11) (by omega); omega) (by omega)]
  constructor
  · intro h0
    apply Nat.eq_of_testBit_eq
    intro i
    have hi := congrArg (fun x => x.testBit i) h0
    rw [bsN_tb, Nat.zero_testBit] at hi
    rw [Nat.testBit_and, bsN_tb]
    by_cases h11 : i < 11
    · simp only [h11, decide_true, Bool.true_and] at hi ⊢
      cases hb : v.testBit i with
      | false => rfl
      | true =>
        rw [hb] at hi
        simpa using hi
    · have : v.testBit i = false := Nat.testBit_lt_two_pow (Nat.lt_of_lt_of_le (show v < 2 ^ 11 from hv) (Nat.pow_le_pow_right (by omega) (by omega)))
      rw [this]
      rfl
  · intro h0
    apply Nat.eq_of_testBit_eq
    intro i
    have hi := congrArg (fun x => x.testBit i) h0
    rw [Nat.testBit_and, bsN_tb] at hi
    rw [bsN_tb, Nat.zero_testBit]
    by_cases h11 : i < 11
    · simp only [h11, decide_true, Bool.true_and] at hi ⊢
      cases hb : v.testBit i with
      | false => rfl
      | true =>
        rw [hb] at hi
        simpa using hi
    · simp [h11]
theorem sb_m {r : Nat → Bool} {n v : Nat} (hv : v < 2048) : (nI v &&& nI (bsN r n) = nI v) ↔ sbS r n v = true := by
  unfold sbS
  rw [decide_eq_true_eq, nI_band, nI_eq (by have := Nat.and_le_left (n := v) (m := bsN r n); omega) (by omega)]
theorem sb_t {r : Nat → Bool} {n v t : Nat} (h : sbS r n v = true) (ht : v.testBit t = true) : t < n ∧ r t = true := by
  unfold sbS at h
  rw [decide_eq_true_eq] at h
  have := congrArg (fun x => x.testBit t) h
  rw [Nat.testBit_and, bsN_tb, ht] at this
  simpa using this
theorem sb_hi {r : Nat → Bool} {n v : Nat} (h : 2 ^ n ≤ v) : sbS r n v = false := by
  unfold sbS
  refine decide_eq_false (fun e => ?_)
  have h1 := Nat.and_le_right (n := v) (m := bsN r n)
  have h2 := bsN_lt (p := r) n
  omega
theorem e_hasV {h : Z_H} {v k : Nat} (hv : v < 2048) (hk : k < 11) : f_X10_has h (nI v) (nI k) = some (if v.testBit k then 1 else 0) := by
  unfold f_X10_has
  rw [nI_tb hv hk]
  cases v.testBit k <;> rfl
theorem cn_10 {v : Nat} (hv : v < 1024) : cn v.testBit 11 ≤ 10 := by
  show cn v.testBit 10 + (if v.testBit 10 then 1 else 0) ≤ 10
  have : v.testBit 10 = false := Nat.testBit_lt_two_pow hv
  rw [this]
  have := cn_le (p := v.testBit) 10
  simp only [Bool.false_eq_true, if_false]
  omega
/-! lift -/
def lfg (A : Nat → Int32) (S : Sn) (s v : Nat) : Int32 := grp S s + sm (fun t => if v.testBit t then A 3 - sO S t else 0) S.1
def lfl (A : Nat → Int32) (S : Sn) (s v : Nat) : Nat := cn (fun t => inD S s t && (inA S (A 3) t || v.testBit t)) S.1
def lfB (A : Nat → Int32) (S : Sn) (s r v : Nat) : Bool := decide (r ≤ rkS A (lfg A S s v) (nI (lfl A S s v)))
def may (A : Nat → Int32) (S : Sn) (s t : Nat) : Bool := ((inB S s t && !inA S (A 3) t) && !sG S t) && !decide (t = s)
def lfC (v : Nat) (b : Option Nat) : Bool := match b with
  | none => true
  | some b => decide (cn v.testBit 11 < cn b.testBit 11)
def lfG (A : Nat → Int32) (S : Sn) (s r v : Nat) (b : Option Nat) : Option Nat := if (sbS (may A S s) S.1 v && lfC v b) && lfB A S s r v then some v else b
theorem c_lifts {h : Z_H} (H : LY h) {A : Nat → Int32} {m s r v : Nat} (hA : CA h A) (pl5 : ∀ k, k < 4 → z_i h 5 k = A (7 + k)) (pl6 : ∀ k, k < 4 → z_i h 6 k = A (11 + k)) (pl4 : z_i h 4 0 = A 3) (hL : Lay h (sc0 A m) m) (hS : Scn h A (sc0 A m)) (hs : s < nn A) (hv : v < 1024) (hr : r < 4) : f_X9_lifts h 0 (nI s) (nI r) (nI v) = some (if lfB A (sc0 A m) s r v then 1 else 0) := by
  obtain ⟨en, h10⟩ := hA.n
  have hs1 : s < (sc0 A m).1 := hs
  obtain ⟨g1, -, g3, -, -⟩ := hS.2 s hs1
  have key := lp_sum (b := f_X9_lifts_l1 0 (nI v) h) (N := nn A) (fun t => if v.testBit t then A 3 - sO (sc0 A m) t else 0) (by omega) ?_ ?_ (grp (sc0 A m) s)
  · have hb : bsN (inD (sc0 A m) s) (nn A) &&& (bsN (inA (sc0 A m) (A 3)) (nn A) ||| v) < 2048 := by
      have h1 := Nat.and_le_left (n := bsN (inD (sc0 A m) s) (nn A)) (m := bsN (inA (sc0 A m) (A 3)) (nn A) ||| v)
      have h2 := bsN_2048 (p := inD (sc0 A m) s) (n := nn A) (by omega)
      omega
    have ec : cn (bsN (inD (sc0 A m) s) (nn A) &&& (bsN (inA (sc0 A m) (A 3)) (nn A) ||| v)).testBit 11 = lfl A (sc0 A m) s v := by
      rw [cn_ext (n := nn A) 11 (by omega) (fun t h1 _ => by
        rw [Nat.testBit_and, bsN_tb, decide_eq_false (by omega : ¬ t < nn A)]
        rfl)]
      refine cn_congr (nn A) (fun t ht => ?_)
      rw [Nat.testBit_and, Nat.testBit_or, bsN_tb, bsN_tb, decide_eq_true ht]
      rfl
    have rf := c_rankFor (h := h) H pl5 pl6 (g := lfg A (sc0 A m) s v) (l := nI (lfl A (sc0 A m) s v))
    have g9 : z_i h 50 9 = nI (bsN (inA (sc0 A m) (A 3)) (nn A)) := hS.1
    have g3 : z_i h 56 s = nI (bsN (inD (sc0 A m) s) (nn A)) := g3
    have kg : grp (sc0 A m) s + sm (fun t => if v.testBit t then A 3 - sO (sc0 A m) t else 0) (nn A) = lfg A (sc0 A m) s v := rfl
    rw [kg] at key
    unfold f_X9_lifts lfB
    have bt : f_J6_bitCount_0f7a4 h (nI (bsN (inD (sc0 A m) s) (nn A)) &&& (nI (bsN (inA (sc0 A m) (A 3)) (nn A)) ||| nI v)) = some (nI (lfl A (sc0 A m) s v)) := by rw [nI_bor, nI_band, c_bits hb, ec]
    refine gdE (yg0 H) ?_
    refine bnd (yR0_3 H) ?_
    refine bnd (yR50_3 H) ?_
    refine bnd ((yA54 H (show s < 11 by omega)).trans (congrArg some g1)) ?_
    refine bnd key ?_
    refine bnd (yR0_3 H) ?_
    refine bnd (yR50_5 H) ?_
    refine bnd ((yA56 H (show s < 11 by omega)).trans (congrArg some g3)) ?_
    refine bnd (yR0_3 H) ?_
    refine bnd ((yI50 H 9).trans (congrArg some g9)) ?_
    refine bnd bt ?_
    refine bnd (yR0_0 H) ?_
    refine bnd (yR1_1 H) ?_
    refine bnd rf ?_
    have rl := rk_le (A := A) (g := lfg A (sc0 A m) s v) (l := nI (lfl A (sc0 A m) s v))
    by_cases c : r ≤ rkS A (lfg A (sc0 A m) s v) (nI (lfl A (sc0 A m) s v))
    · rw [if_neg (nI_nlt c (by omega)), decide_eq_true c]
      rfl
    · rw [if_pos (nI_lt (by omega) (by omega)), decide_eq_false c]
      rfl
  · intro rec k a hk
    have hk1 : k < (sc0 A m).1 := hk
    have o : z_i h 52 k = sO (sc0 A m) k := (hL.2.2.2.2 k hk1).2.1
    unfold f_X9_lifts_l1
    simp (disch := first | assumption | omega) only [gd, lt, jn, bd2, Option.bind_some, LY_si, LY_sl, LY_row, decide_true, decide_false, if_true, ite_true, ite_false, decide_eq_true_eq, yg0, yg1, yg2, yg4, yg13, yg21, yg29, yg35, yg36, yg45, yg50, yg59, yI0, yI1, yI2, yI4, yI13, yI21, yI29, yI35, yI36, yI45, yI50, yI59, yP0, yP1, yP2, yP4, yP13, yP21, yP29, yP35, yP36, yP45, yP50, yP59, yR0_0, yR0_1, yR0_2, yR0_3, yR0_4, yR1_0, yR1_1, yR1_2, yR1_3, yR1_4, yR1_5, yR2_0, yR4_4, yR4_5, yR4_6, yR4_7, yR4_8, yR4_9, yR4_10, yR4_11, yR13_1, yR13_2, yR13_3, yR13_4, yR13_5, yR13_6, yR13_7, yR21_1, yR21_2, yR21_3, yR21_4, yR21_5, yR21_6, yR21_7, yR29_0, yR29_1, yR29_2, yR35_0, yR35_1, yR35_2, yR35_3, yR35_4, yR36_4, yR36_5, yR36_6, yR36_7, yR36_8, yR36_9, yR36_10, yR36_11, yR45_0, yR50_0, yR50_1, yR50_2, yR50_3, yR50_4, yR50_5, yR50_6, yR50_7, yR59_1, yA3, yA5, yA6, yA7, yA8, yA9, yA10, yA11, yA12, yA14, yA15, yA16, yA17, yA18, yA19, yA20, yA22, yA23, yA24, yA25, yA26, yA27, yA28, yA30, yA31, yA32, yA33, yA37, yA38, yA39, yA40, yA41, yA42, yA43, yA44, yA46, yA47, yA48, yA49, yA51, yA52, yA53, yA54, yA55, yA56, yA57, yA58, yA60, yS3, yS5, yS6, yS7, yS8, yS9, yS10, yS11, yS12, yS14, yS15, yS16, yS17, yS18, yS19, yS20, yS22, yS23, yS24, yS25, yS26, yS27, yS28, yS30, yS31, yS32, yS33, yS37, yS38, yS39, yS40, yS41, yS42, yS43, yS44, yS46, yS47, yS48, yS49, yS51, yS52, yS53, yS54, yS55, yS56, yS57, yS58, yS60, en, nI_tb (show v < 2048 by omega) (show k < 11 by omega), pl4, o, nI_1]
    rw [if_neg (nI_ge hk (by omega))]
    cases v.testBit k with
    | true => rfl
    | false =>
      show rec (a, nI (k + 1)) = rec (a + 0, nI (k + 1))
      rw [add_0]
  · intro rec a
    unfold f_X9_lifts_l1
    simp (disch := first | assumption | omega) only [gd, lt, jn, bd2, Option.bind_some, LY_si, LY_sl, LY_row, decide_true, decide_false, if_true, ite_true, ite_false, decide_eq_true_eq, yg0, yg1, yg2, yg4, yg13, yg21, yg29, yg35, yg36, yg45, yg50, yg59, yI0, yI1, yI2, yI4, yI13, yI21, yI29, yI35, yI36, yI45, yI50, yI59, yP0, yP1, yP2, yP4, yP13, yP21, yP29, yP35, yP36, yP45, yP50, yP59, yR0_0, yR0_1, yR0_2, yR0_3, yR0_4, yR1_0, yR1_1, yR1_2, yR1_3, yR1_4, yR1_5, yR2_0, yR4_4, yR4_5, yR4_6, yR4_7, yR4_8, yR4_9, yR4_10, yR4_11, yR13_1, yR13_2, yR13_3, yR13_4, yR13_5, yR13_6, yR13_7, yR21_1, yR21_2, yR21_3, yR21_4, yR21_5, yR21_6, yR21_7, yR29_0, yR29_1, yR29_2, yR35_0, yR35_1, yR35_2, yR35_3, yR35_4, yR36_4, yR36_5, yR36_6, yR36_7, yR36_8, yR36_9, yR36_10, yR36_11, yR45_0, yR50_0, yR50_1, yR50_2, yR50_3, yR50_4, yR50_5, yR50_6, yR50_7, yR59_1, yA3, yA5, yA6, yA7, yA8, yA9, yA10, yA11, yA12, yA14, yA15, yA16, yA17, yA18, yA19, yA20, yA22, yA23, yA24, yA25, yA26, yA27, yA28, yA30, yA31, yA32, yA33, yA37, yA38, yA39, yA40, yA41, yA42, yA43, yA44, yA46, yA47, yA48, yA49, yA51, yA52, yA53, yA54, yA55, yA56, yA57, yA58, yA60, yS3, yS5, yS6, yS7, yS8, yS9, yS10, yS11, yS12, yS14, yS15, yS16, yS17, yS18, yS19, yS20, yS22, yS23, yS24, yS25, yS26, yS27, yS28, yS30, yS31, yS32, yS33, yS37, yS38, yS39, yS40, yS41, yS42, yS43, yS44, yS46, yS47, yS48, yS49, yS51, yS52, yS53, yS54, yS55, yS56, yS57, yS58, yS60, en]
    rw [if_pos (nI_le (Nat.le_refl _) (by omega))]
theorem cn_or {p q r : Nat → Bool} : ∀ n, (∀ t, t < n → r t = true → q t = false) → cn (fun t => p t && (q t || r t)) n = cn (fun t => p t && q t) n + cn (fun t => r t && p t) n := by
  intro n
  induction n with
  | zero => intro _; rfl
  | succ n ih =>
    intro h
    show cn (fun t => p t && (q t || r t)) n + (if p n && (q n || r n) then 1 else 0) = (cn (fun t => p t && q t) n + (if p n && q n then 1 else 0)) + (cn (fun t => r t && p t) n + (if r n && p n then 1 else 0))
    rw [ih (fun t ht => h t (by omega))]
    have := h n (by omega)
    cases hp : p n <;> cases hr : r n <;> cases hq : q n <;> simp_all <;> omega
theorem e_lifts {h : Z_H} (H : LY h) {S : Sn} {m s r v : Nat} {A : Nat → Int32} (eA : z_i h 62 = A) (M : MSn h S m) (hm : A 144 = nI m) (hO : SOK S) (hN : VN A) (hw : ∃ w, 1 ≤ w ∧ w ≤ 6 ∧ A 6 = nI w) (hs : s < 1000) (hv : v < 2048) (hr : r < 4) (hsb : sbS (may A S s) S.1 v = true) : f_X10_lifts h 61 (nI s) (nI v) (nI r) = some (if lfB A S s r v then 1 else 0) := by
  have h11 := hO.1
  have gg := e_groupOf (t := s) H M hO (by rw [eA]; exact hw) hs
  have ll := e_legsOf (t := s) H M (by rw [eA]; exact hN) hs
  have dd := e_directOf (t := s) H M hs
  rw [eA] at ll
  have e19 : z_i h 61 19 = nI S.1 := M.1.1
  have key := lp_for (b := f_X10_lifts_l1 61 (nI v) h (nI (bsN (inD S s) S.1))) (fun k (q : Int32 × Int32) => (q.1, q.2, nI k)) (fun _ _ => True) (fun k q => (q.1 + (if v.testBit k then A 3 - sO S k else 0), q.2 + (if v.testBit k && inD S s k then 1 else 0))) (fun q => some q) S.1 ?_ (fun _ _ _ _ => trivial) ?_ S.1 FU 0 (grp S s, nI (lgs S (A 3) s)) (by omega) (by unfold FU; omega) trivial
  · have e2 : itf (fun k (q : Int32 × Int32) => (q.1 + (if v.testBit k then A 3 - sO S k else 0), q.2 + (if v.testBit k && inD S s k then (1 : Int32) else 0))) 0 S.1 (grp S s, nI (lgs S (A 3) s)) = (lfg A S s v, nI (lfl A S s v)) := by
      have gen : ∀ n, itf (fun k (q : Int32 × Int32) => (q.1 + (if v.testBit k then A 3 - sO S k else 0), q.2 + (if v.testBit k && inD S s k then (1 : Int32) else 0))) 0 n (grp S s, nI (lgs S (A 3) s)) = (grp S s + sm (fun t => if v.testBit t then A 3 - sO S t else 0) n, nI (lgs S (A 3) s) + sm (fun t => if v.testBit t && inD S s t then 1 else 0) n) := by
        intro n
        induction n with
        | zero =>
          show (grp S s, nI (lgs S (A 3) s)) = (grp S s + 0, nI (lgs S (A 3) s) + 0)
          rw [add_0, add_0]
        | succ n ih =>
          rw [itf_last, ih, Nat.zero_add]
          show (_ + _ + _, _ + _ + _) = (_ + (_ + _), _ + (_ + _))
          rw [Int32.add_assoc, Int32.add_assoc]
      rw [gen, sm_cn, nI_add]
      have : lgs S (A 3) s + cn (fun t => v.testBit t && inD S s t) S.1 = lfl A S s v := by
        unfold lfl lgs
        rw [cn_or S.1 (fun t ht htb => ?_)]
        have := (sb_t hsb htb).2
        unfold may at this
        simp only [Bool.and_eq_true, Bool.not_eq_true'] at this
        exact this.1.1.2
      rw [this]
      rfl
    rw [e2] at key
    have rb := e_rankBy (h := h) H (g := lfg A S s v) (l := nI (lfl A S s v))
    rw [eA] at rb
    unfold f_X10_lifts lfB
    have key' : lp (f_X10_lifts_l1 61 (nI v) h (nI (bsN (inD S s) S.1))) FU (grp S s, nI (lgs S (A 3) s), 0) = some (lfg A S s v, nI (lfl A S s v)) := key
    simp (disch := first | assumption | omega) only [gd, lt, jn, bd2, Option.bind_some, LY_si, LY_sl, LY_row, decide_true, decide_false, if_true, ite_true, ite_false, decide_eq_true_eq, yg61, yI61, yP61, yR61_1, yR61_2, yR61_12, yR61_13, yR61_17, yR61_18, yR61_21, yR61_22, yR61_23, yR61_25, yA62, yA63, yA64, yA65, yA66, yA67, yA68, yA69, yA70, yA71, yS62, yS63, yS64, yS65, yS66, yS67, yS68, yS69, yS70, yS71, gg, ll, dd, key', rb]
    have rl := rk_le (A := A) (g := lfg A S s v) (l := nI (lfl A S s v))
    by_cases c : r ≤ rkS A (lfg A S s v) (nI (lfl A S s v))
    · rw [if_neg (nI_nlt c (by omega)), if_pos c]
    · rw [if_pos (nI_lt (by omega) (by omega)), if_neg c]
  · rintro rec k ⟨a, b⟩ hk _
    have lk : f_X10_lacksOf h 61 (nI k) = some (A 3 - sO S k) := by
      have a3 : aI h 62 3 = some (A 3) := by
        have := yA62 (k := 3) H (by omega)
        rw [eA] at this
        exact this
      have n1 : z_i h 62 144 = nI m := by rw [eA]; exact hm
      have hm99 := M.2.2.1
      unfold f_X10_lacksOf
      simp (disch := first | assumption | omega) only [gd, lt, jn, bd2, Option.bind_some, LY_si, LY_sl, LY_row, decide_true, decide_false, if_true, ite_true, ite_false, decide_eq_true_eq, yg61, yI61, yP61, yR61_1, yR61_2, yR61_12, yR61_13, yR61_17, yR61_18, yR61_21, yR61_22, yR61_23, yR61_25, yA62, yA63, yA64, yA65, yA66, yA67, yA68, yA69, yA70, yA71, yS62, yS63, yS64, yS65, yS66, yS67, yS68, yS69, yS70, yS71, a3, e_now, n1]
      rw [n_100, nI_mul, nI_add, yA68 H (by omega), (M.2.2.2.2 k hk).1]
      rfl
    unfold f_X10_lifts_l1
    simp (disch := first | assumption | omega) only [gd, lt, jn, bd2, Option.bind_some, LY_si, LY_sl, LY_row, decide_true, decide_false, if_true, ite_true, ite_false, decide_eq_true_eq, yg61, yI61, yP61, yR61_1, yR61_2, yR61_12, yR61_13, yR61_17, yR61_18, yR61_21, yR61_22, yR61_23, yR61_25, yA62, yA63, yA64, yA65, yA66, yA67, yA68, yA69, yA70, yA71, yS62, yS63, yS64, yS65, yS66, yS67, yS68, yS69, yS70, yS71, e19, e_hasV hv (show k < 11 by omega), e_has (p := inD S s) h11 hk, lk, nI_1]
    rw [if_neg (nI_ge hk (by omega))]
    cases v.testBit k with
    | false => rfl
    | true =>
      cases inD S s k with
      | false => rfl
      | true => rfl
  · rintro rec ⟨a, b⟩ _
    unfold f_X10_lifts_l1
    simp (disch := first | assumption | omega) only [gd, lt, jn, bd2, Option.bind_some, LY_si, LY_sl, LY_row, decide_true, decide_false, if_true, ite_true, ite_false, decide_eq_true_eq, yg61, yI61, yP61, yR61_1, yR61_2, yR61_12, yR61_13, yR61_17, yR61_18, yR61_21, yR61_22, yR61_23, yR61_25, yA62, yA63, yA64, yA65, yA66, yA67, yA68, yA69, yA70, yA71, yS62, yS63, yS64, yS65, yS66, yS67, yS68, yS69, yS70, yS71, e19]
    rw [if_pos (nI_le (Nat.le_refl _) (by omega))]
