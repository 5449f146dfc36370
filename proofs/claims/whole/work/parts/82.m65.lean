/-! words, as the model packs them -/
def pN (T : Nat → Int32) (s : Nat) : Nat → Nat
  | 0 => 0
  | k + 1 => pN T s k * 256 + (T (s + k)).toNatClampNeg
def cstR : List Int32 → Nat
  | [] => 0
  | x :: r => cstR r * 256 + x.toNatClampNeg
def lets (T : Nat → Int32) (s m : Nat) : Prop := ∀ j, j < m → cLt (T (s + j)) = true
theorem let_n {x : Int32} (h : cLt x = true) : ∃ t, 97 ≤ t ∧ t ≤ 122 ∧ x = nI t ∧ x.toNatClampNeg = t := by
  unfold cLt at h
  rw [Bool.and_eq_true] at h
  have h1 := of_decide_eq_true h.1
  have h2 := of_decide_eq_true h.2
  rcases nI_or (x := x) (n := 123) (by omega) with ⟨t, ht, rfl⟩ | ⟨-, q | ⟨q1, q2⟩⟩
  · refine ⟨t, ?_, by omega, rfl, nI_clamp (by omega)⟩
    rcases Nat.lt_or_ge t 97 with c | c
    · exact absurd h1 (nI_ge (b := 97) c (by omega))
    · exact c
  · have : (0 : Int32) < 0 := Int32.lt_of_le_of_lt (Int32.le_trans (by decide : (0 : Int32) ≤ 97) h1) q
    exact absurd this (by decide)
  · have : (123 : Int32) ≤ 122 := Int32.le_trans q2 h2
    exact absurd this (by decide)
theorem spl_sn {F : Nat → Int32} {x : Int32} : ∀ (w : List Int32) (i : Nat), spl F i (w ++ [x]) = (spl F i w && decide (F (i + w.length) = x))
  | [], i => by
    show (decide (F i = x) && true) = (true && decide (F (i + 0) = x))
    rw [Bool.and_true, Bool.true_and, Nat.add_zero]
  | y :: w, i => by
    show (decide (F i = y) && spl F (i + 1) (w ++ [x])) = ((decide (F i = y) && spl F (i + 1) w) && decide (F (i + (w.length + 1)) = x))
    rw [spl_sn w (i + 1), Bool.and_assoc, show i + 1 + w.length = i + (w.length + 1) by omega]
theorem pN_w {T : Nat → Int32} {s : Nat} : ∀ (r : List Int32) (m : Nat), lets T s m → (∀ x ∈ r, cLt x = true) → (pN T s m = cstR r ↔ m = r.length ∧ spl T s r.reverse = true)
  | [], 0, _, _ => ⟨fun _ => ⟨rfl, rfl⟩, fun _ => rfl⟩
  | [], m + 1, hl, _ => by
    obtain ⟨t, t1, t2, t3, t4⟩ := let_n (hl m (by omega))
    show pN T s m * 256 + (T (s + m)).toNatClampNeg = 0 ↔ m + 1 = 0 ∧ _
    rw [t4]
    exact ⟨fun q => by omega, fun q => by omega⟩
  | x :: r, 0, _, hr => by
    obtain ⟨t, t1, t2, t3, t4⟩ := let_n (hr x (List.mem_cons_self ..))
    show 0 = cstR r * 256 + x.toNatClampNeg ↔ 0 = r.length + 1 ∧ _
    rw [t4]
    exact ⟨fun q => by omega, fun q => by omega⟩
  | x :: r, m + 1, hl, hr => by
    obtain ⟨t, t1, t2, t3, t4⟩ := let_n (hr x (List.mem_cons_self ..))
    obtain ⟨u, u1, u2, u3, u4⟩ := let_n (hl m (by omega))
    have ih := pN_w r m (fun j hj => hl j (by omega)) (fun y hy => hr y (List.mem_cons_of_mem _ hy))
    have hrev : (x :: r).reverse = r.reverse ++ [x] := List.reverse_cons
    show pN T s m * 256 + (T (s + m)).toNatClampNeg = cstR r * 256 + x.toNatClampNeg ↔ m + 1 = r.length + 1 ∧ _
    rw [t4, u4, hrev, spl_sn, List.length_reverse, Bool.and_eq_true]
    constructor
    · intro q
      have q1 : pN T s m = cstR r := by omega
      have q2 : u = t := by omega
      obtain ⟨i1, i2⟩ := ih.mp q1
      refine ⟨by omega, i2, decide_eq_true ?_⟩
      rw [← i1, u3, t3, q2]
    · rintro ⟨q1, q2, q3⟩
      have i1 : m = r.length := by omega
      have q4 := of_decide_eq_true q3
      rw [← i1, u3, t3] at q4
      have : u = t := by
        have := congrArg Int32.toNatClampNeg q4
        rwa [nI_clamp (by omega), nI_clamp (by omega)] at this
      rw [ih.mpr ⟨i1, q2⟩, this]
theorem pN_lt {T : Nat → Int32} {s : Nat} : ∀ m, lets T s m → pN T s m < 256 ^ m
  | 0, _ => by
    show 0 < 1
    omega
  | m + 1, hl => by
    obtain ⟨u, u1, u2, u3, u4⟩ := let_n (hl m (by omega))
    have ih := pN_lt m (fun j hj => hl j (by omega))
    show pN T s m * 256 + (T (s + m)).toNatClampNeg < 256 ^ (m + 1)
    rw [u4, Nat.pow_succ]
    omega
def pkL (T : Nat → Int32) (s : Nat) : Nat → Int64
  | 0 => 0
  | k + 1 => (pkL T s k <<< ((8 : Int32).toInt64 &&& 63)) ||| (T (s + k) &&& 255).toInt64
theorem pk_st {a x : Nat} (ha : a < 2 ^ 56) (hx : x < 128) : (Int64.ofNat a <<< ((8 : Int32).toInt64 &&& 63)) ||| (nI x &&& 255).toInt64 = Int64.ofNat (a * 256 + x) := by
  have e8 : (8 : Int32).toInt64 &&& 63 = 8 := by decide
  have ex : (nI x &&& 255).toInt64 = Int64.ofNat x := by
    have : ∀ y, y < 128 → (nI y &&& 255).toInt64 = Int64.ofNat y := by decide +kernel
    exact this x hx
  rw [e8, ex]
  apply Int64.toBitVec_inj.mp
  rw [Int64.toBitVec_or, Int64.toBitVec_shiftLeft]
  have b8 : BitVec.smod (8 : Int64).toBitVec 64 = 8#64 := by decide
  rw [b8]
  apply BitVec.eq_of_toNat_eq
  show ((BitVec.ofNat 64 a <<< 8#64) ||| BitVec.ofNat 64 x).toNat = (BitVec.ofNat 64 (a * 256 + x)).toNat
  rw [BitVec.toNat_or, BitVec.toNat_ofNat, BitVec.toNat_ofNat, BitVec.shiftLeft_eq', BitVec.toNat_shiftLeft, BitVec.toNat_ofNat]
  rw [Nat.mod_eq_of_lt (show x < 2 ^ 64 by omega), Nat.mod_eq_of_lt (show a < 2 ^ 64 by omega), Nat.mod_eq_of_lt (show a * 256 + x < 2 ^ 64 by omega)]
  have e : a <<< (8#64).toNat = a * 256 := Nat.shiftLeft_eq a 8
  have l : a <<< 8 + x = a <<< 8 ||| x := Nat.shiftLeft_add_eq_or_of_lt (by omega) a
  rw [e, Nat.mod_eq_of_lt (show a * 256 < 2 ^ 64 by omega)]
  rw [Nat.shiftLeft_eq] at l
  exact l.symm
theorem pkL_n {T : Nat → Int32} {s : Nat} : ∀ m, m ≤ 8 → lets T s m → pkL T s m = Int64.ofNat (pN T s m)
  | 0, _, _ => rfl
  | m + 1, h8, hl => by
    obtain ⟨u, u1, u2, u3, u4⟩ := let_n (hl m (by omega))
    have hl' : lets T s m := fun j hj => hl j (by omega)
    have ih := pkL_n m (by omega) hl'
    have lt := pN_lt m hl'
    have : (256 : Nat) ^ m ≤ 256 ^ 7 := Nat.pow_le_pow_right (by omega) (by omega)
    show (pkL T s m <<< ((8 : Int32).toInt64 &&& 63)) ||| (T (s + m) &&& 255).toInt64 = Int64.ofNat (pN T s m * 256 + (T (s + m)).toNatClampNeg)
    rw [ih, u4, u3]
    exact pk_st (by omega) (by omega)
def wkd (W : Int64) : List (List Int32 × Int32) → Int32
  | [] => 1
  | q :: l => if W = Int64.ofNat (cstR q.1.reverse) then q.2 else wkd W l
theorem ofN_inj {a b : Nat} (ha : a < 2 ^ 64) (hb : b < 2 ^ 64) (h : Int64.ofNat a = Int64.ofNat b) : a = b := by
  have h1 : (BitVec.ofNat 64 a).toNat = (BitVec.ofNat 64 b).toNat := congrArg (fun w : Int64 => w.toBitVec.toNat) h
  rwa [BitVec.toNat_ofNat, BitVec.toNat_ofNat, Nat.mod_eq_of_lt ha, Nat.mod_eq_of_lt hb] at h1
theorem pck_w {T : Nat → Int32} {s m : Nat} (hm : m ≤ 8) (hl : lets T s m) : ∀ l : List (List Int32 × Int32), (∀ q ∈ l, (∀ x ∈ q.1, cLt x = true) ∧ cstR q.1.reverse < 2 ^ 64) → pck T s m l = wkd (pkL T s m) l
  | [], _ => rfl
  | q :: l, h => by
    have ih := pck_w hm hl l (fun q hq => h q (List.mem_cons_of_mem _ hq))
    obtain ⟨h1, h2⟩ := h q (List.mem_cons_self ..)
    have key := pN_w (T := T) (s := s) q.1.reverse m hl (fun x hx => h1 x (List.mem_reverse.mp hx))
    rw [List.reverse_reverse, List.length_reverse] at key
    have lt := pN_lt m hl
    have : (256 : Nat) ^ m ≤ 256 ^ 8 := Nat.pow_le_pow_right (by omega) hm
    show (if decide (m = q.1.length) && spl T s q.1 then q.2 else pck T s m l) = (if pkL T s m = Int64.ofNat (cstR q.1.reverse) then q.2 else wkd (pkL T s m) l)
    rw [ih, pkL_n m hm hl]
    by_cases c : pN T s m = cstR q.1.reverse
    · obtain ⟨k1, k2⟩ := key.mp c
      rw [if_pos (congrArg Int64.ofNat c), if_pos (by rw [decide_eq_true k1, k2]; rfl)]
    · rw [if_neg (fun e => c (ofN_inj (by omega) h2 e)), if_neg ?_]
      intro e
      rw [Bool.and_eq_true] at e
      exact c (key.mpr ⟨of_decide_eq_true e.1, e.2⟩)
theorem pck_long {T : Nat → Int32} {s m : Nat} (hm : 8 < m) : ∀ l : List (List Int32 × Int32), (∀ q ∈ l, q.1.length ≤ 8) → pck T s m l = 1
  | [], _ => rfl
  | q :: l, h => by
    show (if decide (m = q.1.length) && spl T s q.1 then q.2 else pck T s m l) = 1
    have := h q (List.mem_cons_self ..)
    rw [decide_eq_false (show ¬ m = q.1.length by omega), Bool.false_and, if_neg (by decide)]
    exact pck_long hm l (fun q hq => h q (List.mem_cons_of_mem _ hq))
/-- the model's word for the letters from s on -/
def wrd (T : Nat → Int32) (s m : Nat) : Int64 := if m ≤ 8 then pkL T s m else 0
theorem pck_wrd {T : Nat → Int32} {s m : Nat} (hl : lets T s m) : pck T s m z_wrds = wkd (wrd T s m) z_wrds := by
  unfold wrd
  by_cases c : m ≤ 8
  · rw [if_pos c]
    exact pck_w c hl z_wrds (by decide +kernel)
  · rw [if_neg c, pck_long (by omega) z_wrds (by decide +kernel)]
    decide +kernel
