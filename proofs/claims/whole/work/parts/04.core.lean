/-! THE ABSTRACT HEAP: cells by number; kinds 0 int[], 1 byte[], 2 boolean[], 3 State[], 4 + c an object of class c (its place in Z_cl). -/
abbrev Z_Sh : Type := Nat × Nat × (Nat → Option Nat)
abbrev Z_H : Type := Nat × Nat × (Nat → Z_Sh) × (Nat → Nat → Int32) × (Nat → Nat → Int64)
def z_n (h : Z_H) : Nat := h.1
def z_t (h : Z_H) : Nat := h.2.1
def z_x (h : Z_H) : Nat → Z_Sh := h.2.2.1
def z_i (h : Z_H) : Nat → Nat → Int32 := h.2.2.2.1
def z_l (h : Z_H) : Nat → Nat → Int64 := h.2.2.2.2
def z_k (h : Z_H) (a : Nat) : Nat := (z_x h a).1
def z_len (h : Z_H) (a : Nat) : Nat := (z_x h a).2.1
def z_r (h : Z_H) (a k : Nat) : Option Nat := (z_x h a).2.2 k
def z_is (h : Z_H) (a c : Nat) : Bool := decide (a < z_n h) && decide (z_k h a = 4 + c)
def z_ar (h : Z_H) (a t : Nat) (i : Int32) : Bool := decide (a < z_n h) && (decide (z_k h a = t) && (decide (0 ≤ i) && decide (i.toNatClampNeg < z_len h a)))
def z_up {α : Type} (f : Nat → Nat → α) (a k : Nat) (v : α) : Nat → Nat → α := fun b j => if b = a then (if j = k then v else f a j) else f b j
def z_upx (f : Nat → Z_Sh) (a k b : Nat) : Nat → Z_Sh := fun q => if q = a then ((f a).1, (f a).2.1, va_up (f a).2.2 k (some b)) else f q
def z_si (h : Z_H) (a k : Nat) (v : Int32) : Z_H := (h.1, h.2.1, h.2.2.1, z_up h.2.2.2.1 a k v, h.2.2.2.2)
def z_sl (h : Z_H) (a k : Nat) (v : Int64) : Z_H := (h.1, h.2.1, h.2.2.1, h.2.2.2.1, z_up h.2.2.2.2 a k v)
def z_sr (h : Z_H) (a k b : Nat) : Z_H := (h.1, h.2.1, z_upx h.2.2.1 a k b, h.2.2.2)
/-- a new cell of kind t, length n -/
def z_new (h : Z_H) (t n : Nat) : Z_H := (h.1 + 1, h.2.1 + n, fun q => if q = h.1 then (t, n, fun _ => none) else h.2.2.1 q, fun q => if q = h.1 then fun _ => 0 else h.2.2.2.1 q, fun q => if q = h.1 then fun _ => 0 else h.2.2.2.2 q)
/-- the ints of cell a, all of them anew -/
def z_row (h : Z_H) (a : Nat) (f : Nat → Int32) : Z_H := (h.1, h.2.1, h.2.2.1, fun q => if q = a then f else h.2.2.2.1 q, h.2.2.2.2)
/-! the operations, as the programs use them -/
def gd {α : Type} (c : Bool) (r : Option α) : Option α := if c then r else none
def lt {α β : Type} (x : α) (k : α → β) : β := k x
def jn {α β : Type} (k : α → β) (r : (α → β) → β) : β := r k
def lp {α β : Type} (b : (α → Option β) → α → Option β) : Nat → α → Option β
  | 0 => fun _ => none
  | n + 1 => b (lp b n)
def gI (h : Z_H) (a c k : Nat) : Option Int32 := if z_is h a c then some (z_i h a k) else none
def gL (h : Z_H) (a c k : Nat) : Option Int64 := if z_is h a c then some (z_l h a k) else none
def gR (h : Z_H) (a c k : Nat) : Option Nat := if z_is h a c then z_r h a k else none
def pI (h : Z_H) (a c k : Nat) (v : Int32) : Option Z_H := if z_is h a c then some (z_si h a k v) else none
def pL (h : Z_H) (a c k : Nat) (v : Int64) : Option Z_H := if z_is h a c then some (z_sl h a k v) else none
def pR (h : Z_H) (a c k b : Nat) : Option Z_H := if z_is h a c then some (z_sr h a k b) else none
def aI (h : Z_H) (a : Nat) (i : Int32) : Option Int32 := if z_ar h a 0 i then some (z_i h a i.toNatClampNeg) else none
def aB (h : Z_H) (a : Nat) (i : Int32) : Option Int32 := if z_ar h a 1 i then some (z_i h a i.toNatClampNeg) else none
def aZ (h : Z_H) (a : Nat) (i : Int32) : Option Int32 := if z_ar h a 2 i then some (z_i h a i.toNatClampNeg) else none
def aR (h : Z_H) (a : Nat) (i : Int32) : Option (Option Nat) := if z_ar h a 3 i then some (z_r h a i.toNatClampNeg) else none
def sI (h : Z_H) (a : Nat) (i v : Int32) : Option Z_H := if z_ar h a 0 i then some (z_si h a i.toNatClampNeg v) else none
def sB (h : Z_H) (a : Nat) (i v : Int32) : Option Z_H := if z_ar h a 1 i then some (z_si h a i.toNatClampNeg v.toInt8.toInt32) else none
def sZ (h : Z_H) (a : Nat) (i v : Int32) : Option Z_H := if z_ar h a 2 i then some (z_si h a i.toNatClampNeg (v &&& 1)) else none
def sR (h : Z_H) (a : Nat) (i : Int32) (b : Nat) : Option Z_H := if z_ar h a 3 i && z_is h b 7 then some (z_sr h a i.toNatClampNeg b) else none
def aN (h : Z_H) (a : Nat) : Option Int32 := if decide (a < z_n h) && decide (z_k h a < 4) then some (Int32.ofNat (z_len h a)) else none
def nA (h : Z_H) (t : Nat) (n : Int32) : Option (Nat × Z_H) := if decide (0 ≤ n) && decide (n.toNatClampNeg ≤ 100000) then some (z_n h, z_new h t n.toNatClampNeg) else none
def nO (h : Z_H) (c n : Nat) : Nat × Z_H := (z_n h, z_new h (4 + c) n)
def z_fit (f : Nat → Int32) : Nat → Nat → Bool
  | _, 0 => true
  | i, n + 1 => (decide (-128 ≤ f i) && decide (f i ≤ 127)) && z_fit f (i + 1) n
def cp (h : Z_H) (a : Nat) (i : Int32) (b : Nat) (j n : Int32) : Option Z_H :=
  if decide (a < z_n h) && (decide (b < z_n h) && (decide (z_k h a < 2) && (decide (z_k h b = z_k h a) && (decide (0 ≤ i) && (decide (0 ≤ j) && (decide (0 ≤ n) && (decide (i.toNatClampNeg + n.toNatClampNeg ≤ z_len h a) && (decide (j.toNatClampNeg + n.toNatClampNeg ≤ z_len h b) && (decide (z_k h a = 0) || z_fit (z_i h a) i.toNatClampNeg n.toNatClampNeg))))))))) then
    some (z_row h b (va_cpy (z_i h a) (z_i h b) i.toNatClampNeg j.toNatClampNeg n.toNatClampNeg))
  else none
/-! THE WORLD OF IT: rho 0 is the script's cell, rho (a + 1) the machine's cell for number a -/
def z_rn (rho : Nat → Nat) (v : Value) : Value := match v with
  | .ref i => .ref (rho (i + 1))
  | .retAddr _ => .ref (rho 0)
  | v => v
def z_vk (n : Nat) (v : Value) : Prop := match v with
  | .ref i => i < n
  | _ => True
def z_sk (n : Nat) (st : List Value) : Prop := ∀ v ∈ st, z_vk n v
def z_lk (n : Nat) (la : List (Option Value)) : Prop := ∀ (i : Nat) (v : Value), la[i]? = some (some v) → z_vk n v
def z_LO (rho : Nat → Nat) (nL : Nat) (Ls : Array Slot) (la : List (Option Value)) : Prop := Ls.size = nL ∧ lv_wf Ls ∧ ∀ (i : Nat) (v : Value), la[i]? = some (some v) → Ls[i]? = some (.val (z_rn rho v))
def z_ok (h : Z_H) : Prop := ∀ a, a < z_n h → ∀ k b, z_r h a k = some b → b < z_n h
def z_ak (k : Nat) : FieldType := match k with
  | 0 => .int
  | 1 => .byte
  | 2 => .boolean
  | _ => .object RX7
def z_fv (ty : FieldType) (x : Int32) (y : Int64) (r : Option Nat) : Value := match ty with
  | .long => .long y
  | .object _ => va_rf r
  | .array _ => va_rf r
  | _ => .int x
def z_fs (rho : Nat → Nat) (h : Z_H) (a c : Nat) : List Value := (List.range (Z_N c)).map fun k => z_fv (Z_ty c k) (z_i h a k) (z_l h a k) ((z_r h a k).map fun b => rho (b + 1))
def z_e (rho : Nat → Nat) (cid : Nat → ClassId) (h : Z_H) (a : Nat) : va_E :=
  if z_k h a < 3 then .inl (cid a, z_len h a, .inl (z_i h a))
  else if z_k h a = 3 then .inl (cid a, z_len h a, .inr (.inr (.inr (.inr (fun j => (z_r h a j).map fun b => rho (b + 1))))))
  else .inr (z_k h a - 4, z_fs rho h a (z_k h a - 4))
def z_w (rho : Nat → Nat) (cid : Nat → ClassId) (h : Z_H) : va_W := (List.range (z_n h)).map fun a => (rho (a + 1), z_e rho cid h a)
/-- launch, class ids, slots, what is known of the rest of the heap, the script's length and ints -/
abbrev Z_G : Type := Launch × (Nat → ClassId) × (Nat → Nat → Nat) × ((Nat → Prop) → State → Prop) × Nat × (Nat → Int32)
/-- name, code, maxLocals, return type, owner, frames and words that it nests -/
abbrev Z_M : Type := MethodName × ByteArray × Nat × Option FieldType × String × Nat × Nat
def z_K (G : Z_G) (cid : Nat → ClassId) (h : Z_H) (U : State) : Prop := va_K (G.2.1, G.2.2.1) Z_cl [] U ∧ ∀ a, a < z_n h → z_k h a < 4 → ArrOfT U (cid a) (z_ak (z_k h a)) ∧ va_RA U (cid a) (z_ak (z_k h a))
def z_sc (G : Z_G) (rho : Nat → Nat) (A : Nat → Prop) (U : State) : Prop := va_X (rho 0) G.2.2.2.2.1 G.2.2.2.2.2 U U.heap ∧ rho 0 < U.heap.size ∧ ¬ A (rho 0)
def z_EV (G : Z_G) : Prop := (∀ (A B : Nat → Prop) (s U : State) (H : Heap) (locs : List Loc), G.2.2.2.1 A s → va_S A s.heap H locs → U.heap = H → s.WarmedH U.vm → (∀ q, B q → A q) → G.2.2.2.1 B U) ∧ ∀ (A : Nat → Prop) (U : State) (g : JFrame) (mk : MethodId) (a : Array Value), G.2.2.2.1 A U → G.2.2.2.1 A (U.calling g mk a)
def z_agr (n : Nat) (rho rho0 : Nat → Nat) (cid cid0 : Nat → ClassId) : Prop := rho 0 = rho0 0 ∧ ∀ i, i < n → rho (i + 1) = rho0 (i + 1) ∧ cid i = cid0 i
/-- the dynamic part -/
def z_D (G : Z_G) (nL : Nat) (s : State) (A : Nat → Prop) (n0 t0 : Nat) (rho0 : Nat → Nat) (cid0 : Nat → ClassId) (la : List (Option Value)) (st : List Value) (h : Z_H) (H : Heap) (locs : List Loc) (cells slots : Nat) (rho : Nat → Nat) (cid : Nat → ClassId) (Ls : Array Slot) : Prop :=
  z_ok h ∧ z_sk (z_n h) st ∧ z_lk (z_n h) la ∧ z_LO rho nL Ls la ∧ va_P (G.2.1, G.2.2.1) Z_cl (z_w rho cid h) H ∧ va_D A (z_w rho cid h) ∧ z_K G cid h s ∧ va_S A s.heap H locs ∧ cells + n0 = z_n h ∧ slots + t0 = z_t h ∧ z_agr n0 rho rho0 cid cid0
/-- the static part, with the answer rF and the heap hF that the method ends with -/
def z_C (G : Z_G) (I : Z_M) (p : Program) (e : Env) (Rm : Room) (s : State) (m : MethodId) (args : Array Value) (below : List Frame) (meth : Method) (c : Code) (A : Nat → Prop) (Q : State → Prop) (n0 t0 : Nat) (rho0 : Nat → Nat) (cid0 : Nat → ClassId) (rF : Int32) (hF : Z_H) : Prop :=
  p.tables.exec = Jvm.exec ∧ c.code = I.2.1 ∧ c.maxLocals = I.2.2.1 ∧ s.vm.findClass I.2.2.2.2.1 = some m.cls ∧ (∀ w ∈ Z_W, w.before args s = true) ∧ meth.sig.returnType = I.2.2.2.1 ∧ meth.locks = false ∧ (I.1.name = "<init>" → meth.name = "<init>") ∧ (∀ q, s.heap.size ≤ q → A q) ∧ I.2.2.2.2.2.1 ≤ Rm.frames ∧ I.2.2.2.2.2.2 ≤ Rm.locals ∧ z_n hF ≤ n0 + Rm.cells ∧ z_t hF ≤ t0 + Rm.slots ∧ G.2.2.2.1 A s ∧ z_sc G rho0 A s ∧
  ∀ (pc : Nat) (Ls : Array Slot) (H : Heap) (locs : List Loc) (cells slots : Nat) (rho : Nat → Nat) (cid : Nat → ClassId),
    decode I.2.1 pc = .ok (match I.2.2.2.1 with | none => .return_ | some _ => .ireturn, 1) → (∀ ty, I.2.2.2.1 = some ty → narrow ty (.int rF) = .int rF) → z_ok hF → va_P (G.2.1, G.2.2.1) Z_cl (z_w rho cid hF) H → va_D A (z_w rho cid hF) → z_K G cid hF s → va_S A s.heap H locs → cells + n0 = z_n hF → slots + t0 = z_t hF → z_agr n0 rho rho0 cid cid0 →
    W p G.1 e Rm s m args below meth c H locs cells slots Q (F0 m pc Ls (match I.2.2.2.1 with | none => [] | some _ => [.int rF]))
def z_Wk (G : Z_G) (I : Z_M) (pc : Nat) (la : List (Option Value)) (st : List Value) (h : Z_H) (rF : Int32) (hF : Z_H) : Prop :=
  ∀ (p : Program) (e : Env) (Rm : Room) (s : State) (m : MethodId) (args : Array Value) (below : List Frame) (meth : Method) (c : Code) (A : Nat → Prop) (Q : State → Prop) (n0 t0 : Nat) (rho0 : Nat → Nat) (cid0 : Nat → ClassId) (H : Heap) (locs : List Loc) (cells slots : Nat) (rho : Nat → Nat) (cid : Nat → ClassId) (Ls : Array Slot),
    z_C G I p e Rm s m args below meth c A Q n0 t0 rho0 cid0 rF hF → z_D G I.2.2.1 s A n0 t0 rho0 cid0 la st h H locs cells slots rho cid Ls →
    W p G.1 e Rm s m args below meth c H locs cells slots Q (F0 m pc Ls (st.map (z_rn rho)))
/-- THE JUDGEMENT: at pc with these locals, stack and heap the method comes to what 'R, then k' says -/
def Z_S (G : Z_G) (I : Z_M) {E : Type} (pc : Nat) (la : List (Option Value)) (st : List Value) (h : Z_H) (R : Option E) (k : E → Option (Int32 × Z_H)) : Prop :=
  ∀ (rF : Int32) (hF : Z_H), R.bind k = some (rF, hF) → (z_n h ≤ z_n hF ∧ z_t h ≤ z_t hF) ∧ z_Wk G I pc la st h rF hF
theorem z_next {G : Z_G} {I : Z_M} {E E' : Type} {pc pc' : Nat} {la la' : List (Option Value)} {st st' : List Value} {h : Z_H} {R : Option E} {k : E → Option (Int32 × Z_H)} {R' : Option E'} {k' : E' → Option (Int32 × Z_H)} (kk : Z_S G I pc' la' st' h R' k') (hR : ∀ q, R.bind k = some q → R'.bind k' = some q) (f : ∀ rF hF, z_Wk G I pc' la' st' h rF hF → z_Wk G I pc la st h rF hF) : Z_S G I pc la st h R k :=
  fun rF hF e => ⟨(kk rF hF (hR _ e)).1, f rF hF (kk rF hF (hR _ e)).2⟩
theorem z_D.st {G : Z_G} {nL : Nat} {s : State} {A : Nat → Prop} {n0 t0 : Nat} {rho0 : Nat → Nat} {cid0 : Nat → ClassId} {la : List (Option Value)} {st st' : List Value} {h : Z_H} {H : Heap} {locs : List Loc} {cells slots : Nat} {rho : Nat → Nat} {cid : Nat → ClassId} {Ls : Array Slot} (D : z_D G nL s A n0 t0 rho0 cid0 la st h H locs cells slots rho cid Ls) (hk : z_sk (z_n h) st → z_sk (z_n h) st') : z_D G nL s A n0 t0 rho0 cid0 la st' h H locs cells slots rho cid Ls :=
  ⟨D.1, hk D.2.1, D.2.2⟩
theorem z_sk_cons {n : Nat} {v : Value} {st : List Value} : z_sk n (v :: st) ↔ z_vk n v ∧ z_sk n st := by
  constructor
  · intro h
    exact ⟨h v List.mem_cons_self, fun w hw => h w (List.mem_cons_of_mem _ hw)⟩
  · intro h w hw
    rcases List.mem_cons.mp hw with e | e
    · rw [e]; exact h.1
    · exact h.2 w e
theorem z_rn_cat (rho : Nat → Nat) (v : Value) : (z_rn rho v).category = v.category := by
  cases v <;> rfl
