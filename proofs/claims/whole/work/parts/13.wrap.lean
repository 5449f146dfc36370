def bd2 {α β γ : Type} (r : Option (α × β)) (f : α → β → Option γ) : Option γ := r.bind fun q => f q.1 q.2
def nw {β : Type} (h : Z_H) (c n : Nat) (f : Nat → Z_H → β) : β := f (z_n h) (z_new h (4 + c) n)
theorem z_out {x : Int32} {lo hi : Int} (h : ∀ v : Int, lo ≤ v → v ≤ hi → ¬ x = Int32.ofInt v) : x.toInt < lo ∨ hi < x.toInt := by
  by_cases h1 : x.toInt < lo
  · exact Or.inl h1
  · by_cases h2 : hi < x.toInt
    · exact Or.inr h2
    · exact absurd (Int32.ofInt_toInt x).symm (h x.toInt (by omega) (by omega))
theorem z_nwaI {G : Z_G} {I : Z_M} {E : Type} {pc : Nat} {la : List (Option Value)} {h : Z_H} {k : E → Option (Int32 × Z_H)} {rest : List Value} {n : Int32} {f : Nat → Z_H → Option E} (hdg : decode I.2.1 pc = .ok (.newarray .int, 2)) (hw : Cond.arrayClass .int ∈ Z_W) (kk : ∀ a h1, Z_S G I (pc + 2) la (.ref a :: rest) h1 (f a h1) k) : Z_S G I pc la (.int n :: rest) h (bd2 (nA h 0 n) f) k := z_newaI (f := fun q => f q.1 q.2) hdg hw kk
theorem z_nwaB {G : Z_G} {I : Z_M} {E : Type} {pc : Nat} {la : List (Option Value)} {h : Z_H} {k : E → Option (Int32 × Z_H)} {rest : List Value} {n : Int32} {f : Nat → Z_H → Option E} (hdg : decode I.2.1 pc = .ok (.newarray .byte, 2)) (hw : Cond.arrayClass .byte ∈ Z_W) (kk : ∀ a h1, Z_S G I (pc + 2) la (.ref a :: rest) h1 (f a h1) k) : Z_S G I pc la (.int n :: rest) h (bd2 (nA h 1 n) f) k := z_newaB (f := fun q => f q.1 q.2) hdg hw kk
theorem z_nwaZ {G : Z_G} {I : Z_M} {E : Type} {pc : Nat} {la : List (Option Value)} {h : Z_H} {k : E → Option (Int32 × Z_H)} {rest : List Value} {n : Int32} {f : Nat → Z_H → Option E} (hdg : decode I.2.1 pc = .ok (.newarray .boolean, 2)) (hw : Cond.arrayClass .boolean ∈ Z_W) (kk : ∀ a h1, Z_S G I (pc + 2) la (.ref a :: rest) h1 (f a h1) k) : Z_S G I pc la (.int n :: rest) h (bd2 (nA h 2 n) f) k := z_newaZ (f := fun q => f q.1 q.2) hdg hw kk
theorem z_nwR {G : Z_G} {I : Z_M} {E : Type} {pc : Nat} {la : List (Option Value)} {h : Z_H} {k : E → Option (Int32 × Z_H)} {rest : List Value} {n : Int32} {idx : Nat} {f : Nat → Z_H → Option E} (hdg : decode I.2.1 pc = .ok (.anewarray idx, 3)) (hl : Cond.classLink I.2.2.2.2.1 idx RX7 ∈ Z_W) (hao : ∀ A s, G.2.2.2.1 A s → va_AO RX7 s) (kk : ∀ a h1, Z_S G I (pc + 3) la (.ref a :: rest) h1 (f a h1) k) : Z_S G I pc la (.int n :: rest) h (bd2 (nA h 3 n) f) k := z_newR (f := fun q => f q.1 q.2) hdg hl hao kk
theorem z_nwO {G : Z_G} {I : Z_M} {E : Type} {pc : Nat} {la : List (Option Value)} {h : Z_H} {k : E → Option (Int32 × Z_H)} {rest : List Value} {c N idx : Nat} {C : String} {T : u_T} {f : Nat → Z_H → Option E} (hc : z_cls c C T N) (hdg : decode I.2.1 pc = .ok (.new idx, 3)) (hl : Cond.classLink I.2.2.2.2.1 idx C ∈ Z_W) (hi1 : Cond.instantiable C N ∈ Z_W) (hi2 : Cond.initialized C ∈ Z_W) (hdv : ∀ j, j < N → z_fv (Z_ty c j) 0 0 none = defaultValue (Z_ty c j)) (kk : ∀ a h1, Z_S G I (pc + 3) la (.ref a :: rest) h1 (f a h1) k) : Z_S G I pc la rest h (nw h c N f) k := z_newO (f := fun q => f q.1 q.2) hc hdg hl hi1 hi2 hdv kk
theorem z_dVI {G : Z_G} {I : Z_M} {E : Type} {pc : Nat} {la : List (Option Value)} {h : Z_H} {k : E → Option (Int32 × Z_H)} {rest : List Value} {J : Z_M} {As : List Value} {idx : Nat} {st : List Value} {f : Option (Int32 × Z_H)} {g : Int32 → Z_H → Option E} {ty : FieldType} {a c N : Nat} {T : u_T} (hE : z_EV G) (hM : z_Met G J (.ref a :: As) h (f.bind some)) (hrc : ∀ q, (f.bind some) = some q → z_is h a c = true) (ho : z_okV J c T N As.length) (hdg : decode I.2.1 pc = .ok (.invokevirtual idx, 3)) (hst : st = As.reverse ++ .ref a :: rest) (w1 : Cond.methodLink I.2.2.2.2.1 idx J.1 ∈ Z_W) (hrt : J.2.2.2.1 = some ty) (hro : z_room J I = true) (hs : Nat.ble (rest.map fun v => v.category).sum 8 = true) (kk : ∀ x h1, Z_S G I (pc + 3) la (.int x :: rest) h1 (g x h1) k) : Z_S G I pc la st h (bd2 f g) k := z_cVI (g := fun q => g q.1 q.2) hE hM hrc ho hdg hst w1 hrt hro hs kk
theorem z_gg {G : Z_G} {I : Z_M} {E : Type} {pc : Nat} {la : List (Option Value)} {h : Z_H} {R : Option E} {k : E → Option (Int32 × Z_H)} {st : List Value} {b : Bool} (kk : b = true → Z_S G I pc la st h R k) : Z_S G I pc la st h (gd b R) k := z_gd (rest := []) kk
theorem z_bz {G : Z_G} {I : Z_M} {E : Type} {pc : Nat} {la : List (Option Value)} {h : Z_H} {R1 R2 : Option E} {k : E → Option (Int32 × Z_H)} {st : List Value} {q : Prop} [Decidable q] (kt : q → Z_S G I pc la st h R1 k) (kf : ¬ q → Z_S G I pc la st h R2 k) : Z_S G I pc la st h (if q then R1 else R2) k := z_by (rest := []) kt kf
theorem z_wk {G : Z_G} {I : Z_M} {E : Type} {pc : Nat} {la la' : List (Option Value)} {st : List Value} {h : Z_H} {R : Option E} {k : E → Option (Int32 × Z_H)} (kk : Z_S G I pc la' st h R k) (hw : z_le la' la) : Z_S G I pc la st h R k := z_weak hw kk
def mx (x y : Int32) : Int32 := if x < y then y else x
def mn (x y : Int32) : Int32 := if y < x then y else x
theorem z_mmax {G : Z_G} {I : Z_M} {E : Type} {pc : Nat} {la : List (Option Value)} {h : Z_H} {k : E → Option (Int32 × Z_H)} {rest : List Value} {R : Option E} {idx : Nat} {x y : Int32} (hdg : decode I.2.1 pc = .ok (.invokestatic idx, 3)) (w1 : Cond.methodLink I.2.2.2.2.1 idx Lib.Math.max.name ∈ Z_W) (w2 : Cond.static Lib.Math.max.name ∈ Z_W) (w3 : Cond.initialized "java/lang/Math" ∈ Z_W) (w4 : Cond.code Lib.Math.max.name Lib.Math.max.code 2 (some .int) ∈ Z_W) (hr1 : 1 ≤ I.2.2.2.2.2.1) (hr2 : (rest.map fun v => v.category).sum + 13 ≤ I.2.2.2.2.2.2) (kk : Z_S G I (pc + 3) la (.int (mx x y) :: rest) h R k) : Z_S G I pc la (.int y :: .int x :: rest) h R k := by
  intro rF hF ee
  obtain ⟨hm, w⟩ := kk rF hF ee
  refine ⟨hm, ?_⟩
  intro p e Rm s m args below meth c0 A Q n0 t0 rho0 cid0 H locs cells slots rho cid Ls Cx D
  obtain ⟨hx, hb, hml, hown, hts, hr, hlk, hin, hA, hfr, hlo, hce, hsl, hE, hsc, hret⟩ := id Cx
  obtain ⟨d1, d2, d3, d4, d5, d6, d7, d8, d9, d10, d11⟩ := id D
  exact va_mmax hx hb (by rw [hml]; exact d4.1.symm) hown (hts _ w1) (hts _ w2) (hts _ w3) (hts _ w4) (by omega) (by rw [z_cat]; omega) (by omega) (by omega) hdg (w p e Rm s m args below meth c0 A Q n0 t0 rho0 cid0 H locs cells slots rho cid Ls Cx (D.st (fun q => z_pi (z_d1 (z_d1 q)))))
theorem z_mmin {G : Z_G} {I : Z_M} {E : Type} {pc : Nat} {la : List (Option Value)} {h : Z_H} {k : E → Option (Int32 × Z_H)} {rest : List Value} {R : Option E} {idx : Nat} {x y : Int32} (hdg : decode I.2.1 pc = .ok (.invokestatic idx, 3)) (w1 : Cond.methodLink I.2.2.2.2.1 idx Lib.Math.min.name ∈ Z_W) (w2 : Cond.static Lib.Math.min.name ∈ Z_W) (w3 : Cond.initialized "java/lang/Math" ∈ Z_W) (w4 : Cond.code Lib.Math.min.name Lib.Math.min.code 2 (some .int) ∈ Z_W) (hr1 : 1 ≤ I.2.2.2.2.2.1) (hr2 : (rest.map fun v => v.category).sum + 13 ≤ I.2.2.2.2.2.2) (kk : Z_S G I (pc + 3) la (.int (mn x y) :: rest) h R k) : Z_S G I pc la (.int y :: .int x :: rest) h R k := by
  intro rF hF ee
  obtain ⟨hm, w⟩ := kk rF hF ee
  refine ⟨hm, ?_⟩
  intro p e Rm s m args below meth c0 A Q n0 t0 rho0 cid0 H locs cells slots rho cid Ls Cx D
  obtain ⟨hx, hb, hml, hown, hts, hr, hlk, hin, hA, hfr, hlo, hce, hsl, hE, hsc, hret⟩ := id Cx
  obtain ⟨d1, d2, d3, d4, d5, d6, d7, d8, d9, d10, d11⟩ := id D
  exact va_mmin hx hb (by rw [hml]; exact d4.1.symm) hown (hts _ w1) (hts _ w2) (hts _ w3) (hts _ w4) (by omega) (by rw [z_cat]; omega) (by omega) (by omega) hdg (w p e Rm s m args below meth c0 A Q n0 t0 rho0 cid0 H locs cells slots rho cid Ls Cx (D.st (fun q => z_pi (z_d1 (z_d1 q)))))
theorem z_lpR {G : Z_G} {I : Z_M} {E S T2 : Type} {k : E → Option (Int32 × Z_H)} {b : (S → Option ((Int32 × Z_H) ⊕ T2)) → S → Option ((Int32 × Z_H) ⊕ T2)} {f : (Int32 × Z_H) ⊕ T2 → Option E} (pcL : Nat) (laL : S → List (Option Value)) (hL : S → Z_H) (pcX : T2 → Nat) (laX : T2 → List (Option Value)) (hX : T2 → Z_H) {n : Nat} {s0 : S}
    (hret : ∀ x h, (f (.inl (x, h))).bind k = some (x, h)) (hf : ∀ t, Z_S G I (pcX t) (laX t) [] (hX t) (f (.inr t)) k)
    (hb : ∀ k' : (Int32 × Z_H) ⊕ T2 → Option (Int32 × Z_H), (∀ x h, k' (.inl (x, h)) = some (x, h)) → (∀ t, Z_S G I (pcX t) (laX t) [] (hX t) (some (.inr t)) k') → ∀ rec : S → Option ((Int32 × Z_H) ⊕ T2), (∀ s, Z_S G I pcL (laL s) [] (hL s) (rec s) k') → ∀ s, Z_S G I pcL (laL s) [] (hL s) (b rec s) k') :
    Z_S G I pcL (laL s0) [] (hL s0) ((lp b n s0).bind f) k := by
  have key : ∀ (n : Nat) (s : S), Z_S G I pcL (laL s) [] (hL s) (lp b n s) (fun t => (f t).bind k) := by
    intro n
    induction n with
    | zero => intro s rF hF e; cases e
    | succ n ih => exact fun s => hb (fun t => (f t).bind k) hret hf (lp b n) ih s
  intro rF hF e
  rw [Option.bind_assoc] at e
  exact key n s0 rF hF e
