/-! the words: String's own methods -/
abbrev FA : Nat → Prop := fun _ => False
abbrev sWs (y : MethodName) (c : ByteArray) (n : Nat) (ret : Option FieldType) : List Cond := Cond.code y c n ret :: Z_W
abbrev sRm (fr lo : Nat) : Room := { frames := fr, cells := 0, slots := 0, locals := lo }
def bytS : List (List Int32) := z_wrds.map Prod.fst
def lenS : List Nat := bytS.map List.length
theorem lenE : ∀ i, i < 14 → lenS.getD i 0 = (bytS.getD i []).length ∧ lenS.getD i 0 ≤ 6 := by decide +kernel
theorem bytE : ∀ i, i < 14 → ∀ b ∈ bytS.getD i [], b &&& 255 = b := by decide +kernel
def SF (adK adV : Nat → Nat) (A : Nat → Prop) (U : State) : Prop := va_Z RJ0 "COMPACT_STRINGS" "Z" (.int 1) A U U.heap ∧ va_Zq RJ3 "SIOOBE_FORMATTER" "Ljava/util/function/BiFunction;" A U U.heap ∧ vk_S 14 lenS bytS adK adV A U U.heap
theorem SF.to {adK adV : Nat → Nat} {A : Nat → Prop} {u U : State} (hvm : u.vm.Alike U.vm) (hH : U.heap = u.heap) (h : SF adK adV A u) : SF adK adV A U := by
  unfold SF
  rw [hH]
  exact ⟨va_Z.moved hvm h.1, va_Zq.moved hvm h.2.1, vk_S.moved hvm h.2.2⟩
theorem SF.cal {adK adV : Nat → Nat} {A : Nat → Prop} {U : State} (g : JFrame) (mk : MethodId) (a : Array Value) (h : SF adK adV A U) : SF adK adV A (U.calling g mk a) := SF.to (u := U) (U := U.calling g mk a) (Vm.Alike.refl U.vm) rfl h
theorem va_S.wk {A : Nat → Prop} {H0 H : Heap} {locs : List Loc} (h : va_S FA H0 H locs) : va_S A H0 H locs := ⟨h.1, fun q h1 _ => h.2.1 q h1 id, fun q hq => (h.2.2 q hq).elim⟩
abbrev sPc (av : List Value) (H0 : Heap) (B : State → Prop) : Array Value → State → Prop := va_Pc av (fun U => U.heap = H0 ∧ B U)
abbrev sQi (r : Int32) (H0 : Heap) : Array Value → State → Outcome → State → Prop := va_Qi (fun (x : Int32) (_ : Unit) => x = r) (fun _ t => t.heap = H0) FA
abbrev sQv (H0 : Heap) : Array Value → State → Outcome → State → Prop := va_Qv (fun (_ : Unit) => True) (fun _ t => t.heap = H0) FA
section SCL
variable {p : Program} {l : Launch} {e : Env} {R : Room} {s : State} {m : MethodId} {args : Array Value} {below : List Frame} {meth : Method} {c : Code} {H : Heap} {locs : List Loc} {cells slots : Nat} {Q : State → Prop}
variable {cc : ByteArray} {pc nL : Nat} {ls : Array Slot} {rest st As : List Value} {B : State → Prop} {y : MethodName} {bytes : ByteArray} {maxL fr lo idx : Nat} {ret : Option FieldType} {own C : String} {r : Int32} {b : Nat}
theorem s_good (w1 : Cond.methodLink own idx y ∈ Z_W) (w2 : Cond.static y ∈ Z_W) (w4 : Cond.initialized y.cls ∈ Z_W) (w5 : Cond.code y bytes maxL ret ∈ Z_W) : GoodIn Z_W (va_wsS own idx y (sWs y bytes maxL ret)) := z_good (fun w hw => by
  rcases List.mem_append.mp hw with q | q
  · rcases List.mem_cons.mp q with q | q
    · rw [q]; exact w1
    rcases List.mem_cons.mp q with q | q
    · rw [q]; exact w2
    rcases List.mem_cons.mp q with q | q
    · rw [q]; exact w4
    cases q
  · rcases List.mem_cons.mp q with q | q
    · rw [q]; exact w5
    · exact q)
theorem s_goodV (w1 : Cond.methodLink own idx y ∈ Z_W) (w2 : Cond.instanceMethod y ∈ Z_W) (w3 : Cond.selects y.cls y y ∈ Z_W) (w4 : Cond.initialized y.cls ∈ Z_W) (w5 : Cond.code y bytes maxL ret ∈ Z_W) : GoodIn Z_W (wsV own idx y.cls y (sWs y bytes maxL ret)) := z_good (fun w hw => by
  rcases List.mem_append.mp hw with q | q
  · rcases List.mem_cons.mp q with q | q
    · rw [q]; exact w1
    rcases List.mem_cons.mp q with q | q
    · rw [q]; exact w2
    rcases List.mem_cons.mp q with q | q
    · rw [q]; exact w3
    rcases List.mem_cons.mp q with q | q
    · rw [q]; exact w4
    cases q
  · rcases List.mem_cons.mp q with q | q
    · rw [q]; exact w5
    · exact q)
theorem s_callS (hx : p.tables.exec = Jvm.exec) (hb : c.code = cc) (hml : c.maxLocals = nL) (hown : s.vm.findClass own = some m.cls) (hts : ∀ w ∈ Z_W, w.before args s = true) (hM : Met l y (sWs y bytes maxL ret) (sRm fr lo) (sPc As H B) (sQi r H) 0 0 FA) (hBl : ∀ (U : State) (g : JFrame) (mk : MethodId) (a : Array Value), B U → B (U.calling g mk a)) (hB : ∀ U : State, U.heap = H → s.WarmedH U.vm → B U) (hS : va_S FA s.heap H locs)
    (w1 : Cond.methodLink own idx y ∈ Z_W) (w2 : Cond.static y ∈ Z_W) (w4 : Cond.initialized y.cls ∈ Z_W) (w5 : Cond.code y bytes maxL ret ∈ Z_W) (hd : z_dsc y As.length) (hR : fr + 1 ≤ R.frames ∧ 8 + (maxL + 11) + lo ≤ R.locals) (hsz : ls.size = nL) (hst : st = As.reverse ++ rest) (hs8 : (rest.map fun v => v.category).sum ≤ 8) (hdg : decode cc pc = .ok (.invokestatic idx, 3)) (hcs : cells ≤ R.cells ∧ slots ≤ R.slots)
    (kk : ∀ locs1, va_S FA s.heap H locs1 → W p l e R s m args below meth c H locs1 cells slots Q (F0 m (pc + 3) ls (.int r :: rest))) : W p l e R s m args below meth c H locs cells slots Q (F0 m pc ls st) := by
  refine va_calli (a := As.toArray) (A1 := FA) (A0 := FA) (va_runS (As := As) (rest := rest) ⟨hx, hb, hml, hown, hts⟩ hM (va_cwS (ws' := Z_W) (bytes := bytes) (maxL := maxL) (ret := ret) As.length hts (s_good w1 w2 w4 w5) rfl rfl rfl hd hR) ⟨fun a U g mk q => ⟨q.1, q.2.1, hBl U g mk a q.2.2⟩, fun U hU hW => ⟨rfl, hU, hB U hU hW⟩⟩ rfl rfl hsz hst (lv_room hs8) hdg hcs) hS (fun _ _ q => q) (fun _ q => q) (fun r2 u t H1 locs1 ht hvm hp hB2 hz hk hS2 => ?_)
  have e : H1 = H := ht.symm.trans hB2
  subst e
  rw [hp]
  exact kk locs1 hS2
theorem s_callSv (hx : p.tables.exec = Jvm.exec) (hb : c.code = cc) (hml : c.maxLocals = nL) (hown : s.vm.findClass own = some m.cls) (hts : ∀ w ∈ Z_W, w.before args s = true) (hM : Met l y (sWs y bytes maxL ret) (sRm fr lo) (sPc As H B) (sQv H) 0 0 FA) (hBl : ∀ (U : State) (g : JFrame) (mk : MethodId) (a : Array Value), B U → B (U.calling g mk a)) (hB : ∀ U : State, U.heap = H → s.WarmedH U.vm → B U) (hS : va_S FA s.heap H locs)
    (w1 : Cond.methodLink own idx y ∈ Z_W) (w2 : Cond.static y ∈ Z_W) (w4 : Cond.initialized y.cls ∈ Z_W) (w5 : Cond.code y bytes maxL ret ∈ Z_W) (hd : z_dsc y As.length) (hR : fr + 1 ≤ R.frames ∧ 8 + (maxL + 11) + lo ≤ R.locals) (hsz : ls.size = nL) (hst : st = As.reverse ++ rest) (hs8 : (rest.map fun v => v.category).sum ≤ 8) (hdg : decode cc pc = .ok (.invokestatic idx, 3)) (hcs : cells ≤ R.cells ∧ slots ≤ R.slots)
    (kk : ∀ locs1, va_S FA s.heap H locs1 → W p l e R s m args below meth c H locs1 cells slots Q (F0 m (pc + 3) ls rest)) : W p l e R s m args below meth c H locs cells slots Q (F0 m pc ls st) := by
  refine va_callv (a := As.toArray) (A1 := FA) (A0 := FA) (va_runS (As := As) (rest := rest) ⟨hx, hb, hml, hown, hts⟩ hM (va_cwS (ws' := Z_W) (bytes := bytes) (maxL := maxL) (ret := ret) As.length hts (s_good w1 w2 w4 w5) rfl rfl rfl hd hR) ⟨fun a U g mk q => ⟨q.1, q.2.1, hBl U g mk a q.2.2⟩, fun U hU hW => ⟨rfl, hU, hB U hU hW⟩⟩ rfl rfl hsz hst (lv_room hs8) hdg hcs) hS (fun _ _ q => q) (fun _ q => q) (fun u t H1 locs1 ht hvm hp hB2 hz hk hS2 => ?_)
  have e : H1 = H := ht.symm.trans hB2
  subst e
  exact kk locs1 hS2
theorem s_callV (hx : p.tables.exec = Jvm.exec) (hb : c.code = cc) (hml : c.maxLocals = nL) (hown : s.vm.findClass own = some m.cls) (hts : ∀ w ∈ Z_W, w.before args s = true) (hM : Met l y (sWs y bytes maxL ret) (sRm fr lo) (sPc (.ref b :: As) H B) (sQi r H) 0 0 FA) (hrc : ∃ cell : Cell, H[b]? = some cell ∧ cell.vm.isStatics = false ∧ s.vm.findClass y.cls = some cell.cls) (hBl : ∀ (U : State) (g : JFrame) (mk : MethodId) (a : Array Value), B U → B (U.calling g mk a)) (hB : ∀ U : State, U.heap = H → s.WarmedH U.vm → B U) (hS : va_S FA s.heap H locs)
    (w1 : Cond.methodLink own idx y ∈ Z_W) (w2 : Cond.instanceMethod y ∈ Z_W) (w3 : Cond.selects y.cls y y ∈ Z_W) (w4 : Cond.initialized y.cls ∈ Z_W) (w5 : Cond.code y bytes maxL ret ∈ Z_W) (hd : z_dsc y As.length) (hR : fr + 1 ≤ R.frames ∧ 8 + (maxL + 11) + lo ≤ R.locals) (hsz : ls.size = nL) (hst : st = As.reverse ++ .ref b :: rest) (hs8 : (rest.map fun v => v.category).sum ≤ 8) (hdg : decode cc pc = .ok (.invokevirtual idx, 3)) (hcs : cells ≤ R.cells ∧ slots ≤ R.slots)
    (kk : ∀ locs1, va_S FA s.heap H locs1 → W p l e R s m args below meth c H locs1 cells slots Q (F0 m (pc + 3) ls (.int r :: rest))) : W p l e R s m args below meth c H locs cells slots Q (F0 m pc ls st) := by
  refine va_calli (a := (Value.ref b :: As).toArray) (A1 := FA) (A0 := FA) (va_runV (C := y.cls) (b := b) (As := As) (rest := rest) ⟨hx, hb, hml, hown, hts⟩ hM (cwV (ws' := Z_W) (bytes := bytes) (maxL := maxL) (ret := ret) As.length hts (s_goodV w1 w2 w3 w4 w5) rfl rfl rfl ⟨rfl, hd⟩ hR) ⟨fun a U g mk q => ⟨q.1, q.2.1, hBl U g mk a q.2.2⟩, hrc, fun U hU hW => ⟨rfl, hU, hB U hU hW⟩⟩ rfl rfl hsz hst (lv_room hs8) hdg hcs) hS (fun _ _ q => q) (fun _ q => q) (fun r2 u t H1 locs1 ht hvm hp hB2 hz hk hS2 => ?_)
  have e : H1 = H := ht.symm.trans hB2
  subst e
  rw [hp]
  exact kk locs1 hS2
end SCL
