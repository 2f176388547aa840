/-! the tables' facts that a call hands on -/
def zN (U : State) : Prop := va_Nw (.fieldLinkNest "BranchLayout" 76 "BranchLayout$Branch" "goal" "LBranchLayout$Place;" "BranchLayout") U ∧ va_Nw (.fieldLinkNest "BranchLayout" 80 "BranchLayout$Branch" "more" "I" "BranchLayout") U ∧ va_Nw (.fieldLinkNest "BranchLayout" 113 "BranchLayout$Branch" "isShort" "Z" "BranchLayout") U ∧ va_Nw (.declares ⟨"BranchLayout$Statement", "lengthFrom", "(I)I"⟩) U ∧ va_Nw (.castable "BranchLayout$Branch" "BranchLayout$Branch") U ∧ va_Nw (.castable "BranchLayout$Alignment" "BranchLayout$Statement") U ∧ va_Nw (.castable "BranchLayout$Branch" "BranchLayout$Statement") U ∧ va_Nw (.castable "BranchLayout$Bytes" "BranchLayout$Statement") U ∧ va_AO "BranchLayout$Statement" U ∧ va_AO "BranchLayout$Label" U ∧ va_Nc "BranchLayout$Alignment" "BranchLayout$Branch" U ∧ va_Nc "BranchLayout$Bytes" "BranchLayout$Branch" U
theorem zN.warm {s U : State} (hW : s.WarmedH U.vm) (h : zN s) : zN U := by
  obtain ⟨h1, h2, h3, h4, h5, h6, h7, h8, h9, h10, h11, h12⟩ := h
  exact ⟨h1.warmF hW, h2.warmF hW, h3.warmF hW, h4.warmD hW, h5.warmC hW, h6.warmC hW, h7.warmC hW, h8.warmC hW, h9.moved hW.alike, h10.moved hW.alike, h11.moved hW.alike, h12.moved hW.alike⟩
theorem zN.same {u U : State} (e : u.vm = U.vm) (h : zN u) : zN U := by
  have hv : u.vm.Alike U.vm := by rw [e]; exact Vm.Alike.refl U.vm
  obtain ⟨h1, h2, h3, h4, h5, h6, h7, h8, h9, h10, h11, h12⟩ := h
  exact ⟨h1.same rfl e, h2.same rfl e, h3.same rfl e, h4.same rfl e, h5.same rfl e, h6.same rfl e, h7.same rfl e, h8.same rfl e, h9.moved hv, h10.moved hv, h11.moved hv, h12.moved hv⟩
/-- the array classes: int, boolean, Statement, Label -/
abbrev zty (cs : ClassId × ClassId × ClassId × ClassId) : List (ClassId × FieldType) := [(cs.1, .int), (cs.2.1, .boolean), (cs.2.2.1, .object "BranchLayout$Statement"), (cs.2.2.2, .object "BranchLayout$Label")]
def zK (D : va_G) (cs : ClassId × ClassId × ClassId × ClassId) (U : State) : Prop := va_K D zcl (zty cs) U ∧ zN U
theorem zK.warm {D : va_G} {cs : ClassId × ClassId × ClassId × ClassId} {s U : State} (hW : s.WarmedH U.vm) (h : zK D cs s) : zK D cs U := ⟨va_K.moved hW.alike h.1, h.2.warm hW⟩
theorem zK.same {D : va_G} {cs : ClassId × ClassId × ClassId × ClassId} {u U : State} (e : u.vm = U.vm) (h : zK D cs u) : zK D cs U := ⟨va_K.moved (by rw [e]; exact Vm.Alike.refl U.vm) h.1, h.2.same e⟩
/-- a method's contract: over heaps; A names what may change -/
def zMet (l : Launch) (D : va_G) (cs : ClassId × ClassId × ClassId × ClassId) (y : MethodName) (cc : ByteArray) (n : Nat) (r : Option FieldType) (rm : Room) (av : List Value) (P : Heap → Prop) (A : Nat → Prop) (Qh : Option Value → Heap → Prop) : Prop :=
  Met l y (.code y cc n r :: zt) rm (va_Pc av (fun U => zK D cs U ∧ P U.heap)) (fun _ st oc t => ∃ v, oc = .returned v ∧ va_F A st t ∧ Qh v t.heap) rm.cells rm.slots A
def zQ (below : List Frame) (s : State) (av : Array Value) (A : Nat → Prop) (Qh : Option Value → Heap → Prop) (rm : Room) : State → Prop := MQ below (fun _ st oc t => ∃ v, oc = .returned v ∧ va_F A st t ∧ Qh v t.heap) av s rm.cells rm.slots A
/-- what holds of the machine in a method's body -/
def zE (p : Program) (s : State) (m : MethodId) (meth : Method) (c : Code) (av : Array Value) (own nm : String) (cc : ByteArray) (n : Nat) (r : Option FieldType) : Prop :=
  p.tables.exec = Jvm.exec ∧ c.code = cc ∧ meth.sig.returnType = r ∧ (∀ w ∈ zt, w.before av s = true) ∧ s.vm.findClass own = some m.cls ∧ meth.locks = false ∧ c.maxLocals = n ∧ meth.name = nm
theorem zmk {l : Launch} {D : va_G} {cs : ClassId × ClassId × ClassId × ClassId} {y : MethodName} {cc : ByteArray} {n : Nat} {r : Option FieldType} {rm : Room} {av : List Value} {P : Heap → Prop} {A : Nat → Prop} {Qh : Option Value → Heap → Prop}
    (hy : plainName y.cls = true) (hn : (lg_sl av).length ≤ n)
    (body : ∀ (p : Program) (e : Env) (s : State) (m : MethodId) (below : List Frame) (meth : Method) (c : Code) (ls : Array Slot), zE p s m meth c av.toArray y.cls y.name cc n r → zK D cs s → P s.heap → lv_has ls n (lv_args 0 av) →
      W p l e rm s m av.toArray below meth c s.heap [] 0 0 (zQ below s av.toArray A Qh rm) (F0 m 0 ls [])) : zMet l D cs y cc n r rm av P A Qh := by
  refine Met.ofW (cc := cc) (maxL := n) (ret := r) hy rfl ?_
  intro p e s m args below meth c s₁ B hml hv
  obtain ⟨rfl, hK, hP⟩ := hv
  have hts := atoms_spec (ws := Cond.code y cc n r :: zt) B.pre
  have hown : s.vm.findClass y.cls = some m.cls := findClass_of_methodNamed B.named
  have hin : meth.name = y.name := (name_of_methodNamed B.named B.method).1
  have hl := lv_entry av (n := n) hn
  rw [lg_entry_eq]
  generalize (lg_sl av ++ List.replicate (n - (lg_sl av).length) Slot.unset).toArray = ls at hl ⊢
  exact body p e s m below meth c ls ⟨B.exec, B.bytes, B.returns, fun w h => hts w (List.mem_cons_of_mem _ h), hown, B.notSynchronized, hml, hin⟩ hK hP hl
section ZR
variable {p : Program} {l : Launch} {e : Env} {R : Room} {s : State} {m : MethodId} {av : Array Value} {below : List Frame} {meth : Method} {c : Code} {H : Heap} {locs : List Loc} {cells slots : Nat} {A : Nat → Prop} {Qh : Option Value → Heap → Prop} {rm : Room} {own nm : String} {cc : ByteArray} {n : Nat} {r : Option FieldType} {pc : Nat} {ls : Array Slot}
theorem zri (E : zE p s m meth c av own nm cc n (some .int)) {v : Int32} (hdg : decode cc pc = .ok (.ireturn, 1)) (hS : va_S A s.heap H locs) (hc : cells ≤ rm.cells) (hs : slots ≤ rm.slots) (hq : Qh (some (.int v)) H) : W p l e R s m av below meth c H locs cells slots (zQ below s av A Qh rm) (F0 m pc ls [.int v]) := by
  obtain ⟨hx, hb, hr, hts, hown, hlocks, hml, hin⟩ := E
  refine W.widen hc hs ?_
  exact W.iret hx hb hr (fun t ht hW => ⟨_, rfl, hS.F ht, by rw [ht]; exact hq⟩) hS.2.2 hdg
theorem zrz (E : zE p s m meth c av own nm cc n (some .boolean)) {v : Int32} (hdg : decode cc pc = .ok (.ireturn, 1)) (hn : v = 0 ∨ v = 1) (hS : va_S A s.heap H locs) (hc : cells ≤ rm.cells) (hs : slots ≤ rm.slots) (hq : Qh (some (.int v)) H) : W p l e R s m av below meth c H locs cells slots (zQ below s av A Qh rm) (F0 m pc ls [.int v]) := by
  obtain ⟨hx, hb, hr, hts, hown, hlocks, hml, hin⟩ := E
  refine W.widen hc hs ?_
  exact W.zret hx hb hr (by rcases hn with rfl | rfl <;> rfl) (fun t ht hW => ⟨_, rfl, hS.F ht, by rw [ht]; exact hq⟩) hS.2.2 hdg
theorem zrv (E : zE p s m meth c av own nm cc n none) (hdg : decode cc pc = .ok (.return_, 1)) (hS : va_S A s.heap H locs) (hc : cells ≤ rm.cells) (hs : slots ≤ rm.slots) (hq : Qh none H) : W p l e R s m av below meth c H locs cells slots (zQ below s av A Qh rm) (F0 m pc ls []) := by
  obtain ⟨hx, hb, hr, hts, hown, hlocks, hml, hin⟩ := E
  refine W.widen hc hs ?_
  exact W.vret hx hb hr (fun t ht hW => ⟨_, rfl, hS.F ht, by rw [ht]; exact hq⟩) hS.2.2 hdg
theorem zra {rt : FieldType} (E : zE p s m meth c av own nm cc n (some rt)) {v : Option Nat} (hrt : (∃ q, rt = .object q) ∨ ∃ t, rt = .array t) (hdg : decode cc pc = .ok (.areturn, 1)) (hS : va_S A s.heap H locs) (hc : cells ≤ rm.cells) (hs : slots ≤ rm.slots) (hq : Qh (some (va_rf v)) H) : W p l e R s m av below meth c H locs cells slots (zQ below s av A Qh rm) (F0 m pc ls [va_rf v]) := by
  obtain ⟨hx, hb, hr, hts, hown, hlocks, hml, hin⟩ := E
  refine W.widen hc hs ?_
  exact W.aret hx hb hr hrt (va_rf_or v) (fun t ht hW => ⟨_, rfl, hS.F ht, by rw [ht]; exact hq⟩) hS.2.2 hdg
theorem zrl (E : zE p s m meth c av own nm cc n (some .long)) {v : Int64} (hdg : decode cc pc = .ok (.lreturn, 1)) (hS : va_S A s.heap H locs) (hc : cells ≤ rm.cells) (hs : slots ≤ rm.slots) (hq : Qh (some (.long v)) H) : W p l e R s m av below meth c H locs cells slots (zQ below s av A Qh rm) (F0 m pc ls [.long v]) := by
  obtain ⟨hx, hb, hr, hts, hown, hlocks, hml, hin⟩ := E
  refine W.widen hc hs ?_
  exact W.lret hx hb hr (fun t ht hW => ⟨_, rfl, hS.F ht, by rw [ht]; exact hq⟩) hS.2.2 hdg
end ZR
/-! calls -/
section ZC
variable {p : Program} {l : Launch} {e : Env} {R : Room} {s : State} {m : MethodId} {av : Array Value} {below : List Frame} {meth : Method} {c : Code} {H : Heap} {locs : List Loc} {cells slots : Nat} {Q : State → Prop} {own nm : String} {cc : ByteArray} {nL : Nat} {r : Option FieldType} {pc : Nat} {ls : Array Slot} {st0 : List Value}
variable {D : va_G} {cs : ClassId × ClassId × ClassId × ClassId} {C : String} {idx : Nat} {y : MethodName} {cc' : ByteArray} {n' : Nat} {r' : Option FieldType} {rm : Room} {b : Nat} {P : Heap → Prop} {A' A0 : Nat → Prop} {Qh : Option Value → Heap → Prop} {H0 : Heap}
def zKK (p : Program) (l : Launch) (e : Env) (R : Room) (s : State) (m : MethodId) (av : Array Value) (below : List Frame) (meth : Method) (c : Code) (H : Heap) (cells slots : Nat) (Q : State → Prop) (rm : Room) (A' A0 : Nat → Prop) (H0 : Heap) (Qh : Option Value → Heap → Prop) (pc : Nat) (ls : Array Slot) (rest : List Value) : Prop :=
  ∀ (v : Option Value) (H1 : Heap) (locs1 : List Loc), Qh v H1 → H.size ≤ H1.size → (∀ q : Nat, q < H.size → ¬ A' q → H1[q]? = H[q]?) → va_S A0 H0 H1 locs1 → W p l e R s m av below meth c H1 locs1 (cells + rm.cells) (slots + rm.slots) Q (F0 m pc ls (v.toList ++ rest))
theorem zgo {rest : List Value} (hr : va_Run p l e R s m av below meth c H locs cells slots rm.cells rm.slots (F0 m pc ls st0) rest (fun (st : State) (oc : Outcome) (t : State) => ∃ v, oc = .returned v ∧ va_F A' st t ∧ Qh v t.heap) A') (hS : va_S A0 H0 H locs) (hA : ∀ q, A' q → A0 q)
    (kk : zKK p l e R s m av below meth c H cells slots Q rm A' A0 H0 Qh (pc + 3) ls rest) : W p l e R s m av below meth c H locs cells slots Q (F0 m pc ls st0) := by
  intro T hT X
  obtain ⟨v, st₀, t, T', L, h0, X', hL, e1, e2, ⟨v', hv, ⟨hz, hk⟩, hq⟩, st⟩ := hr T hT X
  cases hv
  rw [h0] at hz hk
  obtain ⟨t2, a1, b1⟩ := kk v T'.heap (locs ++ L) (by rw [e1]; exact hq) (by rw [e1]; exact hz) (fun q h1 h2 => by rw [e1]; exact hk q h1 h2)
    ⟨Nat.le_trans hS.1 (by rw [e1]; exact hz), fun q h1 h2 => by rw [e1, hk q (Nat.lt_of_lt_of_le h1 hS.1) (fun z => h2 (hA q z))]; exact hS.2.1 q h1 h2, fun q hq => by
      rcases List.mem_append.mp hq with h | h
      · exact hS.2.2 q h
      · exact hA _ (hL q h)⟩ T' rfl X'
  exact ⟨t2, st t2 a1, b1⟩
theorem zblind {av' : List Value} : FrameBlind (va_Pc av' (fun U => zK D cs U ∧ P U.heap)) := fun a U g mk h => ⟨h.1, h.2.1.same rfl, h.2.2⟩
theorem zpre {av' : List Value} (hK : zK D cs s) (hP : P H) : ∀ U : State, U.heap = H → s.WarmedH U.vm → va_Pc av' (fun U => zK D cs U ∧ P U.heap) av'.toArray U := fun U hU hW => ⟨rfl, hK.warm hW, by rw [hU]; exact hP⟩
theorem zcV (As rest : List Value) (E : zE p s m meth c av own nm cc nL r) (hM : zMet l D cs y cc' n' r' rm (.ref b :: As) P A' Qh) (hdg : decode cc pc = .ok (.invokevirtual idx, 3))
    (m1 : Cond.methodLink own idx y ∈ zt) (m2 : Cond.instanceMethod y ∈ zt) (m3 : Cond.selects C y y ∈ zt) (m4 : Cond.initialized C ∈ zt) (m5 : Cond.code y cc' n' r' ∈ zt)
    (hd : y.cls = C ∧ y.cls ≠ "java/lang/invoke/MethodHandle" ∧ y.cls ≠ "java/lang/invoke/VarHandle" ∧ (parseMethodDescriptor y.desc).map (fun d => d.parameters.length) = some As.length)
    (hR : rm.frames + 1 ≤ R.frames ∧ 8 + (n' + 11) + rm.locals ≤ R.locals) (hf : cells + rm.cells ≤ R.cells ∧ slots + rm.slots ≤ R.slots) (hst : st0 = As.reverse ++ .ref b :: rest) (hw : (rest.map fun v => v.category).sum ≤ 8) (hl : ls.size = nL)
    (hrec : ∃ cell : Cell, H[b]? = some cell ∧ cell.vm.isStatics = false ∧ s.vm.findClass C = some cell.cls) (hK : zK D cs s) (hP : P H) (hS : va_S A0 H0 H locs) (hA : ∀ q, A' q → A0 q)
    (kk : zKK p l e R s m av below meth c H cells slots Q rm A' A0 H0 Qh (pc + 3) ls rest) : W p l e R s m av below meth c H locs cells slots Q (F0 m pc ls st0) := by
  obtain ⟨hx, hb, hr, hts, hown, hlocks, hml, hin⟩ := E
  refine zgo (va_runV (As := As) (rest := rest) (n := As.length) ⟨hx, hb, hml, hown, hts⟩ hM (cwV As.length hts (zt_all ?_) rfl rfl rfl hd hR) ⟨zblind, hrec, zpre hK hP⟩ rfl rfl hl hst (lv_room hw) hdg hf) hS hA kk
  intro w hw
  simp only [wsV, List.cons_append, List.nil_append, List.mem_cons] at hw
  rcases hw with rfl | rfl | rfl | rfl | rfl | h
  · exact m1
  · exact m2
  · exact m3
  · exact m4
  · exact m5
  · exact h
theorem zcS (As rest : List Value) (E : zE p s m meth c av own nm cc nL r) (hM : zMet l D cs y cc' n' r' rm As P A' Qh) (hdg : decode cc pc = .ok (.invokestatic idx, 3))
    (m1 : Cond.methodLink own idx y ∈ zt) (m2 : Cond.static y ∈ zt) (m4 : Cond.initialized y.cls ∈ zt) (m5 : Cond.code y cc' n' r' ∈ zt)
    (hd : y.cls ≠ "java/lang/invoke/MethodHandle" ∧ y.cls ≠ "java/lang/invoke/VarHandle" ∧ (parseMethodDescriptor y.desc).map (fun d => d.parameters.length) = some As.length)
    (hR : rm.frames + 1 ≤ R.frames ∧ 8 + (n' + 11) + rm.locals ≤ R.locals) (hf : cells + rm.cells ≤ R.cells ∧ slots + rm.slots ≤ R.slots) (hst : st0 = As.reverse ++ rest) (hw : (rest.map fun v => v.category).sum ≤ 8) (hl : ls.size = nL)
    (hK : zK D cs s) (hP : P H) (hS : va_S A0 H0 H locs) (hA : ∀ q, A' q → A0 q)
    (kk : zKK p l e R s m av below meth c H cells slots Q rm A' A0 H0 Qh (pc + 3) ls rest) : W p l e R s m av below meth c H locs cells slots Q (F0 m pc ls st0) := by
  obtain ⟨hx, hb, hr, hts, hown, hlocks, hml, hin⟩ := E
  refine zgo (va_runS (As := As) (rest := rest) (n := As.length) ⟨hx, hb, hml, hown, hts⟩ hM (va_cwS As.length hts (zt_all ?_) rfl rfl rfl hd hR) ⟨zblind, zpre hK hP⟩ rfl rfl hl hst (lv_room hw) hdg hf) hS hA kk
  intro w hw
  simp only [va_wsS, List.cons_append, List.nil_append, List.mem_cons] at hw
  rcases hw with rfl | rfl | rfl | rfl | h
  · exact m1
  · exact m2
  · exact m4
  · exact m5
  · exact h
theorem zcI (As rest : List Value) (E : zE p s m meth c av own nm cc nL r) (hM : zMet l D cs y cc' n' none rm (.ref b :: As) P A' Qh) (hdg : decode cc pc = .ok (.invokespecial idx, 3))
    (m1 : Cond.methodLink own idx y ∈ zt) (m2 : Cond.instanceMethod y ∈ zt) (m4 : Cond.initialized y.cls ∈ zt) (m5 : Cond.code y cc' n' none ∈ zt) (hi : y.name = "<init>")
    (hd : y.cls ≠ "java/lang/invoke/MethodHandle" ∧ y.cls ≠ "java/lang/invoke/VarHandle" ∧ (parseMethodDescriptor y.desc).map (fun d => d.parameters.length) = some As.length)
    (hR : rm.frames + 1 ≤ R.frames ∧ 8 + (n' + 11) + rm.locals ≤ R.locals) (hf : cells + rm.cells ≤ R.cells ∧ slots + rm.slots ≤ R.slots) (hst : st0 = As.reverse ++ .ref b :: rest) (hw : (rest.map fun v => v.category).sum ≤ 8) (hl : ls.size = nL)
    (hK : zK D cs s) (hP : P H) (hS : va_S A0 H0 H locs) (hA : ∀ q, A' q → A0 q)
    (kk : zKK p l e R s m av below meth c H cells slots Q rm A' A0 H0 Qh (pc + 3) ls rest) : W p l e R s m av below meth c H locs cells slots Q (F0 m pc ls st0) := by
  obtain ⟨hx, hb, hr, hts, hown, hlocks, hml, hin⟩ := E
  refine zgo (va_runI (As := As) (rest := rest) (n := As.length) ⟨hx, hb, hml, hown, hts⟩ hM ⟨callB_of As.length hts (zt_all ?_) rfl rfl rfl (hts _ m4) (hts _ m1) hd hR, hi, hts _ m2⟩ ⟨zblind, zpre hK hP⟩ rfl rfl hl hst (lv_room hw) hdg hf) hS hA kk
  intro w hw
  rcases List.mem_cons.mp hw with rfl | h
  · exact m5
  · exact h
end ZC
/-! what a call answers, by its type -/
def zqi (Q : Int32 → Heap → Prop) : Option Value → Heap → Prop := fun v H => ∃ r, v = some (.int r) ∧ Q r H
def zql (Q : Int64 → Heap → Prop) : Option Value → Heap → Prop := fun v H => ∃ r, v = some (.long r) ∧ Q r H
def zqv (Q : Heap → Prop) : Option Value → Heap → Prop := fun v H => v = none ∧ Q H
def zqr (Q : Option Nat → Heap → Prop) : Option Value → Heap → Prop := fun v H => ∃ r, v = some (va_rf r) ∧ Q r H
section ZT
variable {p : Program} {l : Launch} {e : Env} {R : Room} {s : State} {m : MethodId} {av : Array Value} {below : List Frame} {meth : Method} {c : Code} {H : Heap} {cells slots : Nat} {Q : State → Prop} {rm : Room} {A' A0 : Nat → Prop} {H0 : Heap} {pc : Nat} {ls : Array Slot} {rest : List Value}
theorem zki {Qi : Int32 → Heap → Prop} (k : ∀ (r : Int32) (H1 : Heap) (locs1 : List Loc), Qi r H1 → H.size ≤ H1.size → (∀ q : Nat, q < H.size → ¬ A' q → H1[q]? = H[q]?) → va_S A0 H0 H1 locs1 → W p l e R s m av below meth c H1 locs1 (cells + rm.cells) (slots + rm.slots) Q (F0 m pc ls (.int r :: rest))) : zKK p l e R s m av below meth c H cells slots Q rm A' A0 H0 (zqi Qi) pc ls rest := by
  rintro v H1 locs1 ⟨r, rfl, h⟩ h1 h2 h3
  exact k r H1 locs1 h h1 h2 h3
theorem zkl {Qi : Int64 → Heap → Prop} (k : ∀ (r : Int64) (H1 : Heap) (locs1 : List Loc), Qi r H1 → H.size ≤ H1.size → (∀ q : Nat, q < H.size → ¬ A' q → H1[q]? = H[q]?) → va_S A0 H0 H1 locs1 → W p l e R s m av below meth c H1 locs1 (cells + rm.cells) (slots + rm.slots) Q (F0 m pc ls (.long r :: rest))) : zKK p l e R s m av below meth c H cells slots Q rm A' A0 H0 (zql Qi) pc ls rest := by
  rintro v H1 locs1 ⟨r, rfl, h⟩ h1 h2 h3
  exact k r H1 locs1 h h1 h2 h3
theorem zkv {Qi : Heap → Prop} (k : ∀ (H1 : Heap) (locs1 : List Loc), Qi H1 → H.size ≤ H1.size → (∀ q : Nat, q < H.size → ¬ A' q → H1[q]? = H[q]?) → va_S A0 H0 H1 locs1 → W p l e R s m av below meth c H1 locs1 (cells + rm.cells) (slots + rm.slots) Q (F0 m pc ls rest)) : zKK p l e R s m av below meth c H cells slots Q rm A' A0 H0 (zqv Qi) pc ls rest := by
  rintro v H1 locs1 ⟨rfl, h⟩ h1 h2 h3
  exact k H1 locs1 h h1 h2 h3
theorem zkr {Qi : Option Nat → Heap → Prop} (k : ∀ (r : Option Nat) (H1 : Heap) (locs1 : List Loc), Qi r H1 → H.size ≤ H1.size → (∀ q : Nat, q < H.size → ¬ A' q → H1[q]? = H[q]?) → va_S A0 H0 H1 locs1 → W p l e R s m av below meth c H1 locs1 (cells + rm.cells) (slots + rm.slots) Q (F0 m pc ls (va_rf r :: rest))) : zKK p l e R s m av below meth c H cells slots Q rm A' A0 H0 (zqr Qi) pc ls rest := by
  rintro v H1 locs1 ⟨r, rfl, h⟩ h1 h2 h3
  exact k r H1 locs1 h h1 h2 h3
end ZT
