section ZCU
variable {p : Program} {l : Launch} {e : Env} {R : Room} {s : State} {m : MethodId} {av : Array Value} {below : List Frame} {meth : Method} {c : Code} {H : Heap} {locs : List Loc} {cells slots : Nat} {Q : State → Prop} {own nm : String} {cc : ByteArray} {nL : Nat} {r : Option FieldType} {pc : Nat} {ls : Array Slot} {st0 : List Value}
variable {D : va_G} {cs : ClassId × ClassId × ClassId × ClassId} {C owner : String} {idx : Nat} {x y : MethodName} {cc' : ByteArray} {n' : Nat} {r' : Option FieldType} {rm : Room} {b : Nat} {P : Heap → Prop} {A' A0 : Nat → Prop} {Qh : Option Value → Heap → Prop} {H0 : Heap}
theorem zcU (As rest : List Value) (E : zE p s m meth c av own nm cc nL r) (hM : zMet l D cs y cc' n' r' rm (.ref b :: As) P A' Qh) (hdg : decode cc pc = .ok (.invokevirtual idx, 3))
    (cw : va_CU R s av own C owner idx x y cc' n' r' (Cond.code y cc' n' r' :: zt) rm rm.cells rm.slots As.length) (hf : cells + rm.cells ≤ R.cells ∧ slots + rm.slots ≤ R.slots) (hst : st0 = As.reverse ++ .ref b :: rest) (hw : (rest.map fun v => v.category).sum ≤ 8) (hl : ls.size = nL)
    (hrec : ∃ cell : Cell, H[b]? = some cell ∧ cell.vm.isStatics = false ∧ s.vm.findClass C = some cell.cls) (hK : zK D cs s) (hP : P H) (hS : va_S A0 H0 H locs) (hA : ∀ q, A' q → A0 q)
    (kk : zKK p l e R s m av below meth c H cells slots Q rm A' A0 H0 Qh (pc + 3) ls rest) : W p l e R s m av below meth c H locs cells slots Q (F0 m pc ls st0) := by
  obtain ⟨hx, hb, hr, hts, hown, hlocks, hml, hin⟩ := E
  exact zgo (va_runU (As := As) (rest := rest) (n := As.length) ⟨hx, hb, hml, hown, hts⟩ hM cw ⟨zblind, hrec, zpre hK hP⟩ rfl rfl hl hst (lv_room hw) hdg hf) hS hA kk
theorem zcSU (As rest : List Value) (E : zE p s m meth c av own nm cc nL r) (hM : zMet l D cs y cc' n' r' rm (.ref b :: As) P A' Qh) (hdg : decode cc pc = .ok (.invokespecial idx, 3)) {cC : ClassId} (hat : ClassAt s C cC)
    (m1 : Cond.methodLink own idx y ∈ zt) (m2 : Cond.sameMethod y.cls y.cls y.name y.desc ∈ zt) (m3 : Cond.superclass own y.cls ∈ zt) (m4 : Cond.instanceMethod y ∈ zt) (m5 : Cond.initialized y.cls ∈ zt) (m6 : Cond.code y cc' n' r' ∈ zt)
    (hd : y.name ≠ "<init>" ∧ (parseMethodDescriptor y.desc).map (fun d => d.parameters.length) = some As.length) (hR : rm.frames + 1 ≤ R.frames ∧ 8 + (n' + 11) + rm.locals ≤ R.locals) (hf : cells + rm.cells ≤ R.cells ∧ slots + rm.slots ≤ R.slots) (hst : st0 = As.reverse ++ .ref b :: rest) (hw : (rest.map fun v => v.category).sum ≤ 8) (hl : ls.size = nL)
    (hrec : ∃ cell : Cell, H[b]? = some cell ∧ cell.vm.isStatics = false ∧ s.vm.findClass C = some cell.cls) (hK : zK D cs s) (hP : P H) (hS : va_S A0 H0 H locs) (hA : ∀ q, A' q → A0 q)
    (kk : zKK p l e R s m av below meth c H cells slots Q rm A' A0 H0 Qh (pc + 3) ls rest) : W p l e R s m av below meth c H locs cells slots Q (F0 m pc ls st0) := by
  obtain ⟨hx, hb, hr, hts, hown, hlocks, hml, hin⟩ := E
  refine zgo (va_runSU (As := As) (rest := rest) (n := As.length) hat ⟨hx, hb, hml, hown, hts⟩ hM (va_cwSU As.length hts (zt_all ?_) rfl rfl rfl hd hR) ⟨zblind, hrec, zpre hK hP⟩ rfl rfl hl hst (lv_room hw) hdg hf) hS hA kk
  intro w hw
  simp only [va_wsSU, List.cons_append, List.nil_append, List.mem_cons] at hw
  rcases hw with rfl | rfl | rfl | rfl | rfl | rfl | h
  · exact m1
  · exact m2
  · exact m3
  · exact m4
  · exact m5
  · exact m6
  · exact h
end ZCU
theorem zwU {own C owner : String} {idx : Nat} {x y : MethodName} {w0 : List Cond} (m1 : Cond.methodLink own idx x ∈ zt) (m2 : Cond.sameMethod x.cls owner x.name x.desc ∈ zt) (m3 : Cond.selects C x y ∈ zt) (m4 : Cond.instanceMethod y ∈ zt) (m5 : Cond.initialized y.cls ∈ zt) (m6 : ∀ w ∈ w0, w ∈ zt) : GoodIn zt (va_wsU own idx C owner x y w0) := by
  refine zt_all fun w hw => ?_
  simp only [va_wsU, List.cons_append, List.nil_append, List.mem_cons] at hw
  rcases hw with rfl | rfl | rfl | rfl | rfl | h
  · exact m1
  · exact m2
  · exact m3
  · exact m4
  · exact m5
  · exact m6 w h
theorem zwO {own C owner : String} {idx : Nat} {x y : MethodName} {w0 : List Cond} (m1 : Cond.methodLink own idx x ∈ zt) (m2 : Cond.sameMethod x.cls owner x.name x.desc ∈ zt) (m7 : Cond.instanceMethod ⟨owner, x.name, x.desc⟩ ∈ zt) (m3 : Cond.selects C x y ∈ zt) (m4 : Cond.instanceMethod y ∈ zt) (m5 : Cond.initialized y.cls ∈ zt) (m6 : ∀ w ∈ w0, w ∈ zt) : GoodIn zt (va_wsO own idx C owner x y w0) := by
  refine zt_all fun w hw => ?_
  simp only [va_wsO, List.cons_append, List.nil_append, List.mem_cons] at hw
  rcases hw with rfl | rfl | rfl | rfl | rfl | rfl | h
  · exact m1
  · exact m2
  · exact m7
  · exact m3
  · exact m4
  · exact m5
  · exact m6 w h
theorem zcons {w0 : Cond} (h : w0 ∈ zt) : ∀ w ∈ w0 :: zt, w ∈ zt := fun w hw => by
  rcases List.mem_cons.mp hw with rfl | h1
  · exact h
  · exact h1
theorem zrec {s : State} {H : Heap} {D : va_G} {cs : ClassId × ClassId × ClassId × ClassId} {ws : va_W} {a i ci : Nat} {fs : List Value} {q : vw_C} (hK : zK D cs s) (hP : va_P D zcl ws H) (hc : zcl[ci]? = some q) (he : ws[i]? = some (a, .inr (ci, fs))) : ∃ cell : Cell, H[a]? = some cell ∧ cell.vm.isStatics = false ∧ s.vm.findClass q.1 = some cell.cls := va_recv hK.1 hP hc he
def zfs (V : Nat → Nat → Int32) (k : Nat) (w : Int32) : Int32 := if w = 0 then V 0 k else if w = 1 then V 1 k else if w = 2 then 0 else if w = 3 then 0 else -1
def zfa (V : Nat → Nat → Int32) (k : Nat) (w : Int32) : Int32 := if w = 0 then V 0 k else if w = 1 then V 1 k else if w = 2 then V 2 k else if w = 3 then V 3 k else -1
theorem zout {w : Int32} (h0 : ¬ w = 0) (h1 : ¬ w = 1) (h2 : ¬ w = 2) (h3 : ¬ w = 3) : w.toInt < 0 ∨ 3 < w.toInt := by
  have a0 := lv_neT (k := 0) (a := 0) h0 (by decide)
  have a1 := lv_neT (k := 1) (a := 1) h1 (by decide)
  have a2 := lv_neT (k := 2) (a := 2) h2 (by decide)
  have a3 := lv_neT (k := 3) (a := 3) h3 (by decide)
  omega
set_option maxHeartbeats 4000000 in
set_option maxRecDepth 100000 in
theorem t_St_fact (l : Launch) (D : va_G) (cs : ClassId × ClassId × ClassId × ClassId) (A : Nat → Prop) (o : Nat × Nat × Nat × Nat) (sc lc : Nat) (fa fb : Nat → Option Nat) (ad bd : Nat → Nat) (c : Nat → Nat → Nat) (gp mo : Nat → Int32) (V : Nat → Nat → Int32) (k : Nat) (hk : k < sc) (w : Int32) (H1 : Heap) (hw : zH D A (zB o cs sc lc fa fb ad bd c gp mo V) H1) : zMet l D cs y_St_fact c_St_fact 2 (some FieldType.int) ({ frames := 0, cells := 0, slots := 0, locals := 0 } : Room) [.ref (ad k), .int w] (fun H => H = H1) (fun _ => False) (zqi fun r H => H = H1 ∧ r = zfs V k w) := by
  refine zmk (by decide) (Nat.le_of_ble_eq_true rfl) ?_
  intro p e s m below meth cd ls E hK hP0 hl
  have hS : va_S (fun _ => False) s.heap s.heap [] := va_S.rf
  subst hP0
  have hP := hw.1
  obtain ⟨hx, hb, hr, hts, hown, hlocks, hml, hin⟩ := id E
  have hl : lv_has ls 2 [(0, .ref (ad k)), (1, .int w)] := hl
  refine lv_iload_n hx hb d_St_fact_0 rfl (lv_at hl 1 rfl) ?_
  by_cases h0 : w = 0
  · skip
    refine lv_tableIn (tgt := 32) hx hb d_St_fact_1 (by rw [h0]; decide) (by rw [h0]; decide) (by rw [h0]; rfl) (by decide) ?_
    refine lv_aload_n hx hb d_St_fact_32 rfl (lv_at hl 0 rfl) ?_
    refine zs_get_at E hK hP hk w_80 (u_same (hts _ w_81)) d_St_fact_33 ?_
    refine zri E d_St_fact_36 hS (Nat.le_of_ble_eq_true rfl) (Nat.le_of_ble_eq_true rfl) ?_
    exact ⟨_, rfl, rfl, by simp [zfs, h0]⟩
  · skip
    by_cases h1 : w = 1
    · skip
      refine lv_tableIn (tgt := 37) hx hb d_St_fact_1 (by rw [h1]; decide) (by rw [h1]; decide) (by rw [h1]; rfl) (by decide) ?_
      refine lv_aload_n hx hb d_St_fact_37 rfl (lv_at hl 0 rfl) ?_
      refine zs_get_length E hK hP hk w_68 (fun _ h9 => h9) d_St_fact_38 ?_
      refine zri E d_St_fact_41 hS (Nat.le_of_ble_eq_true rfl) (Nat.le_of_ble_eq_true rfl) ?_
      exact ⟨_, rfl, rfl, by simp [zfs, h0, h1]⟩
    · skip
      by_cases h2 : w = 2
      · skip
        refine lv_tableIn (tgt := 42) hx hb d_St_fact_1 (by rw [h2]; decide) (by rw [h2]; decide) (by rw [h2]; rfl) (by decide) ?_
        refine lv_iconst (v := 0) hx hb d_St_fact_42 (by decide) ?_
        refine zri E d_St_fact_43 hS (Nat.le_of_ble_eq_true rfl) (Nat.le_of_ble_eq_true rfl) ?_
        exact ⟨_, rfl, rfl, by simp [zfs, h0, h1, h2]⟩
      · skip
        by_cases h3 : w = 3
        · skip
          refine lv_tableIn (tgt := 42) hx hb d_St_fact_1 (by rw [h3]; decide) (by rw [h3]; decide) (by rw [h3]; rfl) (by decide) ?_
          refine lv_iconst (v := 0) hx hb d_St_fact_42 (by decide) ?_
          refine zri E d_St_fact_43 hS (Nat.le_of_ble_eq_true rfl) (Nat.le_of_ble_eq_true rfl) ?_
          exact ⟨_, rfl, rfl, by simp [zfs, h0, h1, h2, h3]⟩
        · skip
          refine lv_tableOut (tgt := 44) hx hb d_St_fact_1 (zout h0 h1 h2 h3) (by decide) ?_
          refine lv_iconst (v := (-1)) hx hb d_St_fact_44 (by decide) ?_
          refine zri E d_St_fact_45 hS (Nat.le_of_ble_eq_true rfl) (Nat.le_of_ble_eq_true rfl) ?_
          exact ⟨_, rfl, rfl, by simp [zfs, h0, h1, h2, h3]⟩
set_option maxHeartbeats 4000000 in
set_option maxRecDepth 100000 in
theorem t_Br_fact (l : Launch) (D : va_G) (cs : ClassId × ClassId × ClassId × ClassId) (A : Nat → Prop) (o : Nat × Nat × Nat × Nat) (sc lc : Nat) (fa fb : Nat → Option Nat) (ad bd : Nat → Nat) (c : Nat → Nat → Nat) (gp mo : Nat → Int32) (V : Nat → Nat → Int32) (k : Nat) (hk : k < sc) (h2k : c 0 k = 2) (hv : V 2 k = 0 ∨ V 2 k = 1) (w : Int32) (H1 : Heap) (hw : zH D A (zB o cs sc lc fa fb ad bd c gp mo V) H1) : zMet l D cs y_Br_fact c_Br_fact 2 (some FieldType.int) ({ frames := 1, cells := 0, slots := 0, locals := 21 } : Room) [.ref (ad k), .int w] (fun H => H = H1) (fun _ => False) (zqi fun r H => H = H1 ∧ r = zfa V k w) := by
  refine zmk (by decide) (Nat.le_of_ble_eq_true rfl) ?_
  intro p e s m below meth cd ls E hK hP0 hl
  have hS : va_S (fun _ => False) s.heap s.heap [] := va_S.rf
  subst hP0
  have hP := hw.1
  have hc : (zB o cs sc lc fa fb ad bd c gp mo V)[4 + k]? = some (ad k, .inr (1, [.int (V 1 k), .int (nI (c 1 k)), .int (V 0 k), .int (nI (c 2 k)), va_rf (zga ad bd (gp k)), .int (mo k), .int (V 2 k), .int (V 3 k)])) := by rw [zb_s hk]; simp only [zcell, h2k, if_true]
  obtain ⟨hx, hb, hr, hts, hown, hlocks, hml, hin⟩ := id E
  have hl : lv_has ls 2 [(0, .ref (ad k)), (1, .int w)] := hl
  refine lv_iload_n hx hb d_Br_fact_0 rfl (lv_at hl 1 rfl) ?_
  by_cases h2 : w = 2
  · skip
    refine lv_lookup (tgt := 28) (off := 27) hx hb d_Br_fact_1 (by decide) (by rw [h2]; decide) (by decide) ?_
    refine lv_aload_n hx hb d_Br_fact_28 rfl (lv_at hl 0 rfl) ?_
    refine va_get (D := D) (ci := 1) (v := .int (V 2 k)) (C := "BranchLayout$Branch") (T := T_Br) (N := 8) hx hb hts in_Br hown hK.1 hP (4 + k) hc rfl 6 (by decide) (hts _ w_142) (fun _ h9 => h9) rfl d_Br_fact_29 ?_
    refine lv_if_eq (tgt := 39) hx hb d_Br_fact_32 (by decide) (fun c_1 => ?_) (fun c_1 => ?_)
    · skip
      refine lv_iconst (v := 0) hx hb d_Br_fact_39 (by decide) ?_
      refine zri E d_Br_fact_40 hS (Nat.le_of_ble_eq_true rfl) (Nat.le_of_ble_eq_true rfl) ?_
      exact ⟨_, rfl, rfl, by simp [zfa, h2, c_1]⟩
    · skip
      refine lv_iconst (v := 1) hx hb d_Br_fact_35 (by decide) ?_
      refine lv_goto (tgt := 40) hx hb d_Br_fact_36 (by decide) ?_
      refine zri E d_Br_fact_40 hS (Nat.le_of_ble_eq_true rfl) (Nat.le_of_ble_eq_true rfl) ?_
      exact ⟨_, rfl, rfl, by have e1 := hv.resolve_left c_1; simp [zfa, h2, e1]⟩
  · skip
    by_cases h3 : w = 3
    · skip
      refine lv_lookup (tgt := 41) (off := 40) hx hb d_Br_fact_1 (by decide) (by rw [h3]; decide) (by decide) ?_
      refine lv_aload_n hx hb d_Br_fact_41 rfl (lv_at hl 0 rfl) ?_
      refine va_get (D := D) (ci := 1) (v := .int (V 3 k)) (C := "BranchLayout$Branch") (T := T_Br) (N := 8) hx hb hts in_Br hown hK.1 hP (4 + k) hc rfl 7 (by decide) (hts _ w_144) (fun _ h9 => h9) rfl d_Br_fact_42 ?_
      refine zri E d_Br_fact_45 hS (Nat.le_of_ble_eq_true rfl) (Nat.le_of_ble_eq_true rfl) ?_
      exact ⟨_, rfl, rfl, by simp [zfa, h3]⟩
    · skip
      refine lv_lookup (tgt := 46) (off := 45) hx hb d_Br_fact_1 (by decide) ((lv_osw h2 (by decide)).trans ((lv_osw h3 (by decide)).trans (by simp [Op.lookupswitch.offset]))) (by decide) ?_
      refine lv_aload_n hx hb d_Br_fact_46 rfl (lv_at hl 0 rfl) ?_
      refine lv_iload_n hx hb d_Br_fact_47 rfl (lv_at hl 1 rfl) ?_
      refine zcSU [.int w] [] E (t_St_fact l D cs A o sc lc fa fb ad bd c gp mo V k hk w _ hw) d_Br_fact_48 ((hK.1.1 1 _ rfl).2) w_248 w_243 w_158 w_242 w_5 w_250 ⟨by decide, (by decide +kernel : Option.map (fun d => d.parameters.length) (parseMethodDescriptor "(I)I") = some 1)⟩ ⟨(Nat.le_of_ble_eq_true rfl), (Nat.le_of_ble_eq_true rfl)⟩ ⟨(Nat.le_of_ble_eq_true rfl), (Nat.le_of_ble_eq_true rfl)⟩ rfl (Nat.le_of_ble_eq_true rfl) hl.1 (zrec hK hP rfl hc) hK rfl hS (fun _ h => h) (zki fun r H locs hq _ _ hS => ?_)
      refine zri E d_Br_fact_51 hS (Nat.le_of_ble_eq_true rfl) (Nat.le_of_ble_eq_true rfl) ?_
      exact ⟨_, rfl, hq.1, by rw [hq.2]; simp [zfs, zfa, h2, h3]⟩
def zst (n : Nat) (x : Int32) : Bool := decide (¬ x < 0 ∧ ¬ nI n ≤ x)
theorem zst_of {n : Nat} {x : Int32} (hn : n < 2 ^ 31) (h : zst n x = true) : ∃ j, j < n ∧ x = nI j ∧ x.toNatClampNeg = j := by
  have h1 := of_decide_eq_true h
  rcases pk_ix x (n := n) hn with q | q | ⟨j, hj, rfl⟩
  · exact absurd q h1.1
  · exact absurd q h1.2
  · exact ⟨j, hj, rfl, nI_clamp (by omega)⟩
theorem zsn_t {n : Nat} {ad : Nat → Nat} {x : Int32} (h : zst n x = true) : zsn n ad x = some (ad x.toNatClampNeg) := by
  have h1 := of_decide_eq_true h
  simp only [zsn, h1.1, h1.2, if_false]
theorem zsn_f {n : Nat} {ad : Nat → Nat} {x : Int32} (h : zst n x = false) : zsn n ad x = none := by
  have h1 := of_decide_eq_false h
  by_cases h2 : x < 0
  · simp only [zsn, h2, if_true]
  · by_cases h3 : nI n ≤ x
    · simp only [zsn, h2, h3, if_true, if_false]
    · exact absurd ⟨h2, h3⟩ h1
set_option maxHeartbeats 4000000 in
set_option maxRecDepth 100000 in
theorem t_BL_statement (l : Launch) (D : va_G) (cs : ClassId × ClassId × ClassId × ClassId) (A : Nat → Prop) (o : Nat × Nat × Nat × Nat) (sc lc : Nat) (fa fb : Nat → Option Nat) (ad bd : Nat → Nat) (c : Nat → Nat → Nat) (gp mo : Nat → Int32) (V : Nat → Nat → Int32) (hI : zI sc lc c gp) (hJ : zJ sc c gp V) (hf : ∀ k, k < sc → fa k = some (ad k)) (x w : Int32) (H1 : Heap) (hw : zH D A (zB o cs sc lc fa fb ad bd c gp mo V) H1) : zMet l D cs y_BL_statement c_BL_statement 4 (some FieldType.int) ({ frames := 2, cells := 0, slots := 0, locals := 42 } : Room) [.ref o.1, .int x, .int w] (fun H => H = H1) (fun _ => False) (zqi fun r H => H = H1 ∧ r = if zst sc x then zfa V x.toNatClampNeg w else -1) := by
  refine zmk (by decide) (Nat.le_of_ble_eq_true rfl) ?_
  intro p e s m below meth cd ls E hK hP0 hl
  have hS : va_S (fun _ => False) s.heap s.heap [] := va_S.rf
  subst hP0
  have hP := hw.1
  obtain ⟨hx, hb, hr, hts, hown, hlocks, hml, hin⟩ := id E
  have hl : lv_has ls 4 [(0, .ref o.1), (1, .int x), (2, .int w)] := hl
  refine lv_aload_n hx hb d_BL_statement_0 rfl (lv_at hl 0 rfl) ?_
  refine lv_iload_n hx hb d_BL_statement_1 rfl (lv_at hl 1 rfl) ?_
  refine zcV [.int x] [] E (t_BL_statementNumbered l D cs A o sc lc fa fb ad bd c gp mo V hI.1 hf x _ hw) d_BL_statement_2 w_179 w_181 ws_BL_statementNumbered w_1 w_182 ⟨rfl, by decide +kernel, by decide +kernel, (by decide +kernel : Option.map (fun d => d.parameters.length) (parseMethodDescriptor "(I)LBranchLayout$Statement;") = some 1)⟩ ⟨(Nat.le_of_ble_eq_true rfl), (Nat.le_of_ble_eq_true rfl)⟩ ⟨(Nat.le_of_ble_eq_true rfl), (Nat.le_of_ble_eq_true rfl)⟩ rfl (Nat.le_of_ble_eq_true rfl) hl.1 (zrec hK hP (ci := 4) (i := 0) rfl (zb_x rfl)) hK rfl hS (fun _ h => h) (zkr fun r H locs hq _ _ hS => ?_)
  obtain ⟨rfl, rfl⟩ := hq
  cases hz : zst sc x with
  | false =>
    rw [zsn_f hz]
    refine lv_astore_nN (lv' := [(3, .null), (0, .ref o.1), (1, .int x), (2, .int w)]) hx hb d_BL_statement_5 rfl hl (by decide) rfl (fun ls hl => ?_)
    refine lv_aload_nN hx hb d_BL_statement_6 rfl (lv_at hl 0 rfl) ?_
    refine lv_ifnonnullN hx hb d_BL_statement_7 ?_
    refine lv_iconst (v := (-1)) hx hb d_BL_statement_10 (by decide) ?_
    refine lv_goto (tgt := 19) hx hb d_BL_statement_11 (by decide) ?_
    refine zri E d_BL_statement_19 hS (Nat.le_of_ble_eq_true rfl) (Nat.le_of_ble_eq_true rfl) ?_
    exact ⟨_, rfl, rfl, by simp⟩
  | true =>
    rw [zsn_t hz]
    obtain ⟨k, hk, ex, ek⟩ := zst_of (by have := hI.1; omega) hz
    rw [ek]
    refine lv_astore_n (lv' := [(3, .ref (ad k)), (0, .ref o.1), (1, .int x), (2, .int w)]) hx hb d_BL_statement_5 rfl hl (by decide) rfl (fun ls hl => ?_)
    refine lv_aload_n hx hb d_BL_statement_6 rfl (lv_at hl 0 rfl) ?_
    refine lv_ifnonnull (tgt := 14) hx hb d_BL_statement_7 (by decide) ?_
    refine lv_aload_n hx hb d_BL_statement_14 rfl (lv_at hl 0 rfl) ?_
    refine lv_iload_n hx hb d_BL_statement_15 rfl (lv_at hl 3 rfl) ?_
    obtain ⟨hg1, -, -, -, -, hg6⟩ := hI.2.2.1 k hk
    obtain ⟨hj1, hj2, hj3⟩ := hJ k hk
    by_cases h2k : c 0 k = 2
    · skip
      have hc : (zB o cs sc lc fa fb ad bd c gp mo V)[4 + k]? = some (ad k, .inr (1, [.int (V 1 k), .int (nI (c 1 k)), .int (V 0 k), .int (nI (c 2 k)), va_rf (zga ad bd (gp k)), .int (mo k), .int (V 2 k), .int (V 3 k)])) := by rw [zb_s hk]; simp only [zcell, h2k, if_true]
      refine zcU [.int w] [] E (t_Br_fact l D cs A o sc lc fa fb ad bd c gp mo V k hk h2k hj1 w _ hw) d_BL_statement_16 (va_cwO (C := "BranchLayout$Branch") (owner := "BranchLayout$Statement") (x := ⟨"BranchLayout$Statement", "fact", "(I)I"⟩) 1 hts (zwO w_241 w_243 w_242 w_245 w_246 w_9 (zcons w_247)) rfl rfl rfl w_250 ⟨by decide, by decide, (by decide +kernel : Option.map (fun d => d.parameters.length) (parseMethodDescriptor "(I)I") = some 1)⟩ ⟨(Nat.le_of_ble_eq_true rfl), (Nat.le_of_ble_eq_true rfl)⟩) ⟨(Nat.le_of_ble_eq_true rfl), (Nat.le_of_ble_eq_true rfl)⟩ rfl (Nat.le_of_ble_eq_true rfl) hl.1 (zrec hK hP rfl hc) hK rfl hS (fun _ h => h) (zki fun r H locs hq _ _ hS => ?_)
      refine zri E d_BL_statement_19 hS (Nat.le_of_ble_eq_true rfl) (Nat.le_of_ble_eq_true rfl) ?_
      exact ⟨_, rfl, hq.1, by rw [hq.2]; simp⟩
    · skip
      by_cases h1k : c 0 k = 1
      · skip
        have hc : (zB o cs sc lc fa fb ad bd c gp mo V)[4 + k]? = some (ad k, .inr (0, [.int (V 1 k), .int (nI (c 1 k)), .int (V 0 k), .int (nI (c 2 k))])) := by rw [zb_s hk]; simp only [zcell, h1k, if_true, if_false, show ¬ ((1 : Nat) = 2) by decide]
        have e0 := hj3 (hg6 h2k)
        have e1 := hj2 e0
        refine zcU [.int w] [] E (t_St_fact l D cs A o sc lc fa fb ad bd c gp mo V k hk w _ hw) d_BL_statement_16 (va_cwU (C := "BranchLayout$Alignment") (owner := "BranchLayout$Statement") (x := ⟨"BranchLayout$Statement", "fact", "(I)I"⟩) 1 hts (zwU w_241 w_243 w_244 w_242 w_5 (zcons w_250)) rfl rfl rfl rfl ⟨by decide, by decide, (by decide +kernel : Option.map (fun d => d.parameters.length) (parseMethodDescriptor "(I)I") = some 1)⟩ ⟨(Nat.le_of_ble_eq_true rfl), (Nat.le_of_ble_eq_true rfl)⟩) ⟨(Nat.le_of_ble_eq_true rfl), (Nat.le_of_ble_eq_true rfl)⟩ rfl (Nat.le_of_ble_eq_true rfl) hl.1 (zrec hK hP rfl hc) hK rfl hS (fun _ h => h) (zki fun r H locs hq _ _ hS => ?_)
        refine zri E d_BL_statement_19 hS (Nat.le_of_ble_eq_true rfl) (Nat.le_of_ble_eq_true rfl) ?_
        exact ⟨_, rfl, hq.1, by rw [hq.2]; simp [zfs, zfa, e0, e1]⟩
      · skip
        have hc : (zB o cs sc lc fa fb ad bd c gp mo V)[4 + k]? = some (ad k, .inr (2, [.int (V 1 k), .int (nI (c 1 k)), .int (V 0 k), .int (nI (c 2 k))])) := by rw [zb_s hk]; simp only [zcell, h2k, h1k, if_false]
        have e0 := hj3 (hg6 h2k)
        have e1 := hj2 e0
        refine zcU [.int w] [] E (t_St_fact l D cs A o sc lc fa fb ad bd c gp mo V k hk w _ hw) d_BL_statement_16 (va_cwU (C := "BranchLayout$Bytes") (owner := "BranchLayout$Statement") (x := ⟨"BranchLayout$Statement", "fact", "(I)I"⟩) 1 hts (zwU w_241 w_243 w_249 w_242 w_5 (zcons w_250)) rfl rfl rfl rfl ⟨by decide, by decide, (by decide +kernel : Option.map (fun d => d.parameters.length) (parseMethodDescriptor "(I)I") = some 1)⟩ ⟨(Nat.le_of_ble_eq_true rfl), (Nat.le_of_ble_eq_true rfl)⟩) ⟨(Nat.le_of_ble_eq_true rfl), (Nat.le_of_ble_eq_true rfl)⟩ rfl (Nat.le_of_ble_eq_true rfl) hl.1 (zrec hK hP rfl hc) hK rfl hS (fun _ h => h) (zki fun r H locs hq _ _ hS => ?_)
        refine zri E d_BL_statement_19 hS (Nat.le_of_ble_eq_true rfl) (Nat.le_of_ble_eq_true rfl) ?_
        exact ⟨_, rfl, hq.1, by rw [hq.2]; simp [zfs, zfa, e0, e1]⟩
set_option maxHeartbeats 4000000 in
set_option maxRecDepth 100000 in
theorem t_BL_size (l : Launch) (D : va_G) (cs : ClassId × ClassId × ClassId × ClassId) (A : Nat → Prop) (o : Nat × Nat × Nat × Nat) (sc lc : Nat) (fa fb : Nat → Option Nat) (ad bd : Nat → Nat) (c : Nat → Nat → Nat) (gp mo : Nat → Int32) (V : Nat → Nat → Int32) (x : Int32) (H1 : Heap) (hw : zH D A (zB o cs sc lc fa fb ad bd c gp mo V) H1) : zMet l D cs y_BL_size c_BL_size 2 (some FieldType.int) ({ frames := 1, cells := 0, slots := 0, locals := 20 } : Room) [.ref o.1, .int x] (fun H => H = H1) (fun _ => False) (zqi fun r H => H = H1 ∧ r = if zsec x then V 5 x.toNatClampNeg else -1) := by
  refine zmk (by decide) (Nat.le_of_ble_eq_true rfl) ?_
  intro p e s m below meth cd ls E hK hP0 hl
  have hS : va_S (fun _ => False) s.heap s.heap [] := va_S.rf
  subst hP0
  have hP := hw.1
  obtain ⟨hx, hb, hr, hts, hown, hlocks, hml, hin⟩ := id E
  have hl : lv_has ls 2 [(0, .ref o.1), (1, .int x)] := hl
  refine lv_iload_n hx hb d_BL_size_0 rfl (lv_at hl 1 rfl) ?_
  refine zcS [.int x] [] E (t_BL_isSection l D cs x s.heap) d_BL_size_1 w_51 w_52 w_1 w_53 ⟨by decide +kernel, by decide +kernel, (by decide +kernel : Option.map (fun d => d.parameters.length) (parseMethodDescriptor "(I)Z") = some 1)⟩ ⟨(Nat.le_of_ble_eq_true rfl), (Nat.le_of_ble_eq_true rfl)⟩ ⟨(Nat.le_of_ble_eq_true rfl), (Nat.le_of_ble_eq_true rfl)⟩ rfl (Nat.le_of_ble_eq_true rfl) hl.1 hK rfl hS (fun _ h => h.elim) (zki fun r H locs hq _ _ hS => ?_)
  obtain ⟨rfl, rfl⟩ := hq
  refine lv_if_eq (tgt := 16) hx hb d_BL_size_4 (by decide) (fun c_2 => ?_) (fun c_2 => ?_)
  · skip
    have hsec : zsec x = false := by cases hz : zsec x with | false => rfl | true => simp [hz] at c_2
    refine lv_iconst (v := (-1)) hx hb d_BL_size_16 (by decide) ?_
    refine zri E d_BL_size_17 hS (Nat.le_of_ble_eq_true rfl) (Nat.le_of_ble_eq_true rfl) ?_
    exact ⟨_, rfl, rfl, by simp [hsec]⟩
  · skip
    have hsec : zsec x = true := by cases hz : zsec x with | true => rfl | false => simp [hz] at c_2
    have hin4 : vp_in x 4 := (zin (n := 4) (N := 4) (by decide) (by decide) (of_decide_eq_true hsec).1 (Int32.not_le.mpr (of_decide_eq_true hsec).2)).1
    refine lv_aload_n hx hb d_BL_size_7 rfl (lv_at hl 0 rfl) ?_
    refine va_get (D := D) (ci := 4) (v := .ref o.2.2.2) (C := "BranchLayout") (T := T_BL) (N := 5) hx hb hts in_BL hown hK.1 hP 0 (zb_x rfl) rfl 2 (by decide) (hts _ w_25) (fun _ h9 => h9) rfl d_BL_size_8 ?_
    refine lv_iload_n hx hb d_BL_size_11 rfl (lv_at hl 1 rfl) ?_
    refine va_iald hx hb hK.1 hP 3 0 (zb_x rfl) rfl hin4 d_BL_size_12 ?_
    refine lv_goto (tgt := 17) hx hb d_BL_size_13 (by decide) ?_
    refine zri E d_BL_size_17 hS (Nat.le_of_ble_eq_true rfl) (Nat.le_of_ble_eq_true rfl) ?_
    exact ⟨_, rfl, rfl, by simp [hsec]⟩
set_option maxHeartbeats 4000000 in
set_option maxRecDepth 100000 in
theorem t_BL_place (l : Launch) (D : va_G) (cs : ClassId × ClassId × ClassId × ClassId) (A : Nat → Prop) (o : Nat × Nat × Nat × Nat) (sc lc : Nat) (fa fb : Nat → Option Nat) (ad bd : Nat → Nat) (c : Nat → Nat → Nat) (gp mo : Nat → Int32) (V : Nat → Nat → Int32) (hn : lc ≤ 1024) (hf : ∀ k, k < lc → fb k = some (bd k)) (x : Int32) (H1 : Heap) (hw : zH D A (zB o cs sc lc fa fb ad bd c gp mo V) H1) : zMet l D cs y_BL_place c_BL_place 3 (some FieldType.int) ({ frames := 1, cells := 0, slots := 0, locals := 21 } : Room) [.ref o.1, .int x] (fun H => H = H1) (fun _ => False) (zqi fun r H => H = H1 ∧ r = if zst lc x then V 4 x.toNatClampNeg else -1) := by
  refine zmk (by decide) (Nat.le_of_ble_eq_true rfl) ?_
  intro p e s m below meth cd ls E hK hP0 hl
  have hS : va_S (fun _ => False) s.heap s.heap [] := va_S.rf
  subst hP0
  have hP := hw.1
  obtain ⟨hx, hb, hr, hts, hown, hlocks, hml, hin⟩ := id E
  have hl : lv_has ls 3 [(0, .ref o.1), (1, .int x)] := hl
  refine lv_aload_n hx hb d_BL_place_0 rfl (lv_at hl 0 rfl) ?_
  refine lv_iload_n hx hb d_BL_place_1 rfl (lv_at hl 1 rfl) ?_
  refine zcV [.int x] [] E (t_BL_labelNumbered l D cs A o sc lc fa fb ad bd c gp mo V hn hf x _ hw) d_BL_place_2 w_187 w_189 ws_BL_labelNumbered w_1 w_190 ⟨rfl, by decide +kernel, by decide +kernel, (by decide +kernel : Option.map (fun d => d.parameters.length) (parseMethodDescriptor "(I)LBranchLayout$Label;") = some 1)⟩ ⟨(Nat.le_of_ble_eq_true rfl), (Nat.le_of_ble_eq_true rfl)⟩ ⟨(Nat.le_of_ble_eq_true rfl), (Nat.le_of_ble_eq_true rfl)⟩ rfl (Nat.le_of_ble_eq_true rfl) hl.1 (zrec hK hP (ci := 4) (i := 0) rfl (zb_x rfl)) hK rfl hS (fun _ h => h) (zkr fun r H locs hq _ _ hS => ?_)
  obtain ⟨rfl, rfl⟩ := hq
  cases hz : zst lc x with
  | false =>
    rw [zsn_f hz]
    refine lv_astore_nN (lv' := [(2, .null), (0, .ref o.1), (1, .int x)]) hx hb d_BL_place_5 rfl hl (by decide) rfl (fun ls hl => ?_)
    refine lv_aload_nN hx hb d_BL_place_6 rfl (lv_at hl 0 rfl) ?_
    refine lv_ifnonnullN hx hb d_BL_place_7 ?_
    refine lv_iconst (v := (-1)) hx hb d_BL_place_10 (by decide) ?_
    refine lv_goto (tgt := 18) hx hb d_BL_place_11 (by decide) ?_
    refine zri E d_BL_place_18 hS (Nat.le_of_ble_eq_true rfl) (Nat.le_of_ble_eq_true rfl) ?_
    exact ⟨_, rfl, rfl, by simp⟩
  | true =>
    rw [zsn_t hz]
    obtain ⟨j, hj, ex, ej⟩ := zst_of (by omega) hz
    rw [ej]
    refine lv_astore_n (lv' := [(2, .ref (bd j)), (0, .ref o.1), (1, .int x)]) hx hb d_BL_place_5 rfl hl (by decide) rfl (fun ls hl => ?_)
    refine lv_aload_n hx hb d_BL_place_6 rfl (lv_at hl 0 rfl) ?_
    refine lv_ifnonnull (tgt := 14) hx hb d_BL_place_7 (by decide) ?_
    refine lv_aload_n hx hb d_BL_place_14 rfl (lv_at hl 0 rfl) ?_
    refine va_get (D := D) (ci := 3) (v := .int (V 4 j)) (C := "BranchLayout$Label") (T := T_La) (N := 3) hx hb hts in_La hown hK.1 hP (4 + sc + j) (zb_l hj) rfl 1 (by decide) (hts _ w_85) (u_same (hts _ w_86)) rfl d_BL_place_15 ?_
    refine zri E d_BL_place_18 hS (Nat.le_of_ble_eq_true rfl) (Nat.le_of_ble_eq_true rfl) ?_
    exact ⟨_, rfl, rfl, by simp⟩
