/-! THE CLAIM OUT OF ONE WALK OF THE LAW'S BODY. Your part is whole_start (and what it stands on); all else here is the same for every law, but numbers. -/
def R_law : String := "BranchLayoutLaw"
def lw_P (b : Addr) (xs : List Int32) (args : Array Value) (s : State) : Prop := args = #[.ref b] ∧ s.IntsAt b xs ∧ xs.length ≤ 2048 ∧ (Jvm.Cond.and given_1 narrow_1).before args s = true
def lw_Q (_ : Array Value) (s : State) (o : Outcome) (t : State) : Prop := o = .returned (some (.int 1)) ∧ Framed s o t [] 600000 7302250
def lw_Z (below : List Frame) (a : Array Value) (s : State) : State → Prop := fun t => ∃ o, t.status = .running ∧ Ended t below o ∧ lw_Q a s o t
/-- the law's own end, with 1 on the stack, nothing written that was there before, its room as the claim has it -/
theorem lw_ret {p : Program} {l : Launch} {e : Env} {s : State} {m : MethodId} {below : List Frame} {meth : Method} {c : Code} {b : Nat} (hx : p.tables.exec = Jvm.exec) (hb : c.code = code) (hr : meth.sig.returnType = ret) (hlocks : meth.locks = false) {pc : Nat} {H : Heap} {ls : Array Slot} (hdg : decode code pc = .ok (.ireturn, 1)) : W p l e room_1 s m #[Value.ref b] below meth c H [] 600000 7302250 (lw_Z below #[Value.ref b] s) (F0 m pc ls [.int 1]) := by
  intro T hT X
  obtain ⟨fs, hret, hrun, hended, hW, hframe⟩ := X.leave (v := some (.int 1)) (hlocks := hlocks) (fun h => by rw [hr] at h; cases h)
  have hmeth' : T.vm.method? m = some meth := X.method'
  refine ⟨T.setFrames fs, ?_, .returned (some (.int 1)), hrun, hended, rfl, ⟨_, rfl⟩, hW, hframe⟩
  jvm_step X.here [X.here.top, hx, hb, hdg, hmeth', hr, ret, narrow_b1]
  (try refine ⟨rfl, ?_⟩); (try refine ⟨rfl, ?_⟩)
  first | (intro acts; rw [hret _ acts rfl rfl rfl]) | rw [hret _ _ rfl rfl rfl]
  exact Steps.refl _
/-- what holds at the law's entry: the machine, the code, the tables' words (any of lw_tbl by 'hts w (by decide +kernel)'), the script of L ints xs at the cell b, what the Statement gives of the start (any of its parts by flat_of_before) -/
def lw_At (p : Program) (s : State) (m : MethodId) (meth : Method) (c : Code) (b L : Nat) (xs : Nat → Int32) : Prop :=
  p.tables.exec = Jvm.exec ∧ c.code = code ∧ meth.sig.returnType = ret ∧ c.maxLocals = 4 ∧ s.vm.findClass R_law = some m.cls ∧ (∀ w ∈ lw_tbl, w.before #[Value.ref b] s = true) ∧ va_X b L xs s s.heap ∧ b < s.heap.size ∧ meth.locks = false ∧ (Jvm.Cond.and given_1 narrow_1).before #[Value.ref b] s = true
def zOk (D : va_G) (Wx : (Nat → Prop) → Heap → Prop) : Prop := ∀ A H, Wx A H → ∃ ws, zH D A ws H ∧ ∀ A2 H2, zH D A2 ws H2 → Wx A2 H2
theorem zOk_C {D : va_G} {o : Nat × Nat × Nat × Nat} {cs : ClassId × ClassId × ClassId × ClassId} {sc lc : Nat} {c : Nat → Nat → Nat} {gp mo : Nat → Int32} {V : Nat → Nat → Int32} : zOk D (fun A H => zCW D A o cs sc lc c gp mo V H) := fun A H ⟨fa, fb, ad, bd, h1, h2, h3⟩ => ⟨_, h3, fun A2 H2 h => ⟨fa, fb, ad, bd, h1, h2, h⟩⟩
theorem zOk_R {D : va_G} {q : Nat → Nat} {cs : ClassId × ClassId × ClassId × ClassId} {sc lc : Nat} {c : Nat → Nat → Nat} {gp mo : Nat → Int32} {V : Nat → Nat → Int32} : zOk D (fun A H => zRW D A q cs sc lc c gp mo V H) := fun A H ⟨th, R, h1, h2⟩ => ⟨_, h2, fun A2 H2 h => ⟨th, R, h1, h⟩⟩
/-- two systems side by side -/
def zPr (s : State) (Wc Wr : (Nat → Prop) → Heap → Prop) (H : Heap) : Prop := ∃ Ac Ar : Nat → Prop, (∀ x, Ac x → ¬ Ar x) ∧ (∀ x, Ac x ∨ Ar x → s.heap.size ≤ x ∧ x < H.size) ∧ Wc Ac H ∧ Wr Ar H
theorem zPr_swap {s : State} {Wc Wr : (Nat → Prop) → Heap → Prop} {H : Heap} (h : zPr s Wc Wr H) : zPr s Wr Wc H := by
  obtain ⟨Ac, Ar, h1, h2, h3, h4⟩ := h
  exact ⟨Ar, Ac, fun x q1 q2 => h1 x q2 q1, fun x q => h2 x q.symm, h4, h3⟩
theorem zPr_C {D : va_G} {s : State} {Wc Wr : (Nat → Prop) → Heap → Prop} {H : Heap} (hs : s.heap.size ≤ H.size) (hc : zOk D Wc) (hr : zOk D Wr) (h : zPr s Wc Wr H) : ∃ A1 : Nat → Prop, Wc A1 H ∧ (∀ q, H.size ≤ q → A1 q) ∧ (∀ q, A1 q → s.heap.size ≤ q) ∧ ∀ (Wn : (Nat → Prop) → Heap → Prop) (H1 : Heap), zOk D Wn → H.size ≤ H1.size → (∀ q : Nat, q < H.size → ¬ A1 q → H1[q]? = H[q]?) → Wn A1 H1 → zPr s Wn Wr H1 := by
  obtain ⟨Ac, Ar, h1, h2, h3, h4⟩ := h
  refine ⟨fun x => Ac x ∨ H.size ≤ x, ?_, fun q hq => Or.inr hq, fun q hq => ?_, fun Wn H1 hn hz hk hw => ?_⟩
  · obtain ⟨ws, g1, g2⟩ := hc Ac H h3
    exact g2 _ H ⟨g1.1, g1.2.weaken (fun _ _ _ q => Or.inl q)⟩
  · rcases hq with q1 | q1
    · exact (h2 q (Or.inl q1)).1
    · omega
  · obtain ⟨ws, g1, g2⟩ := hn _ H1 hw
    obtain ⟨wr, k1, k2⟩ := hr Ar H h4
    refine ⟨fun x => (Ac x ∨ H.size ≤ x) ∧ x < H1.size, Ar, fun x q1 q2 => ?_, fun x q1 => ?_, g2 _ H1 ⟨g1.1, g1.2.1, fun k q hq => ⟨g1.2.2 k q hq, (g1.1 k q hq).lt⟩⟩, k2 Ar H1 ⟨k1.1.kept (fun k q hq => ?_), k1.2⟩⟩
    · rcases q1.1 with q3 | q3
      · exact h1 x q3 q2
      · have := (h2 x (Or.inr q2)).2
        omega
    · rcases q1 with ⟨q3 | q3, q4⟩ | q3
      · exact ⟨(h2 x (Or.inl q3)).1, q4⟩
      · exact ⟨by omega, q4⟩
      · have := h2 x (Or.inr q3)
        exact ⟨this.1, by omega⟩
    · have ha := k1.2.2 k q hq
      have hb := (h2 q.1 (Or.inr ha)).2
      refine hk q.1 hb (fun z => ?_)
      rcases z with z | z
      · exact h1 q.1 z ha
      · omega
theorem zCW_rec {D : va_G} {s : State} {H : Heap} {A : Nat → Prop} {o : Nat × Nat × Nat × Nat} {cs : ClassId × ClassId × ClassId × ClassId} {sc lc : Nat} {c : Nat → Nat → Nat} {gp mo : Nat → Int32} {V : Nat → Nat → Int32} (hK : zK D cs s) (h : zCW D A o cs sc lc c gp mo V H) : ∃ cell : Cell, H[o.1]? = some cell ∧ cell.vm.isStatics = false ∧ s.vm.findClass "BranchLayout" = some cell.cls := by
  obtain ⟨fa, fb, ad, bd, h1, h2, h3⟩ := h
  exact zrec (ci := 4) (i := 0) hK h3.1 rfl (zb_x rfl)
theorem zRW_rec {D : va_G} {s : State} {H : Heap} {A : Nat → Prop} {q : Nat → Nat} {cs : ClassId × ClassId × ClassId × ClassId} {sc lc : Nat} {c : Nat → Nat → Nat} {gp mo : Nat → Int32} {V : Nat → Nat → Int32} (hK : zK D cs s) (h : zRW D A q cs sc lc c gp mo V H) : ∃ cell : Cell, H[q 0]? = some cell ∧ cell.vm.isStatics = false ∧ s.vm.findClass "BranchLayoutModel" = some cell.cls := by
  obtain ⟨th, R, h1, h2⟩ := h
  exact zrec (ci := 5) (i := 0) hK h2.1 rfl rfl
theorem zI_clear {c : Nat → Nat → Nat} {gp : Nat → Int32} : zI 0 0 c gp := ⟨by decide, by decide, fun k hk => absurd hk (Nat.not_lt_zero k), fun k hk => absurd hk (Nat.not_lt_zero k), fun i j _ hj => absurd hj (Nat.not_lt_zero j)⟩
theorem zJ_clear {c : Nat → Nat → Nat} {gp : Nat → Int32} {V : Nat → Nat → Int32} : zJ 0 c gp V := fun k hk => absurd hk (Nat.not_lt_zero k)
theorem zpse_valid {sc lc u : Nat} {c : Nat → Nat → Nat} {p : Int32} (hs : sc ≤ 4096) (hl : lc ≤ 1024) (h : zpse sc lc c p = some u) : zvalid sc lc p ∧ ¬ p = -1 := by
  cases hp : zpn sc lc id id p with
  | none => rw [zpn_none hp] at h; cases h
  | some a =>
    obtain ⟨g1, g2, -⟩ := zpn_some (c := c) hs hl hp
    refine ⟨g2, fun q => ?_⟩
    rw [q] at g1
    simp [zga] at g1
theorem zI_go {sc lc : Nat} {c : Nat → Nat → Nat} {gp : Nat → Int32} {x pl : Int32} (hI : zI sc lc c gp) (h : zgoc sc lc c x pl) : zI sc lc c (upd gp x.toNatClampNeg pl) := by
  obtain ⟨h1, h2, h3⟩ := h
  obtain ⟨v1, v2⟩ := zpse_valid hI.1 hI.2.1 h3
  refine ⟨hI.1, hI.2.1, fun k hk => ?_, hI.2.2.2.1, hI.2.2.2.2⟩
  obtain ⟨a1, a2, a3, a4, a5, a6⟩ := hI.2.2.1 k hk
  refine ⟨a1, a2, a3, a4, ?_, fun q => ?_⟩
  · by_cases hx : k = x.toNatClampNeg
    · rw [upd, if_pos hx]; exact v1
    · rw [upd, if_neg hx]; exact a5
  · by_cases hx : k = x.toNatClampNeg
    · rw [hx] at q; exact absurd h2 q
    · rw [upd, if_neg hx]; exact a6 q
theorem zJ_go {sc lc : Nat} {c : Nat → Nat → Nat} {gp : Nat → Int32} {V : Nat → Nat → Int32} {x pl : Int32} (hI : zI sc lc c gp) (h : zgoc sc lc c x pl) (hJ : zJ sc c gp V) : zJ sc c (upd gp x.toNatClampNeg pl) V := by
  obtain ⟨h1, h2, h3⟩ := h
  obtain ⟨v1, v2⟩ := zpse_valid hI.1 hI.2.1 h3
  intro k hk
  obtain ⟨a1, a2, a3⟩ := hJ k hk
  refine ⟨a1, a2, fun q => ?_⟩
  by_cases hx : k = x.toNatClampNeg
  · rw [upd, if_pos hx] at q; exact absurd q v2
  · rw [upd, if_neg hx] at q; exact a3 q
set_option maxHeartbeats 4000000 in
set_option maxRecDepth 100000 in
theorem law_loop {p : Program} {l : Launch} {e : Env} {s : State} {m : MethodId} {below : List Frame} {meth : Method} {cd : Code} {D : va_G} {cs : ClassId × ClassId × ClassId × ClassId} {b L : Nat} {xs : Nat → Int32} (o : Nat × Nat × Nat × Nat) (q : Nat → Nat) (hL : L ≤ 2048) (CC : lw_At p s m meth cd b L xs) (hK : zK D cs s) :
    ∀ (n it sc lc : Nat) (c : Nat → Nat → Nat) (gp mo : Nat → Int32) (V : Nat → Nat → Int32) (H : Heap) (locs : List Loc) (ls : Array Slot), it ≤ 512 → 513 ≤ it + n → zI sc lc c gp → zJ sc c gp V → zPr s (fun A H => zCW D A o cs sc lc c gp mo V H) (fun A H => zRW D A q cs sc lc c gp mo V H) H → va_S (fun x : Nat => s.heap.size ≤ x) s.heap H locs → lv_has ls 4 [(3, .int (nI (4 * it))), (2, .ref (q 0)), (1, .ref o.1), (0, .ref b)] → W p l e room_1 s m #[Value.ref b] below meth cd H locs (19 + it) (49182 + 8 * it) (lw_Z below #[Value.ref b] s) (F0 m 18 ls []) := by
  obtain ⟨hx, hb, hr, hml, hown, hts0, hX, hbl, hlocks, hgv⟩ := CC
  have hbA : ¬ (fun x : Nat => s.heap.size ≤ x) b := Nat.not_le.mpr hbl
  have hts : ∀ w ∈ zt, w.before #[Value.ref b] s = true := fun w h => hts0 w (zt_of h)
  have E : zE p s m meth cd #[Value.ref b] "BranchLayoutLaw" meth.name c_Lw_law 4 ret := ⟨hx, hb, hr, hts, hown, hlocks, hml, rfl⟩
  intro n
  induction n with
  | zero => intro it sc lc c gp mo V H locs ls h1 h2; omega
  | succ n ih =>
    intro it sc lc c gp mo V H locs ls hit hn hI hJ hPr hS hl
    have e4 : nI (4 * it) + Int32.ofInt 4 = nI (4 * (it + 1)) := by rw [show Int32.ofInt 4 = nI 4 from by decide, nI_add]; rfl
    have ei1 : nI (4 * it) + 1 = nI (4 * it + 1) := nI_1 _
    have ei2 : nI (4 * it) + 2 = nI (4 * it + 2) := by rw [show (2 : Int32) = nI 2 from by decide, nI_add]
    have ei3 : nI (4 * it) + 3 = nI (4 * it + 3) := by rw [show (3 : Int32) = nI 3 from by decide, nI_add]
    have ecmp : nI L - 4 < nI (4 * it) ↔ L < 4 * it + 4 := by
      rw [show (4 : Int32) = nI 4 from by decide, Int32.lt_iff_toInt_lt, pk_sub_toInt (by omega) (by decide), nI_toInt (by omega)]
      omega
    refine lv_iload_n hx hb d_Lw_law_18 rfl (lv_at hl 0 rfl) ?_
    refine lv_aload_n hx hb d_Lw_law_19 rfl (lv_at hl 3 rfl) ?_
    refine va_slen hx hb hX hbl hbA hS d_Lw_law_20 ?_
    refine lv_iconst (v := 4) hx hb d_Lw_law_21 (by decide) ?_
    refine lv_isub hx hb d_Lw_law_22 ?_
    refine lv_icmp_gt (tgt := 362) hx hb d_Lw_law_23 (by decide) (fun c_1 => ?_) (fun c_1 => ?_)
    · skip
      refine lv_iconst (v := 1) hx hb d_Lw_law_362 (by decide) ?_
      refine va_forget (fun q hq => hS.2.2 q hq) ?_
      refine W.widen (k := 600000) (n := 7302250) (by omega) (by omega) ?_
      exact lw_ret hx hb hr hlocks d_Lw_law_363
    · skip
      have hlt : 4 * it + 4 ≤ L := Nat.le_of_not_lt fun q => c_1 (ecmp.mpr q)
      refine lv_aload_n hx hb d_Lw_law_26 rfl (lv_at hl 3 rfl) ?_
      refine lv_iload_n hx hb d_Lw_law_27 rfl (lv_at hl 0 rfl) ?_
      refine va_sld hx hb hX hbl hbA hS (vp_in_nI (show 4 * it < L by omega) (by omega)) d_Lw_law_28 ?_
      rw [nI_clamp (show 4 * it < 2 ^ 31 by omega)]
      refine lv_bipush (v := 15) hx hb d_Lw_law_29 (by decide) ?_
      refine lv_iand hx hb d_Lw_law_31 ?_
      obtain ⟨j, hj, ej⟩ := pk_andE (xs (4 * it)) (m := 15) 4 (by decide)
      rw [ej]
      have tl : ∀ (sc lc : Nat) (c : Nat → Nat → Nat) (gp mo : Nat → Int32) (V : Nat → Nat → Int32) (H : Heap) (locs : List Loc), zI sc lc c gp → zJ sc c gp V → zPr s (fun A H => zCW D A o cs sc lc c gp mo V H) (fun A H => zRW D A q cs sc lc c gp mo V H) H → va_S (fun x : Nat => s.heap.size ≤ x) s.heap H locs → W p l e room_1 s m #[Value.ref b] below meth cd H locs (19 + (it + 1)) (49182 + 8 * (it + 1)) (lw_Z below #[Value.ref b] s) (F0 m 356 ls []) := by
        intro sc lc c gp mo V H locs hI hJ hPr hS
        refine lv_iinc (v := nI (4 * (it + 1))) (lv' := [(3, .int (nI (4 * (it + 1)))), (2, .ref (q 0)), (1, .ref o.1), (0, .ref b)]) hx hb d_Lw_law_356 hl (k := 0) rfl e4 (by decide) rfl (fun ls hl => ?_)
        refine lv_goto (tgt := 18) hx hb d_Lw_law_359 (by decide) ?_
        exact ih (it + 1) sc lc c gp mo V _ _ ls (by omega) (by omega) hI hJ hPr hS hl
      have tle : ∀ (r1 r2 : Int32) (pc : Nat) (off : Int), r1 = r2 → decode c_Lw_law pc = .ok (.if_icmp .eq off, 3) → (pc : Int) + off = ((356 : Nat) : Int) → ∀ (sc lc : Nat) (c : Nat → Nat → Nat) (gp mo : Nat → Int32) (V : Nat → Nat → Int32) (H : Heap) (locs : List Loc), zI sc lc c gp → zJ sc c gp V → zPr s (fun A H => zCW D A o cs sc lc c gp mo V H) (fun A H => zRW D A q cs sc lc c gp mo V H) H → va_S (fun x : Nat => s.heap.size ≤ x) s.heap H locs → W p l e room_1 s m #[Value.ref b] below meth cd H locs (19 + (it + 1)) (49182 + 8 * (it + 1)) (lw_Z below #[Value.ref b] s) (F0 m pc ls [.int r2, .int r1]) := by
        intro r1 r2 pc off er hd ht sc lc c gp mo V H locs hI hJ hPr hS
        refine lv_icmp_eq (tgt := 356) hx hb hd ht (fun _ => ?_) (fun q => absurd er q)
        exact tl sc lc c gp mo V H locs hI hJ hPr hS
      have hjc : j = 0 ∨ j = 1 ∨ j = 2 ∨ j = 3 ∨ j = 4 ∨ j = 5 ∨ j = 6 ∨ j = 7 ∨ j = 8 ∨ j = 9 ∨ 10 ≤ j := by omega
      rcases hjc with rfl | rfl | rfl | rfl | rfl | rfl | rfl | rfl | rfl | rfl | hj10
      · skip
        refine lv_tableIn (tgt := 88) (off := 56) hx hb d_Lw_law_32 (by decide) (by decide) (by decide) (by decide) ?_
        refine lv_aload_n hx hb d_Lw_law_88 rfl (lv_at hl 2 rfl) ?_
        obtain ⟨A1, hW1, hA1, hA1s, hback⟩ := zPr_C (D := D) hS.1 zOk_C zOk_R hPr
        refine zcV [] [] E (t_BL_clear l D cs A1 o sc lc c gp mo V hI) d_Lw_law_89 w_40 w_41 w_42 w_1 w_43 ⟨rfl, by decide +kernel, by decide +kernel, (by decide +kernel : Option.map (fun d => d.parameters.length) (parseMethodDescriptor "()V") = some 0)⟩ ⟨(Nat.le_of_ble_eq_true rfl), (Nat.le_of_ble_eq_true rfl)⟩ ⟨by show 19 + it + 0 ≤ 600000; omega, by show 49182 + 8 * it + 0 ≤ 7302250; omega⟩ rfl (Nat.le_of_ble_eq_true rfl) hl.1 (zCW_rec hK hW1) hK hW1 hS hA1s (zkv fun H1 locs hq1 hz1 hk1 hS => ?_)
        refine W.widen (k := 19 + (it + 1)) (n := 49182 + 8 * (it + 1)) (by show 19 + it + 0 ≤ _; omega) (by show 49182 + 8 * it + 0 ≤ _; omega) ?_
        have hPr1 := hback (fun A H => zCW D A o cs 0 0 c gp mo (zfl V 0) H) H1 zOk_C hz1 hk1 hq1
        refine lv_aload_n hx hb d_Lw_law_92 rfl (lv_at hl 1 rfl) ?_
        obtain ⟨A2, hW2, hA2, hA2s, hback2⟩ := zPr_C (D := D) hS.1 zOk_R zOk_C (zPr_swap hPr1)
        refine zcV [] [] E (t_Mo_clear l D cs A2 q sc lc c gp mo V hI) d_Lw_law_93 w_318 w_319 w_320 w_2 w_321 ⟨rfl, by decide +kernel, by decide +kernel, (by decide +kernel : Option.map (fun d => d.parameters.length) (parseMethodDescriptor "()V") = some 0)⟩ ⟨(Nat.le_of_ble_eq_true rfl), (Nat.le_of_ble_eq_true rfl)⟩ ⟨by show 19 + (it + 1) + 0 ≤ 600000; omega, by show 49182 + 8 * (it + 1) + 0 ≤ 7302250; omega⟩ rfl (Nat.le_of_ble_eq_true rfl) hl.1 (zRW_rec hK hW2) hK hW2 hS hA2s (zkv fun H2 locs hq2 hz2 hk2 hS => ?_)
        refine W.widen (k := 19 + (it + 1)) (n := 49182 + 8 * (it + 1)) (by show 19 + (it + 1) + 0 ≤ _; omega) (by show 49182 + 8 * (it + 1) + 0 ≤ _; omega) ?_
        refine lv_goto (tgt := 356) hx hb d_Lw_law_96 (by decide) ?_
        exact tl 0 0 c gp mo (zfl V 0) _ _ zI_clear zJ_clear (zPr_swap (hback2 (fun A H => zRW D A q cs 0 0 c gp mo (zfl V 0) H) H2 zOk_R hz2 hk2 hq2)) hS
      · skip
        refine lv_tableIn (tgt := 99) (off := 67) hx hb d_Lw_law_32 (by decide) (by decide) (by decide) (by decide) ?_
        refine lv_aload_n hx hb d_Lw_law_99 rfl (lv_at hl 2 rfl) ?_
        refine lv_aload_n hx hb d_Lw_law_100 rfl (lv_at hl 3 rfl) ?_
        refine lv_iload_n hx hb d_Lw_law_101 rfl (lv_at hl 0 rfl) ?_
        refine lv_iconst (v := 1) hx hb d_Lw_law_102 (by decide) ?_
        refine lv_iadd hx hb d_Lw_law_103 ?_
        rw [ei1]
        refine va_sld hx hb hX hbl hbA hS (vp_in_nI (show 4 * it + 1 < L by omega) (by omega)) d_Lw_law_104 ?_
        rw [nI_clamp (show 4 * it + 1 < 2 ^ 31 by omega)]
        refine lv_aload_n hx hb d_Lw_law_105 rfl (lv_at hl 3 rfl) ?_
        refine lv_iload_n hx hb d_Lw_law_106 rfl (lv_at hl 0 rfl) ?_
        refine lv_iconst (v := 2) hx hb d_Lw_law_107 (by decide) ?_
        refine lv_iadd hx hb d_Lw_law_108 ?_
        rw [ei2]
        refine va_sld hx hb hX hbl hbA hS (vp_in_nI (show 4 * it + 2 < L by omega) (by omega)) d_Lw_law_109 ?_
        rw [nI_clamp (show 4 * it + 2 < 2 ^ 31 by omega)]
        obtain ⟨A1, hW1, hA1, hA1s, hback⟩ := zPr_C (D := D) hS.1 zOk_C zOk_R hPr
        refine zcV [.int (xs (4 * it + 1)), .int (xs (4 * it + 2))] [] E (t_BL_bytes l D cs A1 o sc lc c gp mo V hI (xs (4 * it + 1)) (xs (4 * it + 2))) d_Lw_law_110 w_47 w_48 w_49 w_1 w_50 ⟨rfl, by decide +kernel, by decide +kernel, (by decide +kernel : Option.map (fun d => d.parameters.length) (parseMethodDescriptor "(II)I") = some 2)⟩ ⟨(Nat.le_of_ble_eq_true rfl), (Nat.le_of_ble_eq_true rfl)⟩ ⟨by show 19 + it + 1 ≤ 600000; omega, by show 49182 + 8 * it + 4 ≤ 7302250; omega⟩ rfl (Nat.le_of_ble_eq_true rfl) hl.1 (zCW_rec hK hW1) hK ⟨hW1, hA1⟩ hS hA1s (zki fun r1 H1 locs hq1 hz1 hk1 hS => ?_)
        refine W.widen (k := 19 + (it + 1)) (n := 49182 + 8 * (it + 1)) (by show 19 + it + 1 ≤ _; omega) (by show 49182 + 8 * it + 4 ≤ _; omega) ?_
        rcases hq1 with ⟨g1, g2, er1, hw1⟩ | ⟨g1, er1, hw1⟩
        · skip
          have hPr1 := hback (fun A H => zCW D A o cs (sc + 1) lc (zac c sc 0 (xs (4 * it + 1)) (xs (4 * it + 2))) (upd gp sc (-1)) (upd mo sc 0) (zaV V sc) H) H1 zOk_C hz1 hk1 hw1
          refine lv_aload_n hx hb d_Lw_law_113 rfl (lv_at hl 1 rfl) ?_
          refine lv_aload_n hx hb d_Lw_law_114 rfl (lv_at hl 3 rfl) ?_
          refine lv_iload_n hx hb d_Lw_law_115 rfl (lv_at hl 0 rfl) ?_
          refine lv_iconst (v := 1) hx hb d_Lw_law_116 (by decide) ?_
          refine lv_iadd hx hb d_Lw_law_117 ?_
          rw [ei1]
          refine va_sld hx hb hX hbl hbA hS (vp_in_nI (show 4 * it + 1 < L by omega) (by omega)) d_Lw_law_118 ?_
          rw [nI_clamp (show 4 * it + 1 < 2 ^ 31 by omega)]
          refine lv_aload_n hx hb d_Lw_law_119 rfl (lv_at hl 3 rfl) ?_
          refine lv_iload_n hx hb d_Lw_law_120 rfl (lv_at hl 0 rfl) ?_
          refine lv_iconst (v := 2) hx hb d_Lw_law_121 (by decide) ?_
          refine lv_iadd hx hb d_Lw_law_122 ?_
          rw [ei2]
          refine va_sld hx hb hX hbl hbA hS (vp_in_nI (show 4 * it + 2 < L by omega) (by omega)) d_Lw_law_123 ?_
          rw [nI_clamp (show 4 * it + 2 < 2 ^ 31 by omega)]
          obtain ⟨A2, hW2, hA2, hA2s, hback2⟩ := zPr_C (D := D) hS.1 zOk_R zOk_C (zPr_swap hPr1)
          refine zcV [.int (xs (4 * it + 1)), .int (xs (4 * it + 2))] [.int r1] E (t_Mo_bytes l D cs A2 q sc lc c gp mo V hI (xs (4 * it + 1)) (xs (4 * it + 2))) d_Lw_law_124 w_322 w_323 w_324 w_2 w_325 ⟨rfl, by decide +kernel, by decide +kernel, (by decide +kernel : Option.map (fun d => d.parameters.length) (parseMethodDescriptor "(II)I") = some 2)⟩ ⟨(Nat.le_of_ble_eq_true rfl), (Nat.le_of_ble_eq_true rfl)⟩ ⟨by show 19 + (it + 1) + 0 ≤ 600000; omega, by show 49182 + 8 * (it + 1) + 0 ≤ 7302250; omega⟩ rfl (Nat.le_of_ble_eq_true rfl) hl.1 (zRW_rec hK hW2) hK hW2 hS hA2s (zki fun r2 H2 locs hq2 hz2 hk2 hS => ?_)
          refine W.widen (k := 19 + (it + 1)) (n := 49182 + 8 * (it + 1)) (by show 19 + (it + 1) + 0 ≤ _; omega) (by show 49182 + 8 * (it + 1) + 0 ≤ _; omega) ?_
          rcases hq2 with ⟨f1, f2, er2, hw2⟩ | ⟨f1, er2, hw2⟩
          · skip
            obtain ⟨o1, o2, o3, o4, o5, o6⟩ := zgd_ok g1
            exact tle _ _ 127 229 (er1.trans er2.symm) d_Lw_law_127 (by decide) (sc + 1) lc (zac c sc 0 (xs (4 * it + 1)) (xs (4 * it + 2))) (upd gp sc (-1)) (upd mo sc 0) (zaV V sc) _ _ (zI_add hI g2 o1 o3 o5 o6) (zJ_add hJ) (zPr_swap (hback2 (fun A H => zRW D A q cs (sc + 1) lc (zac c sc 0 (xs (4 * it + 1)) (xs (4 * it + 2))) (upd gp sc (-1)) (upd mo sc 0) (zaV V sc) H) H2 zOk_R hz2 hk2 hw2)) hS
          · skip
            exact absurd ⟨g1, g2⟩ f1
        · skip
          have hPr1 := hback (fun A H => zCW D A o cs sc lc c gp mo V H) H1 zOk_C hz1 hk1 hw1
          refine lv_aload_n hx hb d_Lw_law_113 rfl (lv_at hl 1 rfl) ?_
          refine lv_aload_n hx hb d_Lw_law_114 rfl (lv_at hl 3 rfl) ?_
          refine lv_iload_n hx hb d_Lw_law_115 rfl (lv_at hl 0 rfl) ?_
          refine lv_iconst (v := 1) hx hb d_Lw_law_116 (by decide) ?_
          refine lv_iadd hx hb d_Lw_law_117 ?_
          rw [ei1]
          refine va_sld hx hb hX hbl hbA hS (vp_in_nI (show 4 * it + 1 < L by omega) (by omega)) d_Lw_law_118 ?_
          rw [nI_clamp (show 4 * it + 1 < 2 ^ 31 by omega)]
          refine lv_aload_n hx hb d_Lw_law_119 rfl (lv_at hl 3 rfl) ?_
          refine lv_iload_n hx hb d_Lw_law_120 rfl (lv_at hl 0 rfl) ?_
          refine lv_iconst (v := 2) hx hb d_Lw_law_121 (by decide) ?_
          refine lv_iadd hx hb d_Lw_law_122 ?_
          rw [ei2]
          refine va_sld hx hb hX hbl hbA hS (vp_in_nI (show 4 * it + 2 < L by omega) (by omega)) d_Lw_law_123 ?_
          rw [nI_clamp (show 4 * it + 2 < 2 ^ 31 by omega)]
          obtain ⟨A2, hW2, hA2, hA2s, hback2⟩ := zPr_C (D := D) hS.1 zOk_R zOk_C (zPr_swap hPr1)
          refine zcV [.int (xs (4 * it + 1)), .int (xs (4 * it + 2))] [.int r1] E (t_Mo_bytes l D cs A2 q sc lc c gp mo V hI (xs (4 * it + 1)) (xs (4 * it + 2))) d_Lw_law_124 w_322 w_323 w_324 w_2 w_325 ⟨rfl, by decide +kernel, by decide +kernel, (by decide +kernel : Option.map (fun d => d.parameters.length) (parseMethodDescriptor "(II)I") = some 2)⟩ ⟨(Nat.le_of_ble_eq_true rfl), (Nat.le_of_ble_eq_true rfl)⟩ ⟨by show 19 + (it + 1) + 0 ≤ 600000; omega, by show 49182 + 8 * (it + 1) + 0 ≤ 7302250; omega⟩ rfl (Nat.le_of_ble_eq_true rfl) hl.1 (zRW_rec hK hW2) hK hW2 hS hA2s (zki fun r2 H2 locs hq2 hz2 hk2 hS => ?_)
          refine W.widen (k := 19 + (it + 1)) (n := 49182 + 8 * (it + 1)) (by show 19 + (it + 1) + 0 ≤ _; omega) (by show 49182 + 8 * (it + 1) + 0 ≤ _; omega) ?_
          rcases hq2 with ⟨f1, f2, er2, hw2⟩ | ⟨f1, er2, hw2⟩
          · skip
            exact absurd ⟨f1, f2⟩ g1
          · skip
            exact tle _ _ 127 229 (er1.trans er2.symm) d_Lw_law_127 (by decide) sc lc c gp mo V _ _ hI hJ (zPr_swap (hback2 (fun A H => zRW D A q cs sc lc c gp mo V H) H2 zOk_R hz2 hk2 hw2)) hS
      · skip
        refine lv_tableIn (tgt := 132) (off := 100) hx hb d_Lw_law_32 (by decide) (by decide) (by decide) (by decide) ?_
        refine lv_aload_n hx hb d_Lw_law_132 rfl (lv_at hl 2 rfl) ?_
        refine lv_aload_n hx hb d_Lw_law_133 rfl (lv_at hl 3 rfl) ?_
        refine lv_iload_n hx hb d_Lw_law_134 rfl (lv_at hl 0 rfl) ?_
        refine lv_iconst (v := 1) hx hb d_Lw_law_135 (by decide) ?_
        refine lv_iadd hx hb d_Lw_law_136 ?_
        rw [ei1]
        refine va_sld hx hb hX hbl hbA hS (vp_in_nI (show 4 * it + 1 < L by omega) (by omega)) d_Lw_law_137 ?_
        rw [nI_clamp (show 4 * it + 1 < 2 ^ 31 by omega)]
        refine lv_aload_n hx hb d_Lw_law_138 rfl (lv_at hl 3 rfl) ?_
        refine lv_iload_n hx hb d_Lw_law_139 rfl (lv_at hl 0 rfl) ?_
        refine lv_iconst (v := 2) hx hb d_Lw_law_140 (by decide) ?_
        refine lv_iadd hx hb d_Lw_law_141 ?_
        rw [ei2]
        refine va_sld hx hb hX hbl hbA hS (vp_in_nI (show 4 * it + 2 < L by omega) (by omega)) d_Lw_law_142 ?_
        rw [nI_clamp (show 4 * it + 2 < 2 ^ 31 by omega)]
        obtain ⟨A1, hW1, hA1, hA1s, hback⟩ := zPr_C (D := D) hS.1 zOk_C zOk_R hPr
        refine zcV [.int (xs (4 * it + 1)), .int (xs (4 * it + 2))] [] E (t_BL_align l D cs A1 o sc lc c gp mo V hI (xs (4 * it + 1)) (xs (4 * it + 2))) d_Lw_law_143 w_101 w_102 w_103 w_1 w_104 ⟨rfl, by decide +kernel, by decide +kernel, (by decide +kernel : Option.map (fun d => d.parameters.length) (parseMethodDescriptor "(II)I") = some 2)⟩ ⟨(Nat.le_of_ble_eq_true rfl), (Nat.le_of_ble_eq_true rfl)⟩ ⟨by show 19 + it + 1 ≤ 600000; omega, by show 49182 + 8 * it + 4 ≤ 7302250; omega⟩ rfl (Nat.le_of_ble_eq_true rfl) hl.1 (zCW_rec hK hW1) hK ⟨hW1, hA1⟩ hS hA1s (zki fun r1 H1 locs hq1 hz1 hk1 hS => ?_)
        refine W.widen (k := 19 + (it + 1)) (n := 49182 + 8 * (it + 1)) (by show 19 + it + 1 ≤ _; omega) (by show 49182 + 8 * it + 4 ≤ _; omega) ?_
        rcases hq1 with ⟨g1, g2, er1, hw1⟩ | ⟨g1, er1, hw1⟩
        · skip
          have hPr1 := hback (fun A H => zCW D A o cs (sc + 1) lc (zac c sc 1 (xs (4 * it + 1)) (xs (4 * it + 2))) (upd gp sc (-1)) (upd mo sc 0) (zaV V sc) H) H1 zOk_C hz1 hk1 hw1
          refine lv_aload_n hx hb d_Lw_law_146 rfl (lv_at hl 1 rfl) ?_
          refine lv_aload_n hx hb d_Lw_law_147 rfl (lv_at hl 3 rfl) ?_
          refine lv_iload_n hx hb d_Lw_law_148 rfl (lv_at hl 0 rfl) ?_
          refine lv_iconst (v := 1) hx hb d_Lw_law_149 (by decide) ?_
          refine lv_iadd hx hb d_Lw_law_150 ?_
          rw [ei1]
          refine va_sld hx hb hX hbl hbA hS (vp_in_nI (show 4 * it + 1 < L by omega) (by omega)) d_Lw_law_151 ?_
          rw [nI_clamp (show 4 * it + 1 < 2 ^ 31 by omega)]
          refine lv_aload_n hx hb d_Lw_law_152 rfl (lv_at hl 3 rfl) ?_
          refine lv_iload_n hx hb d_Lw_law_153 rfl (lv_at hl 0 rfl) ?_
          refine lv_iconst (v := 2) hx hb d_Lw_law_154 (by decide) ?_
          refine lv_iadd hx hb d_Lw_law_155 ?_
          rw [ei2]
          refine va_sld hx hb hX hbl hbA hS (vp_in_nI (show 4 * it + 2 < L by omega) (by omega)) d_Lw_law_156 ?_
          rw [nI_clamp (show 4 * it + 2 < 2 ^ 31 by omega)]
          obtain ⟨A2, hW2, hA2, hA2s, hback2⟩ := zPr_C (D := D) hS.1 zOk_R zOk_C (zPr_swap hPr1)
          refine zcV [.int (xs (4 * it + 1)), .int (xs (4 * it + 2))] [.int r1] E (t_Mo_align l D cs A2 q sc lc c gp mo V hI (xs (4 * it + 1)) (xs (4 * it + 2))) d_Lw_law_157 w_331 w_332 w_333 w_2 w_334 ⟨rfl, by decide +kernel, by decide +kernel, (by decide +kernel : Option.map (fun d => d.parameters.length) (parseMethodDescriptor "(II)I") = some 2)⟩ ⟨(Nat.le_of_ble_eq_true rfl), (Nat.le_of_ble_eq_true rfl)⟩ ⟨by show 19 + (it + 1) + 0 ≤ 600000; omega, by show 49182 + 8 * (it + 1) + 0 ≤ 7302250; omega⟩ rfl (Nat.le_of_ble_eq_true rfl) hl.1 (zRW_rec hK hW2) hK hW2 hS hA2s (zki fun r2 H2 locs hq2 hz2 hk2 hS => ?_)
          refine W.widen (k := 19 + (it + 1)) (n := 49182 + 8 * (it + 1)) (by show 19 + (it + 1) + 0 ≤ _; omega) (by show 49182 + 8 * (it + 1) + 0 ≤ _; omega) ?_
          rcases hq2 with ⟨f1, f2, er2, hw2⟩ | ⟨f1, er2, hw2⟩
          · skip
            obtain ⟨o1, o2, o3, o4, o5, o6⟩ := zgd_ok g1
            exact tle _ _ 160 196 (er1.trans er2.symm) d_Lw_law_160 (by decide) (sc + 1) lc (zac c sc 1 (xs (4 * it + 1)) (xs (4 * it + 2))) (upd gp sc (-1)) (upd mo sc 0) (zaV V sc) _ _ (zI_add hI g2 o1 o3 o5 o6) (zJ_add hJ) (zPr_swap (hback2 (fun A H => zRW D A q cs (sc + 1) lc (zac c sc 1 (xs (4 * it + 1)) (xs (4 * it + 2))) (upd gp sc (-1)) (upd mo sc 0) (zaV V sc) H) H2 zOk_R hz2 hk2 hw2)) hS
          · skip
            exact absurd ⟨g1, g2⟩ f1
        · skip
          have hPr1 := hback (fun A H => zCW D A o cs sc lc c gp mo V H) H1 zOk_C hz1 hk1 hw1
          refine lv_aload_n hx hb d_Lw_law_146 rfl (lv_at hl 1 rfl) ?_
          refine lv_aload_n hx hb d_Lw_law_147 rfl (lv_at hl 3 rfl) ?_
          refine lv_iload_n hx hb d_Lw_law_148 rfl (lv_at hl 0 rfl) ?_
          refine lv_iconst (v := 1) hx hb d_Lw_law_149 (by decide) ?_
          refine lv_iadd hx hb d_Lw_law_150 ?_
          rw [ei1]
          refine va_sld hx hb hX hbl hbA hS (vp_in_nI (show 4 * it + 1 < L by omega) (by omega)) d_Lw_law_151 ?_
          rw [nI_clamp (show 4 * it + 1 < 2 ^ 31 by omega)]
          refine lv_aload_n hx hb d_Lw_law_152 rfl (lv_at hl 3 rfl) ?_
          refine lv_iload_n hx hb d_Lw_law_153 rfl (lv_at hl 0 rfl) ?_
          refine lv_iconst (v := 2) hx hb d_Lw_law_154 (by decide) ?_
          refine lv_iadd hx hb d_Lw_law_155 ?_
          rw [ei2]
          refine va_sld hx hb hX hbl hbA hS (vp_in_nI (show 4 * it + 2 < L by omega) (by omega)) d_Lw_law_156 ?_
          rw [nI_clamp (show 4 * it + 2 < 2 ^ 31 by omega)]
          obtain ⟨A2, hW2, hA2, hA2s, hback2⟩ := zPr_C (D := D) hS.1 zOk_R zOk_C (zPr_swap hPr1)
          refine zcV [.int (xs (4 * it + 1)), .int (xs (4 * it + 2))] [.int r1] E (t_Mo_align l D cs A2 q sc lc c gp mo V hI (xs (4 * it + 1)) (xs (4 * it + 2))) d_Lw_law_157 w_331 w_332 w_333 w_2 w_334 ⟨rfl, by decide +kernel, by decide +kernel, (by decide +kernel : Option.map (fun d => d.parameters.length) (parseMethodDescriptor "(II)I") = some 2)⟩ ⟨(Nat.le_of_ble_eq_true rfl), (Nat.le_of_ble_eq_true rfl)⟩ ⟨by show 19 + (it + 1) + 0 ≤ 600000; omega, by show 49182 + 8 * (it + 1) + 0 ≤ 7302250; omega⟩ rfl (Nat.le_of_ble_eq_true rfl) hl.1 (zRW_rec hK hW2) hK hW2 hS hA2s (zki fun r2 H2 locs hq2 hz2 hk2 hS => ?_)
          refine W.widen (k := 19 + (it + 1)) (n := 49182 + 8 * (it + 1)) (by show 19 + (it + 1) + 0 ≤ _; omega) (by show 49182 + 8 * (it + 1) + 0 ≤ _; omega) ?_
          rcases hq2 with ⟨f1, f2, er2, hw2⟩ | ⟨f1, er2, hw2⟩
          · skip
            exact absurd ⟨f1, f2⟩ g1
          · skip
            exact tle _ _ 160 196 (er1.trans er2.symm) d_Lw_law_160 (by decide) sc lc c gp mo V _ _ hI hJ (zPr_swap (hback2 (fun A H => zRW D A q cs sc lc c gp mo V H) H2 zOk_R hz2 hk2 hw2)) hS
      · skip
        refine lv_tableIn (tgt := 165) (off := 133) hx hb d_Lw_law_32 (by decide) (by decide) (by decide) (by decide) ?_
        refine lv_aload_n hx hb d_Lw_law_165 rfl (lv_at hl 2 rfl) ?_
        refine lv_aload_n hx hb d_Lw_law_166 rfl (lv_at hl 3 rfl) ?_
        refine lv_iload_n hx hb d_Lw_law_167 rfl (lv_at hl 0 rfl) ?_
        refine lv_iconst (v := 1) hx hb d_Lw_law_168 (by decide) ?_
        refine lv_iadd hx hb d_Lw_law_169 ?_
        rw [ei1]
        refine va_sld hx hb hX hbl hbA hS (vp_in_nI (show 4 * it + 1 < L by omega) (by omega)) d_Lw_law_170 ?_
        rw [nI_clamp (show 4 * it + 1 < 2 ^ 31 by omega)]
        refine lv_aload_n hx hb d_Lw_law_171 rfl (lv_at hl 3 rfl) ?_
        refine lv_iload_n hx hb d_Lw_law_172 rfl (lv_at hl 0 rfl) ?_
        refine lv_iconst (v := 2) hx hb d_Lw_law_173 (by decide) ?_
        refine lv_iadd hx hb d_Lw_law_174 ?_
        rw [ei2]
        refine va_sld hx hb hX hbl hbA hS (vp_in_nI (show 4 * it + 2 < L by omega) (by omega)) d_Lw_law_175 ?_
        rw [nI_clamp (show 4 * it + 2 < 2 ^ 31 by omega)]
        obtain ⟨A1, hW1, hA1, hA1s, hback⟩ := zPr_C (D := D) hS.1 zOk_C zOk_R hPr
        refine zcV [.int (xs (4 * it + 1)), .int (xs (4 * it + 2))] [] E (t_BL_branch l D cs A1 o sc lc c gp mo V hI (xs (4 * it + 1)) (xs (4 * it + 2))) d_Lw_law_176 w_127 w_128 w_129 w_1 w_130 ⟨rfl, by decide +kernel, by decide +kernel, (by decide +kernel : Option.map (fun d => d.parameters.length) (parseMethodDescriptor "(II)I") = some 2)⟩ ⟨(Nat.le_of_ble_eq_true rfl), (Nat.le_of_ble_eq_true rfl)⟩ ⟨by show 19 + it + 1 ≤ 600000; omega, by show 49182 + 8 * it + 8 ≤ 7302250; omega⟩ rfl (Nat.le_of_ble_eq_true rfl) hl.1 (zCW_rec hK hW1) hK ⟨hW1, hA1⟩ hS hA1s (zki fun r1 H1 locs hq1 hz1 hk1 hS => ?_)
        refine W.widen (k := 19 + (it + 1)) (n := 49182 + 8 * (it + 1)) (by show 19 + it + 1 ≤ _; omega) (by show 49182 + 8 * it + 8 ≤ _; omega) ?_
        rcases hq1 with ⟨g1, g2, er1, hw1⟩ | ⟨g1, er1, hw1⟩
        · skip
          have hPr1 := hback (fun A H => zCW D A o cs (sc + 1) lc (zac c sc 2 (xs (4 * it + 1)) (xs (4 * it + 2))) (upd gp sc (-1)) (upd mo sc 0) (zaV V sc) H) H1 zOk_C hz1 hk1 hw1
          refine lv_aload_n hx hb d_Lw_law_179 rfl (lv_at hl 1 rfl) ?_
          refine lv_aload_n hx hb d_Lw_law_180 rfl (lv_at hl 3 rfl) ?_
          refine lv_iload_n hx hb d_Lw_law_181 rfl (lv_at hl 0 rfl) ?_
          refine lv_iconst (v := 1) hx hb d_Lw_law_182 (by decide) ?_
          refine lv_iadd hx hb d_Lw_law_183 ?_
          rw [ei1]
          refine va_sld hx hb hX hbl hbA hS (vp_in_nI (show 4 * it + 1 < L by omega) (by omega)) d_Lw_law_184 ?_
          rw [nI_clamp (show 4 * it + 1 < 2 ^ 31 by omega)]
          refine lv_aload_n hx hb d_Lw_law_185 rfl (lv_at hl 3 rfl) ?_
          refine lv_iload_n hx hb d_Lw_law_186 rfl (lv_at hl 0 rfl) ?_
          refine lv_iconst (v := 2) hx hb d_Lw_law_187 (by decide) ?_
          refine lv_iadd hx hb d_Lw_law_188 ?_
          rw [ei2]
          refine va_sld hx hb hX hbl hbA hS (vp_in_nI (show 4 * it + 2 < L by omega) (by omega)) d_Lw_law_189 ?_
          rw [nI_clamp (show 4 * it + 2 < 2 ^ 31 by omega)]
          obtain ⟨A2, hW2, hA2, hA2s, hback2⟩ := zPr_C (D := D) hS.1 zOk_R zOk_C (zPr_swap hPr1)
          refine zcV [.int (xs (4 * it + 1)), .int (xs (4 * it + 2))] [.int r1] E (t_Mo_branch l D cs A2 q sc lc c gp mo V hI (xs (4 * it + 1)) (xs (4 * it + 2))) d_Lw_law_190 w_335 w_336 w_337 w_2 w_338 ⟨rfl, by decide +kernel, by decide +kernel, (by decide +kernel : Option.map (fun d => d.parameters.length) (parseMethodDescriptor "(II)I") = some 2)⟩ ⟨(Nat.le_of_ble_eq_true rfl), (Nat.le_of_ble_eq_true rfl)⟩ ⟨by show 19 + (it + 1) + 0 ≤ 600000; omega, by show 49182 + 8 * (it + 1) + 0 ≤ 7302250; omega⟩ rfl (Nat.le_of_ble_eq_true rfl) hl.1 (zRW_rec hK hW2) hK hW2 hS hA2s (zki fun r2 H2 locs hq2 hz2 hk2 hS => ?_)
          refine W.widen (k := 19 + (it + 1)) (n := 49182 + 8 * (it + 1)) (by show 19 + (it + 1) + 0 ≤ _; omega) (by show 49182 + 8 * (it + 1) + 0 ≤ _; omega) ?_
          rcases hq2 with ⟨f1, f2, er2, hw2⟩ | ⟨f1, er2, hw2⟩
          · skip
            obtain ⟨o1, o2, o3, o4, o5, o6⟩ := zgd_ok g1
            exact tle _ _ 193 163 (er1.trans er2.symm) d_Lw_law_193 (by decide) (sc + 1) lc (zac c sc 2 (xs (4 * it + 1)) (xs (4 * it + 2))) (upd gp sc (-1)) (upd mo sc 0) (zaV V sc) _ _ (zI_add hI g2 o1 o3 o5 o6) (zJ_add hJ) (zPr_swap (hback2 (fun A H => zRW D A q cs (sc + 1) lc (zac c sc 2 (xs (4 * it + 1)) (xs (4 * it + 2))) (upd gp sc (-1)) (upd mo sc 0) (zaV V sc) H) H2 zOk_R hz2 hk2 hw2)) hS
          · skip
            exact absurd ⟨g1, g2⟩ f1
        · skip
          have hPr1 := hback (fun A H => zCW D A o cs sc lc c gp mo V H) H1 zOk_C hz1 hk1 hw1
          refine lv_aload_n hx hb d_Lw_law_179 rfl (lv_at hl 1 rfl) ?_
          refine lv_aload_n hx hb d_Lw_law_180 rfl (lv_at hl 3 rfl) ?_
          refine lv_iload_n hx hb d_Lw_law_181 rfl (lv_at hl 0 rfl) ?_
          refine lv_iconst (v := 1) hx hb d_Lw_law_182 (by decide) ?_
          refine lv_iadd hx hb d_Lw_law_183 ?_
          rw [ei1]
          refine va_sld hx hb hX hbl hbA hS (vp_in_nI (show 4 * it + 1 < L by omega) (by omega)) d_Lw_law_184 ?_
          rw [nI_clamp (show 4 * it + 1 < 2 ^ 31 by omega)]
          refine lv_aload_n hx hb d_Lw_law_185 rfl (lv_at hl 3 rfl) ?_
          refine lv_iload_n hx hb d_Lw_law_186 rfl (lv_at hl 0 rfl) ?_
          refine lv_iconst (v := 2) hx hb d_Lw_law_187 (by decide) ?_
          refine lv_iadd hx hb d_Lw_law_188 ?_
          rw [ei2]
          refine va_sld hx hb hX hbl hbA hS (vp_in_nI (show 4 * it + 2 < L by omega) (by omega)) d_Lw_law_189 ?_
          rw [nI_clamp (show 4 * it + 2 < 2 ^ 31 by omega)]
          obtain ⟨A2, hW2, hA2, hA2s, hback2⟩ := zPr_C (D := D) hS.1 zOk_R zOk_C (zPr_swap hPr1)
          refine zcV [.int (xs (4 * it + 1)), .int (xs (4 * it + 2))] [.int r1] E (t_Mo_branch l D cs A2 q sc lc c gp mo V hI (xs (4 * it + 1)) (xs (4 * it + 2))) d_Lw_law_190 w_335 w_336 w_337 w_2 w_338 ⟨rfl, by decide +kernel, by decide +kernel, (by decide +kernel : Option.map (fun d => d.parameters.length) (parseMethodDescriptor "(II)I") = some 2)⟩ ⟨(Nat.le_of_ble_eq_true rfl), (Nat.le_of_ble_eq_true rfl)⟩ ⟨by show 19 + (it + 1) + 0 ≤ 600000; omega, by show 49182 + 8 * (it + 1) + 0 ≤ 7302250; omega⟩ rfl (Nat.le_of_ble_eq_true rfl) hl.1 (zRW_rec hK hW2) hK hW2 hS hA2s (zki fun r2 H2 locs hq2 hz2 hk2 hS => ?_)
          refine W.widen (k := 19 + (it + 1)) (n := 49182 + 8 * (it + 1)) (by show 19 + (it + 1) + 0 ≤ _; omega) (by show 49182 + 8 * (it + 1) + 0 ≤ _; omega) ?_
          rcases hq2 with ⟨f1, f2, er2, hw2⟩ | ⟨f1, er2, hw2⟩
          · skip
            exact absurd ⟨f1, f2⟩ g1
          · skip
            exact tle _ _ 193 163 (er1.trans er2.symm) d_Lw_law_193 (by decide) sc lc c gp mo V _ _ hI hJ (zPr_swap (hback2 (fun A H => zRW D A q cs sc lc c gp mo V H) H2 zOk_R hz2 hk2 hw2)) hS
      · skip
        refine lv_tableIn (tgt := 198) (off := 166) hx hb d_Lw_law_32 (by decide) (by decide) (by decide) (by decide) ?_
        refine lv_aload_n hx hb d_Lw_law_198 rfl (lv_at hl 2 rfl) ?_
        refine lv_aload_n hx hb d_Lw_law_199 rfl (lv_at hl 3 rfl) ?_
        refine lv_iload_n hx hb d_Lw_law_200 rfl (lv_at hl 0 rfl) ?_
        refine lv_iconst (v := 1) hx hb d_Lw_law_201 (by decide) ?_
        refine lv_iadd hx hb d_Lw_law_202 ?_
        rw [ei1]
        refine va_sld hx hb hX hbl hbA hS (vp_in_nI (show 4 * it + 1 < L by omega) (by omega)) d_Lw_law_203 ?_
        rw [nI_clamp (show 4 * it + 1 < 2 ^ 31 by omega)]
        obtain ⟨A1, hW1, hA1, hA1s, hback⟩ := zPr_C (D := D) hS.1 zOk_C zOk_R hPr
        refine zcV [.int (xs (4 * it + 1))] [] E (t_BL_label l D cs A1 o sc lc c gp mo V hI (xs (4 * it + 1))) d_Lw_law_204 w_159 w_160 w_161 w_1 w_162 ⟨rfl, by decide +kernel, by decide +kernel, (by decide +kernel : Option.map (fun d => d.parameters.length) (parseMethodDescriptor "(I)I") = some 1)⟩ ⟨(Nat.le_of_ble_eq_true rfl), (Nat.le_of_ble_eq_true rfl)⟩ ⟨by show 19 + it + 1 ≤ 600000; omega, by show 49182 + 8 * it + 3 ≤ 7302250; omega⟩ rfl (Nat.le_of_ble_eq_true rfl) hl.1 (zCW_rec hK hW1) hK ⟨hW1, hA1⟩ hS hA1s (zki fun r1 H1 locs hq1 hz1 hk1 hS => ?_)
        refine W.widen (k := 19 + (it + 1)) (n := 49182 + 8 * (it + 1)) (by show 19 + it + 1 ≤ _; omega) (by show 49182 + 8 * it + 3 ≤ _; omega) ?_
        rcases hq1 with ⟨g1, g2, er1, hw1⟩ | ⟨g1, er1, hw1⟩
        · skip
          have hPr1 := hback (fun A H => zCW D A o cs sc (lc + 1) (zlc c lc sc (xs (4 * it + 1))) gp mo (zu V 4 lc 0) H) H1 zOk_C hz1 hk1 hw1
          refine lv_aload_n hx hb d_Lw_law_207 rfl (lv_at hl 1 rfl) ?_
          refine lv_aload_n hx hb d_Lw_law_208 rfl (lv_at hl 3 rfl) ?_
          refine lv_iload_n hx hb d_Lw_law_209 rfl (lv_at hl 0 rfl) ?_
          refine lv_iconst (v := 1) hx hb d_Lw_law_210 (by decide) ?_
          refine lv_iadd hx hb d_Lw_law_211 ?_
          rw [ei1]
          refine va_sld hx hb hX hbl hbA hS (vp_in_nI (show 4 * it + 1 < L by omega) (by omega)) d_Lw_law_212 ?_
          rw [nI_clamp (show 4 * it + 1 < 2 ^ 31 by omega)]
          obtain ⟨A2, hW2, hA2, hA2s, hback2⟩ := zPr_C (D := D) hS.1 zOk_R zOk_C (zPr_swap hPr1)
          refine zcV [.int (xs (4 * it + 1))] [.int r1] E (t_Mo_label l D cs A2 q sc lc c gp mo V hI (xs (4 * it + 1))) d_Lw_law_213 w_339 w_340 w_341 w_2 w_342 ⟨rfl, by decide +kernel, by decide +kernel, (by decide +kernel : Option.map (fun d => d.parameters.length) (parseMethodDescriptor "(I)I") = some 1)⟩ ⟨(Nat.le_of_ble_eq_true rfl), (Nat.le_of_ble_eq_true rfl)⟩ ⟨by show 19 + (it + 1) + 0 ≤ 600000; omega, by show 49182 + 8 * (it + 1) + 0 ≤ 7302250; omega⟩ rfl (Nat.le_of_ble_eq_true rfl) hl.1 (zRW_rec hK hW2) hK hW2 hS hA2s (zki fun r2 H2 locs hq2 hz2 hk2 hS => ?_)
          refine W.widen (k := 19 + (it + 1)) (n := 49182 + 8 * (it + 1)) (by show 19 + (it + 1) + 0 ≤ _; omega) (by show 49182 + 8 * (it + 1) + 0 ≤ _; omega) ?_
          rcases hq2 with ⟨f1, f2, er2, hw2⟩ | ⟨f1, er2, hw2⟩
          · skip
            have hx4 : (xs (4 * it + 1)).toNatClampNeg < 4 := by
              obtain ⟨-, i4, hi4, e4i⟩ := zin (n := 4) (N := 4) (by decide) (by decide) (of_decide_eq_true g1).1 (Int32.not_le.mpr (of_decide_eq_true g1).2)
              rw [e4i, nI_clamp (by omega)]; exact hi4
            exact tle _ _ 216 140 (er1.trans er2.symm) d_Lw_law_216 (by decide) sc (lc + 1) (zlc c lc sc (xs (4 * it + 1))) gp mo (zu V 4 lc 0) _ _ (zI_lab hI g2 hx4) (zJ_lab hJ) (zPr_swap (hback2 (fun A H => zRW D A q cs sc (lc + 1) (zlc c lc sc (xs (4 * it + 1))) gp mo (zu V 4 lc 0) H) H2 zOk_R hz2 hk2 hw2)) hS
          · skip
            exact absurd ⟨g1, g2⟩ f1
        · skip
          have hPr1 := hback (fun A H => zCW D A o cs sc lc c gp mo V H) H1 zOk_C hz1 hk1 hw1
          refine lv_aload_n hx hb d_Lw_law_207 rfl (lv_at hl 1 rfl) ?_
          refine lv_aload_n hx hb d_Lw_law_208 rfl (lv_at hl 3 rfl) ?_
          refine lv_iload_n hx hb d_Lw_law_209 rfl (lv_at hl 0 rfl) ?_
          refine lv_iconst (v := 1) hx hb d_Lw_law_210 (by decide) ?_
          refine lv_iadd hx hb d_Lw_law_211 ?_
          rw [ei1]
          refine va_sld hx hb hX hbl hbA hS (vp_in_nI (show 4 * it + 1 < L by omega) (by omega)) d_Lw_law_212 ?_
          rw [nI_clamp (show 4 * it + 1 < 2 ^ 31 by omega)]
          obtain ⟨A2, hW2, hA2, hA2s, hback2⟩ := zPr_C (D := D) hS.1 zOk_R zOk_C (zPr_swap hPr1)
          refine zcV [.int (xs (4 * it + 1))] [.int r1] E (t_Mo_label l D cs A2 q sc lc c gp mo V hI (xs (4 * it + 1))) d_Lw_law_213 w_339 w_340 w_341 w_2 w_342 ⟨rfl, by decide +kernel, by decide +kernel, (by decide +kernel : Option.map (fun d => d.parameters.length) (parseMethodDescriptor "(I)I") = some 1)⟩ ⟨(Nat.le_of_ble_eq_true rfl), (Nat.le_of_ble_eq_true rfl)⟩ ⟨by show 19 + (it + 1) + 0 ≤ 600000; omega, by show 49182 + 8 * (it + 1) + 0 ≤ 7302250; omega⟩ rfl (Nat.le_of_ble_eq_true rfl) hl.1 (zRW_rec hK hW2) hK hW2 hS hA2s (zki fun r2 H2 locs hq2 hz2 hk2 hS => ?_)
          refine W.widen (k := 19 + (it + 1)) (n := 49182 + 8 * (it + 1)) (by show 19 + (it + 1) + 0 ≤ _; omega) (by show 49182 + 8 * (it + 1) + 0 ≤ _; omega) ?_
          rcases hq2 with ⟨f1, f2, er2, hw2⟩ | ⟨f1, er2, hw2⟩
          · skip
            exact absurd ⟨f1, f2⟩ g1
          · skip
            exact tle _ _ 216 140 (er1.trans er2.symm) d_Lw_law_216 (by decide) sc lc c gp mo V _ _ hI hJ (zPr_swap (hback2 (fun A H => zRW D A q cs sc lc c gp mo V H) H2 zOk_R hz2 hk2 hw2)) hS
      · skip
        refine lv_tableIn (tgt := 221) (off := 189) hx hb d_Lw_law_32 (by decide) (by decide) (by decide) (by decide) ?_
        refine lv_aload_n hx hb d_Lw_law_221 rfl (lv_at hl 2 rfl) ?_
        refine lv_aload_n hx hb d_Lw_law_222 rfl (lv_at hl 3 rfl) ?_
        refine lv_iload_n hx hb d_Lw_law_223 rfl (lv_at hl 0 rfl) ?_
        refine lv_iconst (v := 1) hx hb d_Lw_law_224 (by decide) ?_
        refine lv_iadd hx hb d_Lw_law_225 ?_
        rw [ei1]
        refine va_sld hx hb hX hbl hbA hS (vp_in_nI (show 4 * it + 1 < L by omega) (by omega)) d_Lw_law_226 ?_
        rw [nI_clamp (show 4 * it + 1 < 2 ^ 31 by omega)]
        refine lv_aload_n hx hb d_Lw_law_227 rfl (lv_at hl 3 rfl) ?_
        refine lv_iload_n hx hb d_Lw_law_228 rfl (lv_at hl 0 rfl) ?_
        refine lv_iconst (v := 2) hx hb d_Lw_law_229 (by decide) ?_
        refine lv_iadd hx hb d_Lw_law_230 ?_
        rw [ei2]
        refine va_sld hx hb hX hbl hbA hS (vp_in_nI (show 4 * it + 2 < L by omega) (by omega)) d_Lw_law_231 ?_
        rw [nI_clamp (show 4 * it + 2 < 2 ^ 31 by omega)]
        refine lv_aload_n hx hb d_Lw_law_232 rfl (lv_at hl 3 rfl) ?_
        refine lv_iload_n hx hb d_Lw_law_233 rfl (lv_at hl 0 rfl) ?_
        refine lv_iconst (v := 3) hx hb d_Lw_law_234 (by decide) ?_
        refine lv_iadd hx hb d_Lw_law_235 ?_
        rw [ei3]
        refine va_sld hx hb hX hbl hbA hS (vp_in_nI (show 4 * it + 3 < L by omega) (by omega)) d_Lw_law_236 ?_
        rw [nI_clamp (show 4 * it + 3 < 2 ^ 31 by omega)]
        obtain ⟨A1, hW1, hA1, hA1s, hback⟩ := zPr_C (D := D) hS.1 zOk_C zOk_R hPr
        refine zcV [.int (xs (4 * it + 1)), .int (xs (4 * it + 2)), .int (xs (4 * it + 3))] [] E (t_BL_go l D cs A1 o sc lc c gp mo V hI (xs (4 * it + 1)) (xs (4 * it + 2)) (xs (4 * it + 3))) d_Lw_law_237 w_175 w_176 w_177 w_1 w_178 ⟨rfl, by decide +kernel, by decide +kernel, (by decide +kernel : Option.map (fun d => d.parameters.length) (parseMethodDescriptor "(III)Z") = some 3)⟩ ⟨(Nat.le_of_ble_eq_true rfl), (Nat.le_of_ble_eq_true rfl)⟩ ⟨by show 19 + it + 0 ≤ 600000; omega, by show 49182 + 8 * it + 0 ≤ 7302250; omega⟩ rfl (Nat.le_of_ble_eq_true rfl) hl.1 (zCW_rec hK hW1) hK hW1 hS hA1s (zki fun r1 H1 locs hq1 hz1 hk1 hS => ?_)
        refine W.widen (k := 19 + (it + 1)) (n := 49182 + 8 * (it + 1)) (by show 19 + it + 0 ≤ _; omega) (by show 49182 + 8 * it + 0 ≤ _; omega) ?_
        rcases hq1 with ⟨g1, er1, hw1⟩ | ⟨g1, er1, hw1⟩
        · skip
          have hPr1 := hback (fun A H => zCW D A o cs sc lc c (upd gp (xs (4 * it + 1)).toNatClampNeg (xs (4 * it + 2))) (upd mo (xs (4 * it + 1)).toNatClampNeg (xs (4 * it + 3))) V H) H1 zOk_C hz1 hk1 hw1
          refine lv_aload_n hx hb d_Lw_law_240 rfl (lv_at hl 1 rfl) ?_
          refine lv_aload_n hx hb d_Lw_law_241 rfl (lv_at hl 3 rfl) ?_
          refine lv_iload_n hx hb d_Lw_law_242 rfl (lv_at hl 0 rfl) ?_
          refine lv_iconst (v := 1) hx hb d_Lw_law_243 (by decide) ?_
          refine lv_iadd hx hb d_Lw_law_244 ?_
          rw [ei1]
          refine va_sld hx hb hX hbl hbA hS (vp_in_nI (show 4 * it + 1 < L by omega) (by omega)) d_Lw_law_245 ?_
          rw [nI_clamp (show 4 * it + 1 < 2 ^ 31 by omega)]
          refine lv_aload_n hx hb d_Lw_law_246 rfl (lv_at hl 3 rfl) ?_
          refine lv_iload_n hx hb d_Lw_law_247 rfl (lv_at hl 0 rfl) ?_
          refine lv_iconst (v := 2) hx hb d_Lw_law_248 (by decide) ?_
          refine lv_iadd hx hb d_Lw_law_249 ?_
          rw [ei2]
          refine va_sld hx hb hX hbl hbA hS (vp_in_nI (show 4 * it + 2 < L by omega) (by omega)) d_Lw_law_250 ?_
          rw [nI_clamp (show 4 * it + 2 < 2 ^ 31 by omega)]
          refine lv_aload_n hx hb d_Lw_law_251 rfl (lv_at hl 3 rfl) ?_
          refine lv_iload_n hx hb d_Lw_law_252 rfl (lv_at hl 0 rfl) ?_
          refine lv_iconst (v := 3) hx hb d_Lw_law_253 (by decide) ?_
          refine lv_iadd hx hb d_Lw_law_254 ?_
          rw [ei3]
          refine va_sld hx hb hX hbl hbA hS (vp_in_nI (show 4 * it + 3 < L by omega) (by omega)) d_Lw_law_255 ?_
          rw [nI_clamp (show 4 * it + 3 < 2 ^ 31 by omega)]
          obtain ⟨A2, hW2, hA2, hA2s, hback2⟩ := zPr_C (D := D) hS.1 zOk_R zOk_C (zPr_swap hPr1)
          refine zcV [.int (xs (4 * it + 1)), .int (xs (4 * it + 2)), .int (xs (4 * it + 3))] [.int r1] E (t_Mo_go l D cs A2 q sc lc c gp mo V hI (xs (4 * it + 1)) (xs (4 * it + 2)) (xs (4 * it + 3))) d_Lw_law_256 w_343 w_344 w_345 w_2 w_346 ⟨rfl, by decide +kernel, by decide +kernel, (by decide +kernel : Option.map (fun d => d.parameters.length) (parseMethodDescriptor "(III)Z") = some 3)⟩ ⟨(Nat.le_of_ble_eq_true rfl), (Nat.le_of_ble_eq_true rfl)⟩ ⟨by show 19 + (it + 1) + 0 ≤ 600000; omega, by show 49182 + 8 * (it + 1) + 0 ≤ 7302250; omega⟩ rfl (Nat.le_of_ble_eq_true rfl) hl.1 (zRW_rec hK hW2) hK hW2 hS hA2s (zki fun r2 H2 locs hq2 hz2 hk2 hS => ?_)
          refine W.widen (k := 19 + (it + 1)) (n := 49182 + 8 * (it + 1)) (by show 19 + (it + 1) + 0 ≤ _; omega) (by show 49182 + 8 * (it + 1) + 0 ≤ _; omega) ?_
          rcases hq2 with ⟨f1, er2, hw2⟩ | ⟨f1, er2, hw2⟩
          · skip
            exact tle _ _ 259 97 (er1.trans er2.symm) d_Lw_law_259 (by decide) sc lc c (upd gp (xs (4 * it + 1)).toNatClampNeg (xs (4 * it + 2))) (upd mo (xs (4 * it + 1)).toNatClampNeg (xs (4 * it + 3))) V _ _ (zI_go hI g1) (zJ_go hI g1 hJ) (zPr_swap (hback2 (fun A H => zRW D A q cs sc lc c (upd gp (xs (4 * it + 1)).toNatClampNeg (xs (4 * it + 2))) (upd mo (xs (4 * it + 1)).toNatClampNeg (xs (4 * it + 3))) V H) H2 zOk_R hz2 hk2 hw2)) hS
          · skip
            exact absurd g1 f1
        · skip
          have hPr1 := hback (fun A H => zCW D A o cs sc lc c gp mo V H) H1 zOk_C hz1 hk1 hw1
          refine lv_aload_n hx hb d_Lw_law_240 rfl (lv_at hl 1 rfl) ?_
          refine lv_aload_n hx hb d_Lw_law_241 rfl (lv_at hl 3 rfl) ?_
          refine lv_iload_n hx hb d_Lw_law_242 rfl (lv_at hl 0 rfl) ?_
          refine lv_iconst (v := 1) hx hb d_Lw_law_243 (by decide) ?_
          refine lv_iadd hx hb d_Lw_law_244 ?_
          rw [ei1]
          refine va_sld hx hb hX hbl hbA hS (vp_in_nI (show 4 * it + 1 < L by omega) (by omega)) d_Lw_law_245 ?_
          rw [nI_clamp (show 4 * it + 1 < 2 ^ 31 by omega)]
          refine lv_aload_n hx hb d_Lw_law_246 rfl (lv_at hl 3 rfl) ?_
          refine lv_iload_n hx hb d_Lw_law_247 rfl (lv_at hl 0 rfl) ?_
          refine lv_iconst (v := 2) hx hb d_Lw_law_248 (by decide) ?_
          refine lv_iadd hx hb d_Lw_law_249 ?_
          rw [ei2]
          refine va_sld hx hb hX hbl hbA hS (vp_in_nI (show 4 * it + 2 < L by omega) (by omega)) d_Lw_law_250 ?_
          rw [nI_clamp (show 4 * it + 2 < 2 ^ 31 by omega)]
          refine lv_aload_n hx hb d_Lw_law_251 rfl (lv_at hl 3 rfl) ?_
          refine lv_iload_n hx hb d_Lw_law_252 rfl (lv_at hl 0 rfl) ?_
          refine lv_iconst (v := 3) hx hb d_Lw_law_253 (by decide) ?_
          refine lv_iadd hx hb d_Lw_law_254 ?_
          rw [ei3]
          refine va_sld hx hb hX hbl hbA hS (vp_in_nI (show 4 * it + 3 < L by omega) (by omega)) d_Lw_law_255 ?_
          rw [nI_clamp (show 4 * it + 3 < 2 ^ 31 by omega)]
          obtain ⟨A2, hW2, hA2, hA2s, hback2⟩ := zPr_C (D := D) hS.1 zOk_R zOk_C (zPr_swap hPr1)
          refine zcV [.int (xs (4 * it + 1)), .int (xs (4 * it + 2)), .int (xs (4 * it + 3))] [.int r1] E (t_Mo_go l D cs A2 q sc lc c gp mo V hI (xs (4 * it + 1)) (xs (4 * it + 2)) (xs (4 * it + 3))) d_Lw_law_256 w_343 w_344 w_345 w_2 w_346 ⟨rfl, by decide +kernel, by decide +kernel, (by decide +kernel : Option.map (fun d => d.parameters.length) (parseMethodDescriptor "(III)Z") = some 3)⟩ ⟨(Nat.le_of_ble_eq_true rfl), (Nat.le_of_ble_eq_true rfl)⟩ ⟨by show 19 + (it + 1) + 0 ≤ 600000; omega, by show 49182 + 8 * (it + 1) + 0 ≤ 7302250; omega⟩ rfl (Nat.le_of_ble_eq_true rfl) hl.1 (zRW_rec hK hW2) hK hW2 hS hA2s (zki fun r2 H2 locs hq2 hz2 hk2 hS => ?_)
          refine W.widen (k := 19 + (it + 1)) (n := 49182 + 8 * (it + 1)) (by show 19 + (it + 1) + 0 ≤ _; omega) (by show 49182 + 8 * (it + 1) + 0 ≤ _; omega) ?_
          rcases hq2 with ⟨f1, er2, hw2⟩ | ⟨f1, er2, hw2⟩
          · skip
            exact absurd f1 g1
          · skip
            exact tle _ _ 259 97 (er1.trans er2.symm) d_Lw_law_259 (by decide) sc lc c gp mo V _ _ hI hJ (zPr_swap (hback2 (fun A H => zRW D A q cs sc lc c gp mo V H) H2 zOk_R hz2 hk2 hw2)) hS
      · skip
        refine lv_tableIn (tgt := 264) (off := 232) hx hb d_Lw_law_32 (by decide) (by decide) (by decide) (by decide) ?_
        refine lv_aload_n hx hb d_Lw_law_264 rfl (lv_at hl 2 rfl) ?_
        obtain ⟨A1, hW1, hA1, hA1s, hback⟩ := zPr_C (D := D) hS.1 zOk_C zOk_R hPr
        refine zcV [] [] E (t_BL_relax l D cs A1 o sc lc c gp mo V hI hJ) d_Lw_law_265 w_191 w_192 w_193 w_1 w_194 ⟨rfl, by decide +kernel, by decide +kernel, (by decide +kernel : Option.map (fun d => d.parameters.length) (parseMethodDescriptor "()I") = some 0)⟩ ⟨(Nat.le_of_ble_eq_true rfl), (Nat.le_of_ble_eq_true rfl)⟩ ⟨by show 19 + it + 0 ≤ 600000; omega, by show 49182 + 8 * it + 0 ≤ 7302250; omega⟩ rfl (Nat.le_of_ble_eq_true rfl) hl.1 (zCW_rec hK hW1) hK hW1 hS hA1s (zki fun r1 H1 locs hq1 hz1 hk1 hS => ?_)
        refine W.widen (k := 19 + (it + 1)) (n := 49182 + 8 * (it + 1)) (by show 19 + it + 0 ≤ _; omega) (by show 49182 + 8 * it + 0 ≤ _; omega) ?_
        obtain ⟨V2, hx1, hw1⟩ := hq1
        have hPr1 := hback (fun A H => zCW D A o cs sc lc c gp mo V2 H) H1 zOk_C hz1 hk1 hw1
        refine lv_aload_n hx hb d_Lw_law_268 rfl (lv_at hl 1 rfl) ?_
        obtain ⟨A2, hW2, hA2, hA2s, hback2⟩ := zPr_C (D := D) hS.1 zOk_R zOk_C (zPr_swap hPr1)
        refine zcV [] [.int r1] E (t_Mo_relax l D cs A2 q sc lc c gp mo V hI) d_Lw_law_269 w_347 w_348 w_349 w_2 w_350 ⟨rfl, by decide +kernel, by decide +kernel, (by decide +kernel : Option.map (fun d => d.parameters.length) (parseMethodDescriptor "()I") = some 0)⟩ ⟨(Nat.le_of_ble_eq_true rfl), (Nat.le_of_ble_eq_true rfl)⟩ ⟨by show 19 + (it + 1) + 0 ≤ 600000; omega, by show 49182 + 8 * (it + 1) + 0 ≤ 7302250; omega⟩ rfl (Nat.le_of_ble_eq_true rfl) hl.1 (zRW_rec hK hW2) hK hW2 hS hA2s (zki fun r2 H2 locs hq2 hz2 hk2 hS => ?_)
        refine W.widen (k := 19 + (it + 1)) (n := 49182 + 8 * (it + 1)) (by show 19 + (it + 1) + 0 ≤ _; omega) (by show 49182 + 8 * (it + 1) + 0 ≤ _; omega) ?_
        obtain ⟨V3, hx2, hw2⟩ := hq2
        obtain ⟨er, k1, k2, k3⟩ := zRx_same hI hx2 hx1
        have hw3 : zRW D A2 q cs sc lc c gp mo V2 H2 := by
          obtain ⟨th, R, z1, z2⟩ := hw2
          exact ⟨th, R, zAg_V z1 k1 k2 k3, z2⟩
        exact tle _ _ 272 84 er.symm d_Lw_law_272 (by decide) sc lc c gp mo V2 _ _ hI (zRx_J hx1) (zPr_swap (hback2 (fun A H => zRW D A q cs sc lc c gp mo V2 H) H2 zOk_R hz2 hk2 hw3)) hS
      · skip
        refine lv_tableIn (tgt := 277) (off := 245) hx hb d_Lw_law_32 (by decide) (by decide) (by decide) (by decide) ?_
        refine lv_aload_n hx hb d_Lw_law_277 rfl (lv_at hl 2 rfl) ?_
        refine lv_aload_n hx hb d_Lw_law_278 rfl (lv_at hl 3 rfl) ?_
        refine lv_iload_n hx hb d_Lw_law_279 rfl (lv_at hl 0 rfl) ?_
        refine lv_iconst (v := 1) hx hb d_Lw_law_280 (by decide) ?_
        refine lv_iadd hx hb d_Lw_law_281 ?_
        rw [ei1]
        refine va_sld hx hb hX hbl hbA hS (vp_in_nI (show 4 * it + 1 < L by omega) (by omega)) d_Lw_law_282 ?_
        rw [nI_clamp (show 4 * it + 1 < 2 ^ 31 by omega)]
        refine lv_aload_n hx hb d_Lw_law_283 rfl (lv_at hl 3 rfl) ?_
        refine lv_iload_n hx hb d_Lw_law_284 rfl (lv_at hl 0 rfl) ?_
        refine lv_iconst (v := 2) hx hb d_Lw_law_285 (by decide) ?_
        refine lv_iadd hx hb d_Lw_law_286 ?_
        rw [ei2]
        refine va_sld hx hb hX hbl hbA hS (vp_in_nI (show 4 * it + 2 < L by omega) (by omega)) d_Lw_law_287 ?_
        rw [nI_clamp (show 4 * it + 2 < 2 ^ 31 by omega)]
        obtain ⟨Ac, Ar, hd1, hd2, hWc, hWr⟩ := id hPr
        obtain ⟨fa, fb, ad, bd, hfa, hfb, hwz⟩ := id hWc
        refine zcV [.int (xs (4 * it + 1)), .int (xs (4 * it + 2))] [] E (t_BL_statement l D cs Ac o sc lc fa fb ad bd c gp mo V hI hJ hfa (xs (4 * it + 1)) (xs (4 * it + 2)) _ hwz) d_Lw_law_288 w_237 w_238 w_239 w_1 w_240 ⟨rfl, by decide +kernel, by decide +kernel, (by decide +kernel : Option.map (fun d => d.parameters.length) (parseMethodDescriptor "(II)I") = some 2)⟩ ⟨(Nat.le_of_ble_eq_true rfl), (Nat.le_of_ble_eq_true rfl)⟩ ⟨by show 19 + it + 0 ≤ 600000; omega, by show 49182 + 8 * it + 0 ≤ 7302250; omega⟩ rfl (Nat.le_of_ble_eq_true rfl) hl.1 (zCW_rec hK hWc) hK rfl hS (fun _ h => h.elim) (zki fun r1 H1 locs1 hq1 hz1 hk1 hS1 => ?_)
        refine W.widen (k := 19 + (it + 1)) (n := 49182 + 8 * (it + 1)) (by show 19 + it + 0 ≤ _; omega) (by show 49182 + 8 * it + 0 ≤ _; omega) ?_
        obtain ⟨e8, er1⟩ := hq1
        subst e8
        have hS := hS1
        refine lv_aload_n hx hb d_Lw_law_291 rfl (lv_at hl 1 rfl) ?_
        refine lv_aload_n hx hb d_Lw_law_292 rfl (lv_at hl 3 rfl) ?_
        refine lv_iload_n hx hb d_Lw_law_293 rfl (lv_at hl 0 rfl) ?_
        refine lv_iconst (v := 1) hx hb d_Lw_law_294 (by decide) ?_
        refine lv_iadd hx hb d_Lw_law_295 ?_
        rw [ei1]
        refine va_sld hx hb hX hbl hbA hS (vp_in_nI (show 4 * it + 1 < L by omega) (by omega)) d_Lw_law_296 ?_
        rw [nI_clamp (show 4 * it + 1 < 2 ^ 31 by omega)]
        refine lv_aload_n hx hb d_Lw_law_297 rfl (lv_at hl 3 rfl) ?_
        refine lv_iload_n hx hb d_Lw_law_298 rfl (lv_at hl 0 rfl) ?_
        refine lv_iconst (v := 2) hx hb d_Lw_law_299 (by decide) ?_
        refine lv_iadd hx hb d_Lw_law_300 ?_
        rw [ei2]
        refine va_sld hx hb hX hbl hbA hS (vp_in_nI (show 4 * it + 2 < L by omega) (by omega)) d_Lw_law_301 ?_
        rw [nI_clamp (show 4 * it + 2 < 2 ^ 31 by omega)]
        obtain ⟨A2, hW2, hA2, hA2s, hback2⟩ := zPr_C (D := D) hS.1 zOk_R zOk_C (zPr_swap hPr)
        refine zcV [.int (xs (4 * it + 1)), .int (xs (4 * it + 2))] [.int r1] E (t_Mo_statement l D cs A2 q sc lc c gp mo V hI hJ (xs (4 * it + 1)) (xs (4 * it + 2))) d_Lw_law_302 w_361 w_362 w_363 w_2 w_364 ⟨rfl, by decide +kernel, by decide +kernel, (by decide +kernel : Option.map (fun d => d.parameters.length) (parseMethodDescriptor "(II)I") = some 2)⟩ ⟨(Nat.le_of_ble_eq_true rfl), (Nat.le_of_ble_eq_true rfl)⟩ ⟨by show 19 + (it + 1) + 0 ≤ 600000; omega, by show 49182 + 8 * (it + 1) + 0 ≤ 7302250; omega⟩ rfl (Nat.le_of_ble_eq_true rfl) hl.1 (zRW_rec hK hW2) hK hW2 hS hA2s (zki fun r2 H2 locs hq2 hz2 hk2 hS => ?_)
        refine W.widen (k := 19 + (it + 1)) (n := 49182 + 8 * (it + 1)) (by show 19 + (it + 1) + 0 ≤ _; omega) (by show 49182 + 8 * (it + 1) + 0 ≤ _; omega) ?_
        exact tle _ _ 305 51 (er1.trans hq2.1.symm) d_Lw_law_305 (by decide) sc lc c gp mo V _ _ hI hJ (zPr_swap (hback2 (fun A H => zRW D A q cs sc lc c gp mo V H) H2 zOk_R hz2 hk2 hq2.2)) hS
      · skip
        refine lv_tableIn (tgt := 310) (off := 278) hx hb d_Lw_law_32 (by decide) (by decide) (by decide) (by decide) ?_
        refine lv_aload_n hx hb d_Lw_law_310 rfl (lv_at hl 2 rfl) ?_
        refine lv_aload_n hx hb d_Lw_law_311 rfl (lv_at hl 3 rfl) ?_
        refine lv_iload_n hx hb d_Lw_law_312 rfl (lv_at hl 0 rfl) ?_
        refine lv_iconst (v := 1) hx hb d_Lw_law_313 (by decide) ?_
        refine lv_iadd hx hb d_Lw_law_314 ?_
        rw [ei1]
        refine va_sld hx hb hX hbl hbA hS (vp_in_nI (show 4 * it + 1 < L by omega) (by omega)) d_Lw_law_315 ?_
        rw [nI_clamp (show 4 * it + 1 < 2 ^ 31 by omega)]
        obtain ⟨Ac, Ar, hd1, hd2, hWc, hWr⟩ := id hPr
        obtain ⟨fa, fb, ad, bd, hfa, hfb, hwz⟩ := id hWc
        refine zcV [.int (xs (4 * it + 1))] [] E (t_BL_place l D cs Ac o sc lc fa fb ad bd c gp mo V hI.2.1 hfb (xs (4 * it + 1)) _ hwz) d_Lw_law_316 w_251 w_252 w_253 w_1 w_254 ⟨rfl, by decide +kernel, by decide +kernel, (by decide +kernel : Option.map (fun d => d.parameters.length) (parseMethodDescriptor "(I)I") = some 1)⟩ ⟨(Nat.le_of_ble_eq_true rfl), (Nat.le_of_ble_eq_true rfl)⟩ ⟨by show 19 + it + 0 ≤ 600000; omega, by show 49182 + 8 * it + 0 ≤ 7302250; omega⟩ rfl (Nat.le_of_ble_eq_true rfl) hl.1 (zCW_rec hK hWc) hK rfl hS (fun _ h => h.elim) (zki fun r1 H1 locs1 hq1 hz1 hk1 hS1 => ?_)
        refine W.widen (k := 19 + (it + 1)) (n := 49182 + 8 * (it + 1)) (by show 19 + it + 0 ≤ _; omega) (by show 49182 + 8 * it + 0 ≤ _; omega) ?_
        obtain ⟨e8, er1⟩ := hq1
        subst e8
        have hS := hS1
        refine lv_aload_n hx hb d_Lw_law_319 rfl (lv_at hl 1 rfl) ?_
        refine lv_aload_n hx hb d_Lw_law_320 rfl (lv_at hl 3 rfl) ?_
        refine lv_iload_n hx hb d_Lw_law_321 rfl (lv_at hl 0 rfl) ?_
        refine lv_iconst (v := 1) hx hb d_Lw_law_322 (by decide) ?_
        refine lv_iadd hx hb d_Lw_law_323 ?_
        rw [ei1]
        refine va_sld hx hb hX hbl hbA hS (vp_in_nI (show 4 * it + 1 < L by omega) (by omega)) d_Lw_law_324 ?_
        rw [nI_clamp (show 4 * it + 1 < 2 ^ 31 by omega)]
        obtain ⟨A2, hW2, hA2, hA2s, hback2⟩ := zPr_C (D := D) hS.1 zOk_R zOk_C (zPr_swap hPr)
        refine zcV [.int (xs (4 * it + 1))] [.int r1] E (t_Mo_place l D cs A2 q sc lc c gp mo V hI (xs (4 * it + 1))) d_Lw_law_325 w_365 w_366 w_367 w_2 w_368 ⟨rfl, by decide +kernel, by decide +kernel, (by decide +kernel : Option.map (fun d => d.parameters.length) (parseMethodDescriptor "(I)I") = some 1)⟩ ⟨(Nat.le_of_ble_eq_true rfl), (Nat.le_of_ble_eq_true rfl)⟩ ⟨by show 19 + (it + 1) + 0 ≤ 600000; omega, by show 49182 + 8 * (it + 1) + 0 ≤ 7302250; omega⟩ rfl (Nat.le_of_ble_eq_true rfl) hl.1 (zRW_rec hK hW2) hK hW2 hS hA2s (zki fun r2 H2 locs hq2 hz2 hk2 hS => ?_)
        refine W.widen (k := 19 + (it + 1)) (n := 49182 + 8 * (it + 1)) (by show 19 + (it + 1) + 0 ≤ _; omega) (by show 49182 + 8 * (it + 1) + 0 ≤ _; omega) ?_
        exact tle _ _ 328 28 (er1.trans hq2.1.symm) d_Lw_law_328 (by decide) sc lc c gp mo V _ _ hI hJ (zPr_swap (hback2 (fun A H => zRW D A q cs sc lc c gp mo V H) H2 zOk_R hz2 hk2 hq2.2)) hS
      · skip
        refine lv_tableIn (tgt := 333) (off := 301) hx hb d_Lw_law_32 (by decide) (by decide) (by decide) (by decide) ?_
        refine lv_aload_n hx hb d_Lw_law_333 rfl (lv_at hl 2 rfl) ?_
        refine lv_aload_n hx hb d_Lw_law_334 rfl (lv_at hl 3 rfl) ?_
        refine lv_iload_n hx hb d_Lw_law_335 rfl (lv_at hl 0 rfl) ?_
        refine lv_iconst (v := 1) hx hb d_Lw_law_336 (by decide) ?_
        refine lv_iadd hx hb d_Lw_law_337 ?_
        rw [ei1]
        refine va_sld hx hb hX hbl hbA hS (vp_in_nI (show 4 * it + 1 < L by omega) (by omega)) d_Lw_law_338 ?_
        rw [nI_clamp (show 4 * it + 1 < 2 ^ 31 by omega)]
        obtain ⟨Ac, Ar, hd1, hd2, hWc, hWr⟩ := id hPr
        obtain ⟨fa, fb, ad, bd, hfa, hfb, hwz⟩ := id hWc
        refine zcV [.int (xs (4 * it + 1))] [] E (t_BL_size l D cs Ac o sc lc fa fb ad bd c gp mo V (xs (4 * it + 1)) _ hwz) d_Lw_law_339 w_255 w_256 w_257 w_1 w_258 ⟨rfl, by decide +kernel, by decide +kernel, (by decide +kernel : Option.map (fun d => d.parameters.length) (parseMethodDescriptor "(I)I") = some 1)⟩ ⟨(Nat.le_of_ble_eq_true rfl), (Nat.le_of_ble_eq_true rfl)⟩ ⟨by show 19 + it + 0 ≤ 600000; omega, by show 49182 + 8 * it + 0 ≤ 7302250; omega⟩ rfl (Nat.le_of_ble_eq_true rfl) hl.1 (zCW_rec hK hWc) hK rfl hS (fun _ h => h.elim) (zki fun r1 H1 locs1 hq1 hz1 hk1 hS1 => ?_)
        refine W.widen (k := 19 + (it + 1)) (n := 49182 + 8 * (it + 1)) (by show 19 + it + 0 ≤ _; omega) (by show 49182 + 8 * it + 0 ≤ _; omega) ?_
        obtain ⟨e8, er1⟩ := hq1
        subst e8
        have hS := hS1
        refine lv_aload_n hx hb d_Lw_law_342 rfl (lv_at hl 1 rfl) ?_
        refine lv_aload_n hx hb d_Lw_law_343 rfl (lv_at hl 3 rfl) ?_
        refine lv_iload_n hx hb d_Lw_law_344 rfl (lv_at hl 0 rfl) ?_
        refine lv_iconst (v := 1) hx hb d_Lw_law_345 (by decide) ?_
        refine lv_iadd hx hb d_Lw_law_346 ?_
        rw [ei1]
        refine va_sld hx hb hX hbl hbA hS (vp_in_nI (show 4 * it + 1 < L by omega) (by omega)) d_Lw_law_347 ?_
        rw [nI_clamp (show 4 * it + 1 < 2 ^ 31 by omega)]
        obtain ⟨A2, hW2, hA2, hA2s, hback2⟩ := zPr_C (D := D) hS.1 zOk_R zOk_C (zPr_swap hPr)
        refine zcV [.int (xs (4 * it + 1))] [.int r1] E (t_Mo_size l D cs A2 q sc lc c gp mo V hI (xs (4 * it + 1))) d_Lw_law_348 w_369 w_370 w_371 w_2 w_372 ⟨rfl, by decide +kernel, by decide +kernel, (by decide +kernel : Option.map (fun d => d.parameters.length) (parseMethodDescriptor "(I)I") = some 1)⟩ ⟨(Nat.le_of_ble_eq_true rfl), (Nat.le_of_ble_eq_true rfl)⟩ ⟨by show 19 + (it + 1) + 0 ≤ 600000; omega, by show 49182 + 8 * (it + 1) + 0 ≤ 7302250; omega⟩ rfl (Nat.le_of_ble_eq_true rfl) hl.1 (zRW_rec hK hW2) hK hW2 hS hA2s (zki fun r2 H2 locs hq2 hz2 hk2 hS => ?_)
        refine W.widen (k := 19 + (it + 1)) (n := 49182 + 8 * (it + 1)) (by show 19 + (it + 1) + 0 ≤ _; omega) (by show 49182 + 8 * (it + 1) + 0 ≤ _; omega) ?_
        exact tle _ _ 351 5 (er1.trans hq2.1.symm) d_Lw_law_351 (by decide) sc lc c gp mo V _ _ hI hJ (zPr_swap (hback2 (fun A H => zRW D A q cs sc lc c gp mo V H) H2 zOk_R hz2 hk2 hq2.2)) hS
      · skip
        refine lv_tableOut (tgt := 356) hx hb d_Lw_law_32 (Or.inr (by rw [nI_toInt (by omega)]; omega)) (by decide) ?_
        refine W.widen (k := 19 + (it + 1)) (n := 49182 + 8 * (it + 1)) (by omega) (by omega) ?_
        exact tl sc lc c gp mo V _ _ hI hJ hPr hS
