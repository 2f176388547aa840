theorem zin {x : Int32} {n N : Nat} (hn : n ≤ N) (hN : N < 2 ^ 31) (h0 : ¬ x < 0) (h : ¬ nI n ≤ x) : vp_in x N ∧ ∃ j, j < n ∧ x = nI j := by
  rcases pk_ix x (n := n) (by omega) with q | q | ⟨j, hj, rfl⟩
  · exact absurd q h0
  · exact absurd q h
  · exact ⟨vp_in_nI (by omega) hN, j, hj, rfl⟩
def zsn (n : Nat) (ad : Nat → Nat) (x : Int32) : Option Nat := if x < 0 then none else if nI n ≤ x then none else some (ad x.toNatClampNeg)
def zpn (sc lc : Nat) (ad bd : Nat → Nat) (x : Int32) : Option Nat := if x < 0 then zsn sc ad (-2 - x) else zsn lc bd x
set_option maxHeartbeats 4000000 in
set_option maxRecDepth 100000 in
theorem t_BL_statementNumbered (l : Launch) (D : va_G) (cs : ClassId × ClassId × ClassId × ClassId) (A : Nat → Prop) (o : Nat × Nat × Nat × Nat) (sc lc : Nat) (fa fb : Nat → Option Nat) (ad bd : Nat → Nat) (c : Nat → Nat → Nat) (gp mo : Nat → Int32) (V : Nat → Nat → Int32) (hn : sc ≤ 4096) (hf : ∀ k, k < sc → fa k = some (ad k)) (x : Int32) (H1 : Heap) (hw : zH D A (zB o cs sc lc fa fb ad bd c gp mo V) H1) : zMet l D cs y_BL_statementNumbered c_BL_statementNumbered 2 (some (FieldType.object "BranchLayout$Statement")) ({ frames := 0, cells := 0, slots := 0, locals := 0 } : Room) [.ref o.1, .int x] (fun H => H = H1) (fun _ => False) (zqr fun r H => H = H1 ∧ r = zsn sc ad x) := by
  refine zmk (by decide) (Nat.le_of_ble_eq_true rfl) ?_
  intro p e s m below meth cd ls E hK hP0 hl
  have hS : va_S (fun _ => False) s.heap s.heap [] := va_S.rf
  have hP := hw.1
  rw [← hP0] at hP
  obtain ⟨hx, hb, hr, hts, hown, hlocks, hml, hin⟩ := id E
  have hl : lv_has ls 2 [(0, .ref o.1), (1, .int x)] := hl
  refine lv_iload_n hx hb d_BL_statementNumbered_0 rfl (lv_at hl 1 rfl) ?_
  refine lv_if_lt (tgt := 21) hx hb d_BL_statementNumbered_1 (by decide) (fun c_1 => ?_) (fun c_1 => ?_)
  · skip
    refine lv_null hx hb d_BL_statementNumbered_21 ?_
    refine zra (v := none) E (Or.inl ⟨_, rfl⟩) d_BL_statementNumbered_22 hS (Nat.le_of_ble_eq_true rfl) (Nat.le_of_ble_eq_true rfl) ?_
    exact ⟨_, rfl, hP0, by simp [zsn, c_1]⟩
  · skip
    refine lv_iload_n hx hb d_BL_statementNumbered_4 rfl (lv_at hl 1 rfl) ?_
    refine lv_aload_n hx hb d_BL_statementNumbered_5 rfl (lv_at hl 0 rfl) ?_
    refine va_get (D := D) (ci := 4) (v := .int (nI sc)) (C := "BranchLayout") (T := T_BL) (N := 5) hx hb hts in_BL hown hK.1 hP 0 (zb_x rfl) rfl 3 (by decide) (hts _ w_26) (fun _ h9 => h9) rfl d_BL_statementNumbered_6 ?_
    refine lv_icmp_ge (tgt := 21) hx hb d_BL_statementNumbered_9 (by decide) (fun c_2 => ?_) (fun c_2 => ?_)
    · skip
      refine lv_null hx hb d_BL_statementNumbered_21 ?_
      refine zra (v := none) E (Or.inl ⟨_, rfl⟩) d_BL_statementNumbered_22 hS (Nat.le_of_ble_eq_true rfl) (Nat.le_of_ble_eq_true rfl) ?_
      exact ⟨_, rfl, hP0, by simp [zsn, c_1, c_2]⟩
    · skip
      refine lv_aload_n hx hb d_BL_statementNumbered_12 rfl (lv_at hl 0 rfl) ?_
      refine va_get (D := D) (ci := 4) (v := .ref o.2.1) (C := "BranchLayout") (T := T_BL) (N := 5) hx hb hts in_BL hown hK.1 hP 0 (zb_x rfl) rfl 0 (by decide) (hts _ w_23) (fun _ h9 => h9) rfl d_BL_statementNumbered_13 ?_
      refine lv_iload_n hx hb d_BL_statementNumbered_16 rfl (lv_at hl 1 rfl) ?_
      obtain ⟨hi, j, hj, ej⟩ := zin hn (by decide) c_1 c_2
      refine va_aldq hx hb hK.1 hP 1 2 (zb_x rfl) rfl hi d_BL_statementNumbered_17 ?_
      refine lv_goto (tgt := 22) hx hb d_BL_statementNumbered_18 (by decide) ?_
      refine zra (v := fa x.toNatClampNeg) E (Or.inl ⟨_, rfl⟩) d_BL_statementNumbered_22 hS (Nat.le_of_ble_eq_true rfl) (Nat.le_of_ble_eq_true rfl) ?_
      refine ⟨_, rfl, hP0, ?_⟩
      have e1 : x.toNatClampNeg = j := by rw [ej]; exact nI_clamp (by omega)
      simp only [zsn, c_1, c_2, if_false]
      rw [e1, hf j hj]
set_option maxHeartbeats 4000000 in
set_option maxRecDepth 100000 in
theorem t_BL_labelNumbered (l : Launch) (D : va_G) (cs : ClassId × ClassId × ClassId × ClassId) (A : Nat → Prop) (o : Nat × Nat × Nat × Nat) (sc lc : Nat) (fa fb : Nat → Option Nat) (ad bd : Nat → Nat) (c : Nat → Nat → Nat) (gp mo : Nat → Int32) (V : Nat → Nat → Int32) (hn : lc ≤ 1024) (hf : ∀ k, k < lc → fb k = some (bd k)) (x : Int32) (H1 : Heap) (hw : zH D A (zB o cs sc lc fa fb ad bd c gp mo V) H1) : zMet l D cs y_BL_labelNumbered c_BL_labelNumbered 2 (some (FieldType.object "BranchLayout$Label")) ({ frames := 0, cells := 0, slots := 0, locals := 0 } : Room) [.ref o.1, .int x] (fun H => H = H1) (fun _ => False) (zqr fun r H => H = H1 ∧ r = zsn lc bd x) := by
  refine zmk (by decide) (Nat.le_of_ble_eq_true rfl) ?_
  intro p e s m below meth cd ls E hK hP0 hl
  have hS : va_S (fun _ => False) s.heap s.heap [] := va_S.rf
  have hP := hw.1
  rw [← hP0] at hP
  obtain ⟨hx, hb, hr, hts, hown, hlocks, hml, hin⟩ := id E
  have hl : lv_has ls 2 [(0, .ref o.1), (1, .int x)] := hl
  refine lv_iload_n hx hb d_BL_labelNumbered_0 rfl (lv_at hl 1 rfl) ?_
  refine lv_if_lt (tgt := 21) hx hb d_BL_labelNumbered_1 (by decide) (fun c_3 => ?_) (fun c_3 => ?_)
  · skip
    refine lv_null hx hb d_BL_labelNumbered_21 ?_
    refine zra (v := none) E (Or.inl ⟨_, rfl⟩) d_BL_labelNumbered_22 hS (Nat.le_of_ble_eq_true rfl) (Nat.le_of_ble_eq_true rfl) ?_
    exact ⟨_, rfl, hP0, by simp [zsn, c_3]⟩
  · skip
    refine lv_iload_n hx hb d_BL_labelNumbered_4 rfl (lv_at hl 1 rfl) ?_
    refine lv_aload_n hx hb d_BL_labelNumbered_5 rfl (lv_at hl 0 rfl) ?_
    refine va_get (D := D) (ci := 4) (v := .int (nI lc)) (C := "BranchLayout") (T := T_BL) (N := 5) hx hb hts in_BL hown hK.1 hP 0 (zb_x rfl) rfl 4 (by decide) (hts _ w_27) (fun _ h9 => h9) rfl d_BL_labelNumbered_6 ?_
    refine lv_icmp_ge (tgt := 21) hx hb d_BL_labelNumbered_9 (by decide) (fun c_4 => ?_) (fun c_4 => ?_)
    · skip
      refine lv_null hx hb d_BL_labelNumbered_21 ?_
      refine zra (v := none) E (Or.inl ⟨_, rfl⟩) d_BL_labelNumbered_22 hS (Nat.le_of_ble_eq_true rfl) (Nat.le_of_ble_eq_true rfl) ?_
      exact ⟨_, rfl, hP0, by simp [zsn, c_3, c_4]⟩
    · skip
      refine lv_aload_n hx hb d_BL_labelNumbered_12 rfl (lv_at hl 0 rfl) ?_
      refine va_get (D := D) (ci := 4) (v := .ref o.2.2.1) (C := "BranchLayout") (T := T_BL) (N := 5) hx hb hts in_BL hown hK.1 hP 0 (zb_x rfl) rfl 1 (by decide) (hts _ w_24) (fun _ h9 => h9) rfl d_BL_labelNumbered_13 ?_
      refine lv_iload_n hx hb d_BL_labelNumbered_16 rfl (lv_at hl 1 rfl) ?_
      obtain ⟨hi, j, hj, ej⟩ := zin hn (by decide) c_3 c_4
      refine va_aldq hx hb hK.1 hP 2 3 (zb_x rfl) rfl hi d_BL_labelNumbered_17 ?_
      refine lv_goto (tgt := 22) hx hb d_BL_labelNumbered_18 (by decide) ?_
      refine zra (v := fb x.toNatClampNeg) E (Or.inl ⟨_, rfl⟩) d_BL_labelNumbered_22 hS (Nat.le_of_ble_eq_true rfl) (Nat.le_of_ble_eq_true rfl) ?_
      refine ⟨_, rfl, hP0, ?_⟩
      have e1 : x.toNatClampNeg = j := by rw [ej]; exact nI_clamp (by omega)
      simp only [zsn, c_3, c_4, if_false]
      rw [e1, hf j hj]
set_option maxHeartbeats 4000000 in
set_option maxRecDepth 100000 in
theorem t_BL_placeNamed (l : Launch) (D : va_G) (cs : ClassId × ClassId × ClassId × ClassId) (A : Nat → Prop) (o : Nat × Nat × Nat × Nat) (sc lc : Nat) (fa fb : Nat → Option Nat) (ad bd : Nat → Nat) (c : Nat → Nat → Nat) (gp mo : Nat → Int32) (V : Nat → Nat → Int32) (hn : sc ≤ 4096) (hf : ∀ k, k < sc → fa k = some (ad k)) (hn2 : lc ≤ 1024) (hf2 : ∀ k, k < lc → fb k = some (bd k)) (x : Int32) (H1 : Heap) (hw : zH D A (zB o cs sc lc fa fb ad bd c gp mo V) H1) : zMet l D cs y_BL_placeNamed c_BL_placeNamed 2 (some (FieldType.object "BranchLayout$Place")) ({ frames := 1, cells := 0, slots := 0, locals := 21 } : Room) [.ref o.1, .int x] (fun H => H = H1) (fun _ => False) (zqr fun r H => H = H1 ∧ r = zpn sc lc ad bd x) := by
  refine zmk (by decide) (Nat.le_of_ble_eq_true rfl) ?_
  intro p e s m below meth cd ls E hK hP0 hl
  have hS : va_S (fun _ => False) s.heap s.heap [] := va_S.rf
  have hP := hw.1
  rw [← hP0] at hP
  obtain ⟨hx, hb, hr, hts, hown, hlocks, hml, hin⟩ := id E
  have hl : lv_has ls 2 [(0, .ref o.1), (1, .int x)] := hl
  refine lv_iload_n hx hb d_BL_placeNamed_0 rfl (lv_at hl 1 rfl) ?_
  refine lv_if_lt (tgt := 12) hx hb d_BL_placeNamed_1 (by decide) (fun c_5 => ?_) (fun c_5 => ?_)
  · skip
    refine lv_aload_n hx hb d_BL_placeNamed_12 rfl (lv_at hl 0 rfl) ?_
    refine lv_bipush (v := (-2)) hx hb d_BL_placeNamed_13 (by decide) ?_
    refine lv_iload_n hx hb d_BL_placeNamed_15 rfl (lv_at hl 1 rfl) ?_
    refine lv_isub hx hb d_BL_placeNamed_16 ?_
    refine zcV [.int ((-2) - x)] [] E (t_BL_statementNumbered l D cs A o sc lc fa fb ad bd c gp mo V hn hf (-2 - x) H1 hw) d_BL_placeNamed_17 w_179 w_181 ws_BL_statementNumbered w_1 w_182 ⟨rfl, by decide +kernel, by decide +kernel, (by decide +kernel : Option.map (fun d => d.parameters.length) (parseMethodDescriptor "(I)LBranchLayout$Statement;") = some 1)⟩ ⟨(Nat.le_of_ble_eq_true rfl), (Nat.le_of_ble_eq_true rfl)⟩ ⟨(Nat.le_of_ble_eq_true rfl), (Nat.le_of_ble_eq_true rfl)⟩ rfl (Nat.le_of_ble_eq_true rfl) hl.1 (va_recv hK.1 hP (ci := 4) (q0 := 0) rfl (zb_x rfl)) hK hP0 hS (fun _ h => h) (zkr fun r H locs hq _ _ hS => ?_)
    refine zra (v := r) E (Or.inl ⟨_, rfl⟩) d_BL_placeNamed_20 hS (Nat.le_of_ble_eq_true rfl) (Nat.le_of_ble_eq_true rfl) ?_
    exact ⟨_, rfl, hq.1, by rw [hq.2]; simp only [zpn, c_5, if_true]⟩
  · skip
    refine lv_aload_n hx hb d_BL_placeNamed_4 rfl (lv_at hl 0 rfl) ?_
    refine lv_iload_n hx hb d_BL_placeNamed_5 rfl (lv_at hl 1 rfl) ?_
    refine zcV [.int x] [] E (t_BL_labelNumbered l D cs A o sc lc fa fb ad bd c gp mo V hn2 hf2 x H1 hw) d_BL_placeNamed_6 w_187 w_189 ws_BL_labelNumbered w_1 w_190 ⟨rfl, by decide +kernel, by decide +kernel, (by decide +kernel : Option.map (fun d => d.parameters.length) (parseMethodDescriptor "(I)LBranchLayout$Label;") = some 1)⟩ ⟨(Nat.le_of_ble_eq_true rfl), (Nat.le_of_ble_eq_true rfl)⟩ ⟨(Nat.le_of_ble_eq_true rfl), (Nat.le_of_ble_eq_true rfl)⟩ rfl (Nat.le_of_ble_eq_true rfl) hl.1 (va_recv hK.1 hP (ci := 4) (q0 := 0) rfl (zb_x rfl)) hK hP0 hS (fun _ h => h) (zkr fun r H locs hq _ _ hS => ?_)
    refine lv_goto (tgt := 20) hx hb d_BL_placeNamed_9 (by decide) ?_
    refine zra (v := r) E (Or.inl ⟨_, rfl⟩) d_BL_placeNamed_20 hS (Nat.le_of_ble_eq_true rfl) (Nat.le_of_ble_eq_true rfl) ?_
    exact ⟨_, rfl, hq.1, by rw [hq.2]; simp only [zpn, c_5, if_false]⟩
set_option maxHeartbeats 4000000 in
set_option maxRecDepth 100000 in
theorem t_BL_addStatement (l : Launch) (D : va_G) (cs : ClassId × ClassId × ClassId × ClassId) (A : Nat → Prop) (o : Nat × Nat × Nat × Nat) (sc lc : Nat) (fa fb : Nat → Option Nat) (z : Nat → Int32) (n k i0 b ci : Nat) (F G : Nat → Nat × va_E) (r0 : vw_C) (vs : List Value) (hsc : sc ≤ 4096) (hi0 : i0 < k) (hG : G i0 = (b, .inr (ci, vs))) (hc : zcl[ci]? = some r0) (hca : ∀ U, zN U → va_Nw (.castable r0.1 "BranchLayout$Statement") U) : zMet l D cs y_BL_addStatement c_BL_addStatement 2 (some FieldType.int) ({ frames := 0, cells := 0, slots := 0, locals := 0 } : Room) [.ref o.1, .ref b] (zH D A (zw_ws (zX o cs sc lc fa fb z) n F k G)) A (zqi fun r H => (sc < 4096 ∧ r = nI sc ∧ zH D A (zw_ws (zX o cs (sc + 1) lc (va_up fa sc (some b)) fb z) n F k G) H) ∨ (¬ sc < 4096 ∧ r = -1 ∧ zH D A (zw_ws (zX o cs sc lc fa fb z) n F k G) H)) := by
  refine zmk (by decide) (Nat.le_of_ble_eq_true rfl) ?_
  intro p e s m below meth cd ls E hK hP0 hl
  have hS : va_S A s.heap s.heap [] := va_S.rf
  obtain ⟨hP, hD⟩ := hP0
  obtain ⟨hx, hb, hr, hts, hown, hlocks, hml, hin⟩ := id E
  have hl : lv_has ls 2 [(0, .ref o.1), (1, .ref b)] := hl
  refine lv_aload_n hx hb d_BL_addStatement_0 rfl (lv_at hl 0 rfl) ?_
  refine va_get (D := D) (ci := 4) (v := .int (nI sc)) (C := "BranchLayout") (T := T_BL) (N := 5) hx hb hts in_BL hown hK.1 hP 0 (zw_x rfl) rfl 3 (by decide) (hts _ w_26) (fun _ h9 => h9) rfl d_BL_addStatement_1 ?_
  refine lv_aload_n hx hb d_BL_addStatement_4 rfl (lv_at hl 0 rfl) ?_
  refine va_get (D := D) (ci := 4) (v := .ref o.2.1) (C := "BranchLayout") (T := T_BL) (N := 5) hx hb hts in_BL hown hK.1 hP 0 (zw_x rfl) rfl 0 (by decide) (hts _ w_23) (fun _ h9 => h9) rfl d_BL_addStatement_5 ?_
  refine va_alen hx hb hK.1 hP 1 2 (zw_x rfl) rfl (v := nI 4096) rfl d_BL_addStatement_8 ?_
  refine lv_icmp_lt (tgt := 14) hx hb d_BL_addStatement_9 (by decide) (fun c_6 => ?_) (fun c_6 => ?_)
  · skip
    refine lv_aload_n hx hb d_BL_addStatement_14 rfl (lv_at hl 0 rfl) ?_
    refine va_get (D := D) (ci := 4) (v := .ref o.2.1) (C := "BranchLayout") (T := T_BL) (N := 5) hx hb hts in_BL hown hK.1 hP 0 (zw_x rfl) rfl 0 (by decide) (hts _ w_23) (fun _ h9 => h9) rfl d_BL_addStatement_15 ?_
    refine lv_aload_n hx hb d_BL_addStatement_18 rfl (lv_at hl 0 rfl) ?_
    refine va_get (D := D) (ci := 4) (v := .int (nI sc)) (C := "BranchLayout") (T := T_BL) (N := 5) hx hb hts in_BL hown hK.1 hP 0 (zw_x rfl) rfl 3 (by decide) (hts _ w_26) (fun _ h9 => h9) rfl d_BL_addStatement_19 ?_
    refine lv_aload_n hx hb d_BL_addStatement_22 rfl (lv_at hl 1 rfl) ?_
    have hlt : sc < 4096 := (nI_ltI (by omega) (by decide)).mp c_6
    have hg : (zw_ws (zX o cs sc lc fa fb z) n F k G)[4 + n + i0]? = some (b, .inr (ci, vs)) := by rw [← hG]; exact zw_g rfl hi0
    refine va_astqO hx hb hK.1 hP hD hS 1 2 (4 + n + i0) ci (zw_x rfl) rfl (hca s hK.2) hg hc (vp_in_nI hlt (by decide)) d_BL_addStatement_23 (fun H locs hP hD hS => ?_)
    rw [nI_clamp (show sc < 2 ^ 31 by omega), zw_setx (Nat.le_of_ble_eq_true rfl)] at hP hD
    have hP : va_P D zcl (zw_ws (zX o cs sc lc (va_up fa sc (some b)) fb z) n F k G) H := hP
    have hD : va_D A (zw_ws (zX o cs sc lc (va_up fa sc (some b)) fb z) n F k G) := hD
    refine lv_aload_n hx hb d_BL_addStatement_24 rfl (lv_at hl 0 rfl) ?_
    refine lv_dup hx hb d_BL_addStatement_25 rfl ?_
    refine va_get (D := D) (ci := 4) (v := .int (nI sc)) (C := "BranchLayout") (T := T_BL) (N := 5) hx hb hts in_BL hown hK.1 hP 0 (zw_x rfl) rfl 3 (by decide) (hts _ w_26) (fun _ h9 => h9) rfl d_BL_addStatement_26 ?_
    refine lv_dup_x1 hx hb d_BL_addStatement_29 rfl rfl ?_
    refine lv_iconst (v := 1) hx hb d_BL_addStatement_30 (by decide) ?_
    refine lv_iadd hx hb d_BL_addStatement_31 ?_
    refine va_put (D := D) (ci := 4) (v := .int (nI sc + 1)) (ty := .int) (C := "BranchLayout") (T := T_BL) (N := 5) hx hb hts in_BL ty_BL ok_BL nm_BL hown hK.1 hP hD hS 0 (zw_x rfl) rfl 3 (by decide) (hts _ w_26) (fun _ h9 => h9) rfl (by decide +kernel) rfl rfl (Nat.le_of_ble_eq_true rfl) d_BL_addStatement_32 (fun H locs hP hD hS => ?_)
    rw [zw_setx (Nat.le_of_ble_eq_true rfl), nI_1] at hP hD
    refine zri E d_BL_addStatement_35 hS (Nat.le_of_ble_eq_true rfl) (Nat.le_of_ble_eq_true rfl) ?_
    exact ⟨_, rfl, Or.inl ⟨hlt, rfl, hP, hD⟩⟩
  · skip
    refine lv_iconst (v := (-1)) hx hb d_BL_addStatement_12 (by decide) ?_
    refine zri E d_BL_addStatement_13 hS (Nat.le_of_ble_eq_true rfl) (Nat.le_of_ble_eq_true rfl) ?_
    exact ⟨_, rfl, Or.inr ⟨fun q => c_6 (nI_lt q (by decide)), rfl, hP, hD⟩⟩
