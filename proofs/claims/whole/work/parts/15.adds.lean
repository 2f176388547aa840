/-- the class's object, by its pure state -/
def zCW (D : va_G) (A : Nat → Prop) (o : Nat × Nat × Nat × Nat) (cs : ClassId × ClassId × ClassId × ClassId) (sc lc : Nat) (c : Nat → Nat → Nat) (gp mo : Nat → Int32) (V : Nat → Nat → Int32) (H : Heap) : Prop := ∃ (fa fb : Nat → Option Nat) (ad bd : Nat → Nat), (∀ k, k < sc → fa k = some (ad k)) ∧ (∀ j, j < lc → fb j = some (bd j)) ∧ zH D A (zB o cs sc lc fa fb ad bd c gp mo V) H
/-- what is asked of a new statement -/
def zgd (kd : Nat) (x n : Int32) : Prop := zsec x = true ∧ ((kd = 0 ∧ ¬ n < 0 ∧ ¬ 65536 < n) ∨ (kd = 1 ∧ zisal n = true) ∨ (kd = 2 ∧ (n = 5 ∨ n = 6)))
/-- a new statement's answer and state: W old or new -/
def zadd (kd sc : Nat) (x n : Int32) (Wo Wn : Heap → Prop) (r : Int32) (H : Heap) : Prop := (zgd kd x n ∧ sc < 4096 ∧ r = nI sc ∧ Wn H) ∨ (¬ (zgd kd x n ∧ sc < 4096) ∧ r = -1 ∧ Wo H)
theorem zsec_pos {x : Int32} (h : zsec x = true) : ¬ x < 0 := (of_decide_eq_true h).1
theorem zx_cut {D : va_G} {A : Nat → Prop} {H : Heap} {X : va_W} {n k : Nat} {F : Nat → Nat × va_E} {bd : Nat → Nat} {c : Nat → Nat → Nat} {V : Nat → Nat → Int32} {q : Nat} {e : va_E} (h : zH D A (zw_ws X n F (k + 1) (zGx bd c V k q e)) H) : zH D A (zw_ws X n F k (fun j => (bd j, zlab c V j))) H := by
  rw [← zw_pushg (G := fun j => (bd j, zlab c V j)) (fun i hi => by simp [zGx, Nat.ne_of_lt hi]) (q := (q, e)) (by simp [zGx])] at h
  have hg : ∀ (i : Nat) (q2 : Nat × va_E), (zw_ws X n F k (fun j => (bd j, zlab c V j)))[i]? = some q2 → (zw_ws X n F k (fun j => (bd j, zlab c V j)) ++ [(q, e)])[i]? = some q2 := fun i q2 h2 => by
    rw [List.getElem?_append_left (List.getElem?_eq_some_iff.mp h2).1]
    exact h2
  exact ⟨h.1.by id hg, h.2.by id hg (fun i j _ _ h => h)⟩
set_option maxHeartbeats 4000000 in
set_option maxRecDepth 100000 in
theorem t_BL_bytes (l : Launch) (D : va_G) (cs : ClassId × ClassId × ClassId × ClassId) (A : Nat → Prop) (o : Nat × Nat × Nat × Nat) (sc lc : Nat) (c : Nat → Nat → Nat) (gp mo : Nat → Int32) (V : Nat → Nat → Int32) (hI : zI sc lc c gp) (x n : Int32) : zMet l D cs y_BL_bytes c_BL_bytes 3 (some FieldType.int) ({ frames := 4, cells := 1, slots := 4, locals := 76 } : Room) [.ref o.1, .int x, .int n] (fun H => zCW D A o cs sc lc c gp mo V H ∧ ∀ q, H.size ≤ q → A q) A (zqi (zadd 0 sc x n (zCW D A o cs sc lc c gp mo V) (zCW D A o cs (sc + 1) lc (zac c sc 0 x n) (upd gp sc (-1)) (upd mo sc 0) (zaV V sc)))) := by
  refine zmk (by decide) (Nat.le_of_ble_eq_true rfl) ?_
  intro p e s m below meth cd ls E hK hP0 hl
  have hS : va_S A s.heap s.heap [] := va_S.rf
  obtain ⟨hW, hA⟩ := hP0
  obtain ⟨fa, fb, ad, bd, hfa, hfb, hP, hD⟩ := id hW
  obtain ⟨hx, hb, hr, hts, hown, hlocks, hml, hin⟩ := id E
  have hl : lv_has ls 3 [(0, .ref o.1), (1, .int x), (2, .int n)] := hl
  refine lv_iload_n hx hb d_BL_bytes_0 rfl (lv_at hl 1 rfl) ?_
  refine zcS [.int x] [] E (t_BL_isSection l D cs x s.heap) d_BL_bytes_1 w_51 w_52 w_1 w_53 ⟨by decide +kernel, by decide +kernel, (by decide +kernel : Option.map (fun d => d.parameters.length) (parseMethodDescriptor "(I)Z") = some 1)⟩ ⟨(Nat.le_of_ble_eq_true rfl), (Nat.le_of_ble_eq_true rfl)⟩ ⟨(Nat.le_of_ble_eq_true rfl), (Nat.le_of_ble_eq_true rfl)⟩ rfl (Nat.le_of_ble_eq_true rfl) hl.1 hK rfl hS (fun _ h => h.elim) (zki fun r H locs hq _ _ hS => ?_)
  obtain ⟨rfl, rfl⟩ := hq
  refine lv_if_eq (tgt := 17) hx hb d_BL_bytes_4 (by decide) (fun c_25 => ?_) (fun c_25 => ?_)
  · skip
    have hsec : zsec x = false := by cases hz : zsec x with | false => rfl | true => simp [hz] at c_25
    refine lv_iconst (v := (-1)) hx hb d_BL_bytes_17 (by decide) ?_
    refine zri E d_BL_bytes_18 hS (Nat.le_of_ble_eq_true rfl) (Nat.le_of_ble_eq_true rfl) ?_
    exact ⟨_, rfl, Or.inr ⟨fun q => (by have q1 := q.1.1; rw [hsec] at q1; exact Bool.noConfusion q1), rfl, hW⟩⟩
  · skip
    have hsec : zsec x = true := by cases hz : zsec x with | true => rfl | false => simp [hz] at c_25
    have hx0 := zsec_pos hsec
    refine lv_iload_n hx hb d_BL_bytes_7 rfl (lv_at hl 2 rfl) ?_
    refine lv_if_lt (tgt := 17) hx hb d_BL_bytes_8 (by decide) (fun c_26 => ?_) (fun c_26 => ?_)
    · skip
      refine lv_iconst (v := (-1)) hx hb d_BL_bytes_17 (by decide) ?_
      refine zri E d_BL_bytes_18 hS (Nat.le_of_ble_eq_true rfl) (Nat.le_of_ble_eq_true rfl) ?_
      refine ⟨_, rfl, Or.inr ⟨fun q => ?_, rfl, hW⟩⟩
      obtain ⟨⟨-, q⟩, -⟩ := q
      rcases q with ⟨-, q1, q2⟩ | ⟨q1, -⟩ | ⟨q1, -⟩
      · exact q1 c_26
      · exact absurd q1 (by decide)
      · exact absurd q1 (by decide)
    · skip
      refine lv_iload_n hx hb d_BL_bytes_11 rfl (lv_at hl 2 rfl) ?_
      refine lv_ldc (v := 65536) hx hb hown (hts _ w_54) d_BL_bytes_12 ?_
      refine lv_icmp_le (tgt := 19) hx hb d_BL_bytes_14 (by decide) (fun c_27 => ?_) (fun c_27 => ?_)
      · skip
        have hgd : zgd 0 x n := ⟨hsec, Or.inl ⟨rfl, c_26, Int32.not_lt.mpr c_27⟩⟩
        have hn0 : ¬ n < 0 := c_26
        refine lv_aload_n hx hb d_BL_bytes_19 rfl (lv_at hl 0 rfl) ?_
        refine va_new (ci := 2) (fs := [.int 0, .int 0, .int 0, .int 0]) (C := "BranchLayout$Bytes") (T := T_By) (N := 4) hx hb hts in_By ty_By ok_By hown (hts _ w_55) (hts _ w_56) (hts _ w_6) hK.1 hP hD hS hA rfl (fun j hj => by rcases (show j = 0 ∨ j = 1 ∨ j = 2 ∨ j = 3 by omega) with rfl | rfl | rfl | rfl <;> rfl) (Nat.le_of_ble_eq_true rfl) (Nat.le_of_ble_eq_true rfl) d_BL_bytes_20 (fun q H hP hD hS => ?_)
        have hw := zx_new ⟨hP, hD⟩
        have hAq : A q := hw.2.2 _ _ (zx_at rfl)
        refine lv_dup hx hb d_BL_bytes_23 rfl ?_
        refine lv_iload_n hx hb d_BL_bytes_24 rfl (lv_at hl 1 rfl) ?_
        refine lv_iload_n hx hb d_BL_bytes_25 rfl (lv_at hl 2 rfl) ?_
        refine zcI [.int x, .int n] [.ref q, .ref o.1] E (t_By_init l D cs q x n) d_BL_bytes_26 w_57 w_58 w_6 w_59 rfl ⟨by decide +kernel, by decide +kernel, (by decide +kernel : Option.map (fun d => d.parameters.length) (parseMethodDescriptor "(II)V") = some 2)⟩ ⟨(Nat.le_of_ble_eq_true rfl), (Nat.le_of_ble_eq_true rfl)⟩ ⟨(Nat.le_of_ble_eq_true rfl), (Nat.le_of_ble_eq_true rfl)⟩ rfl (Nat.le_of_ble_eq_true rfl) hl.1 hK (zat hw (zx_at rfl)) hS (fun q2 h => by rw [h]; exact hAq) (zkv fun H1 locs hq _ hk hS => ?_)
        have hw := zx_set rfl hw hq hk
        refine zcV [.ref q] [] E (t_BL_addStatement l D cs A o sc lc fa fb (V 5) sc (lc + 1) lc q 2 (fun k => (ad k, zcell c gp mo V ad bd k)) _ _ _ hI.1 (Nat.lt_succ_self lc) (by simp [zGx]; rfl) rfl (fun U h => h.2.2.2.2.2.2.2.1)) d_BL_bytes_29 w_97 w_99 ws_BL_addStatement w_1 w_100 ⟨rfl, by decide +kernel, by decide +kernel, (by decide +kernel : Option.map (fun d => d.parameters.length) (parseMethodDescriptor "(LBranchLayout$Statement;)I") = some 1)⟩ ⟨(Nat.le_of_ble_eq_true rfl), (Nat.le_of_ble_eq_true rfl)⟩ ⟨(Nat.le_of_ble_eq_true rfl), (Nat.le_of_ble_eq_true rfl)⟩ rfl (Nat.le_of_ble_eq_true rfl) hl.1 (va_recv hK.1 hw.1 (ci := 4) (q0 := 0) rfl (zw_x rfl)) hK hw hS (fun _ h => h) (zki fun r H2 locs hq _ _ hS => ?_)
        refine zri E d_BL_bytes_32 hS (Nat.le_of_ble_eq_true rfl) (Nat.le_of_ble_eq_true rfl) ?_
        refine ⟨_, rfl, ?_⟩
        rcases hq with ⟨h1, h2, h3⟩ | ⟨h1, h2, h3⟩
        · refine Or.inl ⟨hgd, h1, h2, va_up fa sc (some q), fb, va_up ad sc q, bd, fun k hk => ?_, hfb, zb_add hI rfl ?_ h3⟩
          · by_cases hks : k = sc
            · subst hks; rw [va_up_self, va_up_self]
            · rw [va_up_ne _ _ hks, va_up_ne _ _ hks]; exact hfa k (by omega)
          · simp only [zcell, zac, zaV, upd, true_and, if_true, show ¬ ((0 : Nat) = 2) by decide, show ¬ ((0 : Nat) = 1) by decide, show ¬ ((1 : Nat) = 2) by decide, show ¬ ((1 : Nat) = 0) by decide, show ¬ ((2 : Nat) = 0) by decide, show ¬ ((2 : Nat) = 1) by decide, show (0 : Nat) < 4 by decide, show (1 : Nat) < 4 by decide, show (2 : Nat) < 4 by decide, show (3 : Nat) < 4 by decide, if_false, zclamp hx0, zclamp hn0, zga]
            try rfl
        · refine Or.inr ⟨fun q => h1 q.2, h2, fa, fb, ad, bd, hfa, hfb, ?_⟩
          exact zx_cut h3
      · skip
        refine lv_iconst (v := (-1)) hx hb d_BL_bytes_17 (by decide) ?_
        refine zri E d_BL_bytes_18 hS (Nat.le_of_ble_eq_true rfl) (Nat.le_of_ble_eq_true rfl) ?_
        refine ⟨_, rfl, Or.inr ⟨fun q => ?_, rfl, hW⟩⟩
        obtain ⟨⟨-, q⟩, -⟩ := q
        rcases q with ⟨-, q1, q2⟩ | ⟨q1, -⟩ | ⟨q1, -⟩
        · exact q2 (Int32.not_le.mp c_27)
        · exact absurd q1 (by decide)
        · exact absurd q1 (by decide)
set_option maxHeartbeats 4000000 in
set_option maxRecDepth 100000 in
theorem t_BL_align (l : Launch) (D : va_G) (cs : ClassId × ClassId × ClassId × ClassId) (A : Nat → Prop) (o : Nat × Nat × Nat × Nat) (sc lc : Nat) (c : Nat → Nat → Nat) (gp mo : Nat → Int32) (V : Nat → Nat → Int32) (hI : zI sc lc c gp) (x n : Int32) : zMet l D cs y_BL_align c_BL_align 3 (some FieldType.int) ({ frames := 4, cells := 1, slots := 4, locals := 76 } : Room) [.ref o.1, .int x, .int n] (fun H => zCW D A o cs sc lc c gp mo V H ∧ ∀ q, H.size ≤ q → A q) A (zqi (zadd 1 sc x n (zCW D A o cs sc lc c gp mo V) (zCW D A o cs (sc + 1) lc (zac c sc 1 x n) (upd gp sc (-1)) (upd mo sc 0) (zaV V sc)))) := by
  refine zmk (by decide) (Nat.le_of_ble_eq_true rfl) ?_
  intro p e s m below meth cd ls E hK hP0 hl
  have hS : va_S A s.heap s.heap [] := va_S.rf
  obtain ⟨hW, hA⟩ := hP0
  obtain ⟨fa, fb, ad, bd, hfa, hfb, hP, hD⟩ := id hW
  obtain ⟨hx, hb, hr, hts, hown, hlocks, hml, hin⟩ := id E
  have hl : lv_has ls 3 [(0, .ref o.1), (1, .int x), (2, .int n)] := hl
  refine lv_iload_n hx hb d_BL_align_0 rfl (lv_at hl 1 rfl) ?_
  refine zcS [.int x] [] E (t_BL_isSection l D cs x s.heap) d_BL_align_1 w_51 w_52 w_1 w_53 ⟨by decide +kernel, by decide +kernel, (by decide +kernel : Option.map (fun d => d.parameters.length) (parseMethodDescriptor "(I)Z") = some 1)⟩ ⟨(Nat.le_of_ble_eq_true rfl), (Nat.le_of_ble_eq_true rfl)⟩ ⟨(Nat.le_of_ble_eq_true rfl), (Nat.le_of_ble_eq_true rfl)⟩ rfl (Nat.le_of_ble_eq_true rfl) hl.1 hK rfl hS (fun _ h => h.elim) (zki fun r H locs hq _ _ hS => ?_)
  obtain ⟨rfl, rfl⟩ := hq
  refine lv_if_eq (tgt := 14) hx hb d_BL_align_4 (by decide) (fun c_28 => ?_) (fun c_28 => ?_)
  · skip
    have hsec : zsec x = false := by cases hz : zsec x with | false => rfl | true => simp [hz] at c_28
    refine lv_iconst (v := (-1)) hx hb d_BL_align_14 (by decide) ?_
    refine zri E d_BL_align_15 hS (Nat.le_of_ble_eq_true rfl) (Nat.le_of_ble_eq_true rfl) ?_
    exact ⟨_, rfl, Or.inr ⟨fun q => (by have q1 := q.1.1; rw [hsec] at q1; exact Bool.noConfusion q1), rfl, hW⟩⟩
  · skip
    have hsec : zsec x = true := by cases hz : zsec x with | true => rfl | false => simp [hz] at c_28
    have hx0 := zsec_pos hsec
    refine lv_iload_n hx hb d_BL_align_7 rfl (lv_at hl 2 rfl) ?_
    refine zcS [.int n] [] E (t_BL_isAlignment l D cs n s.heap) d_BL_align_8 w_105 w_106 w_1 w_107 ⟨by decide +kernel, by decide +kernel, (by decide +kernel : Option.map (fun d => d.parameters.length) (parseMethodDescriptor "(I)Z") = some 1)⟩ ⟨(Nat.le_of_ble_eq_true rfl), (Nat.le_of_ble_eq_true rfl)⟩ ⟨(Nat.le_of_ble_eq_true rfl), (Nat.le_of_ble_eq_true rfl)⟩ rfl (Nat.le_of_ble_eq_true rfl) hl.1 hK rfl hS (fun _ h => h.elim) (zki fun r H locs hq _ _ hS => ?_)
    obtain ⟨rfl, rfl⟩ := hq
    refine lv_if_ne (tgt := 16) hx hb d_BL_align_11 (by decide) (fun c_29 => ?_) (fun c_29 => ?_)
    · skip
      have hal : zisal n = true := by cases hz : zisal n with | true => rfl | false => simp [hz] at c_29
      have hgd : zgd 1 x n := ⟨hsec, Or.inr (Or.inl ⟨rfl, hal⟩)⟩
      have hn0 : ¬ n < 0 := fun q => (of_decide_eq_true hal).1 (Int32.lt_trans q (by decide))
      refine lv_aload_n hx hb d_BL_align_16 rfl (lv_at hl 0 rfl) ?_
      refine va_new (ci := 0) (fs := [.int 0, .int 0, .int 0, .int 0]) (C := "BranchLayout$Alignment") (T := T_Al) (N := 4) hx hb hts in_Al ty_Al ok_Al hown (hts _ w_114) (hts _ w_115) (hts _ w_8) hK.1 hP hD hS hA rfl (fun j hj => by rcases (show j = 0 ∨ j = 1 ∨ j = 2 ∨ j = 3 by omega) with rfl | rfl | rfl | rfl <;> rfl) (Nat.le_of_ble_eq_true rfl) (Nat.le_of_ble_eq_true rfl) d_BL_align_17 (fun q H hP hD hS => ?_)
      have hw := zx_new ⟨hP, hD⟩
      have hAq : A q := hw.2.2 _ _ (zx_at rfl)
      refine lv_dup hx hb d_BL_align_20 rfl ?_
      refine lv_iload_n hx hb d_BL_align_21 rfl (lv_at hl 1 rfl) ?_
      refine lv_iload_n hx hb d_BL_align_22 rfl (lv_at hl 2 rfl) ?_
      refine zcI [.int x, .int n] [.ref q, .ref o.1] E (t_Al_init l D cs q x n) d_BL_align_23 w_116 w_117 w_8 w_118 rfl ⟨by decide +kernel, by decide +kernel, (by decide +kernel : Option.map (fun d => d.parameters.length) (parseMethodDescriptor "(II)V") = some 2)⟩ ⟨(Nat.le_of_ble_eq_true rfl), (Nat.le_of_ble_eq_true rfl)⟩ ⟨(Nat.le_of_ble_eq_true rfl), (Nat.le_of_ble_eq_true rfl)⟩ rfl (Nat.le_of_ble_eq_true rfl) hl.1 hK (zat hw (zx_at rfl)) hS (fun q2 h => by rw [h]; exact hAq) (zkv fun H1 locs hq _ hk hS => ?_)
      have hw := zx_set rfl hw hq hk
      refine zcV [.ref q] [] E (t_BL_addStatement l D cs A o sc lc fa fb (V 5) sc (lc + 1) lc q 0 (fun k => (ad k, zcell c gp mo V ad bd k)) _ _ _ hI.1 (Nat.lt_succ_self lc) (by simp [zGx]; rfl) rfl (fun U h => h.2.2.2.2.2.1)) d_BL_align_26 w_97 w_99 ws_BL_addStatement w_1 w_100 ⟨rfl, by decide +kernel, by decide +kernel, (by decide +kernel : Option.map (fun d => d.parameters.length) (parseMethodDescriptor "(LBranchLayout$Statement;)I") = some 1)⟩ ⟨(Nat.le_of_ble_eq_true rfl), (Nat.le_of_ble_eq_true rfl)⟩ ⟨(Nat.le_of_ble_eq_true rfl), (Nat.le_of_ble_eq_true rfl)⟩ rfl (Nat.le_of_ble_eq_true rfl) hl.1 (va_recv hK.1 hw.1 (ci := 4) (q0 := 0) rfl (zw_x rfl)) hK hw hS (fun _ h => h) (zki fun r H2 locs hq _ _ hS => ?_)
      refine zri E d_BL_align_29 hS (Nat.le_of_ble_eq_true rfl) (Nat.le_of_ble_eq_true rfl) ?_
      refine ⟨_, rfl, ?_⟩
      rcases hq with ⟨h1, h2, h3⟩ | ⟨h1, h2, h3⟩
      · refine Or.inl ⟨hgd, h1, h2, va_up fa sc (some q), fb, va_up ad sc q, bd, fun k hk => ?_, hfb, zb_add hI rfl ?_ h3⟩
        · by_cases hks : k = sc
          · subst hks; rw [va_up_self, va_up_self]
          · rw [va_up_ne _ _ hks, va_up_ne _ _ hks]; exact hfa k (by omega)
        · simp only [zcell, zac, zaV, upd, true_and, if_true, show ¬ ((0 : Nat) = 2) by decide, show ¬ ((0 : Nat) = 1) by decide, show ¬ ((1 : Nat) = 2) by decide, show ¬ ((1 : Nat) = 0) by decide, show ¬ ((2 : Nat) = 0) by decide, show ¬ ((2 : Nat) = 1) by decide, show (0 : Nat) < 4 by decide, show (1 : Nat) < 4 by decide, show (2 : Nat) < 4 by decide, show (3 : Nat) < 4 by decide, if_false, zclamp hx0, zclamp hn0, zga]
          try rfl
      · refine Or.inr ⟨fun q => h1 q.2, h2, fa, fb, ad, bd, hfa, hfb, ?_⟩
        exact zx_cut h3
    · skip
      have hal : zisal n = false := by cases hz : zisal n with | false => rfl | true => simp [hz] at c_29
      refine lv_iconst (v := (-1)) hx hb d_BL_align_14 (by decide) ?_
      refine zri E d_BL_align_15 hS (Nat.le_of_ble_eq_true rfl) (Nat.le_of_ble_eq_true rfl) ?_
      refine ⟨_, rfl, Or.inr ⟨fun q => ?_, rfl, hW⟩⟩
      obtain ⟨⟨-, q⟩, -⟩ := q
      rcases q with ⟨q1, -⟩ | ⟨-, q1⟩ | ⟨q1, -⟩
      · exact absurd q1 (by decide)
      · rw [hal] at q1; exact Bool.noConfusion q1
      · exact absurd q1 (by decide)
set_option maxHeartbeats 4000000 in
set_option maxRecDepth 100000 in
theorem t_BL_branch (l : Launch) (D : va_G) (cs : ClassId × ClassId × ClassId × ClassId) (A : Nat → Prop) (o : Nat × Nat × Nat × Nat) (sc lc : Nat) (c : Nat → Nat → Nat) (gp mo : Nat → Int32) (V : Nat → Nat → Int32) (hI : zI sc lc c gp) (x n : Int32) : zMet l D cs y_BL_branch c_BL_branch 3 (some FieldType.int) ({ frames := 4, cells := 1, slots := 8, locals := 76 } : Room) [.ref o.1, .int x, .int n] (fun H => zCW D A o cs sc lc c gp mo V H ∧ ∀ q, H.size ≤ q → A q) A (zqi (zadd 2 sc x n (zCW D A o cs sc lc c gp mo V) (zCW D A o cs (sc + 1) lc (zac c sc 2 x n) (upd gp sc (-1)) (upd mo sc 0) (zaV V sc)))) := by
  refine zmk (by decide) (Nat.le_of_ble_eq_true rfl) ?_
  intro p e s m below meth cd ls E hK hP0 hl
  have hS : va_S A s.heap s.heap [] := va_S.rf
  obtain ⟨hW, hA⟩ := hP0
  obtain ⟨fa, fb, ad, bd, hfa, hfb, hP, hD⟩ := id hW
  obtain ⟨hx, hb, hr, hts, hown, hlocks, hml, hin⟩ := id E
  have hl : lv_has ls 3 [(0, .ref o.1), (1, .int x), (2, .int n)] := hl
  refine lv_iload_n hx hb d_BL_branch_0 rfl (lv_at hl 1 rfl) ?_
  refine zcS [.int x] [] E (t_BL_isSection l D cs x s.heap) d_BL_branch_1 w_51 w_52 w_1 w_53 ⟨by decide +kernel, by decide +kernel, (by decide +kernel : Option.map (fun d => d.parameters.length) (parseMethodDescriptor "(I)Z") = some 1)⟩ ⟨(Nat.le_of_ble_eq_true rfl), (Nat.le_of_ble_eq_true rfl)⟩ ⟨(Nat.le_of_ble_eq_true rfl), (Nat.le_of_ble_eq_true rfl)⟩ rfl (Nat.le_of_ble_eq_true rfl) hl.1 hK rfl hS (fun _ h => h.elim) (zki fun r H locs hq _ _ hS => ?_)
  obtain ⟨rfl, rfl⟩ := hq
  refine lv_if_eq (tgt := 18) hx hb d_BL_branch_4 (by decide) (fun c_30 => ?_) (fun c_30 => ?_)
  · skip
    have hsec : zsec x = false := by cases hz : zsec x with | false => rfl | true => simp [hz] at c_30
    refine lv_iconst (v := (-1)) hx hb d_BL_branch_18 (by decide) ?_
    refine zri E d_BL_branch_19 hS (Nat.le_of_ble_eq_true rfl) (Nat.le_of_ble_eq_true rfl) ?_
    exact ⟨_, rfl, Or.inr ⟨fun q => (by have q1 := q.1.1; rw [hsec] at q1; exact Bool.noConfusion q1), rfl, hW⟩⟩
  · skip
    have hsec : zsec x = true := by cases hz : zsec x with | true => rfl | false => simp [hz] at c_30
    have hx0 := zsec_pos hsec
    refine lv_iload_n hx hb d_BL_branch_7 rfl (lv_at hl 2 rfl) ?_
    refine lv_iconst (v := 5) hx hb d_BL_branch_8 (by decide) ?_
    refine lv_icmp_eq (tgt := 20) hx hb d_BL_branch_9 (by decide) (fun c_31 => ?_) (fun c_31 => ?_)
    · skip
      have hgd : zgd 2 x n := ⟨hsec, Or.inr (Or.inr ⟨rfl, Or.inl c_31⟩)⟩
      have hn0 : ¬ n < 0 := by rw [c_31]; decide
      refine lv_aload_n hx hb d_BL_branch_20 rfl (lv_at hl 0 rfl) ?_
      refine va_new (ci := 1) (fs := [.int 0, .int 0, .int 0, .int 0, .null, .int 0, .int 0, .int 0]) (C := "BranchLayout$Branch") (T := T_Br) (N := 8) hx hb hts in_Br ty_Br ok_Br hown (hts _ w_131) (hts _ w_132) (hts _ w_9) hK.1 hP hD hS hA rfl (fun j hj => by rcases (show j = 0 ∨ j = 1 ∨ j = 2 ∨ j = 3 ∨ j = 4 ∨ j = 5 ∨ j = 6 ∨ j = 7 by omega) with rfl | rfl | rfl | rfl | rfl | rfl | rfl | rfl <;> rfl) (Nat.le_of_ble_eq_true rfl) (Nat.le_of_ble_eq_true rfl) d_BL_branch_21 (fun q H hP hD hS => ?_)
      have hw := zx_new ⟨hP, hD⟩
      have hAq : A q := hw.2.2 _ _ (zx_at rfl)
      refine lv_dup hx hb d_BL_branch_24 rfl ?_
      refine lv_iload_n hx hb d_BL_branch_25 rfl (lv_at hl 1 rfl) ?_
      refine lv_iload_n hx hb d_BL_branch_26 rfl (lv_at hl 2 rfl) ?_
      refine zcI [.int x, .int n] [.ref q, .ref o.1] E (t_Br_init l D cs q x n) d_BL_branch_27 w_133 w_134 w_9 w_135 rfl ⟨by decide +kernel, by decide +kernel, (by decide +kernel : Option.map (fun d => d.parameters.length) (parseMethodDescriptor "(II)V") = some 2)⟩ ⟨(Nat.le_of_ble_eq_true rfl), (Nat.le_of_ble_eq_true rfl)⟩ ⟨(Nat.le_of_ble_eq_true rfl), (Nat.le_of_ble_eq_true rfl)⟩ rfl (Nat.le_of_ble_eq_true rfl) hl.1 hK (zat hw (zx_at rfl)) hS (fun q2 h => by rw [h]; exact hAq) (zkv fun H1 locs hq _ hk hS => ?_)
      have hw := zx_set rfl hw hq hk
      refine zcV [.ref q] [] E (t_BL_addStatement l D cs A o sc lc fa fb (V 5) sc (lc + 1) lc q 1 (fun k => (ad k, zcell c gp mo V ad bd k)) _ _ _ hI.1 (Nat.lt_succ_self lc) (by simp [zGx]; rfl) rfl (fun U h => h.2.2.2.2.2.2.1)) d_BL_branch_30 w_97 w_99 ws_BL_addStatement w_1 w_100 ⟨rfl, by decide +kernel, by decide +kernel, (by decide +kernel : Option.map (fun d => d.parameters.length) (parseMethodDescriptor "(LBranchLayout$Statement;)I") = some 1)⟩ ⟨(Nat.le_of_ble_eq_true rfl), (Nat.le_of_ble_eq_true rfl)⟩ ⟨(Nat.le_of_ble_eq_true rfl), (Nat.le_of_ble_eq_true rfl)⟩ rfl (Nat.le_of_ble_eq_true rfl) hl.1 (va_recv hK.1 hw.1 (ci := 4) (q0 := 0) rfl (zw_x rfl)) hK hw hS (fun _ h => h) (zki fun r H2 locs hq _ _ hS => ?_)
      refine zri E d_BL_branch_33 hS (Nat.le_of_ble_eq_true rfl) (Nat.le_of_ble_eq_true rfl) ?_
      refine ⟨_, rfl, ?_⟩
      rcases hq with ⟨h1, h2, h3⟩ | ⟨h1, h2, h3⟩
      · refine Or.inl ⟨hgd, h1, h2, va_up fa sc (some q), fb, va_up ad sc q, bd, fun k hk => ?_, hfb, zb_add hI rfl ?_ h3⟩
        · by_cases hks : k = sc
          · subst hks; rw [va_up_self, va_up_self]
          · rw [va_up_ne _ _ hks, va_up_ne _ _ hks]; exact hfa k (by omega)
        · simp only [zcell, zac, zaV, upd, true_and, if_true, show ¬ ((0 : Nat) = 2) by decide, show ¬ ((0 : Nat) = 1) by decide, show ¬ ((1 : Nat) = 2) by decide, show ¬ ((1 : Nat) = 0) by decide, show ¬ ((2 : Nat) = 0) by decide, show ¬ ((2 : Nat) = 1) by decide, show (0 : Nat) < 4 by decide, show (1 : Nat) < 4 by decide, show (2 : Nat) < 4 by decide, show (3 : Nat) < 4 by decide, if_false, zclamp hx0, zclamp hn0, zga]
          try rfl
      · refine Or.inr ⟨fun q => h1 q.2, h2, fa, fb, ad, bd, hfa, hfb, ?_⟩
        exact zx_cut h3
    · skip
      refine lv_iload_n hx hb d_BL_branch_12 rfl (lv_at hl 2 rfl) ?_
      refine lv_bipush (v := 6) hx hb d_BL_branch_13 (by decide) ?_
      refine lv_icmp_eq (tgt := 20) hx hb d_BL_branch_15 (by decide) (fun c_32 => ?_) (fun c_32 => ?_)
      · skip
        have hgd : zgd 2 x n := ⟨hsec, Or.inr (Or.inr ⟨rfl, Or.inr c_32⟩)⟩
        have hn0 : ¬ n < 0 := by rw [c_32]; decide
        refine lv_aload_n hx hb d_BL_branch_20 rfl (lv_at hl 0 rfl) ?_
        refine va_new (ci := 1) (fs := [.int 0, .int 0, .int 0, .int 0, .null, .int 0, .int 0, .int 0]) (C := "BranchLayout$Branch") (T := T_Br) (N := 8) hx hb hts in_Br ty_Br ok_Br hown (hts _ w_131) (hts _ w_132) (hts _ w_9) hK.1 hP hD hS hA rfl (fun j hj => by rcases (show j = 0 ∨ j = 1 ∨ j = 2 ∨ j = 3 ∨ j = 4 ∨ j = 5 ∨ j = 6 ∨ j = 7 by omega) with rfl | rfl | rfl | rfl | rfl | rfl | rfl | rfl <;> rfl) (Nat.le_of_ble_eq_true rfl) (Nat.le_of_ble_eq_true rfl) d_BL_branch_21 (fun q H hP hD hS => ?_)
        have hw := zx_new ⟨hP, hD⟩
        have hAq : A q := hw.2.2 _ _ (zx_at rfl)
        refine lv_dup hx hb d_BL_branch_24 rfl ?_
        refine lv_iload_n hx hb d_BL_branch_25 rfl (lv_at hl 1 rfl) ?_
        refine lv_iload_n hx hb d_BL_branch_26 rfl (lv_at hl 2 rfl) ?_
        refine zcI [.int x, .int n] [.ref q, .ref o.1] E (t_Br_init l D cs q x n) d_BL_branch_27 w_133 w_134 w_9 w_135 rfl ⟨by decide +kernel, by decide +kernel, (by decide +kernel : Option.map (fun d => d.parameters.length) (parseMethodDescriptor "(II)V") = some 2)⟩ ⟨(Nat.le_of_ble_eq_true rfl), (Nat.le_of_ble_eq_true rfl)⟩ ⟨(Nat.le_of_ble_eq_true rfl), (Nat.le_of_ble_eq_true rfl)⟩ rfl (Nat.le_of_ble_eq_true rfl) hl.1 hK (zat hw (zx_at rfl)) hS (fun q2 h => by rw [h]; exact hAq) (zkv fun H1 locs hq _ hk hS => ?_)
        have hw := zx_set rfl hw hq hk
        refine zcV [.ref q] [] E (t_BL_addStatement l D cs A o sc lc fa fb (V 5) sc (lc + 1) lc q 1 (fun k => (ad k, zcell c gp mo V ad bd k)) _ _ _ hI.1 (Nat.lt_succ_self lc) (by simp [zGx]; rfl) rfl (fun U h => h.2.2.2.2.2.2.1)) d_BL_branch_30 w_97 w_99 ws_BL_addStatement w_1 w_100 ⟨rfl, by decide +kernel, by decide +kernel, (by decide +kernel : Option.map (fun d => d.parameters.length) (parseMethodDescriptor "(LBranchLayout$Statement;)I") = some 1)⟩ ⟨(Nat.le_of_ble_eq_true rfl), (Nat.le_of_ble_eq_true rfl)⟩ ⟨(Nat.le_of_ble_eq_true rfl), (Nat.le_of_ble_eq_true rfl)⟩ rfl (Nat.le_of_ble_eq_true rfl) hl.1 (va_recv hK.1 hw.1 (ci := 4) (q0 := 0) rfl (zw_x rfl)) hK hw hS (fun _ h => h) (zki fun r H2 locs hq _ _ hS => ?_)
        refine zri E d_BL_branch_33 hS (Nat.le_of_ble_eq_true rfl) (Nat.le_of_ble_eq_true rfl) ?_
        refine ⟨_, rfl, ?_⟩
        rcases hq with ⟨h1, h2, h3⟩ | ⟨h1, h2, h3⟩
        · refine Or.inl ⟨hgd, h1, h2, va_up fa sc (some q), fb, va_up ad sc q, bd, fun k hk => ?_, hfb, zb_add hI rfl ?_ h3⟩
          · by_cases hks : k = sc
            · subst hks; rw [va_up_self, va_up_self]
            · rw [va_up_ne _ _ hks, va_up_ne _ _ hks]; exact hfa k (by omega)
          · simp only [zcell, zac, zaV, upd, true_and, if_true, show ¬ ((0 : Nat) = 2) by decide, show ¬ ((0 : Nat) = 1) by decide, show ¬ ((1 : Nat) = 2) by decide, show ¬ ((1 : Nat) = 0) by decide, show ¬ ((2 : Nat) = 0) by decide, show ¬ ((2 : Nat) = 1) by decide, show (0 : Nat) < 4 by decide, show (1 : Nat) < 4 by decide, show (2 : Nat) < 4 by decide, show (3 : Nat) < 4 by decide, if_false, zclamp hx0, zclamp hn0, zga]
            try rfl
        · refine Or.inr ⟨fun q => h1 q.2, h2, fa, fb, ad, bd, hfa, hfb, ?_⟩
          exact zx_cut h3
      · skip
        refine lv_iconst (v := (-1)) hx hb d_BL_branch_18 (by decide) ?_
        refine zri E d_BL_branch_19 hS (Nat.le_of_ble_eq_true rfl) (Nat.le_of_ble_eq_true rfl) ?_
        refine ⟨_, rfl, Or.inr ⟨fun q => ?_, rfl, hW⟩⟩
        obtain ⟨⟨-, q⟩, -⟩ := q
        rcases q with ⟨q1, -⟩ | ⟨q1, -⟩ | ⟨-, q1 | q1⟩
        · exact absurd q1 (by decide)
        · exact absurd q1 (by decide)
        · exact c_31 q1
        · exact c_32 q1
