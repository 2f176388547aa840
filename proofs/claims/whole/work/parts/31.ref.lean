set_option maxHeartbeats 4000000 in
set_option maxRecDepth 100000 in
theorem t_Mo_add (l : Launch) (D : va_G) (cs : ClassId × ClassId × ClassId × ClassId) (A : Nat → Prop) (q : Nat → Nat) (th : Int32) (sc lc : Nat) (R : Nat → Nat → Int32) (hsc : sc ≤ 4096) (x n kd g : Int32) (hg : g = 0 ∨ g = 1) : zMet l D cs y_Mo_add c_Mo_add 6 (some FieldType.int) ({ frames := 0, cells := 0, slots := 0, locals := 0 } : Room) [.ref (q 0), .int x, .int n, .int kd, .int g] (zH D A (zM q cs th sc lc R)) A (zqi fun r H => ((zsec x = true ∧ g = 1) ∧ sc < 4096 ∧ r = nI sc ∧ zH D A (zM q cs 0 (sc + 1) lc (zaR R sc x n kd)) H) ∨ (¬ ((zsec x = true ∧ g = 1) ∧ sc < 4096) ∧ r = -1 ∧ zH D A (zM q cs 0 sc lc R) H)) := by
  refine zmk (by decide) (Nat.le_of_ble_eq_true rfl) ?_
  intro p e s m below meth cd ls E hK hP0 hl
  have hS : va_S A s.heap s.heap [] := va_S.rf
  obtain ⟨hP, hD⟩ := hP0
  obtain ⟨hx, hb, hr, hts, hown, hlocks, hml, hin⟩ := id E
  have hl : lv_has ls 6 [(0, .ref (q 0)), (1, .int x), (2, .int n), (3, .int kd), (4, .int g)] := hl
  refine lv_aload_n hx hb d_Mo_add_0 rfl (lv_at hl 0 rfl) ?_
  refine lv_iconst (v := 0) hx hb d_Mo_add_1 (by decide) ?_
  refine va_put (D := D) (ci := 5) (v := .int 0) (ty := .int) (C := "BranchLayoutModel") (T := T_Mo) (N := 17) hx hb hts in_Mo ty_Mo ok_Mo nm_Mo hown hK.1 hP hD hS 0 rfl rfl 0 (by decide) (hts _ w_265) (fun _ h9 => h9) rfl (by decide +kernel) rfl rfl (Nat.le_of_ble_eq_true rfl) d_Mo_add_2 (fun H locs hP hD hS => ?_)
  have hP : va_P D zcl (zM q cs 0 sc lc R) H := hP
  have hD : va_D A (zM q cs 0 sc lc R) := hD
  refine lv_iload_n hx hb d_Mo_add_5 rfl (lv_at hl 1 rfl) ?_
  refine lv_if_lt (tgt := 29) hx hb d_Mo_add_6 (by decide) (fun c_1 => ?_) (fun c_1 => ?_)
  · skip
    refine lv_iconst (v := (-1)) hx hb d_Mo_add_29 (by decide) ?_
    refine zri E d_Mo_add_30 hS (Nat.le_of_ble_eq_true rfl) (Nat.le_of_ble_eq_true rfl) ?_
    exact ⟨_, rfl, Or.inr ⟨fun q => by have q1 := q.1.1; rw [zsec_f1 c_1] at q1; exact Bool.noConfusion q1, rfl, hP, hD⟩⟩
  · skip
    refine lv_iload_n hx hb d_Mo_add_9 rfl (lv_at hl 1 rfl) ?_
    refine lv_iconst (v := 3) hx hb d_Mo_add_10 (by decide) ?_
    refine lv_icmp_gt (tgt := 29) hx hb d_Mo_add_11 (by decide) (fun c_2 => ?_) (fun c_2 => ?_)
    · skip
      refine lv_iconst (v := (-1)) hx hb d_Mo_add_29 (by decide) ?_
      refine zri E d_Mo_add_30 hS (Nat.le_of_ble_eq_true rfl) (Nat.le_of_ble_eq_true rfl) ?_
      exact ⟨_, rfl, Or.inr ⟨fun q => by have q1 := q.1.1; rw [zsec_f2 c_2] at q1; exact Bool.noConfusion q1, rfl, hP, hD⟩⟩
    · skip
      refine lv_iload hx hb d_Mo_add_14 (lv_at hl 4 rfl) ?_
      refine lv_if_eq (tgt := 29) hx hb d_Mo_add_16 (by decide) (fun c_3 => ?_) (fun c_3 => ?_)
      · skip
        refine lv_iconst (v := (-1)) hx hb d_Mo_add_29 (by decide) ?_
        refine zri E d_Mo_add_30 hS (Nat.le_of_ble_eq_true rfl) (Nat.le_of_ble_eq_true rfl) ?_
        exact ⟨_, rfl, Or.inr ⟨fun q => by rw [c_3] at q; exact absurd q.1.2 (by decide), rfl, hP, hD⟩⟩
      · skip
        refine lv_aload_n hx hb d_Mo_add_19 rfl (lv_at hl 0 rfl) ?_
        refine va_get (D := D) (ci := 5) (v := .int (nI sc)) (C := "BranchLayoutModel") (T := T_Mo) (N := 17) hx hb hts in_Mo hown hK.1 hP 0 rfl rfl 1 (by decide) (hts _ w_266) (fun _ h9 => h9) rfl d_Mo_add_20 ?_
        refine lv_sipush (v := 4096) hx hb d_Mo_add_23 (by decide) ?_
        have e4096 : (4096 : Int32) = nI 4096 := by decide
        rw [e4096]
        refine lv_icmp_ne (tgt := 31) hx hb d_Mo_add_26 (by decide) (fun c_4 => ?_) (fun c_4 => ?_)
        · skip
          have hlt : sc < 4096 := Nat.lt_of_le_of_ne hsc fun q => c_4 (by rw [q])
          refine lv_aload_n hx hb d_Mo_add_31 rfl (lv_at hl 0 rfl) ?_
          refine va_get (D := D) (ci := 5) (v := .int (nI sc)) (C := "BranchLayoutModel") (T := T_Mo) (N := 17) hx hb hts in_Mo hown hK.1 hP 0 rfl rfl 1 (by decide) (hts _ w_266) (fun _ h9 => h9) rfl d_Mo_add_32 ?_
          refine lv_istore (lv' := [(5, .int (nI sc)), (0, .ref (q 0)), (1, .int x), (2, .int n), (3, .int kd), (4, .int g)]) hx hb d_Mo_add_35 hl (by decide) rfl (fun ls hl => ?_)
          refine lv_aload_n hx hb d_Mo_add_37 rfl (lv_at hl 1 rfl) ?_
          refine va_get (D := D) (ci := 5) (v := .ref (q 3)) (C := "BranchLayoutModel") (T := T_Mo) (N := 17) hx hb hts in_Mo hown hK.1 hP 0 rfl rfl 3 (by decide) (hts _ w_268) (fun _ h9 => h9) rfl d_Mo_add_38 ?_
          refine lv_iload hx hb d_Mo_add_41 (lv_at hl 0 rfl) ?_
          refine lv_iload_n hx hb d_Mo_add_43 rfl (lv_at hl 4 rfl) ?_
          refine va_iast hx hb hK.1 hP hD hS 1 0 rfl rfl (vp_in_nI (show sc < 4096 by omega) (by decide)) d_Mo_add_44 (fun H locs hP hD hS => ?_)
          rw [nI_clamp (show sc < 2 ^ 31 by omega), zm_set_3] at hP hD
          refine lv_aload_n hx hb d_Mo_add_45 rfl (lv_at hl 1 rfl) ?_
          refine va_get (D := D) (ci := 5) (v := .ref (q 4)) (C := "BranchLayoutModel") (T := T_Mo) (N := 17) hx hb hts in_Mo hown hK.1 hP 0 rfl rfl 4 (by decide) (hts _ w_269) (fun _ h9 => h9) rfl d_Mo_add_46 ?_
          refine lv_iload hx hb d_Mo_add_49 (lv_at hl 0 rfl) ?_
          refine lv_iload_n hx hb d_Mo_add_51 rfl (lv_at hl 2 rfl) ?_
          refine va_iast hx hb hK.1 hP hD hS 2 0 rfl rfl (vp_in_nI (show sc < 4096 by omega) (by decide)) d_Mo_add_52 (fun H locs hP hD hS => ?_)
          rw [nI_clamp (show sc < 2 ^ 31 by omega), zm_set_4] at hP hD
          refine lv_aload_n hx hb d_Mo_add_53 rfl (lv_at hl 1 rfl) ?_
          refine va_get (D := D) (ci := 5) (v := .ref (q 5)) (C := "BranchLayoutModel") (T := T_Mo) (N := 17) hx hb hts in_Mo hown hK.1 hP 0 rfl rfl 5 (by decide) (hts _ w_270) (fun _ h9 => h9) rfl d_Mo_add_54 ?_
          refine lv_iload hx hb d_Mo_add_57 (lv_at hl 0 rfl) ?_
          refine lv_iload_n hx hb d_Mo_add_59 rfl (lv_at hl 3 rfl) ?_
          refine va_iast hx hb hK.1 hP hD hS 3 0 rfl rfl (vp_in_nI (show sc < 4096 by omega) (by decide)) d_Mo_add_60 (fun H locs hP hD hS => ?_)
          rw [nI_clamp (show sc < 2 ^ 31 by omega), zm_set_5] at hP hD
          refine lv_aload_n hx hb d_Mo_add_61 rfl (lv_at hl 1 rfl) ?_
          refine va_get (D := D) (ci := 5) (v := .ref (q 6)) (C := "BranchLayoutModel") (T := T_Mo) (N := 17) hx hb hts in_Mo hown hK.1 hP 0 rfl rfl 6 (by decide) (hts _ w_271) (fun _ h9 => h9) rfl d_Mo_add_62 ?_
          refine lv_iload hx hb d_Mo_add_65 (lv_at hl 0 rfl) ?_
          refine lv_iconst (v := (-1)) hx hb d_Mo_add_67 (by decide) ?_
          refine va_iast hx hb hK.1 hP hD hS 4 0 rfl rfl (vp_in_nI (show sc < 4096 by omega) (by decide)) d_Mo_add_68 (fun H locs hP hD hS => ?_)
          rw [nI_clamp (show sc < 2 ^ 31 by omega), zm_set_6] at hP hD
          refine lv_aload_n hx hb d_Mo_add_69 rfl (lv_at hl 1 rfl) ?_
          refine va_get (D := D) (ci := 5) (v := .ref (q 7)) (C := "BranchLayoutModel") (T := T_Mo) (N := 17) hx hb hts in_Mo hown hK.1 hP 0 rfl rfl 7 (by decide) (hts _ w_272) (fun _ h9 => h9) rfl d_Mo_add_70 ?_
          refine lv_iload hx hb d_Mo_add_73 (lv_at hl 0 rfl) ?_
          refine lv_iconst (v := 0) hx hb d_Mo_add_75 (by decide) ?_
          refine va_iast hx hb hK.1 hP hD hS 5 0 rfl rfl (vp_in_nI (show sc < 4096 by omega) (by decide)) d_Mo_add_76 (fun H locs hP hD hS => ?_)
          rw [nI_clamp (show sc < 2 ^ 31 by omega), zm_set_7] at hP hD
          refine lv_aload_n hx hb d_Mo_add_77 rfl (lv_at hl 1 rfl) ?_
          refine va_get (D := D) (ci := 5) (v := .ref (q 10)) (C := "BranchLayoutModel") (T := T_Mo) (N := 17) hx hb hts in_Mo hown hK.1 hP 0 rfl rfl 10 (by decide) (hts _ w_275) (fun _ h9 => h9) rfl d_Mo_add_78 ?_
          refine lv_iload hx hb d_Mo_add_81 (lv_at hl 0 rfl) ?_
          refine lv_iconst (v := 0) hx hb d_Mo_add_83 (by decide) ?_
          refine va_zast hx hb hK.1 hP hD hS 8 1 rfl rfl (vp_in_nI (show sc < 4096 by omega) (by decide)) d_Mo_add_84 (fun H locs hP hD hS => ?_)
          rw [nI_clamp (show sc < 2 ^ 31 by omega), zm_b0, zm_set_10] at hP hD
          refine lv_aload_n hx hb d_Mo_add_85 rfl (lv_at hl 1 rfl) ?_
          refine va_get (D := D) (ci := 5) (v := .ref (q 11)) (C := "BranchLayoutModel") (T := T_Mo) (N := 17) hx hb hts in_Mo hown hK.1 hP 0 rfl rfl 11 (by decide) (hts _ w_276) (fun _ h9 => h9) rfl d_Mo_add_86 ?_
          refine lv_iload hx hb d_Mo_add_89 (lv_at hl 0 rfl) ?_
          refine lv_iconst (v := 0) hx hb d_Mo_add_91 (by decide) ?_
          refine va_iast hx hb hK.1 hP hD hS 9 0 rfl rfl (vp_in_nI (show sc < 4096 by omega) (by decide)) d_Mo_add_92 (fun H locs hP hD hS => ?_)
          rw [nI_clamp (show sc < 2 ^ 31 by omega), zm_set_11] at hP hD
          refine lv_aload_n hx hb d_Mo_add_93 rfl (lv_at hl 1 rfl) ?_
          refine va_get (D := D) (ci := 5) (v := .ref (q 12)) (C := "BranchLayoutModel") (T := T_Mo) (N := 17) hx hb hts in_Mo hown hK.1 hP 0 rfl rfl 12 (by decide) (hts _ w_277) (fun _ h9 => h9) rfl d_Mo_add_94 ?_
          refine lv_iload hx hb d_Mo_add_97 (lv_at hl 0 rfl) ?_
          refine lv_iconst (v := 0) hx hb d_Mo_add_99 (by decide) ?_
          refine va_iast hx hb hK.1 hP hD hS 10 0 rfl rfl (vp_in_nI (show sc < 4096 by omega) (by decide)) d_Mo_add_100 (fun H locs hP hD hS => ?_)
          rw [nI_clamp (show sc < 2 ^ 31 by omega), zm_set_12] at hP hD
          refine lv_aload_n hx hb d_Mo_add_101 rfl (lv_at hl 1 rfl) ?_
          refine va_get (D := D) (ci := 5) (v := .ref (q 13)) (C := "BranchLayoutModel") (T := T_Mo) (N := 17) hx hb hts in_Mo hown hK.1 hP 0 rfl rfl 13 (by decide) (hts _ w_278) (fun _ h9 => h9) rfl d_Mo_add_102 ?_
          refine lv_iload hx hb d_Mo_add_105 (lv_at hl 0 rfl) ?_
          refine lv_iconst (v := 0) hx hb d_Mo_add_107 (by decide) ?_
          refine va_iast hx hb hK.1 hP hD hS 11 0 rfl rfl (vp_in_nI (show sc < 4096 by omega) (by decide)) d_Mo_add_108 (fun H locs hP hD hS => ?_)
          rw [nI_clamp (show sc < 2 ^ 31 by omega), zm_set_13] at hP hD
          refine lv_aload_n hx hb d_Mo_add_109 rfl (lv_at hl 1 rfl) ?_
          refine va_get (D := D) (ci := 5) (v := .ref (q 16)) (C := "BranchLayoutModel") (T := T_Mo) (N := 17) hx hb hts in_Mo hown hK.1 hP 0 rfl rfl 16 (by decide) (hts _ w_281) (fun _ h9 => h9) rfl d_Mo_add_110 ?_
          refine lv_iload hx hb d_Mo_add_113 (lv_at hl 0 rfl) ?_
          refine lv_iconst (v := 0) hx hb d_Mo_add_115 (by decide) ?_
          refine va_zast hx hb hK.1 hP hD hS 14 1 rfl rfl (vp_in_nI (show sc < 4096 by omega) (by decide)) d_Mo_add_116 (fun H locs hP hD hS => ?_)
          rw [nI_clamp (show sc < 2 ^ 31 by omega), zm_b0, zm_set_16] at hP hD
          refine lv_aload_n hx hb d_Mo_add_117 rfl (lv_at hl 1 rfl) ?_
          refine lv_dup hx hb d_Mo_add_118 rfl ?_
          refine va_get (D := D) (ci := 5) (v := .int (nI sc)) (C := "BranchLayoutModel") (T := T_Mo) (N := 17) hx hb hts in_Mo hown hK.1 hP 0 rfl rfl 1 (by decide) (hts _ w_266) (fun _ h9 => h9) rfl d_Mo_add_119 ?_
          refine lv_iconst (v := 1) hx hb d_Mo_add_122 (by decide) ?_
          refine lv_iadd hx hb d_Mo_add_123 ?_
          refine va_put (D := D) (ci := 5) (v := .int ((nI sc) + 1)) (ty := .int) (C := "BranchLayoutModel") (T := T_Mo) (N := 17) hx hb hts in_Mo ty_Mo ok_Mo nm_Mo hown hK.1 hP hD hS 0 rfl rfl 1 (by decide) (hts _ w_266) (fun _ h9 => h9) rfl (by decide +kernel) rfl rfl (Nat.le_of_ble_eq_true rfl) d_Mo_add_124 (fun H locs hP hD hS => ?_)
          rw [nI_1] at hP hD
          have hP : va_P D zcl (zM q cs 0 (sc + 1) lc (zu (zu (zu (zu (zu (zu (zu (zu (zu (zu R 3 sc kd) 4 sc x) 5 sc n) 6 sc (-1)) 7 sc 0) 10 sc 0) 11 sc 0) 12 sc 0) 13 sc 0) 16 sc 0)) H := hP
          have hD : va_D A (zM q cs 0 (sc + 1) lc (zu (zu (zu (zu (zu (zu (zu (zu (zu (zu R 3 sc kd) 4 sc x) 5 sc n) 6 sc (-1)) 7 sc 0) 10 sc 0) 11 sc 0) 12 sc 0) 13 sc 0) 16 sc 0)) := hD
          refine lv_iload hx hb d_Mo_add_127 (lv_at hl 0 rfl) ?_
          refine zri E d_Mo_add_129 hS (Nat.le_of_ble_eq_true rfl) (Nat.le_of_ble_eq_true rfl) ?_
          exact ⟨_, rfl, Or.inl ⟨⟨zsec_t c_1 c_2, hg.resolve_left c_3⟩, hlt, rfl, hP, hD⟩⟩
        · skip
          refine lv_iconst (v := (-1)) hx hb d_Mo_add_29 (by decide) ?_
          refine zri E d_Mo_add_30 hS (Nat.le_of_ble_eq_true rfl) (Nat.le_of_ble_eq_true rfl) ?_
          exact ⟨_, rfl, Or.inr ⟨fun q => absurd ((nI_eq (by omega) (by decide)).mp c_4) (by have := q.2; omega), rfl, hP, hD⟩⟩
set_option maxHeartbeats 4000000 in
set_option maxRecDepth 100000 in
theorem t_Mo_bytes (l : Launch) (D : va_G) (cs : ClassId × ClassId × ClassId × ClassId) (A : Nat → Prop) (q : Nat → Nat) (sc lc : Nat) (c : Nat → Nat → Nat) (gp mo : Nat → Int32) (V : Nat → Nat → Int32) (hI : zI sc lc c gp) (x n : Int32) : zMet l D cs y_Mo_bytes c_Mo_bytes 3 (some FieldType.int) ({ frames := 1, cells := 0, slots := 0, locals := 25 } : Room) [.ref (q 0), .int x, .int n] (zRW D A q cs sc lc c gp mo V) A (zqi (zadd 0 sc x n (zRW D A q cs sc lc c gp mo V) (zRW D A q cs (sc + 1) lc (zac c sc 0 x n) (upd gp sc (-1)) (upd mo sc 0) (zaV V sc)))) := by
  refine zmk (by decide) (Nat.le_of_ble_eq_true rfl) ?_
  intro p e s m below meth cd ls E hK hP0 hl
  have hS : va_S A s.heap s.heap [] := va_S.rf
  obtain ⟨th, R, hG, hP, hD⟩ := hP0
  obtain ⟨hx, hb, hr, hts, hown, hlocks, hml, hin⟩ := id E
  have hl : lv_has ls 3 [(0, .ref (q 0)), (1, .int x), (2, .int n)] := hl
  refine lv_aload_n hx hb d_Mo_bytes_0 rfl (lv_at hl 0 rfl) ?_
  refine lv_iload_n hx hb d_Mo_bytes_1 rfl (lv_at hl 1 rfl) ?_
  refine lv_iload_n hx hb d_Mo_bytes_2 rfl (lv_at hl 2 rfl) ?_
  refine lv_iconst (v := 0) hx hb d_Mo_bytes_3 (by decide) ?_
  refine lv_iload_n hx hb d_Mo_bytes_4 rfl (lv_at hl 2 rfl) ?_
  refine lv_if_lt (tgt := 18) hx hb d_Mo_bytes_5 (by decide) (fun c_5 => ?_) (fun c_5 => ?_)
  · skip
    refine lv_iconst (v := 0) hx hb d_Mo_bytes_18 (by decide) ?_
    refine zcV [.int x, .int n, .int 0, .int 0] [] E (t_Mo_add l D cs A q th sc lc R hI.1 x n 0 0 (Or.inl rfl)) d_Mo_bytes_19 w_327 w_329 ws_Mo_add w_2 w_330 ⟨rfl, by decide +kernel, by decide +kernel, (by decide +kernel : Option.map (fun d => d.parameters.length) (parseMethodDescriptor "(IIIZ)I") = some 4)⟩ ⟨(Nat.le_of_ble_eq_true rfl), (Nat.le_of_ble_eq_true rfl)⟩ ⟨(Nat.le_of_ble_eq_true rfl), (Nat.le_of_ble_eq_true rfl)⟩ rfl (Nat.le_of_ble_eq_true rfl) hl.1 (zrec hK hP (ci := 5) (i := 0) rfl rfl) hK ⟨hP, hD⟩ hS (fun _ h => h) (zki fun r H locs hq _ _ hS => ?_)
    refine zri E d_Mo_bytes_22 hS (Nat.le_of_ble_eq_true rfl) (Nat.le_of_ble_eq_true rfl) ?_
    refine ⟨_, rfl, ?_⟩
    rcases hq with ⟨h1, h2, h3, h4⟩ | ⟨h1, h3, h4⟩
    · exact absurd h1.2 (by decide)
    · refine Or.inr ⟨fun q => ?_, h3, 0, R, hG, h4⟩
      have z := q.1.2
      rcases z with ⟨-, q1, q2⟩ | ⟨q1, -⟩ | ⟨q1, -⟩
      · exact q1 c_5
      · exact absurd q1 (by decide)
      · exact absurd q1 (by decide)
  · skip
    refine lv_iload_n hx hb d_Mo_bytes_8 rfl (lv_at hl 2 rfl) ?_
    refine lv_ldc (v := 65536) hx hb hown (hts _ w_326) d_Mo_bytes_9 ?_
    refine lv_icmp_gt (tgt := 18) hx hb d_Mo_bytes_11 (by decide) (fun c_6 => ?_) (fun c_6 => ?_)
    · skip
      refine lv_iconst (v := 0) hx hb d_Mo_bytes_18 (by decide) ?_
      refine zcV [.int x, .int n, .int 0, .int 0] [] E (t_Mo_add l D cs A q th sc lc R hI.1 x n 0 0 (Or.inl rfl)) d_Mo_bytes_19 w_327 w_329 ws_Mo_add w_2 w_330 ⟨rfl, by decide +kernel, by decide +kernel, (by decide +kernel : Option.map (fun d => d.parameters.length) (parseMethodDescriptor "(IIIZ)I") = some 4)⟩ ⟨(Nat.le_of_ble_eq_true rfl), (Nat.le_of_ble_eq_true rfl)⟩ ⟨(Nat.le_of_ble_eq_true rfl), (Nat.le_of_ble_eq_true rfl)⟩ rfl (Nat.le_of_ble_eq_true rfl) hl.1 (zrec hK hP (ci := 5) (i := 0) rfl rfl) hK ⟨hP, hD⟩ hS (fun _ h => h) (zki fun r H locs hq _ _ hS => ?_)
      refine zri E d_Mo_bytes_22 hS (Nat.le_of_ble_eq_true rfl) (Nat.le_of_ble_eq_true rfl) ?_
      refine ⟨_, rfl, ?_⟩
      rcases hq with ⟨h1, h2, h3, h4⟩ | ⟨h1, h3, h4⟩
      · exact absurd h1.2 (by decide)
      · refine Or.inr ⟨fun q => ?_, h3, 0, R, hG, h4⟩
        have z := q.1.2
        rcases z with ⟨-, q1, q2⟩ | ⟨q1, -⟩ | ⟨q1, -⟩
        · exact q2 c_6
        · exact absurd q1 (by decide)
        · exact absurd q1 (by decide)
    · skip
      refine lv_iconst (v := 1) hx hb d_Mo_bytes_14 (by decide) ?_
      refine lv_goto (tgt := 19) hx hb d_Mo_bytes_15 (by decide) ?_
      refine zcV [.int x, .int n, .int 0, .int 1] [] E (t_Mo_add l D cs A q th sc lc R hI.1 x n 0 1 (Or.inr rfl)) d_Mo_bytes_19 w_327 w_329 ws_Mo_add w_2 w_330 ⟨rfl, by decide +kernel, by decide +kernel, (by decide +kernel : Option.map (fun d => d.parameters.length) (parseMethodDescriptor "(IIIZ)I") = some 4)⟩ ⟨(Nat.le_of_ble_eq_true rfl), (Nat.le_of_ble_eq_true rfl)⟩ ⟨(Nat.le_of_ble_eq_true rfl), (Nat.le_of_ble_eq_true rfl)⟩ rfl (Nat.le_of_ble_eq_true rfl) hl.1 (zrec hK hP (ci := 5) (i := 0) rfl rfl) hK ⟨hP, hD⟩ hS (fun _ h => h) (zki fun r H locs hq _ _ hS => ?_)
      refine zri E d_Mo_bytes_22 hS (Nat.le_of_ble_eq_true rfl) (Nat.le_of_ble_eq_true rfl) ?_
      refine ⟨_, rfl, ?_⟩
      rcases hq with ⟨h1, h2, h3, h4⟩ | ⟨h1, h3, h4⟩
      · have hgd : zgd 0 x n := ⟨h1.1, Or.inl ⟨rfl, c_5, c_6⟩⟩
        obtain ⟨-, hx0, -, hn0, -, -⟩ := zgd_ok hgd
        exact Or.inl ⟨hgd, h2, h3, 0, _, zAg_add (kd := 0) hx0 hn0 hG, h4⟩
      · exact Or.inr ⟨fun q => h1 ⟨⟨q.1.1, rfl⟩, q.2⟩, h3, 0, R, hG, h4⟩
set_option maxHeartbeats 4000000 in
set_option maxRecDepth 100000 in
theorem t_Mo_align (l : Launch) (D : va_G) (cs : ClassId × ClassId × ClassId × ClassId) (A : Nat → Prop) (q : Nat → Nat) (sc lc : Nat) (c : Nat → Nat → Nat) (gp mo : Nat → Int32) (V : Nat → Nat → Int32) (hI : zI sc lc c gp) (x n : Int32) : zMet l D cs y_Mo_align c_Mo_align 3 (some FieldType.int) ({ frames := 1, cells := 0, slots := 0, locals := 25 } : Room) [.ref (q 0), .int x, .int n] (zRW D A q cs sc lc c gp mo V) A (zqi (zadd 1 sc x n (zRW D A q cs sc lc c gp mo V) (zRW D A q cs (sc + 1) lc (zac c sc 1 x n) (upd gp sc (-1)) (upd mo sc 0) (zaV V sc)))) := by
  refine zmk (by decide) (Nat.le_of_ble_eq_true rfl) ?_
  intro p e s m below meth cd ls E hK hP0 hl
  have hS : va_S A s.heap s.heap [] := va_S.rf
  obtain ⟨th, R, hG, hP, hD⟩ := hP0
  obtain ⟨hx, hb, hr, hts, hown, hlocks, hml, hin⟩ := id E
  have hl : lv_has ls 3 [(0, .ref (q 0)), (1, .int x), (2, .int n)] := hl
  refine lv_aload_n hx hb d_Mo_align_0 rfl (lv_at hl 0 rfl) ?_
  refine lv_iload_n hx hb d_Mo_align_1 rfl (lv_at hl 1 rfl) ?_
  refine lv_iload_n hx hb d_Mo_align_2 rfl (lv_at hl 2 rfl) ?_
  refine lv_iconst (v := 1) hx hb d_Mo_align_3 (by decide) ?_
  refine lv_iload_n hx hb d_Mo_align_4 rfl (lv_at hl 2 rfl) ?_
  refine lv_if_le (tgt := 27) hx hb d_Mo_align_5 (by decide) (fun c_7 => ?_) (fun c_7 => ?_)
  · skip
    refine lv_iconst (v := 0) hx hb d_Mo_align_27 (by decide) ?_
    refine zcV [.int x, .int n, .int 1, .int 0] [] E (t_Mo_add l D cs A q th sc lc R hI.1 x n 1 0 (Or.inl rfl)) d_Mo_align_28 w_327 w_329 ws_Mo_add w_2 w_330 ⟨rfl, by decide +kernel, by decide +kernel, (by decide +kernel : Option.map (fun d => d.parameters.length) (parseMethodDescriptor "(IIIZ)I") = some 4)⟩ ⟨(Nat.le_of_ble_eq_true rfl), (Nat.le_of_ble_eq_true rfl)⟩ ⟨(Nat.le_of_ble_eq_true rfl), (Nat.le_of_ble_eq_true rfl)⟩ rfl (Nat.le_of_ble_eq_true rfl) hl.1 (zrec hK hP (ci := 5) (i := 0) rfl rfl) hK ⟨hP, hD⟩ hS (fun _ h => h) (zki fun r H locs hq _ _ hS => ?_)
    refine zri E d_Mo_align_31 hS (Nat.le_of_ble_eq_true rfl) (Nat.le_of_ble_eq_true rfl) ?_
    refine ⟨_, rfl, ?_⟩
    rcases hq with ⟨h1, h2, h3, h4⟩ | ⟨h1, h3, h4⟩
    · exact absurd h1.2 (by decide)
    · refine Or.inr ⟨fun q => ?_, h3, 0, R, hG, h4⟩
      have z := q.1.2
      rcases z with ⟨q1, -⟩ | ⟨-, q1⟩ | ⟨q1, -⟩
      · exact absurd q1 (by decide)
      · exact (zal_test.mp q1).1 c_7
      · exact absurd q1 (by decide)
  · skip
    refine lv_iload_n hx hb d_Mo_align_8 rfl (lv_at hl 2 rfl) ?_
    refine lv_sipush (v := 4096) hx hb d_Mo_align_9 (by decide) ?_
    refine lv_icmp_gt (tgt := 27) hx hb d_Mo_align_12 (by decide) (fun c_8 => ?_) (fun c_8 => ?_)
    · skip
      refine lv_iconst (v := 0) hx hb d_Mo_align_27 (by decide) ?_
      refine zcV [.int x, .int n, .int 1, .int 0] [] E (t_Mo_add l D cs A q th sc lc R hI.1 x n 1 0 (Or.inl rfl)) d_Mo_align_28 w_327 w_329 ws_Mo_add w_2 w_330 ⟨rfl, by decide +kernel, by decide +kernel, (by decide +kernel : Option.map (fun d => d.parameters.length) (parseMethodDescriptor "(IIIZ)I") = some 4)⟩ ⟨(Nat.le_of_ble_eq_true rfl), (Nat.le_of_ble_eq_true rfl)⟩ ⟨(Nat.le_of_ble_eq_true rfl), (Nat.le_of_ble_eq_true rfl)⟩ rfl (Nat.le_of_ble_eq_true rfl) hl.1 (zrec hK hP (ci := 5) (i := 0) rfl rfl) hK ⟨hP, hD⟩ hS (fun _ h => h) (zki fun r H locs hq _ _ hS => ?_)
      refine zri E d_Mo_align_31 hS (Nat.le_of_ble_eq_true rfl) (Nat.le_of_ble_eq_true rfl) ?_
      refine ⟨_, rfl, ?_⟩
      rcases hq with ⟨h1, h2, h3, h4⟩ | ⟨h1, h3, h4⟩
      · exact absurd h1.2 (by decide)
      · refine Or.inr ⟨fun q => ?_, h3, 0, R, hG, h4⟩
        have z := q.1.2
        rcases z with ⟨q1, -⟩ | ⟨-, q1⟩ | ⟨q1, -⟩
        · exact absurd q1 (by decide)
        · exact (zal_test.mp q1).2.1 c_8
        · exact absurd q1 (by decide)
    · skip
      refine lv_iload_n hx hb d_Mo_align_15 rfl (lv_at hl 2 rfl) ?_
      refine lv_iload_n hx hb d_Mo_align_16 rfl (lv_at hl 2 rfl) ?_
      refine lv_iconst (v := 1) hx hb d_Mo_align_17 (by decide) ?_
      refine lv_isub hx hb d_Mo_align_18 ?_
      refine lv_iand hx hb d_Mo_align_19 ?_
      refine lv_if_ne (tgt := 27) hx hb d_Mo_align_20 (by decide) (fun c_9 => ?_) (fun c_9 => ?_)
      · skip
        refine lv_iconst (v := 0) hx hb d_Mo_align_27 (by decide) ?_
        refine zcV [.int x, .int n, .int 1, .int 0] [] E (t_Mo_add l D cs A q th sc lc R hI.1 x n 1 0 (Or.inl rfl)) d_Mo_align_28 w_327 w_329 ws_Mo_add w_2 w_330 ⟨rfl, by decide +kernel, by decide +kernel, (by decide +kernel : Option.map (fun d => d.parameters.length) (parseMethodDescriptor "(IIIZ)I") = some 4)⟩ ⟨(Nat.le_of_ble_eq_true rfl), (Nat.le_of_ble_eq_true rfl)⟩ ⟨(Nat.le_of_ble_eq_true rfl), (Nat.le_of_ble_eq_true rfl)⟩ rfl (Nat.le_of_ble_eq_true rfl) hl.1 (zrec hK hP (ci := 5) (i := 0) rfl rfl) hK ⟨hP, hD⟩ hS (fun _ h => h) (zki fun r H locs hq _ _ hS => ?_)
        refine zri E d_Mo_align_31 hS (Nat.le_of_ble_eq_true rfl) (Nat.le_of_ble_eq_true rfl) ?_
        refine ⟨_, rfl, ?_⟩
        rcases hq with ⟨h1, h2, h3, h4⟩ | ⟨h1, h3, h4⟩
        · exact absurd h1.2 (by decide)
        · refine Or.inr ⟨fun q => ?_, h3, 0, R, hG, h4⟩
          have z := q.1.2
          rcases z with ⟨q1, -⟩ | ⟨-, q1⟩ | ⟨q1, -⟩
          · exact absurd q1 (by decide)
          · exact c_9 (zal_test.mp q1).2.2
          · exact absurd q1 (by decide)
      · skip
        refine lv_iconst (v := 1) hx hb d_Mo_align_23 (by decide) ?_
        refine lv_goto (tgt := 28) hx hb d_Mo_align_24 (by decide) ?_
        refine zcV [.int x, .int n, .int 1, .int 1] [] E (t_Mo_add l D cs A q th sc lc R hI.1 x n 1 1 (Or.inr rfl)) d_Mo_align_28 w_327 w_329 ws_Mo_add w_2 w_330 ⟨rfl, by decide +kernel, by decide +kernel, (by decide +kernel : Option.map (fun d => d.parameters.length) (parseMethodDescriptor "(IIIZ)I") = some 4)⟩ ⟨(Nat.le_of_ble_eq_true rfl), (Nat.le_of_ble_eq_true rfl)⟩ ⟨(Nat.le_of_ble_eq_true rfl), (Nat.le_of_ble_eq_true rfl)⟩ rfl (Nat.le_of_ble_eq_true rfl) hl.1 (zrec hK hP (ci := 5) (i := 0) rfl rfl) hK ⟨hP, hD⟩ hS (fun _ h => h) (zki fun r H locs hq _ _ hS => ?_)
        refine zri E d_Mo_align_31 hS (Nat.le_of_ble_eq_true rfl) (Nat.le_of_ble_eq_true rfl) ?_
        refine ⟨_, rfl, ?_⟩
        rcases hq with ⟨h1, h2, h3, h4⟩ | ⟨h1, h3, h4⟩
        · have hgd : zgd 1 x n := ⟨h1.1, Or.inr (Or.inl ⟨rfl, zal_test.mpr ⟨c_7, c_8, c_9⟩⟩)⟩
          obtain ⟨-, hx0, -, hn0, -, -⟩ := zgd_ok hgd
          exact Or.inl ⟨hgd, h2, h3, 0, _, zAg_add (kd := 1) hx0 hn0 hG, h4⟩
        · exact Or.inr ⟨fun q => h1 ⟨⟨q.1.1, rfl⟩, q.2⟩, h3, 0, R, hG, h4⟩
set_option maxHeartbeats 4000000 in
set_option maxRecDepth 100000 in
theorem t_Mo_branch (l : Launch) (D : va_G) (cs : ClassId × ClassId × ClassId × ClassId) (A : Nat → Prop) (q : Nat → Nat) (sc lc : Nat) (c : Nat → Nat → Nat) (gp mo : Nat → Int32) (V : Nat → Nat → Int32) (hI : zI sc lc c gp) (x n : Int32) : zMet l D cs y_Mo_branch c_Mo_branch 3 (some FieldType.int) ({ frames := 1, cells := 0, slots := 0, locals := 25 } : Room) [.ref (q 0), .int x, .int n] (zRW D A q cs sc lc c gp mo V) A (zqi (zadd 2 sc x n (zRW D A q cs sc lc c gp mo V) (zRW D A q cs (sc + 1) lc (zac c sc 2 x n) (upd gp sc (-1)) (upd mo sc 0) (zaV V sc)))) := by
  refine zmk (by decide) (Nat.le_of_ble_eq_true rfl) ?_
  intro p e s m below meth cd ls E hK hP0 hl
  have hS : va_S A s.heap s.heap [] := va_S.rf
  obtain ⟨th, R, hG, hP, hD⟩ := hP0
  obtain ⟨hx, hb, hr, hts, hown, hlocks, hml, hin⟩ := id E
  have hl : lv_has ls 3 [(0, .ref (q 0)), (1, .int x), (2, .int n)] := hl
  refine lv_aload_n hx hb d_Mo_branch_0 rfl (lv_at hl 0 rfl) ?_
  refine lv_iload_n hx hb d_Mo_branch_1 rfl (lv_at hl 1 rfl) ?_
  refine lv_iload_n hx hb d_Mo_branch_2 rfl (lv_at hl 2 rfl) ?_
  refine lv_iconst (v := 2) hx hb d_Mo_branch_3 (by decide) ?_
  refine lv_iload_n hx hb d_Mo_branch_4 rfl (lv_at hl 2 rfl) ?_
  refine lv_iconst (v := 5) hx hb d_Mo_branch_5 (by decide) ?_
  refine lv_icmp_eq (tgt := 15) hx hb d_Mo_branch_6 (by decide) (fun c_10 => ?_) (fun c_10 => ?_)
  · skip
    refine lv_iconst (v := 1) hx hb d_Mo_branch_15 (by decide) ?_
    refine lv_goto (tgt := 20) hx hb d_Mo_branch_16 (by decide) ?_
    refine zcV [.int x, .int n, .int 2, .int 1] [] E (t_Mo_add l D cs A q th sc lc R hI.1 x n 2 1 (Or.inr rfl)) d_Mo_branch_20 w_327 w_329 ws_Mo_add w_2 w_330 ⟨rfl, by decide +kernel, by decide +kernel, (by decide +kernel : Option.map (fun d => d.parameters.length) (parseMethodDescriptor "(IIIZ)I") = some 4)⟩ ⟨(Nat.le_of_ble_eq_true rfl), (Nat.le_of_ble_eq_true rfl)⟩ ⟨(Nat.le_of_ble_eq_true rfl), (Nat.le_of_ble_eq_true rfl)⟩ rfl (Nat.le_of_ble_eq_true rfl) hl.1 (zrec hK hP (ci := 5) (i := 0) rfl rfl) hK ⟨hP, hD⟩ hS (fun _ h => h) (zki fun r H locs hq _ _ hS => ?_)
    refine zri E d_Mo_branch_23 hS (Nat.le_of_ble_eq_true rfl) (Nat.le_of_ble_eq_true rfl) ?_
    refine ⟨_, rfl, ?_⟩
    rcases hq with ⟨h1, h2, h3, h4⟩ | ⟨h1, h3, h4⟩
    · have hgd : zgd 2 x n := ⟨h1.1, Or.inr (Or.inr ⟨rfl, Or.inl c_10⟩)⟩
      obtain ⟨-, hx0, -, hn0, -, -⟩ := zgd_ok hgd
      exact Or.inl ⟨hgd, h2, h3, 0, _, zAg_add (kd := 2) hx0 hn0 hG, h4⟩
    · exact Or.inr ⟨fun q => h1 ⟨⟨q.1.1, rfl⟩, q.2⟩, h3, 0, R, hG, h4⟩
  · skip
    refine lv_iload_n hx hb d_Mo_branch_9 rfl (lv_at hl 2 rfl) ?_
    refine lv_bipush (v := 6) hx hb d_Mo_branch_10 (by decide) ?_
    refine lv_icmp_ne (tgt := 19) hx hb d_Mo_branch_12 (by decide) (fun c_11 => ?_) (fun c_11 => ?_)
    · skip
      refine lv_iconst (v := 0) hx hb d_Mo_branch_19 (by decide) ?_
      refine zcV [.int x, .int n, .int 2, .int 0] [] E (t_Mo_add l D cs A q th sc lc R hI.1 x n 2 0 (Or.inl rfl)) d_Mo_branch_20 w_327 w_329 ws_Mo_add w_2 w_330 ⟨rfl, by decide +kernel, by decide +kernel, (by decide +kernel : Option.map (fun d => d.parameters.length) (parseMethodDescriptor "(IIIZ)I") = some 4)⟩ ⟨(Nat.le_of_ble_eq_true rfl), (Nat.le_of_ble_eq_true rfl)⟩ ⟨(Nat.le_of_ble_eq_true rfl), (Nat.le_of_ble_eq_true rfl)⟩ rfl (Nat.le_of_ble_eq_true rfl) hl.1 (zrec hK hP (ci := 5) (i := 0) rfl rfl) hK ⟨hP, hD⟩ hS (fun _ h => h) (zki fun r H locs hq _ _ hS => ?_)
      refine zri E d_Mo_branch_23 hS (Nat.le_of_ble_eq_true rfl) (Nat.le_of_ble_eq_true rfl) ?_
      refine ⟨_, rfl, ?_⟩
      rcases hq with ⟨h1, h2, h3, h4⟩ | ⟨h1, h3, h4⟩
      · exact absurd h1.2 (by decide)
      · refine Or.inr ⟨fun q => ?_, h3, 0, R, hG, h4⟩
        have z := q.1.2
        rcases z with ⟨q1, -⟩ | ⟨q1, -⟩ | ⟨-, q1 | q1⟩
        · exact absurd q1 (by decide)
        · exact absurd q1 (by decide)
        · exact c_10 q1
        · exact c_11 q1
    · skip
      refine lv_iconst (v := 1) hx hb d_Mo_branch_15 (by decide) ?_
      refine lv_goto (tgt := 20) hx hb d_Mo_branch_16 (by decide) ?_
      refine zcV [.int x, .int n, .int 2, .int 1] [] E (t_Mo_add l D cs A q th sc lc R hI.1 x n 2 1 (Or.inr rfl)) d_Mo_branch_20 w_327 w_329 ws_Mo_add w_2 w_330 ⟨rfl, by decide +kernel, by decide +kernel, (by decide +kernel : Option.map (fun d => d.parameters.length) (parseMethodDescriptor "(IIIZ)I") = some 4)⟩ ⟨(Nat.le_of_ble_eq_true rfl), (Nat.le_of_ble_eq_true rfl)⟩ ⟨(Nat.le_of_ble_eq_true rfl), (Nat.le_of_ble_eq_true rfl)⟩ rfl (Nat.le_of_ble_eq_true rfl) hl.1 (zrec hK hP (ci := 5) (i := 0) rfl rfl) hK ⟨hP, hD⟩ hS (fun _ h => h) (zki fun r H locs hq _ _ hS => ?_)
      refine zri E d_Mo_branch_23 hS (Nat.le_of_ble_eq_true rfl) (Nat.le_of_ble_eq_true rfl) ?_
      refine ⟨_, rfl, ?_⟩
      rcases hq with ⟨h1, h2, h3, h4⟩ | ⟨h1, h3, h4⟩
      · have hgd : zgd 2 x n := ⟨h1.1, Or.inr (Or.inr ⟨rfl, Or.inr c_11⟩)⟩
        obtain ⟨-, hx0, -, hn0, -, -⟩ := zgd_ok hgd
        exact Or.inl ⟨hgd, h2, h3, 0, _, zAg_add (kd := 2) hx0 hn0 hG, h4⟩
      · exact Or.inr ⟨fun q => h1 ⟨⟨q.1.1, rfl⟩, q.2⟩, h3, 0, R, hG, h4⟩
set_option maxHeartbeats 4000000 in
set_option maxRecDepth 100000 in
theorem t_Mo_label (l : Launch) (D : va_G) (cs : ClassId × ClassId × ClassId × ClassId) (A : Nat → Prop) (q : Nat → Nat) (sc lc : Nat) (c : Nat → Nat → Nat) (gp mo : Nat → Int32) (V : Nat → Nat → Int32) (hI : zI sc lc c gp) (x : Int32) : zMet l D cs y_Mo_label c_Mo_label 2 (some FieldType.int) ({ frames := 0, cells := 0, slots := 0, locals := 0 } : Room) [.ref (q 0), .int x] (zRW D A q cs sc lc c gp mo V) A (zqi (zlabel lc x (zRW D A q cs sc lc c gp mo V) (zRW D A q cs sc (lc + 1) (zlc c lc sc x) gp mo (zu V 4 lc 0)))) := by
  refine zmk (by decide) (Nat.le_of_ble_eq_true rfl) ?_
  intro p e s m below meth cd ls E hK hP0 hl
  have hS : va_S A s.heap s.heap [] := va_S.rf
  obtain ⟨th, R, hG, hP, hD⟩ := hP0
  obtain ⟨hx, hb, hr, hts, hown, hlocks, hml, hin⟩ := id E
  have hl : lv_has ls 2 [(0, .ref (q 0)), (1, .int x)] := hl
  have hlc := hI.2.1
  have hsc := hI.1
  refine lv_aload_n hx hb d_Mo_label_0 rfl (lv_at hl 0 rfl) ?_
  refine lv_iconst (v := 0) hx hb d_Mo_label_1 (by decide) ?_
  refine va_put (D := D) (ci := 5) (v := .int 0) (ty := .int) (C := "BranchLayoutModel") (T := T_Mo) (N := 17) hx hb hts in_Mo ty_Mo ok_Mo nm_Mo hown hK.1 hP hD hS 0 rfl rfl 0 (by decide) (hts _ w_265) (fun _ h9 => h9) rfl (by decide +kernel) rfl rfl (Nat.le_of_ble_eq_true rfl) d_Mo_label_2 (fun H locs hP hD hS => ?_)
  have hP : va_P D zcl (zM q cs 0 sc lc R) H := hP
  have hD : va_D A (zM q cs 0 sc lc R) := hD
  refine lv_iload_n hx hb d_Mo_label_5 rfl (lv_at hl 1 rfl) ?_
  refine lv_if_lt (tgt := 24) hx hb d_Mo_label_6 (by decide) (fun c_12 => ?_) (fun c_12 => ?_)
  · skip
    refine lv_iconst (v := (-1)) hx hb d_Mo_label_24 (by decide) ?_
    refine zri E d_Mo_label_25 hS (Nat.le_of_ble_eq_true rfl) (Nat.le_of_ble_eq_true rfl) ?_
    exact ⟨_, rfl, Or.inr ⟨fun q => by have q1 := q.1; rw [zsec_f1 c_12] at q1; exact Bool.noConfusion q1, rfl, 0, R, hG, hP, hD⟩⟩
  · skip
    refine lv_iload_n hx hb d_Mo_label_9 rfl (lv_at hl 1 rfl) ?_
    refine lv_iconst (v := 3) hx hb d_Mo_label_10 (by decide) ?_
    refine lv_icmp_gt (tgt := 24) hx hb d_Mo_label_11 (by decide) (fun c_13 => ?_) (fun c_13 => ?_)
    · skip
      refine lv_iconst (v := (-1)) hx hb d_Mo_label_24 (by decide) ?_
      refine zri E d_Mo_label_25 hS (Nat.le_of_ble_eq_true rfl) (Nat.le_of_ble_eq_true rfl) ?_
      exact ⟨_, rfl, Or.inr ⟨fun q => by have q1 := q.1; rw [zsec_f2 c_13] at q1; exact Bool.noConfusion q1, rfl, 0, R, hG, hP, hD⟩⟩
    · skip
      refine lv_aload_n hx hb d_Mo_label_14 rfl (lv_at hl 0 rfl) ?_
      refine va_get (D := D) (ci := 5) (v := .int (nI lc)) (C := "BranchLayoutModel") (T := T_Mo) (N := 17) hx hb hts in_Mo hown hK.1 hP 0 rfl rfl 2 (by decide) (hts _ w_267) (fun _ h9 => h9) rfl d_Mo_label_15 ?_
      refine lv_sipush (v := 1024) hx hb d_Mo_label_18 (by decide) ?_
      have e1024 : (1024 : Int32) = nI 1024 := by decide
      rw [e1024]
      refine lv_icmp_ne (tgt := 26) hx hb d_Mo_label_21 (by decide) (fun c_14 => ?_) (fun c_14 => ?_)
      · skip
        have hlt : lc < 1024 := Nat.lt_of_le_of_ne hlc fun q => c_14 (by rw [q])
        refine lv_aload_n hx hb d_Mo_label_26 rfl (lv_at hl 0 rfl) ?_
        refine va_get (D := D) (ci := 5) (v := .ref (q 8)) (C := "BranchLayoutModel") (T := T_Mo) (N := 17) hx hb hts in_Mo hown hK.1 hP 0 rfl rfl 8 (by decide) (hts _ w_273) (fun _ h9 => h9) rfl d_Mo_label_27 ?_
        refine lv_aload_n hx hb d_Mo_label_30 rfl (lv_at hl 0 rfl) ?_
        refine va_get (D := D) (ci := 5) (v := .int (nI lc)) (C := "BranchLayoutModel") (T := T_Mo) (N := 17) hx hb hts in_Mo hown hK.1 hP 0 rfl rfl 2 (by decide) (hts _ w_267) (fun _ h9 => h9) rfl d_Mo_label_31 ?_
        refine lv_iload_n hx hb d_Mo_label_34 rfl (lv_at hl 1 rfl) ?_
        refine va_iast hx hb hK.1 hP hD hS 6 0 rfl rfl (vp_in_nI (show lc < 1024 by omega) (by decide)) d_Mo_label_35 (fun H locs hP hD hS => ?_)
        rw [nI_clamp (show lc < 2 ^ 31 by omega), zm_set_8] at hP hD
        refine lv_aload_n hx hb d_Mo_label_36 rfl (lv_at hl 0 rfl) ?_
        refine va_get (D := D) (ci := 5) (v := .ref (q 9)) (C := "BranchLayoutModel") (T := T_Mo) (N := 17) hx hb hts in_Mo hown hK.1 hP 0 rfl rfl 9 (by decide) (hts _ w_274) (fun _ h9 => h9) rfl d_Mo_label_37 ?_
        refine lv_aload_n hx hb d_Mo_label_40 rfl (lv_at hl 0 rfl) ?_
        refine va_get (D := D) (ci := 5) (v := .int (nI lc)) (C := "BranchLayoutModel") (T := T_Mo) (N := 17) hx hb hts in_Mo hown hK.1 hP 0 rfl rfl 2 (by decide) (hts _ w_267) (fun _ h9 => h9) rfl d_Mo_label_41 ?_
        refine lv_aload_n hx hb d_Mo_label_44 rfl (lv_at hl 0 rfl) ?_
        refine va_get (D := D) (ci := 5) (v := .int (nI sc)) (C := "BranchLayoutModel") (T := T_Mo) (N := 17) hx hb hts in_Mo hown hK.1 hP 0 rfl rfl 1 (by decide) (hts _ w_266) (fun _ h9 => h9) rfl d_Mo_label_45 ?_
        refine va_iast hx hb hK.1 hP hD hS 7 0 rfl rfl (vp_in_nI (show lc < 1024 by omega) (by decide)) d_Mo_label_48 (fun H locs hP hD hS => ?_)
        rw [nI_clamp (show lc < 2 ^ 31 by omega), zm_set_9] at hP hD
        refine lv_aload_n hx hb d_Mo_label_49 rfl (lv_at hl 0 rfl) ?_
        refine va_get (D := D) (ci := 5) (v := .ref (q 14)) (C := "BranchLayoutModel") (T := T_Mo) (N := 17) hx hb hts in_Mo hown hK.1 hP 0 rfl rfl 14 (by decide) (hts _ w_279) (fun _ h9 => h9) rfl d_Mo_label_50 ?_
        refine lv_aload_n hx hb d_Mo_label_53 rfl (lv_at hl 0 rfl) ?_
        refine va_get (D := D) (ci := 5) (v := .int (nI lc)) (C := "BranchLayoutModel") (T := T_Mo) (N := 17) hx hb hts in_Mo hown hK.1 hP 0 rfl rfl 2 (by decide) (hts _ w_267) (fun _ h9 => h9) rfl d_Mo_label_54 ?_
        refine lv_iconst (v := 0) hx hb d_Mo_label_57 (by decide) ?_
        refine va_iast hx hb hK.1 hP hD hS 12 0 rfl rfl (vp_in_nI (show lc < 1024 by omega) (by decide)) d_Mo_label_58 (fun H locs hP hD hS => ?_)
        rw [nI_clamp (show lc < 2 ^ 31 by omega), zm_set_14] at hP hD
        refine lv_aload_n hx hb d_Mo_label_59 rfl (lv_at hl 0 rfl) ?_
        refine lv_dup hx hb d_Mo_label_60 rfl ?_
        refine va_get (D := D) (ci := 5) (v := .int (nI lc)) (C := "BranchLayoutModel") (T := T_Mo) (N := 17) hx hb hts in_Mo hown hK.1 hP 0 rfl rfl 2 (by decide) (hts _ w_267) (fun _ h9 => h9) rfl d_Mo_label_61 ?_
        refine lv_iconst (v := 1) hx hb d_Mo_label_64 (by decide) ?_
        refine lv_iadd hx hb d_Mo_label_65 ?_
        refine va_put (D := D) (ci := 5) (v := .int ((nI lc) + 1)) (ty := .int) (C := "BranchLayoutModel") (T := T_Mo) (N := 17) hx hb hts in_Mo ty_Mo ok_Mo nm_Mo hown hK.1 hP hD hS 0 rfl rfl 2 (by decide) (hts _ w_267) (fun _ h9 => h9) rfl (by decide +kernel) rfl rfl (Nat.le_of_ble_eq_true rfl) d_Mo_label_66 (fun H locs hP hD hS => ?_)
        rw [nI_1] at hP hD
        have hP : va_P D zcl (zM q cs 0 sc (lc + 1) (zu (zu (zu R 8 lc x) 9 lc (nI sc)) 14 lc 0)) H := hP
        have hD : va_D A (zM q cs 0 sc (lc + 1) (zu (zu (zu R 8 lc x) 9 lc (nI sc)) 14 lc 0)) := hD
        refine lv_aload_n hx hb d_Mo_label_69 rfl (lv_at hl 0 rfl) ?_
        refine va_get (D := D) (ci := 5) (v := .int (nI (lc + 1))) (C := "BranchLayoutModel") (T := T_Mo) (N := 17) hx hb hts in_Mo hown hK.1 hP 0 rfl rfl 2 (by decide) (hts _ w_267) (fun _ h9 => h9) rfl d_Mo_label_70 ?_
        refine lv_iconst (v := 1) hx hb d_Mo_label_73 (by decide) ?_
        refine lv_isub hx hb d_Mo_label_74 ?_
        refine zri E d_Mo_label_75 hS (Nat.le_of_ble_eq_true rfl) (Nat.le_of_ble_eq_true rfl) ?_
        refine ⟨_, rfl, Or.inl ⟨zsec_t c_12 c_13, hlt, ?_, 0, _, zAg_lab c_12 hG, hP, hD⟩⟩
        exact nI_pred lc
      · skip
        refine lv_iconst (v := (-1)) hx hb d_Mo_label_24 (by decide) ?_
        refine zri E d_Mo_label_25 hS (Nat.le_of_ble_eq_true rfl) (Nat.le_of_ble_eq_true rfl) ?_
        exact ⟨_, rfl, Or.inr ⟨fun q => absurd ((nI_eq (by omega) (by decide)).mp c_14) (by have := q.2; omega), rfl, 0, R, hG, hP, hD⟩⟩
set_option maxHeartbeats 4000000 in
set_option maxRecDepth 100000 in
theorem t_Mo_clear (l : Launch) (D : va_G) (cs : ClassId × ClassId × ClassId × ClassId) (A : Nat → Prop) (q : Nat → Nat) (sc lc : Nat) (c : Nat → Nat → Nat) (gp mo : Nat → Int32) (V : Nat → Nat → Int32) (hI : zI sc lc c gp) : zMet l D cs y_Mo_clear c_Mo_clear 2 none ({ frames := 0, cells := 0, slots := 0, locals := 0 } : Room) [.ref (q 0)] (zRW D A q cs sc lc c gp mo V) A (zqv (zRW D A q cs 0 0 c gp mo (zfl V 0))) := by
  refine zmk (by decide) (Nat.le_of_ble_eq_true rfl) ?_
  intro p e s m below meth cd ls E hK hP0 hl
  have hS : va_S A s.heap s.heap [] := va_S.rf
  obtain ⟨th, R, hG, hP, hD⟩ := hP0
  obtain ⟨hx, hb, hr, hts, hown, hlocks, hml, hin⟩ := id E
  have hl : lv_has ls 2 [(0, .ref (q 0))] := hl
  refine lv_aload_n hx hb d_Mo_clear_0 rfl (lv_at hl 0 rfl) ?_
  refine lv_iconst (v := 0) hx hb d_Mo_clear_1 (by decide) ?_
  refine va_put (D := D) (ci := 5) (v := .int 0) (ty := .int) (C := "BranchLayoutModel") (T := T_Mo) (N := 17) hx hb hts in_Mo ty_Mo ok_Mo nm_Mo hown hK.1 hP hD hS 0 rfl rfl 0 (by decide) (hts _ w_265) (fun _ h9 => h9) rfl (by decide +kernel) rfl rfl (Nat.le_of_ble_eq_true rfl) d_Mo_clear_2 (fun H locs hP hD hS => ?_)
  have hP : va_P D zcl (zM q cs 0 sc lc R) H := hP
  have hD : va_D A (zM q cs 0 sc lc R) := hD
  refine lv_aload_n hx hb d_Mo_clear_5 rfl (lv_at hl 0 rfl) ?_
  refine lv_iconst (v := 0) hx hb d_Mo_clear_6 (by decide) ?_
  refine lv_topi (fun z_15 ez_15 => ?_)
  rw [← nI_0] at ez_15
  subst ez_15
  refine va_put (D := D) (ci := 5) (v := .int (nI 0)) (ty := .int) (C := "BranchLayoutModel") (T := T_Mo) (N := 17) hx hb hts in_Mo ty_Mo ok_Mo nm_Mo hown hK.1 hP hD hS 0 rfl rfl 1 (by decide) (hts _ w_266) (fun _ h9 => h9) rfl (by decide +kernel) rfl rfl (Nat.le_of_ble_eq_true rfl) d_Mo_clear_7 (fun H locs hP hD hS => ?_)
  have hP : va_P D zcl (zM q cs 0 0 lc R) H := hP
  have hD : va_D A (zM q cs 0 0 lc R) := hD
  refine lv_aload_n hx hb d_Mo_clear_10 rfl (lv_at hl 0 rfl) ?_
  refine lv_iconst (v := 0) hx hb d_Mo_clear_11 (by decide) ?_
  refine lv_topi (fun z_16 ez_16 => ?_)
  rw [← nI_0] at ez_16
  subst ez_16
  refine va_put (D := D) (ci := 5) (v := .int (nI 0)) (ty := .int) (C := "BranchLayoutModel") (T := T_Mo) (N := 17) hx hb hts in_Mo ty_Mo ok_Mo nm_Mo hown hK.1 hP hD hS 0 rfl rfl 2 (by decide) (hts _ w_267) (fun _ h9 => h9) rfl (by decide +kernel) rfl rfl (Nat.le_of_ble_eq_true rfl) d_Mo_clear_12 (fun H locs hP hD hS => ?_)
  have hP : va_P D zcl (zM q cs 0 0 0 R) H := hP
  have hD : va_D A (zM q cs 0 0 0 R) := hD
  refine lv_iconst (v := 0) hx hb d_Mo_clear_15 (by decide) ?_
  refine lv_istore_n (lv' := [(1, .int 0), (0, .ref (q 0))]) hx hb d_Mo_clear_16 rfl hl (by decide) rfl (fun ls hl => ?_)
  refine lv_iload_n hx hb d_Mo_clear_17 rfl (lv_at hl 0 rfl) ?_
  refine lv_iconst (v := 4) hx hb d_Mo_clear_18 (by decide) ?_
  refine lv_icmp_ge (tgt := 35) hx hb d_Mo_clear_19 (by decide) (fun c_17 => ?_) (fun c_17 => ?_)
  · skip
    exact absurd c_17 (by decide)
  · skip
    refine lv_aload_n hx hb d_Mo_clear_22 rfl (lv_at hl 1 rfl) ?_
    refine va_get (D := D) (ci := 5) (v := .ref (q 15)) (C := "BranchLayoutModel") (T := T_Mo) (N := 17) hx hb hts in_Mo hown hK.1 hP 0 rfl rfl 15 (by decide) (hts _ w_280) (fun _ h9 => h9) rfl d_Mo_clear_23 ?_
    refine lv_iload_n hx hb d_Mo_clear_26 rfl (lv_at hl 0 rfl) ?_
    refine lv_iconst (v := 0) hx hb d_Mo_clear_27 (by decide) ?_
    refine va_iast hx hb hK.1 hP hD hS 13 0 rfl rfl (show ¬ _ from by decide) d_Mo_clear_28 (fun H locs hP hD hS => ?_)
    rw [show (0 : Int32).toNatClampNeg = 0 from by decide, zm_set_15] at hP hD
    refine lv_iinc (v := 1) (lv' := [(1, .int 1), (0, .ref (q 0))]) hx hb d_Mo_clear_29 hl (k := 0) rfl (by decide) (by decide) rfl (fun ls hl => ?_)
    refine lv_goto (tgt := 17) hx hb d_Mo_clear_32 (by decide) ?_
    refine lv_iload_n hx hb d_Mo_clear_17 rfl (lv_at hl 0 rfl) ?_
    refine lv_iconst (v := 4) hx hb d_Mo_clear_18 (by decide) ?_
    refine lv_icmp_ge (tgt := 35) hx hb d_Mo_clear_19 (by decide) (fun c_18 => ?_) (fun c_18 => ?_)
    · skip
      exact absurd c_18 (by decide)
    · skip
      refine lv_aload_n hx hb d_Mo_clear_22 rfl (lv_at hl 1 rfl) ?_
      refine va_get (D := D) (ci := 5) (v := .ref (q 15)) (C := "BranchLayoutModel") (T := T_Mo) (N := 17) hx hb hts in_Mo hown hK.1 hP 0 rfl rfl 15 (by decide) (hts _ w_280) (fun _ h9 => h9) rfl d_Mo_clear_23 ?_
      refine lv_iload_n hx hb d_Mo_clear_26 rfl (lv_at hl 0 rfl) ?_
      refine lv_iconst (v := 0) hx hb d_Mo_clear_27 (by decide) ?_
      refine va_iast hx hb hK.1 hP hD hS 13 0 rfl rfl (show ¬ _ from by decide) d_Mo_clear_28 (fun H locs hP hD hS => ?_)
      rw [show (1 : Int32).toNatClampNeg = 1 from by decide, zm_set_15] at hP hD
      refine lv_iinc (v := 2) (lv' := [(1, .int 2), (0, .ref (q 0))]) hx hb d_Mo_clear_29 hl (k := 0) rfl (by decide) (by decide) rfl (fun ls hl => ?_)
      refine lv_goto (tgt := 17) hx hb d_Mo_clear_32 (by decide) ?_
      refine lv_iload_n hx hb d_Mo_clear_17 rfl (lv_at hl 0 rfl) ?_
      refine lv_iconst (v := 4) hx hb d_Mo_clear_18 (by decide) ?_
      refine lv_icmp_ge (tgt := 35) hx hb d_Mo_clear_19 (by decide) (fun c_19 => ?_) (fun c_19 => ?_)
      · skip
        exact absurd c_19 (by decide)
      · skip
        refine lv_aload_n hx hb d_Mo_clear_22 rfl (lv_at hl 1 rfl) ?_
        refine va_get (D := D) (ci := 5) (v := .ref (q 15)) (C := "BranchLayoutModel") (T := T_Mo) (N := 17) hx hb hts in_Mo hown hK.1 hP 0 rfl rfl 15 (by decide) (hts _ w_280) (fun _ h9 => h9) rfl d_Mo_clear_23 ?_
        refine lv_iload_n hx hb d_Mo_clear_26 rfl (lv_at hl 0 rfl) ?_
        refine lv_iconst (v := 0) hx hb d_Mo_clear_27 (by decide) ?_
        refine va_iast hx hb hK.1 hP hD hS 13 0 rfl rfl (show ¬ _ from by decide) d_Mo_clear_28 (fun H locs hP hD hS => ?_)
        rw [show (2 : Int32).toNatClampNeg = 2 from by decide, zm_set_15] at hP hD
        refine lv_iinc (v := 3) (lv' := [(1, .int 3), (0, .ref (q 0))]) hx hb d_Mo_clear_29 hl (k := 0) rfl (by decide) (by decide) rfl (fun ls hl => ?_)
        refine lv_goto (tgt := 17) hx hb d_Mo_clear_32 (by decide) ?_
        refine lv_iload_n hx hb d_Mo_clear_17 rfl (lv_at hl 0 rfl) ?_
        refine lv_iconst (v := 4) hx hb d_Mo_clear_18 (by decide) ?_
        refine lv_icmp_ge (tgt := 35) hx hb d_Mo_clear_19 (by decide) (fun c_20 => ?_) (fun c_20 => ?_)
        · skip
          exact absurd c_20 (by decide)
        · skip
          refine lv_aload_n hx hb d_Mo_clear_22 rfl (lv_at hl 1 rfl) ?_
          refine va_get (D := D) (ci := 5) (v := .ref (q 15)) (C := "BranchLayoutModel") (T := T_Mo) (N := 17) hx hb hts in_Mo hown hK.1 hP 0 rfl rfl 15 (by decide) (hts _ w_280) (fun _ h9 => h9) rfl d_Mo_clear_23 ?_
          refine lv_iload_n hx hb d_Mo_clear_26 rfl (lv_at hl 0 rfl) ?_
          refine lv_iconst (v := 0) hx hb d_Mo_clear_27 (by decide) ?_
          refine va_iast hx hb hK.1 hP hD hS 13 0 rfl rfl (show ¬ _ from by decide) d_Mo_clear_28 (fun H locs hP hD hS => ?_)
          rw [show (3 : Int32).toNatClampNeg = 3 from by decide, zm_set_15] at hP hD
          refine lv_iinc (v := 4) (lv' := [(1, .int 4), (0, .ref (q 0))]) hx hb d_Mo_clear_29 hl (k := 0) rfl (by decide) (by decide) rfl (fun ls hl => ?_)
          refine lv_goto (tgt := 17) hx hb d_Mo_clear_32 (by decide) ?_
          refine lv_iload_n hx hb d_Mo_clear_17 rfl (lv_at hl 0 rfl) ?_
          refine lv_iconst (v := 4) hx hb d_Mo_clear_18 (by decide) ?_
          refine lv_icmp_ge (tgt := 35) hx hb d_Mo_clear_19 (by decide) (fun c_21 => ?_) (fun c_21 => ?_)
          · skip
            refine zrv E d_Mo_clear_35 hS (Nat.le_of_ble_eq_true rfl) (Nat.le_of_ble_eq_true rfl) ?_
            exact ⟨rfl, 0, _, zAg_clear, hP, hD⟩
          · skip
            exact absurd (by decide) c_21
set_option maxHeartbeats 4000000 in
set_option maxRecDepth 100000 in
theorem t_Mo_statement (l : Launch) (D : va_G) (cs : ClassId × ClassId × ClassId × ClassId) (A : Nat → Prop) (q : Nat → Nat) (sc lc : Nat) (c : Nat → Nat → Nat) (gp mo : Nat → Int32) (V : Nat → Nat → Int32) (hI : zI sc lc c gp) (hJ : zJ sc c gp V) (x w : Int32) : zMet l D cs y_Mo_statement c_Mo_statement 3 (some FieldType.int) ({ frames := 0, cells := 0, slots := 0, locals := 0 } : Room) [.ref (q 0), .int x, .int w] (zRW D A q cs sc lc c gp mo V) A (zqi fun r H => r = (if zst sc x then zfa V x.toNatClampNeg w else -1) ∧ zRW D A q cs sc lc c gp mo V H) := by
  refine zmk (by decide) (Nat.le_of_ble_eq_true rfl) ?_
  intro p e s m below meth cd ls E hK hP0 hl
  have hS : va_S A s.heap s.heap [] := va_S.rf
  obtain ⟨th, R, hG, hP, hD⟩ := hP0
  obtain ⟨hx, hb, hr, hts, hown, hlocks, hml, hin⟩ := id E
  have hl : lv_has ls 3 [(0, .ref (q 0)), (1, .int x), (2, .int w)] := hl
  have hsc := hI.1
  refine lv_aload_n hx hb d_Mo_statement_0 rfl (lv_at hl 0 rfl) ?_
  refine lv_iconst (v := 0) hx hb d_Mo_statement_1 (by decide) ?_
  refine va_put (D := D) (ci := 5) (v := .int 0) (ty := .int) (C := "BranchLayoutModel") (T := T_Mo) (N := 17) hx hb hts in_Mo ty_Mo ok_Mo nm_Mo hown hK.1 hP hD hS 0 rfl rfl 0 (by decide) (hts _ w_265) (fun _ h9 => h9) rfl (by decide +kernel) rfl rfl (Nat.le_of_ble_eq_true rfl) d_Mo_statement_2 (fun H locs hP hD hS => ?_)
  have hP : va_P D zcl (zM q cs 0 sc lc R) H := hP
  have hD : va_D A (zM q cs 0 sc lc R) := hD
  refine lv_iload_n hx hb d_Mo_statement_5 rfl (lv_at hl 1 rfl) ?_
  refine lv_if_lt (tgt := 26) hx hb d_Mo_statement_6 (by decide) (fun c_22 => ?_) (fun c_22 => ?_)
  · skip
    refine lv_iconst (v := (-1)) hx hb d_Mo_statement_26 (by decide) ?_
    refine zri E d_Mo_statement_27 hS (Nat.le_of_ble_eq_true rfl) (Nat.le_of_ble_eq_true rfl) ?_
    exact ⟨_, rfl, by simp [zst, c_22], 0, R, hG, hP, hD⟩
  · skip
    refine lv_iload_n hx hb d_Mo_statement_9 rfl (lv_at hl 1 rfl) ?_
    refine lv_aload_n hx hb d_Mo_statement_10 rfl (lv_at hl 0 rfl) ?_
    refine va_get (D := D) (ci := 5) (v := .int (nI sc)) (C := "BranchLayoutModel") (T := T_Mo) (N := 17) hx hb hts in_Mo hown hK.1 hP 0 rfl rfl 1 (by decide) (hts _ w_266) (fun _ h9 => h9) rfl d_Mo_statement_11 ?_
    refine lv_icmp_ge (tgt := 26) hx hb d_Mo_statement_14 (by decide) (fun c_23 => ?_) (fun c_23 => ?_)
    · skip
      refine lv_iconst (v := (-1)) hx hb d_Mo_statement_26 (by decide) ?_
      refine zri E d_Mo_statement_27 hS (Nat.le_of_ble_eq_true rfl) (Nat.le_of_ble_eq_true rfl) ?_
      exact ⟨_, rfl, by simp [zst, c_23], 0, R, hG, hP, hD⟩
    · skip
      have hz : zst sc x = true := by simp [zst, c_22, c_23]
      obtain ⟨k, hk, ex, ek⟩ := zst_of (by omega) hz
      rw [hz, ek]
      subst ex
      obtain ⟨a1, a2, a3, a4, a5, a6, a7, a8, a9⟩ := hG.1 k hk
      refine lv_iload_n hx hb d_Mo_statement_17 rfl (lv_at hl 2 rfl) ?_
      refine lv_if_lt (tgt := 26) hx hb d_Mo_statement_18 (by decide) (fun c_24 => ?_) (fun c_24 => ?_)
      · skip
        refine lv_iconst (v := (-1)) hx hb d_Mo_statement_26 (by decide) ?_
        have w0 : ¬ w = 0 := fun q => absurd c_24 (by rw [q]; decide)
        have w1 : ¬ w = 1 := fun q => absurd c_24 (by rw [q]; decide)
        have w2 : ¬ w = 2 := fun q => absurd c_24 (by rw [q]; decide)
        have w3 : ¬ w = 3 := fun q => absurd c_24 (by rw [q]; decide)
        refine zri E d_Mo_statement_27 hS (Nat.le_of_ble_eq_true rfl) (Nat.le_of_ble_eq_true rfl) ?_
        exact ⟨_, rfl, by simp [zfa, w0, w1, w2, w3], 0, R, hG, hP, hD⟩
      · skip
        refine lv_iload_n hx hb d_Mo_statement_21 rfl (lv_at hl 2 rfl) ?_
        refine lv_iconst (v := 3) hx hb d_Mo_statement_22 (by decide) ?_
        refine lv_icmp_le (tgt := 28) hx hb d_Mo_statement_23 (by decide) (fun c_25 => ?_) (fun c_25 => ?_)
        · skip
          refine lv_iload_n hx hb d_Mo_statement_28 rfl (lv_at hl 2 rfl) ?_
          refine lv_if_ne (tgt := 41) hx hb d_Mo_statement_29 (by decide) (fun c_26 => ?_) (fun c_26 => ?_)
          · skip
            refine lv_iload_n hx hb d_Mo_statement_41 rfl (lv_at hl 2 rfl) ?_
            refine lv_iconst (v := 1) hx hb d_Mo_statement_42 (by decide) ?_
            refine lv_icmp_ne (tgt := 55) hx hb d_Mo_statement_43 (by decide) (fun c_27 => ?_) (fun c_27 => ?_)
            · skip
              refine lv_iload_n hx hb d_Mo_statement_55 rfl (lv_at hl 2 rfl) ?_
              refine lv_iconst (v := 2) hx hb d_Mo_statement_56 (by decide) ?_
              refine lv_icmp_ne (tgt := 77) hx hb d_Mo_statement_57 (by decide) (fun c_28 => ?_) (fun c_28 => ?_)
              · skip
                have w3 : w = 3 := by
                  have e0 : (0 : Int32).toInt = 0 := by decide
                  have e3 : (3 : Int32).toInt = 3 := by decide
                  have n0 : ¬ w.toInt < 0 := fun q => c_24 (by rw [Int32.lt_iff_toInt_lt, e0]; exact q)
                  have n3 : w.toInt ≤ 3 := by rw [← e3]; exact Int32.le_iff_toInt_le.mp c_25
                  have k0 := lv_neT (k := 0) (a := 0) c_26 (by decide)
                  have k1 := lv_neT (k := 1) (a := 1) c_27 (by decide)
                  have k2 := lv_neT (k := 2) (a := 2) c_28 (by decide)
                  exact Int32.toInt_inj.mp (by rw [e3]; omega)
                refine lv_aload_n hx hb d_Mo_statement_77 rfl (lv_at hl 0 rfl) ?_
                refine va_get (D := D) (ci := 5) (v := .ref (q 13)) (C := "BranchLayoutModel") (T := T_Mo) (N := 17) hx hb hts in_Mo hown hK.1 hP 0 rfl rfl 13 (by decide) (hts _ w_278) (fun _ h9 => h9) rfl d_Mo_statement_78 ?_
                refine lv_iload_n hx hb d_Mo_statement_81 rfl (lv_at hl 1 rfl) ?_
                refine va_iald hx hb hK.1 hP 11 0 rfl rfl (vp_in_nI (show k < 4096 by omega) (by decide)) d_Mo_statement_82 ?_
                rw [nI_clamp (show k < 2 ^ 31 by omega)]
                rw [a8]
                refine zri E d_Mo_statement_83 hS (Nat.le_of_ble_eq_true rfl) (Nat.le_of_ble_eq_true rfl) ?_
                exact ⟨_, rfl, by simp [zfa, w3], 0, R, hG, hP, hD⟩
              · skip
                refine lv_aload_n hx hb d_Mo_statement_60 rfl (lv_at hl 0 rfl) ?_
                refine va_get (D := D) (ci := 5) (v := .ref (q 16)) (C := "BranchLayoutModel") (T := T_Mo) (N := 17) hx hb hts in_Mo hown hK.1 hP 0 rfl rfl 16 (by decide) (hts _ w_281) (fun _ h9 => h9) rfl d_Mo_statement_61 ?_
                refine lv_iload_n hx hb d_Mo_statement_64 rfl (lv_at hl 1 rfl) ?_
                refine va_zald hx hb hK.1 hP 14 1 rfl rfl (vp_in_nI (show k < 4096 by omega) (by decide)) d_Mo_statement_65 ?_
                rw [nI_clamp (show k < 2 ^ 31 by omega)]
                rw [a9]
                refine lv_if_eq (tgt := 73) hx hb d_Mo_statement_66 (by decide) (fun c_29 => ?_) (fun c_29 => ?_)
                · skip
                  refine lv_iconst (v := 0) hx hb d_Mo_statement_73 (by decide) ?_
                  refine lv_goto (tgt := 83) hx hb d_Mo_statement_74 (by decide) ?_
                  refine zri E d_Mo_statement_83 hS (Nat.le_of_ble_eq_true rfl) (Nat.le_of_ble_eq_true rfl) ?_
                  exact ⟨_, rfl, by simp [zfa, c_28, c_29], 0, R, hG, hP, hD⟩
                · skip
                  refine lv_iconst (v := 1) hx hb d_Mo_statement_69 (by decide) ?_
                  refine lv_goto (tgt := 83) hx hb d_Mo_statement_70 (by decide) ?_
                  refine zri E d_Mo_statement_83 hS (Nat.le_of_ble_eq_true rfl) (Nat.le_of_ble_eq_true rfl) ?_
                  exact ⟨_, rfl, by have e1 := (hJ k hk).1.resolve_left c_29; simp [zfa, c_28, e1], 0, R, hG, hP, hD⟩
            · skip
              refine lv_aload_n hx hb d_Mo_statement_46 rfl (lv_at hl 0 rfl) ?_
              refine va_get (D := D) (ci := 5) (v := .ref (q 12)) (C := "BranchLayoutModel") (T := T_Mo) (N := 17) hx hb hts in_Mo hown hK.1 hP 0 rfl rfl 12 (by decide) (hts _ w_277) (fun _ h9 => h9) rfl d_Mo_statement_47 ?_
              refine lv_iload_n hx hb d_Mo_statement_50 rfl (lv_at hl 1 rfl) ?_
              refine va_iald hx hb hK.1 hP 10 0 rfl rfl (vp_in_nI (show k < 4096 by omega) (by decide)) d_Mo_statement_51 ?_
              rw [nI_clamp (show k < 2 ^ 31 by omega)]
              rw [a7]
              refine lv_goto (tgt := 83) hx hb d_Mo_statement_52 (by decide) ?_
              refine zri E d_Mo_statement_83 hS (Nat.le_of_ble_eq_true rfl) (Nat.le_of_ble_eq_true rfl) ?_
              exact ⟨_, rfl, by simp [zfa, c_27], 0, R, hG, hP, hD⟩
          · skip
            refine lv_aload_n hx hb d_Mo_statement_32 rfl (lv_at hl 0 rfl) ?_
            refine va_get (D := D) (ci := 5) (v := .ref (q 11)) (C := "BranchLayoutModel") (T := T_Mo) (N := 17) hx hb hts in_Mo hown hK.1 hP 0 rfl rfl 11 (by decide) (hts _ w_276) (fun _ h9 => h9) rfl d_Mo_statement_33 ?_
            refine lv_iload_n hx hb d_Mo_statement_36 rfl (lv_at hl 1 rfl) ?_
            refine va_iald hx hb hK.1 hP 9 0 rfl rfl (vp_in_nI (show k < 4096 by omega) (by decide)) d_Mo_statement_37 ?_
            rw [nI_clamp (show k < 2 ^ 31 by omega)]
            rw [a6]
            refine lv_goto (tgt := 83) hx hb d_Mo_statement_38 (by decide) ?_
            refine zri E d_Mo_statement_83 hS (Nat.le_of_ble_eq_true rfl) (Nat.le_of_ble_eq_true rfl) ?_
            exact ⟨_, rfl, by simp [zfa, c_26], 0, R, hG, hP, hD⟩
        · skip
          refine lv_iconst (v := (-1)) hx hb d_Mo_statement_26 (by decide) ?_
          have w0 : ¬ w = 0 := fun q => c_25 (by rw [q]; decide)
          have w1 : ¬ w = 1 := fun q => c_25 (by rw [q]; decide)
          have w2 : ¬ w = 2 := fun q => c_25 (by rw [q]; decide)
          have w3 : ¬ w = 3 := fun q => c_25 (by rw [q]; decide)
          refine zri E d_Mo_statement_27 hS (Nat.le_of_ble_eq_true rfl) (Nat.le_of_ble_eq_true rfl) ?_
          exact ⟨_, rfl, by simp [zfa, w0, w1, w2, w3], 0, R, hG, hP, hD⟩
set_option maxHeartbeats 4000000 in
set_option maxRecDepth 100000 in
theorem t_Mo_place (l : Launch) (D : va_G) (cs : ClassId × ClassId × ClassId × ClassId) (A : Nat → Prop) (q : Nat → Nat) (sc lc : Nat) (c : Nat → Nat → Nat) (gp mo : Nat → Int32) (V : Nat → Nat → Int32) (hI : zI sc lc c gp) (x : Int32) : zMet l D cs y_Mo_place c_Mo_place 2 (some FieldType.int) ({ frames := 0, cells := 0, slots := 0, locals := 0 } : Room) [.ref (q 0), .int x] (zRW D A q cs sc lc c gp mo V) A (zqi fun r H => r = (if zst lc x then V 4 x.toNatClampNeg else -1) ∧ zRW D A q cs sc lc c gp mo V H) := by
  refine zmk (by decide) (Nat.le_of_ble_eq_true rfl) ?_
  intro p e s m below meth cd ls E hK hP0 hl
  have hS : va_S A s.heap s.heap [] := va_S.rf
  obtain ⟨th, R, hG, hP, hD⟩ := hP0
  obtain ⟨hx, hb, hr, hts, hown, hlocks, hml, hin⟩ := id E
  have hl : lv_has ls 2 [(0, .ref (q 0)), (1, .int x)] := hl
  have hlc := hI.2.1
  refine lv_aload_n hx hb d_Mo_place_0 rfl (lv_at hl 0 rfl) ?_
  refine lv_iconst (v := 0) hx hb d_Mo_place_1 (by decide) ?_
  refine va_put (D := D) (ci := 5) (v := .int 0) (ty := .int) (C := "BranchLayoutModel") (T := T_Mo) (N := 17) hx hb hts in_Mo ty_Mo ok_Mo nm_Mo hown hK.1 hP hD hS 0 rfl rfl 0 (by decide) (hts _ w_265) (fun _ h9 => h9) rfl (by decide +kernel) rfl rfl (Nat.le_of_ble_eq_true rfl) d_Mo_place_2 (fun H locs hP hD hS => ?_)
  have hP : va_P D zcl (zM q cs 0 sc lc R) H := hP
  have hD : va_D A (zM q cs 0 sc lc R) := hD
  refine lv_iload_n hx hb d_Mo_place_5 rfl (lv_at hl 1 rfl) ?_
  refine lv_if_lt (tgt := 26) hx hb d_Mo_place_6 (by decide) (fun c_30 => ?_) (fun c_30 => ?_)
  · skip
    refine lv_iconst (v := (-1)) hx hb d_Mo_place_26 (by decide) ?_
    refine zri E d_Mo_place_27 hS (Nat.le_of_ble_eq_true rfl) (Nat.le_of_ble_eq_true rfl) ?_
    exact ⟨_, rfl, by simp [zst, c_30], 0, R, hG, hP, hD⟩
  · skip
    refine lv_iload_n hx hb d_Mo_place_9 rfl (lv_at hl 1 rfl) ?_
    refine lv_aload_n hx hb d_Mo_place_10 rfl (lv_at hl 0 rfl) ?_
    refine va_get (D := D) (ci := 5) (v := .int (nI lc)) (C := "BranchLayoutModel") (T := T_Mo) (N := 17) hx hb hts in_Mo hown hK.1 hP 0 rfl rfl 2 (by decide) (hts _ w_267) (fun _ h9 => h9) rfl d_Mo_place_11 ?_
    refine lv_icmp_ge (tgt := 26) hx hb d_Mo_place_14 (by decide) (fun c_31 => ?_) (fun c_31 => ?_)
    · skip
      refine lv_iconst (v := (-1)) hx hb d_Mo_place_26 (by decide) ?_
      refine zri E d_Mo_place_27 hS (Nat.le_of_ble_eq_true rfl) (Nat.le_of_ble_eq_true rfl) ?_
      exact ⟨_, rfl, by simp [zst, c_31], 0, R, hG, hP, hD⟩
    · skip
      have hz : zst lc x = true := by simp [zst, c_30, c_31]
      obtain ⟨k, hk, ex, ek⟩ := zst_of (by omega) hz
      rw [hz, ek]
      subst ex
      obtain ⟨a1, a2, a3⟩ := hG.2.1 k hk
      refine lv_aload_n hx hb d_Mo_place_17 rfl (lv_at hl 0 rfl) ?_
      refine va_get (D := D) (ci := 5) (v := .ref (q 14)) (C := "BranchLayoutModel") (T := T_Mo) (N := 17) hx hb hts in_Mo hown hK.1 hP 0 rfl rfl 14 (by decide) (hts _ w_279) (fun _ h9 => h9) rfl d_Mo_place_18 ?_
      refine lv_iload_n hx hb d_Mo_place_21 rfl (lv_at hl 1 rfl) ?_
      refine va_iald hx hb hK.1 hP 12 0 rfl rfl (vp_in_nI (show k < 1024 by omega) (by decide)) d_Mo_place_22 ?_
      rw [nI_clamp (show k < 2 ^ 31 by omega)]
      rw [a3]
      refine lv_goto (tgt := 27) hx hb d_Mo_place_23 (by decide) ?_
      refine zri E d_Mo_place_27 hS (Nat.le_of_ble_eq_true rfl) (Nat.le_of_ble_eq_true rfl) ?_
      exact ⟨_, rfl, rfl, 0, R, hG, hP, hD⟩
set_option maxHeartbeats 4000000 in
set_option maxRecDepth 100000 in
theorem t_Mo_size (l : Launch) (D : va_G) (cs : ClassId × ClassId × ClassId × ClassId) (A : Nat → Prop) (q : Nat → Nat) (sc lc : Nat) (c : Nat → Nat → Nat) (gp mo : Nat → Int32) (V : Nat → Nat → Int32) (hI : zI sc lc c gp) (x : Int32) : zMet l D cs y_Mo_size c_Mo_size 2 (some FieldType.int) ({ frames := 0, cells := 0, slots := 0, locals := 0 } : Room) [.ref (q 0), .int x] (zRW D A q cs sc lc c gp mo V) A (zqi fun r H => r = (if zsec x then V 5 x.toNatClampNeg else -1) ∧ zRW D A q cs sc lc c gp mo V H) := by
  refine zmk (by decide) (Nat.le_of_ble_eq_true rfl) ?_
  intro p e s m below meth cd ls E hK hP0 hl
  have hS : va_S A s.heap s.heap [] := va_S.rf
  obtain ⟨th, R, hG, hP, hD⟩ := hP0
  obtain ⟨hx, hb, hr, hts, hown, hlocks, hml, hin⟩ := id E
  have hl : lv_has ls 2 [(0, .ref (q 0)), (1, .int x)] := hl
  refine lv_aload_n hx hb d_Mo_size_0 rfl (lv_at hl 0 rfl) ?_
  refine lv_iconst (v := 0) hx hb d_Mo_size_1 (by decide) ?_
  refine va_put (D := D) (ci := 5) (v := .int 0) (ty := .int) (C := "BranchLayoutModel") (T := T_Mo) (N := 17) hx hb hts in_Mo ty_Mo ok_Mo nm_Mo hown hK.1 hP hD hS 0 rfl rfl 0 (by decide) (hts _ w_265) (fun _ h9 => h9) rfl (by decide +kernel) rfl rfl (Nat.le_of_ble_eq_true rfl) d_Mo_size_2 (fun H locs hP hD hS => ?_)
  have hP : va_P D zcl (zM q cs 0 sc lc R) H := hP
  have hD : va_D A (zM q cs 0 sc lc R) := hD
  refine lv_iload_n hx hb d_Mo_size_5 rfl (lv_at hl 1 rfl) ?_
  refine lv_if_lt (tgt := 23) hx hb d_Mo_size_6 (by decide) (fun c_32 => ?_) (fun c_32 => ?_)
  · skip
    refine lv_iconst (v := (-1)) hx hb d_Mo_size_23 (by decide) ?_
    refine zri E d_Mo_size_24 hS (Nat.le_of_ble_eq_true rfl) (Nat.le_of_ble_eq_true rfl) ?_
    exact ⟨_, rfl, by simp [zsec, c_32], 0, R, hG, hP, hD⟩
  · skip
    refine lv_iload_n hx hb d_Mo_size_9 rfl (lv_at hl 1 rfl) ?_
    refine lv_iconst (v := 4) hx hb d_Mo_size_10 (by decide) ?_
    refine lv_icmp_ge (tgt := 23) hx hb d_Mo_size_11 (by decide) (fun c_33 => ?_) (fun c_33 => ?_)
    · skip
      refine lv_iconst (v := (-1)) hx hb d_Mo_size_23 (by decide) ?_
      refine zri E d_Mo_size_24 hS (Nat.le_of_ble_eq_true rfl) (Nat.le_of_ble_eq_true rfl) ?_
      exact ⟨_, rfl, by simp [zsec, Int32.not_lt.mpr c_33], 0, R, hG, hP, hD⟩
    · skip
      have hz : zsec x = true := by simp [zsec, c_32, Int32.not_le.mp c_33]
      obtain ⟨-, k, hk, ex⟩ := zin (n := 4) (N := 4) (by decide) (by decide) c_32 c_33
      rw [hz]
      subst ex
      rw [nI_clamp (show k < 2 ^ 31 by omega)]
      have a3 := hG.2.2 k hk
      refine lv_aload_n hx hb d_Mo_size_14 rfl (lv_at hl 0 rfl) ?_
      refine va_get (D := D) (ci := 5) (v := .ref (q 15)) (C := "BranchLayoutModel") (T := T_Mo) (N := 17) hx hb hts in_Mo hown hK.1 hP 0 rfl rfl 15 (by decide) (hts _ w_280) (fun _ h9 => h9) rfl d_Mo_size_15 ?_
      refine lv_iload_n hx hb d_Mo_size_18 rfl (lv_at hl 1 rfl) ?_
      refine va_iald hx hb hK.1 hP 13 0 rfl rfl (vp_in_nI (show k < 4 by omega) (by decide)) d_Mo_size_19 ?_
      rw [nI_clamp (show k < 2 ^ 31 by omega)]
      rw [a3]
      refine lv_goto (tgt := 24) hx hb d_Mo_size_20 (by decide) ?_
      refine zri E d_Mo_size_24 hS (Nat.le_of_ble_eq_true rfl) (Nat.le_of_ble_eq_true rfl) ?_
      exact ⟨_, rfl, rfl, 0, R, hG, hP, hD⟩
set_option maxHeartbeats 4000000 in
set_option maxRecDepth 100000 in
theorem t_Mo_go (l : Launch) (D : va_G) (cs : ClassId × ClassId × ClassId × ClassId) (A : Nat → Prop) (q : Nat → Nat) (sc lc : Nat) (c : Nat → Nat → Nat) (gp mo : Nat → Int32) (V : Nat → Nat → Int32) (hI : zI sc lc c gp) (x pl mr : Int32) : zMet l D cs y_Mo_go c_Mo_go 6 (some FieldType.boolean) ({ frames := 0, cells := 0, slots := 0, locals := 0 } : Room) [.ref (q 0), .int x, .int pl, .int mr] (zRW D A q cs sc lc c gp mo V) A (zqi (zgoq sc lc c x pl (zRW D A q cs sc lc c gp mo V) (fun H => zRW D A q cs sc lc c (upd gp x.toNatClampNeg pl) (upd mo x.toNatClampNeg mr) V H))) := by
  refine zmk (by decide) (Nat.le_of_ble_eq_true rfl) ?_
  intro p e s m below meth cd ls E hK hP0 hl
  have hS : va_S A s.heap s.heap [] := va_S.rf
  obtain ⟨th, R, hG, hP, hD⟩ := hP0
  obtain ⟨hx, hb, hr, hts, hown, hlocks, hml, hin⟩ := id E
  have hl : lv_has ls 6 [(0, .ref (q 0)), (1, .int x), (2, .int pl), (3, .int mr)] := hl
  have hsc := hI.1
  have hlc := hI.2.1
  refine lv_aload_n hx hb d_Mo_go_0 rfl (lv_at hl 0 rfl) ?_
  refine lv_iconst (v := 0) hx hb d_Mo_go_1 (by decide) ?_
  refine va_put (D := D) (ci := 5) (v := .int 0) (ty := .int) (C := "BranchLayoutModel") (T := T_Mo) (N := 17) hx hb hts in_Mo ty_Mo ok_Mo nm_Mo hown hK.1 hP hD hS 0 rfl rfl 0 (by decide) (hts _ w_265) (fun _ h9 => h9) rfl (by decide +kernel) rfl rfl (Nat.le_of_ble_eq_true rfl) d_Mo_go_2 (fun H locs hP hD hS => ?_)
  have hP : va_P D zcl (zM q cs 0 sc lc R) H := hP
  have hD : va_D A (zM q cs 0 sc lc R) := hD
  refine lv_iload_n hx hb d_Mo_go_5 rfl (lv_at hl 1 rfl) ?_
  refine lv_if_lt (tgt := 27) hx hb d_Mo_go_6 (by decide) (fun c_34 => ?_) (fun c_34 => ?_)
  · skip
    refine lv_iconst (v := 0) hx hb d_Mo_go_27 (by decide) ?_
    refine zrz E d_Mo_go_28 (by decide) hS (Nat.le_of_ble_eq_true rfl) (Nat.le_of_ble_eq_true rfl) ?_
    exact ⟨_, rfl, Or.inr ⟨fun z => by have z1 := z.1; simp [zst, c_34] at z1, rfl, 0, R, hG, hP, hD⟩⟩
  · skip
    refine lv_iload_n hx hb d_Mo_go_9 rfl (lv_at hl 1 rfl) ?_
    refine lv_aload_n hx hb d_Mo_go_10 rfl (lv_at hl 0 rfl) ?_
    refine va_get (D := D) (ci := 5) (v := .int (nI sc)) (C := "BranchLayoutModel") (T := T_Mo) (N := 17) hx hb hts in_Mo hown hK.1 hP 0 rfl rfl 1 (by decide) (hts _ w_266) (fun _ h9 => h9) rfl d_Mo_go_11 ?_
    refine lv_icmp_ge (tgt := 27) hx hb d_Mo_go_14 (by decide) (fun c_35 => ?_) (fun c_35 => ?_)
    · skip
      refine lv_iconst (v := 0) hx hb d_Mo_go_27 (by decide) ?_
      refine zrz E d_Mo_go_28 (by decide) hS (Nat.le_of_ble_eq_true rfl) (Nat.le_of_ble_eq_true rfl) ?_
      exact ⟨_, rfl, Or.inr ⟨fun z => by have z1 := z.1; simp [zst, c_35] at z1, rfl, 0, R, hG, hP, hD⟩⟩
    · skip
      have hz : zst sc x = true := by simp [zst, c_34, c_35]
      obtain ⟨k, hk, ex, ek⟩ := zst_of (by omega) hz
      subst ex
      obtain ⟨a1, a2, a3, a4, a5, a6, a7, a8, a9⟩ := hG.1 k hk
      obtain ⟨b1, b2, b3, b4, b5, b6⟩ := hI.2.2.1 k hk
      refine lv_aload_n hx hb d_Mo_go_17 rfl (lv_at hl 0 rfl) ?_
      refine va_get (D := D) (ci := 5) (v := .ref (q 3)) (C := "BranchLayoutModel") (T := T_Mo) (N := 17) hx hb hts in_Mo hown hK.1 hP 0 rfl rfl 3 (by decide) (hts _ w_268) (fun _ h9 => h9) rfl d_Mo_go_18 ?_
      refine lv_iload_n hx hb d_Mo_go_21 rfl (lv_at hl 1 rfl) ?_
      refine va_iald hx hb hK.1 hP 1 0 rfl rfl (vp_in_nI (show k < 4096 by omega) (by decide)) d_Mo_go_22 ?_
      rw [nI_clamp (show k < 2 ^ 31 by omega)]
      rw [a1]
      refine lv_iconst (v := 2) hx hb d_Mo_go_23 (by decide) ?_
      have e2 : (2 : Int32) = nI 2 := by decide
      rw [e2]
      refine lv_icmp_eq (tgt := 29) hx hb d_Mo_go_24 (by decide) (fun c_36 => ?_) (fun c_36 => ?_)
      · skip
        have hk2 : c 0 k = 2 := (nI_eq (by omega) (by decide)).mp c_36
        refine lv_bipush (v := (-2)) hx hb d_Mo_go_29 (by decide) ?_
        refine lv_iload_n hx hb d_Mo_go_31 rfl (lv_at hl 2 rfl) ?_
        refine lv_isub hx hb d_Mo_go_32 ?_
        refine lv_istore (lv' := [(4, .int ((-2) - pl)), (0, .ref (q 0)), (1, .int (nI k)), (2, .int pl), (3, .int mr)]) hx hb d_Mo_go_33 hl (by decide) rfl (fun ls hl => ?_)
        refine lv_iload_n hx hb d_Mo_go_35 rfl (lv_at hl 3 rfl) ?_
        refine lv_if_lt (tgt := 70) hx hb d_Mo_go_36 (by decide) (fun c_37 => ?_) (fun c_37 => ?_)
        · skip
          refine lv_iload_n hx hb d_Mo_go_70 rfl (lv_at hl 3 rfl) ?_
          refine lv_iconst (v := (-1)) hx hb d_Mo_go_71 (by decide) ?_
          refine lv_icmp_ge (tgt := 109) hx hb d_Mo_go_72 (by decide) (fun c_38 => ?_) (fun c_38 => ?_)
          · skip
            have em1 : pl = -1 := by
              have e0 : (0 : Int32).toInt = 0 := by decide
              have e1 : (-1 : Int32).toInt = -1 := by decide
              have n0 : pl.toInt < 0 := by rw [← e0]; exact Int32.lt_iff_toInt_lt.mp c_37
              have n1 : -1 ≤ pl.toInt := by rw [← e1]; exact Int32.le_iff_toInt_le.mp c_38
              exact Int32.toInt_inj.mp (by rw [e1]; omega)
            have ezp : zpse sc lc c pl = none := by rw [em1]; simp [zpse, zst]
            refine lv_iconst (v := 0) hx hb d_Mo_go_109 (by decide) ?_
            refine lv_istore (lv' := [(5, .int 0), (4, .int ((-2) - pl)), (0, .ref (q 0)), (1, .int (nI k)), (2, .int pl), (3, .int mr)]) hx hb d_Mo_go_110 hl (by decide) rfl (fun ls hl => ?_)
            refine lv_iload hx hb d_Mo_go_112 (lv_at hl 0 rfl) ?_
            refine lv_if_ne (tgt := 119) hx hb d_Mo_go_114 (by decide) (fun c_39 => ?_) (fun c_39 => ?_)
            · skip
              exact absurd rfl c_39
            · skip
              refine lv_iconst (v := 0) hx hb d_Mo_go_117 (by decide) ?_
              refine zrz E d_Mo_go_118 (by decide) hS (Nat.le_of_ble_eq_true rfl) (Nat.le_of_ble_eq_true rfl) ?_
              exact ⟨_, rfl, Or.inr ⟨fun z => (by have z1 := z.2.2; rw [ezp] at z1; cases z1), rfl, 0, R, hG, hP, hD⟩⟩
          · skip
            refine lv_iload hx hb d_Mo_go_75 (lv_at hl 0 rfl) ?_
            refine lv_if_lt (tgt := 109) hx hb d_Mo_go_77 (by decide) (fun c_40 => ?_) (fun c_40 => ?_)
            · skip
              refine lv_iconst (v := 0) hx hb d_Mo_go_109 (by decide) ?_
              refine lv_istore (lv' := [(5, .int 0), (4, .int ((-2) - pl)), (0, .ref (q 0)), (1, .int (nI k)), (2, .int pl), (3, .int mr)]) hx hb d_Mo_go_110 hl (by decide) rfl (fun ls hl => ?_)
              refine lv_iload hx hb d_Mo_go_112 (lv_at hl 0 rfl) ?_
              refine lv_if_ne (tgt := 119) hx hb d_Mo_go_114 (by decide) (fun c_41 => ?_) (fun c_41 => ?_)
              · skip
                exact absurd rfl c_41
              · skip
                refine lv_iconst (v := 0) hx hb d_Mo_go_117 (by decide) ?_
                refine zrz E d_Mo_go_118 (by decide) hS (Nat.le_of_ble_eq_true rfl) (Nat.le_of_ble_eq_true rfl) ?_
                exact ⟨_, rfl, Or.inr ⟨fun z => by have z1 := z.2.2; simp [zpse, c_37, zst, c_40] at z1, rfl, 0, R, hG, hP, hD⟩⟩
            · skip
              refine lv_iload hx hb d_Mo_go_80 (lv_at hl 0 rfl) ?_
              refine lv_aload_n hx hb d_Mo_go_82 rfl (lv_at hl 1 rfl) ?_
              refine va_get (D := D) (ci := 5) (v := .int (nI sc)) (C := "BranchLayoutModel") (T := T_Mo) (N := 17) hx hb hts in_Mo hown hK.1 hP 0 rfl rfl 1 (by decide) (hts _ w_266) (fun _ h9 => h9) rfl d_Mo_go_83 ?_
              refine lv_icmp_ge (tgt := 109) hx hb d_Mo_go_86 (by decide) (fun c_42 => ?_) (fun c_42 => ?_)
              · skip
                refine lv_iconst (v := 0) hx hb d_Mo_go_109 (by decide) ?_
                refine lv_istore (lv' := [(5, .int 0), (4, .int ((-2) - pl)), (0, .ref (q 0)), (1, .int (nI k)), (2, .int pl), (3, .int mr)]) hx hb d_Mo_go_110 hl (by decide) rfl (fun ls hl => ?_)
                refine lv_iload hx hb d_Mo_go_112 (lv_at hl 0 rfl) ?_
                refine lv_if_ne (tgt := 119) hx hb d_Mo_go_114 (by decide) (fun c_43 => ?_) (fun c_43 => ?_)
                · skip
                  exact absurd rfl c_43
                · skip
                  refine lv_iconst (v := 0) hx hb d_Mo_go_117 (by decide) ?_
                  refine zrz E d_Mo_go_118 (by decide) hS (Nat.le_of_ble_eq_true rfl) (Nat.le_of_ble_eq_true rfl) ?_
                  exact ⟨_, rfl, Or.inr ⟨fun z => by have z1 := z.2.2; simp [zpse, c_37, zst, c_42] at z1, rfl, 0, R, hG, hP, hD⟩⟩
              · skip
                have hz2 : zst sc (-2 - pl) = true := by simp [zst, c_40, c_42]
                obtain ⟨i, hi, ei, ei2⟩ := zst_of (by omega) hz2
                have ezp : zpse sc lc c pl = some (c 1 i) := by simp [zpse, c_37, hz2, ei2]
                obtain ⟨d1, d2, d3, d4, d5, d6, d7, d8, d9⟩ := hG.1 i hi
                have f2 := (hI.2.2.1 i hi).2.1
                rw [ei] at hl
                refine lv_aload_n hx hb d_Mo_go_89 rfl (lv_at hl 1 rfl) ?_
                refine va_get (D := D) (ci := 5) (v := .ref (q 4)) (C := "BranchLayoutModel") (T := T_Mo) (N := 17) hx hb hts in_Mo hown hK.1 hP 0 rfl rfl 4 (by decide) (hts _ w_269) (fun _ h9 => h9) rfl d_Mo_go_90 ?_
                refine lv_iload hx hb d_Mo_go_93 (lv_at hl 0 rfl) ?_
                refine va_iald hx hb hK.1 hP 2 0 rfl rfl (vp_in_nI (show i < 4096 by omega) (by decide)) d_Mo_go_95 ?_
                rw [nI_clamp (show i < 2 ^ 31 by omega)]
                rw [d2]
                refine lv_aload_n hx hb d_Mo_go_96 rfl (lv_at hl 1 rfl) ?_
                refine va_get (D := D) (ci := 5) (v := .ref (q 4)) (C := "BranchLayoutModel") (T := T_Mo) (N := 17) hx hb hts in_Mo hown hK.1 hP 0 rfl rfl 4 (by decide) (hts _ w_269) (fun _ h9 => h9) rfl d_Mo_go_97 ?_
                refine lv_iload_n hx hb d_Mo_go_100 rfl (lv_at hl 2 rfl) ?_
                refine va_iald hx hb hK.1 hP 2 0 rfl rfl (vp_in_nI (show k < 4096 by omega) (by decide)) d_Mo_go_101 ?_
                rw [nI_clamp (show k < 2 ^ 31 by omega)]
                rw [a2]
                refine lv_icmp_ne (tgt := 109) hx hb d_Mo_go_102 (by decide) (fun c_44 => ?_) (fun c_44 => ?_)
                · skip
                  refine lv_iconst (v := 0) hx hb d_Mo_go_109 (by decide) ?_
                  refine lv_istore (lv' := [(5, .int 0), (4, .int (nI i)), (0, .ref (q 0)), (1, .int (nI k)), (2, .int pl), (3, .int mr)]) hx hb d_Mo_go_110 hl (by decide) rfl (fun ls hl => ?_)
                  refine lv_iload hx hb d_Mo_go_112 (lv_at hl 0 rfl) ?_
                  refine lv_if_ne (tgt := 119) hx hb d_Mo_go_114 (by decide) (fun c_45 => ?_) (fun c_45 => ?_)
                  · skip
                    exact absurd rfl c_45
                  · skip
                    refine lv_iconst (v := 0) hx hb d_Mo_go_117 (by decide) ?_
                    refine zrz E d_Mo_go_118 (by decide) hS (Nat.le_of_ble_eq_true rfl) (Nat.le_of_ble_eq_true rfl) ?_
                    exact ⟨_, rfl, Or.inr ⟨fun z => by have z1 := z.2.2; rw [ezp, ek] at z1; exact c_44 (by rw [Option.some.inj z1]), rfl, 0, R, hG, hP, hD⟩⟩
                · skip
                  refine lv_iconst (v := 1) hx hb d_Mo_go_105 (by decide) ?_
                  refine lv_goto (tgt := 110) hx hb d_Mo_go_106 (by decide) ?_
                  refine lv_istore (lv' := [(5, .int 1), (4, .int (nI i)), (0, .ref (q 0)), (1, .int (nI k)), (2, .int pl), (3, .int mr)]) hx hb d_Mo_go_110 hl (by decide) rfl (fun ls hl => ?_)
                  refine lv_iload hx hb d_Mo_go_112 (lv_at hl 0 rfl) ?_
                  refine lv_if_ne (tgt := 119) hx hb d_Mo_go_114 (by decide) (fun c_46 => ?_) (fun c_46 => ?_)
                  · skip
                    refine lv_aload_n hx hb d_Mo_go_119 rfl (lv_at hl 2 rfl) ?_
                    refine va_get (D := D) (ci := 5) (v := .ref (q 6)) (C := "BranchLayoutModel") (T := T_Mo) (N := 17) hx hb hts in_Mo hown hK.1 hP 0 rfl rfl 6 (by decide) (hts _ w_271) (fun _ h9 => h9) rfl d_Mo_go_120 ?_
                    refine lv_iload_n hx hb d_Mo_go_123 rfl (lv_at hl 3 rfl) ?_
                    refine lv_iload_n hx hb d_Mo_go_124 rfl (lv_at hl 4 rfl) ?_
                    refine va_iast hx hb hK.1 hP hD hS 4 0 rfl rfl (vp_in_nI (show k < 4096 by omega) (by decide)) d_Mo_go_125 (fun H locs hP hD hS => ?_)
                    rw [nI_clamp (show k < 2 ^ 31 by omega), zm_set_6] at hP hD
                    refine lv_aload_n hx hb d_Mo_go_126 rfl (lv_at hl 2 rfl) ?_
                    refine va_get (D := D) (ci := 5) (v := .ref (q 7)) (C := "BranchLayoutModel") (T := T_Mo) (N := 17) hx hb hts in_Mo hown hK.1 hP 0 rfl rfl 7 (by decide) (hts _ w_272) (fun _ h9 => h9) rfl d_Mo_go_127 ?_
                    refine lv_iload_n hx hb d_Mo_go_130 rfl (lv_at hl 3 rfl) ?_
                    refine lv_iload_n hx hb d_Mo_go_131 rfl (lv_at hl 5 rfl) ?_
                    refine va_iast hx hb hK.1 hP hD hS 5 0 rfl rfl (vp_in_nI (show k < 4096 by omega) (by decide)) d_Mo_go_132 (fun H locs hP hD hS => ?_)
                    rw [nI_clamp (show k < 2 ^ 31 by omega), zm_set_7] at hP hD
                    refine lv_iconst (v := 1) hx hb d_Mo_go_133 (by decide) ?_
                    refine zrz E d_Mo_go_134 (by decide) hS (Nat.le_of_ble_eq_true rfl) (Nat.le_of_ble_eq_true rfl) ?_
                    refine ⟨_, rfl, Or.inl ⟨⟨hz, by rw [ek]; exact hk2, by rw [ek]; exact (by rw [ezp, (nI_eq (by omega) (by omega)).mp c_44])⟩, rfl, 0, _, ?_, hP, hD⟩⟩
                    exact zAg_go hG
                  · skip
                    exact absurd c_46 (by decide)
        · skip
          refine lv_iload_n hx hb d_Mo_go_39 rfl (lv_at hl 3 rfl) ?_
          refine lv_aload_n hx hb d_Mo_go_40 rfl (lv_at hl 1 rfl) ?_
          refine va_get (D := D) (ci := 5) (v := .int (nI lc)) (C := "BranchLayoutModel") (T := T_Mo) (N := 17) hx hb hts in_Mo hown hK.1 hP 0 rfl rfl 2 (by decide) (hts _ w_267) (fun _ h9 => h9) rfl d_Mo_go_41 ?_
          refine lv_icmp_ge (tgt := 66) hx hb d_Mo_go_44 (by decide) (fun c_47 => ?_) (fun c_47 => ?_)
          · skip
            refine lv_iconst (v := 0) hx hb d_Mo_go_66 (by decide) ?_
            refine lv_goto (tgt := 110) hx hb d_Mo_go_67 (by decide) ?_
            refine lv_istore (lv' := [(5, .int 0), (4, .int ((-2) - pl)), (0, .ref (q 0)), (1, .int (nI k)), (2, .int pl), (3, .int mr)]) hx hb d_Mo_go_110 hl (by decide) rfl (fun ls hl => ?_)
            refine lv_iload hx hb d_Mo_go_112 (lv_at hl 0 rfl) ?_
            refine lv_if_ne (tgt := 119) hx hb d_Mo_go_114 (by decide) (fun c_48 => ?_) (fun c_48 => ?_)
            · skip
              exact absurd rfl c_48
            · skip
              refine lv_iconst (v := 0) hx hb d_Mo_go_117 (by decide) ?_
              refine zrz E d_Mo_go_118 (by decide) hS (Nat.le_of_ble_eq_true rfl) (Nat.le_of_ble_eq_true rfl) ?_
              exact ⟨_, rfl, Or.inr ⟨fun z => by have z1 := z.2.2; simp [zpse, c_37, zst, c_47] at z1, rfl, 0, R, hG, hP, hD⟩⟩
          · skip
            have hz2 : zst lc pl = true := by simp [zst, c_37, c_47]
            obtain ⟨j, hj, ej, ej2⟩ := zst_of (by omega) hz2
            have ezp : zpse sc lc c pl = some (c 3 j) := by simp [zpse, c_37, hz2, ej2]
            obtain ⟨d1, d2, d3⟩ := hG.2.1 j hj
            have f2 := (hI.2.2.2.1 j hj).1
            refine lv_aload_n hx hb d_Mo_go_47 rfl (lv_at hl 1 rfl) ?_
            refine va_get (D := D) (ci := 5) (v := .ref (q 8)) (C := "BranchLayoutModel") (T := T_Mo) (N := 17) hx hb hts in_Mo hown hK.1 hP 0 rfl rfl 8 (by decide) (hts _ w_273) (fun _ h9 => h9) rfl d_Mo_go_48 ?_
            refine lv_iload_n hx hb d_Mo_go_51 rfl (lv_at hl 3 rfl) ?_
            refine va_iald hx hb hK.1 hP 6 0 rfl rfl (by rw [ej]; exact vp_in_nI (show j < 1024 by omega) (by decide)) d_Mo_go_52 ?_
            rw [ej2, d1]
            refine lv_aload_n hx hb d_Mo_go_53 rfl (lv_at hl 1 rfl) ?_
            refine va_get (D := D) (ci := 5) (v := .ref (q 4)) (C := "BranchLayoutModel") (T := T_Mo) (N := 17) hx hb hts in_Mo hown hK.1 hP 0 rfl rfl 4 (by decide) (hts _ w_269) (fun _ h9 => h9) rfl d_Mo_go_54 ?_
            refine lv_iload_n hx hb d_Mo_go_57 rfl (lv_at hl 2 rfl) ?_
            refine va_iald hx hb hK.1 hP 2 0 rfl rfl (vp_in_nI (show k < 4096 by omega) (by decide)) d_Mo_go_58 ?_
            rw [nI_clamp (show k < 2 ^ 31 by omega)]
            rw [a2]
            refine lv_icmp_ne (tgt := 66) hx hb d_Mo_go_59 (by decide) (fun c_49 => ?_) (fun c_49 => ?_)
            · skip
              refine lv_iconst (v := 0) hx hb d_Mo_go_66 (by decide) ?_
              refine lv_goto (tgt := 110) hx hb d_Mo_go_67 (by decide) ?_
              refine lv_istore (lv' := [(5, .int 0), (4, .int ((-2) - pl)), (0, .ref (q 0)), (1, .int (nI k)), (2, .int pl), (3, .int mr)]) hx hb d_Mo_go_110 hl (by decide) rfl (fun ls hl => ?_)
              refine lv_iload hx hb d_Mo_go_112 (lv_at hl 0 rfl) ?_
              refine lv_if_ne (tgt := 119) hx hb d_Mo_go_114 (by decide) (fun c_50 => ?_) (fun c_50 => ?_)
              · skip
                exact absurd rfl c_50
              · skip
                refine lv_iconst (v := 0) hx hb d_Mo_go_117 (by decide) ?_
                refine zrz E d_Mo_go_118 (by decide) hS (Nat.le_of_ble_eq_true rfl) (Nat.le_of_ble_eq_true rfl) ?_
                exact ⟨_, rfl, Or.inr ⟨fun z => by have z1 := z.2.2; rw [ezp, ek] at z1; exact c_49 (by rw [Option.some.inj z1]), rfl, 0, R, hG, hP, hD⟩⟩
            · skip
              refine lv_iconst (v := 1) hx hb d_Mo_go_62 (by decide) ?_
              refine lv_goto (tgt := 110) hx hb d_Mo_go_63 (by decide) ?_
              refine lv_istore (lv' := [(5, .int 1), (4, .int ((-2) - pl)), (0, .ref (q 0)), (1, .int (nI k)), (2, .int pl), (3, .int mr)]) hx hb d_Mo_go_110 hl (by decide) rfl (fun ls hl => ?_)
              refine lv_iload hx hb d_Mo_go_112 (lv_at hl 0 rfl) ?_
              refine lv_if_ne (tgt := 119) hx hb d_Mo_go_114 (by decide) (fun c_51 => ?_) (fun c_51 => ?_)
              · skip
                refine lv_aload_n hx hb d_Mo_go_119 rfl (lv_at hl 2 rfl) ?_
                refine va_get (D := D) (ci := 5) (v := .ref (q 6)) (C := "BranchLayoutModel") (T := T_Mo) (N := 17) hx hb hts in_Mo hown hK.1 hP 0 rfl rfl 6 (by decide) (hts _ w_271) (fun _ h9 => h9) rfl d_Mo_go_120 ?_
                refine lv_iload_n hx hb d_Mo_go_123 rfl (lv_at hl 3 rfl) ?_
                refine lv_iload_n hx hb d_Mo_go_124 rfl (lv_at hl 4 rfl) ?_
                refine va_iast hx hb hK.1 hP hD hS 4 0 rfl rfl (vp_in_nI (show k < 4096 by omega) (by decide)) d_Mo_go_125 (fun H locs hP hD hS => ?_)
                rw [nI_clamp (show k < 2 ^ 31 by omega), zm_set_6] at hP hD
                refine lv_aload_n hx hb d_Mo_go_126 rfl (lv_at hl 2 rfl) ?_
                refine va_get (D := D) (ci := 5) (v := .ref (q 7)) (C := "BranchLayoutModel") (T := T_Mo) (N := 17) hx hb hts in_Mo hown hK.1 hP 0 rfl rfl 7 (by decide) (hts _ w_272) (fun _ h9 => h9) rfl d_Mo_go_127 ?_
                refine lv_iload_n hx hb d_Mo_go_130 rfl (lv_at hl 3 rfl) ?_
                refine lv_iload_n hx hb d_Mo_go_131 rfl (lv_at hl 5 rfl) ?_
                refine va_iast hx hb hK.1 hP hD hS 5 0 rfl rfl (vp_in_nI (show k < 4096 by omega) (by decide)) d_Mo_go_132 (fun H locs hP hD hS => ?_)
                rw [nI_clamp (show k < 2 ^ 31 by omega), zm_set_7] at hP hD
                refine lv_iconst (v := 1) hx hb d_Mo_go_133 (by decide) ?_
                refine zrz E d_Mo_go_134 (by decide) hS (Nat.le_of_ble_eq_true rfl) (Nat.le_of_ble_eq_true rfl) ?_
                refine ⟨_, rfl, Or.inl ⟨⟨hz, by rw [ek]; exact hk2, by rw [ek]; exact (by rw [ezp, (nI_eq (by omega) (by omega)).mp c_49])⟩, rfl, 0, _, ?_, hP, hD⟩⟩
                exact zAg_go hG
              · skip
                exact absurd c_51 (by decide)
      · skip
        refine lv_iconst (v := 0) hx hb d_Mo_go_27 (by decide) ?_
        refine zrz E d_Mo_go_28 (by decide) hS (Nat.le_of_ble_eq_true rfl) (Nat.le_of_ble_eq_true rfl) ?_
        exact ⟨_, rfl, Or.inr ⟨fun z => by have z1 := z.2.1; rw [ek] at z1; exact c_36 (by rw [z1]), rfl, 0, R, hG, hP, hD⟩⟩
