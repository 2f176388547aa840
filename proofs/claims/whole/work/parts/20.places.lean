set_option maxHeartbeats 4000000 in
set_option maxRecDepth 100000 in
theorem t_BL_tellLabelsBefore (l : Launch) (D : va_G) (cs : ClassId × ClassId × ClassId × ClassId) (A : Nat → Prop) (o : Nat × Nat × Nat × Nat) (sc lc : Nat) (fa fb : Nat → Option Nat) (ad bd : Nat → Nat) (c : Nat → Nat → Nat) (gp mo : Nat → Int32) (V : Nat → Nat → Int32) (hI : zI sc lc c gp) (hfb : ∀ k, k < lc → fb k = some (bd k)) (k a : Nat) (hk : k ≤ sc) (ha : a ≤ lc) : zMet l D cs y_BL_tellLabelsBefore c_BL_tellLabelsBefore 4 (some FieldType.int) ({ frames := 0, cells := 0, slots := 0, locals := 0 } : Room) [.ref o.1, .int (nI k), .int (nI a)] (zH D A (zB o cs sc lc fa fb ad bd c gp mo V)) A (zqi fun r H => ∃ b, r = nI b ∧ a ≤ b ∧ b ≤ lc ∧ (∀ j, a ≤ j → j < b → c 4 j ≤ k) ∧ (b = lc ∨ (b < lc ∧ k < c 4 b)) ∧ zH D A (zB o cs sc lc fa fb ad bd c gp mo (zTl c V a b)) H) := by
  refine zmk (by decide) (Nat.le_of_ble_eq_true rfl) ?_
  intro p e s m below meth cd ls E hK hP0 hl
  have hS : va_S A s.heap s.heap [] := va_S.rf
  have hsc := hI.1
  have hlc := hI.2.1
  obtain ⟨hx, hb, hr, hts, hown, hlocks, hml, hin⟩ := id E
  have hl : lv_has ls 4 [(0, .ref o.1), (1, .int (nI k)), (2, .int (nI a))] := hl
  refine lv_iload_n hx hb d_BL_tellLabelsBefore_0 rfl (lv_at hl 2 rfl) ?_
  refine lv_istore_n (lv' := [(3, .int (nI a)), (0, .ref o.1), (1, .int (nI k)), (2, .int (nI a))]) hx hb d_BL_tellLabelsBefore_1 rfl hl (by decide) rfl (fun ls hl => ?_)
  have loop : ∀ (n b : Nat) (H : Heap) (locs : List Loc) (ls : Array Slot), a ≤ b → b ≤ lc → lc + 1 ≤ b + n → (∀ j, a ≤ j → j < b → c 4 j ≤ k) → zH D A (zB o cs sc lc fa fb ad bd c gp mo (zTl c V a b)) H → va_S A s.heap H locs → lv_has ls 4 [(3, .int (nI b)), (0, .ref o.1), (1, .int (nI k)), (2, .int (nI a))] → W p l e ({ frames := 0, cells := 0, slots := 0, locals := 0 } : Room) s m ([.ref o.1, .int (nI k), .int (nI a)] : List Value).toArray below meth cd H locs 0 0 (zQ below s ([.ref o.1, .int (nI k), .int (nI a)] : List Value).toArray A (zqi fun r H => ∃ b, r = nI b ∧ a ≤ b ∧ b ≤ lc ∧ (∀ j, a ≤ j → j < b → c 4 j ≤ k) ∧ (b = lc ∨ (b < lc ∧ k < c 4 b)) ∧ zH D A (zB o cs sc lc fa fb ad bd c gp mo (zTl c V a b)) H) ({ frames := 0, cells := 0, slots := 0, locals := 0 } : Room)) (F0 m 2 ls []) := by
    intro n
    induction n with
    | zero => intro b H locs ls h1 h2 h3; omega
    | succ n ih =>
      intro b H locs ls hab hb1 hn hle hw hS hl
      obtain ⟨hP, hD⟩ := id hw
      refine lv_iload_n hx hb d_BL_tellLabelsBefore_2 rfl (lv_at hl 0 rfl) ?_
      refine lv_aload_n hx hb d_BL_tellLabelsBefore_3 rfl (lv_at hl 1 rfl) ?_
      refine va_get (D := D) (ci := 4) (v := .int (nI lc)) (C := "BranchLayout") (T := T_BL) (N := 5) hx hb hts in_BL hown hK.1 hP 0 (zb_x rfl) rfl 4 (by decide) (hts _ w_27) (fun _ h9 => h9) rfl d_BL_tellLabelsBefore_4 ?_
      refine lv_icmp_ge (tgt := 52) hx hb d_BL_tellLabelsBefore_7 (by decide) (fun c_1 => ?_) (fun c_1 => ?_)
      · skip
        refine lv_iload_n hx hb d_BL_tellLabelsBefore_52 rfl (lv_at hl 0 rfl) ?_
        refine zri E d_BL_tellLabelsBefore_53 hS (Nat.le_of_ble_eq_true rfl) (Nat.le_of_ble_eq_true rfl) ?_
        exact ⟨_, rfl, b, rfl, hab, hb1, hle, Or.inl (Nat.le_antisymm hb1 ((nI_leI (by omega) (by omega)).mp c_1)), hw⟩
      · skip
        have hlt : b < lc := Nat.lt_of_not_le fun q => c_1 (nI_le q (by omega))
        refine lv_aload_n hx hb d_BL_tellLabelsBefore_10 rfl (lv_at hl 1 rfl) ?_
        refine va_get (D := D) (ci := 4) (v := .ref o.2.2.1) (C := "BranchLayout") (T := T_BL) (N := 5) hx hb hts in_BL hown hK.1 hP 0 (zb_x rfl) rfl 1 (by decide) (hts _ w_24) (fun _ h9 => h9) rfl d_BL_tellLabelsBefore_11 ?_
        refine lv_iload_n hx hb d_BL_tellLabelsBefore_14 rfl (lv_at hl 0 rfl) ?_
        refine va_aldq hx hb hK.1 hP 2 3 (zb_x rfl) rfl (vp_in_nI (show b < 1024 by omega) (by decide)) d_BL_tellLabelsBefore_15 ?_
        rw [nI_clamp (show b < 2 ^ 31 by omega), hfb b hlt]
        refine va_get (D := D) (ci := 3) (v := .int (nI (c 4 b))) (C := "BranchLayout$Label") (T := T_La) (N := 3) hx hb hts in_La hown hK.1 hP (4 + sc + b) (zb_l hlt) rfl 2 (by decide) (hts _ w_169) (fun _ h9 => h9) rfl d_BL_tellLabelsBefore_16 ?_
        refine lv_iload_n hx hb d_BL_tellLabelsBefore_19 rfl (lv_at hl 2 rfl) ?_
        obtain ⟨hc3, hc4⟩ := hI.2.2.2.1 b hlt
        refine lv_icmp_gt (tgt := 52) hx hb d_BL_tellLabelsBefore_20 (by decide) (fun c_2 => ?_) (fun c_2 => ?_)
        · skip
          refine lv_iload_n hx hb d_BL_tellLabelsBefore_52 rfl (lv_at hl 0 rfl) ?_
          refine zri E d_BL_tellLabelsBefore_53 hS (Nat.le_of_ble_eq_true rfl) (Nat.le_of_ble_eq_true rfl) ?_
          exact ⟨_, rfl, b, rfl, hab, hb1, hle, Or.inr ⟨hlt, (nI_ltI (by omega) (by omega)).mp c_2⟩, hw⟩
        · skip
          have hbk : c 4 b ≤ k := Nat.le_of_not_lt fun q => c_2 (nI_lt q (by omega))
          refine lv_aload_n hx hb d_BL_tellLabelsBefore_23 rfl (lv_at hl 1 rfl) ?_
          refine va_get (D := D) (ci := 4) (v := .ref o.2.2.1) (C := "BranchLayout") (T := T_BL) (N := 5) hx hb hts in_BL hown hK.1 hP 0 (zb_x rfl) rfl 1 (by decide) (hts _ w_24) (fun _ h9 => h9) rfl d_BL_tellLabelsBefore_24 ?_
          refine lv_iload_n hx hb d_BL_tellLabelsBefore_27 rfl (lv_at hl 0 rfl) ?_
          refine va_aldq hx hb hK.1 hP 2 3 (zb_x rfl) rfl (vp_in_nI (show b < 1024 by omega) (by decide)) d_BL_tellLabelsBefore_28 ?_
          rw [nI_clamp (show b < 2 ^ 31 by omega), hfb b hlt]
          refine lv_aload_n hx hb d_BL_tellLabelsBefore_29 rfl (lv_at hl 1 rfl) ?_
          refine va_get (D := D) (ci := 4) (v := .ref o.2.2.2) (C := "BranchLayout") (T := T_BL) (N := 5) hx hb hts in_BL hown hK.1 hP 0 (zb_x rfl) rfl 2 (by decide) (hts _ w_25) (fun _ h9 => h9) rfl d_BL_tellLabelsBefore_30 ?_
          refine lv_aload_n hx hb d_BL_tellLabelsBefore_33 rfl (lv_at hl 1 rfl) ?_
          refine va_get (D := D) (ci := 4) (v := .ref o.2.2.1) (C := "BranchLayout") (T := T_BL) (N := 5) hx hb hts in_BL hown hK.1 hP 0 (zb_x rfl) rfl 1 (by decide) (hts _ w_24) (fun _ h9 => h9) rfl d_BL_tellLabelsBefore_34 ?_
          refine lv_iload_n hx hb d_BL_tellLabelsBefore_37 rfl (lv_at hl 0 rfl) ?_
          refine va_aldq hx hb hK.1 hP 2 3 (zb_x rfl) rfl (vp_in_nI (show b < 1024 by omega) (by decide)) d_BL_tellLabelsBefore_38 ?_
          rw [nI_clamp (show b < 2 ^ 31 by omega), hfb b hlt]
          refine va_get (D := D) (ci := 3) (v := .int (nI (c 3 b))) (C := "BranchLayout$Label") (T := T_La) (N := 3) hx hb hts in_La hown hK.1 hP (4 + sc + b) (zb_l hlt) rfl 0 (by decide) (hts _ w_78) (u_same (hts _ w_79)) rfl d_BL_tellLabelsBefore_39 ?_
          refine va_iald hx hb hK.1 hP 3 0 (zb_x rfl) rfl (vp_in_nI hc3 (by decide)) d_BL_tellLabelsBefore_42 ?_
          rw [nI_clamp (show c 3 b < 2 ^ 31 by omega), zTl_5]
          refine va_put (D := D) (ci := 3) (v := .int (V 5 (c 3 b))) (ty := .int) (C := "BranchLayout$Label") (T := T_La) (N := 3) hx hb hts in_La ty_La ok_La nm_La hown hK.1 hP hD hS (4 + sc + b) (zb_l hlt) rfl 1 (by decide) (hts _ w_85) (u_same (hts _ w_86)) rfl (by decide +kernel) rfl rfl (Nat.le_of_ble_eq_true rfl) d_BL_tellLabelsBefore_43 (fun H locs hP hD hS => ?_)
          have e1 := zb_setl (o := o) (cs := cs) (sc := sc) (fa := fa) (fb := fb) (ad := ad) (bd := bd) (c := c) (gp := gp) (mo := mo) (gp' := gp) (mo' := mo) (V := zTl c V a b) (V' := zu (zTl c V a b) 4 b (V 5 (c 3 b))) hlt rfl (fun i _ h => by simp only [zlab, zu_no (show ¬ ((4 : Nat) = 4 ∧ i = b) from fun q => h q.2)]) (fun i _ => (zcell_u4 (by decide)).symm) (zu_ne (by decide)).symm
          simp only [zlab, zu_at] at e1
          rw [zTl_s hab] at e1
          refine lv_iinc (v := nI (b + 1)) (lv' := [(3, .int (nI (b + 1))), (0, .ref o.1), (1, .int (nI k)), (2, .int (nI a))]) hx hb d_BL_tellLabelsBefore_46 hl (k := 0) rfl (nI_1 b) (by decide) rfl (fun ls hl => ?_)
          refine lv_goto (tgt := 2) hx hb d_BL_tellLabelsBefore_49 (by decide) ?_
          have hle2 : ∀ j, a ≤ j → j < b + 1 → c 4 j ≤ k := fun j h1 h2 => by
            rcases Nat.lt_or_ge j b with q | q
            · exact hle j h1 q
            · have e9 : j = b := by omega
              rw [e9]; exact hbk
          exact ih (b + 1) _ _ ls (by omega) hlt (by omega) hle2 ⟨by rw [← e1]; exact hP, by rw [← e1]; exact hD⟩ hS hl
  exact loop (lc + 1) a _ _ ls (Nat.le_refl a) ha (by omega) (fun j h1 h2 => by omega) (by rw [← zTl_0]; exact hP0) hS hl
set_option maxHeartbeats 4000000 in
set_option maxRecDepth 100000 in
theorem t_BL_tellPlaces (l : Launch) (D : va_G) (cs : ClassId × ClassId × ClassId × ClassId) (A : Nat → Prop) (o : Nat × Nat × Nat × Nat) (sc lc : Nat) (fa fb : Nat → Option Nat) (ad bd : Nat → Nat) (c : Nat → Nat → Nat) (gp mo : Nat → Int32) (V : Nat → Nat → Int32) (hI : zI sc lc c gp) (hfa : ∀ k, k < sc → fa k = some (ad k)) (hfb : ∀ k, k < lc → fb k = some (bd k)) (hv : ∀ k, k < sc → V 2 k = 0 ∨ V 2 k = 1) : zMet l D cs y_BL_tellPlaces c_BL_tellPlaces 3 none ({ frames := 2, cells := 0, slots := 0, locals := 42 } : Room) [.ref o.1] (zH D A (zB o cs sc lc fa fb ad bd c gp mo V)) A (zqv fun H => zH D A (zB o cs sc lc fa fb ad bd c gp mo (zT c (zbr V) V sc lc)) H) := by
  refine zmk (by decide) (Nat.le_of_ble_eq_true rfl) ?_
  intro p e s m below meth cd ls E hK hP0 hl
  have hS : va_S A s.heap s.heap [] := va_S.rf
  obtain ⟨hP, hD⟩ := hP0
  have hsc := hI.1
  have hlc := hI.2.1
  obtain ⟨hx, hb, hr, hts, hown, hlocks, hml, hin⟩ := id E
  have hl : lv_has ls 3 [(0, .ref o.1)] := hl
  refine lv_aload_n hx hb d_BL_tellPlaces_0 rfl (lv_at hl 0 rfl) ?_
  refine va_get (D := D) (ci := 4) (v := .ref o.2.2.2) (C := "BranchLayout") (T := T_BL) (N := 5) hx hb hts in_BL hown hK.1 hP 0 (zb_x rfl) rfl 2 (by decide) (hts _ w_25) (fun _ h9 => h9) rfl d_BL_tellPlaces_1 ?_
  refine lv_iconst (v := 0) hx hb d_BL_tellPlaces_4 (by decide) ?_
  refine zcS [.ref o.2.2.2, .int 0] [] E (t_Ar_fill l D cs A o sc lc fa fb ad bd c gp mo V 0) d_BL_tellPlaces_5 w_44 w_45 w_3 w_46 ⟨by decide +kernel, by decide +kernel, (by decide +kernel : Option.map (fun d => d.parameters.length) (parseMethodDescriptor "([II)V") = some 2)⟩ ⟨(Nat.le_of_ble_eq_true rfl), (Nat.le_of_ble_eq_true rfl)⟩ ⟨(Nat.le_of_ble_eq_true rfl), (Nat.le_of_ble_eq_true rfl)⟩ rfl (Nat.le_of_ble_eq_true rfl) hl.1 hK ⟨hP, hD⟩ hS (fun _ h => h) (zkv fun H locs hq _ _ hS => ?_)
  rw [zT_0 (c := c) (br := zbr V)] at hq
  refine lv_iconst (v := 0) hx hb d_BL_tellPlaces_8 (by decide) ?_
  refine lv_istore_n (lv' := [(1, .int 0), (0, .ref o.1)]) hx hb d_BL_tellPlaces_9 rfl hl (by decide) rfl (fun ls hl => ?_)
  refine lv_iconst (v := 0) hx hb d_BL_tellPlaces_10 (by decide) ?_
  refine lv_istore_n (lv' := [(2, .int 0), (1, .int 0), (0, .ref o.1)]) hx hb d_BL_tellPlaces_11 rfl hl (by decide) rfl (fun ls hl => ?_)
  have loop : ∀ (n k a : Nat) (H : Heap) (locs : List Loc) (ls : Array Slot), k ≤ sc → a ≤ lc → sc + 1 ≤ k + n → (a = lc ∨ (a < lc ∧ k ≤ c 4 a)) → zH D A (zB o cs sc lc fa fb ad bd c gp mo (zT c (zbr V) V k a)) H → va_S A s.heap H locs → lv_has ls 3 [(2, .int (nI k)), (1, .int (nI a)), (0, .ref o.1)] → W p l e ({ frames := 2, cells := 0, slots := 0, locals := 42 } : Room) s m ([.ref o.1] : List Value).toArray below meth cd H locs 0 0 (zQ below s ([.ref o.1] : List Value).toArray A (zqv fun H => zH D A (zB o cs sc lc fa fb ad bd c gp mo (zT c (zbr V) V sc lc)) H) ({ frames := 2, cells := 0, slots := 0, locals := 42 } : Room)) (F0 m 12 ls []) := by
    intro n
    induction n with
    | zero => intro k a H locs ls h1 h2 h3; omega
    | succ n ih =>
      intro k a H locs ls hk ha hn hnx hw hS hl
      obtain ⟨hP, hD⟩ := id hw
      have hlab : ∀ b, a ≤ b → b ≤ lc → (∀ j, a ≤ j → j < b → c 4 j ≤ k) → zTl c (zT c (zbr V) V k a) a b = zT c (zbr V) V k b := fun b h1 h2 h3 => zT_l h1 (fun j g1 g2 => by
        have g3 := h3 j g1 g2
        rcases hnx with q | ⟨q1, q2⟩
        · omega
        · have g4 := hI.2.2.2.2 a j g1 (by omega)
          exact ⟨by omega, (hI.2.2.2.1 j (by omega)).1⟩)
      refine lv_iload_n hx hb d_BL_tellPlaces_12 rfl (lv_at hl 0 rfl) ?_
      refine lv_aload_n hx hb d_BL_tellPlaces_13 rfl (lv_at hl 2 rfl) ?_
      refine va_get (D := D) (ci := 4) (v := .int (nI sc)) (C := "BranchLayout") (T := T_BL) (N := 5) hx hb hts in_BL hown hK.1 hP 0 (zb_x rfl) rfl 3 (by decide) (hts _ w_26) (fun _ h9 => h9) rfl d_BL_tellPlaces_14 ?_
      refine lv_icmp_ge (tgt := 43) hx hb d_BL_tellPlaces_17 (by decide) (fun c_3 => ?_) (fun c_3 => ?_)
      · skip
        have hks : k = sc := Nat.le_antisymm hk ((nI_leI (by omega) (by omega)).mp c_3)
        refine lv_aload_n hx hb d_BL_tellPlaces_43 rfl (lv_at hl 2 rfl) ?_
        refine lv_aload_n hx hb d_BL_tellPlaces_44 rfl (lv_at hl 2 rfl) ?_
        refine va_get (D := D) (ci := 4) (v := .int (nI sc)) (C := "BranchLayout") (T := T_BL) (N := 5) hx hb hts in_BL hown hK.1 hP 0 (zb_x rfl) rfl 3 (by decide) (hts _ w_26) (fun _ h9 => h9) rfl d_BL_tellPlaces_45 ?_
        refine lv_iload_n hx hb d_BL_tellPlaces_48 rfl (lv_at hl 1 rfl) ?_
        refine zcV [.int (nI sc), .int (nI a)] [] E (t_BL_tellLabelsBefore l D cs A o sc lc fa fb ad bd c gp mo (zT c (zbr V) V k a) hI hfb sc a (Nat.le_refl sc) ha) d_BL_tellPlaces_49 w_203 w_205 ws_BL_tellLabelsBefore w_1 w_206 ⟨rfl, by decide +kernel, by decide +kernel, (by decide +kernel : Option.map (fun d => d.parameters.length) (parseMethodDescriptor "(II)I") = some 2)⟩ ⟨(Nat.le_of_ble_eq_true rfl), (Nat.le_of_ble_eq_true rfl)⟩ ⟨(Nat.le_of_ble_eq_true rfl), (Nat.le_of_ble_eq_true rfl)⟩ rfl (Nat.le_of_ble_eq_true rfl) hl.1 (zrec hK hP (ci := 4) (i := 0) rfl (zb_x rfl)) hK hw hS (fun _ h => h) (zki fun r H locs hq _ _ hS => ?_)
        obtain ⟨b, rfl, h1, h2, h3, h4, hw2⟩ := hq
        rw [hlab b h1 h2 (fun j g1 g2 => by have := h3 j g1 g2; omega), hks] at hw2
        have hbl : b = lc := by
          rcases h4 with q | ⟨q1, q2⟩
          · exact q
          · have := (hI.2.2.2.1 b q1).2; omega
        subst hbl
        refine lv_pop hx hb d_BL_tellPlaces_52 rfl ?_
        refine zrv E d_BL_tellPlaces_53 hS (Nat.le_of_ble_eq_true rfl) (Nat.le_of_ble_eq_true rfl) ?_
        exact ⟨rfl, hw2⟩
      · skip
        have hlt : k < sc := Nat.lt_of_not_le fun q => c_3 (nI_le q (by omega))
        refine lv_aload_n hx hb d_BL_tellPlaces_20 rfl (lv_at hl 2 rfl) ?_
        refine lv_iload_n hx hb d_BL_tellPlaces_21 rfl (lv_at hl 0 rfl) ?_
        refine lv_iload_n hx hb d_BL_tellPlaces_22 rfl (lv_at hl 1 rfl) ?_
        refine zcV [.int (nI k), .int (nI a)] [] E (t_BL_tellLabelsBefore l D cs A o sc lc fa fb ad bd c gp mo (zT c (zbr V) V k a) hI hfb k a hk ha) d_BL_tellPlaces_23 w_203 w_205 ws_BL_tellLabelsBefore w_1 w_206 ⟨rfl, by decide +kernel, by decide +kernel, (by decide +kernel : Option.map (fun d => d.parameters.length) (parseMethodDescriptor "(II)I") = some 2)⟩ ⟨(Nat.le_of_ble_eq_true rfl), (Nat.le_of_ble_eq_true rfl)⟩ ⟨(Nat.le_of_ble_eq_true rfl), (Nat.le_of_ble_eq_true rfl)⟩ rfl (Nat.le_of_ble_eq_true rfl) hl.1 (zrec hK hP (ci := 4) (i := 0) rfl (zb_x rfl)) hK hw hS (fun _ h => h) (zki fun r H locs hq _ _ hS => ?_)
        obtain ⟨b, rfl, h1, h2, h3, h4, hw2⟩ := hq
        rw [hlab b h1 h2 h3] at hw2
        obtain ⟨hP, hD⟩ := id hw2
        refine lv_istore_n (lv' := [(1, .int (nI b)), (2, .int (nI k)), (0, .ref o.1)]) hx hb d_BL_tellPlaces_26 rfl hl (by decide) rfl (fun ls hl => ?_)
        refine lv_aload_n hx hb d_BL_tellPlaces_27 rfl (lv_at hl 2 rfl) ?_
        refine lv_aload_n hx hb d_BL_tellPlaces_28 rfl (lv_at hl 2 rfl) ?_
        refine va_get (D := D) (ci := 4) (v := .ref o.2.1) (C := "BranchLayout") (T := T_BL) (N := 5) hx hb hts in_BL hown hK.1 hP 0 (zb_x rfl) rfl 0 (by decide) (hts _ w_23) (fun _ h9 => h9) rfl d_BL_tellPlaces_29 ?_
        refine lv_iload_n hx hb d_BL_tellPlaces_32 rfl (lv_at hl 1 rfl) ?_
        refine va_aldq hx hb hK.1 hP 1 2 (zb_x rfl) rfl (vp_in_nI (show k < 4096 by omega) (by decide)) d_BL_tellPlaces_33 ?_
        rw [nI_clamp (show k < 2 ^ 31 by omega), hfa k hlt]
        obtain ⟨hg1, hg2, hg3, hg4, hg5, hg6⟩ := hI.2.2.1 k hlt
        have hsz := zSZ_lt (br := zbr V) (i := c 1 k) hI hk
        refine zcV [.ref (ad k)] [] E (t_BL_tellStatement l D cs A o sc lc fa fb ad bd c gp mo (zT c (zbr V) V k b) hI k hlt (by rw [zT_2]; exact hv k hlt) (zSZ c (zbr V) k (c 1 k)) (by omega) (zT_5 hg2)) d_BL_tellPlaces_34 w_207 w_209 ws_BL_tellStatement w_1 w_210 ⟨rfl, by decide +kernel, by decide +kernel, (by decide +kernel : Option.map (fun d => d.parameters.length) (parseMethodDescriptor "(LBranchLayout$Statement;)V") = some 1)⟩ ⟨(Nat.le_of_ble_eq_true rfl), (Nat.le_of_ble_eq_true rfl)⟩ ⟨(Nat.le_of_ble_eq_true rfl), (Nat.le_of_ble_eq_true rfl)⟩ rfl (Nat.le_of_ble_eq_true rfl) hl.1 (zrec hK hP (ci := 4) (i := 0) rfl (zb_x rfl)) hK hw2 hS (fun _ h => h) (zkv fun H locs hq _ _ hS => ?_)
        rw [zT_br, zT_s hg2] at hq
        refine lv_iinc (v := nI (k + 1)) (lv' := [(2, .int (nI (k + 1))), (1, .int (nI b)), (0, .ref o.1)]) hx hb d_BL_tellPlaces_37 hl (k := 1) rfl (nI_1 k) (by decide) rfl (fun ls hl => ?_)
        refine lv_goto (tgt := 12) hx hb d_BL_tellPlaces_40 (by decide) ?_
        exact ih (k + 1) b _ _ ls hlt h2 (by omega) (h4.imp id fun q => ⟨q.1, q.2⟩) hq hS (lv_sub hl [0, 1, 2] rfl)
  have h00 : 0 = lc ∨ (0 < lc ∧ 0 ≤ c 4 0) := by
    rcases Nat.eq_zero_or_pos lc with q | q
    · exact Or.inl q.symm
    · exact Or.inr ⟨q, Nat.zero_le _⟩
  exact loop (sc + 1) 0 0 _ _ ls (Nat.zero_le _) (Nat.zero_le _) (by omega) h00 hq hS (by rw [nI_0]; exact lv_sub hl [0, 1, 2] rfl)
