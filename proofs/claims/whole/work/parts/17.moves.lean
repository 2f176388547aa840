def zlabel (lc : Nat) (x : Int32) (Wo Wn : Heap → Prop) (r : Int32) (H : Heap) : Prop := (zsec x = true ∧ lc < 1024 ∧ r = nI lc ∧ Wn H) ∨ (¬ (zsec x = true ∧ lc < 1024) ∧ r = -1 ∧ Wo H)
set_option maxHeartbeats 4000000 in
set_option maxRecDepth 100000 in
theorem t_BL_label (l : Launch) (D : va_G) (cs : ClassId × ClassId × ClassId × ClassId) (A : Nat → Prop) (o : Nat × Nat × Nat × Nat) (sc lc : Nat) (c : Nat → Nat → Nat) (gp mo : Nat → Int32) (V : Nat → Nat → Int32) (hI : zI sc lc c gp) (x : Int32) : zMet l D cs y_BL_label c_BL_label 2 (some FieldType.int) ({ frames := 3, cells := 1, slots := 3, locals := 55 } : Room) [.ref o.1, .int x] (fun H => zCW D A o cs sc lc c gp mo V H ∧ ∀ q, H.size ≤ q → A q) A (zqi (zlabel lc x (zCW D A o cs sc lc c gp mo V) (zCW D A o cs sc (lc + 1) (zlc c lc sc x) gp mo (zu V 4 lc 0)))) := by
  refine zmk (by decide) (Nat.le_of_ble_eq_true rfl) ?_
  intro p e s m below meth cd ls E hK hP0 hl
  have hS : va_S A s.heap s.heap [] := va_S.rf
  obtain ⟨hW, hA⟩ := hP0
  obtain ⟨fa, fb, ad, bd, hfa, hfb, hP, hD⟩ := id hW
  obtain ⟨hx, hb, hr, hts, hown, hlocks, hml, hin⟩ := id E
  have hl : lv_has ls 2 [(0, .ref o.1), (1, .int x)] := hl
  refine lv_iload_n hx hb d_BL_label_0 rfl (lv_at hl 1 rfl) ?_
  refine zcS [.int x] [] E (t_BL_isSection l D cs x s.heap) d_BL_label_1 w_51 w_52 w_1 w_53 ⟨by decide +kernel, by decide +kernel, (by decide +kernel : Option.map (fun d => d.parameters.length) (parseMethodDescriptor "(I)Z") = some 1)⟩ ⟨(Nat.le_of_ble_eq_true rfl), (Nat.le_of_ble_eq_true rfl)⟩ ⟨(Nat.le_of_ble_eq_true rfl), (Nat.le_of_ble_eq_true rfl)⟩ rfl (Nat.le_of_ble_eq_true rfl) hl.1 hK rfl hS (fun _ h => h.elim) (zki fun r H locs hq _ _ hS => ?_)
  obtain ⟨rfl, rfl⟩ := hq
  refine lv_if_eq (tgt := 19) hx hb d_BL_label_4 (by decide) (fun c_9 => ?_) (fun c_9 => ?_)
  · skip
    have hsec : zsec x = false := by cases hz : zsec x with | false => rfl | true => simp [hz] at c_9
    refine lv_iconst (v := (-1)) hx hb d_BL_label_19 (by decide) ?_
    refine zri E d_BL_label_20 hS (Nat.le_of_ble_eq_true rfl) (Nat.le_of_ble_eq_true rfl) ?_
    exact ⟨_, rfl, Or.inr ⟨fun q => (by have q1 := q.1; rw [hsec] at q1; exact Bool.noConfusion q1), rfl, hW⟩⟩
  · skip
    have hsec : zsec x = true := by cases hz : zsec x with | true => rfl | false => simp [hz] at c_9
    have hx0 := zsec_pos hsec
    have hlc := hI.2.1
    refine lv_aload_n hx hb d_BL_label_7 rfl (lv_at hl 0 rfl) ?_
    refine va_get (D := D) (ci := 4) (v := .int (nI lc)) (C := "BranchLayout") (T := T_BL) (N := 5) hx hb hts in_BL hown hK.1 hP 0 (zb_x rfl) rfl 4 (by decide) (hts _ w_27) (fun _ h9 => h9) rfl d_BL_label_8 ?_
    refine lv_aload_n hx hb d_BL_label_11 rfl (lv_at hl 0 rfl) ?_
    refine va_get (D := D) (ci := 4) (v := .ref o.2.2.1) (C := "BranchLayout") (T := T_BL) (N := 5) hx hb hts in_BL hown hK.1 hP 0 (zb_x rfl) rfl 1 (by decide) (hts _ w_24) (fun _ h9 => h9) rfl d_BL_label_12 ?_
    refine va_alen hx hb hK.1 hP 2 3 (zb_x rfl) rfl (v := nI 1024) rfl d_BL_label_15 ?_
    refine lv_icmp_lt (tgt := 21) hx hb d_BL_label_16 (by decide) (fun c_10 => ?_) (fun c_10 => ?_)
    · skip
      have hlt : lc < 1024 := (nI_ltI (by omega) (by decide)).mp c_10
      refine lv_aload_n hx hb d_BL_label_21 rfl (lv_at hl 0 rfl) ?_
      refine va_get (D := D) (ci := 4) (v := .ref o.2.2.1) (C := "BranchLayout") (T := T_BL) (N := 5) hx hb hts in_BL hown hK.1 hP 0 (zb_x rfl) rfl 1 (by decide) (hts _ w_24) (fun _ h9 => h9) rfl d_BL_label_22 ?_
      refine lv_aload_n hx hb d_BL_label_25 rfl (lv_at hl 0 rfl) ?_
      refine va_get (D := D) (ci := 4) (v := .int (nI lc)) (C := "BranchLayout") (T := T_BL) (N := 5) hx hb hts in_BL hown hK.1 hP 0 (zb_x rfl) rfl 4 (by decide) (hts _ w_27) (fun _ h9 => h9) rfl d_BL_label_26 ?_
      refine va_new (ci := 3) (fs := [.int 0, .int 0, .int 0]) (C := "BranchLayout$Label") (T := T_La) (N := 3) hx hb hts in_La ty_La ok_La hown (hts _ w_21) (hts _ w_163) (hts _ w_10) hK.1 hP hD hS hA rfl (fun j hj => by rcases (show j = 0 ∨ j = 1 ∨ j = 2 by omega) with rfl | rfl | rfl <;> rfl) (Nat.le_of_ble_eq_true rfl) (Nat.le_of_ble_eq_true rfl) d_BL_label_29 (fun q H hP hD hS => ?_)
      have hw := zx_new ⟨hP, hD⟩
      have hAq : A q := hw.2.2 _ _ (zx_at rfl)
      have hP := hw.1
      have hD := hw.2
      refine lv_dup hx hb d_BL_label_32 rfl ?_
      refine lv_iload_n hx hb d_BL_label_33 rfl (lv_at hl 1 rfl) ?_
      refine lv_aload_n hx hb d_BL_label_34 rfl (lv_at hl 0 rfl) ?_
      refine va_get (D := D) (ci := 4) (v := .int (nI sc)) (C := "BranchLayout") (T := T_BL) (N := 5) hx hb hts in_BL hown hK.1 hP 0 (zw_x rfl) rfl 3 (by decide) (hts _ w_26) (fun _ h9 => h9) rfl d_BL_label_35 ?_
      refine zcI [.int x, .int (nI sc)] [.ref q, .int (nI lc), .ref o.2.2.1] E (t_La_init l D cs q x (nI sc)) d_BL_label_38 w_164 w_165 w_10 w_166 rfl ⟨by decide +kernel, by decide +kernel, (by decide +kernel : Option.map (fun d => d.parameters.length) (parseMethodDescriptor "(II)V") = some 2)⟩ ⟨(Nat.le_of_ble_eq_true rfl), (Nat.le_of_ble_eq_true rfl)⟩ ⟨(Nat.le_of_ble_eq_true rfl), (Nat.le_of_ble_eq_true rfl)⟩ rfl (Nat.le_of_ble_eq_true rfl) hl.1 hK (zat hw (zx_at rfl)) hS (fun q2 h => by rw [h]; exact hAq) (zkv fun H1 locs hq _ hk hS => ?_)
      have hw := zx_set rfl hw hq hk
      have hP := hw.1
      have hD := hw.2
      refine va_astq hx hb hK.1 hP hD hS 2 3 (4 + sc + lc) 3 (zw_x rfl) rfl (zx_at rfl) rfl (vp_in_nI hlt (by decide)) d_BL_label_41 (fun H locs hP hD hS => ?_)
      rw [nI_clamp (show lc < 2 ^ 31 by omega), zw_setx (Nat.le_of_ble_eq_true rfl)] at hP hD
      have hP : va_P D zcl (zw_ws (zX o cs sc lc fa (va_up fb lc (some q)) (V 5)) sc (fun k => (ad k, zcell c gp mo V ad bd k)) (lc + 1) (zGx bd c V lc q (.inr (3, [.int x, .int 0, .int (nI sc)])))) H := hP
      have hD : va_D A (zw_ws (zX o cs sc lc fa (va_up fb lc (some q)) (V 5)) sc (fun k => (ad k, zcell c gp mo V ad bd k)) (lc + 1) (zGx bd c V lc q (.inr (3, [.int x, .int 0, .int (nI sc)])))) := hD
      refine lv_aload_n hx hb d_BL_label_42 rfl (lv_at hl 0 rfl) ?_
      refine lv_dup hx hb d_BL_label_43 rfl ?_
      refine va_get (D := D) (ci := 4) (v := .int (nI lc)) (C := "BranchLayout") (T := T_BL) (N := 5) hx hb hts in_BL hown hK.1 hP 0 (zw_x rfl) rfl 4 (by decide) (hts _ w_27) (fun _ h9 => h9) rfl d_BL_label_44 ?_
      refine lv_dup_x1 hx hb d_BL_label_47 rfl rfl ?_
      refine lv_iconst (v := 1) hx hb d_BL_label_48 (by decide) ?_
      refine lv_iadd hx hb d_BL_label_49 ?_
      refine va_put (D := D) (ci := 4) (v := .int (nI lc + 1)) (ty := .int) (C := "BranchLayout") (T := T_BL) (N := 5) hx hb hts in_BL ty_BL ok_BL nm_BL hown hK.1 hP hD hS 0 (zw_x rfl) rfl 4 (by decide) (hts _ w_27) (fun _ h9 => h9) rfl (by decide +kernel) rfl rfl (Nat.le_of_ble_eq_true rfl) d_BL_label_50 (fun H locs hP hD hS => ?_)
      rw [zw_setx (Nat.le_of_ble_eq_true rfl), nI_1] at hP hD
      refine zri E d_BL_label_53 hS (Nat.le_of_ble_eq_true rfl) (Nat.le_of_ble_eq_true rfl) ?_
      refine ⟨_, rfl, Or.inl ⟨hsec, hlt, rfl, fa, va_up fb lc (some q), ad, va_up bd lc q, hfa, fun k hk => ?_, zb_lab hI hx0 rfl rfl ⟨hP, hD⟩⟩⟩
      by_cases hks : k = lc
      · subst hks; rw [va_up_self, va_up_self]
      · rw [va_up_ne _ _ hks, va_up_ne _ _ hks]; exact hfb k (by omega)
    · skip
      refine lv_iconst (v := (-1)) hx hb d_BL_label_19 (by decide) ?_
      refine zri E d_BL_label_20 hS (Nat.le_of_ble_eq_true rfl) (Nat.le_of_ble_eq_true rfl) ?_
      exact ⟨_, rfl, Or.inr ⟨fun q => c_10 (nI_lt q.2 (by decide)), rfl, hW⟩⟩
set_option maxHeartbeats 4000000 in
set_option maxRecDepth 100000 in
theorem t_BL_clear (l : Launch) (D : va_G) (cs : ClassId × ClassId × ClassId × ClassId) (A : Nat → Prop) (o : Nat × Nat × Nat × Nat) (sc lc : Nat) (c : Nat → Nat → Nat) (gp mo : Nat → Int32) (V : Nat → Nat → Int32) (hI : zI sc lc c gp) : zMet l D cs y_BL_clear c_BL_clear 1 none ({ frames := 1, cells := 0, slots := 0, locals := 23 } : Room) [.ref o.1] (zCW D A o cs sc lc c gp mo V) A (zqv (zCW D A o cs 0 0 c gp mo (zfl V 0))) := by
  refine zmk (by decide) (Nat.le_of_ble_eq_true rfl) ?_
  intro p e s m below meth cd ls E hK hP0 hl
  have hS : va_S A s.heap s.heap [] := va_S.rf
  obtain ⟨fa, fb, ad, bd, hfa, hfb, hP, hD⟩ := id hP0
  obtain ⟨hP, hD⟩ := zw_cut (F' := fun k => (ad k, zcell c gp mo V ad bd k)) (G' := fun j => (bd j, zlab c V j)) hP hD
  obtain ⟨hx, hb, hr, hts, hown, hlocks, hml, hin⟩ := id E
  have hl : lv_has ls 1 [(0, .ref o.1)] := hl
  refine lv_aload_n hx hb d_BL_clear_0 rfl (lv_at hl 0 rfl) ?_
  refine lv_iconst (v := 0) hx hb d_BL_clear_1 (by decide) ?_
  refine lv_topi (fun z_11 ez_11 => ?_)
  rw [← nI_0] at ez_11
  subst ez_11
  refine va_put (D := D) (ci := 4) (v := .int (nI 0)) (ty := .int) (C := "BranchLayout") (T := T_BL) (N := 5) hx hb hts in_BL ty_BL ok_BL nm_BL hown hK.1 hP hD hS 0 (zw_x rfl) rfl 3 (by decide) (hts _ w_26) (fun _ h9 => h9) rfl (by decide +kernel) rfl rfl (Nat.le_of_ble_eq_true rfl) d_BL_clear_2 (fun H locs hP hD hS => ?_)
  rw [zw_setx (Nat.le_of_ble_eq_true rfl)] at hP hD
  refine lv_aload_n hx hb d_BL_clear_5 rfl (lv_at hl 0 rfl) ?_
  refine lv_iconst (v := 0) hx hb d_BL_clear_6 (by decide) ?_
  refine lv_topi (fun z_12 ez_12 => ?_)
  rw [← nI_0] at ez_12
  subst ez_12
  refine va_put (D := D) (ci := 4) (v := .int (nI 0)) (ty := .int) (C := "BranchLayout") (T := T_BL) (N := 5) hx hb hts in_BL ty_BL ok_BL nm_BL hown hK.1 hP hD hS 0 (zw_x rfl) rfl 4 (by decide) (hts _ w_27) (fun _ h9 => h9) rfl (by decide +kernel) rfl rfl (Nat.le_of_ble_eq_true rfl) d_BL_clear_7 (fun H locs hP hD hS => ?_)
  rw [zw_setx (Nat.le_of_ble_eq_true rfl)] at hP hD
  have hP : va_P D zcl (zB o cs 0 0 fa fb ad bd c gp mo V) H := hP
  have hD : va_D A (zB o cs 0 0 fa fb ad bd c gp mo V) := hD
  refine lv_aload_n hx hb d_BL_clear_10 rfl (lv_at hl 0 rfl) ?_
  refine va_get (D := D) (ci := 4) (v := .ref o.2.2.2) (C := "BranchLayout") (T := T_BL) (N := 5) hx hb hts in_BL hown hK.1 hP 0 (zb_x rfl) rfl 2 (by decide) (hts _ w_25) (fun _ h9 => h9) rfl d_BL_clear_11 ?_
  refine lv_iconst (v := 0) hx hb d_BL_clear_14 (by decide) ?_
  refine zcS [.ref o.2.2.2, .int 0] [] E (t_Ar_fill l D cs A o 0 0 fa fb ad bd c gp mo V 0) d_BL_clear_15 w_44 w_45 w_3 w_46 ⟨by decide +kernel, by decide +kernel, (by decide +kernel : Option.map (fun d => d.parameters.length) (parseMethodDescriptor "([II)V") = some 2)⟩ ⟨(Nat.le_of_ble_eq_true rfl), (Nat.le_of_ble_eq_true rfl)⟩ ⟨(Nat.le_of_ble_eq_true rfl), (Nat.le_of_ble_eq_true rfl)⟩ rfl (Nat.le_of_ble_eq_true rfl) hl.1 hK ⟨hP, hD⟩ hS (fun _ h => h) (zkv fun H locs hq _ _ hS => ?_)
  refine zrv E d_BL_clear_18 hS (Nat.le_of_ble_eq_true rfl) (Nat.le_of_ble_eq_true rfl) ?_
  exact ⟨rfl, fa, fb, ad, bd, fun k hk => absurd hk (Nat.not_lt_zero k), fun k hk => absurd hk (Nat.not_lt_zero k), hq⟩
/-- the section of a place, if there is such a place -/
def zpse (sc lc : Nat) (c : Nat → Nat → Nat) (p : Int32) : Option Nat := if p < 0 then (if zst sc (-2 - p) then some (c 1 (-2 - p).toNatClampNeg) else none) else if zst lc p then some (c 3 p.toNatClampNeg) else none
def zgoc (sc lc : Nat) (c : Nat → Nat → Nat) (x p : Int32) : Prop := zst sc x = true ∧ c 0 x.toNatClampNeg = 2 ∧ zpse sc lc c p = some (c 1 x.toNatClampNeg)
def zgoq (sc lc : Nat) (c : Nat → Nat → Nat) (x p : Int32) (Wo Wn : Heap → Prop) (r : Int32) (H : Heap) : Prop := (zgoc sc lc c x p ∧ r = 1 ∧ Wn H) ∨ (¬ zgoc sc lc c x p ∧ r = 0 ∧ Wo H)
theorem zpn_none {sc lc : Nat} {ad bd : Nat → Nat} {c : Nat → Nat → Nat} {p : Int32} (h : zpn sc lc ad bd p = none) : zpse sc lc c p = none := by
  unfold zpn at h
  unfold zpse
  by_cases hp : p < 0
  · rw [if_pos hp] at h ⊢
    cases hz : zst sc (-2 - p) with
    | false => rfl
    | true => rw [zsn_t hz] at h; cases h
  · rw [if_neg hp] at h ⊢
    cases hz : zst lc p with
    | false => rfl
    | true => rw [zsn_t hz] at h; cases h
theorem zpn_some {sc lc a : Nat} {ad bd : Nat → Nat} {c : Nat → Nat → Nat} {p : Int32} (hs : sc ≤ 4096) (hl : lc ≤ 1024) (h : zpn sc lc ad bd p = some a) : zga ad bd p = some a ∧ zvalid sc lc p ∧ ((∃ i, i < sc ∧ a = ad i ∧ zpse sc lc c p = some (c 1 i)) ∨ ∃ j, j < lc ∧ a = bd j ∧ zpse sc lc c p = some (c 3 j)) := by
  unfold zpn at h
  unfold zpse
  by_cases hp : p < 0
  · rw [if_pos hp] at h
    cases hz : zst sc (-2 - p) with
    | false => rw [zsn_f hz] at h; cases h
    | true =>
      rw [zsn_t hz] at h
      obtain ⟨i, hi, e1, e2⟩ := zst_of (by omega) hz
      have e3 : p = -2 - nI i := by
        rw [← e1]
        apply Int32.toBitVec_inj.mp
        simp only [Int32.toBitVec_sub]
        bv_omega
      have e4 : ¬ p = -1 := by rw [e3]; exact (zm2 (by omega)).2.2
      cases h
      refine ⟨by simp only [zga, e4, hp, if_false, if_true], Or.inr (Or.inr ⟨i, hi, e3⟩), Or.inl ⟨i, hi, by rw [e2], by rw [if_pos hp]; simp only [if_true, e2]⟩⟩
  · rw [if_neg hp] at h
    cases hz : zst lc p with
    | false => rw [zsn_f hz] at h; cases h
    | true =>
      rw [zsn_t hz] at h
      obtain ⟨j, hj, e1, e2⟩ := zst_of (by omega) hz
      have e4 : ¬ p = -1 := fun q => hp (by rw [q]; decide)
      cases h
      refine ⟨by simp only [zga, e4, hp, if_false], Or.inr (Or.inl ⟨j, hj, e1⟩), Or.inr ⟨j, hj, by rw [e2], by rw [if_neg hp]; simp only [if_true, e2]⟩⟩
theorem zp_get_section {p : Program} {l : Launch} {e : Env} {R : Room} {s : State} {m : MethodId} {av : Array Value} {below : List Frame} {meth : Method} {cd : Code} {H : Heap} {locs : List Loc} {cells slots : Nat} {Q : State → Prop} {own nm : String} {cc : ByteArray} {nL : Nat} {r : Option FieldType} {pc : Nat} {ls : Array Slot} {rest : List Value} {D : va_G} {o : Nat × Nat × Nat × Nat} {cs : ClassId × ClassId × ClassId × ClassId} {sc lc g : Nat} {fa fb : Nat → Option Nat} {ad bd : Nat → Nat} {c : Nat → Nat → Nat} {gp mo : Nat → Int32} {V : Nat → Nat → Int32} {pl : Int32} (E : zE p s m meth cd av own nm cc nL r) (hK : zK D cs s) (hP : va_P D zcl (zB o cs sc lc fa fb ad bd c gp mo V) H) (hg3 : (∃ i, i < sc ∧ g = ad i ∧ zpse sc lc c pl = some (c 1 i)) ∨ ∃ j, j < lc ∧ g = bd j ∧ zpse sc lc c pl = some (c 3 j)) {idx : Nat} (hlink : Cond.fieldLink own idx "BranchLayout$Place" "section" "I" ∈ zt) (hdg : decode cc pc = .ok (.getfield idx, 3))
    (kk : ∀ u, zpse sc lc c pl = some u → W p l e R s m av below meth cd H locs cells slots Q (F0 m (pc + 3) ls (.int (nI u) :: rest))) : W p l e R s m av below meth cd H locs cells slots Q (F0 m pc ls (.ref g :: rest)) := by
  rcases hg3 with ⟨i, hi, rfl, hu⟩ | ⟨j, hj, rfl, hu⟩
  · exact zs_get_section E hK hP hi hlink (fun _ h9 => h9) hdg (kk _ hu)
  · obtain ⟨hx, hb, hr, hts, hown, hlocks, hml, hin⟩ := E
    exact va_get (D := D) (ci := 3) (v := .int (nI (c 3 j))) (C := "BranchLayout$Label") (T := T_La) (N := 3) hx hb hts in_La hown hK.1 hP (4 + sc + j) (zb_l hj) rfl 0 (by decide) (hts _ hlink) (fun _ h9 => h9) rfl hdg (kk _ hu)
set_option maxHeartbeats 4000000 in
set_option maxRecDepth 100000 in
theorem t_BL_go (l : Launch) (D : va_G) (cs : ClassId × ClassId × ClassId × ClassId) (A : Nat → Prop) (o : Nat × Nat × Nat × Nat) (sc lc : Nat) (c : Nat → Nat → Nat) (gp mo : Nat → Int32) (V : Nat → Nat → Int32) (hI : zI sc lc c gp) (x pl mr : Int32) : zMet l D cs y_BL_go c_BL_go 6 (some FieldType.boolean) ({ frames := 2, cells := 0, slots := 0, locals := 42 } : Room) [.ref o.1, .int x, .int pl, .int mr] (zCW D A o cs sc lc c gp mo V) A (zqi (zgoq sc lc c x pl (zCW D A o cs sc lc c gp mo V) (fun H => zCW D A o cs sc lc c (upd gp x.toNatClampNeg pl) (upd mo x.toNatClampNeg mr) V H))) := by
  refine zmk (by decide) (Nat.le_of_ble_eq_true rfl) ?_
  intro p e s m below meth cd ls E hK hP0 hl
  have hS : va_S A s.heap s.heap [] := va_S.rf
  obtain ⟨fa, fb, ad, bd, hfa, hfb, hw⟩ := id hP0
  obtain ⟨hP, hD⟩ := id hw
  obtain ⟨hx, hb, hr, hts, hown, hlocks, hml, hin⟩ := id E
  have hl : lv_has ls 6 [(0, .ref o.1), (1, .int x), (2, .int pl), (3, .int mr)] := hl
  refine lv_aload_n hx hb d_BL_go_0 rfl (lv_at hl 0 rfl) ?_
  refine lv_iload_n hx hb d_BL_go_1 rfl (lv_at hl 1 rfl) ?_
  refine zcV [.int x] [] E (t_BL_statementNumbered l D cs A o sc lc fa fb ad bd c gp mo V hI.1 hfa x _ hw) d_BL_go_2 w_179 w_181 ws_BL_statementNumbered w_1 w_182 ⟨rfl, by decide +kernel, by decide +kernel, (by decide +kernel : Option.map (fun d => d.parameters.length) (parseMethodDescriptor "(I)LBranchLayout$Statement;") = some 1)⟩ ⟨(Nat.le_of_ble_eq_true rfl), (Nat.le_of_ble_eq_true rfl)⟩ ⟨(Nat.le_of_ble_eq_true rfl), (Nat.le_of_ble_eq_true rfl)⟩ rfl (Nat.le_of_ble_eq_true rfl) hl.1 (zrec hK hP (ci := 4) (i := 0) rfl (zb_x rfl)) hK rfl hS (fun _ h => h.elim) (zkr fun r H locs hq _ _ hS => ?_)
  obtain ⟨rfl, rfl⟩ := hq
  cases hz : zst sc x with
  | false =>
    rw [zsn_f hz]
    refine lv_astoreN (lv' := [(5, .null), (0, .ref o.1), (1, .int x), (2, .int pl), (3, .int mr)]) hx hb d_BL_go_5 hl (by decide) rfl (fun ls hl => ?_)
    refine lv_aloadN hx hb d_BL_go_7 (lv_at hl 0 rfl) ?_
    refine lv_instN hx hb d_BL_go_9 ?_
    refine lv_if_eq (tgt := 25) hx hb d_BL_go_12 (by decide) (fun c_13 => ?_) (fun c_13 => ?_)
    · skip
      refine lv_iconst (v := 0) hx hb d_BL_go_25 (by decide) ?_
      refine zrz E d_BL_go_26 (by decide) hS (Nat.le_of_ble_eq_true rfl) (Nat.le_of_ble_eq_true rfl) ?_
      exact ⟨_, rfl, Or.inr ⟨fun q => (by have q1 := q.1; rw [hz] at q1; exact Bool.noConfusion q1), rfl, hP0⟩⟩
    · skip
      exact absurd rfl c_13
  | true =>
    rw [zsn_t hz]
    obtain ⟨k, hk, ex, ek⟩ := zst_of (by have := hI.1; omega) hz
    rw [ek]
    refine lv_astore (lv' := [(5, .ref (ad k)), (0, .ref o.1), (1, .int x), (2, .int pl), (3, .int mr)]) hx hb d_BL_go_5 hl (by decide) rfl (fun ls hl => ?_)
    refine lv_aload hx hb d_BL_go_7 (lv_at hl 0 rfl) ?_
    by_cases h2k : c 0 k = 2
    · skip
      have hc : (zB o cs sc lc fa fb ad bd c gp mo V)[4 + k]? = some (ad k, .inr (1, [.int (V 1 k), .int (nI (c 1 k)), .int (V 0 k), .int (nI (c 2 k)), va_rf (zga ad bd (gp k)), .int (mo k), .int (V 2 k), .int (V 3 k)])) := by rw [zb_s hk]; simp only [zcell, h2k, if_true]
      refine va_instY hx hb hown (hts _ w_131) (C := "BranchLayout$Branch") hK.2.2.2.2.2.1 (zrec hK hP rfl hc) d_BL_go_9 ?_
      refine lv_if_eq (tgt := 25) hx hb d_BL_go_12 (by decide) (fun c_16 => ?_) (fun c_16 => ?_)
      · skip
        exact absurd c_16 (by decide)
      · skip
        refine lv_aload hx hb d_BL_go_15 (lv_at hl 0 rfl) ?_
        refine va_castY hx hb hown (hts _ w_131) (C := "BranchLayout$Branch") hK.2.2.2.2.2.1 (zrec hK hP rfl hc) d_BL_go_17 ?_
        refine lv_astore (lv' := [(4, .ref (ad k)), (5, .ref (ad k)), (0, .ref o.1), (1, .int x), (2, .int pl), (3, .int mr)]) hx hb d_BL_go_20 hl (by decide) rfl (fun ls hl => ?_)
        refine lv_goto (tgt := 27) hx hb d_BL_go_22 (by decide) ?_
        refine lv_aload_n hx hb d_BL_go_27 rfl (lv_at hl 2 rfl) ?_
        refine lv_iload_n hx hb d_BL_go_28 rfl (lv_at hl 4 rfl) ?_
        refine zcV [.int pl] [] E (t_BL_placeNamed l D cs A o sc lc fa fb ad bd c gp mo V hI.1 hfa hI.2.1 hfb pl _ hw) d_BL_go_29 w_183 w_185 ws_BL_placeNamed w_1 w_186 ⟨rfl, by decide +kernel, by decide +kernel, (by decide +kernel : Option.map (fun d => d.parameters.length) (parseMethodDescriptor "(I)LBranchLayout$Place;") = some 1)⟩ ⟨(Nat.le_of_ble_eq_true rfl), (Nat.le_of_ble_eq_true rfl)⟩ ⟨(Nat.le_of_ble_eq_true rfl), (Nat.le_of_ble_eq_true rfl)⟩ rfl (Nat.le_of_ble_eq_true rfl) hl.1 (zrec hK hP (ci := 4) (i := 0) rfl (zb_x rfl)) hK rfl hS (fun _ h => h.elim) (zkr fun r H locs hq _ _ hS => ?_)
        obtain ⟨rfl, er⟩ := hq
        cases r with
        | none =>
          refine lv_astoreN (lv' := [(5, .null), (4, .ref (ad k)), (0, .ref o.1), (1, .int x), (2, .int pl), (3, .int mr)]) hx hb d_BL_go_32 hl (by decide) rfl (fun ls hl => ?_)
          refine lv_aloadN hx hb d_BL_go_34 (lv_at hl 0 rfl) ?_
          refine lv_ifnullN (tgt := 52) hx hb d_BL_go_36 (by decide) ?_
          refine lv_iconst (v := 0) hx hb d_BL_go_52 (by decide) ?_
          refine zrz E d_BL_go_53 (by decide) hS (Nat.le_of_ble_eq_true rfl) (Nat.le_of_ble_eq_true rfl) ?_
          exact ⟨_, rfl, Or.inr ⟨fun q => (by have q1 := q.2.2; rw [zpn_none er.symm] at q1; cases q1), rfl, hP0⟩⟩
        | some g =>
          refine lv_astore (lv' := [(5, .ref g), (4, .ref (ad k)), (0, .ref o.1), (1, .int x), (2, .int pl), (3, .int mr)]) hx hb d_BL_go_32 hl (by decide) rfl (fun ls hl => ?_)
          refine lv_aload hx hb d_BL_go_34 (lv_at hl 0 rfl) ?_
          refine lv_ifnull hx hb d_BL_go_36 ?_
          refine lv_aload hx hb d_BL_go_39 (lv_at hl 0 rfl) ?_
          obtain ⟨hg1, hg2, hg3⟩ := zpn_some (c := c) hI.1 hI.2.1 er.symm
          refine zp_get_section E hK hP hg3 w_73 d_BL_go_41 (fun u hu => ?_)
          refine lv_aload hx hb d_BL_go_44 (lv_at hl 1 rfl) ?_
          refine zs_get_section E hK hP hk w_74 (u_same (hts _ w_75)) d_BL_go_46 ?_
          refine lv_icmp_eq (tgt := 54) hx hb d_BL_go_49 (by decide) (fun c_17 => ?_) (fun c_17 => ?_)
          · skip
            have hul : u < 4 := by
              rcases hg3 with ⟨i, hi, -, hu2⟩ | ⟨j, hj, -, hu2⟩
              · rw [hu2] at hu; cases hu; exact (hI.2.2.1 i hi).2.1
              · rw [hu2] at hu; cases hu; exact (hI.2.2.2.1 j hj).1
            have hkl := (hI.2.2.1 k hk).2.1
            have huk : u = c 1 k := (nI_eq (by omega) (by omega)).mp c_17
            have hgo : zgoc sc lc c x pl := ⟨hz, by rw [ek]; exact h2k, by rw [ek, hu, huk]⟩
            refine lv_aload hx hb d_BL_go_54 (lv_at hl 1 rfl) ?_
            refine lv_aload hx hb d_BL_go_56 (lv_at hl 0 rfl) ?_
            refine va_putN (D := D) (ci := 1) (v := .ref g) (ty := .object "BranchLayout$Place") (C := "BranchLayout$Branch") (T := T_Br) (N := 8) (host := "BranchLayout") hx hb hts in_Br ty_Br ok_Br nm_Br hown hK.1 hP hD hS (4 + k) hc rfl 4 (by decide) (va_Nw.use rfl hK.2.1) (fun _ h9 => h9) rfl (by decide +kernel) rfl rfl (Nat.le_of_ble_eq_true rfl) d_BL_go_58 (fun H locs hP hD hS => ?_)
            have e1 := zb_sets (o := o) (cs := cs) (lc := lc) (fa := fa) (fb := fb) (ad := ad) (bd := bd) (c := c) (gp := gp) (mo := mo) (gp' := upd gp k pl) (mo' := mo) (V := V) (V' := V) hk rfl (fun i _ h => by simp only [zcell, upd, h, if_false]) rfl rfl
            simp only [zcell, h2k, if_true, upd, hg1] at e1
            have hP : va_P D zcl (zB o cs sc lc fa fb ad bd c (upd gp k pl) mo V) H := by rw [← e1]; exact hP
            have hD : va_D A (zB o cs sc lc fa fb ad bd c (upd gp k pl) mo V) := by rw [← e1]; exact hD
            have hc : (zB o cs sc lc fa fb ad bd c (upd gp k pl) mo V)[4 + k]? = some (ad k, .inr (1, [.int (V 1 k), .int (nI (c 1 k)), .int (V 0 k), .int (nI (c 2 k)), va_rf (some g), .int (mo k), .int (V 2 k), .int (V 3 k)])) := by rw [zb_s hk]; simp only [zcell, h2k, if_true, upd, hg1]
            refine lv_aload hx hb d_BL_go_61 (lv_at hl 1 rfl) ?_
            refine lv_iload_n hx hb d_BL_go_63 rfl (lv_at hl 5 rfl) ?_
            refine va_putN (D := D) (ci := 1) (v := .int mr) (ty := .int) (C := "BranchLayout$Branch") (T := T_Br) (N := 8) (host := "BranchLayout") hx hb hts in_Br ty_Br ok_Br nm_Br hown hK.1 hP hD hS (4 + k) hc rfl 5 (by decide) (va_Nw.use rfl hK.2.2.1) (fun _ h9 => h9) rfl (by decide +kernel) rfl rfl (Nat.le_of_ble_eq_true rfl) d_BL_go_64 (fun H locs hP hD hS => ?_)
            have e2 := zb_sets (o := o) (cs := cs) (lc := lc) (fa := fa) (fb := fb) (ad := ad) (bd := bd) (c := c) (gp := upd gp k pl) (mo := mo) (gp' := upd gp k pl) (mo' := upd mo k mr) (V := V) (V' := V) hk rfl (fun i _ h => by simp only [zcell, upd, h, if_false]) rfl rfl
            simp only [zcell, h2k, if_true, upd, hg1] at e2
            refine lv_iconst (v := 1) hx hb d_BL_go_67 (by decide) ?_
            refine zrz E d_BL_go_68 (by decide) hS (Nat.le_of_ble_eq_true rfl) (Nat.le_of_ble_eq_true rfl) ?_
            refine ⟨_, rfl, Or.inl ⟨hgo, rfl, fa, fb, ad, bd, hfa, hfb, ?_⟩⟩
            exact ⟨by rw [← e2]; exact hP, by rw [← e2]; exact hD⟩
          · skip
            refine lv_iconst (v := 0) hx hb d_BL_go_52 (by decide) ?_
            refine zrz E d_BL_go_53 (by decide) hS (Nat.le_of_ble_eq_true rfl) (Nat.le_of_ble_eq_true rfl) ?_
            exact ⟨_, rfl, Or.inr ⟨fun q => c_17 (by have q1 := q.2.2; rw [hu, ek] at q1; rw [Option.some.inj q1]), rfl, hP0⟩⟩
    · skip
      by_cases h1k : c 0 k = 1
      · skip
        have hc : (zB o cs sc lc fa fb ad bd c gp mo V)[4 + k]? = some (ad k, .inr (0, [.int (V 1 k), .int (nI (c 1 k)), .int (V 0 k), .int (nI (c 2 k))])) := by rw [zb_s hk]; simp only [zcell, h1k, if_true, if_false, show ¬ ((1 : Nat) = 2) by decide]
        refine va_instNo hx hb hown (hts _ w_131) (C := "BranchLayout$Alignment") hK.2.2.2.2.2.2.2.2.2.2.2.1 (zrec hK hP rfl hc) d_BL_go_9 ?_
        refine lv_if_eq (tgt := 25) hx hb d_BL_go_12 (by decide) (fun c_18 => ?_) (fun c_18 => ?_)
        · skip
          refine lv_iconst (v := 0) hx hb d_BL_go_25 (by decide) ?_
          refine zrz E d_BL_go_26 (by decide) hS (Nat.le_of_ble_eq_true rfl) (Nat.le_of_ble_eq_true rfl) ?_
          exact ⟨_, rfl, Or.inr ⟨fun q => h2k (by have q1 := q.2.1; rw [ek] at q1; exact q1), rfl, hP0⟩⟩
        · skip
          exact absurd rfl c_18
      · skip
        have hc : (zB o cs sc lc fa fb ad bd c gp mo V)[4 + k]? = some (ad k, .inr (2, [.int (V 1 k), .int (nI (c 1 k)), .int (V 0 k), .int (nI (c 2 k))])) := by rw [zb_s hk]; simp only [zcell, h2k, h1k, if_false]
        refine va_instNo hx hb hown (hts _ w_131) (C := "BranchLayout$Bytes") hK.2.2.2.2.2.2.2.2.2.2.2.2 (zrec hK hP rfl hc) d_BL_go_9 ?_
        refine lv_if_eq (tgt := 25) hx hb d_BL_go_12 (by decide) (fun c_19 => ?_) (fun c_19 => ?_)
        · skip
          refine lv_iconst (v := 0) hx hb d_BL_go_25 (by decide) ?_
          refine zrz E d_BL_go_26 (by decide) hS (Nat.le_of_ble_eq_true rfl) (Nat.le_of_ble_eq_true rfl) ?_
          exact ⟨_, rfl, Or.inr ⟨fun q => h2k (by have q1 := q.2.1; rw [ek] at q1; exact q1), rfl, hP0⟩⟩
        · skip
          exact absurd rfl c_19
