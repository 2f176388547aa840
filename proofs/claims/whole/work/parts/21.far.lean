theorem zb_p2 {o : Nat × Nat × Nat × Nat} {cs : ClassId × ClassId × ClassId × ClassId} {sc lc : Nat} {fa fb : Nat → Option Nat} {ad bd : Nat → Nat} {c : Nat → Nat → Nat} {gp mo : Nat → Int32} {V : Nat → Nat → Int32} {k : Nat} {x : Int32} (hk : k < sc) (h2k : c 0 k = 2) : (zB o cs sc lc fa fb ad bd c gp mo V).set (4 + k) (ad k, .inr (1, [.int (V 1 k), .int (nI (c 1 k)), .int (V 0 k), .int (nI (c 2 k)), va_rf (zga ad bd (gp k)), .int (mo k), .int x, .int (V 3 k)])) = zB o cs sc lc fa fb ad bd c gp mo (zu V 2 k x) := by
  refine zb_sets hk ?_ (fun i _ h => zcell_u (by decide) h) (zu_ne (by decide)).symm (zu_ne (by decide)).symm
  simp only [zcell, h2k, if_true, zu_at, zu_ne (show (0 : Nat) ≠ 2 by decide), zu_ne (show (1 : Nat) ≠ 2 by decide), zu_ne (show (3 : Nat) ≠ 2 by decide)]
theorem zb_p3 {o : Nat × Nat × Nat × Nat} {cs : ClassId × ClassId × ClassId × ClassId} {sc lc : Nat} {fa fb : Nat → Option Nat} {ad bd : Nat → Nat} {c : Nat → Nat → Nat} {gp mo : Nat → Int32} {V : Nat → Nat → Int32} {k : Nat} {x : Int32} (hk : k < sc) (h2k : c 0 k = 2) : (zB o cs sc lc fa fb ad bd c gp mo V).set (4 + k) (ad k, .inr (1, [.int (V 1 k), .int (nI (c 1 k)), .int (V 0 k), .int (nI (c 2 k)), va_rf (zga ad bd (gp k)), .int (mo k), .int (V 2 k), .int x])) = zB o cs sc lc fa fb ad bd c gp mo (zu V 3 k x) := by
  refine zb_sets hk ?_ (fun i _ h => zcell_u (by decide) h) (zu_ne (by decide)).symm (zu_ne (by decide)).symm
  simp only [zcell, h2k, if_true, zu_at, zu_ne (show (0 : Nat) ≠ 3 by decide), zu_ne (show (1 : Nat) ≠ 3 by decide), zu_ne (show (2 : Nat) ≠ 3 by decide)]
theorem zga_valid {sc lc : Nat} {ad bd : Nat → Nat} {g : Int32} (hs : sc ≤ 4096) (hl : lc ≤ 1024) (V : Nat → Nat → Int32) (hv : zvalid sc lc g) (hn : ¬ g = -1) : ∃ a, zga ad bd g = some a ∧ ((∃ i, i < sc ∧ a = ad i ∧ zgat g V = V 0 i) ∨ ∃ j, j < lc ∧ a = bd j ∧ zgat g V = V 4 j) := by
  rcases hv with h | ⟨j, hj, rfl⟩ | ⟨i, hi, rfl⟩
  · exact absurd h hn
  · have h0 := nI_pos (n := j) (by omega)
    have h1 := nI_clamp (n := j) (by omega)
    exact ⟨bd j, by simp only [zga, hn, h0, if_false, h1], Or.inr ⟨j, hj, rfl, by simp only [zgat, h0, if_false, h1]⟩⟩
  · obtain ⟨e1, e2, e3⟩ := zm2 (i := i) (by omega)
    have h1 := nI_clamp (n := i) (by omega)
    exact ⟨ad i, by simp only [zga, hn, e2, if_false, if_true, e1, h1], Or.inl ⟨i, hi, rfl, by simp only [zgat, e2, if_true, e1, h1]⟩⟩
theorem zp_get_at {p : Program} {l : Launch} {e : Env} {R : Room} {s : State} {m : MethodId} {av : Array Value} {below : List Frame} {meth : Method} {cd : Code} {H : Heap} {locs : List Loc} {cells slots : Nat} {Q : State → Prop} {own nm : String} {cc : ByteArray} {nL : Nat} {r : Option FieldType} {pc : Nat} {ls : Array Slot} {rest : List Value} {D : va_G} {o : Nat × Nat × Nat × Nat} {cs : ClassId × ClassId × ClassId × ClassId} {sc lc g : Nat} {fa fb : Nat → Option Nat} {ad bd : Nat → Nat} {c : Nat → Nat → Nat} {gp mo : Nat → Int32} {V : Nat → Nat → Int32} {pl : Int32} (E : zE p s m meth cd av own nm cc nL r) (hK : zK D cs s) (hP : va_P D zcl (zB o cs sc lc fa fb ad bd c gp mo V) H) (hg3 : (∃ i, i < sc ∧ g = ad i ∧ zgat pl V = V 0 i) ∨ ∃ j, j < lc ∧ g = bd j ∧ zgat pl V = V 4 j) {idx : Nat} (hlink : Cond.fieldLink own idx "BranchLayout$Place" "at" "I" ∈ zt) (hdg : decode cc pc = .ok (.getfield idx, 3))
    (kk : W p l e R s m av below meth cd H locs cells slots Q (F0 m (pc + 3) ls (.int (zgat pl V) :: rest))) : W p l e R s m av below meth cd H locs cells slots Q (F0 m pc ls (.ref g :: rest)) := by
  rcases hg3 with ⟨i, hi, rfl, hu⟩ | ⟨j, hj, rfl, hu⟩
  · rw [hu] at kk
    exact zs_get_at E hK hP hi hlink (fun _ h9 => h9) hdg kk
  · rw [hu] at kk
    obtain ⟨hx, hb, hr, hts, hown, hlocks, hml, hin⟩ := E
    exact va_get (D := D) (ci := 3) (v := .int (V 4 j)) (C := "BranchLayout$Label") (T := T_La) (N := 3) hx hb hts in_La hown hK.1 hP (4 + sc + j) (zb_l hj) rfl 1 (by decide) (hts _ hlink) (fun _ h9 => h9) rfl hdg kk
set_option maxHeartbeats 4000000 in
set_option maxRecDepth 100000 in
theorem t_Br_lengthenIfTooFar (l : Launch) (D : va_G) (cs : ClassId × ClassId × ClassId × ClassId) (A : Nat → Prop) (o : Nat × Nat × Nat × Nat) (sc lc : Nat) (fa fb : Nat → Option Nat) (ad bd : Nat → Nat) (c : Nat → Nat → Nat) (gp mo : Nat → Int32) (V : Nat → Nat → Int32) (hI : zI sc lc c gp) (k : Nat) (hk : k < sc) (h2k : c 0 k = 2) (hv : V 2 k = 0 ∨ V 2 k = 1) (hg : V 2 k = 1 → ¬ gp k = -1) : zMet l D cs y_Br_lengthenIfTooFar c_Br_lengthenIfTooFar 3 (some FieldType.boolean) ({ frames := 0, cells := 0, slots := 0, locals := 0 } : Room) [.ref (ad k)] (zH D A (zB o cs sc lc fa fb ad bd c gp mo V)) A (zqi fun r H => r = (if V 2 k = 1 ∧ zok (zdi gp mo V k) = false then 1 else 0) ∧ zH D A (zB o cs sc lc fa fb ad bd c gp mo (zLk gp mo V k)) H) := by
  refine zmk (by decide) (Nat.le_of_ble_eq_true rfl) ?_
  intro p e s m below meth cd ls E hK hP0 hl
  have hS : va_S A s.heap s.heap [] := va_S.rf
  obtain ⟨hP, hD⟩ := id hP0
  obtain ⟨hx, hb, hr, hts, hown, hlocks, hml, hin⟩ := id E
  have hl : lv_has ls 3 [(0, .ref (ad k))] := hl
  refine lv_aload_n hx hb d_Br_lengthenIfTooFar_0 rfl (lv_at hl 0 rfl) ?_
  refine va_get (D := D) (ci := 1) (v := .int (V 2 k)) (C := "BranchLayout$Branch") (T := T_Br) (N := 8) hx hb hts in_Br hown hK.1 hP (4 + k) (zc_Br hk h2k) rfl 6 (by decide) (hts _ w_142) (fun _ h9 => h9) rfl d_Br_lengthenIfTooFar_1 ?_
  refine lv_if_eq (tgt := 14) hx hb d_Br_lengthenIfTooFar_4 (by decide) (fun c_4 => ?_) (fun c_4 => ?_)
  · skip
    refine lv_iconst (v := 0) hx hb d_Br_lengthenIfTooFar_14 (by decide) ?_
    refine zrz E d_Br_lengthenIfTooFar_15 (by decide) hS (Nat.le_of_ble_eq_true rfl) (Nat.le_of_ble_eq_true rfl) ?_
    exact ⟨_, rfl, by simp [c_4], by simpa [zLk, c_4] using hP0⟩
  · skip
    have h1 := hv.resolve_left c_4
    obtain ⟨g, hg1, hg3⟩ := zga_valid (ad := ad) (bd := bd) hI.1 hI.2.1 V (hI.2.2.1 k hk).2.2.2.2.1 (hg h1)
    refine lv_aload_n hx hb d_Br_lengthenIfTooFar_7 rfl (lv_at hl 0 rfl) ?_
    refine va_get (D := D) (ci := 1) (v := va_rf (zga ad bd (gp k))) (C := "BranchLayout$Branch") (T := T_Br) (N := 8) hx hb hts in_Br hown hK.1 hP (4 + k) (zc_Br hk h2k) rfl 4 (by decide) (hts _ w_138) (fun _ h9 => h9) rfl d_Br_lengthenIfTooFar_8 ?_
    rw [hg1]
    refine lv_ifnonnull (tgt := 16) hx hb d_Br_lengthenIfTooFar_11 (by decide) ?_
    refine lv_aload_n hx hb d_Br_lengthenIfTooFar_16 rfl (lv_at hl 0 rfl) ?_
    refine va_get (D := D) (ci := 1) (v := va_rf (zga ad bd (gp k))) (C := "BranchLayout$Branch") (T := T_Br) (N := 8) hx hb hts in_Br hown hK.1 hP (4 + k) (zc_Br hk h2k) rfl 4 (by decide) (hts _ w_138) (fun _ h9 => h9) rfl d_Br_lengthenIfTooFar_17 ?_
    rw [hg1]
    refine zp_get_at E hK hP hg3 w_82 d_Br_lengthenIfTooFar_20 ?_
    refine lv_i2l hx hb d_Br_lengthenIfTooFar_23 rfl ?_
    refine lv_aload_n hx hb d_Br_lengthenIfTooFar_24 rfl (lv_at hl 0 rfl) ?_
    refine va_get (D := D) (ci := 1) (v := .int (mo k)) (C := "BranchLayout$Branch") (T := T_Br) (N := 8) hx hb hts in_Br hown hK.1 hP (4 + k) (zc_Br hk h2k) rfl 5 (by decide) (hts _ w_140) (fun _ h9 => h9) rfl d_Br_lengthenIfTooFar_25 ?_
    refine lv_i2l hx hb d_Br_lengthenIfTooFar_28 rfl ?_
    refine lv_ladd hx hb d_Br_lengthenIfTooFar_29 ?_
    refine lv_aload_n hx hb d_Br_lengthenIfTooFar_30 rfl (lv_at hl 0 rfl) ?_
    refine va_get (D := D) (ci := 1) (v := .int (V 0 k)) (C := "BranchLayout$Branch") (T := T_Br) (N := 8) hx hb hts in_Br hown hK.1 hP (4 + k) (zc_Br hk h2k) rfl 2 (by decide) (hts _ w_83) (u_same (hts _ w_84)) rfl d_Br_lengthenIfTooFar_31 ?_
    refine lv_aload_n hx hb d_Br_lengthenIfTooFar_34 rfl (lv_at hl 0 rfl) ?_
    refine va_get (D := D) (ci := 1) (v := .int (V 1 k)) (C := "BranchLayout$Branch") (T := T_Br) (N := 8) hx hb hts in_Br hown hK.1 hP (4 + k) (zc_Br hk h2k) rfl 0 (by decide) (hts _ w_69) (u_same (hts _ w_70)) rfl d_Br_lengthenIfTooFar_35 ?_
    refine lv_iadd hx hb d_Br_lengthenIfTooFar_38 ?_
    refine lv_i2l hx hb d_Br_lengthenIfTooFar_39 rfl ?_
    refine lv_lsub hx hb d_Br_lengthenIfTooFar_40 ?_
    refine lv_topl (fun x_5 ex_5 => ?_)
    have edi : x_5 = zdi gp mo V k := ex_5
    refine lv_lstore_n (lv' := [(1, .long x_5), (0, .ref (ad k))]) hx hb d_Br_lengthenIfTooFar_41 rfl hl (by decide) rfl (fun ls hl => ?_)
    refine lv_aload_n hx hb d_Br_lengthenIfTooFar_42 rfl (lv_at hl 1 rfl) ?_
    refine lv_lload_n hx hb d_Br_lengthenIfTooFar_43 rfl (lv_at hl 0 rfl) ?_
    refine lv_ldc2 (v := (-128)) hx hb hown (hts _ w_231) d_Br_lengthenIfTooFar_44 ?_
    refine W.lcmp hx hb d_Br_lengthenIfTooFar_47 ?_
    refine lv_if_lt (tgt := 63) hx hb d_Br_lengthenIfTooFar_48 (by decide) (fun c_6 => ?_) (fun c_6 => ?_)
    · skip
      have ho : zok (zdi gp mo V k) = false := by
        rw [← edi]
        simp only [zok]; rw [decide_eq_false (Int64.not_le.mpr ((lg_cmp_lt _ _).mp c_6))]; rfl
      refine lv_iconst (v := 0) hx hb d_Br_lengthenIfTooFar_63 (by decide) ?_
      refine va_put (D := D) (ci := 1) (v := .int 0) (ty := .boolean) (C := "BranchLayout$Branch") (T := T_Br) (N := 8) hx hb hts in_Br ty_Br ok_Br nm_Br hown hK.1 hP hD hS (4 + k) (zc_Br hk h2k) rfl 6 (by decide) (hts _ w_142) (fun _ h9 => h9) rfl (by decide +kernel) rfl rfl (Nat.le_of_ble_eq_true rfl) d_Br_lengthenIfTooFar_64 (fun H locs hP hD hS => ?_)
      have hP : va_P D zcl (zB o cs sc lc fa fb ad bd c gp mo (zu V 2 k 0)) H := by rw [← zb_p2 hk h2k]; exact hP
      have hD : va_D A (zB o cs sc lc fa fb ad bd c gp mo (zu V 2 k 0)) := by rw [← zb_p2 hk h2k]; exact hD
      refine lv_aload_n hx hb d_Br_lengthenIfTooFar_67 rfl (lv_at hl 1 rfl) ?_
      refine lv_aload_n hx hb d_Br_lengthenIfTooFar_68 rfl (lv_at hl 1 rfl) ?_
      refine va_get (D := D) (ci := 1) (v := .int 0) (C := "BranchLayout$Branch") (T := T_Br) (N := 8) hx hb hts in_Br hown hK.1 hP (4 + k) (zc_Br hk h2k) rfl 6 (by decide) (hts _ w_142) (fun _ h9 => h9) (by simp [zu]) d_Br_lengthenIfTooFar_69 ?_
      refine lv_if_eq (tgt := 80) hx hb d_Br_lengthenIfTooFar_72 (by decide) (fun c_7 => ?_) (fun c_7 => ?_)
      · skip
        refine lv_iconst (v := 0) hx hb d_Br_lengthenIfTooFar_80 (by decide) ?_
        refine va_put (D := D) (ci := 1) (v := .int 0) (ty := .int) (C := "BranchLayout$Branch") (T := T_Br) (N := 8) hx hb hts in_Br ty_Br ok_Br nm_Br hown hK.1 hP hD hS (4 + k) (zc_Br hk h2k) rfl 7 (by decide) (hts _ w_144) (fun _ h9 => h9) rfl (by decide +kernel) rfl rfl (Nat.le_of_ble_eq_true rfl) d_Br_lengthenIfTooFar_81 (fun H locs hP hD hS => ?_)
        have hP : va_P D zcl (zB o cs sc lc fa fb ad bd c gp mo (zu (zu V 2 k 0) 3 k 0)) H := by rw [← zb_p3 hk h2k]; exact hP
        have hD : va_D A (zB o cs sc lc fa fb ad bd c gp mo (zu (zu V 2 k 0) 3 k 0)) := by rw [← zb_p3 hk h2k]; exact hD
        refine lv_aload_n hx hb d_Br_lengthenIfTooFar_84 rfl (lv_at hl 1 rfl) ?_
        refine va_get (D := D) (ci := 1) (v := .int 0) (C := "BranchLayout$Branch") (T := T_Br) (N := 8) hx hb hts in_Br hown hK.1 hP (4 + k) (zc_Br hk h2k) rfl 6 (by decide) (hts _ w_142) (fun _ h9 => h9) (by simp [zu]) d_Br_lengthenIfTooFar_85 ?_
        refine lv_if_ne (tgt := 95) hx hb d_Br_lengthenIfTooFar_88 (by decide) (fun c_8 => ?_) (fun c_8 => ?_)
        · skip
          exact absurd rfl c_8
        · skip
          refine lv_iconst (v := 1) hx hb d_Br_lengthenIfTooFar_91 (by decide) ?_
          refine lv_goto (tgt := 96) hx hb d_Br_lengthenIfTooFar_92 (by decide) ?_
          refine zrz E d_Br_lengthenIfTooFar_96 (by decide) hS (Nat.le_of_ble_eq_true rfl) (Nat.le_of_ble_eq_true rfl) ?_
          refine ⟨_, rfl, by simp [h1, ho], ?_⟩
          simp only [zLk, h1, ho, if_true, Bool.false_eq_true, if_false]
          exact ⟨hP, hD⟩
      · skip
        exact absurd rfl c_7
    · skip
      refine lv_lload_n hx hb d_Br_lengthenIfTooFar_51 rfl (lv_at hl 0 rfl) ?_
      refine lv_ldc2 (v := 127) hx hb hown (hts _ w_232) d_Br_lengthenIfTooFar_52 ?_
      refine W.lcmp hx hb d_Br_lengthenIfTooFar_55 ?_
      refine lv_if_gt (tgt := 63) hx hb d_Br_lengthenIfTooFar_56 (by decide) (fun c_9 => ?_) (fun c_9 => ?_)
      · skip
        have ho : zok (zdi gp mo V k) = false := by
          rw [← edi]
          simp only [zok]; rw [decide_eq_false (p := x_5 ≤ 127) (Int64.not_le.mpr ((lg_cmp_gt _ _).mp c_9))]; exact Bool.and_false _
        refine lv_iconst (v := 0) hx hb d_Br_lengthenIfTooFar_63 (by decide) ?_
        refine va_put (D := D) (ci := 1) (v := .int 0) (ty := .boolean) (C := "BranchLayout$Branch") (T := T_Br) (N := 8) hx hb hts in_Br ty_Br ok_Br nm_Br hown hK.1 hP hD hS (4 + k) (zc_Br hk h2k) rfl 6 (by decide) (hts _ w_142) (fun _ h9 => h9) rfl (by decide +kernel) rfl rfl (Nat.le_of_ble_eq_true rfl) d_Br_lengthenIfTooFar_64 (fun H locs hP hD hS => ?_)
        have hP : va_P D zcl (zB o cs sc lc fa fb ad bd c gp mo (zu V 2 k 0)) H := by rw [← zb_p2 hk h2k]; exact hP
        have hD : va_D A (zB o cs sc lc fa fb ad bd c gp mo (zu V 2 k 0)) := by rw [← zb_p2 hk h2k]; exact hD
        refine lv_aload_n hx hb d_Br_lengthenIfTooFar_67 rfl (lv_at hl 1 rfl) ?_
        refine lv_aload_n hx hb d_Br_lengthenIfTooFar_68 rfl (lv_at hl 1 rfl) ?_
        refine va_get (D := D) (ci := 1) (v := .int 0) (C := "BranchLayout$Branch") (T := T_Br) (N := 8) hx hb hts in_Br hown hK.1 hP (4 + k) (zc_Br hk h2k) rfl 6 (by decide) (hts _ w_142) (fun _ h9 => h9) (by simp [zu]) d_Br_lengthenIfTooFar_69 ?_
        refine lv_if_eq (tgt := 80) hx hb d_Br_lengthenIfTooFar_72 (by decide) (fun c_10 => ?_) (fun c_10 => ?_)
        · skip
          refine lv_iconst (v := 0) hx hb d_Br_lengthenIfTooFar_80 (by decide) ?_
          refine va_put (D := D) (ci := 1) (v := .int 0) (ty := .int) (C := "BranchLayout$Branch") (T := T_Br) (N := 8) hx hb hts in_Br ty_Br ok_Br nm_Br hown hK.1 hP hD hS (4 + k) (zc_Br hk h2k) rfl 7 (by decide) (hts _ w_144) (fun _ h9 => h9) rfl (by decide +kernel) rfl rfl (Nat.le_of_ble_eq_true rfl) d_Br_lengthenIfTooFar_81 (fun H locs hP hD hS => ?_)
          have hP : va_P D zcl (zB o cs sc lc fa fb ad bd c gp mo (zu (zu V 2 k 0) 3 k 0)) H := by rw [← zb_p3 hk h2k]; exact hP
          have hD : va_D A (zB o cs sc lc fa fb ad bd c gp mo (zu (zu V 2 k 0) 3 k 0)) := by rw [← zb_p3 hk h2k]; exact hD
          refine lv_aload_n hx hb d_Br_lengthenIfTooFar_84 rfl (lv_at hl 1 rfl) ?_
          refine va_get (D := D) (ci := 1) (v := .int 0) (C := "BranchLayout$Branch") (T := T_Br) (N := 8) hx hb hts in_Br hown hK.1 hP (4 + k) (zc_Br hk h2k) rfl 6 (by decide) (hts _ w_142) (fun _ h9 => h9) (by simp [zu]) d_Br_lengthenIfTooFar_85 ?_
          refine lv_if_ne (tgt := 95) hx hb d_Br_lengthenIfTooFar_88 (by decide) (fun c_11 => ?_) (fun c_11 => ?_)
          · skip
            exact absurd rfl c_11
          · skip
            refine lv_iconst (v := 1) hx hb d_Br_lengthenIfTooFar_91 (by decide) ?_
            refine lv_goto (tgt := 96) hx hb d_Br_lengthenIfTooFar_92 (by decide) ?_
            refine zrz E d_Br_lengthenIfTooFar_96 (by decide) hS (Nat.le_of_ble_eq_true rfl) (Nat.le_of_ble_eq_true rfl) ?_
            refine ⟨_, rfl, by simp [h1, ho], ?_⟩
            simp only [zLk, h1, ho, if_true, Bool.false_eq_true, if_false]
            exact ⟨hP, hD⟩
        · skip
          exact absurd rfl c_10
      · skip
        have ho : zok (zdi gp mo V k) = true := by
          rw [← edi]
          simp only [zok]
          rw [decide_eq_true (Int64.not_lt.mp fun q => c_6 ((lg_cmp_lt _ _).mpr q)), decide_eq_true (Int64.not_lt.mp fun q => c_9 ((lg_cmp_gt _ _).mpr q))]; rfl
        refine lv_iconst (v := 1) hx hb d_Br_lengthenIfTooFar_59 (by decide) ?_
        refine lv_goto (tgt := 64) hx hb d_Br_lengthenIfTooFar_60 (by decide) ?_
        refine va_put (D := D) (ci := 1) (v := .int 1) (ty := .boolean) (C := "BranchLayout$Branch") (T := T_Br) (N := 8) hx hb hts in_Br ty_Br ok_Br nm_Br hown hK.1 hP hD hS (4 + k) (zc_Br hk h2k) rfl 6 (by decide) (hts _ w_142) (fun _ h9 => h9) rfl (by decide +kernel) rfl rfl (Nat.le_of_ble_eq_true rfl) d_Br_lengthenIfTooFar_64 (fun H locs hP hD hS => ?_)
        have hP : va_P D zcl (zB o cs sc lc fa fb ad bd c gp mo (zu V 2 k 1)) H := by rw [← zb_p2 hk h2k]; exact hP
        have hD : va_D A (zB o cs sc lc fa fb ad bd c gp mo (zu V 2 k 1)) := by rw [← zb_p2 hk h2k]; exact hD
        refine lv_aload_n hx hb d_Br_lengthenIfTooFar_67 rfl (lv_at hl 1 rfl) ?_
        refine lv_aload_n hx hb d_Br_lengthenIfTooFar_68 rfl (lv_at hl 1 rfl) ?_
        refine va_get (D := D) (ci := 1) (v := .int 1) (C := "BranchLayout$Branch") (T := T_Br) (N := 8) hx hb hts in_Br hown hK.1 hP (4 + k) (zc_Br hk h2k) rfl 6 (by decide) (hts _ w_142) (fun _ h9 => h9) (by simp [zu]) d_Br_lengthenIfTooFar_69 ?_
        refine lv_if_eq (tgt := 80) hx hb d_Br_lengthenIfTooFar_72 (by decide) (fun c_12 => ?_) (fun c_12 => ?_)
        · skip
          exact absurd c_12 (by decide)
        · skip
          refine lv_lload_n hx hb d_Br_lengthenIfTooFar_75 rfl (lv_at hl 0 rfl) ?_
          refine lv_l2i hx hb d_Br_lengthenIfTooFar_76 rfl ?_
          refine lv_goto (tgt := 81) hx hb d_Br_lengthenIfTooFar_77 (by decide) ?_
          refine va_put (D := D) (ci := 1) (v := .int x_5.toInt32) (ty := .int) (C := "BranchLayout$Branch") (T := T_Br) (N := 8) hx hb hts in_Br ty_Br ok_Br nm_Br hown hK.1 hP hD hS (4 + k) (zc_Br hk h2k) rfl 7 (by decide) (hts _ w_144) (fun _ h9 => h9) rfl (by decide +kernel) rfl rfl (Nat.le_of_ble_eq_true rfl) d_Br_lengthenIfTooFar_81 (fun H locs hP hD hS => ?_)
          have hP : va_P D zcl (zB o cs sc lc fa fb ad bd c gp mo (zu (zu V 2 k 1) 3 k x_5.toInt32)) H := by rw [← zb_p3 hk h2k]; exact hP
          have hD : va_D A (zB o cs sc lc fa fb ad bd c gp mo (zu (zu V 2 k 1) 3 k x_5.toInt32)) := by rw [← zb_p3 hk h2k]; exact hD
          refine lv_aload_n hx hb d_Br_lengthenIfTooFar_84 rfl (lv_at hl 1 rfl) ?_
          refine va_get (D := D) (ci := 1) (v := .int 1) (C := "BranchLayout$Branch") (T := T_Br) (N := 8) hx hb hts in_Br hown hK.1 hP (4 + k) (zc_Br hk h2k) rfl 6 (by decide) (hts _ w_142) (fun _ h9 => h9) (by simp [zu]) d_Br_lengthenIfTooFar_85 ?_
          refine lv_if_ne (tgt := 95) hx hb d_Br_lengthenIfTooFar_88 (by decide) (fun c_13 => ?_) (fun c_13 => ?_)
          · skip
            refine lv_iconst (v := 0) hx hb d_Br_lengthenIfTooFar_95 (by decide) ?_
            refine zrz E d_Br_lengthenIfTooFar_96 (by decide) hS (Nat.le_of_ble_eq_true rfl) (Nat.le_of_ble_eq_true rfl) ?_
            refine ⟨_, rfl, by simp [ho], ?_⟩
            simp only [zLk, h1, ho, if_true]
            rw [← edi]
            exact ⟨hP, hD⟩
          · skip
            exact absurd c_13 (by decide)
