section ZK3
variable {o : Nat × Nat × Nat × Nat} {cs : ClassId × ClassId × ClassId × ClassId} {sc lc : Nat} {fa fb : Nat → Option Nat} {ad bd : Nat → Nat} {c : Nat → Nat → Nat} {gp mo : Nat → Int32} {V : Nat → Nat → Int32} {k : Nat}
theorem zc_Br (hk : k < sc) (h2k : c 0 k = 2) : (zB o cs sc lc fa fb ad bd c gp mo V)[4 + k]? = some (ad k, .inr (1, [.int (V 1 k), .int (nI (c 1 k)), .int (V 0 k), .int (nI (c 2 k)), va_rf (zga ad bd (gp k)), .int (mo k), .int (V 2 k), .int (V 3 k)])) := by rw [zb_s hk]; simp only [zcell, h2k, if_true]
theorem zc_Al (hk : k < sc) (h1k : c 0 k = 1) : (zB o cs sc lc fa fb ad bd c gp mo V)[4 + k]? = some (ad k, .inr (0, [.int (V 1 k), .int (nI (c 1 k)), .int (V 0 k), .int (nI (c 2 k))])) := by rw [zb_s hk]; simp only [zcell, h1k, if_true, if_false, show ¬ ((1 : Nat) = 2) by decide]
theorem zc_By (hk : k < sc) (h2k : ¬ c 0 k = 2) (h1k : ¬ c 0 k = 1) : (zB o cs sc lc fa fb ad bd c gp mo V)[4 + k]? = some (ad k, .inr (2, [.int (V 1 k), .int (nI (c 1 k)), .int (V 0 k), .int (nI (c 2 k))])) := by rw [zb_s hk]; simp only [zcell, h2k, h1k, if_false]
end ZK3
set_option maxHeartbeats 4000000 in
set_option maxRecDepth 100000 in
theorem t_By_lengthFrom (l : Launch) (D : va_G) (cs : ClassId × ClassId × ClassId × ClassId) (A : Nat → Prop) (o : Nat × Nat × Nat × Nat) (sc lc : Nat) (fa fb : Nat → Option Nat) (ad bd : Nat → Nat) (c : Nat → Nat → Nat) (gp mo : Nat → Int32) (V : Nat → Nat → Int32) (k : Nat) (hk : k < sc) (h2k : ¬ c 0 k = 2) (h1k : ¬ c 0 k = 1) (e0 : Nat) (he : e0 < 2 ^ 31) (H1 : Heap) (hw : zH D A (zB o cs sc lc fa fb ad bd c gp mo V) H1) : zMet l D cs y_By_lengthFrom c_By_lengthFrom 2 (some FieldType.int) ({ frames := 0, cells := 0, slots := 0, locals := 0 } : Room) [.ref (ad k), .int (nI e0)] (fun H => H = H1) (fun _ => False) (zqi fun r H => H = H1 ∧ r = nI (zln c (zbr V) k e0)) := by
  refine zmk (by decide) (Nat.le_of_ble_eq_true rfl) ?_
  intro p e s m below meth cd ls E hK hP0 hl
  have hS : va_S (fun _ => False) s.heap s.heap [] := va_S.rf
  subst hP0
  have hP := hw.1
  have hc : (zB o cs sc lc fa fb ad bd c gp mo V)[4 + k]? = some (ad k, .inr (2, [.int (V 1 k), .int (nI (c 1 k)), .int (V 0 k), .int (nI (c 2 k))])) := by rw [zb_s hk]; simp only [zcell, h2k, h1k, if_false]
  obtain ⟨hx, hb, hr, hts, hown, hlocks, hml, hin⟩ := id E
  have hl : lv_has ls 2 [(0, .ref (ad k)), (1, .int (nI e0))] := hl
  refine lv_aload_n hx hb d_By_lengthFrom_0 rfl (lv_at hl 0 rfl) ?_
  refine va_get (D := D) (ci := 2) (v := .int (nI (c 2 k))) (C := "BranchLayout$Bytes") (T := T_By) (N := 4) hx hb hts in_By hown hK.1 hP (4 + k) hc rfl 3 (by decide) (hts _ w_67) (fun _ h9 => h9) rfl d_By_lengthFrom_1 ?_
  refine zri E d_By_lengthFrom_4 hS (Nat.le_of_ble_eq_true rfl) (Nat.le_of_ble_eq_true rfl) ?_
  exact ⟨_, rfl, rfl, by simp only [zln, h2k, h1k, if_false]⟩
set_option maxHeartbeats 4000000 in
set_option maxRecDepth 100000 in
theorem t_Al_lengthFrom (l : Launch) (D : va_G) (cs : ClassId × ClassId × ClassId × ClassId) (A : Nat → Prop) (o : Nat × Nat × Nat × Nat) (sc lc : Nat) (fa fb : Nat → Option Nat) (ad bd : Nat → Nat) (c : Nat → Nat → Nat) (gp mo : Nat → Int32) (V : Nat → Nat → Int32) (k : Nat) (hk : k < sc) (h1k : c 0 k = 1) (hp : ∃ p, p ≤ 12 ∧ c 2 k = 2 ^ p) (e0 : Nat) (he : e0 < 2 ^ 31) (H1 : Heap) (hw : zH D A (zB o cs sc lc fa fb ad bd c gp mo V) H1) : zMet l D cs y_Al_lengthFrom c_Al_lengthFrom 2 (some FieldType.int) ({ frames := 0, cells := 0, slots := 0, locals := 0 } : Room) [.ref (ad k), .int (nI e0)] (fun H => H = H1) (fun _ => False) (zqi fun r H => H = H1 ∧ r = nI (zln c (zbr V) k e0)) := by
  refine zmk (by decide) (Nat.le_of_ble_eq_true rfl) ?_
  intro p e s m below meth cd ls E hK hP0 hl
  have hS : va_S (fun _ => False) s.heap s.heap [] := va_S.rf
  subst hP0
  have hP := hw.1
  have hc : (zB o cs sc lc fa fb ad bd c gp mo V)[4 + k]? = some (ad k, .inr (0, [.int (V 1 k), .int (nI (c 1 k)), .int (V 0 k), .int (nI (c 2 k))])) := by rw [zb_s hk]; simp only [zcell, h1k, if_true, if_false, show ¬ ((1 : Nat) = 2) by decide]
  obtain ⟨hx, hb, hr, hts, hown, hlocks, hml, hin⟩ := id E
  have hl : lv_has ls 2 [(0, .ref (ad k)), (1, .int (nI e0))] := hl
  refine lv_iload_n hx hb d_Al_lengthFrom_0 rfl (lv_at hl 1 rfl) ?_
  refine lv_ineg hx hb d_Al_lengthFrom_1 ?_
  refine lv_aload_n hx hb d_Al_lengthFrom_2 rfl (lv_at hl 0 rfl) ?_
  refine va_get (D := D) (ci := 0) (v := .int (nI (c 2 k))) (C := "BranchLayout$Alignment") (T := T_Al) (N := 4) hx hb hts in_Al hown hK.1 hP (4 + k) hc rfl 3 (by decide) (hts _ w_120) (fun _ h9 => h9) rfl d_Al_lengthFrom_3 ?_
  refine lv_iconst (v := 1) hx hb d_Al_lengthFrom_6 (by decide) ?_
  refine lv_isub hx hb d_Al_lengthFrom_7 ?_
  refine lv_iand hx hb d_Al_lengthFrom_8 ?_
  refine zri E d_Al_lengthFrom_9 hS (Nat.le_of_ble_eq_true rfl) (Nat.le_of_ble_eq_true rfl) ?_
  refine ⟨_, rfl, rfl, ?_⟩
  obtain ⟨p, hp1, hp2⟩ := hp
  rw [hp2, zneg_mask he p hp1]
  simp only [zln, h1k, if_true, if_false, show ¬ ((1 : Nat) = 2) by decide, hp2]
set_option maxHeartbeats 4000000 in
set_option maxRecDepth 100000 in
theorem t_Br_lengthFrom (l : Launch) (D : va_G) (cs : ClassId × ClassId × ClassId × ClassId) (A : Nat → Prop) (o : Nat × Nat × Nat × Nat) (sc lc : Nat) (fa fb : Nat → Option Nat) (ad bd : Nat → Nat) (c : Nat → Nat → Nat) (gp mo : Nat → Int32) (V : Nat → Nat → Int32) (k : Nat) (hk : k < sc) (h2k : c 0 k = 2) (hv : V 2 k = 0 ∨ V 2 k = 1) (e0 : Nat) (he : e0 < 2 ^ 31) (H1 : Heap) (hw : zH D A (zB o cs sc lc fa fb ad bd c gp mo V) H1) : zMet l D cs y_Br_lengthFrom c_Br_lengthFrom 2 (some FieldType.int) ({ frames := 0, cells := 0, slots := 0, locals := 0 } : Room) [.ref (ad k), .int (nI e0)] (fun H => H = H1) (fun _ => False) (zqi fun r H => H = H1 ∧ r = nI (zln c (zbr V) k e0)) := by
  refine zmk (by decide) (Nat.le_of_ble_eq_true rfl) ?_
  intro p e s m below meth cd ls E hK hP0 hl
  have hS : va_S (fun _ => False) s.heap s.heap [] := va_S.rf
  subst hP0
  have hP := hw.1
  have hc : (zB o cs sc lc fa fb ad bd c gp mo V)[4 + k]? = some (ad k, .inr (1, [.int (V 1 k), .int (nI (c 1 k)), .int (V 0 k), .int (nI (c 2 k)), va_rf (zga ad bd (gp k)), .int (mo k), .int (V 2 k), .int (V 3 k)])) := by rw [zb_s hk]; simp only [zcell, h2k, if_true]
  obtain ⟨hx, hb, hr, hts, hown, hlocks, hml, hin⟩ := id E
  have hl : lv_has ls 2 [(0, .ref (ad k)), (1, .int (nI e0))] := hl
  refine lv_aload_n hx hb d_Br_lengthFrom_0 rfl (lv_at hl 0 rfl) ?_
  refine va_get (D := D) (ci := 1) (v := .int (V 2 k)) (C := "BranchLayout$Branch") (T := T_Br) (N := 8) hx hb hts in_Br hown hK.1 hP (4 + k) hc rfl 6 (by decide) (hts _ w_142) (fun _ h9 => h9) rfl d_Br_lengthFrom_1 ?_
  refine lv_if_eq (tgt := 11) hx hb d_Br_lengthFrom_4 (by decide) (fun c_3 => ?_) (fun c_3 => ?_)
  · skip
    refine lv_aload_n hx hb d_Br_lengthFrom_11 rfl (lv_at hl 0 rfl) ?_
    refine va_get (D := D) (ci := 1) (v := .int (nI (c 2 k))) (C := "BranchLayout$Branch") (T := T_Br) (N := 8) hx hb hts in_Br hown hK.1 hP (4 + k) hc rfl 3 (by decide) (hts _ w_137) (fun _ h9 => h9) rfl d_Br_lengthFrom_12 ?_
    refine zri E d_Br_lengthFrom_15 hS (Nat.le_of_ble_eq_true rfl) (Nat.le_of_ble_eq_true rfl) ?_
    refine ⟨_, rfl, rfl, ?_⟩
    have e1 : zbr V k = false := by simp [zbr, c_3]
    simp [zln, h2k, e1]
  · skip
    refine lv_iconst (v := 2) hx hb d_Br_lengthFrom_7 (by decide) ?_
    refine lv_goto (tgt := 15) hx hb d_Br_lengthFrom_8 (by decide) ?_
    refine zri E d_Br_lengthFrom_15 hS (Nat.le_of_ble_eq_true rfl) (Nat.le_of_ble_eq_true rfl) ?_
    refine ⟨_, rfl, rfl, ?_⟩
    have e1 : zbr V k = true := by have := hv.resolve_left c_3; simp [zbr, this]
    simp [zln, h2k, e1, nI]
set_option maxHeartbeats 4000000 in
set_option maxRecDepth 100000 in
theorem t_BL_tellStatement (l : Launch) (D : va_G) (cs : ClassId × ClassId × ClassId × ClassId) (A : Nat → Prop) (o : Nat × Nat × Nat × Nat) (sc lc : Nat) (fa fb : Nat → Option Nat) (ad bd : Nat → Nat) (c : Nat → Nat → Nat) (gp mo : Nat → Int32) (V : Nat → Nat → Int32) (hI : zI sc lc c gp) (k : Nat) (hk : k < sc) (hv : V 2 k = 0 ∨ V 2 k = 1) (e0 : Nat) (he : e0 < 2 ^ 31) (h5 : V 5 (c 1 k) = nI e0) : zMet l D cs y_BL_tellStatement c_BL_tellStatement 2 none ({ frames := 1, cells := 0, slots := 0, locals := 21 } : Room) [.ref o.1, .ref (ad k)] (zH D A (zB o cs sc lc fa fb ad bd c gp mo V)) A (zqv fun H => zH D A (zB o cs sc lc fa fb ad bd c gp mo (zu (zu (zu V 0 k (nI e0)) 1 k (nI (zln c (zbr V) k e0))) 5 (c 1 k) (nI (e0 + zln c (zbr V) k e0)))) H) := by
  refine zmk (by decide) (Nat.le_of_ble_eq_true rfl) ?_
  intro p e s m below meth cd ls E hK hP0 hl
  have hS : va_S A s.heap s.heap [] := va_S.rf
  obtain ⟨hP, hD⟩ := hP0
  obtain ⟨hg1, hg2, hg3, hg4, hg5, hg6⟩ := hI.2.2.1 k hk
  obtain ⟨hx, hb, hr, hts, hown, hlocks, hml, hin⟩ := id E
  have hl : lv_has ls 2 [(0, .ref o.1), (1, .ref (ad k))] := hl
  refine lv_aload_n hx hb d_BL_tellStatement_0 rfl (lv_at hl 1 rfl) ?_
  refine lv_aload_n hx hb d_BL_tellStatement_1 rfl (lv_at hl 0 rfl) ?_
  refine va_get (D := D) (ci := 4) (v := .ref o.2.2.2) (C := "BranchLayout") (T := T_BL) (N := 5) hx hb hts in_BL hown hK.1 hP 0 (zb_x rfl) rfl 2 (by decide) (hts _ w_25) (fun _ h9 => h9) rfl d_BL_tellStatement_2 ?_
  refine lv_aload_n hx hb d_BL_tellStatement_5 rfl (lv_at hl 1 rfl) ?_
  refine zs_get_section (V := V) E hK hP hk w_76 (u_same (hts _ w_77)) d_BL_tellStatement_6 ?_
  have hin4 : vp_in (nI (c 1 k)) 4 := vp_in_nI hg2 (by decide)
  refine va_iald hx hb hK.1 hP 3 0 (zb_x rfl) rfl hin4 d_BL_tellStatement_9 ?_
  rw [nI_clamp (show c 1 k < 2 ^ 31 by omega), h5]
  refine zs_put_at (V := V) E hK hP hD hS hk w_87 (u_same (hts _ w_81)) d_BL_tellStatement_10 (fun H locs hw hS => ?_)
  obtain ⟨hP, hD⟩ := id hw
  refine lv_aload_n hx hb d_BL_tellStatement_13 rfl (lv_at hl 1 rfl) ?_
  refine lv_aload_n hx hb d_BL_tellStatement_14 rfl (lv_at hl 1 rfl) ?_
  refine lv_aload_n hx hb d_BL_tellStatement_15 rfl (lv_at hl 1 rfl) ?_
  refine zs_get_at (V := (zu V 0 k (nI e0))) E hK hP hk w_87 (u_same (hts _ w_81)) d_BL_tellStatement_16 ?_
  rw [zu_at]
  have ebr : zbr (zu V 0 k (nI e0)) = zbr V := by funext i; simp [zbr, zu]
  have hv1 : (zu V 0 k (nI e0)) 2 k = 0 ∨ (zu V 0 k (nI e0)) 2 k = 1 := by simpa [zu] using hv
  have go : ∀ locs : List Loc, va_S A s.heap H locs → W p l e ({ frames := 1, cells := 0, slots := 0, locals := 21 } : Room) s m ([.ref o.1, .ref (ad k)] : List Value).toArray below meth cd H locs 0 0 (zQ below s ([.ref o.1, .ref (ad k)] : List Value).toArray A (zqv fun H => zH D A (zB o cs sc lc fa fb ad bd c gp mo (zu (zu (zu V 0 k (nI e0)) 1 k (nI (zln c (zbr V) k e0))) 5 (c 1 k) (nI (e0 + zln c (zbr V) k e0)))) H) ({ frames := 1, cells := 0, slots := 0, locals := 21 } : Room)) (F0 m 22 ls [.int (nI (zln c (zbr V) k e0)), .ref (ad k)]) := by
    intro locs hS
    refine zs_put_length (V := (zu V 0 k (nI e0))) E hK hP hD hS hk w_71 (fun _ h9 => h9) d_BL_tellStatement_22 (fun H locs hw hS => ?_)
    obtain ⟨hP, hD⟩ := id hw
    refine lv_aload_n hx hb d_BL_tellStatement_25 rfl (lv_at hl 0 rfl) ?_
    refine va_get (D := D) (ci := 4) (v := .ref o.2.2.2) (C := "BranchLayout") (T := T_BL) (N := 5) hx hb hts in_BL hown hK.1 hP 0 (zb_x rfl) rfl 2 (by decide) (hts _ w_25) (fun _ h9 => h9) rfl d_BL_tellStatement_26 ?_
    refine lv_aload_n hx hb d_BL_tellStatement_29 rfl (lv_at hl 1 rfl) ?_
    refine zs_get_section (V := (zu (zu V 0 k (nI e0)) 1 k (nI (zln c (zbr V) k e0)))) E hK hP hk w_76 (u_same (hts _ w_77)) d_BL_tellStatement_30 ?_
    refine lv_dup2_11 hx hb d_BL_tellStatement_33 rfl rfl ?_
    refine va_iald hx hb hK.1 hP 3 0 (zb_x rfl) rfl hin4 d_BL_tellStatement_34 ?_
    rw [nI_clamp (show c 1 k < 2 ^ 31 by omega), zu_ne (show (5 : Nat) ≠ 1 by decide), zu_ne (show (5 : Nat) ≠ 0 by decide), h5]
    refine lv_aload_n hx hb d_BL_tellStatement_35 rfl (lv_at hl 1 rfl) ?_
    refine zs_get_length (V := (zu (zu V 0 k (nI e0)) 1 k (nI (zln c (zbr V) k e0)))) E hK hP hk w_71 (fun _ h9 => h9) d_BL_tellStatement_36 ?_
    rw [zu_at]
    refine lv_iadd hx hb d_BL_tellStatement_39 ?_
    rw [nI_add]
    refine va_iast hx hb hK.1 hP hD hS 3 0 (zb_x rfl) rfl hin4 d_BL_tellStatement_40 (fun H locs hP hD hS => ?_)
    rw [nI_clamp (show c 1 k < 2 ^ 31 by omega), zb_set5] at hP hD
    refine zrv E d_BL_tellStatement_41 hS (Nat.le_of_ble_eq_true rfl) (Nat.le_of_ble_eq_true rfl) ?_
    exact ⟨rfl, hP, hD⟩
  by_cases h2k : c 0 k = 2
  · skip
    have hc := zc_Br (o := o) (cs := cs) (lc := lc) (fa := fa) (fb := fb) (ad := ad) (bd := bd) (gp := gp) (mo := mo) (V := zu V 0 k (nI e0)) hk h2k
    refine zcU [.int (nI e0)] [.ref (ad k)] E (t_Br_lengthFrom l D cs A o sc lc fa fb ad bd c gp mo (zu V 0 k (nI e0)) k hk h2k hv1 e0 he _ hw) d_BL_tellStatement_19 (va_cwA (C := "BranchLayout$Branch") (owner := "BranchLayout$Statement") (x := ⟨"BranchLayout$Statement", "lengthFrom", "(I)I"⟩) 1 hts (zwU w_211 w_213 w_217 w_218 w_9 (zcons w_219)) rfl rfl rfl hK.2.2.2.2.1 ⟨by decide, by decide, (by decide +kernel : Option.map (fun d => d.parameters.length) (parseMethodDescriptor "(I)I") = some 1)⟩ ⟨(Nat.le_of_ble_eq_true rfl), (Nat.le_of_ble_eq_true rfl)⟩) ⟨(Nat.le_of_ble_eq_true rfl), (Nat.le_of_ble_eq_true rfl)⟩ rfl (Nat.le_of_ble_eq_true rfl) hl.1 (zrec hK hP rfl hc) hK rfl hS (fun _ h => h.elim) (zki fun r H2 locs2 hq _ _ hS2 => ?_)
    obtain ⟨rfl, rfl⟩ := hq
    rw [ebr]
    exact go _ hS2
  · skip
    by_cases h1k : c 0 k = 1
    · skip
      have hc := zc_Al (o := o) (cs := cs) (lc := lc) (fa := fa) (fb := fb) (ad := ad) (bd := bd) (gp := gp) (mo := mo) (V := zu V 0 k (nI e0)) hk h1k
      refine zcU [.int (nI e0)] [.ref (ad k)] E (t_Al_lengthFrom l D cs A o sc lc fa fb ad bd c gp mo (zu V 0 k (nI e0)) k hk h1k (hg4 h1k) e0 he _ hw) d_BL_tellStatement_19 (va_cwA (C := "BranchLayout$Alignment") (owner := "BranchLayout$Statement") (x := ⟨"BranchLayout$Statement", "lengthFrom", "(I)I"⟩) 1 hts (zwU w_211 w_213 w_214 w_215 w_8 (zcons w_216)) rfl rfl rfl hK.2.2.2.2.1 ⟨by decide, by decide, (by decide +kernel : Option.map (fun d => d.parameters.length) (parseMethodDescriptor "(I)I") = some 1)⟩ ⟨(Nat.le_of_ble_eq_true rfl), (Nat.le_of_ble_eq_true rfl)⟩) ⟨(Nat.le_of_ble_eq_true rfl), (Nat.le_of_ble_eq_true rfl)⟩ rfl (Nat.le_of_ble_eq_true rfl) hl.1 (zrec hK hP rfl hc) hK rfl hS (fun _ h => h.elim) (zki fun r H2 locs2 hq _ _ hS2 => ?_)
      obtain ⟨rfl, rfl⟩ := hq
      rw [ebr]
      exact go _ hS2
    · skip
      have hc := zc_By (o := o) (cs := cs) (lc := lc) (fa := fa) (fb := fb) (ad := ad) (bd := bd) (gp := gp) (mo := mo) (V := zu V 0 k (nI e0)) hk h2k h1k
      refine zcU [.int (nI e0)] [.ref (ad k)] E (t_By_lengthFrom l D cs A o sc lc fa fb ad bd c gp mo (zu V 0 k (nI e0)) k hk h2k h1k e0 he _ hw) d_BL_tellStatement_19 (va_cwA (C := "BranchLayout$Bytes") (owner := "BranchLayout$Statement") (x := ⟨"BranchLayout$Statement", "lengthFrom", "(I)I"⟩) 1 hts (zwU w_211 w_213 w_220 w_221 w_6 (zcons w_222)) rfl rfl rfl hK.2.2.2.2.1 ⟨by decide, by decide, (by decide +kernel : Option.map (fun d => d.parameters.length) (parseMethodDescriptor "(I)I") = some 1)⟩ ⟨(Nat.le_of_ble_eq_true rfl), (Nat.le_of_ble_eq_true rfl)⟩) ⟨(Nat.le_of_ble_eq_true rfl), (Nat.le_of_ble_eq_true rfl)⟩ rfl (Nat.le_of_ble_eq_true rfl) hl.1 (zrec hK hP rfl hc) hK rfl hS (fun _ h => h.elim) (zki fun r H2 locs2 hq _ _ hS2 => ?_)
      obtain ⟨rfl, rfl⟩ := hq
      rw [ebr]
      exact go _ hS2
