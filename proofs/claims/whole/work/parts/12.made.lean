set_option maxHeartbeats 4000000 in
set_option maxRecDepth 100000 in
theorem t_Pl_init_Al (l : Launch) (D : va_G) (cs : ClassId × ClassId × ClassId × ClassId) (b : Nat) (x : Int32) : zMet l D cs y_Pl_init c_Pl_init 2 none ({ frames := 1, cells := 0, slots := 0, locals := 12 } : Room) [.ref b, .int x] (zH D (fun q => q = b) [(b, .inr (0, [.int 0, .int 0, .int 0, .int 0]))]) (fun q => q = b) (zqv (zH D (fun q => q = b) [(b, .inr (0, [.int 0, .int x, .int 0, .int 0]))])) := by
  refine zmk (by decide) (Nat.le_of_ble_eq_true rfl) ?_
  intro p e s m below meth cd ls E hK hP0 hl
  have hS : va_S (fun q => q = b) s.heap s.heap [] := va_S.rf
  obtain ⟨hP, hD⟩ := hP0
  obtain ⟨hx, hb, hr, hts, hown, hlocks, hml, hin⟩ := id E
  have hl : lv_has ls 2 [(0, .ref b), (1, .int x)] := hl
  refine lv_aload_n hx hb d_Pl_init_0 rfl (lv_at hl 0 rfl) ?_
  refine W.objInit hx hb hown (hts _ w_66) (hts _ w_17) (hts _ w_18) rfl (by rw [hml]; exact hl.1) rfl d_Pl_init_1 (Nat.le_of_ble_eq_true rfl) (Nat.le_of_ble_eq_true rfl) ?_
  refine W.eq (g2 := F0 m 4 ls []) rfl ?_
  refine lv_aload_n hx hb d_Pl_init_4 rfl (lv_at hl 0 rfl) ?_
  refine lv_iload_n hx hb d_Pl_init_5 rfl (lv_at hl 1 rfl) ?_
  refine va_putF (D := D) (ci := 0) (v := .int x) (ty := .int) (C := "BranchLayout$Alignment") (T := T_Al) (N := 4) hx hb hts in_Al ty_Al ok_Al nm_Al hown hK.1 hP hD hS 0 rfl rfl 1 (by decide) (hts _ w_72) (fun _ h9 => h9) rfl hin rfl (by decide +kernel) rfl rfl (Nat.le_of_ble_eq_true rfl) d_Pl_init_6 (fun H locs hP hD hS => ?_)
  have hP : va_P D zcl [(b, .inr (0, [.int 0, .int x, .int 0, .int 0]))] H := hP
  have hD : va_D (fun q => q = b) [(b, .inr (0, [.int 0, .int x, .int 0, .int 0]))] := hD
  refine zrv E d_Pl_init_9 hS (Nat.le_of_ble_eq_true rfl) (Nat.le_of_ble_eq_true rfl) ?_
  exact ⟨rfl, hP, hD⟩
set_option maxHeartbeats 4000000 in
set_option maxRecDepth 100000 in
theorem t_St_init_Al (l : Launch) (D : va_G) (cs : ClassId × ClassId × ClassId × ClassId) (b : Nat) (x : Int32) : zMet l D cs y_St_init c_St_init 2 none ({ frames := 2, cells := 0, slots := 0, locals := 33 } : Room) [.ref b, .int x] (zH D (fun q => q = b) [(b, .inr (0, [.int 0, .int 0, .int 0, .int 0]))]) (fun q => q = b) (zqv (zH D (fun q => q = b) [(b, .inr (0, [.int 0, .int x, .int 0, .int 0]))])) := by
  refine zmk (by decide) (Nat.le_of_ble_eq_true rfl) ?_
  intro p e s m below meth cd ls E hK hP0 hl
  have hS : va_S (fun q => q = b) s.heap s.heap [] := va_S.rf
  obtain ⟨hx, hb, hr, hts, hown, hlocks, hml, hin⟩ := id E
  have hl : lv_has ls 2 [(0, .ref b), (1, .int x)] := hl
  refine lv_aload_n hx hb d_St_init_0 rfl (lv_at hl 0 rfl) ?_
  refine lv_iload_n hx hb d_St_init_1 rfl (lv_at hl 1 rfl) ?_
  refine zcI [.int x] [] E (t_Pl_init_Al l D cs b x) d_St_init_2 w_63 w_64 w_4 w_65 rfl ⟨by decide +kernel, by decide +kernel, (by decide +kernel : Option.map (fun d => d.parameters.length) (parseMethodDescriptor "(I)V") = some 1)⟩ ⟨(Nat.le_of_ble_eq_true rfl), (Nat.le_of_ble_eq_true rfl)⟩ ⟨(Nat.le_of_ble_eq_true rfl), (Nat.le_of_ble_eq_true rfl)⟩ rfl (Nat.le_of_ble_eq_true rfl) hl.1 hK hP0 hS (fun _ h => h) (zkv fun H locs hq _ _ hS => ?_)
  refine zrv E d_St_init_5 hS (Nat.le_of_ble_eq_true rfl) (Nat.le_of_ble_eq_true rfl) ?_
  exact ⟨rfl, hq⟩
set_option maxHeartbeats 4000000 in
set_option maxRecDepth 100000 in
theorem t_Al_init (l : Launch) (D : va_G) (cs : ClassId × ClassId × ClassId × ClassId) (b : Nat) (x n : Int32) : zMet l D cs y_Al_init c_Al_init 3 none ({ frames := 3, cells := 0, slots := 0, locals := 54 } : Room) [.ref b, .int x, .int n] (zH D (fun q => q = b) [(b, .inr (0, [.int 0, .int 0, .int 0, .int 0]))]) (fun q => q = b) (zqv (zH D (fun q => q = b) [(b, .inr (0, [.int 0, .int x, .int 0, .int n]))])) := by
  refine zmk (by decide) (Nat.le_of_ble_eq_true rfl) ?_
  intro p e s m below meth cd ls E hK hP0 hl
  have hS : va_S (fun q => q = b) s.heap s.heap [] := va_S.rf
  obtain ⟨hx, hb, hr, hts, hown, hlocks, hml, hin⟩ := id E
  have hl : lv_has ls 3 [(0, .ref b), (1, .int x), (2, .int n)] := hl
  refine lv_aload_n hx hb d_Al_init_0 rfl (lv_at hl 0 rfl) ?_
  refine lv_iload_n hx hb d_Al_init_1 rfl (lv_at hl 1 rfl) ?_
  refine zcI [.int x] [] E (t_St_init_Al l D cs b x) d_Al_init_2 w_119 w_61 w_5 w_62 rfl ⟨by decide +kernel, by decide +kernel, (by decide +kernel : Option.map (fun d => d.parameters.length) (parseMethodDescriptor "(I)V") = some 1)⟩ ⟨(Nat.le_of_ble_eq_true rfl), (Nat.le_of_ble_eq_true rfl)⟩ ⟨(Nat.le_of_ble_eq_true rfl), (Nat.le_of_ble_eq_true rfl)⟩ rfl (Nat.le_of_ble_eq_true rfl) hl.1 hK hP0 hS (fun _ h => h) (zkv fun H locs hq _ _ hS => ?_)
  obtain ⟨hP, hD⟩ := hq
  refine lv_aload_n hx hb d_Al_init_5 rfl (lv_at hl 0 rfl) ?_
  refine lv_iload_n hx hb d_Al_init_6 rfl (lv_at hl 2 rfl) ?_
  refine va_putF (D := D) (ci := 0) (v := .int n) (ty := .int) (C := "BranchLayout$Alignment") (T := T_Al) (N := 4) hx hb hts in_Al ty_Al ok_Al nm_Al hown hK.1 hP hD hS 0 rfl rfl 3 (by decide) (hts _ w_120) (fun _ h9 => h9) rfl hin rfl (by decide +kernel) rfl rfl (Nat.le_of_ble_eq_true rfl) d_Al_init_7 (fun H locs hP hD hS => ?_)
  have hP : va_P D zcl [(b, .inr (0, [.int 0, .int x, .int 0, .int n]))] H := hP
  have hD : va_D (fun q => q = b) [(b, .inr (0, [.int 0, .int x, .int 0, .int n]))] := hD
  refine zrv E d_Al_init_10 hS (Nat.le_of_ble_eq_true rfl) (Nat.le_of_ble_eq_true rfl) ?_
  exact ⟨rfl, hP, hD⟩
set_option maxHeartbeats 4000000 in
set_option maxRecDepth 100000 in
theorem t_Pl_init_Br (l : Launch) (D : va_G) (cs : ClassId × ClassId × ClassId × ClassId) (b : Nat) (x : Int32) : zMet l D cs y_Pl_init c_Pl_init 2 none ({ frames := 1, cells := 0, slots := 0, locals := 12 } : Room) [.ref b, .int x] (zH D (fun q => q = b) [(b, .inr (1, [.int 0, .int 0, .int 0, .int 0, .null, .int 0, .int 0, .int 0]))]) (fun q => q = b) (zqv (zH D (fun q => q = b) [(b, .inr (1, [.int 0, .int x, .int 0, .int 0, .null, .int 0, .int 0, .int 0]))])) := by
  refine zmk (by decide) (Nat.le_of_ble_eq_true rfl) ?_
  intro p e s m below meth cd ls E hK hP0 hl
  have hS : va_S (fun q => q = b) s.heap s.heap [] := va_S.rf
  obtain ⟨hP, hD⟩ := hP0
  obtain ⟨hx, hb, hr, hts, hown, hlocks, hml, hin⟩ := id E
  have hl : lv_has ls 2 [(0, .ref b), (1, .int x)] := hl
  refine lv_aload_n hx hb d_Pl_init_0 rfl (lv_at hl 0 rfl) ?_
  refine W.objInit hx hb hown (hts _ w_66) (hts _ w_17) (hts _ w_18) rfl (by rw [hml]; exact hl.1) rfl d_Pl_init_1 (Nat.le_of_ble_eq_true rfl) (Nat.le_of_ble_eq_true rfl) ?_
  refine W.eq (g2 := F0 m 4 ls []) rfl ?_
  refine lv_aload_n hx hb d_Pl_init_4 rfl (lv_at hl 0 rfl) ?_
  refine lv_iload_n hx hb d_Pl_init_5 rfl (lv_at hl 1 rfl) ?_
  refine va_putF (D := D) (ci := 1) (v := .int x) (ty := .int) (C := "BranchLayout$Branch") (T := T_Br) (N := 8) hx hb hts in_Br ty_Br ok_Br nm_Br hown hK.1 hP hD hS 0 rfl rfl 1 (by decide) (hts _ w_72) (fun _ h9 => h9) rfl hin rfl (by decide +kernel) rfl rfl (Nat.le_of_ble_eq_true rfl) d_Pl_init_6 (fun H locs hP hD hS => ?_)
  have hP : va_P D zcl [(b, .inr (1, [.int 0, .int x, .int 0, .int 0, .null, .int 0, .int 0, .int 0]))] H := hP
  have hD : va_D (fun q => q = b) [(b, .inr (1, [.int 0, .int x, .int 0, .int 0, .null, .int 0, .int 0, .int 0]))] := hD
  refine zrv E d_Pl_init_9 hS (Nat.le_of_ble_eq_true rfl) (Nat.le_of_ble_eq_true rfl) ?_
  exact ⟨rfl, hP, hD⟩
set_option maxHeartbeats 4000000 in
set_option maxRecDepth 100000 in
theorem t_St_init_Br (l : Launch) (D : va_G) (cs : ClassId × ClassId × ClassId × ClassId) (b : Nat) (x : Int32) : zMet l D cs y_St_init c_St_init 2 none ({ frames := 2, cells := 0, slots := 0, locals := 33 } : Room) [.ref b, .int x] (zH D (fun q => q = b) [(b, .inr (1, [.int 0, .int 0, .int 0, .int 0, .null, .int 0, .int 0, .int 0]))]) (fun q => q = b) (zqv (zH D (fun q => q = b) [(b, .inr (1, [.int 0, .int x, .int 0, .int 0, .null, .int 0, .int 0, .int 0]))])) := by
  refine zmk (by decide) (Nat.le_of_ble_eq_true rfl) ?_
  intro p e s m below meth cd ls E hK hP0 hl
  have hS : va_S (fun q => q = b) s.heap s.heap [] := va_S.rf
  obtain ⟨hx, hb, hr, hts, hown, hlocks, hml, hin⟩ := id E
  have hl : lv_has ls 2 [(0, .ref b), (1, .int x)] := hl
  refine lv_aload_n hx hb d_St_init_0 rfl (lv_at hl 0 rfl) ?_
  refine lv_iload_n hx hb d_St_init_1 rfl (lv_at hl 1 rfl) ?_
  refine zcI [.int x] [] E (t_Pl_init_Br l D cs b x) d_St_init_2 w_63 w_64 w_4 w_65 rfl ⟨by decide +kernel, by decide +kernel, (by decide +kernel : Option.map (fun d => d.parameters.length) (parseMethodDescriptor "(I)V") = some 1)⟩ ⟨(Nat.le_of_ble_eq_true rfl), (Nat.le_of_ble_eq_true rfl)⟩ ⟨(Nat.le_of_ble_eq_true rfl), (Nat.le_of_ble_eq_true rfl)⟩ rfl (Nat.le_of_ble_eq_true rfl) hl.1 hK hP0 hS (fun _ h => h) (zkv fun H locs hq _ _ hS => ?_)
  refine zrv E d_St_init_5 hS (Nat.le_of_ble_eq_true rfl) (Nat.le_of_ble_eq_true rfl) ?_
  exact ⟨rfl, hq⟩
set_option maxHeartbeats 4000000 in
set_option maxRecDepth 100000 in
theorem t_Br_init (l : Launch) (D : va_G) (cs : ClassId × ClassId × ClassId × ClassId) (b : Nat) (x n : Int32) : zMet l D cs y_Br_init c_Br_init 3 none ({ frames := 3, cells := 0, slots := 0, locals := 54 } : Room) [.ref b, .int x, .int n] (zH D (fun q => q = b) [(b, .inr (1, [.int 0, .int 0, .int 0, .int 0, .null, .int 0, .int 0, .int 0]))]) (fun q => q = b) (zqv (zH D (fun q => q = b) [(b, .inr (1, [.int 0, .int x, .int 0, .int n, .null, .int 0, .int 0, .int 0]))])) := by
  refine zmk (by decide) (Nat.le_of_ble_eq_true rfl) ?_
  intro p e s m below meth cd ls E hK hP0 hl
  have hS : va_S (fun q => q = b) s.heap s.heap [] := va_S.rf
  obtain ⟨hx, hb, hr, hts, hown, hlocks, hml, hin⟩ := id E
  have hl : lv_has ls 3 [(0, .ref b), (1, .int x), (2, .int n)] := hl
  refine lv_aload_n hx hb d_Br_init_0 rfl (lv_at hl 0 rfl) ?_
  refine lv_iload_n hx hb d_Br_init_1 rfl (lv_at hl 1 rfl) ?_
  refine zcI [.int x] [] E (t_St_init_Br l D cs b x) d_Br_init_2 w_136 w_61 w_5 w_62 rfl ⟨by decide +kernel, by decide +kernel, (by decide +kernel : Option.map (fun d => d.parameters.length) (parseMethodDescriptor "(I)V") = some 1)⟩ ⟨(Nat.le_of_ble_eq_true rfl), (Nat.le_of_ble_eq_true rfl)⟩ ⟨(Nat.le_of_ble_eq_true rfl), (Nat.le_of_ble_eq_true rfl)⟩ rfl (Nat.le_of_ble_eq_true rfl) hl.1 hK hP0 hS (fun _ h => h) (zkv fun H locs hq _ _ hS => ?_)
  obtain ⟨hP, hD⟩ := hq
  refine lv_aload_n hx hb d_Br_init_5 rfl (lv_at hl 0 rfl) ?_
  refine lv_iload_n hx hb d_Br_init_6 rfl (lv_at hl 2 rfl) ?_
  refine va_putF (D := D) (ci := 1) (v := .int n) (ty := .int) (C := "BranchLayout$Branch") (T := T_Br) (N := 8) hx hb hts in_Br ty_Br ok_Br nm_Br hown hK.1 hP hD hS 0 rfl rfl 3 (by decide) (hts _ w_137) (fun _ h9 => h9) rfl hin rfl (by decide +kernel) rfl rfl (Nat.le_of_ble_eq_true rfl) d_Br_init_7 (fun H locs hP hD hS => ?_)
  have hP : va_P D zcl [(b, .inr (1, [.int 0, .int x, .int 0, .int n, .null, .int 0, .int 0, .int 0]))] H := hP
  have hD : va_D (fun q => q = b) [(b, .inr (1, [.int 0, .int x, .int 0, .int n, .null, .int 0, .int 0, .int 0]))] := hD
  refine zrv E d_Br_init_10 hS (Nat.le_of_ble_eq_true rfl) (Nat.le_of_ble_eq_true rfl) ?_
  exact ⟨rfl, hP, hD⟩
set_option maxHeartbeats 4000000 in
set_option maxRecDepth 100000 in
theorem t_Pl_init_By (l : Launch) (D : va_G) (cs : ClassId × ClassId × ClassId × ClassId) (b : Nat) (x : Int32) : zMet l D cs y_Pl_init c_Pl_init 2 none ({ frames := 1, cells := 0, slots := 0, locals := 12 } : Room) [.ref b, .int x] (zH D (fun q => q = b) [(b, .inr (2, [.int 0, .int 0, .int 0, .int 0]))]) (fun q => q = b) (zqv (zH D (fun q => q = b) [(b, .inr (2, [.int 0, .int x, .int 0, .int 0]))])) := by
  refine zmk (by decide) (Nat.le_of_ble_eq_true rfl) ?_
  intro p e s m below meth cd ls E hK hP0 hl
  have hS : va_S (fun q => q = b) s.heap s.heap [] := va_S.rf
  obtain ⟨hP, hD⟩ := hP0
  obtain ⟨hx, hb, hr, hts, hown, hlocks, hml, hin⟩ := id E
  have hl : lv_has ls 2 [(0, .ref b), (1, .int x)] := hl
  refine lv_aload_n hx hb d_Pl_init_0 rfl (lv_at hl 0 rfl) ?_
  refine W.objInit hx hb hown (hts _ w_66) (hts _ w_17) (hts _ w_18) rfl (by rw [hml]; exact hl.1) rfl d_Pl_init_1 (Nat.le_of_ble_eq_true rfl) (Nat.le_of_ble_eq_true rfl) ?_
  refine W.eq (g2 := F0 m 4 ls []) rfl ?_
  refine lv_aload_n hx hb d_Pl_init_4 rfl (lv_at hl 0 rfl) ?_
  refine lv_iload_n hx hb d_Pl_init_5 rfl (lv_at hl 1 rfl) ?_
  refine va_putF (D := D) (ci := 2) (v := .int x) (ty := .int) (C := "BranchLayout$Bytes") (T := T_By) (N := 4) hx hb hts in_By ty_By ok_By nm_By hown hK.1 hP hD hS 0 rfl rfl 1 (by decide) (hts _ w_72) (fun _ h9 => h9) rfl hin rfl (by decide +kernel) rfl rfl (Nat.le_of_ble_eq_true rfl) d_Pl_init_6 (fun H locs hP hD hS => ?_)
  have hP : va_P D zcl [(b, .inr (2, [.int 0, .int x, .int 0, .int 0]))] H := hP
  have hD : va_D (fun q => q = b) [(b, .inr (2, [.int 0, .int x, .int 0, .int 0]))] := hD
  refine zrv E d_Pl_init_9 hS (Nat.le_of_ble_eq_true rfl) (Nat.le_of_ble_eq_true rfl) ?_
  exact ⟨rfl, hP, hD⟩
set_option maxHeartbeats 4000000 in
set_option maxRecDepth 100000 in
theorem t_St_init_By (l : Launch) (D : va_G) (cs : ClassId × ClassId × ClassId × ClassId) (b : Nat) (x : Int32) : zMet l D cs y_St_init c_St_init 2 none ({ frames := 2, cells := 0, slots := 0, locals := 33 } : Room) [.ref b, .int x] (zH D (fun q => q = b) [(b, .inr (2, [.int 0, .int 0, .int 0, .int 0]))]) (fun q => q = b) (zqv (zH D (fun q => q = b) [(b, .inr (2, [.int 0, .int x, .int 0, .int 0]))])) := by
  refine zmk (by decide) (Nat.le_of_ble_eq_true rfl) ?_
  intro p e s m below meth cd ls E hK hP0 hl
  have hS : va_S (fun q => q = b) s.heap s.heap [] := va_S.rf
  obtain ⟨hx, hb, hr, hts, hown, hlocks, hml, hin⟩ := id E
  have hl : lv_has ls 2 [(0, .ref b), (1, .int x)] := hl
  refine lv_aload_n hx hb d_St_init_0 rfl (lv_at hl 0 rfl) ?_
  refine lv_iload_n hx hb d_St_init_1 rfl (lv_at hl 1 rfl) ?_
  refine zcI [.int x] [] E (t_Pl_init_By l D cs b x) d_St_init_2 w_63 w_64 w_4 w_65 rfl ⟨by decide +kernel, by decide +kernel, (by decide +kernel : Option.map (fun d => d.parameters.length) (parseMethodDescriptor "(I)V") = some 1)⟩ ⟨(Nat.le_of_ble_eq_true rfl), (Nat.le_of_ble_eq_true rfl)⟩ ⟨(Nat.le_of_ble_eq_true rfl), (Nat.le_of_ble_eq_true rfl)⟩ rfl (Nat.le_of_ble_eq_true rfl) hl.1 hK hP0 hS (fun _ h => h) (zkv fun H locs hq _ _ hS => ?_)
  refine zrv E d_St_init_5 hS (Nat.le_of_ble_eq_true rfl) (Nat.le_of_ble_eq_true rfl) ?_
  exact ⟨rfl, hq⟩
set_option maxHeartbeats 4000000 in
set_option maxRecDepth 100000 in
theorem t_By_init (l : Launch) (D : va_G) (cs : ClassId × ClassId × ClassId × ClassId) (b : Nat) (x n : Int32) : zMet l D cs y_By_init c_By_init 3 none ({ frames := 3, cells := 0, slots := 0, locals := 54 } : Room) [.ref b, .int x, .int n] (zH D (fun q => q = b) [(b, .inr (2, [.int 0, .int 0, .int 0, .int 0]))]) (fun q => q = b) (zqv (zH D (fun q => q = b) [(b, .inr (2, [.int 0, .int x, .int 0, .int n]))])) := by
  refine zmk (by decide) (Nat.le_of_ble_eq_true rfl) ?_
  intro p e s m below meth cd ls E hK hP0 hl
  have hS : va_S (fun q => q = b) s.heap s.heap [] := va_S.rf
  obtain ⟨hx, hb, hr, hts, hown, hlocks, hml, hin⟩ := id E
  have hl : lv_has ls 3 [(0, .ref b), (1, .int x), (2, .int n)] := hl
  refine lv_aload_n hx hb d_By_init_0 rfl (lv_at hl 0 rfl) ?_
  refine lv_iload_n hx hb d_By_init_1 rfl (lv_at hl 1 rfl) ?_
  refine zcI [.int x] [] E (t_St_init_By l D cs b x) d_By_init_2 w_60 w_61 w_5 w_62 rfl ⟨by decide +kernel, by decide +kernel, (by decide +kernel : Option.map (fun d => d.parameters.length) (parseMethodDescriptor "(I)V") = some 1)⟩ ⟨(Nat.le_of_ble_eq_true rfl), (Nat.le_of_ble_eq_true rfl)⟩ ⟨(Nat.le_of_ble_eq_true rfl), (Nat.le_of_ble_eq_true rfl)⟩ rfl (Nat.le_of_ble_eq_true rfl) hl.1 hK hP0 hS (fun _ h => h) (zkv fun H locs hq _ _ hS => ?_)
  obtain ⟨hP, hD⟩ := hq
  refine lv_aload_n hx hb d_By_init_5 rfl (lv_at hl 0 rfl) ?_
  refine lv_iload_n hx hb d_By_init_6 rfl (lv_at hl 2 rfl) ?_
  refine va_putF (D := D) (ci := 2) (v := .int n) (ty := .int) (C := "BranchLayout$Bytes") (T := T_By) (N := 4) hx hb hts in_By ty_By ok_By nm_By hown hK.1 hP hD hS 0 rfl rfl 3 (by decide) (hts _ w_67) (fun _ h9 => h9) rfl hin rfl (by decide +kernel) rfl rfl (Nat.le_of_ble_eq_true rfl) d_By_init_7 (fun H locs hP hD hS => ?_)
  have hP : va_P D zcl [(b, .inr (2, [.int 0, .int x, .int 0, .int n]))] H := hP
  have hD : va_D (fun q => q = b) [(b, .inr (2, [.int 0, .int x, .int 0, .int n]))] := hD
  refine zrv E d_By_init_10 hS (Nat.le_of_ble_eq_true rfl) (Nat.le_of_ble_eq_true rfl) ?_
  exact ⟨rfl, hP, hD⟩
set_option maxHeartbeats 4000000 in
set_option maxRecDepth 100000 in
theorem t_Pl_init_La (l : Launch) (D : va_G) (cs : ClassId × ClassId × ClassId × ClassId) (b : Nat) (x : Int32) : zMet l D cs y_Pl_init c_Pl_init 2 none ({ frames := 1, cells := 0, slots := 0, locals := 12 } : Room) [.ref b, .int x] (zH D (fun q => q = b) [(b, .inr (3, [.int 0, .int 0, .int 0]))]) (fun q => q = b) (zqv (zH D (fun q => q = b) [(b, .inr (3, [.int x, .int 0, .int 0]))])) := by
  refine zmk (by decide) (Nat.le_of_ble_eq_true rfl) ?_
  intro p e s m below meth cd ls E hK hP0 hl
  have hS : va_S (fun q => q = b) s.heap s.heap [] := va_S.rf
  obtain ⟨hP, hD⟩ := hP0
  obtain ⟨hx, hb, hr, hts, hown, hlocks, hml, hin⟩ := id E
  have hl : lv_has ls 2 [(0, .ref b), (1, .int x)] := hl
  refine lv_aload_n hx hb d_Pl_init_0 rfl (lv_at hl 0 rfl) ?_
  refine W.objInit hx hb hown (hts _ w_66) (hts _ w_17) (hts _ w_18) rfl (by rw [hml]; exact hl.1) rfl d_Pl_init_1 (Nat.le_of_ble_eq_true rfl) (Nat.le_of_ble_eq_true rfl) ?_
  refine W.eq (g2 := F0 m 4 ls []) rfl ?_
  refine lv_aload_n hx hb d_Pl_init_4 rfl (lv_at hl 0 rfl) ?_
  refine lv_iload_n hx hb d_Pl_init_5 rfl (lv_at hl 1 rfl) ?_
  refine va_putF (D := D) (ci := 3) (v := .int x) (ty := .int) (C := "BranchLayout$Label") (T := T_La) (N := 3) hx hb hts in_La ty_La ok_La nm_La hown hK.1 hP hD hS 0 rfl rfl 0 (by decide) (hts _ w_72) (fun _ h9 => h9) rfl hin rfl (by decide +kernel) rfl rfl (Nat.le_of_ble_eq_true rfl) d_Pl_init_6 (fun H locs hP hD hS => ?_)
  have hP : va_P D zcl [(b, .inr (3, [.int x, .int 0, .int 0]))] H := hP
  have hD : va_D (fun q => q = b) [(b, .inr (3, [.int x, .int 0, .int 0]))] := hD
  refine zrv E d_Pl_init_9 hS (Nat.le_of_ble_eq_true rfl) (Nat.le_of_ble_eq_true rfl) ?_
  exact ⟨rfl, hP, hD⟩
set_option maxHeartbeats 4000000 in
set_option maxRecDepth 100000 in
theorem t_La_init (l : Launch) (D : va_G) (cs : ClassId × ClassId × ClassId × ClassId) (b : Nat) (x n : Int32) : zMet l D cs y_La_init c_La_init 3 none ({ frames := 2, cells := 0, slots := 0, locals := 33 } : Room) [.ref b, .int x, .int n] (zH D (fun q => q = b) [(b, .inr (3, [.int 0, .int 0, .int 0]))]) (fun q => q = b) (zqv (zH D (fun q => q = b) [(b, .inr (3, [.int x, .int 0, .int n]))])) := by
  refine zmk (by decide) (Nat.le_of_ble_eq_true rfl) ?_
  intro p e s m below meth cd ls E hK hP0 hl
  have hS : va_S (fun q => q = b) s.heap s.heap [] := va_S.rf
  obtain ⟨hx, hb, hr, hts, hown, hlocks, hml, hin⟩ := id E
  have hl : lv_has ls 3 [(0, .ref b), (1, .int x), (2, .int n)] := hl
  refine lv_aload_n hx hb d_La_init_0 rfl (lv_at hl 0 rfl) ?_
  refine lv_iload_n hx hb d_La_init_1 rfl (lv_at hl 1 rfl) ?_
  refine zcI [.int x] [] E (t_Pl_init_La l D cs b x) d_La_init_2 w_167 w_64 w_4 w_65 rfl ⟨by decide +kernel, by decide +kernel, (by decide +kernel : Option.map (fun d => d.parameters.length) (parseMethodDescriptor "(I)V") = some 1)⟩ ⟨(Nat.le_of_ble_eq_true rfl), (Nat.le_of_ble_eq_true rfl)⟩ ⟨(Nat.le_of_ble_eq_true rfl), (Nat.le_of_ble_eq_true rfl)⟩ rfl (Nat.le_of_ble_eq_true rfl) hl.1 hK hP0 hS (fun _ h => h) (zkv fun H locs hq _ _ hS => ?_)
  obtain ⟨hP, hD⟩ := hq
  refine lv_aload_n hx hb d_La_init_5 rfl (lv_at hl 0 rfl) ?_
  refine lv_iload_n hx hb d_La_init_6 rfl (lv_at hl 2 rfl) ?_
  refine va_putF (D := D) (ci := 3) (v := .int n) (ty := .int) (C := "BranchLayout$Label") (T := T_La) (N := 3) hx hb hts in_La ty_La ok_La nm_La hown hK.1 hP hD hS 0 rfl rfl 2 (by decide) (hts _ w_168) (fun _ h9 => h9) rfl hin rfl (by decide +kernel) rfl rfl (Nat.le_of_ble_eq_true rfl) d_La_init_7 (fun H locs hP hD hS => ?_)
  have hP : va_P D zcl [(b, .inr (3, [.int x, .int 0, .int n]))] H := hP
  have hD : va_D (fun q => q = b) [(b, .inr (3, [.int x, .int 0, .int n]))] := hD
  refine zrv E d_La_init_10 hS (Nat.le_of_ble_eq_true rfl) (Nat.le_of_ble_eq_true rfl) ?_
  exact ⟨rfl, hP, hD⟩
