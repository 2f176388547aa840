theorem zs_inst_no {p : Program} {l : Launch} {e : Env} {R : Room} {s : State} {m : MethodId} {av : Array Value} {below : List Frame} {meth : Method} {cd : Code} {H : Heap} {locs : List Loc} {cells slots : Nat} {Q : State → Prop} {own nm : String} {cc : ByteArray} {nL : Nat} {r : Option FieldType} {pc : Nat} {ls : Array Slot} {rest : List Value} {D : va_G} {o : Nat × Nat × Nat × Nat} {cs : ClassId × ClassId × ClassId × ClassId} {sc lc k : Nat} {fa fb : Nat → Option Nat} {ad bd : Nat → Nat} {c : Nat → Nat → Nat} {gp mo : Nat → Int32} {V : Nat → Nat → Int32} (E : zE p s m meth cd av own nm cc nL r) (hK : zK D cs s) (hP : va_P D zcl (zB o cs sc lc fa fb ad bd c gp mo V) H) (hk : k < sc) (h2k : ¬ c 0 k = 2) {idx : Nat} (hlink : Cond.classLink own idx "BranchLayout$Branch" ∈ zt) (hdg : decode cc pc = .ok (.instanceof idx, 3))
    (kk : W p l e R s m av below meth cd H locs cells slots Q (F0 m (pc + 3) ls (.int 0 :: rest))) : W p l e R s m av below meth cd H locs cells slots Q (F0 m pc ls (.ref (ad k) :: rest)) := by
  obtain ⟨hx, hb, hr, hts, hown, hlocks, hml, hin⟩ := E
  by_cases h1k : c 0 k = 1
  · exact va_instNo hx hb hown (hts _ hlink) (C := "BranchLayout$Alignment") hK.2.2.2.2.2.2.2.2.2.2.2.1 (zrec hK hP rfl (zc_Al hk h1k)) hdg kk
  · exact va_instNo hx hb hown (hts _ hlink) (C := "BranchLayout$Bytes") hK.2.2.2.2.2.2.2.2.2.2.2.2 (zrec hK hP rfl (zc_By hk h2k h1k)) hdg kk
theorem zs_inst_yes {p : Program} {l : Launch} {e : Env} {R : Room} {s : State} {m : MethodId} {av : Array Value} {below : List Frame} {meth : Method} {cd : Code} {H : Heap} {locs : List Loc} {cells slots : Nat} {Q : State → Prop} {own nm : String} {cc : ByteArray} {nL : Nat} {r : Option FieldType} {pc : Nat} {ls : Array Slot} {rest : List Value} {D : va_G} {o : Nat × Nat × Nat × Nat} {cs : ClassId × ClassId × ClassId × ClassId} {sc lc k : Nat} {fa fb : Nat → Option Nat} {ad bd : Nat → Nat} {c : Nat → Nat → Nat} {gp mo : Nat → Int32} {V : Nat → Nat → Int32} (E : zE p s m meth cd av own nm cc nL r) (hK : zK D cs s) (hP : va_P D zcl (zB o cs sc lc fa fb ad bd c gp mo V) H) (hk : k < sc) (h2k : c 0 k = 2) {idx : Nat} (hlink : Cond.classLink own idx "BranchLayout$Branch" ∈ zt) (hdg : decode cc pc = .ok (.instanceof idx, 3))
    (kk : W p l e R s m av below meth cd H locs cells slots Q (F0 m (pc + 3) ls (.int 1 :: rest))) : W p l e R s m av below meth cd H locs cells slots Q (F0 m pc ls (.ref (ad k) :: rest)) := by
  obtain ⟨hx, hb, hr, hts, hown, hlocks, hml, hin⟩ := E
  exact va_instY hx hb hown (hts _ hlink) (C := "BranchLayout$Branch") hK.2.2.2.2.2.1 (zrec hK hP rfl (zc_Br hk h2k)) hdg kk
theorem zs_cast {p : Program} {l : Launch} {e : Env} {R : Room} {s : State} {m : MethodId} {av : Array Value} {below : List Frame} {meth : Method} {cd : Code} {H : Heap} {locs : List Loc} {cells slots : Nat} {Q : State → Prop} {own nm : String} {cc : ByteArray} {nL : Nat} {r : Option FieldType} {pc : Nat} {ls : Array Slot} {rest : List Value} {D : va_G} {o : Nat × Nat × Nat × Nat} {cs : ClassId × ClassId × ClassId × ClassId} {sc lc k : Nat} {fa fb : Nat → Option Nat} {ad bd : Nat → Nat} {c : Nat → Nat → Nat} {gp mo : Nat → Int32} {V : Nat → Nat → Int32} (E : zE p s m meth cd av own nm cc nL r) (hK : zK D cs s) (hP : va_P D zcl (zB o cs sc lc fa fb ad bd c gp mo V) H) (hk : k < sc) (h2k : c 0 k = 2) {idx : Nat} (hlink : Cond.classLink own idx "BranchLayout$Branch" ∈ zt) (hdg : decode cc pc = .ok (.checkcast idx, 3))
    (kk : W p l e R s m av below meth cd H locs cells slots Q (F0 m (pc + 3) ls (.ref (ad k) :: rest))) : W p l e R s m av below meth cd H locs cells slots Q (F0 m pc ls (.ref (ad k) :: rest)) := by
  obtain ⟨hx, hb, hr, hts, hown, hlocks, hml, hin⟩ := E
  exact va_castY hx hb hown (hts _ hlink) (C := "BranchLayout$Branch") hK.2.2.2.2.2.1 (zrec hK hP rfl (zc_Br hk h2k)) hdg kk
set_option maxHeartbeats 4000000 in
set_option maxRecDepth 100000 in
theorem t_BL_shortenAllThatGo (l : Launch) (D : va_G) (cs : ClassId × ClassId × ClassId × ClassId) (A : Nat → Prop) (o : Nat × Nat × Nat × Nat) (sc lc : Nat) (fa fb : Nat → Option Nat) (ad bd : Nat → Nat) (c : Nat → Nat → Nat) (gp mo : Nat → Int32) (V : Nat → Nat → Int32) (hI : zI sc lc c gp) (hfa : ∀ k, k < sc → fa k = some (ad k)) : zMet l D cs y_BL_shortenAllThatGo c_BL_shortenAllThatGo 4 none ({ frames := 0, cells := 0, slots := 0, locals := 0 } : Room) [.ref o.1] (zH D A (zB o cs sc lc fa fb ad bd c gp mo V)) A (zqv fun H => zH D A (zB o cs sc lc fa fb ad bd c gp mo (zSh c gp V sc)) H) := by
  refine zmk (by decide) (Nat.le_of_ble_eq_true rfl) ?_
  intro p e s m below meth cd ls E hK hP0 hl
  have hS : va_S A s.heap s.heap [] := va_S.rf
  have hsc := hI.1
  obtain ⟨hx, hb, hr, hts, hown, hlocks, hml, hin⟩ := id E
  have hl : lv_has ls 4 [(0, .ref o.1)] := hl
  refine lv_iconst (v := 0) hx hb d_BL_shortenAllThatGo_0 (by decide) ?_
  refine lv_istore_n (lv' := [(1, .int 0), (0, .ref o.1)]) hx hb d_BL_shortenAllThatGo_1 rfl hl (by decide) rfl (fun ls hl => ?_)
  have loop : ∀ (n k : Nat) (H : Heap) (locs : List Loc) (ls : Array Slot), k ≤ sc → sc + 1 ≤ k + n → zH D A (zB o cs sc lc fa fb ad bd c gp mo (zSh c gp V k)) H → va_S A s.heap H locs → lv_has ls 4 [(1, .int (nI k)), (0, .ref o.1)] → W p l e ({ frames := 0, cells := 0, slots := 0, locals := 0 } : Room) s m ([.ref o.1] : List Value).toArray below meth cd H locs 0 0 (zQ below s ([.ref o.1] : List Value).toArray A (zqv fun H => zH D A (zB o cs sc lc fa fb ad bd c gp mo (zSh c gp V sc)) H) ({ frames := 0, cells := 0, slots := 0, locals := 0 } : Room)) (F0 m 2 ls []) := by
    intro n
    induction n with
    | zero => intro k H locs ls h1 h2; omega
    | succ n ih =>
      intro k H locs ls hk hn hw hS hl
      obtain ⟨hP, hD⟩ := id hw
      refine lv_iload_n hx hb d_BL_shortenAllThatGo_2 rfl (lv_at hl 0 rfl) ?_
      refine lv_aload_n hx hb d_BL_shortenAllThatGo_3 rfl (lv_at hl 1 rfl) ?_
      refine va_get (D := D) (ci := 4) (v := .int (nI sc)) (C := "BranchLayout") (T := T_BL) (N := 5) hx hb hts in_BL hown hK.1 hP 0 (zb_x rfl) rfl 3 (by decide) (hts _ w_26) (fun _ h9 => h9) rfl d_BL_shortenAllThatGo_4 ?_
      refine lv_icmp_ge (tgt := 51) hx hb d_BL_shortenAllThatGo_7 (by decide) (fun c_14 => ?_) (fun c_14 => ?_)
      · skip
        have hks : k = sc := Nat.le_antisymm hk ((nI_leI (by omega) (by omega)).mp c_14)
        rw [hks] at hw
        refine zrv E d_BL_shortenAllThatGo_51 hS (Nat.le_of_ble_eq_true rfl) (Nat.le_of_ble_eq_true rfl) ?_
        exact ⟨rfl, hw⟩
      · skip
        have hlt : k < sc := Nat.lt_of_not_le fun q => c_14 (nI_le q (by omega))
        refine lv_aload_n hx hb d_BL_shortenAllThatGo_10 rfl (lv_at hl 1 rfl) ?_
        refine va_get (D := D) (ci := 4) (v := .ref o.2.1) (C := "BranchLayout") (T := T_BL) (N := 5) hx hb hts in_BL hown hK.1 hP 0 (zb_x rfl) rfl 0 (by decide) (hts _ w_23) (fun _ h9 => h9) rfl d_BL_shortenAllThatGo_11 ?_
        refine lv_iload_n hx hb d_BL_shortenAllThatGo_14 rfl (lv_at hl 0 rfl) ?_
        refine va_aldq hx hb hK.1 hP 1 2 (zb_x rfl) rfl (vp_in_nI (show k < 4096 by omega) (by decide)) d_BL_shortenAllThatGo_15 ?_
        rw [nI_clamp (show k < 2 ^ 31 by omega), hfa k hlt]
        refine lv_astore_n (lv' := [(3, .ref (ad k)), (1, .int (nI k)), (0, .ref o.1)]) hx hb d_BL_shortenAllThatGo_16 rfl hl (by decide) rfl (fun ls hl => ?_)
        refine lv_aload_n hx hb d_BL_shortenAllThatGo_17 rfl (lv_at hl 0 rfl) ?_
        by_cases h2k : c 0 k = 2
        · skip
          refine zs_inst_yes E hK hP hlt h2k w_131 d_BL_shortenAllThatGo_18 ?_
          refine lv_if_eq (tgt := 45) hx hb d_BL_shortenAllThatGo_21 (by decide) (fun c_15 => ?_) (fun c_15 => ?_)
          · skip
            exact absurd c_15 (by decide)
          · skip
            refine lv_aload_n hx hb d_BL_shortenAllThatGo_24 rfl (lv_at hl 0 rfl) ?_
            refine zs_cast E hK hP hlt h2k w_131 d_BL_shortenAllThatGo_25 ?_
            refine lv_astore_n (lv' := [(2, .ref (ad k)), (3, .ref (ad k)), (1, .int (nI k)), (0, .ref o.1)]) hx hb d_BL_shortenAllThatGo_28 rfl hl (by decide) rfl (fun ls hl => ?_)
            refine lv_aload_n hx hb d_BL_shortenAllThatGo_29 rfl (lv_at hl 0 rfl) ?_
            refine lv_aload_n hx hb d_BL_shortenAllThatGo_30 rfl (lv_at hl 0 rfl) ?_
            refine va_getN (D := D) (ci := 1) (v := va_rf (zga ad bd (gp k))) (C := "BranchLayout$Branch") (T := T_Br) (N := 8) (host := "BranchLayout") hx hb hts in_Br hown hK.1 hP (4 + k) (zc_Br hlt h2k) rfl 4 (by decide) (va_Nw.use rfl hK.2.1) (fun _ h9 => h9) rfl d_BL_shortenAllThatGo_31 ?_
            by_cases hg : gp k = -1
            · skip
              have hga : zga ad bd (gp k) = none := by simp [zga, hg]
              rw [hga]
              refine lv_ifnullN (tgt := 41) hx hb d_BL_shortenAllThatGo_34 (by decide) ?_
              refine lv_iconst (v := 0) hx hb d_BL_shortenAllThatGo_41 (by decide) ?_
              refine va_putN (D := D) (ci := 1) (v := .int 0) (ty := .boolean) (C := "BranchLayout$Branch") (T := T_Br) (N := 8) (host := "BranchLayout") hx hb hts in_Br ty_Br ok_Br nm_Br hown hK.1 hP hD hS (4 + k) (zc_Br hlt h2k) rfl 6 (by decide) (va_Nw.use rfl hK.2.2.2.1) (fun _ h9 => h9) rfl (by decide +kernel) rfl rfl (Nat.le_of_ble_eq_true rfl) d_BL_shortenAllThatGo_42 (fun H locs hP hD hS => ?_)
              have hP : va_P D zcl (zB o cs sc lc fa fb ad bd c gp mo (zu (zSh c gp V k) 2 k 0)) H := by rw [← zb_p2 hlt h2k]; exact hP
              have hD : va_D A (zB o cs sc lc fa fb ad bd c gp mo (zu (zSh c gp V k) 2 k 0)) := by rw [← zb_p2 hlt h2k]; exact hD
              have ez := zSh_b (c := c) (gp := gp) (V := V) (k := k) h2k
              rw [if_pos hg] at ez
              rw [ez] at hP hD
              refine lv_iinc (v := nI (k + 1)) (lv' := [(1, .int (nI (k + 1))), (2, .ref (ad k)), (3, .ref (ad k)), (0, .ref o.1)]) hx hb d_BL_shortenAllThatGo_45 hl (k := 2) rfl (nI_1 k) (by decide) rfl (fun ls hl => ?_)
              refine lv_goto (tgt := 2) hx hb d_BL_shortenAllThatGo_48 (by decide) ?_
              exact ih (k + 1) _ _ ls hlt (by omega) ⟨hP, hD⟩ hS (lv_sub hl [0, 3] rfl)
            · skip
              obtain ⟨g, hga, -⟩ := zga_valid (ad := ad) (bd := bd) hI.1 hI.2.1 V (hI.2.2.1 k hlt).2.2.2.2.1 hg
              rw [hga]
              refine lv_ifnull hx hb d_BL_shortenAllThatGo_34 ?_
              refine lv_iconst (v := 1) hx hb d_BL_shortenAllThatGo_37 (by decide) ?_
              refine lv_goto (tgt := 42) hx hb d_BL_shortenAllThatGo_38 (by decide) ?_
              refine va_putN (D := D) (ci := 1) (v := .int 1) (ty := .boolean) (C := "BranchLayout$Branch") (T := T_Br) (N := 8) (host := "BranchLayout") hx hb hts in_Br ty_Br ok_Br nm_Br hown hK.1 hP hD hS (4 + k) (zc_Br hlt h2k) rfl 6 (by decide) (va_Nw.use rfl hK.2.2.2.1) (fun _ h9 => h9) rfl (by decide +kernel) rfl rfl (Nat.le_of_ble_eq_true rfl) d_BL_shortenAllThatGo_42 (fun H locs hP hD hS => ?_)
              have hP : va_P D zcl (zB o cs sc lc fa fb ad bd c gp mo (zu (zSh c gp V k) 2 k 1)) H := by rw [← zb_p2 hlt h2k]; exact hP
              have hD : va_D A (zB o cs sc lc fa fb ad bd c gp mo (zu (zSh c gp V k) 2 k 1)) := by rw [← zb_p2 hlt h2k]; exact hD
              have ez := zSh_b (c := c) (gp := gp) (V := V) (k := k) h2k
              rw [if_neg hg] at ez
              rw [ez] at hP hD
              refine lv_iinc (v := nI (k + 1)) (lv' := [(1, .int (nI (k + 1))), (2, .ref (ad k)), (3, .ref (ad k)), (0, .ref o.1)]) hx hb d_BL_shortenAllThatGo_45 hl (k := 2) rfl (nI_1 k) (by decide) rfl (fun ls hl => ?_)
              refine lv_goto (tgt := 2) hx hb d_BL_shortenAllThatGo_48 (by decide) ?_
              exact ih (k + 1) _ _ ls hlt (by omega) ⟨hP, hD⟩ hS (lv_sub hl [0, 3] rfl)
        · skip
          refine zs_inst_no E hK hP hlt h2k w_131 d_BL_shortenAllThatGo_18 ?_
          refine lv_if_eq (tgt := 45) hx hb d_BL_shortenAllThatGo_21 (by decide) (fun c_16 => ?_) (fun c_16 => ?_)
          · skip
            refine lv_iinc (v := nI (k + 1)) (lv' := [(1, .int (nI (k + 1))), (3, .ref (ad k)), (0, .ref o.1)]) hx hb d_BL_shortenAllThatGo_45 hl (k := 1) rfl (nI_1 k) (by decide) rfl (fun ls hl => ?_)
            refine lv_goto (tgt := 2) hx hb d_BL_shortenAllThatGo_48 (by decide) ?_
            exact ih (k + 1) _ _ ls hlt (by omega) (by rw [← zSh_n h2k]; exact hw) hS (lv_sub hl [0, 2] rfl)
          · skip
            exact absurd rfl c_16
  exact loop (sc + 1) 0 _ _ ls (Nat.zero_le _) (by omega) (by rw [← zSh_0]; exact hP0) hS (by rw [nI_0]; exact lv_sub hl [0, 1] rfl)
set_option maxHeartbeats 4000000 in
set_option maxRecDepth 100000 in
theorem t_BL_lengthenAllTooFar (l : Launch) (D : va_G) (cs : ClassId × ClassId × ClassId × ClassId) (A : Nat → Prop) (o : Nat × Nat × Nat × Nat) (sc lc : Nat) (fa fb : Nat → Option Nat) (ad bd : Nat → Nat) (c : Nat → Nat → Nat) (gp mo : Nat → Int32) (V : Nat → Nat → Int32) (hI : zI sc lc c gp) (hfa : ∀ k, k < sc → fa k = some (ad k)) (hv : ∀ k, k < sc → (V 2 k = 0 ∨ V 2 k = 1) ∧ (V 2 k = 1 → c 0 k = 2 ∧ ¬ gp k = -1)) : zMet l D cs y_BL_lengthenAllTooFar c_BL_lengthenAllTooFar 5 (some FieldType.boolean) ({ frames := 1, cells := 0, slots := 0, locals := 22 } : Room) [.ref o.1] (zH D A (zB o cs sc lc fa fb ad bd c gp mo V)) A (zqi fun r H => ((r = 0 ∧ ∀ i, i < sc → ¬ (V 2 i = 1 ∧ zok (zdi gp mo V i) = false)) ∨ (r = 1 ∧ ∃ i, i < sc ∧ V 2 i = 1 ∧ zok (zdi gp mo V i) = false)) ∧ zH D A (zB o cs sc lc fa fb ad bd c gp mo (zLn gp mo V sc)) H) := by
  refine zmk (by decide) (Nat.le_of_ble_eq_true rfl) ?_
  intro p e s m below meth cd ls E hK hP0 hl
  have hS : va_S A s.heap s.heap [] := va_S.rf
  have hsc := hI.1
  obtain ⟨hx, hb, hr, hts, hown, hlocks, hml, hin⟩ := id E
  have hl : lv_has ls 5 [(0, .ref o.1)] := hl
  refine lv_iconst (v := 0) hx hb d_BL_lengthenAllTooFar_0 (by decide) ?_
  refine lv_istore_n (lv' := [(1, .int 0), (0, .ref o.1)]) hx hb d_BL_lengthenAllTooFar_1 rfl hl (by decide) rfl (fun ls hl => ?_)
  refine lv_iconst (v := 0) hx hb d_BL_lengthenAllTooFar_2 (by decide) ?_
  refine lv_istore_n (lv' := [(2, .int 0), (1, .int 0), (0, .ref o.1)]) hx hb d_BL_lengthenAllTooFar_3 rfl hl (by decide) rfl (fun ls hl => ?_)
  have loop : ∀ (n k : Nat) (x : Int32) (H : Heap) (locs : List Loc) (ls : Array Slot), k ≤ sc → sc + 1 ≤ k + n → ((x = 0 ∧ ∀ i, i < k → ¬ (V 2 i = 1 ∧ zok (zdi gp mo V i) = false)) ∨ (x = 1 ∧ ∃ i, i < k ∧ V 2 i = 1 ∧ zok (zdi gp mo V i) = false)) → zH D A (zB o cs sc lc fa fb ad bd c gp mo (zLn gp mo V k)) H → va_S A s.heap H locs → lv_has ls 5 [(2, .int (nI k)), (1, .int x), (0, .ref o.1)] → W p l e ({ frames := 1, cells := 0, slots := 0, locals := 22 } : Room) s m ([.ref o.1] : List Value).toArray below meth cd H locs 0 0 (zQ below s ([.ref o.1] : List Value).toArray A (zqi fun r H => ((r = 0 ∧ ∀ i, i < sc → ¬ (V 2 i = 1 ∧ zok (zdi gp mo V i) = false)) ∨ (r = 1 ∧ ∃ i, i < sc ∧ V 2 i = 1 ∧ zok (zdi gp mo V i) = false)) ∧ zH D A (zB o cs sc lc fa fb ad bd c gp mo (zLn gp mo V sc)) H) ({ frames := 1, cells := 0, slots := 0, locals := 22 } : Room)) (F0 m 4 ls []) := by
    intro n
    induction n with
    | zero => intro k x H locs ls h1 h2; omega
    | succ n ih =>
      intro k x H locs ls hk hn hxx hw hS hl
      obtain ⟨hP, hD⟩ := id hw
      refine lv_iload_n hx hb d_BL_lengthenAllTooFar_4 rfl (lv_at hl 0 rfl) ?_
      refine lv_aload_n hx hb d_BL_lengthenAllTooFar_5 rfl (lv_at hl 2 rfl) ?_
      refine va_get (D := D) (ci := 4) (v := .int (nI sc)) (C := "BranchLayout") (T := T_BL) (N := 5) hx hb hts in_BL hown hK.1 hP 0 (zb_x rfl) rfl 3 (by decide) (hts _ w_26) (fun _ h9 => h9) rfl d_BL_lengthenAllTooFar_6 ?_
      refine lv_icmp_ge (tgt := 49) hx hb d_BL_lengthenAllTooFar_9 (by decide) (fun c_17 => ?_) (fun c_17 => ?_)
      · skip
        have hks : k = sc := Nat.le_antisymm hk ((nI_leI (by omega) (by omega)).mp c_17)
        rw [hks] at hw hxx
        refine lv_iload_n hx hb d_BL_lengthenAllTooFar_49 rfl (lv_at hl 1 rfl) ?_
        refine zrz E d_BL_lengthenAllTooFar_50 (hxx.imp And.left And.left) hS (Nat.le_of_ble_eq_true rfl) (Nat.le_of_ble_eq_true rfl) ?_
        exact ⟨_, rfl, hxx, hw⟩
      · skip
        have hlt : k < sc := Nat.lt_of_not_le fun q => c_17 (nI_le q (by omega))
        have e2 : zLn gp mo V k 2 k = V 2 k := by simp [zLn]
        have ed : zdi gp mo (zLn gp mo V k) k = zdi gp mo V k := zLn_di
        obtain ⟨hv1, hv2⟩ := hv k hlt
        have hno : ¬ (V 2 k = 1 ∧ zok (zdi gp mo V k) = false) → ∀ x : Int32, ((x = 0 ∧ ∀ i, i < k → ¬ (V 2 i = 1 ∧ zok (zdi gp mo V i) = false)) ∨ (x = 1 ∧ ∃ i, i < k ∧ V 2 i = 1 ∧ zok (zdi gp mo V i) = false)) → ((x = 0 ∧ ∀ i, i < (k + 1) → ¬ (V 2 i = 1 ∧ zok (zdi gp mo V i) = false)) ∨ (x = 1 ∧ ∃ i, i < (k + 1) ∧ V 2 i = 1 ∧ zok (zdi gp mo V i) = false)) := fun hb x hx1 => by
          rcases hx1 with ⟨h1, h2⟩ | ⟨h1, i, hi, h2⟩
          · refine Or.inl ⟨h1, fun i hi => ?_⟩
            rcases Nat.lt_or_ge i k with q | q
            · exact h2 i q
            · have e9 : i = k := by omega
              rw [e9]; exact hb
          · exact Or.inr ⟨h1, i, by omega, h2⟩
        refine lv_aload_n hx hb d_BL_lengthenAllTooFar_12 rfl (lv_at hl 2 rfl) ?_
        refine va_get (D := D) (ci := 4) (v := .ref o.2.1) (C := "BranchLayout") (T := T_BL) (N := 5) hx hb hts in_BL hown hK.1 hP 0 (zb_x rfl) rfl 0 (by decide) (hts _ w_23) (fun _ h9 => h9) rfl d_BL_lengthenAllTooFar_13 ?_
        refine lv_iload_n hx hb d_BL_lengthenAllTooFar_16 rfl (lv_at hl 0 rfl) ?_
        refine va_aldq hx hb hK.1 hP 1 2 (zb_x rfl) rfl (vp_in_nI (show k < 4096 by omega) (by decide)) d_BL_lengthenAllTooFar_17 ?_
        rw [nI_clamp (show k < 2 ^ 31 by omega), hfa k hlt]
        refine lv_astore (lv' := [(4, .ref (ad k)), (2, .int (nI k)), (1, .int x), (0, .ref o.1)]) hx hb d_BL_lengthenAllTooFar_18 hl (by decide) rfl (fun ls hl => ?_)
        refine lv_aload hx hb d_BL_lengthenAllTooFar_20 (lv_at hl 0 rfl) ?_
        by_cases h2k : c 0 k = 2
        · skip
          refine zs_inst_yes E hK hP hlt h2k w_131 d_BL_lengthenAllTooFar_22 ?_
          refine lv_if_eq (tgt := 43) hx hb d_BL_lengthenAllTooFar_25 (by decide) (fun c_18 => ?_) (fun c_18 => ?_)
          · skip
            exact absurd c_18 (by decide)
          · skip
            refine lv_aload hx hb d_BL_lengthenAllTooFar_28 (lv_at hl 0 rfl) ?_
            refine zs_cast E hK hP hlt h2k w_131 d_BL_lengthenAllTooFar_30 ?_
            refine lv_astore_n (lv' := [(3, .ref (ad k)), (4, .ref (ad k)), (2, .int (nI k)), (1, .int x), (0, .ref o.1)]) hx hb d_BL_lengthenAllTooFar_33 rfl hl (by decide) rfl (fun ls hl => ?_)
            refine lv_aload_n hx hb d_BL_lengthenAllTooFar_34 rfl (lv_at hl 0 rfl) ?_
            refine zcV [] [] E (t_Br_lengthenIfTooFar l D cs A o sc lc fa fb ad bd c gp mo (zLn gp mo V k) hI k hlt h2k (by rw [e2]; exact hv1) (by rw [e2]; exact fun q => (hv2 q).2)) d_BL_lengthenAllTooFar_35 w_227 w_228 w_229 w_9 w_230 ⟨rfl, by decide +kernel, by decide +kernel, (by decide +kernel : Option.map (fun d => d.parameters.length) (parseMethodDescriptor "()Z") = some 0)⟩ ⟨(Nat.le_of_ble_eq_true rfl), (Nat.le_of_ble_eq_true rfl)⟩ ⟨(Nat.le_of_ble_eq_true rfl), (Nat.le_of_ble_eq_true rfl)⟩ rfl (Nat.le_of_ble_eq_true rfl) hl.1 (zrec hK hP rfl (zc_Br hlt h2k)) hK hw hS (fun _ h => h) (zki fun r H locs hq _ _ hS => ?_)
            obtain ⟨hr1, hw2⟩ := hq
            rw [e2, ed] at hr1
            rw [zLn_s] at hw2
            refine lv_if_eq (tgt := 43) hx hb d_BL_lengthenAllTooFar_38 (by decide) (fun c_19 => ?_) (fun c_19 => ?_)
            · skip
              have hbad : ¬ (V 2 k = 1 ∧ zok (zdi gp mo V k) = false) := fun q => by rw [if_pos q] at hr1; rw [hr1] at c_19; exact absurd c_19 (by decide)
              refine lv_iinc (v := nI (k + 1)) (lv' := [(2, .int (nI (k + 1))), (3, .ref (ad k)), (4, .ref (ad k)), (1, .int x), (0, .ref o.1)]) hx hb d_BL_lengthenAllTooFar_43 hl (k := 2) rfl (nI_1 k) (by decide) rfl (fun ls hl => ?_)
              refine lv_goto (tgt := 4) hx hb d_BL_lengthenAllTooFar_46 (by decide) ?_
              exact ih (k + 1) x _ _ ls hlt (by omega) (hno hbad x hxx) hw2 hS (lv_sub hl [0, 3, 4] rfl)
            · skip
              have hbad : V 2 k = 1 ∧ zok (zdi gp mo V k) = false := by
                by_cases q : V 2 k = 1 ∧ zok (zdi gp mo V k) = false
                · exact q
                · rw [if_neg q] at hr1; exact absurd hr1 c_19
              refine lv_iconst (v := 1) hx hb d_BL_lengthenAllTooFar_41 (by decide) ?_
              refine lv_istore_n (lv' := [(1, .int 1), (3, .ref (ad k)), (4, .ref (ad k)), (2, .int (nI k)), (0, .ref o.1)]) hx hb d_BL_lengthenAllTooFar_42 rfl hl (by decide) rfl (fun ls hl => ?_)
              refine lv_iinc (v := nI (k + 1)) (lv' := [(2, .int (nI (k + 1))), (1, .int 1), (3, .ref (ad k)), (4, .ref (ad k)), (0, .ref o.1)]) hx hb d_BL_lengthenAllTooFar_43 hl (k := 3) rfl (nI_1 k) (by decide) rfl (fun ls hl => ?_)
              refine lv_goto (tgt := 4) hx hb d_BL_lengthenAllTooFar_46 (by decide) ?_
              exact ih (k + 1) 1 _ _ ls hlt (by omega) (Or.inr ⟨rfl, k, by omega, hbad⟩) hw2 hS (lv_sub hl [0, 1, 4] rfl)
        · skip
          refine zs_inst_no E hK hP hlt h2k w_131 d_BL_lengthenAllTooFar_22 ?_
          refine lv_if_eq (tgt := 43) hx hb d_BL_lengthenAllTooFar_25 (by decide) (fun c_20 => ?_) (fun c_20 => ?_)
          · skip
            have hbad : ¬ (V 2 k = 1 ∧ zok (zdi gp mo V k) = false) := fun q => h2k (hv2 q.1).1
            have h0 : ¬ V 2 k = 1 := fun q => h2k (hv2 q).1
            have ez := zLn_s (gp := gp) (mo := mo) (V := V) (k := k)
            unfold zLk at ez
            rw [e2, if_neg h0] at ez
            refine lv_iinc (v := nI (k + 1)) (lv' := [(2, .int (nI (k + 1))), (4, .ref (ad k)), (1, .int x), (0, .ref o.1)]) hx hb d_BL_lengthenAllTooFar_43 hl (k := 1) rfl (nI_1 k) (by decide) rfl (fun ls hl => ?_)
            refine lv_goto (tgt := 4) hx hb d_BL_lengthenAllTooFar_46 (by decide) ?_
            exact ih (k + 1) x _ _ ls hlt (by omega) (hno hbad x hxx) (by rw [← ez]; exact hw) hS (lv_sub hl [0, 2, 3] rfl)
          · skip
            exact absurd rfl c_20
  exact loop (sc + 1) 0 0 _ _ ls (Nat.zero_le _) (by omega) (Or.inl ⟨rfl, fun i hi => absurd hi (Nat.not_lt_zero i)⟩) (by rw [← zLn_0]; exact hP0) hS (by rw [nI_0]; exact lv_sub hl [0, 1, 2] rfl)
set_option maxHeartbeats 4000000 in
set_option maxRecDepth 100000 in
theorem t_BL_countLong (l : Launch) (D : va_G) (cs : ClassId × ClassId × ClassId × ClassId) (A : Nat → Prop) (o : Nat × Nat × Nat × Nat) (sc lc : Nat) (fa fb : Nat → Option Nat) (ad bd : Nat → Nat) (c : Nat → Nat → Nat) (gp mo : Nat → Int32) (V : Nat → Nat → Int32) (hsc : sc ≤ 4096) (hfa : ∀ k, k < sc → fa k = some (ad k)) (hv : ∀ k, k < sc → (V 2 k = 0 ∨ V 2 k = 1)) (H1 : Heap) (hw : zH D A (zB o cs sc lc fa fb ad bd c gp mo V) H1) : zMet l D cs y_BL_countLong c_BL_countLong 5 (some FieldType.int) ({ frames := 0, cells := 0, slots := 0, locals := 0 } : Room) [.ref o.1] (fun H => H = H1) (fun _ => False) (zqi fun r H => H = H1 ∧ r = nI (zct c V sc)) := by
  refine zmk (by decide) (Nat.le_of_ble_eq_true rfl) ?_
  intro p e s m below meth cd ls E hK hP0 hl
  have hS : va_S (fun _ => False) s.heap s.heap [] := va_S.rf
  subst hP0
  have hP := hw.1
  obtain ⟨hx, hb, hr, hts, hown, hlocks, hml, hin⟩ := id E
  have hl : lv_has ls 5 [(0, .ref o.1)] := hl
  refine lv_iconst (v := 0) hx hb d_BL_countLong_0 (by decide) ?_
  refine lv_istore_n (lv' := [(1, .int 0), (0, .ref o.1)]) hx hb d_BL_countLong_1 rfl hl (by decide) rfl (fun ls hl => ?_)
  refine lv_iconst (v := 0) hx hb d_BL_countLong_2 (by decide) ?_
  refine lv_istore_n (lv' := [(2, .int 0), (1, .int 0), (0, .ref o.1)]) hx hb d_BL_countLong_3 rfl hl (by decide) rfl (fun ls hl => ?_)
  have loop : ∀ (n k : Nat) (ls : Array Slot), k ≤ sc → sc + 1 ≤ k + n → lv_has ls 5 [(2, .int (nI k)), (1, .int (nI (zct c V k))), (0, .ref o.1)] → W p l e ({ frames := 0, cells := 0, slots := 0, locals := 0 } : Room) s m ([.ref o.1] : List Value).toArray below meth cd s.heap [] 0 0 (zQ below s ([.ref o.1] : List Value).toArray (fun _ => False) (zqi fun r H => H = s.heap ∧ r = nI (zct c V sc)) ({ frames := 0, cells := 0, slots := 0, locals := 0 } : Room)) (F0 m 4 ls []) := by
    intro n
    induction n with
    | zero => intro k ls h1 h2; omega
    | succ n ih =>
      intro k ls hk hn hl
      refine lv_iload_n hx hb d_BL_countLong_4 rfl (lv_at hl 0 rfl) ?_
      refine lv_aload_n hx hb d_BL_countLong_5 rfl (lv_at hl 2 rfl) ?_
      refine va_get (D := D) (ci := 4) (v := .int (nI sc)) (C := "BranchLayout") (T := T_BL) (N := 5) hx hb hts in_BL hown hK.1 hP 0 (zb_x rfl) rfl 3 (by decide) (hts _ w_26) (fun _ h9 => h9) rfl d_BL_countLong_6 ?_
      refine lv_icmp_ge (tgt := 50) hx hb d_BL_countLong_9 (by decide) (fun c_21 => ?_) (fun c_21 => ?_)
      · skip
        have hks : k = sc := Nat.le_antisymm hk ((nI_leI (by omega) (by omega)).mp c_21)
        refine lv_iload_n hx hb d_BL_countLong_50 rfl (lv_at hl 1 rfl) ?_
        refine zri E d_BL_countLong_51 hS (Nat.le_of_ble_eq_true rfl) (Nat.le_of_ble_eq_true rfl) ?_
        exact ⟨_, rfl, rfl, by rw [hks]⟩
      · skip
        have hlt : k < sc := Nat.lt_of_not_le fun q => c_21 (nI_le q (by omega))
        refine lv_aload_n hx hb d_BL_countLong_12 rfl (lv_at hl 2 rfl) ?_
        refine va_get (D := D) (ci := 4) (v := .ref o.2.1) (C := "BranchLayout") (T := T_BL) (N := 5) hx hb hts in_BL hown hK.1 hP 0 (zb_x rfl) rfl 0 (by decide) (hts _ w_23) (fun _ h9 => h9) rfl d_BL_countLong_13 ?_
        refine lv_iload_n hx hb d_BL_countLong_16 rfl (lv_at hl 0 rfl) ?_
        refine va_aldq hx hb hK.1 hP 1 2 (zb_x rfl) rfl (vp_in_nI (show k < 4096 by omega) (by decide)) d_BL_countLong_17 ?_
        rw [nI_clamp (show k < 2 ^ 31 by omega), hfa k hlt]
        refine lv_astore (lv' := [(4, .ref (ad k)), (2, .int (nI k)), (1, .int (nI (zct c V k))), (0, .ref o.1)]) hx hb d_BL_countLong_18 hl (by decide) rfl (fun ls hl => ?_)
        refine lv_aload hx hb d_BL_countLong_20 (lv_at hl 0 rfl) ?_
        by_cases h2k : c 0 k = 2
        · skip
          refine zs_inst_yes E hK hP hlt h2k w_131 d_BL_countLong_22 ?_
          refine lv_if_eq (tgt := 44) hx hb d_BL_countLong_25 (by decide) (fun c_22 => ?_) (fun c_22 => ?_)
          · skip
            exact absurd c_22 (by decide)
          · skip
            refine lv_aload hx hb d_BL_countLong_28 (lv_at hl 0 rfl) ?_
            refine zs_cast E hK hP hlt h2k w_131 d_BL_countLong_30 ?_
            refine lv_astore_n (lv' := [(3, .ref (ad k)), (4, .ref (ad k)), (2, .int (nI k)), (1, .int (nI (zct c V k))), (0, .ref o.1)]) hx hb d_BL_countLong_33 rfl hl (by decide) rfl (fun ls hl => ?_)
            refine lv_aload_n hx hb d_BL_countLong_34 rfl (lv_at hl 0 rfl) ?_
            refine va_getN (D := D) (ci := 1) (v := .int (V 2 k)) (C := "BranchLayout$Branch") (T := T_Br) (N := 8) (host := "BranchLayout") hx hb hts in_Br hown hK.1 hP (4 + k) (zc_Br hlt h2k) rfl 6 (by decide) (va_Nw.use rfl hK.2.2.2.1) (fun _ h9 => h9) rfl d_BL_countLong_35 ?_
            refine lv_if_ne (tgt := 44) hx hb d_BL_countLong_38 (by decide) (fun c_23 => ?_) (fun c_23 => ?_)
            · skip
              have ez : zct c V (k + 1) = zct c V k := by simp [zct, c_23]
              refine lv_iinc (v := nI (k + 1)) (lv' := [(2, .int (nI (k + 1))), (3, .ref (ad k)), (4, .ref (ad k)), (1, .int (nI (zct c V k))), (0, .ref o.1)]) hx hb d_BL_countLong_44 hl (k := 2) rfl (nI_1 k) (by decide) rfl (fun ls hl => ?_)
              refine lv_goto (tgt := 4) hx hb d_BL_countLong_47 (by decide) ?_
              exact ih (k + 1) ls hlt (by omega) (by rw [ez]; exact lv_sub hl [0, 3, 4] rfl)
            · skip
              have ez : zct c V (k + 1) = zct c V k + 1 := by simp [zct, h2k, c_23]
              refine lv_iinc (v := nI (zct c V k + 1)) (lv' := [(1, .int (nI (zct c V k + 1))), (3, .ref (ad k)), (4, .ref (ad k)), (2, .int (nI k)), (0, .ref o.1)]) hx hb d_BL_countLong_41 hl (k := 3) rfl (nI_1 (zct c V k)) (by decide) rfl (fun ls hl => ?_)
              refine lv_iinc (v := nI (k + 1)) (lv' := [(2, .int (nI (k + 1))), (1, .int (nI (zct c V k + 1))), (3, .ref (ad k)), (4, .ref (ad k)), (0, .ref o.1)]) hx hb d_BL_countLong_44 hl (k := 3) rfl (nI_1 k) (by decide) rfl (fun ls hl => ?_)
              refine lv_goto (tgt := 4) hx hb d_BL_countLong_47 (by decide) ?_
              exact ih (k + 1) ls hlt (by omega) (by rw [ez]; exact lv_sub hl [0, 1, 4] rfl)
        · skip
          refine zs_inst_no E hK hP hlt h2k w_131 d_BL_countLong_22 ?_
          refine lv_if_eq (tgt := 44) hx hb d_BL_countLong_25 (by decide) (fun c_24 => ?_) (fun c_24 => ?_)
          · skip
            have ez : zct c V (k + 1) = zct c V k := by simp [zct, h2k]
            refine lv_iinc (v := nI (k + 1)) (lv' := [(2, .int (nI (k + 1))), (4, .ref (ad k)), (1, .int (nI (zct c V k))), (0, .ref o.1)]) hx hb d_BL_countLong_44 hl (k := 1) rfl (nI_1 k) (by decide) rfl (fun ls hl => ?_)
            refine lv_goto (tgt := 4) hx hb d_BL_countLong_47 (by decide) ?_
            exact ih (k + 1) ls hlt (by omega) (by rw [ez]; exact lv_sub hl [0, 2, 3] rfl)
          · skip
            exact absurd rfl c_24
  exact loop (sc + 1) 0 ls (Nat.zero_le _) (by omega) (by show lv_has ls 5 [(2, .int (nI 0)), (1, .int (nI 0)), (0, .ref o.1)]; rw [nI_0]; exact lv_sub hl [0, 1, 2] rfl)
set_option maxHeartbeats 4000000 in
set_option maxRecDepth 100000 in
theorem t_BL_relax (l : Launch) (D : va_G) (cs : ClassId × ClassId × ClassId × ClassId) (A : Nat → Prop) (o : Nat × Nat × Nat × Nat) (sc lc : Nat) (c : Nat → Nat → Nat) (gp mo : Nat → Int32) (V : Nat → Nat → Int32) (hI : zI sc lc c gp) (hJ : zJ sc c gp V) : zMet l D cs y_BL_relax c_BL_relax 2 (some FieldType.int) ({ frames := 3, cells := 0, slots := 0, locals := 64 } : Room) [.ref o.1] (zCW D A o cs sc lc c gp mo V) A (zqi fun r H => ∃ V2, zRx c gp mo sc lc V2 r ∧ zCW D A o cs sc lc c gp mo V2 H) := by
  refine zmk (by decide) (Nat.le_of_ble_eq_true rfl) ?_
  intro p e s m below meth cd ls E hK hP0 hl
  have hS : va_S A s.heap s.heap [] := va_S.rf
  have hsc := hI.1
  obtain ⟨fa, fb, ad, bd, hfa, hfb, hw⟩ := id hP0
  obtain ⟨hP, hD⟩ := id hw
  obtain ⟨hx, hb, hr, hts, hown, hlocks, hml, hin⟩ := id E
  have hl : lv_has ls 2 [(0, .ref o.1)] := hl
  refine lv_aload_n hx hb d_BL_relax_0 rfl (lv_at hl 0 rfl) ?_
  refine zcV [] [] E (t_BL_shortenAllThatGo l D cs A o sc lc fa fb ad bd c gp mo V hI hfa) d_BL_relax_1 w_195 w_197 ws_BL_shortenAllThatGo w_1 w_198 ⟨rfl, by decide +kernel, by decide +kernel, (by decide +kernel : Option.map (fun d => d.parameters.length) (parseMethodDescriptor "()V") = some 0)⟩ ⟨(Nat.le_of_ble_eq_true rfl), (Nat.le_of_ble_eq_true rfl)⟩ ⟨(Nat.le_of_ble_eq_true rfl), (Nat.le_of_ble_eq_true rfl)⟩ rfl (Nat.le_of_ble_eq_true rfl) hl.1 (zrec hK hP (ci := 4) (i := 0) rfl (zb_x rfl)) hK hw hS (fun _ h => h) (zkv fun H locs hw _ _ hS => ?_)
  refine lv_iconst (v := 0) hx hb d_BL_relax_4 (by decide) ?_
  refine lv_istore_n (lv' := [(1, .int 0), (0, .ref o.1)]) hx hb d_BL_relax_5 rfl hl (by decide) rfl (fun ls hl => ?_)
  have loop : ∀ (n k : Nat) (V : Nat → Nat → Int32) (H : Heap) (locs : List Loc) (ls : Array Slot), zcs V sc + k ≤ sc → sc + 1 ≤ k + n → zMid c gp mo sc V → zH D A (zB o cs sc lc fa fb ad bd c gp mo V) H → va_S A s.heap H locs → lv_has ls 2 [(1, .int (nI k)), (0, .ref o.1)] → W p l e ({ frames := 3, cells := 0, slots := 0, locals := 64 } : Room) s m ([.ref o.1] : List Value).toArray below meth cd H locs 0 0 (zQ below s ([.ref o.1] : List Value).toArray A (zqi fun r H => ∃ V2, zRx c gp mo sc lc V2 r ∧ zCW D A o cs sc lc c gp mo V2 H) ({ frames := 3, cells := 0, slots := 0, locals := 64 } : Room)) (F0 m 6 ls []) := by
    intro n
    induction n with
    | zero => intro k V H locs ls h1 h2; omega
    | succ n ih =>
      intro k V H locs ls hk hn hM hw hS hl
      obtain ⟨hP, hD⟩ := id hw
      refine lv_iload_n hx hb d_BL_relax_6 rfl (lv_at hl 0 rfl) ?_
      refine lv_aload_n hx hb d_BL_relax_7 rfl (lv_at hl 1 rfl) ?_
      refine va_get (D := D) (ci := 4) (v := .int (nI sc)) (C := "BranchLayout") (T := T_BL) (N := 5) hx hb hts in_BL hown hK.1 hP 0 (zb_x rfl) rfl 3 (by decide) (hts _ w_26) (fun _ h9 => h9) rfl d_BL_relax_8 ?_
      refine lv_icmp_gt (tgt := 34) hx hb d_BL_relax_11 (by decide) (fun c_33 => ?_) (fun c_33 => ?_)
      · skip
        exact absurd c_33 (nI_nlt (by omega) (by omega))
      · skip
        refine lv_aload_n hx hb d_BL_relax_14 rfl (lv_at hl 1 rfl) ?_
        refine zcV [] [] E (t_BL_tellPlaces l D cs A o sc lc fa fb ad bd c gp mo V hI hfa hfb (fun k hk => (hM.1 k hk).1)) d_BL_relax_15 w_199 w_201 ws_BL_tellPlaces w_1 w_202 ⟨rfl, by decide +kernel, by decide +kernel, (by decide +kernel : Option.map (fun d => d.parameters.length) (parseMethodDescriptor "()V") = some 0)⟩ ⟨(Nat.le_of_ble_eq_true rfl), (Nat.le_of_ble_eq_true rfl)⟩ ⟨(Nat.le_of_ble_eq_true rfl), (Nat.le_of_ble_eq_true rfl)⟩ rfl (Nat.le_of_ble_eq_true rfl) hl.1 (zrec hK hP (ci := 4) (i := 0) rfl (zb_x rfl)) hK hw hS (fun _ h => h) (zkv fun H locs hw _ _ hS => ?_)
        obtain ⟨hP, hD⟩ := id hw
        refine lv_aload_n hx hb d_BL_relax_18 rfl (lv_at hl 1 rfl) ?_
        refine zcV [] [] E (t_BL_lengthenAllTooFar l D cs A o sc lc fa fb ad bd c gp mo (zT c (zbr V) V sc lc) hI hfa (fun k hk => by rw [zT_2]; exact ⟨(hM.1 k hk).1, (hM.1 k hk).2.1⟩)) d_BL_relax_19 w_223 w_225 ws_BL_lengthenAllTooFar w_1 w_226 ⟨rfl, by decide +kernel, by decide +kernel, (by decide +kernel : Option.map (fun d => d.parameters.length) (parseMethodDescriptor "()Z") = some 0)⟩ ⟨(Nat.le_of_ble_eq_true rfl), (Nat.le_of_ble_eq_true rfl)⟩ ⟨(Nat.le_of_ble_eq_true rfl), (Nat.le_of_ble_eq_true rfl)⟩ rfl (Nat.le_of_ble_eq_true rfl) hl.1 (zrec hK hP (ci := 4) (i := 0) rfl (zb_x rfl)) hK hw hS (fun _ h => h) (zki fun r H locs hq _ _ hS => ?_)
        obtain ⟨hr1, hw⟩ := hq
        simp only [zT_2] at hr1
        obtain ⟨hP, hD⟩ := id hw
        refine lv_if_ne (tgt := 28) hx hb d_BL_relax_22 (by decide) (fun c_34 => ?_) (fun c_34 => ?_)
        · skip
          have hbad := (hr1.resolve_left fun q => c_34 q.1).2
          obtain ⟨hM2, hc2⟩ := zMid_s hI hM hbad
          refine lv_iinc (v := nI (k + 1)) (lv' := [(1, .int (nI (k + 1))), (0, .ref o.1)]) hx hb d_BL_relax_28 hl (k := 0) rfl (nI_1 k) (by decide) rfl (fun ls hl => ?_)
          refine lv_goto (tgt := 6) hx hb d_BL_relax_31 (by decide) ?_
          exact ih (k + 1) _ _ _ ls (by omega) (by omega) hM2 hw hS (lv_sub hl [0, 1] rfl)
        · skip
          have hbad := (hr1.resolve_right fun q => by rw [c_34] at q; exact absurd q.1 (by decide)).2
          have hRx := zMid_e hI hM hbad
          refine lv_goto (tgt := 34) hx hb d_BL_relax_25 (by decide) ?_
          refine lv_aload_n hx hb d_BL_relax_34 rfl (lv_at hl 1 rfl) ?_
          refine zcV [] [] E (t_BL_countLong l D cs A o sc lc fa fb ad bd c gp mo (zLn gp mo (zT c (zbr V) V sc lc) sc) hsc hfa (fun k hk => (zRx_J hRx k hk).1) _ hw) d_BL_relax_35 w_233 w_235 ws_BL_countLong w_1 w_236 ⟨rfl, by decide +kernel, by decide +kernel, (by decide +kernel : Option.map (fun d => d.parameters.length) (parseMethodDescriptor "()I") = some 0)⟩ ⟨(Nat.le_of_ble_eq_true rfl), (Nat.le_of_ble_eq_true rfl)⟩ ⟨(Nat.le_of_ble_eq_true rfl), (Nat.le_of_ble_eq_true rfl)⟩ rfl (Nat.le_of_ble_eq_true rfl) hl.1 (zrec hK hP (ci := 4) (i := 0) rfl (zb_x rfl)) hK rfl hS (fun _ h => h.elim) (zki fun r2 H2 locs2 hq _ _ hS2 => ?_)
          obtain ⟨e8, rfl⟩ := hq
          subst e8
          have hS := hS2
          refine zri E d_BL_relax_38 hS (Nat.le_of_ble_eq_true rfl) (Nat.le_of_ble_eq_true rfl) ?_
          exact ⟨_, rfl, _, hRx, fa, fb, ad, bd, hfa, hfb, hw⟩
  have hcs := zcs_le (V := zSh c gp V sc) sc
  exact loop (sc + 1) 0 _ _ _ ls (by omega) (by omega) (zMid_0 hI hJ) hw hS (by rw [nI_0]; exact lv_sub hl [0, 1] rfl)
