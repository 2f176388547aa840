def zsec (x : Int32) : Bool := decide (¬ x < 0 ∧ x < 4)
set_option maxHeartbeats 4000000 in
set_option maxRecDepth 100000 in
theorem t_BL_isSection (l : Launch) (D : va_G) (cs : ClassId × ClassId × ClassId × ClassId) (x : Int32) (H1 : Heap) : zMet l D cs y_BL_isSection c_BL_isSection 1 (some FieldType.boolean) ({ frames := 0, cells := 0, slots := 0, locals := 0 } : Room) [.int x] (fun H => H = H1) (fun _ => False) (zqi fun r H => H = H1 ∧ r = if zsec x then 1 else 0) := by
  refine zmk (by decide) (Nat.le_of_ble_eq_true rfl) ?_
  intro p e s m below meth cd ls E hK hP0 hl
  have hS : va_S (fun _ => False) s.heap s.heap [] := va_S.rf
  obtain ⟨hx, hb, hr, hts, hown, hlocks, hml, hin⟩ := id E
  have hl : lv_has ls 1 [(0, .int x)] := hl
  refine lv_iload_n hx hb d_BL_isSection_0 rfl (lv_at hl 0 rfl) ?_
  refine lv_if_lt (tgt := 13) hx hb d_BL_isSection_1 (by decide) (fun c_1 => ?_) (fun c_1 => ?_)
  · skip
    refine lv_iconst (v := 0) hx hb d_BL_isSection_13 (by decide) ?_
    refine zrz E d_BL_isSection_14 (by decide) hS (Nat.le_of_ble_eq_true rfl) (Nat.le_of_ble_eq_true rfl) ?_
    exact ⟨_, rfl, hP0, by simp [zsec, c_1]⟩
  · skip
    refine lv_iload_n hx hb d_BL_isSection_4 rfl (lv_at hl 0 rfl) ?_
    refine lv_iconst (v := 4) hx hb d_BL_isSection_5 (by decide) ?_
    refine lv_icmp_ge (tgt := 13) hx hb d_BL_isSection_6 (by decide) (fun c_2 => ?_) (fun c_2 => ?_)
    · skip
      refine lv_iconst (v := 0) hx hb d_BL_isSection_13 (by decide) ?_
      refine zrz E d_BL_isSection_14 (by decide) hS (Nat.le_of_ble_eq_true rfl) (Nat.le_of_ble_eq_true rfl) ?_
      exact ⟨_, rfl, hP0, by simp [zsec, Int32.not_lt.mpr c_2]⟩
    · skip
      refine lv_iconst (v := 1) hx hb d_BL_isSection_9 (by decide) ?_
      refine lv_goto (tgt := 14) hx hb d_BL_isSection_10 (by decide) ?_
      refine zrz E d_BL_isSection_14 (by decide) hS (Nat.le_of_ble_eq_true rfl) (Nat.le_of_ble_eq_true rfl) ?_
      exact ⟨_, rfl, hP0, by simp [zsec, c_1, Int32.not_le.mp c_2]⟩
abbrev zfl (V : Nat → Nat → Int32) (v : Int32) : Nat → Nat → Int32 := zu (zu (zu (zu V 5 0 v) 5 1 v) 5 2 v) 5 3 v
theorem zb_set5 {o : Nat × Nat × Nat × Nat} {cs : ClassId × ClassId × ClassId × ClassId} {sc lc : Nat} {fa fb : Nat → Option Nat} {ad bd : Nat → Nat} {c : Nat → Nat → Nat} {gp mo : Nat → Int32} {V : Nat → Nat → Int32} {i : Nat} {x : Int32} : (zB o cs sc lc fa fb ad bd c gp mo V).set 3 (o.2.2.2, .inl (cs.1, 4, .inl (upd (V 5) i x))) = zB o cs sc lc fa fb ad bd c gp mo (zu V 5 i x) := by
  unfold zB
  rw [zw_setx (Nat.le_of_ble_eq_true rfl), zu5]
  refine zw_congr (fun k _ => by rw [zcell_u4 (by decide)]) (fun j _ => ?_) rfl
  simp only [zlab, zu_ne (show (4 : Nat) ≠ 5 by decide)]
set_option maxHeartbeats 4000000 in
set_option maxRecDepth 100000 in
theorem t_Ar_fill (l : Launch) (D : va_G) (cs : ClassId × ClassId × ClassId × ClassId) (A : Nat → Prop) (o : Nat × Nat × Nat × Nat) (sc lc : Nat) (fa fb : Nat → Option Nat) (ad bd : Nat → Nat) (c : Nat → Nat → Nat) (gp mo : Nat → Int32) (V : Nat → Nat → Int32) (v : Int32) : zMet l D cs y_Ar_fill c_Ar_fill 4 none ({ frames := 0, cells := 0, slots := 0, locals := 0 } : Room) [.ref o.2.2.2, .int v] (zH D A (zB o cs sc lc fa fb ad bd c gp mo V)) A (zqv fun H => zH D A (zB o cs sc lc fa fb ad bd c gp mo (zfl V v)) H) := by
  refine zmk (by decide) (Nat.le_of_ble_eq_true rfl) ?_
  intro p e s m below meth cd ls E hK hP0 hl
  have hS : va_S A s.heap s.heap [] := va_S.rf
  obtain ⟨hP, hD⟩ := hP0
  obtain ⟨hx, hb, hr, hts, hown, hlocks, hml, hin⟩ := id E
  have hl : lv_has ls 4 [(0, .ref o.2.2.2), (1, .int v)] := hl
  refine lv_iconst (v := 0) hx hb d_Ar_fill_0 (by decide) ?_
  refine lv_istore_n (lv' := [(2, .int 0), (0, .ref o.2.2.2), (1, .int v)]) hx hb d_Ar_fill_1 rfl hl (by decide) rfl (fun ls hl => ?_)
  refine lv_aload_n hx hb d_Ar_fill_2 rfl (lv_at hl 1 rfl) ?_
  refine va_alen hx hb hK.1 hP 3 0 (zb_x rfl) rfl (v := 4) rfl d_Ar_fill_3 ?_
  refine lv_istore_n (lv' := [(3, .int 4), (2, .int 0), (0, .ref o.2.2.2), (1, .int v)]) hx hb d_Ar_fill_4 rfl hl (by decide) rfl (fun ls hl => ?_)
  refine lv_iload_n hx hb d_Ar_fill_5 rfl (lv_at hl 1 rfl) ?_
  refine lv_iload_n hx hb d_Ar_fill_6 rfl (lv_at hl 0 rfl) ?_
  refine lv_icmp_ge (tgt := 20) hx hb d_Ar_fill_7 (by decide) (fun c_3 => ?_) (fun c_3 => ?_)
  · skip
    exact absurd c_3 (by decide)
  · skip
    refine lv_aload_n hx hb d_Ar_fill_10 rfl (lv_at hl 2 rfl) ?_
    refine lv_iload_n hx hb d_Ar_fill_11 rfl (lv_at hl 1 rfl) ?_
    refine lv_iload_n hx hb d_Ar_fill_12 rfl (lv_at hl 3 rfl) ?_
    refine va_iast hx hb hK.1 hP hD hS 3 0 (zb_x rfl) rfl (show ¬ _ from by decide) d_Ar_fill_13 (fun H locs hP hD hS => ?_)
    have hP : va_P D zcl (zB o cs sc lc fa fb ad bd c gp mo (zu V 5 0 v)) H := by rw [← zb_set5]; exact hP
    have hD : va_D A (zB o cs sc lc fa fb ad bd c gp mo (zu V 5 0 v)) := by rw [← zb_set5]; exact hD
    refine lv_iinc (v := 1) (lv' := [(2, .int 1), (3, .int 4), (0, .ref o.2.2.2), (1, .int v)]) hx hb d_Ar_fill_14 hl (k := 1) rfl (by decide) (by decide) rfl (fun ls hl => ?_)
    refine lv_goto (tgt := 5) hx hb d_Ar_fill_17 (by decide) ?_
    refine lv_iload_n hx hb d_Ar_fill_5 rfl (lv_at hl 0 rfl) ?_
    refine lv_iload_n hx hb d_Ar_fill_6 rfl (lv_at hl 1 rfl) ?_
    refine lv_icmp_ge (tgt := 20) hx hb d_Ar_fill_7 (by decide) (fun c_4 => ?_) (fun c_4 => ?_)
    · skip
      exact absurd c_4 (by decide)
    · skip
      refine lv_aload_n hx hb d_Ar_fill_10 rfl (lv_at hl 2 rfl) ?_
      refine lv_iload_n hx hb d_Ar_fill_11 rfl (lv_at hl 0 rfl) ?_
      refine lv_iload_n hx hb d_Ar_fill_12 rfl (lv_at hl 3 rfl) ?_
      refine va_iast hx hb hK.1 hP hD hS 3 0 (zb_x rfl) rfl (show ¬ _ from by decide) d_Ar_fill_13 (fun H locs hP hD hS => ?_)
      have hP : va_P D zcl (zB o cs sc lc fa fb ad bd c gp mo (zu (zu V 5 0 v) 5 1 v)) H := by rw [← zb_set5]; exact hP
      have hD : va_D A (zB o cs sc lc fa fb ad bd c gp mo (zu (zu V 5 0 v) 5 1 v)) := by rw [← zb_set5]; exact hD
      refine lv_iinc (v := 2) (lv' := [(2, .int 2), (3, .int 4), (0, .ref o.2.2.2), (1, .int v)]) hx hb d_Ar_fill_14 hl (k := 0) rfl (by decide) (by decide) rfl (fun ls hl => ?_)
      refine lv_goto (tgt := 5) hx hb d_Ar_fill_17 (by decide) ?_
      refine lv_iload_n hx hb d_Ar_fill_5 rfl (lv_at hl 0 rfl) ?_
      refine lv_iload_n hx hb d_Ar_fill_6 rfl (lv_at hl 1 rfl) ?_
      refine lv_icmp_ge (tgt := 20) hx hb d_Ar_fill_7 (by decide) (fun c_5 => ?_) (fun c_5 => ?_)
      · skip
        exact absurd c_5 (by decide)
      · skip
        refine lv_aload_n hx hb d_Ar_fill_10 rfl (lv_at hl 2 rfl) ?_
        refine lv_iload_n hx hb d_Ar_fill_11 rfl (lv_at hl 0 rfl) ?_
        refine lv_iload_n hx hb d_Ar_fill_12 rfl (lv_at hl 3 rfl) ?_
        refine va_iast hx hb hK.1 hP hD hS 3 0 (zb_x rfl) rfl (show ¬ _ from by decide) d_Ar_fill_13 (fun H locs hP hD hS => ?_)
        have hP : va_P D zcl (zB o cs sc lc fa fb ad bd c gp mo (zu (zu (zu V 5 0 v) 5 1 v) 5 2 v)) H := by rw [← zb_set5]; exact hP
        have hD : va_D A (zB o cs sc lc fa fb ad bd c gp mo (zu (zu (zu V 5 0 v) 5 1 v) 5 2 v)) := by rw [← zb_set5]; exact hD
        refine lv_iinc (v := 3) (lv' := [(2, .int 3), (3, .int 4), (0, .ref o.2.2.2), (1, .int v)]) hx hb d_Ar_fill_14 hl (k := 0) rfl (by decide) (by decide) rfl (fun ls hl => ?_)
        refine lv_goto (tgt := 5) hx hb d_Ar_fill_17 (by decide) ?_
        refine lv_iload_n hx hb d_Ar_fill_5 rfl (lv_at hl 0 rfl) ?_
        refine lv_iload_n hx hb d_Ar_fill_6 rfl (lv_at hl 1 rfl) ?_
        refine lv_icmp_ge (tgt := 20) hx hb d_Ar_fill_7 (by decide) (fun c_6 => ?_) (fun c_6 => ?_)
        · skip
          exact absurd c_6 (by decide)
        · skip
          refine lv_aload_n hx hb d_Ar_fill_10 rfl (lv_at hl 2 rfl) ?_
          refine lv_iload_n hx hb d_Ar_fill_11 rfl (lv_at hl 0 rfl) ?_
          refine lv_iload_n hx hb d_Ar_fill_12 rfl (lv_at hl 3 rfl) ?_
          refine va_iast hx hb hK.1 hP hD hS 3 0 (zb_x rfl) rfl (show ¬ _ from by decide) d_Ar_fill_13 (fun H locs hP hD hS => ?_)
          have hP : va_P D zcl (zB o cs sc lc fa fb ad bd c gp mo (zu (zu (zu (zu V 5 0 v) 5 1 v) 5 2 v) 5 3 v)) H := by rw [← zb_set5]; exact hP
          have hD : va_D A (zB o cs sc lc fa fb ad bd c gp mo (zu (zu (zu (zu V 5 0 v) 5 1 v) 5 2 v) 5 3 v)) := by rw [← zb_set5]; exact hD
          refine lv_iinc (v := 4) (lv' := [(2, .int 4), (3, .int 4), (0, .ref o.2.2.2), (1, .int v)]) hx hb d_Ar_fill_14 hl (k := 0) rfl (by decide) (by decide) rfl (fun ls hl => ?_)
          refine lv_goto (tgt := 5) hx hb d_Ar_fill_17 (by decide) ?_
          refine lv_iload_n hx hb d_Ar_fill_5 rfl (lv_at hl 0 rfl) ?_
          refine lv_iload_n hx hb d_Ar_fill_6 rfl (lv_at hl 1 rfl) ?_
          refine lv_icmp_ge (tgt := 20) hx hb d_Ar_fill_7 (by decide) (fun c_7 => ?_) (fun c_7 => ?_)
          · skip
            refine zrv E d_Ar_fill_20 hS (Nat.le_of_ble_eq_true rfl) (Nat.le_of_ble_eq_true rfl) ?_
            exact ⟨rfl, hP, hD⟩
          · skip
            exact absurd (by decide) c_7
