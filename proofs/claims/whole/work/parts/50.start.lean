theorem zPr_split {D : va_G} {s : State} {H : Heap} {ws : va_W} {b : Nat} {e : va_E} {Wc : (Nat → Prop) → Heap → Prop} (h : zH D (fun x : Nat => s.heap.size ≤ x) (ws ++ [(b, e)]) H) (back : ∀ A2 H2, zH D A2 ws H2 → Wc A2 H2) : zPr s Wc (fun A H => zH D A [(b, e)] H) H := by
  have hpre : ∀ (k : Nat) (q : Nat × va_E), ws[k]? = some q → (ws ++ [(b, e)])[k]? = some q := fun k q hk => by
    rw [List.getElem?_append_left (List.getElem?_eq_some_iff.mp hk).1]
    exact hk
  have hlast : (ws ++ [(b, e)])[ws.length]? = some (b, e) := by rw [List.getElem?_append_right (Nat.le_refl _), Nat.sub_self]; rfl
  refine ⟨fun x => ∃ (k : Nat) (e : va_E), ws[k]? = some (x, e), fun x => x = b, fun x hx hb => ?_, fun x hx => ?_, ?_, zat h hlast⟩
  · obtain ⟨k, e2, hk⟩ := hx
    have h1 := h.2.1 k ws.length _ _ (hpre k _ hk) hlast hb
    have h2 := (List.getElem?_eq_some_iff.mp hk).1
    omega
  · rcases hx with ⟨k, e2, hk⟩ | rfl
    · exact ⟨h.2.2 k _ (hpre k _ hk), (h.1 k _ (hpre k _ hk)).lt⟩
    · exact ⟨h.2.2 _ _ hlast, (h.1 _ _ hlast).lt⟩
  · exact back _ _ ⟨fun k q hk => h.1 k q (hpre k q hk), fun i j p q hi hj => h.2.1 i j p q (hpre i p hi) (hpre j q hj), fun k q hk => ⟨k, q.2, hk⟩⟩
theorem zOk_T {D : va_G} : zOk D (fun _ _ => True) := fun A H _ => ⟨[], ⟨fun k q h => by simp at h, fun i j p q h => by simp at h, fun k q h => by simp at h⟩, fun _ _ _ => trivial⟩
theorem zOk_1 {D : va_G} {ws : va_W} : zOk D (fun A H => zH D A ws H) := fun A H h => ⟨ws, h, fun _ _ h2 => h2⟩
set_option maxHeartbeats 4000000 in
set_option maxRecDepth 100000 in
/-- the tables' facts at the law's entry -/
theorem law_known {s : State} {b : Nat} (hts0 : ∀ w ∈ lw_tbl, w.before #[Value.ref b] s = true) (hgv : (Jvm.Cond.and given_1 narrow_1).before #[Value.ref b] s = true) : ∃ (D : va_G) (cs : ClassId × ClassId × ClassId × ClassId), zK D cs s := by
  have hts : ∀ w ∈ zt, w.before #[Value.ref b] s = true := fun w h => hts0 w (zt_of h)
  have hs := flat_of_before _ hgv
  obtain ⟨c0, iS0, hKn0⟩ := u_known (C := "BranchLayout$Alignment") (T := T_Al) (N := 4) (n := 4) hts in_Al (hts _ w_115)
  obtain ⟨c1, iS1, hKn1⟩ := u_known (C := "BranchLayout$Branch") (T := T_Br) (N := 8) (n := 8) hts in_Br (hts _ w_132)
  obtain ⟨c2, iS2, hKn2⟩ := u_known (C := "BranchLayout$Bytes") (T := T_By) (N := 4) (n := 4) hts in_By (hts _ w_56)
  obtain ⟨c3, iS3, hKn3⟩ := u_known (C := "BranchLayout$Label") (T := T_La) (N := 3) (n := 3) hts in_La (hts _ w_163)
  obtain ⟨c4, iS4, hKn4⟩ := u_known (C := "BranchLayout") (T := T_BL) (N := 5) (n := 5) hts in_BL (hts _ w_12)
  obtain ⟨c5, iS5, hKn5⟩ := u_known (C := "BranchLayoutModel") (T := T_Mo) (N := 17) (n := 17) hts in_Mo (hts _ w_260)
  obtain ⟨cI, kI, compI, hI1, hI2, hI3⟩ := Cond.arrayClass_spec (hts _ w_39)
  obtain ⟨cZ, kZ, compZ, hZ1, hZ2, hZ3⟩ := Cond.arrayClass_spec (hts _ w_317)
  obtain ⟨compS, cS, kS, hS1, -, hS2, hS3, hS4⟩ := Cond.arrayOver_spec (hts0 _ w_20)
  obtain ⟨compL, cL, kL, hL1, -, hL2, hL3, hL4⟩ := Cond.arrayOver_spec (hts0 _ w_22)
  refine ⟨(fun k => if k = 0 then c0 else if k = 1 then c1 else if k = 2 then c2 else if k = 3 then c3 else if k = 4 then c4 else c5, fun k => if k = 0 then iS0 else if k = 1 then iS1 else if k = 2 then iS2 else if k = 3 then iS3 else if k = 4 then iS4 else iS5), (cI, cZ, cS, cL), ⟨?_, ?_⟩, ?_⟩
  · intro k q hq
    match k, hq with
    | 0, hq => cases hq; exact hKn0
    | 1, hq => cases hq; exact hKn1
    | 2, hq => cases hq; exact hKn2
    | 3, hq => cases hq; exact hKn3
    | 4, hq => cases hq; exact hKn4
    | 5, hq => cases hq; exact hKn5
    | k + 6, hq => simp [zcl] at hq
  · intro k q hq
    match k, hq with
    | 0, hq => cases hq; exact ⟨fun n z => ⟨fun k h => (by cases h), kI, hI2, compI, hI3⟩, hI1⟩
    | 1, hq => cases hq; exact ⟨fun n z => ⟨fun k h => (by cases h), kZ, hZ2, compZ, hZ3⟩, hZ1⟩
    | 2, hq => cases hq; exact ⟨fun n z => ⟨fun k h => (by cases h), kS, hS2, compS, hS3⟩, kS, compS, hS2, hS3, hS1, hS4⟩
    | 3, hq => cases hq; exact ⟨fun n z => ⟨fun k h => (by cases h), kL, hL2, compL, hL3⟩, kL, compL, hL2, hL3, hL1, hL4⟩
    | k + 4, hq => simp [zty] at hq
  · exact ⟨va_Nw.of rfl (hts0 _ w_139), va_Nw.of rfl (hts0 _ w_141), va_Nw.of rfl (hts0 _ w_143), va_Nw.of rfl (hts0 _ w_212), va_Nw.of rfl (hts0 _ w_373), va_Nw.of rfl (hts0 _ w_374), va_Nw.of rfl (hts0 _ w_375), va_Nw.of rfl (hts0 _ w_376), va_AO.of (hts0 _ w_20), va_AO.of (hts0 _ w_22), va_Nc.of (hs (.not (.castable "BranchLayout$Alignment" "BranchLayout$Branch")) (by decide +kernel)), va_Nc.of (hs (.not (.castable "BranchLayout$Bytes" "BranchLayout$Branch")) (by decide +kernel))⟩
set_option maxHeartbeats 4000000 in
set_option maxRecDepth 100000 in
/-- THE LAW, from its entry -/
theorem whole_start {p : Program} {e : Env} {s : State} {m : MethodId} {below : List Frame} {meth : Method} {c : Code} (l : Launch) {b L : Nat} {xs : Nat → Int32} (hL : L ≤ 2048) (C0 : lw_At p s m meth c b L xs) : W p l e room_1 s m #[Value.ref b] below meth c s.heap [] 0 0 (lw_Z below #[Value.ref b] s) (entryFrame m ([Value.ref b] : List Value).toArray 4) := by
  obtain ⟨hx, hb, hr, hml, hown, hts0, hX, hbl, hlocks, hgv⟩ := id C0
  have hts : ∀ w ∈ zt, w.before #[Value.ref b] s = true := fun w h => hts0 w (zt_of h)
  have E : zE p s m meth c #[Value.ref b] "BranchLayoutLaw" meth.name c_Lw_law 4 ret := ⟨hx, hb, hr, hts, hown, hlocks, hml, rfl⟩
  obtain ⟨D, cs, hK⟩ := law_known hts0 hgv
  have hA : ∀ q : Nat, s.heap.size ≤ q → (fun q : Nat => s.heap.size ≤ q) q := fun _ h => h
  have hS : va_S (fun q : Nat => s.heap.size ≤ q) s.heap s.heap [] := va_S.rf
  have hP : va_P D zcl [] s.heap := fun k q h => by simp at h
  have hD : va_D (fun q : Nat => s.heap.size ≤ q) [] := ⟨fun i j p q h => by simp at h, fun k q h => by simp at h⟩
  have hl := lv_entry ([.ref b]) (n := 4) (Nat.le_of_ble_eq_true rfl)
  rw [lg_entry_eq]
  generalize (lg_sl ([.ref b]) ++ List.replicate (4 - (lg_sl ([.ref b])).length) Slot.unset).toArray = ls at hl ⊢
  have hl : lv_has ls 4 [(0, .ref b)] := hl
  refine va_new (ws := []) (ci := 4) (fs := [.null, .null, .null, .int 0, .int 0]) (C := "BranchLayout") (T := T_BL) (N := 5) hx hb hts in_BL ty_BL ok_BL hown (hts _ w_11) (hts _ w_12) (hts _ w_1) hK.1 hP hD hS hA rfl (fun j hj => by rcases (show j = 0 ∨ j = 1 ∨ j = 2 ∨ j = 3 ∨ j = 4 by omega) with rfl | rfl | rfl | rfl | rfl <;> rfl) (by show 0 + 1 ≤ 600000; omega) (by show 0 + 5 ≤ 7302250; omega) d_Lw_law_0 (fun q1 H hP hD hS => ?_)
  refine W.widen (k := 1) (n := 5) (by omega) (by omega) ?_
  have hPr0 := zPr_split (Wc := fun _ _ => True) ⟨hP, hD⟩ (fun _ _ _ => trivial)
  obtain ⟨A1, hW1, hA1, hA1s, hback⟩ := zPr_C (D := D) hS.1 zOk_1 zOk_T (zPr_swap hPr0)
  refine lv_dup hx hb d_Lw_law_3 rfl ?_
  refine zcI [] [.ref q1] E (t_BL_init l D cs A1 q1) d_Lw_law_4 w_13 w_14 w_1 w_15 rfl ⟨by decide +kernel, by decide +kernel, (by decide +kernel : Option.map (fun d => d.parameters.length) (parseMethodDescriptor "()V") = some 0)⟩ ⟨(Nat.le_of_ble_eq_true rfl), (Nat.le_of_ble_eq_true rfl)⟩ ⟨by show 1 + 3 ≤ 600000; omega, by show 5 + 5124 ≤ 7302250; omega⟩ rfl (Nat.le_of_ble_eq_true rfl) hl.1 hK ⟨hW1, hA1⟩ hS hA1s (zkv fun H1 locs hq1 hz1 hk1 hS => ?_)
  refine W.widen (k := 4) (n := 5129) (by show 1 + 3 ≤ _; omega) (by show 5 + 5124 ≤ _; omega) ?_
  obtain ⟨o, rfl, hw1⟩ := hq1
  have hPr1 := hback (fun A H => zCW D A o cs 0 0 (fun _ _ => 0) (fun _ => 0) (fun _ => 0) (fun _ _ => 0) H) H1 zOk_C hz1 hk1 hw1
  refine lv_astore_n (lv' := [(1, .ref o.1), (0, .ref b)]) hx hb d_Lw_law_7 rfl hl (by decide) rfl (fun ls hl => ?_)
  obtain ⟨Ac, Ar, hd1, hd2, hWc, -⟩ := hPr1
  obtain ⟨ws, hz, back⟩ := zOk_C Ac H1 hWc
  have hP := hz.1
  have hD : va_D (fun q : Nat => s.heap.size ≤ q) ws := hz.2.weaken (fun _ q _ h => (hd2 q.1 (Or.inl h)).1)
  refine va_new (ws := ws) (ci := 5) (fs := [.int 0, .int 0, .int 0, .null, .null, .null, .null, .null, .null, .null, .null, .null, .null, .null, .null, .null, .null]) (C := "BranchLayoutModel") (T := T_Mo) (N := 17) hx hb hts in_Mo ty_Mo ok_Mo hown (hts _ w_259) (hts _ w_260) (hts _ w_2) hK.1 hP hD hS hA rfl (fun j hj => by rcases (show j = 0 ∨ j = 1 ∨ j = 2 ∨ j = 3 ∨ j = 4 ∨ j = 5 ∨ j = 6 ∨ j = 7 ∨ j = 8 ∨ j = 9 ∨ j = 10 ∨ j = 11 ∨ j = 12 ∨ j = 13 ∨ j = 14 ∨ j = 15 ∨ j = 16 by omega) with rfl | rfl | rfl | rfl | rfl | rfl | rfl | rfl | rfl | rfl | rfl | rfl | rfl | rfl | rfl | rfl | rfl <;> rfl) (by show 4 + 1 ≤ 600000; omega) (by show 5129 + 17 ≤ 7302250; omega) d_Lw_law_8 (fun q2 H hP hD hS => ?_)
  refine W.widen (k := 5) (n := 5146) (by show 4 + 1 ≤ _; omega) (by show 5129 + 17 ≤ _; omega) ?_
  have hPr2 := zPr_split (Wc := fun A H => zCW D A o cs 0 0 (fun _ _ => 0) (fun _ => 0) (fun _ => 0) (fun _ _ => 0) H) ⟨hP, hD⟩ back
  obtain ⟨A2, hW2, hA2, hA2s, hback2⟩ := zPr_C (D := D) hS.1 zOk_1 zOk_C (zPr_swap hPr2)
  refine lv_dup hx hb d_Lw_law_11 rfl ?_
  refine zcI [] [.ref q2] E (t_Mo_init l D cs A2 q2) d_Lw_law_12 w_261 w_262 w_2 w_263 rfl ⟨by decide +kernel, by decide +kernel, (by decide +kernel : Option.map (fun d => d.parameters.length) (parseMethodDescriptor "()V") = some 0)⟩ ⟨(Nat.le_of_ble_eq_true rfl), (Nat.le_of_ble_eq_true rfl)⟩ ⟨by show 5 + 14 ≤ 600000; omega, by show 5146 + 44036 ≤ 7302250; omega⟩ rfl (Nat.le_of_ble_eq_true rfl) hl.1 hK ⟨hW2, hA2⟩ hS hA2s (zkv fun H2 locs hq2 hz2 hk2 hS => ?_)
  refine W.widen (k := 19) (n := 49182) (by show 5 + 14 ≤ _; omega) (by show 5146 + 44036 ≤ _; omega) ?_
  obtain ⟨q, rfl, hw2⟩ := hq2
  have hPr3 := zPr_swap (hback2 (fun A H => zRW D A q cs 0 0 (fun _ _ => 0) (fun _ => 0) (fun _ => 0) (fun _ _ => 0) H) H2 zOk_R hz2 hk2 hw2)
  refine lv_astore_n (lv' := [(2, .ref (q 0)), (1, .ref o.1), (0, .ref b)]) hx hb d_Lw_law_15 rfl hl (by decide) rfl (fun ls hl => ?_)
  refine lv_iconst (v := 0) hx hb d_Lw_law_16 (by decide) ?_
  refine lv_istore_n (lv' := [(3, .int 0), (2, .ref (q 0)), (1, .ref o.1), (0, .ref b)]) hx hb d_Lw_law_17 rfl hl (by decide) rfl (fun ls hl => ?_)
  refine W.widen (k := 19 + 0) (n := 49182 + 8 * 0) (by omega) (by omega) ?_
  exact law_loop o q hL C0 hK 513 0 0 0 _ _ _ _ _ _ ls (by omega) (by omega) zI_clear zJ_clear hPr3 hS (by show lv_has ls 4 [(3, .int (nI 0)), (2, .ref (q 0)), (1, .ref o.1), (0, .ref b)]; rw [nI_0]; exact lv_sub hl [0, 1, 2, 3] rfl)
