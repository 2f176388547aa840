set_option maxHeartbeats 4000000 in
set_option maxRecDepth 100000 in
theorem t_Mo_relax (l : Launch) (D : va_G) (cs : ClassId × ClassId × ClassId × ClassId) (A : Nat → Prop) (q : Nat → Nat) (sc lc : Nat) (c : Nat → Nat → Nat) (gp mo : Nat → Int32) (V : Nat → Nat → Int32) (hI : zI sc lc c gp) : zMet l D cs y_Mo_relax c_Mo_relax 4 (some FieldType.int) ({ frames := 1, cells := 0, slots := 0, locals := 25 } : Room) [.ref (q 0)] (zRW D A q cs sc lc c gp mo V) A (zqi fun r H => ∃ V2, zRx c gp mo sc lc V2 r ∧ zRW D A q cs sc lc c gp mo V2 H) := by
  refine zmk (by decide) (Nat.le_of_ble_eq_true rfl) ?_
  intro p e s m below meth cd ls E hK hP0 hl
  have hS : va_S A s.heap s.heap [] := va_S.rf
  obtain ⟨th, R, hG, hP, hD⟩ := hP0
  have hsc := hI.1
  have hlc := hI.2.1
  obtain ⟨hx, hb, hr, hts, hown, hlocks, hml, hin⟩ := id E
  have hl : lv_has ls 4 [(0, .ref (q 0))] := hl
  refine lv_aload_n hx hb d_Mo_relax_0 rfl (lv_at hl 0 rfl) ?_
  refine lv_iconst (v := 0) hx hb d_Mo_relax_1 (by decide) ?_
  refine va_put (D := D) (ci := 5) (v := .int 0) (ty := .int) (C := "BranchLayoutModel") (T := T_Mo) (N := 17) hx hb hts in_Mo ty_Mo ok_Mo nm_Mo hown hK.1 hP hD hS 0 rfl rfl 0 (by decide) (hts _ w_265) (fun _ h9 => h9) rfl (by decide +kernel) rfl rfl (Nat.le_of_ble_eq_true rfl) d_Mo_relax_2 (fun H locs hP hD hS => ?_)
  have hP : va_P D zcl (zM q cs 0 sc lc R) H := hP
  have hD : va_D A (zM q cs 0 sc lc R) := hD
  refine lv_iconst (v := 0) hx hb d_Mo_relax_5 (by decide) ?_
  refine lv_istore_n (lv' := [(1, .int 0), (0, .ref (q 0))]) hx hb d_Mo_relax_6 rfl hl (by decide) rfl (fun ls hl => ?_)
  have hst : ∀ RW : Nat → Nat → Int32, (∀ f i, f = 3 ∨ f = 4 ∨ f = 5 ∨ f = 6 ∨ f = 7 ∨ f = 8 ∨ f = 9 → RW f i = R f i) → (∀ k, k < sc → RW 3 k = nI (c 0 k) ∧ RW 4 k = nI (c 1 k) ∧ RW 5 k = nI (c 2 k) ∧ RW 6 k = gp k ∧ RW 7 k = mo k) ∧ ∀ j, j < lc → RW 8 j = nI (c 3 j) ∧ RW 9 j = nI (c 4 j) := fun RW h => by
    refine ⟨fun k hk => ?_, fun j hj => ?_⟩
    · obtain ⟨a1, a2, a3, a4, a5, -⟩ := hG.1 k hk
      exact ⟨by rw [h 3 k (by simp), a1], by rw [h 4 k (by simp), a2], by rw [h 5 k (by simp), a3], by rw [h 6 k (by simp), a4], by rw [h 7 k (by simp), a5]⟩
    · obtain ⟨a1, a2, -⟩ := hG.2.1 j hj
      exact ⟨by rw [h 8 j (by simp), a1], by rw [h 9 j (by simp), a2]⟩
  have loopE : ∀ RW : Nat → Nat → Int32, (∀ f i, f = 3 ∨ f = 4 ∨ f = 5 ∨ f = 6 ∨ f = 7 ∨ f = 8 ∨ f = 9 → RW f i = R f i) → (∀ k, k < sc → (RW 10 k = 0 ∨ RW 10 k = 1) ∧ (RW 10 k = 1 → ¬ gp k = -1)) → zRx c gp mo sc lc (zVR (zEn gp mo RW sc)) (nI (zcb c (zbr (zVB RW)) sc)) → ∀ (n k : Nat) (H : Heap) (locs : List Loc) (ls : Array Slot), k ≤ sc → sc + 1 ≤ k + n → zH D A (zM q cs 0 sc lc (zEn gp mo RW k)) H → va_S A s.heap H locs → lv_has ls 4 [(3, .int (nI k)), (2, .int (nI (zcb c (zbr (zVB RW)) k))), (0, .ref (q 0))] → W p l e ({ frames := 1, cells := 0, slots := 0, locals := 25 } : Room) s m ([.ref (q 0)] : List Value).toArray below meth cd H locs 0 0 (zQ below s ([.ref (q 0)] : List Value).toArray A (zqi fun r H => ∃ V2, zRx c gp mo sc lc V2 r ∧ zRW D A q cs sc lc c gp mo V2 H) ({ frames := 1, cells := 0, slots := 0, locals := 25 } : Room)) (F0 m 158 ls []) := by
    intro RW hrw h10 hRx n
    induction n with
    | zero => intro k H locs ls h1 h2; omega
    | succ n ih =>
      intro k H locs ls hk hn hw hS hl
      obtain ⟨hP, hD⟩ := id hw
      refine lv_iload_n hx hb d_Mo_relax_158 rfl (lv_at hl 0 rfl) ?_
      refine lv_aload_n hx hb d_Mo_relax_159 rfl (lv_at hl 2 rfl) ?_
      refine va_get (D := D) (ci := 5) (v := .int (nI sc)) (C := "BranchLayoutModel") (T := T_Mo) (N := 17) hx hb hts in_Mo hown hK.1 hP 0 rfl rfl 1 (by decide) (hts _ w_266) (fun _ h9 => h9) rfl d_Mo_relax_160 ?_
      refine lv_icmp_ge (tgt := 236) hx hb d_Mo_relax_163 (by decide) (fun c_4 => ?_) (fun c_4 => ?_)
      · skip
        have hks : k = sc := Nat.le_antisymm hk ((nI_leI (by omega) (by omega)).mp c_4)
        refine lv_iload_n hx hb d_Mo_relax_236 rfl (lv_at hl 1 rfl) ?_
        refine zri E d_Mo_relax_237 hS (Nat.le_of_ble_eq_true rfl) (Nat.le_of_ble_eq_true rfl) ?_
        rw [hks] at hw
        refine ⟨_, rfl, zVR (zEn gp mo RW sc), by rw [hks]; exact hRx, 0, _, ?_, hw⟩
        obtain ⟨s1, s2⟩ := hst (zEn gp mo RW sc) (fun f i hf => by rw [zEn_o (by rcases hf with h | h | h | h | h | h | h <;> rw [h] <;> decide) (by rcases hf with h | h | h | h | h | h | h <;> rw [h] <;> decide)]; exact hrw f i hf)
        exact ⟨fun k hk => ⟨(s1 k hk).1, (s1 k hk).2.1, (s1 k hk).2.2.1, (s1 k hk).2.2.2.1, (s1 k hk).2.2.2.2, by simp [zVR], by simp [zVR], by simp [zVR], by simp [zVR]⟩, fun j hj => ⟨(s2 j hj).1, (s2 j hj).2, by simp [zVR]⟩, fun i hi => by simp [zVR]⟩
      · skip
        have hlt : k < sc := Nat.lt_of_not_le fun q => c_4 (nI_le q (by omega))
        obtain ⟨hv1, hv2⟩ := h10 k hlt
        obtain ⟨s1, -⟩ := hst RW hrw
        obtain ⟨r3, r4, r5, r6, r7⟩ := s1 k hlt
        obtain ⟨g1, g2, g3, g4, g5, g6⟩ := hI.2.2.1 k hlt
        have z3 : zEn gp mo RW k 3 k = RW 3 k := zEn_o (by decide) (by decide)
        have z6 : zEn gp mo RW k 6 k = RW 6 k := zEn_o (by decide) (by decide)
        have z7 : zEn gp mo RW k 7 k = RW 7 k := zEn_o (by decide) (by decide)
        have z10 : zEn gp mo RW k 10 k = RW 10 k := zEn_o (by decide) (by decide)
        have hbn : vp_nar .boolean (RW 10 k) = RW 10 k := by rcases hv1 with q | q <;> rw [q] <;> rfl
        refine lv_aload_n hx hb d_Mo_relax_166 rfl (lv_at hl 2 rfl) ?_
        refine va_get (D := D) (ci := 5) (v := .ref (q 16)) (C := "BranchLayoutModel") (T := T_Mo) (N := 17) hx hb hts in_Mo hown hK.1 hP 0 rfl rfl 16 (by decide) (hts _ w_281) (fun _ h9 => h9) rfl d_Mo_relax_167 ?_
        refine lv_iload_n hx hb d_Mo_relax_170 rfl (lv_at hl 0 rfl) ?_
        refine lv_aload_n hx hb d_Mo_relax_171 rfl (lv_at hl 2 rfl) ?_
        refine va_get (D := D) (ci := 5) (v := .ref (q 10)) (C := "BranchLayoutModel") (T := T_Mo) (N := 17) hx hb hts in_Mo hown hK.1 hP 0 rfl rfl 10 (by decide) (hts _ w_275) (fun _ h9 => h9) rfl d_Mo_relax_172 ?_
        refine lv_iload_n hx hb d_Mo_relax_175 rfl (lv_at hl 0 rfl) ?_
        refine va_zald hx hb hK.1 hP 8 1 rfl rfl (vp_in_nI (show k < 4096 by omega) (by decide)) d_Mo_relax_176 ?_
        rw [nI_clamp (show k < 2 ^ 31 by omega)]
        rw [z10]
        refine va_zast hx hb hK.1 hP hD hS 14 1 rfl rfl (vp_in_nI (show k < 4096 by omega) (by decide)) d_Mo_relax_177 (fun H locs hP hD hS => ?_)
        rw [nI_clamp (show k < 2 ^ 31 by omega), hbn, zm_set_16] at hP hD
        have y3 : (zu (zEn gp mo RW k) 16 k (RW 10 k)) 3 k = RW 3 k := by rw [zu_ne (by decide), z3]
        have y6 : (zu (zEn gp mo RW k) 16 k (RW 10 k)) 6 k = RW 6 k := by rw [zu_ne (by decide), z6]
        have y7 : (zu (zEn gp mo RW k) 16 k (RW 10 k)) 7 k = RW 7 k := by rw [zu_ne (by decide), z7]
        have y10 : (zu (zEn gp mo RW k) 16 k (RW 10 k)) 10 k = RW 10 k := by rw [zu_ne (by decide), z10]
        refine lv_aload_n hx hb d_Mo_relax_178 rfl (lv_at hl 2 rfl) ?_
        refine va_get (D := D) (ci := 5) (v := .ref (q 13)) (C := "BranchLayoutModel") (T := T_Mo) (N := 17) hx hb hts in_Mo hown hK.1 hP 0 rfl rfl 13 (by decide) (hts _ w_278) (fun _ h9 => h9) rfl d_Mo_relax_179 ?_
        refine lv_iload_n hx hb d_Mo_relax_182 rfl (lv_at hl 0 rfl) ?_
        refine lv_aload_n hx hb d_Mo_relax_183 rfl (lv_at hl 2 rfl) ?_
        refine va_get (D := D) (ci := 5) (v := .ref (q 10)) (C := "BranchLayoutModel") (T := T_Mo) (N := 17) hx hb hts in_Mo hown hK.1 hP 0 rfl rfl 10 (by decide) (hts _ w_275) (fun _ h9 => h9) rfl d_Mo_relax_184 ?_
        refine lv_iload_n hx hb d_Mo_relax_187 rfl (lv_at hl 0 rfl) ?_
        refine va_zald hx hb hK.1 hP 8 1 rfl rfl (vp_in_nI (show k < 4096 by omega) (by decide)) d_Mo_relax_188 ?_
        rw [nI_clamp (show k < 2 ^ 31 by omega)]
        rw [y10]
        refine lv_if_eq (tgt := 201) hx hb d_Mo_relax_189 (by decide) (fun c_5 => ?_) (fun c_5 => ?_)
        · skip
          have h1n : ¬ RW 10 k = 1 := by rw [c_5]; decide
          refine lv_iconst (v := 0) hx hb d_Mo_relax_201 (by decide) ?_
          refine va_iast hx hb hK.1 hP hD hS 11 0 rfl rfl (vp_in_nI (show k < 4096 by omega) (by decide)) d_Mo_relax_202 (fun H locs hP hD hS => ?_)
          rw [nI_clamp (show k < 2 ^ 31 by omega), zm_set_13] at hP hD
          have x10 : (zu (zu (zEn gp mo RW k) 16 k (RW 10 k)) 13 k 0) 10 k = RW 10 k := by rw [zu_ne (by decide), y10]
          have x3 : (zu (zu (zEn gp mo RW k) 16 k (RW 10 k)) 13 k 0) 3 k = nI (c 0 k) := by rw [zu_ne (by decide), y3, r3]
          refine lv_iload_n hx hb d_Mo_relax_203 rfl (lv_at hl 1 rfl) ?_
          refine lv_aload_n hx hb d_Mo_relax_204 rfl (lv_at hl 2 rfl) ?_
          refine va_get (D := D) (ci := 5) (v := .ref (q 3)) (C := "BranchLayoutModel") (T := T_Mo) (N := 17) hx hb hts in_Mo hown hK.1 hP 0 rfl rfl 3 (by decide) (hts _ w_268) (fun _ h9 => h9) rfl d_Mo_relax_205 ?_
          refine lv_iload_n hx hb d_Mo_relax_208 rfl (lv_at hl 0 rfl) ?_
          refine va_iald hx hb hK.1 hP 1 0 rfl rfl (vp_in_nI (show k < 4096 by omega) (by decide)) d_Mo_relax_209 ?_
          rw [nI_clamp (show k < 2 ^ 31 by omega)]
          rw [x3]
          refine lv_iconst (v := 2) hx hb d_Mo_relax_210 (by decide) ?_
          have e2 : (2 : Int32) = nI 2 := by decide
          rw [e2]
          refine lv_icmp_ne (tgt := 227) hx hb d_Mo_relax_211 (by decide) (fun c_6 => ?_) (fun c_6 => ?_)
          · skip
            have hn2 : ¬ c 0 k = 2 := fun q => c_6 (by rw [q])
            refine lv_iconst (v := 0) hx hb d_Mo_relax_227 (by decide) ?_
            have ecb : zcb c (zbr (zVB RW)) (k + 1) = zcb c (zbr (zVB RW)) k + 0 := by simp [zcb, hn2]
            have e9 : (0 : Int32) = nI 0 := by decide
            rw [e9]
            refine lv_iadd hx hb d_Mo_relax_228 ?_
            rw [nI_add]
            refine lv_istore_n (lv' := [(2, .int (nI (zcb c (zbr (zVB RW)) k + 0))), (3, .int (nI k)), (0, .ref (q 0))]) hx hb d_Mo_relax_229 rfl hl (by decide) rfl (fun ls hl => ?_)
            refine lv_iinc (v := nI (k + 1)) (lv' := [(3, .int (nI (k + 1))), (2, .int (nI (zcb c (zbr (zVB RW)) k + 0))), (0, .ref (q 0))]) hx hb d_Mo_relax_230 hl (k := 1) rfl (nI_1 k) (by decide) rfl (fun ls hl => ?_)
            refine lv_goto (tgt := 158) hx hb d_Mo_relax_233 (by decide) ?_
            have ez := zEn_s (gp := gp) (mo := mo) (R := RW) (k := k)
            rw [if_neg h1n] at ez
            exact ih (k + 1) _ _ ls hlt (by omega) ⟨by rw [← ez]; exact hP, by rw [← ez]; exact hD⟩ hS (by rw [ecb]; exact lv_sub hl [0, 1, 2] rfl)
          · skip
            have hk2 : c 0 k = 2 := (nI_eq (by omega) (by decide)).mp c_6
            refine lv_aload_n hx hb d_Mo_relax_214 rfl (lv_at hl 2 rfl) ?_
            refine va_get (D := D) (ci := 5) (v := .ref (q 10)) (C := "BranchLayoutModel") (T := T_Mo) (N := 17) hx hb hts in_Mo hown hK.1 hP 0 rfl rfl 10 (by decide) (hts _ w_275) (fun _ h9 => h9) rfl d_Mo_relax_215 ?_
            refine lv_iload_n hx hb d_Mo_relax_218 rfl (lv_at hl 0 rfl) ?_
            refine va_zald hx hb hK.1 hP 8 1 rfl rfl (vp_in_nI (show k < 4096 by omega) (by decide)) d_Mo_relax_219 ?_
            rw [nI_clamp (show k < 2 ^ 31 by omega)]
            rw [x10]
            refine lv_if_ne (tgt := 227) hx hb d_Mo_relax_220 (by decide) (fun c_7 => ?_) (fun c_7 => ?_)
            · skip
              have hbt : zbr (zVB RW) k = true := by have := hv1.resolve_left c_7; simp [zbr, zVB, this]
              refine lv_iconst (v := 0) hx hb d_Mo_relax_227 (by decide) ?_
              have ecb : zcb c (zbr (zVB RW)) (k + 1) = zcb c (zbr (zVB RW)) k + 0 := by simp [zcb, hbt]
              have e9 : (0 : Int32) = nI 0 := by decide
              rw [e9]
              refine lv_iadd hx hb d_Mo_relax_228 ?_
              rw [nI_add]
              refine lv_istore_n (lv' := [(2, .int (nI (zcb c (zbr (zVB RW)) k + 0))), (3, .int (nI k)), (0, .ref (q 0))]) hx hb d_Mo_relax_229 rfl hl (by decide) rfl (fun ls hl => ?_)
              refine lv_iinc (v := nI (k + 1)) (lv' := [(3, .int (nI (k + 1))), (2, .int (nI (zcb c (zbr (zVB RW)) k + 0))), (0, .ref (q 0))]) hx hb d_Mo_relax_230 hl (k := 1) rfl (nI_1 k) (by decide) rfl (fun ls hl => ?_)
              refine lv_goto (tgt := 158) hx hb d_Mo_relax_233 (by decide) ?_
              have ez := zEn_s (gp := gp) (mo := mo) (R := RW) (k := k)
              rw [if_neg h1n] at ez
              exact ih (k + 1) _ _ ls hlt (by omega) ⟨by rw [← ez]; exact hP, by rw [← ez]; exact hD⟩ hS (by rw [ecb]; exact lv_sub hl [0, 1, 2] rfl)
            · skip
              have hbf : zbr (zVB RW) k = false := by simp [zbr, zVB, c_7]
              refine lv_iconst (v := 1) hx hb d_Mo_relax_223 (by decide) ?_
              refine lv_goto (tgt := 228) hx hb d_Mo_relax_224 (by decide) ?_
              have ecb : zcb c (zbr (zVB RW)) (k + 1) = zcb c (zbr (zVB RW)) k + 1 := by simp [zcb, hk2, hbf]
              have e9 : (1 : Int32) = nI 1 := by decide
              rw [e9]
              refine lv_iadd hx hb d_Mo_relax_228 ?_
              rw [nI_add]
              refine lv_istore_n (lv' := [(2, .int (nI (zcb c (zbr (zVB RW)) k + 1))), (3, .int (nI k)), (0, .ref (q 0))]) hx hb d_Mo_relax_229 rfl hl (by decide) rfl (fun ls hl => ?_)
              refine lv_iinc (v := nI (k + 1)) (lv' := [(3, .int (nI (k + 1))), (2, .int (nI (zcb c (zbr (zVB RW)) k + 1))), (0, .ref (q 0))]) hx hb d_Mo_relax_230 hl (k := 1) rfl (nI_1 k) (by decide) rfl (fun ls hl => ?_)
              refine lv_goto (tgt := 158) hx hb d_Mo_relax_233 (by decide) ?_
              have ez := zEn_s (gp := gp) (mo := mo) (R := RW) (k := k)
              rw [if_neg h1n] at ez
              exact ih (k + 1) _ _ ls hlt (by omega) ⟨by rw [← ez]; exact hP, by rw [← ez]; exact hD⟩ hS (by rw [ecb]; exact lv_sub hl [0, 1, 2] rfl)
        · skip
          have h11 := hv1.resolve_left c_5
          refine lv_aload_n hx hb d_Mo_relax_192 rfl (lv_at hl 2 rfl) ?_
          refine lv_iload_n hx hb d_Mo_relax_193 rfl (lv_at hl 0 rfl) ?_
          have e6 : (zu (zEn gp mo RW k) 16 k (RW 10 k)) 6 k = gp k := by rw [y6, r6]
          have e7 : (zu (zEn gp mo RW k) 16 k (RW 10 k)) 7 k = mo k := by rw [y7, r7]
          refine zcV [.int (nI k)] [.int (nI k), .ref (q 13)] E (t_Mo_distance l D cs A q 0 sc lc (zu (zEn gp mo RW k) 16 k (RW 10 k)) hsc hlc k hlt (by rw [e6]; exact g5) (by rw [e6]; exact hv2 h11) _ ⟨hP, hD⟩) d_Mo_relax_194 w_355 w_357 ws_Mo_distance w_2 w_358 ⟨rfl, by decide +kernel, by decide +kernel, (by decide +kernel : Option.map (fun d => d.parameters.length) (parseMethodDescriptor "(I)J") = some 1)⟩ ⟨(Nat.le_of_ble_eq_true rfl), (Nat.le_of_ble_eq_true rfl)⟩ ⟨(Nat.le_of_ble_eq_true rfl), (Nat.le_of_ble_eq_true rfl)⟩ rfl (Nat.le_of_ble_eq_true rfl) hl.1 (zrec hK hP (ci := 5) (i := 0) rfl rfl) hK rfl hS (fun _ h => h.elim) (zkl fun d H2 locs2 hq _ _ hS2 => ?_)
          obtain ⟨e8, ed⟩ := hq
          subst e8
          have hS := hS2
          have ed2 : d = zdi gp mo (zVR RW) k := ed.trans (zdi_RR e6 e7 (by funext i; simp [zVR, zu, zEn]) (by funext i; simp [zVR, zu, zEn]) (by funext i; simp [zVR, zu, zEn]))
          refine lv_l2i hx hb d_Mo_relax_197 rfl ?_
          refine lv_goto (tgt := 202) hx hb d_Mo_relax_198 (by decide) ?_
          refine va_iast hx hb hK.1 hP hD hS 11 0 rfl rfl (vp_in_nI (show k < 4096 by omega) (by decide)) d_Mo_relax_202 (fun H locs hP hD hS => ?_)
          rw [nI_clamp (show k < 2 ^ 31 by omega), zm_set_13] at hP hD
          have x10 : (zu (zu (zEn gp mo RW k) 16 k (RW 10 k)) 13 k d.toInt32) 10 k = RW 10 k := by rw [zu_ne (by decide), y10]
          have x3 : (zu (zu (zEn gp mo RW k) 16 k (RW 10 k)) 13 k d.toInt32) 3 k = nI (c 0 k) := by rw [zu_ne (by decide), y3, r3]
          refine lv_iload_n hx hb d_Mo_relax_203 rfl (lv_at hl 1 rfl) ?_
          refine lv_aload_n hx hb d_Mo_relax_204 rfl (lv_at hl 2 rfl) ?_
          refine va_get (D := D) (ci := 5) (v := .ref (q 3)) (C := "BranchLayoutModel") (T := T_Mo) (N := 17) hx hb hts in_Mo hown hK.1 hP 0 rfl rfl 3 (by decide) (hts _ w_268) (fun _ h9 => h9) rfl d_Mo_relax_205 ?_
          refine lv_iload_n hx hb d_Mo_relax_208 rfl (lv_at hl 0 rfl) ?_
          refine va_iald hx hb hK.1 hP 1 0 rfl rfl (vp_in_nI (show k < 4096 by omega) (by decide)) d_Mo_relax_209 ?_
          rw [nI_clamp (show k < 2 ^ 31 by omega)]
          rw [x3]
          refine lv_iconst (v := 2) hx hb d_Mo_relax_210 (by decide) ?_
          have e2 : (2 : Int32) = nI 2 := by decide
          rw [e2]
          refine lv_icmp_ne (tgt := 227) hx hb d_Mo_relax_211 (by decide) (fun c_8 => ?_) (fun c_8 => ?_)
          · skip
            have hn2 : ¬ c 0 k = 2 := fun q => c_8 (by rw [q])
            refine lv_iconst (v := 0) hx hb d_Mo_relax_227 (by decide) ?_
            have ecb : zcb c (zbr (zVB RW)) (k + 1) = zcb c (zbr (zVB RW)) k + 0 := by simp [zcb, hn2]
            have e9 : (0 : Int32) = nI 0 := by decide
            rw [e9]
            refine lv_iadd hx hb d_Mo_relax_228 ?_
            rw [nI_add]
            refine lv_istore_n (lv' := [(2, .int (nI (zcb c (zbr (zVB RW)) k + 0))), (3, .int (nI k)), (0, .ref (q 0))]) hx hb d_Mo_relax_229 rfl hl (by decide) rfl (fun ls hl => ?_)
            refine lv_iinc (v := nI (k + 1)) (lv' := [(3, .int (nI (k + 1))), (2, .int (nI (zcb c (zbr (zVB RW)) k + 0))), (0, .ref (q 0))]) hx hb d_Mo_relax_230 hl (k := 1) rfl (nI_1 k) (by decide) rfl (fun ls hl => ?_)
            refine lv_goto (tgt := 158) hx hb d_Mo_relax_233 (by decide) ?_
            have ez := zEn_s (gp := gp) (mo := mo) (R := RW) (k := k)
            rw [if_pos h11, ← ed2] at ez
            exact ih (k + 1) _ _ ls hlt (by omega) ⟨by rw [← ez]; exact hP, by rw [← ez]; exact hD⟩ hS (by rw [ecb]; exact lv_sub hl [0, 1, 2] rfl)
          · skip
            have hk2 : c 0 k = 2 := (nI_eq (by omega) (by decide)).mp c_8
            refine lv_aload_n hx hb d_Mo_relax_214 rfl (lv_at hl 2 rfl) ?_
            refine va_get (D := D) (ci := 5) (v := .ref (q 10)) (C := "BranchLayoutModel") (T := T_Mo) (N := 17) hx hb hts in_Mo hown hK.1 hP 0 rfl rfl 10 (by decide) (hts _ w_275) (fun _ h9 => h9) rfl d_Mo_relax_215 ?_
            refine lv_iload_n hx hb d_Mo_relax_218 rfl (lv_at hl 0 rfl) ?_
            refine va_zald hx hb hK.1 hP 8 1 rfl rfl (vp_in_nI (show k < 4096 by omega) (by decide)) d_Mo_relax_219 ?_
            rw [nI_clamp (show k < 2 ^ 31 by omega)]
            rw [x10]
            refine lv_if_ne (tgt := 227) hx hb d_Mo_relax_220 (by decide) (fun c_9 => ?_) (fun c_9 => ?_)
            · skip
              have hbt : zbr (zVB RW) k = true := by have := hv1.resolve_left c_9; simp [zbr, zVB, this]
              refine lv_iconst (v := 0) hx hb d_Mo_relax_227 (by decide) ?_
              have ecb : zcb c (zbr (zVB RW)) (k + 1) = zcb c (zbr (zVB RW)) k + 0 := by simp [zcb, hbt]
              have e9 : (0 : Int32) = nI 0 := by decide
              rw [e9]
              refine lv_iadd hx hb d_Mo_relax_228 ?_
              rw [nI_add]
              refine lv_istore_n (lv' := [(2, .int (nI (zcb c (zbr (zVB RW)) k + 0))), (3, .int (nI k)), (0, .ref (q 0))]) hx hb d_Mo_relax_229 rfl hl (by decide) rfl (fun ls hl => ?_)
              refine lv_iinc (v := nI (k + 1)) (lv' := [(3, .int (nI (k + 1))), (2, .int (nI (zcb c (zbr (zVB RW)) k + 0))), (0, .ref (q 0))]) hx hb d_Mo_relax_230 hl (k := 1) rfl (nI_1 k) (by decide) rfl (fun ls hl => ?_)
              refine lv_goto (tgt := 158) hx hb d_Mo_relax_233 (by decide) ?_
              have ez := zEn_s (gp := gp) (mo := mo) (R := RW) (k := k)
              rw [if_pos h11, ← ed2] at ez
              exact ih (k + 1) _ _ ls hlt (by omega) ⟨by rw [← ez]; exact hP, by rw [← ez]; exact hD⟩ hS (by rw [ecb]; exact lv_sub hl [0, 1, 2] rfl)
            · skip
              have hbf : zbr (zVB RW) k = false := by simp [zbr, zVB, c_9]
              refine lv_iconst (v := 1) hx hb d_Mo_relax_223 (by decide) ?_
              refine lv_goto (tgt := 228) hx hb d_Mo_relax_224 (by decide) ?_
              have ecb : zcb c (zbr (zVB RW)) (k + 1) = zcb c (zbr (zVB RW)) k + 1 := by simp [zcb, hk2, hbf]
              have e9 : (1 : Int32) = nI 1 := by decide
              rw [e9]
              refine lv_iadd hx hb d_Mo_relax_228 ?_
              rw [nI_add]
              refine lv_istore_n (lv' := [(2, .int (nI (zcb c (zbr (zVB RW)) k + 1))), (3, .int (nI k)), (0, .ref (q 0))]) hx hb d_Mo_relax_229 rfl hl (by decide) rfl (fun ls hl => ?_)
              refine lv_iinc (v := nI (k + 1)) (lv' := [(3, .int (nI (k + 1))), (2, .int (nI (zcb c (zbr (zVB RW)) k + 1))), (0, .ref (q 0))]) hx hb d_Mo_relax_230 hl (k := 1) rfl (nI_1 k) (by decide) rfl (fun ls hl => ?_)
              refine lv_goto (tgt := 158) hx hb d_Mo_relax_233 (by decide) ?_
              have ez := zEn_s (gp := gp) (mo := mo) (R := RW) (k := k)
              rw [if_pos h11, ← ed2] at ez
              exact ih (k + 1) _ _ ls hlt (by omega) ⟨by rw [← ez]; exact hP, by rw [← ez]; exact hD⟩ hS (by rw [ecb]; exact lv_sub hl [0, 1, 2] rfl)
  have loopD : ∀ (rd : Nat) (RW : Nat → Nat → Int32), (∀ f i, f = 3 ∨ f = 4 ∨ f = 5 ∨ f = 6 ∨ f = 7 ∨ f = 8 ∨ f = 9 → RW f i = R f i) → (∀ k, k < sc → (RW 10 k = 0 ∨ RW 10 k = 1) ∧ (RW 10 k = 1 → ¬ gp k = -1)) → (∀ (x : Int32) (H : Heap) (locs : List Loc) (ls : Array Slot), ((x = 0 ∧ ∀ i, i < sc → ¬ (RW 10 i = 1 ∧ zok (zdi gp mo (zVR RW) i) = false)) ∨ (x = 1 ∧ ∃ i, i < sc ∧ (RW 10 i = 1 ∧ zok (zdi gp mo (zVR RW) i) = false))) → zH D A (zM q cs 0 sc lc (zDn gp mo RW sc)) H → va_S A s.heap H locs → lv_has ls 4 [(1, .int x), (2, .int (nI rd)), (0, .ref (q 0))] → W p l e ({ frames := 1, cells := 0, slots := 0, locals := 25 } : Room) s m ([.ref (q 0)] : List Value).toArray below meth cd H locs 0 0 (zQ below s ([.ref (q 0)] : List Value).toArray A (zqi fun r H => ∃ V2, zRx c gp mo sc lc V2 r ∧ zRW D A q cs sc lc c gp mo V2 H) ({ frames := 1, cells := 0, slots := 0, locals := 25 } : Room)) (F0 m 148 ls [])) → ∀ (n k : Nat) (x : Int32) (H : Heap) (locs : List Loc) (ls : Array Slot), k ≤ sc → sc + 1 ≤ k + n → ((x = 0 ∧ ∀ i, i < k → ¬ (RW 10 i = 1 ∧ zok (zdi gp mo (zVR RW) i) = false)) ∨ (x = 1 ∧ ∃ i, i < k ∧ (RW 10 i = 1 ∧ zok (zdi gp mo (zVR RW) i) = false))) → zH D A (zM q cs 0 sc lc (zDn gp mo RW k)) H → va_S A s.heap H locs → lv_has ls 4 [(3, .int (nI k)), (1, .int x), (2, .int (nI rd)), (0, .ref (q 0))] → W p l e ({ frames := 1, cells := 0, slots := 0, locals := 25 } : Room) s m ([.ref (q 0)] : List Value).toArray below meth cd H locs 0 0 (zQ below s ([.ref (q 0)] : List Value).toArray A (zqi fun r H => ∃ V2, zRx c gp mo sc lc V2 r ∧ zRW D A q cs sc lc c gp mo V2 H) ({ frames := 1, cells := 0, slots := 0, locals := 25 } : Room)) (F0 m 89 ls []) := by
    intro rd RW hrw h10 kd n
    induction n with
    | zero => intro k x H locs ls h1 h2; omega
    | succ n ih =>
      intro k x H locs ls hk hn hxx hw hS hl
      obtain ⟨hP, hD⟩ := id hw
      refine lv_iload_n hx hb d_Mo_relax_89 rfl (lv_at hl 0 rfl) ?_
      refine lv_aload_n hx hb d_Mo_relax_90 rfl (lv_at hl 3 rfl) ?_
      refine va_get (D := D) (ci := 5) (v := .int (nI sc)) (C := "BranchLayoutModel") (T := T_Mo) (N := 17) hx hb hts in_Mo hown hK.1 hP 0 rfl rfl 1 (by decide) (hts _ w_266) (fun _ h9 => h9) rfl d_Mo_relax_91 ?_
      refine lv_icmp_ge (tgt := 148) hx hb d_Mo_relax_94 (by decide) (fun c_10 => ?_) (fun c_10 => ?_)
      · skip
        have hks : k = sc := Nat.le_antisymm hk ((nI_leI (by omega) (by omega)).mp c_10)
        rw [hks] at hw hxx
        exact kd x _ _ ls hxx hw hS (lv_sub hl [1, 2, 3] rfl)
      · skip
        have hlt : k < sc := Nat.lt_of_not_le fun q => c_10 (nI_le q (by omega))
        obtain ⟨hv1, hv2⟩ := h10 k hlt
        obtain ⟨s1, -⟩ := hst RW hrw
        obtain ⟨r3, r4, r5, r6, r7⟩ := s1 k hlt
        obtain ⟨g1, g2, g3, g4, g5, g6⟩ := hI.2.2.1 k hlt
        have hno : ¬ (RW 10 k = 1 ∧ zok (zdi gp mo (zVR RW) k) = false) → ((x = 0 ∧ ∀ i, i < (k + 1) → ¬ (RW 10 i = 1 ∧ zok (zdi gp mo (zVR RW) i) = false)) ∨ (x = 1 ∧ ∃ i, i < (k + 1) ∧ (RW 10 i = 1 ∧ zok (zdi gp mo (zVR RW) i) = false))) := fun hbad => by
          rcases hxx with ⟨h1, h2⟩ | ⟨h1, i, hi, h2⟩
          · refine Or.inl ⟨h1, fun i hi => ?_⟩
            rcases Nat.lt_or_ge i k with q | q
            · exact h2 i q
            · have e9 : i = k := by omega
              rw [e9]; exact hbad
          · exact Or.inr ⟨h1, i, by omega, h2⟩
        have z6 : zDn gp mo RW k 6 k = RW 6 k := zDn_o (by decide)
        have z7 : zDn gp mo RW k 7 k = RW 7 k := zDn_o (by decide)
        have e6 : zDn gp mo RW k 6 k = gp k := by rw [z6, r6]
        have e7 : zDn gp mo RW k 7 k = mo k := by rw [z7, r7]
        refine lv_aload_n hx hb d_Mo_relax_97 rfl (lv_at hl 3 rfl) ?_
        refine va_get (D := D) (ci := 5) (v := .ref (q 10)) (C := "BranchLayoutModel") (T := T_Mo) (N := 17) hx hb hts in_Mo hown hK.1 hP 0 rfl rfl 10 (by decide) (hts _ w_275) (fun _ h9 => h9) rfl d_Mo_relax_98 ?_
        refine lv_iload_n hx hb d_Mo_relax_101 rfl (lv_at hl 0 rfl) ?_
        refine va_zald hx hb hK.1 hP 8 1 rfl rfl (vp_in_nI (show k < 4096 by omega) (by decide)) d_Mo_relax_102 ?_
        rw [nI_clamp (show k < 2 ^ 31 by omega)]
        rw [zDn_k]
        refine lv_if_eq (tgt := 142) hx hb d_Mo_relax_103 (by decide) (fun c_11 => ?_) (fun c_11 => ?_)
        · skip
          have hbad : ¬ (RW 10 k = 1 ∧ zok (zdi gp mo (zVR RW) k) = false) := fun q => by rw [c_11] at q; exact absurd q.1 (by decide)
          refine lv_iinc (v := nI (k + 1)) (lv' := [(3, .int (nI (k + 1))), (1, .int x), (2, .int (nI rd)), (0, .ref (q 0))]) hx hb d_Mo_relax_142 hl (k := 0) rfl (nI_1 k) (by decide) rfl (fun ls hl => ?_)
          refine lv_goto (tgt := 89) hx hb d_Mo_relax_145 (by decide) ?_
          exact ih (k + 1) x _ _ ls hlt (by omega) (hno hbad) (by rw [← zDn_n hbad]; exact hw) hS (lv_sub hl [0, 1, 2, 3] rfl)
        · skip
          have h11 := hv1.resolve_left c_11
          refine lv_aload_n hx hb d_Mo_relax_106 rfl (lv_at hl 3 rfl) ?_
          refine lv_iload_n hx hb d_Mo_relax_107 rfl (lv_at hl 0 rfl) ?_
          refine zcV [.int (nI k)] [] E (t_Mo_distance l D cs A q 0 sc lc (zDn gp mo RW k) hsc hlc k hlt (by rw [e6]; exact g5) (by rw [e6]; exact hv2 h11) _ hw) d_Mo_relax_108 w_355 w_357 ws_Mo_distance w_2 w_358 ⟨rfl, by decide +kernel, by decide +kernel, (by decide +kernel : Option.map (fun d => d.parameters.length) (parseMethodDescriptor "(I)J") = some 1)⟩ ⟨(Nat.le_of_ble_eq_true rfl), (Nat.le_of_ble_eq_true rfl)⟩ ⟨(Nat.le_of_ble_eq_true rfl), (Nat.le_of_ble_eq_true rfl)⟩ rfl (Nat.le_of_ble_eq_true rfl) hl.1 (zrec hK hP (ci := 5) (i := 0) rfl rfl) hK rfl hS (fun _ h => h.elim) (zkl fun da Hda locsda hq _ _ hSda => ?_)
          obtain ⟨e8, erda⟩ := hq
          subst e8
          have hS := hSda
          have eda : da = zdi gp mo (zVR RW) k := erda.trans (zdi_RR e6 e7 (by rw [zDn_V]) (by rw [zDn_V]) (by rw [zDn_V]))
          refine lv_ldc2 (v := (-128)) hx hb hown (hts _ w_359) d_Mo_relax_111 ?_
          refine W.lcmp hx hb d_Mo_relax_114 ?_
          refine lv_if_lt (tgt := 133) hx hb d_Mo_relax_115 (by decide) (fun c_12 => ?_) (fun c_12 => ?_)
          · skip
            have hbad : RW 10 k = 1 ∧ zok (zdi gp mo (zVR RW) k) = false := ⟨h11, by rw [← eda]; simp only [zok]; rw [decide_eq_false (Int64.not_le.mpr ((lg_cmp_lt _ _).mp c_12))]; rfl⟩
            refine lv_aload_n hx hb d_Mo_relax_133 rfl (lv_at hl 3 rfl) ?_
            refine va_get (D := D) (ci := 5) (v := .ref (q 10)) (C := "BranchLayoutModel") (T := T_Mo) (N := 17) hx hb hts in_Mo hown hK.1 hP 0 rfl rfl 10 (by decide) (hts _ w_275) (fun _ h9 => h9) rfl d_Mo_relax_134 ?_
            refine lv_iload_n hx hb d_Mo_relax_137 rfl (lv_at hl 0 rfl) ?_
            refine lv_iconst (v := 0) hx hb d_Mo_relax_138 (by decide) ?_
            refine va_zast hx hb hK.1 hP hD hS 8 1 rfl rfl (vp_in_nI (show k < 4096 by omega) (by decide)) d_Mo_relax_139 (fun H locs hP hD hS => ?_)
            rw [nI_clamp (show k < 2 ^ 31 by omega), zm_b0, zm_set_10] at hP hD
            refine lv_iconst (v := 1) hx hb d_Mo_relax_140 (by decide) ?_
            refine lv_istore_n (lv' := [(1, .int 1), (3, .int (nI k)), (2, .int (nI rd)), (0, .ref (q 0))]) hx hb d_Mo_relax_141 rfl hl (by decide) rfl (fun ls hl => ?_)
            refine lv_iinc (v := nI (k + 1)) (lv' := [(3, .int (nI (k + 1))), (1, .int 1), (2, .int (nI rd)), (0, .ref (q 0))]) hx hb d_Mo_relax_142 hl (k := 1) rfl (nI_1 k) (by decide) rfl (fun ls hl => ?_)
            refine lv_goto (tgt := 89) hx hb d_Mo_relax_145 (by decide) ?_
            exact ih (k + 1) 1 _ _ ls hlt (by omega) (Or.inr ⟨rfl, k, by omega, hbad⟩) ⟨by rw [← zDn_b hbad]; exact hP, by rw [← zDn_b hbad]; exact hD⟩ hS (lv_sub hl [0, 1, 2, 3] rfl)
          · skip
            refine lv_aload_n hx hb d_Mo_relax_118 rfl (lv_at hl 3 rfl) ?_
            refine lv_iload_n hx hb d_Mo_relax_119 rfl (lv_at hl 0 rfl) ?_
            refine zcV [.int (nI k)] [] E (t_Mo_distance l D cs A q 0 sc lc (zDn gp mo RW k) hsc hlc k hlt (by rw [e6]; exact g5) (by rw [e6]; exact hv2 h11) _ hw) d_Mo_relax_120 w_355 w_357 ws_Mo_distance w_2 w_358 ⟨rfl, by decide +kernel, by decide +kernel, (by decide +kernel : Option.map (fun d => d.parameters.length) (parseMethodDescriptor "(I)J") = some 1)⟩ ⟨(Nat.le_of_ble_eq_true rfl), (Nat.le_of_ble_eq_true rfl)⟩ ⟨(Nat.le_of_ble_eq_true rfl), (Nat.le_of_ble_eq_true rfl)⟩ rfl (Nat.le_of_ble_eq_true rfl) hl.1 (zrec hK hP (ci := 5) (i := 0) rfl rfl) hK rfl hS (fun _ h => h.elim) (zkl fun db Hdb locsdb hq _ _ hSdb => ?_)
            obtain ⟨e8, erdb⟩ := hq
            subst e8
            have hS := hSdb
            have edb : db = zdi gp mo (zVR RW) k := erdb.trans (zdi_RR e6 e7 (by rw [zDn_V]) (by rw [zDn_V]) (by rw [zDn_V]))
            refine lv_ldc2 (v := 127) hx hb hown (hts _ w_360) d_Mo_relax_123 ?_
            refine W.lcmp hx hb d_Mo_relax_126 ?_
            refine lv_if_gt (tgt := 133) hx hb d_Mo_relax_127 (by decide) (fun c_13 => ?_) (fun c_13 => ?_)
            · skip
              have hbad : RW 10 k = 1 ∧ zok (zdi gp mo (zVR RW) k) = false := ⟨h11, by rw [← edb]; simp only [zok]; rw [decide_eq_false (p := db ≤ 127) (Int64.not_le.mpr ((lg_cmp_gt _ _).mp c_13))]; exact Bool.and_false _⟩
              refine lv_aload_n hx hb d_Mo_relax_133 rfl (lv_at hl 3 rfl) ?_
              refine va_get (D := D) (ci := 5) (v := .ref (q 10)) (C := "BranchLayoutModel") (T := T_Mo) (N := 17) hx hb hts in_Mo hown hK.1 hP 0 rfl rfl 10 (by decide) (hts _ w_275) (fun _ h9 => h9) rfl d_Mo_relax_134 ?_
              refine lv_iload_n hx hb d_Mo_relax_137 rfl (lv_at hl 0 rfl) ?_
              refine lv_iconst (v := 0) hx hb d_Mo_relax_138 (by decide) ?_
              refine va_zast hx hb hK.1 hP hD hS 8 1 rfl rfl (vp_in_nI (show k < 4096 by omega) (by decide)) d_Mo_relax_139 (fun H locs hP hD hS => ?_)
              rw [nI_clamp (show k < 2 ^ 31 by omega), zm_b0, zm_set_10] at hP hD
              refine lv_iconst (v := 1) hx hb d_Mo_relax_140 (by decide) ?_
              refine lv_istore_n (lv' := [(1, .int 1), (3, .int (nI k)), (2, .int (nI rd)), (0, .ref (q 0))]) hx hb d_Mo_relax_141 rfl hl (by decide) rfl (fun ls hl => ?_)
              refine lv_iinc (v := nI (k + 1)) (lv' := [(3, .int (nI (k + 1))), (1, .int 1), (2, .int (nI rd)), (0, .ref (q 0))]) hx hb d_Mo_relax_142 hl (k := 1) rfl (nI_1 k) (by decide) rfl (fun ls hl => ?_)
              refine lv_goto (tgt := 89) hx hb d_Mo_relax_145 (by decide) ?_
              exact ih (k + 1) 1 _ _ ls hlt (by omega) (Or.inr ⟨rfl, k, by omega, hbad⟩) ⟨by rw [← zDn_b hbad]; exact hP, by rw [← zDn_b hbad]; exact hD⟩ hS (lv_sub hl [0, 1, 2, 3] rfl)
            · skip
              have edd : db = da := by rw [edb, eda]
              have hbad : ¬ (RW 10 k = 1 ∧ zok (zdi gp mo (zVR RW) k) = false) := fun q => by
                have q2 := q.2
                rw [← eda] at q2
                simp only [zok] at q2
                rw [decide_eq_true (Int64.not_lt.mp fun z => c_12 ((lg_cmp_lt _ _).mpr z)), decide_eq_true (Int64.not_lt.mp fun z => c_13 ((lg_cmp_gt _ _).mpr (by rw [edd]; exact z)))] at q2
                exact Bool.noConfusion q2
              refine lv_goto (tgt := 142) hx hb d_Mo_relax_130 (by decide) ?_
              refine lv_iinc (v := nI (k + 1)) (lv' := [(3, .int (nI (k + 1))), (1, .int x), (2, .int (nI rd)), (0, .ref (q 0))]) hx hb d_Mo_relax_142 hl (k := 0) rfl (nI_1 k) (by decide) rfl (fun ls hl => ?_)
              refine lv_goto (tgt := 89) hx hb d_Mo_relax_145 (by decide) ?_
              exact ih (k + 1) x _ _ ls hlt (by omega) (hno hbad) (by rw [← zDn_n hbad]; exact hw) hS (lv_sub hl [0, 1, 2, 3] rfl)
  have loopB : ∀ (n rd : Nat) (RW : Nat → Nat → Int32) (H : Heap) (locs : List Loc) (ls : Array Slot), (∀ f i, f = 3 ∨ f = 4 ∨ f = 5 ∨ f = 6 ∨ f = 7 ∨ f = 8 ∨ f = 9 → RW f i = R f i) → zcs (zVB RW) sc + rd ≤ sc → sc + 1 ≤ rd + n → zMid c gp mo sc (zVB RW) → zH D A (zM q cs 0 sc lc (RW)) H → va_S A s.heap H locs → lv_has ls 4 [(2, .int (nI rd)), (1, .int 1), (0, .ref (q 0))] → W p l e ({ frames := 1, cells := 0, slots := 0, locals := 25 } : Room) s m ([.ref (q 0)] : List Value).toArray below meth cd H locs 0 0 (zQ below s ([.ref (q 0)] : List Value).toArray A (zqi fun r H => ∃ V2, zRx c gp mo sc lc V2 r ∧ zRW D A q cs sc lc c gp mo V2 H) ({ frames := 1, cells := 0, slots := 0, locals := 25 } : Room)) (F0 m 56 ls []) := by
    intro n
    induction n with
    | zero => intro rd RW H locs ls h0 h1 h2; omega
    | succ n ih =>
      intro rd RW H locs ls hrw hcs hn hM hw hS hl
      obtain ⟨hP, hD⟩ := id hw
      refine lv_iload_n hx hb d_Mo_relax_56 rfl (lv_at hl 0 rfl) ?_
      refine lv_sipush (v := 5000) hx hb d_Mo_relax_57 (by decide) ?_
      have e5000 : (5000 : Int32) = nI 5000 := by decide
      rw [e5000]
      refine lv_icmp_ge (tgt := 154) hx hb d_Mo_relax_60 (by decide) (fun c_14 => ?_) (fun c_14 => ?_)
      · skip
        exact absurd ((nI_leI (by decide) (by omega)).mp c_14) (by omega)
      · skip
        refine lv_iload_n hx hb d_Mo_relax_63 rfl (lv_at hl 1 rfl) ?_
        refine lv_if_eq (tgt := 154) hx hb d_Mo_relax_64 (by decide) (fun c_15 => ?_) (fun c_15 => ?_)
        · skip
          exact absurd c_15 (by decide)
        · skip
          have hbr : ∀ k, k < sc → RW 10 k = (if zbr (zVB RW) k then 1 else 0) := fun k hk => by
            have := (hM.1 k hk).1
            rw [zVB2] at this
            rcases this with q | q <;> simp [zbr, zVB, q]
          have hsame : ∀ RX : Nat → Nat → Int32, (∀ f i, f ≠ 11 → f ≠ 12 → f ≠ 14 → f ≠ 15 → RX f i = RW f i) → (∀ f i, f = 3 ∨ f = 4 ∨ f = 5 ∨ f = 6 ∨ f = 7 ∨ f = 8 ∨ f = 9 → RX f i = R f i) := fun RX h f i hf => by
            rw [h f i (by rcases hf with h | h | h | h | h | h | h <;> rw [h] <;> decide) (by rcases hf with h | h | h | h | h | h | h <;> rw [h] <;> decide) (by rcases hf with h | h | h | h | h | h | h <;> rw [h] <;> decide) (by rcases hf with h | h | h | h | h | h | h <;> rw [h] <;> decide)]
            exact hrw f i hf
          refine lv_iconst (v := 0) hx hb d_Mo_relax_67 (by decide) ?_
          refine lv_istore_n (lv' := [(3, .int 0), (2, .int (nI rd)), (1, .int 1), (0, .ref (q 0))]) hx hb d_Mo_relax_68 rfl hl (by decide) rfl (fun ls hl => ?_)
          refine lv_iload_n hx hb d_Mo_relax_69 rfl (lv_at hl 0 rfl) ?_
          refine lv_iconst (v := 4) hx hb d_Mo_relax_70 (by decide) ?_
          refine lv_icmp_ge (tgt := 85) hx hb d_Mo_relax_71 (by decide) (fun c_16 => ?_) (fun c_16 => ?_)
          · skip
            exact absurd c_16 (by decide)
          · skip
            refine lv_aload_n hx hb d_Mo_relax_74 rfl (lv_at hl 3 rfl) ?_
            refine lv_iload_n hx hb d_Mo_relax_75 rfl (lv_at hl 0 rfl) ?_
            have hx0 : ∀ f i, f ≠ 11 → f ≠ 12 → f ≠ 14 → f ≠ 15 → (RW) f i = RW f i := fun f i h1 h2 h3 h4 => by rfl
            obtain ⟨s1, s2⟩ := hst (RW) (hsame _ hx0)
            have hR0 : ∀ k, k < sc → (RW) 3 k = nI (c 0 k) ∧ (RW) 4 k = nI (c 1 k) ∧ (RW) 5 k = nI (c 2 k) ∧ (RW) 10 k = (if zbr (zVB RW) k then 1 else 0) := fun k hk => ⟨(s1 k hk).1, (s1 k hk).2.1, (s1 k hk).2.2.1, by rw [hx0 10 k (by decide) (by decide) (by decide) (by decide)]; exact hbr k hk⟩
            have et0 : (0 : Int32) = nI 0 := by decide
            refine lv_topi (fun z ez => ?_)
            rw [et0] at ez
            subst ez
            refine zcV [.int (nI 0)] [] E (t_Mo_walk l D cs A q 0 sc lc (RW) c gp (zbr (zVB RW)) hI hR0 s2 0 (by decide)) d_Mo_relax_76 w_351 w_353 ws_Mo_walk w_2 w_354 ⟨rfl, by decide +kernel, by decide +kernel, (by decide +kernel : Option.map (fun d => d.parameters.length) (parseMethodDescriptor "(I)V") = some 1)⟩ ⟨(Nat.le_of_ble_eq_true rfl), (Nat.le_of_ble_eq_true rfl)⟩ ⟨(Nat.le_of_ble_eq_true rfl), (Nat.le_of_ble_eq_true rfl)⟩ rfl (Nat.le_of_ble_eq_true rfl) hl.1 (zrec hK hP (ci := 5) (i := 0) rfl rfl) hK ⟨hP, hD⟩ hS (fun _ h => h) (zkv fun H locs hq _ _ hS => ?_)
            have hw : zH D A (zM q cs 0 sc lc (zW1 c (zbr (zVB RW)) sc lc RW 0)) H := hq
            obtain ⟨hP, hD⟩ := id hw
            refine lv_iinc (v := 1) (lv' := [(3, .int 1), (2, .int (nI rd)), (1, .int 1), (0, .ref (q 0))]) hx hb d_Mo_relax_79 hl (k := 0) rfl (by decide) (by decide) rfl (fun ls hl => ?_)
            refine lv_goto (tgt := 69) hx hb d_Mo_relax_82 (by decide) ?_
            refine lv_iload_n hx hb d_Mo_relax_69 rfl (lv_at hl 0 rfl) ?_
            refine lv_iconst (v := 4) hx hb d_Mo_relax_70 (by decide) ?_
            refine lv_icmp_ge (tgt := 85) hx hb d_Mo_relax_71 (by decide) (fun c_17 => ?_) (fun c_17 => ?_)
            · skip
              exact absurd c_17 (by decide)
            · skip
              refine lv_aload_n hx hb d_Mo_relax_74 rfl (lv_at hl 3 rfl) ?_
              refine lv_iload_n hx hb d_Mo_relax_75 rfl (lv_at hl 0 rfl) ?_
              have hx1 : ∀ f i, f ≠ 11 → f ≠ 12 → f ≠ 14 → f ≠ 15 → (zW1 c (zbr (zVB RW)) sc lc RW 0) f i = RW f i := fun f i h1 h2 h3 h4 => by rw [zW1_o h1 h2 h3 h4]
              obtain ⟨s1, s2⟩ := hst (zW1 c (zbr (zVB RW)) sc lc RW 0) (hsame _ hx1)
              have hR1 : ∀ k, k < sc → (zW1 c (zbr (zVB RW)) sc lc RW 0) 3 k = nI (c 0 k) ∧ (zW1 c (zbr (zVB RW)) sc lc RW 0) 4 k = nI (c 1 k) ∧ (zW1 c (zbr (zVB RW)) sc lc RW 0) 5 k = nI (c 2 k) ∧ (zW1 c (zbr (zVB RW)) sc lc RW 0) 10 k = (if zbr (zVB RW) k then 1 else 0) := fun k hk => ⟨(s1 k hk).1, (s1 k hk).2.1, (s1 k hk).2.2.1, by rw [hx1 10 k (by decide) (by decide) (by decide) (by decide)]; exact hbr k hk⟩
              have et1 : (1 : Int32) = nI 1 := by decide
              refine lv_topi (fun z ez => ?_)
              rw [et1] at ez
              subst ez
              refine zcV [.int (nI 1)] [] E (t_Mo_walk l D cs A q 0 sc lc (zW1 c (zbr (zVB RW)) sc lc RW 0) c gp (zbr (zVB RW)) hI hR1 s2 1 (by decide)) d_Mo_relax_76 w_351 w_353 ws_Mo_walk w_2 w_354 ⟨rfl, by decide +kernel, by decide +kernel, (by decide +kernel : Option.map (fun d => d.parameters.length) (parseMethodDescriptor "(I)V") = some 1)⟩ ⟨(Nat.le_of_ble_eq_true rfl), (Nat.le_of_ble_eq_true rfl)⟩ ⟨(Nat.le_of_ble_eq_true rfl), (Nat.le_of_ble_eq_true rfl)⟩ rfl (Nat.le_of_ble_eq_true rfl) hl.1 (zrec hK hP (ci := 5) (i := 0) rfl rfl) hK ⟨hP, hD⟩ hS (fun _ h => h) (zkv fun H locs hq _ _ hS => ?_)
              have hw : zH D A (zM q cs 0 sc lc (zW1 c (zbr (zVB RW)) sc lc (zW1 c (zbr (zVB RW)) sc lc RW 0) 1)) H := hq
              obtain ⟨hP, hD⟩ := id hw
              refine lv_iinc (v := 2) (lv' := [(3, .int 2), (2, .int (nI rd)), (1, .int 1), (0, .ref (q 0))]) hx hb d_Mo_relax_79 hl (k := 0) rfl (by decide) (by decide) rfl (fun ls hl => ?_)
              refine lv_goto (tgt := 69) hx hb d_Mo_relax_82 (by decide) ?_
              refine lv_iload_n hx hb d_Mo_relax_69 rfl (lv_at hl 0 rfl) ?_
              refine lv_iconst (v := 4) hx hb d_Mo_relax_70 (by decide) ?_
              refine lv_icmp_ge (tgt := 85) hx hb d_Mo_relax_71 (by decide) (fun c_18 => ?_) (fun c_18 => ?_)
              · skip
                exact absurd c_18 (by decide)
              · skip
                refine lv_aload_n hx hb d_Mo_relax_74 rfl (lv_at hl 3 rfl) ?_
                refine lv_iload_n hx hb d_Mo_relax_75 rfl (lv_at hl 0 rfl) ?_
                have hx2 : ∀ f i, f ≠ 11 → f ≠ 12 → f ≠ 14 → f ≠ 15 → (zW1 c (zbr (zVB RW)) sc lc (zW1 c (zbr (zVB RW)) sc lc RW 0) 1) f i = RW f i := fun f i h1 h2 h3 h4 => by rw [zW1_o h1 h2 h3 h4, zW1_o h1 h2 h3 h4]
                obtain ⟨s1, s2⟩ := hst (zW1 c (zbr (zVB RW)) sc lc (zW1 c (zbr (zVB RW)) sc lc RW 0) 1) (hsame _ hx2)
                have hR2 : ∀ k, k < sc → (zW1 c (zbr (zVB RW)) sc lc (zW1 c (zbr (zVB RW)) sc lc RW 0) 1) 3 k = nI (c 0 k) ∧ (zW1 c (zbr (zVB RW)) sc lc (zW1 c (zbr (zVB RW)) sc lc RW 0) 1) 4 k = nI (c 1 k) ∧ (zW1 c (zbr (zVB RW)) sc lc (zW1 c (zbr (zVB RW)) sc lc RW 0) 1) 5 k = nI (c 2 k) ∧ (zW1 c (zbr (zVB RW)) sc lc (zW1 c (zbr (zVB RW)) sc lc RW 0) 1) 10 k = (if zbr (zVB RW) k then 1 else 0) := fun k hk => ⟨(s1 k hk).1, (s1 k hk).2.1, (s1 k hk).2.2.1, by rw [hx2 10 k (by decide) (by decide) (by decide) (by decide)]; exact hbr k hk⟩
                have et2 : (2 : Int32) = nI 2 := by decide
                refine lv_topi (fun z ez => ?_)
                rw [et2] at ez
                subst ez
                refine zcV [.int (nI 2)] [] E (t_Mo_walk l D cs A q 0 sc lc (zW1 c (zbr (zVB RW)) sc lc (zW1 c (zbr (zVB RW)) sc lc RW 0) 1) c gp (zbr (zVB RW)) hI hR2 s2 2 (by decide)) d_Mo_relax_76 w_351 w_353 ws_Mo_walk w_2 w_354 ⟨rfl, by decide +kernel, by decide +kernel, (by decide +kernel : Option.map (fun d => d.parameters.length) (parseMethodDescriptor "(I)V") = some 1)⟩ ⟨(Nat.le_of_ble_eq_true rfl), (Nat.le_of_ble_eq_true rfl)⟩ ⟨(Nat.le_of_ble_eq_true rfl), (Nat.le_of_ble_eq_true rfl)⟩ rfl (Nat.le_of_ble_eq_true rfl) hl.1 (zrec hK hP (ci := 5) (i := 0) rfl rfl) hK ⟨hP, hD⟩ hS (fun _ h => h) (zkv fun H locs hq _ _ hS => ?_)
                have hw : zH D A (zM q cs 0 sc lc (zW1 c (zbr (zVB RW)) sc lc (zW1 c (zbr (zVB RW)) sc lc (zW1 c (zbr (zVB RW)) sc lc RW 0) 1) 2)) H := hq
                obtain ⟨hP, hD⟩ := id hw
                refine lv_iinc (v := 3) (lv' := [(3, .int 3), (2, .int (nI rd)), (1, .int 1), (0, .ref (q 0))]) hx hb d_Mo_relax_79 hl (k := 0) rfl (by decide) (by decide) rfl (fun ls hl => ?_)
                refine lv_goto (tgt := 69) hx hb d_Mo_relax_82 (by decide) ?_
                refine lv_iload_n hx hb d_Mo_relax_69 rfl (lv_at hl 0 rfl) ?_
                refine lv_iconst (v := 4) hx hb d_Mo_relax_70 (by decide) ?_
                refine lv_icmp_ge (tgt := 85) hx hb d_Mo_relax_71 (by decide) (fun c_19 => ?_) (fun c_19 => ?_)
                · skip
                  exact absurd c_19 (by decide)
                · skip
                  refine lv_aload_n hx hb d_Mo_relax_74 rfl (lv_at hl 3 rfl) ?_
                  refine lv_iload_n hx hb d_Mo_relax_75 rfl (lv_at hl 0 rfl) ?_
                  have hx3 : ∀ f i, f ≠ 11 → f ≠ 12 → f ≠ 14 → f ≠ 15 → (zW1 c (zbr (zVB RW)) sc lc (zW1 c (zbr (zVB RW)) sc lc (zW1 c (zbr (zVB RW)) sc lc RW 0) 1) 2) f i = RW f i := fun f i h1 h2 h3 h4 => by rw [zW1_o h1 h2 h3 h4, zW1_o h1 h2 h3 h4, zW1_o h1 h2 h3 h4]
                  obtain ⟨s1, s2⟩ := hst (zW1 c (zbr (zVB RW)) sc lc (zW1 c (zbr (zVB RW)) sc lc (zW1 c (zbr (zVB RW)) sc lc RW 0) 1) 2) (hsame _ hx3)
                  have hR3 : ∀ k, k < sc → (zW1 c (zbr (zVB RW)) sc lc (zW1 c (zbr (zVB RW)) sc lc (zW1 c (zbr (zVB RW)) sc lc RW 0) 1) 2) 3 k = nI (c 0 k) ∧ (zW1 c (zbr (zVB RW)) sc lc (zW1 c (zbr (zVB RW)) sc lc (zW1 c (zbr (zVB RW)) sc lc RW 0) 1) 2) 4 k = nI (c 1 k) ∧ (zW1 c (zbr (zVB RW)) sc lc (zW1 c (zbr (zVB RW)) sc lc (zW1 c (zbr (zVB RW)) sc lc RW 0) 1) 2) 5 k = nI (c 2 k) ∧ (zW1 c (zbr (zVB RW)) sc lc (zW1 c (zbr (zVB RW)) sc lc (zW1 c (zbr (zVB RW)) sc lc RW 0) 1) 2) 10 k = (if zbr (zVB RW) k then 1 else 0) := fun k hk => ⟨(s1 k hk).1, (s1 k hk).2.1, (s1 k hk).2.2.1, by rw [hx3 10 k (by decide) (by decide) (by decide) (by decide)]; exact hbr k hk⟩
                  have et3 : (3 : Int32) = nI 3 := by decide
                  refine lv_topi (fun z ez => ?_)
                  rw [et3] at ez
                  subst ez
                  refine zcV [.int (nI 3)] [] E (t_Mo_walk l D cs A q 0 sc lc (zW1 c (zbr (zVB RW)) sc lc (zW1 c (zbr (zVB RW)) sc lc (zW1 c (zbr (zVB RW)) sc lc RW 0) 1) 2) c gp (zbr (zVB RW)) hI hR3 s2 3 (by decide)) d_Mo_relax_76 w_351 w_353 ws_Mo_walk w_2 w_354 ⟨rfl, by decide +kernel, by decide +kernel, (by decide +kernel : Option.map (fun d => d.parameters.length) (parseMethodDescriptor "(I)V") = some 1)⟩ ⟨(Nat.le_of_ble_eq_true rfl), (Nat.le_of_ble_eq_true rfl)⟩ ⟨(Nat.le_of_ble_eq_true rfl), (Nat.le_of_ble_eq_true rfl)⟩ rfl (Nat.le_of_ble_eq_true rfl) hl.1 (zrec hK hP (ci := 5) (i := 0) rfl rfl) hK ⟨hP, hD⟩ hS (fun _ h => h) (zkv fun H locs hq _ _ hS => ?_)
                  have hw : zH D A (zM q cs 0 sc lc (zW1 c (zbr (zVB RW)) sc lc (zW1 c (zbr (zVB RW)) sc lc (zW1 c (zbr (zVB RW)) sc lc (zW1 c (zbr (zVB RW)) sc lc RW 0) 1) 2) 3)) H := hq
                  obtain ⟨hP, hD⟩ := id hw
                  refine lv_iinc (v := 4) (lv' := [(3, .int 4), (2, .int (nI rd)), (1, .int 1), (0, .ref (q 0))]) hx hb d_Mo_relax_79 hl (k := 0) rfl (by decide) (by decide) rfl (fun ls hl => ?_)
                  refine lv_goto (tgt := 69) hx hb d_Mo_relax_82 (by decide) ?_
                  refine lv_iload_n hx hb d_Mo_relax_69 rfl (lv_at hl 0 rfl) ?_
                  refine lv_iconst (v := 4) hx hb d_Mo_relax_70 (by decide) ?_
                  refine lv_icmp_ge (tgt := 85) hx hb d_Mo_relax_71 (by decide) (fun c_20 => ?_) (fun c_20 => ?_)
                  · skip
                    have hw4 : zH D A (zM q cs 0 sc lc (zW4 c (zbr (zVB RW)) sc lc RW)) H := hw
                    have hx4 : ∀ f i, f ≠ 11 → f ≠ 12 → f ≠ 14 → f ≠ 15 → zW4 c (zbr (zVB RW)) sc lc RW f i = RW f i := fun f i h1 h2 h3 h4 => zW4_o h1 h2 h3 h4
                    have h10 : ∀ k, k < sc → (zW4 c (zbr (zVB RW)) sc lc RW 10 k = 0 ∨ zW4 c (zbr (zVB RW)) sc lc RW 10 k = 1) ∧ (zW4 c (zbr (zVB RW)) sc lc RW 10 k = 1 → ¬ gp k = -1) := fun k hk => by
                      rw [hx4 10 k (by decide) (by decide) (by decide) (by decide)]
                      have := hM.1 k hk
                      rw [zVB2] at this
                      exact ⟨this.1, fun q => (this.2.1 q).2⟩
                    refine lv_iconst (v := 0) hx hb d_Mo_relax_85 (by decide) ?_
                    refine lv_istore_n (lv' := [(1, .int 0), (3, .int 4), (2, .int (nI rd)), (0, .ref (q 0))]) hx hb d_Mo_relax_86 rfl hl (by decide) rfl (fun ls hl => ?_)
                    refine lv_iconst (v := 0) hx hb d_Mo_relax_87 (by decide) ?_
                    refine lv_istore_n (lv' := [(3, .int 0), (1, .int 0), (2, .int (nI rd)), (0, .ref (q 0))]) hx hb d_Mo_relax_88 rfl hl (by decide) rfl (fun ls hl => ?_)
                    refine loopD rd (zW4 c (zbr (zVB RW)) sc lc RW) (hsame _ hx4) h10 ?_ (sc + 1) 0 0 _ _ ls (Nat.zero_le _) (by omega) (Or.inl ⟨rfl, fun i hi => absurd hi (Nat.not_lt_zero i)⟩) (by rw [← zDn_0]; exact hw4) hS (by rw [nI_0]; exact lv_sub hl [0, 1, 2, 3] rfl)
                    intro x H locs ls hxx hw hS hl
                    obtain ⟨hP, hD⟩ := id hw
                    have hrw5 : ∀ f i, f = 3 ∨ f = 4 ∨ f = 5 ∨ f = 6 ∨ f = 7 ∨ f = 8 ∨ f = 9 → zDn gp mo (zW4 c (zbr (zVB RW)) sc lc RW) sc f i = R f i := fun f i hf => by
                      rw [zDn_o (by rcases hf with h | h | h | h | h | h | h <;> rw [h] <;> decide)]
                      exact hsame _ hx4 f i hf
                    refine lv_iinc (v := nI (rd + 1)) (lv' := [(2, .int (nI (rd + 1))), (1, .int x), (0, .ref (q 0))]) hx hb d_Mo_relax_148 hl (k := 1) rfl (nI_1 rd) (by decide) rfl (fun ls hl => ?_)
                    refine lv_goto (tgt := 56) hx hb d_Mo_relax_151 (by decide) ?_
                    rcases hxx with ⟨ex, hno⟩ | ⟨ex, hyes⟩
                    · skip
                      subst ex
                      have hRx := zMid_F hI hM hno
                      have hb5 : ∀ k, k < sc → zDn gp mo (zW4 c (zbr (zVB RW)) sc lc RW) sc 10 k = RW 10 k := fun k hk => by
                        have hn2 := hno k hk
                        simp only [zDn, hk, true_and, hn2, if_false]
                        exact hx4 10 k (by decide) (by decide) (by decide) (by decide)
                      have ecb : ∀ k, k ≤ sc → zcb c (zbr (zVB (zDn gp mo (zW4 c (zbr (zVB RW)) sc lc RW) sc))) k = zcb c (zbr (zVB RW)) k := fun k hk => zcb_congr k (fun j hj => by simp only [zbr, zVB2, hb5 j (by omega)])
                      refine lv_iload_n hx hb d_Mo_relax_56 rfl (lv_at hl 0 rfl) ?_
                      refine lv_sipush (v := 5000) hx hb d_Mo_relax_57 (by decide) ?_
                      have e5000 : (5000 : Int32) = nI 5000 := by decide
                      rw [e5000]
                      refine lv_icmp_ge (tgt := 154) hx hb d_Mo_relax_60 (by decide) (fun c_21 => ?_) (fun c_21 => ?_)
                      · skip
                        exact absurd ((nI_leI (by decide) (by omega)).mp c_21) (by omega)
                      · skip
                        refine lv_iload_n hx hb d_Mo_relax_63 rfl (lv_at hl 1 rfl) ?_
                        refine lv_if_eq (tgt := 154) hx hb d_Mo_relax_64 (by decide) (fun c_22 => ?_) (fun c_22 => ?_)
                        · skip
                          refine lv_iconst (v := 0) hx hb d_Mo_relax_154 (by decide) ?_
                          refine lv_istore_n (lv' := [(2, .int 0), (1, .int 0), (0, .ref (q 0))]) hx hb d_Mo_relax_155 rfl hl (by decide) rfl (fun ls hl => ?_)
                          refine lv_iconst (v := 0) hx hb d_Mo_relax_156 (by decide) ?_
                          refine lv_istore_n (lv' := [(3, .int 0), (2, .int 0), (1, .int 0), (0, .ref (q 0))]) hx hb d_Mo_relax_157 rfl hl (by decide) rfl (fun ls hl => ?_)
                          refine loopE _ hrw5 (fun k hk => ?_) (by rw [ecb sc (Nat.le_refl sc)]; exact hRx) (sc + 1) 0 _ _ ls (Nat.zero_le _) (by omega) (by rw [← zEn_0]; exact hw) hS (by show lv_has ls 4 [(3, .int (nI 0)), (2, .int (nI 0)), (0, .ref (q 0))]; rw [nI_0]; exact lv_sub hl [0, 1, 3] rfl)
                          have := hM.1 k hk
                          rw [zVB2] at this
                          rw [hb5 k hk]
                          exact ⟨this.1, fun z => (this.2.1 z).2⟩
                        · skip
                          exact absurd rfl c_22
                    · skip
                      subst ex
                      obtain ⟨hM2, hc2⟩ := zMid_B hI hM hyes
                      exact ih (rd + 1) _ _ _ ls hrw5 (by omega) (by omega) hM2 hw hS (lv_sub hl [0, 1, 2] rfl)
                  · skip
                    exact absurd (show (4 : Int32) ≤ 4 by decide) c_20
  have loopA : ∀ (n k : Nat) (H : Heap) (locs : List Loc) (ls : Array Slot), k ≤ sc → sc + 1 ≤ k + n → zH D A (zM q cs 0 sc lc (zBr c gp R k)) H → va_S A s.heap H locs → lv_has ls 4 [(1, .int (nI k)), (0, .ref (q 0))] → W p l e ({ frames := 1, cells := 0, slots := 0, locals := 25 } : Room) s m ([.ref (q 0)] : List Value).toArray below meth cd H locs 0 0 (zQ below s ([.ref (q 0)] : List Value).toArray A (zqi fun r H => ∃ V2, zRx c gp mo sc lc V2 r ∧ zRW D A q cs sc lc c gp mo V2 H) ({ frames := 1, cells := 0, slots := 0, locals := 25 } : Room)) (F0 m 7 ls []) := by
    intro n
    induction n with
    | zero => intro k H locs ls h1 h2; omega
    | succ n ih =>
      intro k H locs ls hk hn hw hS hl
      obtain ⟨hP, hD⟩ := id hw
      refine lv_iload_n hx hb d_Mo_relax_7 rfl (lv_at hl 0 rfl) ?_
      refine lv_aload_n hx hb d_Mo_relax_8 rfl (lv_at hl 1 rfl) ?_
      refine va_get (D := D) (ci := 5) (v := .int (nI sc)) (C := "BranchLayoutModel") (T := T_Mo) (N := 17) hx hb hts in_Mo hown hK.1 hP 0 rfl rfl 1 (by decide) (hts _ w_266) (fun _ h9 => h9) rfl d_Mo_relax_9 ?_
      refine lv_icmp_ge (tgt := 52) hx hb d_Mo_relax_12 (by decide) (fun c_23 => ?_) (fun c_23 => ?_)
      · skip
        have hks : k = sc := Nat.le_antisymm hk ((nI_leI (by omega) (by omega)).mp c_23)
        rw [hks] at hw
        refine lv_iconst (v := 1) hx hb d_Mo_relax_52 (by decide) ?_
        refine lv_istore_n (lv' := [(1, .int 1), (0, .ref (q 0))]) hx hb d_Mo_relax_53 rfl hl (by decide) rfl (fun ls hl => ?_)
        refine lv_iconst (v := 0) hx hb d_Mo_relax_54 (by decide) ?_
        refine lv_istore_n (lv' := [(2, .int 0), (1, .int 1), (0, .ref (q 0))]) hx hb d_Mo_relax_55 rfl hl (by decide) rfl (fun ls hl => ?_)
        have hcs := zcs_le (V := zVB (zBr c gp R sc)) sc
        exact loopB (sc + 1) 0 _ _ _ ls (fun f i hf => zBr_o (by rcases hf with h | h | h | h | h | h | h <;> rw [h] <;> decide)) (by omega) (by omega) (zMid_B0 hI) hw hS (by rw [nI_0]; exact lv_sub hl [0, 1, 2] rfl)
      · skip
        have hlt : k < sc := Nat.lt_of_not_le fun q => c_23 (nI_le q (by omega))
        obtain ⟨a1, a2, a3, a4, a5, a6, a7, a8, a9⟩ := hG.1 k hlt
        obtain ⟨g1, g2, g3, g4, g5, g6⟩ := hI.2.2.1 k hlt
        have z3 : zBr c gp R k 3 k = R 3 k := zBr_o (by decide)
        have z6 : zBr c gp R k 6 k = R 6 k := zBr_o (by decide)
        refine lv_aload_n hx hb d_Mo_relax_15 rfl (lv_at hl 1 rfl) ?_
        refine va_get (D := D) (ci := 5) (v := .ref (q 10)) (C := "BranchLayoutModel") (T := T_Mo) (N := 17) hx hb hts in_Mo hown hK.1 hP 0 rfl rfl 10 (by decide) (hts _ w_275) (fun _ h9 => h9) rfl d_Mo_relax_16 ?_
        refine lv_iload_n hx hb d_Mo_relax_19 rfl (lv_at hl 0 rfl) ?_
        refine lv_aload_n hx hb d_Mo_relax_20 rfl (lv_at hl 1 rfl) ?_
        refine va_get (D := D) (ci := 5) (v := .ref (q 3)) (C := "BranchLayoutModel") (T := T_Mo) (N := 17) hx hb hts in_Mo hown hK.1 hP 0 rfl rfl 3 (by decide) (hts _ w_268) (fun _ h9 => h9) rfl d_Mo_relax_21 ?_
        refine lv_iload_n hx hb d_Mo_relax_24 rfl (lv_at hl 0 rfl) ?_
        refine va_iald hx hb hK.1 hP 1 0 rfl rfl (vp_in_nI (show k < 4096 by omega) (by decide)) d_Mo_relax_25 ?_
        rw [nI_clamp (show k < 2 ^ 31 by omega)]
        rw [z3, a1]
        refine lv_iconst (v := 2) hx hb d_Mo_relax_26 (by decide) ?_
        have e2 : (2 : Int32) = nI 2 := by decide
        rw [e2]
        refine lv_icmp_ne (tgt := 44) hx hb d_Mo_relax_27 (by decide) (fun c_24 => ?_) (fun c_24 => ?_)
        · skip
          have hn2 : ¬ c 0 k = 2 := fun q => c_24 (by rw [q])
          have hz0 : ¬ zb0 c gp k = true := by simp [zb0, hn2]
          refine lv_iconst (v := 0) hx hb d_Mo_relax_44 (by decide) ?_
          refine va_zast hx hb hK.1 hP hD hS 8 1 rfl rfl (vp_in_nI (show k < 4096 by omega) (by decide)) d_Mo_relax_45 (fun H locs hP hD hS => ?_)
          rw [nI_clamp (show k < 2 ^ 31 by omega), zm_b0, zm_set_10] at hP hD
          have ez := zBr_s (c := c) (gp := gp) (R := R) (k := k)
          rw [if_neg hz0] at ez
          refine lv_iinc (v := nI (k + 1)) (lv' := [(1, .int (nI (k + 1))), (0, .ref (q 0))]) hx hb d_Mo_relax_46 hl (k := 0) rfl (nI_1 k) (by decide) rfl (fun ls hl => ?_)
          refine lv_goto (tgt := 7) hx hb d_Mo_relax_49 (by decide) ?_
          exact ih (k + 1) _ _ ls hlt (by omega) ⟨by rw [← ez]; exact hP, by rw [← ez]; exact hD⟩ hS (lv_sub hl [0, 1] rfl)
        · skip
          have hk2 : c 0 k = 2 := (nI_eq (by omega) (by decide)).mp c_24
          refine lv_aload_n hx hb d_Mo_relax_30 rfl (lv_at hl 1 rfl) ?_
          refine va_get (D := D) (ci := 5) (v := .ref (q 6)) (C := "BranchLayoutModel") (T := T_Mo) (N := 17) hx hb hts in_Mo hown hK.1 hP 0 rfl rfl 6 (by decide) (hts _ w_271) (fun _ h9 => h9) rfl d_Mo_relax_31 ?_
          refine lv_iload_n hx hb d_Mo_relax_34 rfl (lv_at hl 0 rfl) ?_
          refine va_iald hx hb hK.1 hP 4 0 rfl rfl (vp_in_nI (show k < 4096 by omega) (by decide)) d_Mo_relax_35 ?_
          rw [nI_clamp (show k < 2 ^ 31 by omega)]
          rw [z6, a4]
          refine lv_iconst (v := (-1)) hx hb d_Mo_relax_36 (by decide) ?_
          refine lv_icmp_eq (tgt := 44) hx hb d_Mo_relax_37 (by decide) (fun c_25 => ?_) (fun c_25 => ?_)
          · skip
            have hz0 : ¬ zb0 c gp k = true := by simp [zb0, c_25]
            refine lv_iconst (v := 0) hx hb d_Mo_relax_44 (by decide) ?_
            refine va_zast hx hb hK.1 hP hD hS 8 1 rfl rfl (vp_in_nI (show k < 4096 by omega) (by decide)) d_Mo_relax_45 (fun H locs hP hD hS => ?_)
            rw [nI_clamp (show k < 2 ^ 31 by omega), zm_b0, zm_set_10] at hP hD
            have ez := zBr_s (c := c) (gp := gp) (R := R) (k := k)
            rw [if_neg hz0] at ez
            refine lv_iinc (v := nI (k + 1)) (lv' := [(1, .int (nI (k + 1))), (0, .ref (q 0))]) hx hb d_Mo_relax_46 hl (k := 0) rfl (nI_1 k) (by decide) rfl (fun ls hl => ?_)
            refine lv_goto (tgt := 7) hx hb d_Mo_relax_49 (by decide) ?_
            exact ih (k + 1) _ _ ls hlt (by omega) ⟨by rw [← ez]; exact hP, by rw [← ez]; exact hD⟩ hS (lv_sub hl [0, 1] rfl)
          · skip
            have hz0 : zb0 c gp k = true := by simp [zb0, hk2, c_25]
            refine lv_iconst (v := 1) hx hb d_Mo_relax_40 (by decide) ?_
            refine lv_goto (tgt := 45) hx hb d_Mo_relax_41 (by decide) ?_
            refine va_zast hx hb hK.1 hP hD hS 8 1 rfl rfl (vp_in_nI (show k < 4096 by omega) (by decide)) d_Mo_relax_45 (fun H locs hP hD hS => ?_)
            rw [nI_clamp (show k < 2 ^ 31 by omega), zm_b1, zm_set_10] at hP hD
            have ez := zBr_s (c := c) (gp := gp) (R := R) (k := k)
            rw [if_pos hz0] at ez
            refine lv_iinc (v := nI (k + 1)) (lv' := [(1, .int (nI (k + 1))), (0, .ref (q 0))]) hx hb d_Mo_relax_46 hl (k := 0) rfl (nI_1 k) (by decide) rfl (fun ls hl => ?_)
            refine lv_goto (tgt := 7) hx hb d_Mo_relax_49 (by decide) ?_
            exact ih (k + 1) _ _ ls hlt (by omega) ⟨by rw [← ez]; exact hP, by rw [← ez]; exact hD⟩ hS (lv_sub hl [0, 1] rfl)
  exact loopA (sc + 1) 0 _ _ ls (Nat.zero_le _) (by omega) (by rw [← zBr_0]; exact ⟨hP, hD⟩) hS (by rw [nI_0]; exact lv_sub hl [0, 1] rfl)
