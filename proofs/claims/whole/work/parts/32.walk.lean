def zVR (R : Nat → Nat → Int32) : Nat → Nat → Int32 := fun f i => if f = 0 then R 11 i else if f = 1 then R 12 i else if f = 2 then R 16 i else if f = 3 then R 13 i else if f = 4 then R 14 i else R 15 i
/-- section t's walk, after k statements and p labels -/
def zWs (c : Nat → Nat → Nat) (br : Nat → Bool) (R : Nat → Nat → Int32) (t k p : Nat) : Nat → Nat → Int32 := fun f i =>
  if f = 11 ∧ i < k ∧ c 1 i = t then nI (zSZ c br i t) else if f = 12 ∧ i < k ∧ c 1 i = t then nI (zln c br i (zSZ c br i t)) else if f = 14 ∧ i < p ∧ c 3 i = t then nI (zSZ c br (c 4 i) t) else R f i
section ZWS
variable {c : Nat → Nat → Nat} {br : Nat → Bool} {R : Nat → Nat → Int32} {t k p : Nat}
theorem zWs_0 : R = zWs c br R t 0 0 := by
  funext f i
  simp [zWs]
theorem zWs_o {f i : Nat} (h1 : f ≠ 11) (h2 : f ≠ 12) (h3 : f ≠ 14) : zWs c br R t k p f i = R f i := by simp [zWs, h1, h2, h3]
theorem zWs_l (h4 : c 4 p = k) (h3 : c 3 p = t) : zu (zWs c br R t k p) 14 p (nI (zSZ c br k t)) = zWs c br R t k (p + 1) := by
  funext f i
  by_cases hf : f = 14
  · subst hf
    by_cases hi : i = p
    · subst hi; simp [zu, zWs, h3, h4]
    · have : (i < p + 1) = (i < p) := by apply propext; omega
      simp [zu, zWs, hi, this]
  · simp [zu, zWs, hf]
theorem zWs_n (h3 : ¬ c 3 p = t) : zWs c br R t k p = zWs c br R t k (p + 1) := by
  funext f i
  by_cases hi : i = p
  · subst hi; simp [zWs, h3]
  · have : (i < p + 1) = (i < p) := by apply propext; omega
    simp [zWs, this]
theorem zWs_s (h1 : c 1 k = t) : zu (zu (zWs c br R t k p) 11 k (nI (zSZ c br k t))) 12 k (nI (zln c br k (zSZ c br k t))) = zWs c br R t (k + 1) p := by
  funext f i
  by_cases hi : i = k
  · subst hi
    by_cases f1 : f = 11
    · subst f1; simp [zu, zWs, h1]
    · by_cases f2 : f = 12
      · subst f2; simp [zu, zWs, h1]
      · simp [zu, zWs, f1, f2]
  · have : (i < k + 1) = (i < k) := by apply propext; omega
    simp [zu, zWs, hi, this]
theorem zWs_k (h1 : ¬ c 1 k = t) : zWs c br R t k p = zWs c br R t (k + 1) p := by
  funext f i
  by_cases hi : i = k
  · subst hi; simp [zWs, h1]
  · have : (i < k + 1) = (i < k) := by apply propext; omega
    simp [zWs, this]
end ZWS
set_option maxHeartbeats 4000000 in
set_option maxRecDepth 100000 in
theorem t_Mo_distance (l : Launch) (D : va_G) (cs : ClassId × ClassId × ClassId × ClassId) (A : Nat → Prop) (q : Nat → Nat) (th : Int32) (sc lc : Nat) (R : Nat → Nat → Int32) (hsc : sc ≤ 4096) (hlc : lc ≤ 1024) (k : Nat) (hk : k < sc) (hv : zvalid sc lc (R 6 k)) (hn : ¬ R 6 k = -1) (H1 : Heap) (hw : zH D A (zM q cs th sc lc R) H1) : zMet l D cs y_Mo_distance c_Mo_distance 4 (some FieldType.long) ({ frames := 0, cells := 0, slots := 0, locals := 0 } : Room) [.ref (q 0), .int (nI k)] (fun H => H = H1) (fun _ => False) (zql fun r H => H = H1 ∧ r = zdi (R 6) (R 7) (zVR R) k) := by
  refine zmk (by decide) (Nat.le_of_ble_eq_true rfl) ?_
  intro p e s m below meth cd ls E hK hP0 hl
  have hS : va_S (fun _ => False) s.heap s.heap [] := va_S.rf
  subst hP0
  have hP := hw.1
  obtain ⟨hx, hb, hr, hts, hown, hlocks, hml, hin⟩ := id E
  have hl : lv_has ls 4 [(0, .ref (q 0)), (1, .int (nI k))] := hl
  rcases hv with h | ⟨j, hj, eg⟩ | ⟨i, hi, eg⟩
  · skip
    exact absurd h hn
  · skip
    have h0 := nI_pos (n := j) (by omega)
    have h1 := nI_clamp (n := j) (by omega)
    refine lv_aload_n hx hb d_Mo_distance_0 rfl (lv_at hl 0 rfl) ?_
    refine va_get (D := D) (ci := 5) (v := .ref (q 6)) (C := "BranchLayoutModel") (T := T_Mo) (N := 17) hx hb hts in_Mo hown hK.1 hP 0 rfl rfl 6 (by decide) (hts _ w_271) (fun _ h9 => h9) rfl d_Mo_distance_1 ?_
    refine lv_iload_n hx hb d_Mo_distance_4 rfl (lv_at hl 1 rfl) ?_
    refine va_iald hx hb hK.1 hP 4 0 rfl rfl (vp_in_nI (show k < 4096 by omega) (by decide)) d_Mo_distance_5 ?_
    rw [nI_clamp (show k < 2 ^ 31 by omega)]
    rw [eg]
    refine lv_if_lt (tgt := 24) hx hb d_Mo_distance_6 (by decide) (fun c_4 => ?_) (fun c_4 => ?_)
    · skip
      exact absurd c_4 h0
    · skip
      refine lv_aload_n hx hb d_Mo_distance_9 rfl (lv_at hl 0 rfl) ?_
      refine va_get (D := D) (ci := 5) (v := .ref (q 14)) (C := "BranchLayoutModel") (T := T_Mo) (N := 17) hx hb hts in_Mo hown hK.1 hP 0 rfl rfl 14 (by decide) (hts _ w_279) (fun _ h9 => h9) rfl d_Mo_distance_10 ?_
      refine lv_aload_n hx hb d_Mo_distance_13 rfl (lv_at hl 0 rfl) ?_
      refine va_get (D := D) (ci := 5) (v := .ref (q 6)) (C := "BranchLayoutModel") (T := T_Mo) (N := 17) hx hb hts in_Mo hown hK.1 hP 0 rfl rfl 6 (by decide) (hts _ w_271) (fun _ h9 => h9) rfl d_Mo_distance_14 ?_
      refine lv_iload_n hx hb d_Mo_distance_17 rfl (lv_at hl 1 rfl) ?_
      refine va_iald hx hb hK.1 hP 4 0 rfl rfl (vp_in_nI (show k < 4096 by omega) (by decide)) d_Mo_distance_18 ?_
      rw [nI_clamp (show k < 2 ^ 31 by omega)]
      rw [eg]
      refine va_iald hx hb hK.1 hP 12 0 rfl rfl (vp_in_nI (show j < 1024 by omega) (by decide)) d_Mo_distance_19 ?_
      rw [nI_clamp (show j < 2 ^ 31 by omega)]
      refine lv_i2l hx hb d_Mo_distance_20 rfl ?_
      refine lv_goto (tgt := 39) hx hb d_Mo_distance_21 (by decide) ?_
      refine lv_lstore_n (lv' := [(2, .long ((R 14 j).toInt64)), (0, .ref (q 0)), (1, .int (nI k))]) hx hb d_Mo_distance_39 rfl hl (by decide) rfl (fun ls hl => ?_)
      refine lv_lload_n hx hb d_Mo_distance_40 rfl (lv_at hl 0 rfl) ?_
      refine lv_aload_n hx hb d_Mo_distance_41 rfl (lv_at hl 1 rfl) ?_
      refine va_get (D := D) (ci := 5) (v := .ref (q 7)) (C := "BranchLayoutModel") (T := T_Mo) (N := 17) hx hb hts in_Mo hown hK.1 hP 0 rfl rfl 7 (by decide) (hts _ w_272) (fun _ h9 => h9) rfl d_Mo_distance_42 ?_
      refine lv_iload_n hx hb d_Mo_distance_45 rfl (lv_at hl 2 rfl) ?_
      refine va_iald hx hb hK.1 hP 5 0 rfl rfl (vp_in_nI (show k < 4096 by omega) (by decide)) d_Mo_distance_46 ?_
      rw [nI_clamp (show k < 2 ^ 31 by omega)]
      refine lv_i2l hx hb d_Mo_distance_47 rfl ?_
      refine lv_ladd hx hb d_Mo_distance_48 ?_
      refine lv_aload_n hx hb d_Mo_distance_49 rfl (lv_at hl 1 rfl) ?_
      refine va_get (D := D) (ci := 5) (v := .ref (q 11)) (C := "BranchLayoutModel") (T := T_Mo) (N := 17) hx hb hts in_Mo hown hK.1 hP 0 rfl rfl 11 (by decide) (hts _ w_276) (fun _ h9 => h9) rfl d_Mo_distance_50 ?_
      refine lv_iload_n hx hb d_Mo_distance_53 rfl (lv_at hl 2 rfl) ?_
      refine va_iald hx hb hK.1 hP 9 0 rfl rfl (vp_in_nI (show k < 4096 by omega) (by decide)) d_Mo_distance_54 ?_
      rw [nI_clamp (show k < 2 ^ 31 by omega)]
      refine lv_aload_n hx hb d_Mo_distance_55 rfl (lv_at hl 1 rfl) ?_
      refine va_get (D := D) (ci := 5) (v := .ref (q 12)) (C := "BranchLayoutModel") (T := T_Mo) (N := 17) hx hb hts in_Mo hown hK.1 hP 0 rfl rfl 12 (by decide) (hts _ w_277) (fun _ h9 => h9) rfl d_Mo_distance_56 ?_
      refine lv_iload_n hx hb d_Mo_distance_59 rfl (lv_at hl 2 rfl) ?_
      refine va_iald hx hb hK.1 hP 10 0 rfl rfl (vp_in_nI (show k < 4096 by omega) (by decide)) d_Mo_distance_60 ?_
      rw [nI_clamp (show k < 2 ^ 31 by omega)]
      refine lv_iadd hx hb d_Mo_distance_61 ?_
      refine lv_i2l hx hb d_Mo_distance_62 rfl ?_
      refine lv_lsub hx hb d_Mo_distance_63 ?_
      refine zrl E d_Mo_distance_64 hS (Nat.le_of_ble_eq_true rfl) (Nat.le_of_ble_eq_true rfl) ?_
      exact ⟨_, rfl, rfl, by simp only [zdi, zgat, eg, h0, if_false, h1]; simp [zVR]⟩
  · skip
    obtain ⟨e1, e2, e3⟩ := zm2 (i := i) (by omega)
    have h1 := nI_clamp (n := i) (by omega)
    refine lv_aload_n hx hb d_Mo_distance_0 rfl (lv_at hl 0 rfl) ?_
    refine va_get (D := D) (ci := 5) (v := .ref (q 6)) (C := "BranchLayoutModel") (T := T_Mo) (N := 17) hx hb hts in_Mo hown hK.1 hP 0 rfl rfl 6 (by decide) (hts _ w_271) (fun _ h9 => h9) rfl d_Mo_distance_1 ?_
    refine lv_iload_n hx hb d_Mo_distance_4 rfl (lv_at hl 1 rfl) ?_
    refine va_iald hx hb hK.1 hP 4 0 rfl rfl (vp_in_nI (show k < 4096 by omega) (by decide)) d_Mo_distance_5 ?_
    rw [nI_clamp (show k < 2 ^ 31 by omega)]
    rw [eg]
    refine lv_if_lt (tgt := 24) hx hb d_Mo_distance_6 (by decide) (fun c_5 => ?_) (fun c_5 => ?_)
    · skip
      refine lv_aload_n hx hb d_Mo_distance_24 rfl (lv_at hl 0 rfl) ?_
      refine va_get (D := D) (ci := 5) (v := .ref (q 11)) (C := "BranchLayoutModel") (T := T_Mo) (N := 17) hx hb hts in_Mo hown hK.1 hP 0 rfl rfl 11 (by decide) (hts _ w_276) (fun _ h9 => h9) rfl d_Mo_distance_25 ?_
      refine lv_bipush (v := (-2)) hx hb d_Mo_distance_28 (by decide) ?_
      refine lv_aload_n hx hb d_Mo_distance_30 rfl (lv_at hl 0 rfl) ?_
      refine va_get (D := D) (ci := 5) (v := .ref (q 6)) (C := "BranchLayoutModel") (T := T_Mo) (N := 17) hx hb hts in_Mo hown hK.1 hP 0 rfl rfl 6 (by decide) (hts _ w_271) (fun _ h9 => h9) rfl d_Mo_distance_31 ?_
      refine lv_iload_n hx hb d_Mo_distance_34 rfl (lv_at hl 1 rfl) ?_
      refine va_iald hx hb hK.1 hP 4 0 rfl rfl (vp_in_nI (show k < 4096 by omega) (by decide)) d_Mo_distance_35 ?_
      rw [nI_clamp (show k < 2 ^ 31 by omega)]
      rw [eg]
      refine lv_isub hx hb d_Mo_distance_36 ?_
      rw [e1]
      refine va_iald hx hb hK.1 hP 9 0 rfl rfl (vp_in_nI (show i < 4096 by omega) (by decide)) d_Mo_distance_37 ?_
      rw [nI_clamp (show i < 2 ^ 31 by omega)]
      refine lv_i2l hx hb d_Mo_distance_38 rfl ?_
      refine lv_lstore_n (lv' := [(2, .long ((R 11 i).toInt64)), (0, .ref (q 0)), (1, .int (nI k))]) hx hb d_Mo_distance_39 rfl hl (by decide) rfl (fun ls hl => ?_)
      refine lv_lload_n hx hb d_Mo_distance_40 rfl (lv_at hl 0 rfl) ?_
      refine lv_aload_n hx hb d_Mo_distance_41 rfl (lv_at hl 1 rfl) ?_
      refine va_get (D := D) (ci := 5) (v := .ref (q 7)) (C := "BranchLayoutModel") (T := T_Mo) (N := 17) hx hb hts in_Mo hown hK.1 hP 0 rfl rfl 7 (by decide) (hts _ w_272) (fun _ h9 => h9) rfl d_Mo_distance_42 ?_
      refine lv_iload_n hx hb d_Mo_distance_45 rfl (lv_at hl 2 rfl) ?_
      refine va_iald hx hb hK.1 hP 5 0 rfl rfl (vp_in_nI (show k < 4096 by omega) (by decide)) d_Mo_distance_46 ?_
      rw [nI_clamp (show k < 2 ^ 31 by omega)]
      refine lv_i2l hx hb d_Mo_distance_47 rfl ?_
      refine lv_ladd hx hb d_Mo_distance_48 ?_
      refine lv_aload_n hx hb d_Mo_distance_49 rfl (lv_at hl 1 rfl) ?_
      refine va_get (D := D) (ci := 5) (v := .ref (q 11)) (C := "BranchLayoutModel") (T := T_Mo) (N := 17) hx hb hts in_Mo hown hK.1 hP 0 rfl rfl 11 (by decide) (hts _ w_276) (fun _ h9 => h9) rfl d_Mo_distance_50 ?_
      refine lv_iload_n hx hb d_Mo_distance_53 rfl (lv_at hl 2 rfl) ?_
      refine va_iald hx hb hK.1 hP 9 0 rfl rfl (vp_in_nI (show k < 4096 by omega) (by decide)) d_Mo_distance_54 ?_
      rw [nI_clamp (show k < 2 ^ 31 by omega)]
      refine lv_aload_n hx hb d_Mo_distance_55 rfl (lv_at hl 1 rfl) ?_
      refine va_get (D := D) (ci := 5) (v := .ref (q 12)) (C := "BranchLayoutModel") (T := T_Mo) (N := 17) hx hb hts in_Mo hown hK.1 hP 0 rfl rfl 12 (by decide) (hts _ w_277) (fun _ h9 => h9) rfl d_Mo_distance_56 ?_
      refine lv_iload_n hx hb d_Mo_distance_59 rfl (lv_at hl 2 rfl) ?_
      refine va_iald hx hb hK.1 hP 10 0 rfl rfl (vp_in_nI (show k < 4096 by omega) (by decide)) d_Mo_distance_60 ?_
      rw [nI_clamp (show k < 2 ^ 31 by omega)]
      refine lv_iadd hx hb d_Mo_distance_61 ?_
      refine lv_i2l hx hb d_Mo_distance_62 rfl ?_
      refine lv_lsub hx hb d_Mo_distance_63 ?_
      refine zrl E d_Mo_distance_64 hS (Nat.le_of_ble_eq_true rfl) (Nat.le_of_ble_eq_true rfl) ?_
      exact ⟨_, rfl, rfl, by simp only [zdi, zgat, eg, e2, if_true, e1, h1]; simp [zVR]⟩
    · skip
      exact absurd e2 c_5
set_option maxHeartbeats 4000000 in
set_option maxRecDepth 100000 in
theorem t_Mo_walk (l : Launch) (D : va_G) (cs : ClassId × ClassId × ClassId × ClassId) (A : Nat → Prop) (q : Nat → Nat) (th : Int32) (sc lc : Nat) (R : Nat → Nat → Int32) (c : Nat → Nat → Nat) (gp : Nat → Int32) (br : Nat → Bool) (hI : zI sc lc c gp) (hR : ∀ k, k < sc → R 3 k = nI (c 0 k) ∧ R 4 k = nI (c 1 k) ∧ R 5 k = nI (c 2 k) ∧ R 10 k = (if br k then 1 else 0)) (hL : ∀ j, j < lc → R 8 j = nI (c 3 j) ∧ R 9 j = nI (c 4 j)) (t : Nat) (ht : t < 4) : zMet l D cs y_Mo_walk c_Mo_walk 6 none ({ frames := 0, cells := 0, slots := 0, locals := 0 } : Room) [.ref (q 0), .int (nI t)] (zH D A (zM q cs th sc lc R)) A (zqv fun H => zH D A (zM q cs th sc lc (zu (zWs c br R t sc lc) 15 t (nI (zSZ c br sc t)))) H) := by
  refine zmk (by decide) (Nat.le_of_ble_eq_true rfl) ?_
  intro p e s m below meth cd ls E hK hP0 hl
  have hS : va_S A s.heap s.heap [] := va_S.rf
  have hsc := hI.1
  have hlc := hI.2.1
  obtain ⟨hx, hb, hr, hts, hown, hlocks, hml, hin⟩ := id E
  have hl : lv_has ls 6 [(0, .ref (q 0)), (1, .int (nI t))] := hl
  refine lv_iconst (v := 0) hx hb d_Mo_walk_0 (by decide) ?_
  refine lv_istore_n (lv' := [(2, .int 0), (0, .ref (q 0)), (1, .int (nI t))]) hx hb d_Mo_walk_1 rfl hl (by decide) rfl (fun ls hl => ?_)
  refine lv_iconst (v := 0) hx hb d_Mo_walk_2 (by decide) ?_
  refine lv_istore_n (lv' := [(3, .int 0), (2, .int 0), (0, .ref (q 0)), (1, .int (nI t))]) hx hb d_Mo_walk_3 rfl hl (by decide) rfl (fun ls hl => ?_)
  refine lv_iconst (v := 0) hx hb d_Mo_walk_4 (by decide) ?_
  refine lv_istore (lv' := [(4, .int 0), (3, .int 0), (2, .int 0), (0, .ref (q 0)), (1, .int (nI t))]) hx hb d_Mo_walk_5 hl (by decide) rfl (fun ls hl => ?_)
  have loop : ∀ (n k a : Nat) (H : Heap) (locs : List Loc) (ls : Array Slot), k ≤ sc → a ≤ lc → sc + 1 ≤ k + n → (∀ j, a ≤ j → j < lc → k ≤ c 4 j) → zH D A (zM q cs th sc lc (zWs c br R t k a)) H → va_S A s.heap H locs → lv_has ls 6 [(4, .int (nI k)), (3, .int (nI a)), (2, .int (nI (zSZ c br k t))), (1, .int (nI t)), (0, .ref (q 0))] → W p l e ({ frames := 0, cells := 0, slots := 0, locals := 0 } : Room) s m ([.ref (q 0), .int (nI t)] : List Value).toArray below meth cd H locs 0 0 (zQ below s ([.ref (q 0), .int (nI t)] : List Value).toArray A (zqv fun H => zH D A (zM q cs th sc lc (zu (zWs c br R t sc lc) 15 t (nI (zSZ c br sc t)))) H) ({ frames := 0, cells := 0, slots := 0, locals := 0 } : Room)) (F0 m 7 ls []) := by
    intro n
    induction n with
    | zero => intro k a H locs ls h1 h2 h3; omega
    | succ n ih =>
      intro k a H locs ls hk ha hn hrem hw hS hl
      obtain ⟨hP, hD⟩ := id hw
      refine lv_iload hx hb d_Mo_walk_7 (lv_at hl 0 rfl) ?_
      refine lv_aload_n hx hb d_Mo_walk_9 rfl (lv_at hl 4 rfl) ?_
      refine va_get (D := D) (ci := 5) (v := .int (nI sc)) (C := "BranchLayoutModel") (T := T_Mo) (N := 17) hx hb hts in_Mo hown hK.1 hP 0 rfl rfl 1 (by decide) (hts _ w_266) (fun _ h9 => h9) rfl d_Mo_walk_10 ?_
      refine lv_icmp_gt (tgt := 172) hx hb d_Mo_walk_13 (by decide) (fun c_6 => ?_) (fun c_6 => ?_)
      · skip
        exact absurd c_6 (nI_nlt hk (by omega))
      · skip
        have stm : ∀ (a : Nat) (H : Heap) (locs : List Loc) (ls : Array Slot), a ≤ lc → (a = lc ∨ (a < lc ∧ k < c 4 a)) → zH D A (zM q cs th sc lc (zWs c br R t k a)) H → va_S A s.heap H locs → lv_has ls 6 [(4, .int (nI k)), (3, .int (nI a)), (2, .int (nI (zSZ c br k t))), (1, .int (nI t)), (0, .ref (q 0))] → W p l e ({ frames := 0, cells := 0, slots := 0, locals := 0 } : Room) s m ([.ref (q 0), .int (nI t)] : List Value).toArray below meth cd H locs 0 0 (zQ below s ([.ref (q 0), .int (nI t)] : List Value).toArray A (zqv fun H => zH D A (zM q cs th sc lc (zu (zWs c br R t sc lc) 15 t (nI (zSZ c br sc t)))) H) ({ frames := 0, cells := 0, slots := 0, locals := 0 } : Room)) (F0 m 58 ls []) := by
          intro a H locs ls ha hnx hw hS hl
          obtain ⟨hP, hD⟩ := id hw
          have hrem2 : ∀ j, a ≤ j → j < lc → k + 1 ≤ c 4 j := fun j h1 h2 => by
            rcases hnx with q1 | ⟨q1, q2⟩
            · omega
            · have := hI.2.2.2.2 a j h1 h2
              omega
          refine lv_iload hx hb d_Mo_walk_58 (lv_at hl 0 rfl) ?_
          refine lv_aload_n hx hb d_Mo_walk_60 rfl (lv_at hl 4 rfl) ?_
          refine va_get (D := D) (ci := 5) (v := .int (nI sc)) (C := "BranchLayoutModel") (T := T_Mo) (N := 17) hx hb hts in_Mo hown hK.1 hP 0 rfl rfl 1 (by decide) (hts _ w_266) (fun _ h9 => h9) rfl d_Mo_walk_61 ?_
          refine lv_icmp_eq (tgt := 166) hx hb d_Mo_walk_64 (by decide) (fun c_7 => ?_) (fun c_7 => ?_)
          · skip
            have hks : k = sc := (nI_eq (by omega) (by omega)).mp c_7
            have hal : a = lc := by
              rcases hnx with q1 | ⟨q1, q2⟩
              · exact q1
              · have := (hI.2.2.2.1 a q1).2
                omega
            refine lv_iinc (v := nI (k + 1)) (lv' := [(4, .int (nI (k + 1))), (3, .int (nI a)), (2, .int (nI (zSZ c br k t))), (1, .int (nI t)), (0, .ref (q 0))]) hx hb d_Mo_walk_166 hl (k := 0) rfl (nI_1 k) (by decide) rfl (fun ls hl => ?_)
            refine lv_goto (tgt := 7) hx hb d_Mo_walk_169 (by decide) ?_
            refine lv_iload hx hb d_Mo_walk_7 (lv_at hl 0 rfl) ?_
            refine lv_aload_n hx hb d_Mo_walk_9 rfl (lv_at hl 4 rfl) ?_
            refine va_get (D := D) (ci := 5) (v := .int (nI sc)) (C := "BranchLayoutModel") (T := T_Mo) (N := 17) hx hb hts in_Mo hown hK.1 hP 0 rfl rfl 1 (by decide) (hts _ w_266) (fun _ h9 => h9) rfl d_Mo_walk_10 ?_
            refine lv_icmp_gt (tgt := 172) hx hb d_Mo_walk_13 (by decide) (fun c_8 => ?_) (fun c_8 => ?_)
            · skip
              refine lv_aload_n hx hb d_Mo_walk_172 rfl (lv_at hl 4 rfl) ?_
              refine va_get (D := D) (ci := 5) (v := .ref (q 15)) (C := "BranchLayoutModel") (T := T_Mo) (N := 17) hx hb hts in_Mo hown hK.1 hP 0 rfl rfl 15 (by decide) (hts _ w_280) (fun _ h9 => h9) rfl d_Mo_walk_173 ?_
              refine lv_iload_n hx hb d_Mo_walk_176 rfl (lv_at hl 3 rfl) ?_
              refine lv_iload_n hx hb d_Mo_walk_177 rfl (lv_at hl 2 rfl) ?_
              refine va_iast hx hb hK.1 hP hD hS 13 0 rfl rfl (vp_in_nI (show t < 4 by omega) (by decide)) d_Mo_walk_178 (fun H locs hP hD hS => ?_)
              rw [nI_clamp (show t < 2 ^ 31 by omega), zm_set_15] at hP hD
              refine zrv E d_Mo_walk_179 hS (Nat.le_of_ble_eq_true rfl) (Nat.le_of_ble_eq_true rfl) ?_
              refine ⟨rfl, ?_⟩
              rw [hks, hal] at hP hD
              exact ⟨hP, hD⟩
            · skip
              exact absurd (nI_lt (show sc < k + 1 by omega) (by omega)) c_8
          · skip
            have hlt : k < sc := Nat.lt_of_le_of_ne hk fun q => c_7 (by rw [q])
            obtain ⟨r3, r4, r5, r10⟩ := hR k hlt
            obtain ⟨g1, g2, g3, g4, g5, g6⟩ := hI.2.2.1 k hlt
            have hsz := zSZ_lt (br := br) (i := t) hI hk
            have z3 : zWs c br R t k a 3 k = R 3 k := zWs_o (by decide) (by decide) (by decide)
            have z4 : zWs c br R t k a 4 k = R 4 k := zWs_o (by decide) (by decide) (by decide)
            have z5 : zWs c br R t k a 5 k = R 5 k := zWs_o (by decide) (by decide) (by decide)
            have z10 : zWs c br R t k a 10 k = R 10 k := zWs_o (by decide) (by decide) (by decide)
            refine lv_aload_n hx hb d_Mo_walk_67 rfl (lv_at hl 4 rfl) ?_
            refine va_get (D := D) (ci := 5) (v := .ref (q 4)) (C := "BranchLayoutModel") (T := T_Mo) (N := 17) hx hb hts in_Mo hown hK.1 hP 0 rfl rfl 4 (by decide) (hts _ w_269) (fun _ h9 => h9) rfl d_Mo_walk_68 ?_
            refine lv_iload hx hb d_Mo_walk_71 (lv_at hl 0 rfl) ?_
            refine va_iald hx hb hK.1 hP 2 0 rfl rfl (vp_in_nI (show k < 4096 by omega) (by decide)) d_Mo_walk_73 ?_
            rw [nI_clamp (show k < 2 ^ 31 by omega)]
            rw [z4, r4]
            refine lv_iload_n hx hb d_Mo_walk_74 rfl (lv_at hl 3 rfl) ?_
            refine lv_icmp_eq (tgt := 81) hx hb d_Mo_walk_75 (by decide) (fun c_9 => ?_) (fun c_9 => ?_)
            · skip
              have hct : c 1 k = t := (nI_eq (by omega) (by omega)).mp c_9
              have esz : zSZ c br (k + 1) t = zSZ c br k t + zln c br k (zSZ c br k t) := by simp [zSZ, hct]
              refine lv_aload_n hx hb d_Mo_walk_81 rfl (lv_at hl 4 rfl) ?_
              refine va_get (D := D) (ci := 5) (v := .ref (q 11)) (C := "BranchLayoutModel") (T := T_Mo) (N := 17) hx hb hts in_Mo hown hK.1 hP 0 rfl rfl 11 (by decide) (hts _ w_276) (fun _ h9 => h9) rfl d_Mo_walk_82 ?_
              refine lv_iload hx hb d_Mo_walk_85 (lv_at hl 0 rfl) ?_
              refine lv_iload_n hx hb d_Mo_walk_87 rfl (lv_at hl 2 rfl) ?_
              refine va_iast hx hb hK.1 hP hD hS 9 0 rfl rfl (vp_in_nI (show k < 4096 by omega) (by decide)) d_Mo_walk_88 (fun H locs hP hD hS => ?_)
              rw [nI_clamp (show k < 2 ^ 31 by omega), zm_set_11] at hP hD
              have y3 : (zu (zWs c br R t k a) 11 k (nI (zSZ c br k t))) 3 k = zWs c br R t k a 3 k := by rw [zu_ne (by decide)]
              have y5 : (zu (zWs c br R t k a) 11 k (nI (zSZ c br k t))) 5 k = zWs c br R t k a 5 k := by rw [zu_ne (by decide)]
              have y10 : (zu (zWs c br R t k a) 11 k (nI (zSZ c br k t))) 10 k = zWs c br R t k a 10 k := by rw [zu_ne (by decide)]
              have fin : ∀ (ls : Array Slot), lv_has ls 6 [(5, .int (nI (c 2 k))), (4, .int (nI k)), (3, .int (nI a)), (2, .int (nI (zSZ c br k t))), (1, .int (nI t)), (0, .ref (q 0))] → W p l e ({ frames := 0, cells := 0, slots := 0, locals := 0 } : Room) s m ([.ref (q 0), .int (nI t)] : List Value).toArray below meth cd H locs 0 0 (zQ below s ([.ref (q 0), .int (nI t)] : List Value).toArray A (zqv fun H => zH D A (zM q cs th sc lc (zu (zWs c br R t sc lc) 15 t (nI (zSZ c br sc t)))) H) ({ frames := 0, cells := 0, slots := 0, locals := 0 } : Room)) (F0 m 155 ls [.int (nI (zln c br k (zSZ c br k t))), .int (nI k), .ref (q 12)]) := by
                intro ls hl
                refine va_iast hx hb hK.1 hP hD hS 10 0 rfl rfl (vp_in_nI (show k < 4096 by omega) (by decide)) d_Mo_walk_155 (fun H locs hP hD hS => ?_)
                rw [nI_clamp (show k < 2 ^ 31 by omega), zm_set_12] at hP hD
                have y12 : (zu (zu (zWs c br R t k a) 11 k (nI (zSZ c br k t))) 12 k (nI (zln c br k (zSZ c br k t)))) 12 k = nI (zln c br k (zSZ c br k t)) := zu_at
                refine lv_iload_n hx hb d_Mo_walk_156 rfl (lv_at hl 3 rfl) ?_
                refine lv_aload_n hx hb d_Mo_walk_157 rfl (lv_at hl 5 rfl) ?_
                refine va_get (D := D) (ci := 5) (v := .ref (q 12)) (C := "BranchLayoutModel") (T := T_Mo) (N := 17) hx hb hts in_Mo hown hK.1 hP 0 rfl rfl 12 (by decide) (hts _ w_277) (fun _ h9 => h9) rfl d_Mo_walk_158 ?_
                refine lv_iload hx hb d_Mo_walk_161 (lv_at hl 1 rfl) ?_
                refine va_iald hx hb hK.1 hP 10 0 rfl rfl (vp_in_nI (show k < 4096 by omega) (by decide)) d_Mo_walk_163 ?_
                rw [nI_clamp (show k < 2 ^ 31 by omega)]
                rw [y12]
                refine lv_iadd hx hb d_Mo_walk_164 ?_
                rw [nI_add]
                refine lv_istore_n (lv' := [(2, .int (nI (zSZ c br k t + zln c br k (zSZ c br k t)))), (5, .int (nI (c 2 k))), (4, .int (nI k)), (3, .int (nI a)), (1, .int (nI t)), (0, .ref (q 0))]) hx hb d_Mo_walk_165 rfl hl (by decide) rfl (fun ls hl => ?_)
                refine lv_iinc (v := nI (k + 1)) (lv' := [(4, .int (nI (k + 1))), (2, .int (nI (zSZ c br k t + zln c br k (zSZ c br k t)))), (5, .int (nI (c 2 k))), (3, .int (nI a)), (1, .int (nI t)), (0, .ref (q 0))]) hx hb d_Mo_walk_166 hl (k := 2) rfl (nI_1 k) (by decide) rfl (fun ls hl => ?_)
                refine lv_goto (tgt := 7) hx hb d_Mo_walk_169 (by decide) ?_
                exact ih (k + 1) a _ _ ls hlt ha (by omega) hrem2 ⟨by rw [← zWs_s hct]; exact hP, by rw [← zWs_s hct]; exact hD⟩ hS (by rw [esz]; exact lv_sub hl [0, 3, 1, 4, 5] rfl)
              refine lv_aload_n hx hb d_Mo_walk_89 rfl (lv_at hl 4 rfl) ?_
              refine va_get (D := D) (ci := 5) (v := .ref (q 5)) (C := "BranchLayoutModel") (T := T_Mo) (N := 17) hx hb hts in_Mo hown hK.1 hP 0 rfl rfl 5 (by decide) (hts _ w_270) (fun _ h9 => h9) rfl d_Mo_walk_90 ?_
              refine lv_iload hx hb d_Mo_walk_93 (lv_at hl 0 rfl) ?_
              refine va_iald hx hb hK.1 hP 3 0 rfl rfl (vp_in_nI (show k < 4096 by omega) (by decide)) d_Mo_walk_95 ?_
              rw [nI_clamp (show k < 2 ^ 31 by omega)]
              rw [y5, z5, r5]
              refine lv_istore (lv' := [(5, .int (nI (c 2 k))), (4, .int (nI k)), (3, .int (nI a)), (2, .int (nI (zSZ c br k t))), (1, .int (nI t)), (0, .ref (q 0))]) hx hb d_Mo_walk_96 hl (by decide) rfl (fun ls hl => ?_)
              refine lv_aload_n hx hb d_Mo_walk_98 rfl (lv_at hl 5 rfl) ?_
              refine va_get (D := D) (ci := 5) (v := .ref (q 12)) (C := "BranchLayoutModel") (T := T_Mo) (N := 17) hx hb hts in_Mo hown hK.1 hP 0 rfl rfl 12 (by decide) (hts _ w_277) (fun _ h9 => h9) rfl d_Mo_walk_99 ?_
              refine lv_iload hx hb d_Mo_walk_102 (lv_at hl 1 rfl) ?_
              refine lv_aload_n hx hb d_Mo_walk_104 rfl (lv_at hl 5 rfl) ?_
              refine va_get (D := D) (ci := 5) (v := .ref (q 3)) (C := "BranchLayoutModel") (T := T_Mo) (N := 17) hx hb hts in_Mo hown hK.1 hP 0 rfl rfl 3 (by decide) (hts _ w_268) (fun _ h9 => h9) rfl d_Mo_walk_105 ?_
              refine lv_iload hx hb d_Mo_walk_108 (lv_at hl 1 rfl) ?_
              refine va_iald hx hb hK.1 hP 1 0 rfl rfl (vp_in_nI (show k < 4096 by omega) (by decide)) d_Mo_walk_110 ?_
              rw [nI_clamp (show k < 2 ^ 31 by omega)]
              rw [y3, z3, r3]
              refine lv_iconst (v := 2) hx hb d_Mo_walk_111 (by decide) ?_
              have e2 : (2 : Int32) = nI 2 := by decide
              rw [e2]
              refine lv_icmp_ne (tgt := 129) hx hb d_Mo_walk_112 (by decide) (fun c_10 => ?_) (fun c_10 => ?_)
              · skip
                have hn2 : ¬ c 0 k = 2 := fun q => c_10 (by rw [q])
                refine lv_aload_n hx hb d_Mo_walk_129 rfl (lv_at hl 5 rfl) ?_
                refine va_get (D := D) (ci := 5) (v := .ref (q 3)) (C := "BranchLayoutModel") (T := T_Mo) (N := 17) hx hb hts in_Mo hown hK.1 hP 0 rfl rfl 3 (by decide) (hts _ w_268) (fun _ h9 => h9) rfl d_Mo_walk_130 ?_
                refine lv_iload hx hb d_Mo_walk_133 (lv_at hl 1 rfl) ?_
                refine va_iald hx hb hK.1 hP 1 0 rfl rfl (vp_in_nI (show k < 4096 by omega) (by decide)) d_Mo_walk_135 ?_
                rw [nI_clamp (show k < 2 ^ 31 by omega)]
                rw [y3, z3, r3]
                refine lv_iconst (v := 1) hx hb d_Mo_walk_136 (by decide) ?_
                have e1 : (1 : Int32) = nI 1 := by decide
                rw [e1]
                refine lv_icmp_ne (tgt := 153) hx hb d_Mo_walk_137 (by decide) (fun c_11 => ?_) (fun c_11 => ?_)
                · skip
                  have hn1 : ¬ c 0 k = 1 := fun q => c_11 (by rw [q])
                  refine lv_iload hx hb d_Mo_walk_153 (lv_at hl 0 rfl) ?_
                  have el : nI (c 2 k) = nI (zln c br k (zSZ c br k t)) := by simp only [zln, hn2, hn1, if_false]
                  rw [el]
                  exact fin ls (lv_sub hl [0, 1, 2, 3, 4, 5] rfl)
                · skip
                  have hk1 : c 0 k = 1 := (nI_eq (by omega) (by decide)).mp c_11
                  obtain ⟨pw, hpw, epw⟩ := g4 hk1
                  have hpos : 0 < c 2 k := by rw [epw]; exact Nat.pow_pos (by decide)
                  have hnz : ¬ nI (c 2 k) = 0 := nI_ne0 hpos (by omega)
                  refine lv_iload hx hb d_Mo_walk_140 (lv_at hl 0 rfl) ?_
                  refine lv_iload_n hx hb d_Mo_walk_142 rfl (lv_at hl 3 rfl) ?_
                  refine lv_iload hx hb d_Mo_walk_143 (lv_at hl 0 rfl) ?_
                  refine lv_irem hx hb d_Mo_walk_145 hnz ?_
                  rw [pk_rem (by omega) hpos (by omega)]
                  refine lv_isub hx hb d_Mo_walk_146 ?_
                  have hml2 := Nat.mod_lt (zSZ c br k t) hpos
                  rw [pk_sub (Nat.le_of_lt hml2)]
                  refine lv_iload hx hb d_Mo_walk_147 (lv_at hl 0 rfl) ?_
                  refine lv_irem hx hb d_Mo_walk_149 hnz ?_
                  rw [pk_rem (by omega) hpos (by omega)]
                  have el : (c 2 k - zSZ c br k t % c 2 k) % c 2 k = zln c br k (zSZ c br k t) := by simp [zln, hk1, zal]
                  rw [el]
                  refine lv_goto (tgt := 155) hx hb d_Mo_walk_150 (by decide) ?_
                  exact fin ls (lv_sub hl [0, 1, 2, 3, 4, 5] rfl)
              · skip
                have hk2 : c 0 k = 2 := (nI_eq (by omega) (by decide)).mp c_10
                refine lv_aload_n hx hb d_Mo_walk_115 rfl (lv_at hl 5 rfl) ?_
                refine va_get (D := D) (ci := 5) (v := .ref (q 10)) (C := "BranchLayoutModel") (T := T_Mo) (N := 17) hx hb hts in_Mo hown hK.1 hP 0 rfl rfl 10 (by decide) (hts _ w_275) (fun _ h9 => h9) rfl d_Mo_walk_116 ?_
                refine lv_iload hx hb d_Mo_walk_119 (lv_at hl 1 rfl) ?_
                refine va_zald hx hb hK.1 hP 8 1 rfl rfl (vp_in_nI (show k < 4096 by omega) (by decide)) d_Mo_walk_121 ?_
                rw [nI_clamp (show k < 2 ^ 31 by omega)]
                rw [y10, z10, r10]
                refine lv_if_eq (tgt := 129) hx hb d_Mo_walk_122 (by decide) (fun c_12 => ?_) (fun c_12 => ?_)
                · skip
                  have hbf : br k = false := by cases hz : br k with | false => rfl | true => simp [hz] at c_12
                  refine lv_aload_n hx hb d_Mo_walk_129 rfl (lv_at hl 5 rfl) ?_
                  refine va_get (D := D) (ci := 5) (v := .ref (q 3)) (C := "BranchLayoutModel") (T := T_Mo) (N := 17) hx hb hts in_Mo hown hK.1 hP 0 rfl rfl 3 (by decide) (hts _ w_268) (fun _ h9 => h9) rfl d_Mo_walk_130 ?_
                  refine lv_iload hx hb d_Mo_walk_133 (lv_at hl 1 rfl) ?_
                  refine va_iald hx hb hK.1 hP 1 0 rfl rfl (vp_in_nI (show k < 4096 by omega) (by decide)) d_Mo_walk_135 ?_
                  rw [nI_clamp (show k < 2 ^ 31 by omega)]
                  rw [y3, z3, r3]
                  refine lv_iconst (v := 1) hx hb d_Mo_walk_136 (by decide) ?_
                  have e1 : (1 : Int32) = nI 1 := by decide
                  rw [e1]
                  refine lv_icmp_ne (tgt := 153) hx hb d_Mo_walk_137 (by decide) (fun c_13 => ?_) (fun c_13 => ?_)
                  · skip
                    have hn1 : ¬ c 0 k = 1 := fun q => c_13 (by rw [q])
                    refine lv_iload hx hb d_Mo_walk_153 (lv_at hl 0 rfl) ?_
                    have el : nI (c 2 k) = nI (zln c br k (zSZ c br k t)) := by simp [zln, hk2, hbf]
                    rw [el]
                    exact fin ls (lv_sub hl [0, 1, 2, 3, 4, 5] rfl)
                  · skip
                    have hk1 : c 0 k = 1 := (nI_eq (by omega) (by decide)).mp c_13
                    obtain ⟨pw, hpw, epw⟩ := g4 hk1
                    have hpos : 0 < c 2 k := by rw [epw]; exact Nat.pow_pos (by decide)
                    have hnz : ¬ nI (c 2 k) = 0 := nI_ne0 hpos (by omega)
                    refine lv_iload hx hb d_Mo_walk_140 (lv_at hl 0 rfl) ?_
                    refine lv_iload_n hx hb d_Mo_walk_142 rfl (lv_at hl 3 rfl) ?_
                    refine lv_iload hx hb d_Mo_walk_143 (lv_at hl 0 rfl) ?_
                    refine lv_irem hx hb d_Mo_walk_145 hnz ?_
                    rw [pk_rem (by omega) hpos (by omega)]
                    refine lv_isub hx hb d_Mo_walk_146 ?_
                    have hml2 := Nat.mod_lt (zSZ c br k t) hpos
                    rw [pk_sub (Nat.le_of_lt hml2)]
                    refine lv_iload hx hb d_Mo_walk_147 (lv_at hl 0 rfl) ?_
                    refine lv_irem hx hb d_Mo_walk_149 hnz ?_
                    rw [pk_rem (by omega) hpos (by omega)]
                    have el : (c 2 k - zSZ c br k t % c 2 k) % c 2 k = zln c br k (zSZ c br k t) := by simp [zln, hk1, zal]
                    rw [el]
                    refine lv_goto (tgt := 155) hx hb d_Mo_walk_150 (by decide) ?_
                    exact fin ls (lv_sub hl [0, 1, 2, 3, 4, 5] rfl)
                · skip
                  have hbt : br k = true := by cases hz : br k with | true => rfl | false => simp [hz] at c_12
                  refine lv_iconst (v := 2) hx hb d_Mo_walk_125 (by decide) ?_
                  refine lv_goto (tgt := 155) hx hb d_Mo_walk_126 (by decide) ?_
                  have el : (2 : Int32) = nI (zln c br k (zSZ c br k t)) := by simp [zln, hk2, hbt]; decide
                  rw [el]
                  exact fin ls (lv_sub hl [0, 1, 2, 3, 4, 5] rfl)
            · skip
              have hct : ¬ c 1 k = t := fun q => c_9 (by rw [q])
              have esz : zSZ c br (k + 1) t = zSZ c br k t := by simp [zSZ, hct]
              refine lv_goto (tgt := 166) hx hb d_Mo_walk_78 (by decide) ?_
              refine lv_iinc (v := nI (k + 1)) (lv' := [(4, .int (nI (k + 1))), (3, .int (nI a)), (2, .int (nI (zSZ c br k t))), (1, .int (nI t)), (0, .ref (q 0))]) hx hb d_Mo_walk_166 hl (k := 0) rfl (nI_1 k) (by decide) rfl (fun ls hl => ?_)
              refine lv_goto (tgt := 7) hx hb d_Mo_walk_169 (by decide) ?_
              exact ih (k + 1) a _ _ ls hlt ha (by omega) hrem2 (by rw [← zWs_k hct]; exact hw) hS (by rw [esz]; exact lv_sub hl [0, 1, 2, 3, 4] rfl)
        have lab : ∀ (m2 a : Nat) (H : Heap) (locs : List Loc) (ls : Array Slot), a ≤ lc → lc + 1 ≤ a + m2 → (∀ j, a ≤ j → j < lc → k ≤ c 4 j) → zH D A (zM q cs th sc lc (zWs c br R t k a)) H → va_S A s.heap H locs → lv_has ls 6 [(4, .int (nI k)), (3, .int (nI a)), (2, .int (nI (zSZ c br k t))), (1, .int (nI t)), (0, .ref (q 0))] → W p l e ({ frames := 0, cells := 0, slots := 0, locals := 0 } : Room) s m ([.ref (q 0), .int (nI t)] : List Value).toArray below meth cd H locs 0 0 (zQ below s ([.ref (q 0), .int (nI t)] : List Value).toArray A (zqv fun H => zH D A (zM q cs th sc lc (zu (zWs c br R t sc lc) 15 t (nI (zSZ c br sc t)))) H) ({ frames := 0, cells := 0, slots := 0, locals := 0 } : Room)) (F0 m 16 ls []) := by
          intro m2
          induction m2 with
          | zero => intro a H locs ls h1 h2; omega
          | succ m2 ih2 =>
            intro a H locs ls ha hm hrem hw hS hl
            obtain ⟨hP, hD⟩ := id hw
            refine lv_iload_n hx hb d_Mo_walk_16 rfl (lv_at hl 1 rfl) ?_
            refine lv_aload_n hx hb d_Mo_walk_17 rfl (lv_at hl 4 rfl) ?_
            refine va_get (D := D) (ci := 5) (v := .int (nI lc)) (C := "BranchLayoutModel") (T := T_Mo) (N := 17) hx hb hts in_Mo hown hK.1 hP 0 rfl rfl 2 (by decide) (hts _ w_267) (fun _ h9 => h9) rfl d_Mo_walk_18 ?_
            refine lv_icmp_ge (tgt := 58) hx hb d_Mo_walk_21 (by decide) (fun c_14 => ?_) (fun c_14 => ?_)
            · skip
              exact stm a _ _ ls ha (Or.inl (Nat.le_antisymm ha ((nI_leI (by omega) (by omega)).mp c_14))) hw hS hl
            · skip
              have hlt : a < lc := Nat.lt_of_not_le fun q => c_14 (nI_le q (by omega))
              obtain ⟨r8, r9⟩ := hL a hlt
              obtain ⟨g3, g4⟩ := hI.2.2.2.1 a hlt
              have hra := hrem a (Nat.le_refl a) hlt
              have z8 : zWs c br R t k a 8 a = R 8 a := zWs_o (by decide) (by decide) (by decide)
              have z9 : zWs c br R t k a 9 a = R 9 a := zWs_o (by decide) (by decide) (by decide)
              refine lv_aload_n hx hb d_Mo_walk_24 rfl (lv_at hl 4 rfl) ?_
              refine va_get (D := D) (ci := 5) (v := .ref (q 9)) (C := "BranchLayoutModel") (T := T_Mo) (N := 17) hx hb hts in_Mo hown hK.1 hP 0 rfl rfl 9 (by decide) (hts _ w_274) (fun _ h9 => h9) rfl d_Mo_walk_25 ?_
              refine lv_iload_n hx hb d_Mo_walk_28 rfl (lv_at hl 1 rfl) ?_
              refine va_iald hx hb hK.1 hP 7 0 rfl rfl (vp_in_nI (show a < 1024 by omega) (by decide)) d_Mo_walk_29 ?_
              rw [nI_clamp (show a < 2 ^ 31 by omega)]
              rw [z9, r9]
              refine lv_iload hx hb d_Mo_walk_30 (lv_at hl 0 rfl) ?_
              refine lv_icmp_gt (tgt := 58) hx hb d_Mo_walk_32 (by decide) (fun c_15 => ?_) (fun c_15 => ?_)
              · skip
                exact stm a _ _ ls ha (Or.inr ⟨hlt, (nI_ltI (by omega) (by omega)).mp c_15⟩) hw hS hl
              · skip
                have hak : c 4 a = k := Nat.le_antisymm (Nat.le_of_not_lt fun q => c_15 (nI_lt q (by omega))) hra
                refine lv_aload_n hx hb d_Mo_walk_35 rfl (lv_at hl 4 rfl) ?_
                refine va_get (D := D) (ci := 5) (v := .ref (q 8)) (C := "BranchLayoutModel") (T := T_Mo) (N := 17) hx hb hts in_Mo hown hK.1 hP 0 rfl rfl 8 (by decide) (hts _ w_273) (fun _ h9 => h9) rfl d_Mo_walk_36 ?_
                refine lv_iload_n hx hb d_Mo_walk_39 rfl (lv_at hl 1 rfl) ?_
                refine va_iald hx hb hK.1 hP 6 0 rfl rfl (vp_in_nI (show a < 1024 by omega) (by decide)) d_Mo_walk_40 ?_
                rw [nI_clamp (show a < 2 ^ 31 by omega)]
                rw [z8, r8]
                refine lv_iload_n hx hb d_Mo_walk_41 rfl (lv_at hl 3 rfl) ?_
                refine lv_icmp_ne (tgt := 52) hx hb d_Mo_walk_42 (by decide) (fun c_16 => ?_) (fun c_16 => ?_)
                · skip
                  have hct : ¬ c 3 a = t := fun q => c_16 (by rw [q])
                  refine lv_iinc (v := nI (a + 1)) (lv' := [(3, .int (nI (a + 1))), (4, .int (nI k)), (2, .int (nI (zSZ c br k t))), (1, .int (nI t)), (0, .ref (q 0))]) hx hb d_Mo_walk_52 hl (k := 1) rfl (nI_1 a) (by decide) rfl (fun ls hl => ?_)
                  refine lv_goto (tgt := 16) hx hb d_Mo_walk_55 (by decide) ?_
                  exact ih2 (a + 1) _ _ ls hlt (by omega) (fun j h1 h2 => hrem j (by omega) h2) (by rw [← zWs_n hct]; exact hw) hS (lv_sub hl [1, 0, 2, 3, 4] rfl)
                · skip
                  have hct : c 3 a = t := (nI_eq (by omega) (by omega)).mp c_16
                  refine lv_aload_n hx hb d_Mo_walk_45 rfl (lv_at hl 4 rfl) ?_
                  refine va_get (D := D) (ci := 5) (v := .ref (q 14)) (C := "BranchLayoutModel") (T := T_Mo) (N := 17) hx hb hts in_Mo hown hK.1 hP 0 rfl rfl 14 (by decide) (hts _ w_279) (fun _ h9 => h9) rfl d_Mo_walk_46 ?_
                  refine lv_iload_n hx hb d_Mo_walk_49 rfl (lv_at hl 1 rfl) ?_
                  refine lv_iload_n hx hb d_Mo_walk_50 rfl (lv_at hl 2 rfl) ?_
                  refine va_iast hx hb hK.1 hP hD hS 12 0 rfl rfl (vp_in_nI (show a < 1024 by omega) (by decide)) d_Mo_walk_51 (fun H locs hP hD hS => ?_)
                  rw [nI_clamp (show a < 2 ^ 31 by omega), zm_set_14] at hP hD
                  refine lv_iinc (v := nI (a + 1)) (lv' := [(3, .int (nI (a + 1))), (4, .int (nI k)), (2, .int (nI (zSZ c br k t))), (1, .int (nI t)), (0, .ref (q 0))]) hx hb d_Mo_walk_52 hl (k := 1) rfl (nI_1 a) (by decide) rfl (fun ls hl => ?_)
                  refine lv_goto (tgt := 16) hx hb d_Mo_walk_55 (by decide) ?_
                  exact ih2 (a + 1) _ _ ls hlt (by omega) (fun j h1 h2 => hrem j (by omega) h2) ⟨by rw [← zWs_l hak hct]; exact hP, by rw [← zWs_l hak hct]; exact hD⟩ hS (lv_sub hl [1, 0, 2, 3, 4] rfl)
        exact lab (lc + 1) a _ _ ls ha (by omega) hrem hw hS hl
  have e00 : zSZ c br 0 t = 0 := rfl
  exact loop (sc + 1) 0 0 _ _ ls (Nat.zero_le _) (Nat.zero_le _) (by omega) (fun j _ _ => Nat.zero_le _) (by rw [← zWs_0]; exact hP0) hS (by rw [e00, nI_0]; exact lv_sub hl [0, 1, 2, 4, 3] rfl)
