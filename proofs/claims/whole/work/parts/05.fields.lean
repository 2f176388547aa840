/-- a heap that holds a world -/
def zH (D : va_G) (A : Nat → Prop) (ws : va_W) (H : Heap) : Prop := va_P D zcl ws H ∧ va_D A ws
section ZS
variable {p : Program} {l : Launch} {e : Env} {R : Room} {s : State} {m : MethodId} {av : Array Value} {below : List Frame} {meth : Method} {cd : Code} {H H0 : Heap} {locs : List Loc} {cells slots : Nat} {Q : State → Prop} {own nm : String} {cc : ByteArray} {nL : Nat} {r : Option FieldType} {pc : Nat} {ls : Array Slot} {rest : List Value} {A : Nat → Prop}
variable {D : va_G} {o : Nat × Nat × Nat × Nat} {cs : ClassId × ClassId × ClassId × ClassId} {sc lc : Nat} {fa fb : Nat → Option Nat} {ad bd : Nat → Nat} {c : Nat → Nat → Nat} {gp mo gp' mo' : Nat → Int32} {V V' : Nat → Nat → Int32} {k j i : Nat}
theorem zs_get_length (E : zE p s m meth cd av own nm cc nL r) (hK : zK D cs s) (hP : va_P D zcl (zB o cs sc lc fa fb ad bd c gp mo V) H) (hk : k < sc) {idx : Nat} {rf : String} (hlink : Cond.fieldLink own idx rf "length" "I" ∈ zt) (hsame : ∀ x, s.fieldFound? "BranchLayout$Statement" "length" "I" = some x → s.fieldFound? rf "length" "I" = some x) (hdg : decode cc pc = .ok (.getfield idx, 3))
    (kk : W p l e R s m av below meth cd H locs cells slots Q (F0 m (pc + 3) ls (.int (V 1 k) :: rest))) : W p l e R s m av below meth cd H locs cells slots Q (F0 m pc ls (.ref (ad k) :: rest)) := by
  obtain ⟨hx, hb, hr, hts, hown, hlocks, hml, hin⟩ := E
  have hc := zb_s (o := o) (cs := cs) (lc := lc) (fa := fa) (fb := fb) (ad := ad) (bd := bd) (c := c) (gp := gp) (mo := mo) (V := V) hk
  by_cases h2 : c 0 k = 2
  · simp only [zcell, h2, if_true] at hc
    exact va_get (D := D) (ci := 1) (C := "BranchLayout$Branch") (T := T_Br) (N := 8) hx hb hts in_Br hown hK.1 hP (4 + k) hc rfl 0 (by decide) (hts _ hlink) hsame rfl hdg kk
  · by_cases h1 : c 0 k = 1
    · simp only [zcell, h2, h1, if_true, if_false] at hc
      exact va_get (D := D) (ci := 0) (C := "BranchLayout$Alignment") (T := T_Al) (N := 4) hx hb hts in_Al hown hK.1 hP (4 + k) hc rfl 0 (by decide) (hts _ hlink) hsame rfl hdg kk
    · simp only [zcell, h2, h1, if_false] at hc
      exact va_get (D := D) (ci := 2) (C := "BranchLayout$Bytes") (T := T_By) (N := 4) hx hb hts in_By hown hK.1 hP (4 + k) hc rfl 0 (by decide) (hts _ hlink) hsame rfl hdg kk
theorem zs_get_section (E : zE p s m meth cd av own nm cc nL r) (hK : zK D cs s) (hP : va_P D zcl (zB o cs sc lc fa fb ad bd c gp mo V) H) (hk : k < sc) {idx : Nat} {rf : String} (hlink : Cond.fieldLink own idx rf "section" "I" ∈ zt) (hsame : ∀ x, s.fieldFound? "BranchLayout$Place" "section" "I" = some x → s.fieldFound? rf "section" "I" = some x) (hdg : decode cc pc = .ok (.getfield idx, 3))
    (kk : W p l e R s m av below meth cd H locs cells slots Q (F0 m (pc + 3) ls (.int (nI (c 1 k)) :: rest))) : W p l e R s m av below meth cd H locs cells slots Q (F0 m pc ls (.ref (ad k) :: rest)) := by
  obtain ⟨hx, hb, hr, hts, hown, hlocks, hml, hin⟩ := E
  have hc := zb_s (o := o) (cs := cs) (lc := lc) (fa := fa) (fb := fb) (ad := ad) (bd := bd) (c := c) (gp := gp) (mo := mo) (V := V) hk
  by_cases h2 : c 0 k = 2
  · simp only [zcell, h2, if_true] at hc
    exact va_get (D := D) (ci := 1) (C := "BranchLayout$Branch") (T := T_Br) (N := 8) hx hb hts in_Br hown hK.1 hP (4 + k) hc rfl 1 (by decide) (hts _ hlink) hsame rfl hdg kk
  · by_cases h1 : c 0 k = 1
    · simp only [zcell, h2, h1, if_true, if_false] at hc
      exact va_get (D := D) (ci := 0) (C := "BranchLayout$Alignment") (T := T_Al) (N := 4) hx hb hts in_Al hown hK.1 hP (4 + k) hc rfl 1 (by decide) (hts _ hlink) hsame rfl hdg kk
    · simp only [zcell, h2, h1, if_false] at hc
      exact va_get (D := D) (ci := 2) (C := "BranchLayout$Bytes") (T := T_By) (N := 4) hx hb hts in_By hown hK.1 hP (4 + k) hc rfl 1 (by decide) (hts _ hlink) hsame rfl hdg kk
theorem zs_get_at (E : zE p s m meth cd av own nm cc nL r) (hK : zK D cs s) (hP : va_P D zcl (zB o cs sc lc fa fb ad bd c gp mo V) H) (hk : k < sc) {idx : Nat} {rf : String} (hlink : Cond.fieldLink own idx rf "at" "I" ∈ zt) (hsame : ∀ x, s.fieldFound? "BranchLayout$Place" "at" "I" = some x → s.fieldFound? rf "at" "I" = some x) (hdg : decode cc pc = .ok (.getfield idx, 3))
    (kk : W p l e R s m av below meth cd H locs cells slots Q (F0 m (pc + 3) ls (.int (V 0 k) :: rest))) : W p l e R s m av below meth cd H locs cells slots Q (F0 m pc ls (.ref (ad k) :: rest)) := by
  obtain ⟨hx, hb, hr, hts, hown, hlocks, hml, hin⟩ := E
  have hc := zb_s (o := o) (cs := cs) (lc := lc) (fa := fa) (fb := fb) (ad := ad) (bd := bd) (c := c) (gp := gp) (mo := mo) (V := V) hk
  by_cases h2 : c 0 k = 2
  · simp only [zcell, h2, if_true] at hc
    exact va_get (D := D) (ci := 1) (C := "BranchLayout$Branch") (T := T_Br) (N := 8) hx hb hts in_Br hown hK.1 hP (4 + k) hc rfl 2 (by decide) (hts _ hlink) hsame rfl hdg kk
  · by_cases h1 : c 0 k = 1
    · simp only [zcell, h2, h1, if_true, if_false] at hc
      exact va_get (D := D) (ci := 0) (C := "BranchLayout$Alignment") (T := T_Al) (N := 4) hx hb hts in_Al hown hK.1 hP (4 + k) hc rfl 2 (by decide) (hts _ hlink) hsame rfl hdg kk
    · simp only [zcell, h2, h1, if_false] at hc
      exact va_get (D := D) (ci := 2) (C := "BranchLayout$Bytes") (T := T_By) (N := 4) hx hb hts in_By hown hK.1 hP (4 + k) hc rfl 2 (by decide) (hts _ hlink) hsame rfl hdg kk
theorem zs_put_length (E : zE p s m meth cd av own nm cc nL r) (hK : zK D cs s) (hP : va_P D zcl (zB o cs sc lc fa fb ad bd c gp mo V) H) (hD : va_D A (zB o cs sc lc fa fb ad bd c gp mo V)) (hS : va_S A H0 H locs) (hk : k < sc) {x : Int32} {idx : Nat} {rf : String} (hlink : Cond.fieldLink own idx rf "length" "I" ∈ zt) (hsame : ∀ x, s.fieldFound? "BranchLayout$Statement" "length" "I" = some x → s.fieldFound? rf "length" "I" = some x) (hdg : decode cc pc = .ok (.putfield idx, 3))
    (kk : ∀ (H1 : Heap) (locs1 : List Loc), zH D A (zB o cs sc lc fa fb ad bd c gp mo (zu V 1 k x)) H1 → va_S A H0 H1 locs1 → W p l e R s m av below meth cd H1 locs1 cells slots Q (F0 m (pc + 3) ls rest)) : W p l e R s m av below meth cd H locs cells slots Q (F0 m pc ls (.int x :: .ref (ad k) :: rest)) := by
  obtain ⟨hx, hb, hr, hts, hown, hlocks, hml, hin⟩ := E
  have hc := zb_s (o := o) (cs := cs) (lc := lc) (fa := fa) (fb := fb) (ad := ad) (bd := bd) (c := c) (gp := gp) (mo := mo) (V := V) hk
  by_cases h2 : c 0 k = 2
  · have h1 : True := trivial
    simp only [zcell, h2, if_true] at hc
    refine va_put (D := D) (ci := 1) (v := .int x) (ty := .int) (C := "BranchLayout$Branch") (T := T_Br) (N := 8) hx hb hts in_Br ty_Br ok_Br nm_Br hown hK.1 hP hD hS (4 + k) hc rfl 0 (by decide) (hts _ hlink) hsame rfl (by decide +kernel) rfl rfl (Nat.le_of_ble_eq_true rfl) hdg (fun H1 locs1 hP1 hD1 hS1 => ?_)
    have e1 := zb_sets (o := o) (cs := cs) (lc := lc) (fa := fa) (fb := fb) (ad := ad) (bd := bd) (c := c) (gp := gp) (mo := mo) (gp' := gp) (mo' := mo) (V := V) (V' := zu V 1 k x) hk rfl (fun i _ h => zcell_u (by decide) h) (zu_ne (by decide)).symm (zu_ne (by decide)).symm
    simp only [zcell, h2, h1, if_true, if_false, zu_at, zu_ne (show (0 : Nat) ≠ 1 by decide), zu_ne (show (1 : Nat) ≠ 0 by decide), zu_ne (show (2 : Nat) ≠ 1 by decide), zu_ne (show (3 : Nat) ≠ 1 by decide)] at e1
    exact kk H1 locs1 ⟨by rw [← e1]; exact hP1, by rw [← e1]; exact hD1⟩ hS1
  · by_cases h1 : c 0 k = 1
    · simp only [zcell, h2, h1, if_true, if_false] at hc
      refine va_put (D := D) (ci := 0) (v := .int x) (ty := .int) (C := "BranchLayout$Alignment") (T := T_Al) (N := 4) hx hb hts in_Al ty_Al ok_Al nm_Al hown hK.1 hP hD hS (4 + k) hc rfl 0 (by decide) (hts _ hlink) hsame rfl (by decide +kernel) rfl rfl (Nat.le_of_ble_eq_true rfl) hdg (fun H1 locs1 hP1 hD1 hS1 => ?_)
      have e1 := zb_sets (o := o) (cs := cs) (lc := lc) (fa := fa) (fb := fb) (ad := ad) (bd := bd) (c := c) (gp := gp) (mo := mo) (gp' := gp) (mo' := mo) (V := V) (V' := zu V 1 k x) hk rfl (fun i _ h => zcell_u (by decide) h) (zu_ne (by decide)).symm (zu_ne (by decide)).symm
      simp only [zcell, h2, h1, if_true, if_false, zu_at, zu_ne (show (0 : Nat) ≠ 1 by decide), zu_ne (show (1 : Nat) ≠ 0 by decide), zu_ne (show (2 : Nat) ≠ 1 by decide), zu_ne (show (3 : Nat) ≠ 1 by decide)] at e1
      exact kk H1 locs1 ⟨by rw [← e1]; exact hP1, by rw [← e1]; exact hD1⟩ hS1
    · simp only [zcell, h2, h1, if_false] at hc
      refine va_put (D := D) (ci := 2) (v := .int x) (ty := .int) (C := "BranchLayout$Bytes") (T := T_By) (N := 4) hx hb hts in_By ty_By ok_By nm_By hown hK.1 hP hD hS (4 + k) hc rfl 0 (by decide) (hts _ hlink) hsame rfl (by decide +kernel) rfl rfl (Nat.le_of_ble_eq_true rfl) hdg (fun H1 locs1 hP1 hD1 hS1 => ?_)
      have e1 := zb_sets (o := o) (cs := cs) (lc := lc) (fa := fa) (fb := fb) (ad := ad) (bd := bd) (c := c) (gp := gp) (mo := mo) (gp' := gp) (mo' := mo) (V := V) (V' := zu V 1 k x) hk rfl (fun i _ h => zcell_u (by decide) h) (zu_ne (by decide)).symm (zu_ne (by decide)).symm
      simp only [zcell, h2, h1, if_true, if_false, zu_at, zu_ne (show (0 : Nat) ≠ 1 by decide), zu_ne (show (1 : Nat) ≠ 0 by decide), zu_ne (show (2 : Nat) ≠ 1 by decide), zu_ne (show (3 : Nat) ≠ 1 by decide)] at e1
      exact kk H1 locs1 ⟨by rw [← e1]; exact hP1, by rw [← e1]; exact hD1⟩ hS1
theorem zs_put_at (E : zE p s m meth cd av own nm cc nL r) (hK : zK D cs s) (hP : va_P D zcl (zB o cs sc lc fa fb ad bd c gp mo V) H) (hD : va_D A (zB o cs sc lc fa fb ad bd c gp mo V)) (hS : va_S A H0 H locs) (hk : k < sc) {x : Int32} {idx : Nat} {rf : String} (hlink : Cond.fieldLink own idx rf "at" "I" ∈ zt) (hsame : ∀ x, s.fieldFound? "BranchLayout$Place" "at" "I" = some x → s.fieldFound? rf "at" "I" = some x) (hdg : decode cc pc = .ok (.putfield idx, 3))
    (kk : ∀ (H1 : Heap) (locs1 : List Loc), zH D A (zB o cs sc lc fa fb ad bd c gp mo (zu V 0 k x)) H1 → va_S A H0 H1 locs1 → W p l e R s m av below meth cd H1 locs1 cells slots Q (F0 m (pc + 3) ls rest)) : W p l e R s m av below meth cd H locs cells slots Q (F0 m pc ls (.int x :: .ref (ad k) :: rest)) := by
  obtain ⟨hx, hb, hr, hts, hown, hlocks, hml, hin⟩ := E
  have hc := zb_s (o := o) (cs := cs) (lc := lc) (fa := fa) (fb := fb) (ad := ad) (bd := bd) (c := c) (gp := gp) (mo := mo) (V := V) hk
  by_cases h2 : c 0 k = 2
  · have h1 : True := trivial
    simp only [zcell, h2, if_true] at hc
    refine va_put (D := D) (ci := 1) (v := .int x) (ty := .int) (C := "BranchLayout$Branch") (T := T_Br) (N := 8) hx hb hts in_Br ty_Br ok_Br nm_Br hown hK.1 hP hD hS (4 + k) hc rfl 2 (by decide) (hts _ hlink) hsame rfl (by decide +kernel) rfl rfl (Nat.le_of_ble_eq_true rfl) hdg (fun H1 locs1 hP1 hD1 hS1 => ?_)
    have e1 := zb_sets (o := o) (cs := cs) (lc := lc) (fa := fa) (fb := fb) (ad := ad) (bd := bd) (c := c) (gp := gp) (mo := mo) (gp' := gp) (mo' := mo) (V := V) (V' := zu V 0 k x) hk rfl (fun i _ h => zcell_u (by decide) h) (zu_ne (by decide)).symm (zu_ne (by decide)).symm
    simp only [zcell, h2, h1, if_true, if_false, zu_at, zu_ne (show (0 : Nat) ≠ 1 by decide), zu_ne (show (1 : Nat) ≠ 0 by decide), zu_ne (show (2 : Nat) ≠ 0 by decide), zu_ne (show (3 : Nat) ≠ 0 by decide)] at e1
    exact kk H1 locs1 ⟨by rw [← e1]; exact hP1, by rw [← e1]; exact hD1⟩ hS1
  · by_cases h1 : c 0 k = 1
    · simp only [zcell, h2, h1, if_true, if_false] at hc
      refine va_put (D := D) (ci := 0) (v := .int x) (ty := .int) (C := "BranchLayout$Alignment") (T := T_Al) (N := 4) hx hb hts in_Al ty_Al ok_Al nm_Al hown hK.1 hP hD hS (4 + k) hc rfl 2 (by decide) (hts _ hlink) hsame rfl (by decide +kernel) rfl rfl (Nat.le_of_ble_eq_true rfl) hdg (fun H1 locs1 hP1 hD1 hS1 => ?_)
      have e1 := zb_sets (o := o) (cs := cs) (lc := lc) (fa := fa) (fb := fb) (ad := ad) (bd := bd) (c := c) (gp := gp) (mo := mo) (gp' := gp) (mo' := mo) (V := V) (V' := zu V 0 k x) hk rfl (fun i _ h => zcell_u (by decide) h) (zu_ne (by decide)).symm (zu_ne (by decide)).symm
      simp only [zcell, h2, h1, if_true, if_false, zu_at, zu_ne (show (0 : Nat) ≠ 1 by decide), zu_ne (show (1 : Nat) ≠ 0 by decide), zu_ne (show (2 : Nat) ≠ 0 by decide), zu_ne (show (3 : Nat) ≠ 0 by decide)] at e1
      exact kk H1 locs1 ⟨by rw [← e1]; exact hP1, by rw [← e1]; exact hD1⟩ hS1
    · simp only [zcell, h2, h1, if_false] at hc
      refine va_put (D := D) (ci := 2) (v := .int x) (ty := .int) (C := "BranchLayout$Bytes") (T := T_By) (N := 4) hx hb hts in_By ty_By ok_By nm_By hown hK.1 hP hD hS (4 + k) hc rfl 2 (by decide) (hts _ hlink) hsame rfl (by decide +kernel) rfl rfl (Nat.le_of_ble_eq_true rfl) hdg (fun H1 locs1 hP1 hD1 hS1 => ?_)
      have e1 := zb_sets (o := o) (cs := cs) (lc := lc) (fa := fa) (fb := fb) (ad := ad) (bd := bd) (c := c) (gp := gp) (mo := mo) (gp' := gp) (mo' := mo) (V := V) (V' := zu V 0 k x) hk rfl (fun i _ h => zcell_u (by decide) h) (zu_ne (by decide)).symm (zu_ne (by decide)).symm
      simp only [zcell, h2, h1, if_true, if_false, zu_at, zu_ne (show (0 : Nat) ≠ 1 by decide), zu_ne (show (1 : Nat) ≠ 0 by decide), zu_ne (show (2 : Nat) ≠ 0 by decide), zu_ne (show (3 : Nat) ≠ 0 by decide)] at e1
      exact kk H1 locs1 ⟨by rw [← e1]; exact hP1, by rw [← e1]; exact hD1⟩ hS1
end ZS
/-- behind a call that had one cell alone: the others are as they were -/
theorem zone {D : va_G} {A : Nat → Prop} {ws : va_W} {H H1 : Heap} {b i : Nat} {e0 e : va_E} (h : zH D A ws H) (hi : ws[i]? = some (b, e0)) (h1 : zH D (fun q => q = b) [(b, e)] H1) (hk : ∀ q : Nat, q < H.size → ¬ q = b → H1[q]? = H[q]?) : zH D A (ws.set i (b, e)) H1 := by
  refine ⟨fun k q hq => ?_, h.2.set hi⟩
  have hl := (List.getElem?_eq_some_iff.mp hi).1
  by_cases hki : k = i
  · subst hki
    rw [List.getElem?_set_self hl] at hq
    cases hq
    exact h1.1 0 _ rfl
  · rw [List.getElem?_set_ne (Ne.symm hki)] at hq
    refine (h.1 k q hq).kept (hk q.1 (h.1 k q hq).lt (fun e => hki (h.2.1 k i q _ hq hi e)))
theorem zat {D : va_G} {A : Nat → Prop} {ws : va_W} {H : Heap} {b i : Nat} {e0 : va_E} (h : zH D A ws H) (hi : ws[i]? = some (b, e0)) : zH D (fun q => q = b) [(b, e0)] H := by
  refine ⟨fun k q hq => ?_, fun i j p q hi hj e => ?_, fun k q hq => ?_⟩
  · have hz : k < 1 := (List.getElem?_eq_some_iff.mp hq).1
    rw [show k = 0 by omega] at hq
    cases hq
    exact h.1 i _ hi
  · have h1 : i < 1 := (List.getElem?_eq_some_iff.mp hi).1
    have h2 : j < 1 := (List.getElem?_eq_some_iff.mp hj).1
    omega
  · have hz : k < 1 := (List.getElem?_eq_some_iff.mp hq).1
    rw [show k = 0 by omega] at hq
    cases hq
    rfl
