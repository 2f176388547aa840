def zac (c : Nat → Nat → Nat) (sc kd : Nat) (x n : Int32) : Nat → Nat → Nat := fun f k => if k = sc ∧ f = 0 then kd else if k = sc ∧ f = 1 then x.toNatClampNeg else if k = sc ∧ f = 2 then n.toNatClampNeg else c f k
def zaV (V : Nat → Nat → Int32) (sc : Nat) : Nat → Nat → Int32 := fun f k => if k = sc ∧ f < 4 then 0 else V f k
def zlc (c : Nat → Nat → Nat) (lc sc : Nat) (x : Int32) : Nat → Nat → Nat := fun f k => if k = lc ∧ f = 3 then x.toNatClampNeg else if k = lc ∧ f = 4 then sc else c f k
theorem zclamp {x : Int32} (h : ¬ x < 0) : nI x.toNatClampNeg = x := by
  obtain ⟨j, hj, rfl⟩ := nI_of h
  rw [nI_clamp hj]
theorem zm2 {i : Nat} (h : i < 2 ^ 30) : (-2 - (-2 - nI i)) = nI i ∧ (-2 - nI i) < 0 ∧ ¬ (-2 - nI i) = -1 := by
  have h1 : (nI i).toInt = (i : Int) := nI_toInt (by omega)
  have e1 : (-2 - nI i).toInt = -2 - (i : Int) := by
    rw [Int32.toInt_sub, h1]
    show Int.bmod (-2 - (i : Int)) (2 ^ 32) = _
    rw [Int.bmod_eq_of_le] <;> omega
  refine ⟨?_, ?_, fun h2 => ?_⟩
  · apply Int32.toInt_inj.mp
    rw [Int32.toInt_sub, e1, h1]
    show Int.bmod (-2 - (-2 - (i : Int))) (2 ^ 32) = _
    rw [Int.bmod_eq_of_le] <;> omega
  · rw [Int32.lt_iff_toInt_lt, e1]
    show -2 - (i : Int) < 0
    omega
  · have := congrArg Int32.toInt h2
    rw [e1] at this
    have h3 : (-1 : Int32).toInt = -1 := by decide
    rw [h3] at this
    omega
theorem zga_ad {ad bd : Nat → Nat} {sc lc b : Nat} {g : Int32} (hs : sc ≤ 4096) (hl : lc ≤ 1024) (h : zvalid sc lc g) : zga (va_up ad sc b) bd g = zga ad bd g := by
  rcases h with rfl | ⟨j, hj, rfl⟩ | ⟨i, hi, rfl⟩
  · simp [zga]
  · have h0 := nI_pos (n := j) (by omega)
    simp [zga, h0]
  · obtain ⟨e1, e2, e3⟩ := zm2 (i := i) (by omega)
    have e4 : (nI i).toNatClampNeg ≠ sc := by rw [nI_clamp (by omega)]; omega
    simp only [zga, e3, e2, if_true, if_false, e1, va_up_ne _ _ e4]
theorem zga_bd {ad bd : Nat → Nat} {sc lc b : Nat} {g : Int32} (hs : sc ≤ 4096) (hl : lc ≤ 1024) (h : zvalid sc lc g) : zga ad (va_up bd lc b) g = zga ad bd g := by
  rcases h with rfl | ⟨j, hj, rfl⟩ | ⟨i, hi, rfl⟩
  · simp [zga]
  · have h0 := nI_pos (n := j) (by omega)
    have e4 : (nI j).toNatClampNeg ≠ lc := by rw [nI_clamp (by omega)]; omega
    simp only [zga, h0, if_false, va_up_ne _ _ e4]
  · obtain ⟨e1, e2, e3⟩ := zm2 (i := i) (by omega)
    simp only [zga, e3, e2, if_true, if_false]
def zGx (bd : Nat → Nat) (c : Nat → Nat → Nat) (V : Nat → Nat → Int32) (lc q : Nat) (e : va_E) : Nat → Nat × va_E := fun j => if j = lc then (q, e) else (bd j, zlab c V j)
section ZA
variable {D : va_G} {A : Nat → Prop} {H H1 : Heap} {o : Nat × Nat × Nat × Nat} {cs : ClassId × ClassId × ClassId × ClassId} {sc lc : Nat} {fa fb : Nat → Option Nat} {ad bd : Nat → Nat} {c : Nat → Nat → Nat} {gp mo : Nat → Int32} {V : Nat → Nat → Int32} {X : va_W} {F : Nat → Nat × va_E} {q : Nat} {e e1 : va_E}
theorem zx_new (h : zH D A (zB o cs sc lc fa fb ad bd c gp mo V ++ [(q, e)]) H) : zH D A (zw_ws (zX o cs sc lc fa fb (V 5)) sc (fun k => (ad k, zcell c gp mo V ad bd k)) (lc + 1) (zGx bd c V lc q e)) H := by
  unfold zB at h
  rw [zw_pushg (G' := zGx bd c V lc q e) (fun i hi => by simp [zGx, Nat.ne_of_lt hi]) (by simp [zGx])] at h
  exact h
theorem zx_at (hX : X.length = 4) : (zw_ws X sc F (lc + 1) (zGx bd c V lc q e))[4 + sc + lc]? = some (q, e) := by
  have h := zw_g (X := X) (n := sc) (F := F) (k := lc + 1) (G := zGx bd c V lc q e) hX (Nat.lt_succ_self lc)
  rw [h]
  simp [zGx]
theorem zx_set (hX : X.length = 4) (h : zH D A (zw_ws X sc F (lc + 1) (zGx bd c V lc q e)) H) (h1 : zH D (fun x => x = q) [(q, e1)] H1) (hk : ∀ x : Nat, x < H.size → ¬ x = q → H1[x]? = H[x]?) : zH D A (zw_ws X sc F (lc + 1) (zGx bd c V lc q e1)) H1 := by
  have h2 := zone h (zx_at hX) h1 hk
  rw [zw_setg (X' := X) (F' := F) (G' := zGx bd c V lc q e1) hX (Nat.lt_succ_self lc) (by simp [zGx]) (fun i hi hn => by simp [zGx, hn]) (fun _ _ => rfl) rfl] at h2
  exact h2
theorem zb_add {z : Nat → Int32} (hI : zI sc lc c gp) {kd : Nat} {x n : Int32} (hz : z = V 5) (he : e = zcell (zac c sc kd x n) (upd gp sc (-1)) (upd mo sc 0) (zaV V sc) (va_up ad sc q) bd sc) (h : zH D A (zw_ws (zX o cs (sc + 1) lc fa fb z) sc (fun k => (ad k, zcell c gp mo V ad bd k)) (lc + 1) (zGx bd c V lc q e)) H) : zH D A (zB o cs (sc + 1) lc fa fb (va_up ad sc q) bd (zac c sc kd x n) (upd gp sc (-1)) (upd mo sc 0) (zaV V sc)) H := by
  subst hz
  obtain ⟨hs, hl, hk, hj, -⟩ := hI
  rw [← zw_pushg (G := fun j => (bd j, zlab c V j)) (fun i hi => by simp [zGx, Nat.ne_of_lt hi]) (q := (q, e)) (by simp [zGx])] at h
  have e5 : (zaV V sc) 5 = V 5 := by funext i; simp [zaV]
  have e4 : (zaV V sc) 4 = V 4 := by funext i; simp [zaV]
  obtain ⟨h1, h2⟩ := h
  have h3 := zw_pushf (F' := fun k => (va_up ad sc q k, zcell (zac c sc kd x n) (upd gp sc (-1)) (upd mo sc 0) (zaV V sc) (va_up ad sc q) bd k)) (G' := fun j => (bd j, zlab (zac c sc kd x n) (zaV V sc) j)) (fun i hi => ?_) (by rw [he, va_up_self]) (fun i hi => ?_) h1 h2
  · unfold zB
    rw [e5]
    exact h3
  · have hn : i ≠ sc := Nat.ne_of_lt hi
    obtain ⟨-, -, -, -, hv, -⟩ := hk i hi
    simp only [zcell, zac, zaV, upd, hn, false_and, if_false, va_up_ne _ _ hn, zga_ad hs hl hv]
  · simp only [zlab, e4]
    simp [zac]
theorem zb_lab {z : Nat → Int32} (hI : zI sc lc c gp) {x : Int32} (hx0 : ¬ x < 0) (hz : z = V 5) (he : e = .inr (3, [.int x, .int 0, .int (nI sc)])) (h : zH D A (zw_ws (zX o cs sc (lc + 1) fa fb z) sc (fun k => (ad k, zcell c gp mo V ad bd k)) (lc + 1) (zGx bd c V lc q e)) H) : zH D A (zB o cs sc (lc + 1) fa fb ad (va_up bd lc q) (zlc c lc sc x) gp mo (zu V 4 lc 0)) H := by
  subst hz
  obtain ⟨hs, hl, hk, hj, -⟩ := hI
  have e5 : (zu V 4 lc 0) 5 = V 5 := zu_ne (by decide)
  have e : zw_ws (zX o cs sc (lc + 1) fa fb (V 5)) sc (fun k => (ad k, zcell c gp mo V ad bd k)) (lc + 1) (zGx bd c V lc q e) = zB o cs sc (lc + 1) fa fb ad (va_up bd lc q) (zlc c lc sc x) gp mo (zu V 4 lc 0) := by
    unfold zB
    rw [e5]
    refine zw_congr (fun i hi => ?_) (fun i hi => ?_) rfl
    · obtain ⟨-, -, -, -, hv, -⟩ := hk i hi
      rw [zcell_u4 (by decide)]
      simp only [zcell, zga_bd hs hl hv]
      simp [zlc]
    · by_cases hn : i = lc
      · subst hn
        simp only [zGx, if_true, va_up_self, zlab, zu_at, he, zlc, true_and, if_true]
        simp [zclamp hx0]
      · simp only [zGx, hn, if_false, va_up_ne _ _ hn, zlab, zu_no (show ¬ ((4 : Nat) = 4 ∧ i = lc) from fun q => hn q.2), zlc, false_and]
  rw [← e]
  exact h
end ZA
theorem zvalid_s {sc lc : Nat} {g : Int32} (h : zvalid sc lc g) : zvalid (sc + 1) lc g := by
  rcases h with h | ⟨j, hj, h⟩ | ⟨i, hi, h⟩
  · exact Or.inl h
  · exact Or.inr (Or.inl ⟨j, hj, h⟩)
  · exact Or.inr (Or.inr ⟨i, by omega, h⟩)
theorem zvalid_l {sc lc : Nat} {g : Int32} (h : zvalid sc lc g) : zvalid sc (lc + 1) g := by
  rcases h with h | ⟨j, hj, h⟩ | ⟨i, hi, h⟩
  · exact Or.inl h
  · exact Or.inr (Or.inl ⟨j, by omega, h⟩)
  · exact Or.inr (Or.inr ⟨i, hi, h⟩)
theorem zI_add {sc lc : Nat} {c : Nat → Nat → Nat} {gp : Nat → Int32} {kd : Nat} {x n : Int32} (hI : zI sc lc c gp) (hlt : sc < 4096) (hkd : kd ≤ 2) (hx : x.toNatClampNeg < 4) (hn : n.toNatClampNeg ≤ 65536) (hp : kd = 1 → ∃ p, p ≤ 12 ∧ n.toNatClampNeg = 2 ^ p) : zI (sc + 1) lc (zac c sc kd x n) (upd gp sc (-1)) := by
  obtain ⟨hs, hl, hk, hj, hm⟩ := hI
  refine ⟨by omega, hl, fun k hk1 => ?_, fun j hj1 => ?_, fun i j hij hj1 => ?_⟩
  · by_cases hn1 : k = sc
    · subst hn1
      simp only [zac, upd, true_and, if_true]
      exact ⟨hkd, hx, hn, hp, Or.inl rfl, fun _ => trivial⟩
    · obtain ⟨h1, h2, h3, h4, h5, h6⟩ := hk k (by omega)
      simp only [zac, upd, hn1, false_and, if_false]
      exact ⟨h1, h2, h3, h4, zvalid_s h5, h6⟩
  · have := hj j hj1
    simp [zac]
    omega
  · have := hm i j hij hj1
    simpa [zac] using this
theorem zJ_add {sc : Nat} {c : Nat → Nat → Nat} {gp : Nat → Int32} {V : Nat → Nat → Int32} {kd : Nat} {x n : Int32} (h : zJ sc c gp V) : zJ (sc + 1) (zac c sc kd x n) (upd gp sc (-1)) (zaV V sc) := by
  intro k hk
  by_cases hn : k = sc
  · subst hn
    simp [zaV]
  · have := h k (by omega)
    simpa [zaV, upd, hn] using this
theorem zI_lab {sc lc : Nat} {c : Nat → Nat → Nat} {gp : Nat → Int32} {x : Int32} (hI : zI sc lc c gp) (hlt : lc < 1024) (hx : x.toNatClampNeg < 4) : zI sc (lc + 1) (zlc c lc sc x) gp := by
  obtain ⟨hs, hl, hk, hj, hm⟩ := hI
  refine ⟨hs, by omega, fun k hk1 => ?_, fun j hj1 => ?_, fun i j hij hj1 => ?_⟩
  · obtain ⟨h1, h2, h3, h4, h5, h6⟩ := hk k hk1
    simp only [zlc]
    simp only [show ¬ ((0 : Nat) = 3) by decide, show ¬ ((0 : Nat) = 4) by decide, show ¬ ((1 : Nat) = 3) by decide, show ¬ ((1 : Nat) = 4) by decide, show ¬ ((2 : Nat) = 3) by decide, show ¬ ((2 : Nat) = 4) by decide, and_false, if_false]
    exact ⟨h1, h2, h3, h4, zvalid_l h5, h6⟩
  · by_cases hn : j = lc
    · subst hn
      simp [zlc]
      exact hx
    · have := hj j (by omega)
      simpa [zlc, hn] using this
  · by_cases hn : j = lc
    · by_cases hi : i = lc
      · simp [zlc, hn, hi]
      · have := (hj i (by omega)).2
        simp [zlc, hn, hi]
        exact this
    · have hi : i ≠ lc := by omega
      have := hm i j hij (by omega)
      simpa [zlc, hn, hi] using this
theorem zJ_lab {sc lc : Nat} {c : Nat → Nat → Nat} {gp : Nat → Int32} {V : Nat → Nat → Int32} {x : Int32} (h : zJ sc c gp V) : zJ sc (zlc c lc sc x) gp (zu V 4 lc 0) := by
  intro k hk
  have := h k hk
  simpa [zu] using this
