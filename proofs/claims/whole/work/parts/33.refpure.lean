def zBr (c : Nat → Nat → Nat) (gp : Nat → Int32) (R : Nat → Nat → Int32) (k : Nat) : Nat → Nat → Int32 := fun f i => if f = 10 ∧ i < k then (if zb0 c gp i then 1 else 0) else R f i
theorem zBr_0 {c : Nat → Nat → Nat} {gp : Nat → Int32} {R : Nat → Nat → Int32} : R = zBr c gp R 0 := by
  funext f i
  simp [zBr]
theorem zBr_s {c : Nat → Nat → Nat} {gp : Nat → Int32} {R : Nat → Nat → Int32} {k : Nat} : zu (zBr c gp R k) 10 k (if zb0 c gp k then 1 else 0) = zBr c gp R (k + 1) := by
  funext f i
  by_cases hf : f = 10
  · subst hf
    by_cases hi : i = k
    · subst hi; simp [zu, zBr]
    · have : (i < k + 1) = (i < k) := by apply propext; omega
      simp [zu, zBr, hi, this]
  · simp [zu, zBr, hf]
theorem zBr_o {c : Nat → Nat → Nat} {gp : Nat → Int32} {R : Nat → Nat → Int32} {k f i : Nat} (h : f ≠ 10) : zBr c gp R k f i = R f i := by simp [zBr, h]
/-- section t walked -/
def zW1 (c : Nat → Nat → Nat) (br : Nat → Bool) (sc lc : Nat) (R : Nat → Nat → Int32) (t : Nat) : Nat → Nat → Int32 := zu (zWs c br R t sc lc) 15 t (nI (zSZ c br sc t))
theorem zW1_o {c : Nat → Nat → Nat} {br : Nat → Bool} {sc lc : Nat} {R : Nat → Nat → Int32} {t f i : Nat} (h1 : f ≠ 11) (h2 : f ≠ 12) (h3 : f ≠ 14) (h4 : f ≠ 15) : zW1 c br sc lc R t f i = R f i := by
  unfold zW1
  rw [zu_ne h4, zWs_o h1 h2 h3]
def zW4 (c : Nat → Nat → Nat) (br : Nat → Bool) (sc lc : Nat) (R : Nat → Nat → Int32) : Nat → Nat → Int32 := zW1 c br sc lc (zW1 c br sc lc (zW1 c br sc lc (zW1 c br sc lc R 0) 1) 2) 3
theorem zW4_o {c : Nat → Nat → Nat} {br : Nat → Bool} {sc lc : Nat} {R : Nat → Nat → Int32} {f i : Nat} (h1 : f ≠ 11) (h2 : f ≠ 12) (h3 : f ≠ 14) (h4 : f ≠ 15) : zW4 c br sc lc R f i = R f i := by
  unfold zW4
  rw [zW1_o h1 h2 h3 h4, zW1_o h1 h2 h3 h4, zW1_o h1 h2 h3 h4, zW1_o h1 h2 h3 h4]
theorem zW4_L {c : Nat → Nat → Nat} {br : Nat → Bool} {sc lc : Nat} {gp : Nat → Int32} {R : Nat → Nat → Int32} (hI : zI sc lc c gp) : (∀ i, i < sc → zVR (zW4 c br sc lc R) 0 i = zL c br sc 0 i ∧ zVR (zW4 c br sc lc R) 1 i = zL c br sc 1 i) ∧ (∀ j, j < lc → zVR (zW4 c br sc lc R) 4 j = zL c br sc 4 j) ∧ ∀ i, i < 4 → zVR (zW4 c br sc lc R) 5 i = zL c br sc 5 i := by
  refine ⟨fun i hi => ?_, fun j hj => ?_, fun i hi => ?_⟩
  · have h4 := (hI.2.2.1 i hi).2.1
    have : c 1 i = 0 ∨ c 1 i = 1 ∨ c 1 i = 2 ∨ c 1 i = 3 := by omega
    rcases this with e | e | e | e <;> simp [zVR, zW4, zW1, zu, zWs, zL, hi, e]
  · have h4 := (hI.2.2.2.1 j hj).1
    have : c 3 j = 0 ∨ c 3 j = 1 ∨ c 3 j = 2 ∨ c 3 j = 3 := by omega
    rcases this with e | e | e | e <;> simp [zVR, zW4, zW1, zu, zWs, zL, hj, e]
  · have : i = 0 ∨ i = 1 ∨ i = 2 ∨ i = 3 := by omega
    rcases this with e | e | e | e <;> simp [zVR, zW4, zW1, zu, zWs, zL, e]
/-- branches looked at -/
def zDn (gp mo : Nat → Int32) (R : Nat → Nat → Int32) (k : Nat) : Nat → Nat → Int32 := fun f i => if f = 10 ∧ i < k ∧ (R 10 i = 1 ∧ zok (zdi gp mo (zVR R) i) = false) then 0 else R f i
theorem zDn_0 {gp mo : Nat → Int32} {R : Nat → Nat → Int32} : R = zDn gp mo R 0 := by
  funext f i
  simp [zDn]
theorem zDn_o {gp mo : Nat → Int32} {R : Nat → Nat → Int32} {k f i : Nat} (h : f ≠ 10) : zDn gp mo R k f i = R f i := by simp [zDn, h]
theorem zDn_k {gp mo : Nat → Int32} {R : Nat → Nat → Int32} {k : Nat} : zDn gp mo R k 10 k = R 10 k := by simp [zDn]
theorem zDn_V {gp mo : Nat → Int32} {R : Nat → Nat → Int32} {k : Nat} : zVR (zDn gp mo R k) = zVR R := by
  funext f i
  simp [zVR, zDn]
theorem zDn_b {gp mo : Nat → Int32} {R : Nat → Nat → Int32} {k : Nat} (h : R 10 k = 1 ∧ zok (zdi gp mo (zVR R) k) = false) : zu (zDn gp mo R k) 10 k 0 = zDn gp mo R (k + 1) := by
  funext f i
  by_cases hi : i = k
  · subst hi
    by_cases hf : f = 10
    · subst hf; simp [zu, zDn, h]
    · simp [zu, zDn, hf]
  · have : (i < k + 1) = (i < k) := by apply propext; omega
    simp [zu, zDn, hi, this]
theorem zDn_n {gp mo : Nat → Int32} {R : Nat → Nat → Int32} {k : Nat} (h : ¬ (R 10 k = 1 ∧ zok (zdi gp mo (zVR R) k) = false)) : zDn gp mo R k = zDn gp mo R (k + 1) := by
  funext f i
  by_cases hi : i = k
  · subst hi
    simp only [zDn, h, and_false, if_false]
  · have : (i < k + 1) = (i < k) := by apply propext; omega
    simp [zDn, this]
/-- what is kept of the layout -/
def zEn (gp mo : Nat → Int32) (R : Nat → Nat → Int32) (k : Nat) : Nat → Nat → Int32 := fun f i => if f = 16 ∧ i < k then R 10 i else if f = 13 ∧ i < k then (if R 10 i = 1 then (zdi gp mo (zVR R) i).toInt32 else 0) else R f i
theorem zEn_0 {gp mo : Nat → Int32} {R : Nat → Nat → Int32} : R = zEn gp mo R 0 := by
  funext f i
  simp [zEn]
theorem zEn_o {gp mo : Nat → Int32} {R : Nat → Nat → Int32} {k f i : Nat} (h : f ≠ 16) (h2 : f ≠ 13) : zEn gp mo R k f i = R f i := by simp [zEn, h, h2]
theorem zEn_s {gp mo : Nat → Int32} {R : Nat → Nat → Int32} {k : Nat} : zu (zu (zEn gp mo R k) 16 k (R 10 k)) 13 k (if R 10 k = 1 then (zdi gp mo (zVR R) k).toInt32 else 0) = zEn gp mo R (k + 1) := by
  funext f i
  by_cases hi : i = k
  · subst hi
    by_cases hf : f = 16
    · subst hf; simp [zu, zEn]
    · by_cases hg : f = 13
      · subst hg; simp [zu, zEn]
      · simp [zu, zEn, hf, hg]
  · have : (i < k + 1) = (i < k) := by apply propext; omega
    simp [zu, zEn, hi, this]
theorem zdi_RR {g2 m2 gp mo : Nat → Int32} {V V2 : Nat → Nat → Int32} {k : Nat} (h6 : g2 k = gp k) (h7 : m2 k = mo k) (h0 : V 0 = V2 0) (h1 : V 1 = V2 1) (h4 : V 4 = V2 4) : zdi g2 m2 V k = zdi gp mo V2 k := by simp only [zdi, zgat, h6, h7, h0, h1, h4]
def zVB (R : Nat → Nat → Int32) : Nat → Nat → Int32 := fun f i => if f = 2 then R 10 i else 0
theorem zVB2 {R : Nat → Nat → Int32} {k : Nat} : zVB R 2 k = R 10 k := by simp [zVB]
theorem zMid_congr {c : Nat → Nat → Nat} {gp mo : Nat → Int32} {sc lc : Nat} {V V2 : Nat → Nat → Int32} (hI : zI sc lc c gp) (h : zMid c gp mo sc V) (h2 : ∀ k, k < sc → V2 2 k = V 2 k) (h3 : ∀ k, k < sc → V2 3 k = 0) : zMid c gp mo sc V2 := by
  have hb : ∀ k, k < sc → zbr V2 k = zbr V k := fun k hk => by simp only [zbr, h2 k hk]
  refine ⟨fun k hk => ?_, fun e he => h.2 e (zR_congr hI (zgo1_congr (zMid_go h) (fun j hj => (hb j hj).symm)) hb he)⟩
  obtain ⟨a1, a2, a3⟩ := h.1 k hk
  rw [h2 k hk, h3 k hk]
  exact ⟨a1, a2, fun _ => rfl⟩
theorem zMid_B0 {c : Nat → Nat → Nat} {gp mo : Nat → Int32} {sc lc : Nat} {R : Nat → Nat → Int32} (hI : zI sc lc c gp) : zMid c gp mo sc (zVB (zBr c gp R sc)) := by
  have e2 : ∀ k, k < sc → zVB (zBr c gp R sc) 2 k = if zb0 c gp k then 1 else 0 := fun k hk => by simp [zVB, zBr, hk]
  have hb : ∀ k, k < sc → zbr (zVB (zBr c gp R sc)) k = zb0 c gp k := fun k hk => by
    simp only [zbr, e2 k hk]
    cases zb0 c gp k <;> simp
  have hg : ∀ k, zb0 c gp k = true → c 0 k = 2 ∧ ¬ gp k = -1 := fun k h => by simpa [zb0] using h
  refine ⟨fun k hk => ?_, fun e he => zR_congr hI (fun k hk h => hg k (by rw [← hb k hk]; exact h)) hb he⟩
  rw [e2 k hk]
  cases hz : zb0 c gp k with
  | true => simpa using hg k hz
  | false => simp [zVB]
theorem zW4_T {c : Nat → Nat → Nat} {gp mo : Nat → Int32} {sc lc : Nat} {R : Nat → Nat → Int32} (hI : zI sc lc c gp) (h : zMid c gp mo sc (zVB R)) {k : Nat} (hk : k < sc) (hv : R 10 k = 1) : zdi gp mo (zVR (zW4 c (zbr (zVB R)) sc lc R)) k = zdi gp mo (zT c (zbr (zVB R)) (zVB R) sc lc) k ∧ zdi gp mo (zVR (zW4 c (zbr (zVB R)) sc lc R)) k = zdi gp mo (zL c (zbr (zVB R)) sc) k := by
  have hvl := (hI.2.2.1 k hk).2.2.2.2.1
  have hgo := ((h.1 k hk).2.1 (by rw [zVB2]; exact hv)).2
  have hL := zW4_L (br := zbr (zVB R)) (R := R) hI
  have e1 := zdi_congr (mo := mo) hI.1 hI.2.1 hk hvl hgo hL.1 hL.2.1
  refine ⟨?_, e1⟩
  rw [e1]
  exact (zT_di hI h hk (by rw [zVB2]; exact hv)).symm
theorem zMid_B {c : Nat → Nat → Nat} {gp mo : Nat → Int32} {sc lc : Nat} {R : Nat → Nat → Int32} (hI : zI sc lc c gp) (h : zMid c gp mo sc (zVB R)) (hb : ∃ i, i < sc ∧ (zW4 c (zbr (zVB R)) sc lc R 10 i = 1 ∧ zok (zdi gp mo (zVR (zW4 c (zbr (zVB R)) sc lc R)) i) = false)) : zMid c gp mo sc (zVB (zDn gp mo (zW4 c (zbr (zVB R)) sc lc R) sc)) ∧ zcs (zVB (zDn gp mo (zW4 c (zbr (zVB R)) sc lc R) sc)) sc < zcs (zVB R) sc := by
  obtain ⟨i, hi, h1, h2⟩ := hb
  have eW : ∀ k, zW4 c (zbr (zVB R)) sc lc R 10 k = R 10 k := fun k => zW4_o (by decide) (by decide) (by decide) (by decide)
  rw [eW] at h1
  obtain ⟨hM, hc⟩ := zMid_s hI h ⟨i, hi, by rw [zVB2]; exact h1, by rw [← (zW4_T hI h hi h1).1]; exact h2⟩
  have e2 : ∀ k, k < sc → zVB (zDn gp mo (zW4 c (zbr (zVB R)) sc lc R) sc) 2 k = zLn gp mo (zT c (zbr (zVB R)) (zVB R) sc lc) sc 2 k := by
    intro k hk
    have el : zLn gp mo (zT c (zbr (zVB R)) (zVB R) sc lc) sc 2 k = if zVB R 2 k = 1 ∧ zok (zdi gp mo (zT c (zbr (zVB R)) (zVB R) sc lc) k) = false then 0 else zVB R 2 k := by simp only [zLn, hk, true_and, and_self, if_true, zT_2]
    rw [el, zVB2, zVB2]
    simp only [zDn, hk, true_and, eW]
    by_cases hv : R 10 k = 1
    · rw [(zW4_T hI h hk hv).1]
    · simp [hv]
  exact ⟨zMid_congr hI hM e2 (fun k _ => by simp [zVB]), by rw [zcs_cong sc e2]; exact hc⟩
theorem zMid_F {c : Nat → Nat → Nat} {gp mo : Nat → Int32} {sc lc : Nat} {R : Nat → Nat → Int32} (hI : zI sc lc c gp) (h : zMid c gp mo sc (zVB R)) (hb : ∀ i, i < sc → ¬ (zW4 c (zbr (zVB R)) sc lc R 10 i = 1 ∧ zok (zdi gp mo (zVR (zW4 c (zbr (zVB R)) sc lc R)) i) = false)) : zRx c gp mo sc lc (zVR (zEn gp mo (zDn gp mo (zW4 c (zbr (zVB R)) sc lc R) sc) sc)) (nI (zcb c (zbr (zVB R)) sc)) := by
  have eW : ∀ k, zW4 c (zbr (zVB R)) sc lc R 10 k = R 10 k := fun k => zW4_o (by decide) (by decide) (by decide) (by decide)
  have hL := zW4_L (br := zbr (zVB R)) (R := R) hI
  have e10 : ∀ k, k < sc → zDn gp mo (zW4 c (zbr (zVB R)) sc lc R) sc 10 k = R 10 k := fun k hk => by
    have hn := hb k hk
    simp only [zDn, hk, true_and, hn, if_false]
    exact eW k
  have eV : ∀ f k, f ≠ 2 → f ≠ 3 → zVR (zEn gp mo (zDn gp mo (zW4 c (zbr (zVB R)) sc lc R) sc) sc) f k = zVR (zW4 c (zbr (zVB R)) sc lc R) f k := fun f k h2 h3 => by
    simp [zVR, h2, h3, zEn, zDn]
  have hbk : ∀ k, zbr (zVB R) k = decide (R 10 k = 1) := fun k => by simp only [zbr, zVB2]
  refine ⟨zbr (zVB R), h.2 _ ⟨0, ?_, fun k _ => rfl⟩, zMid_go h, ⟨fun k hk => ⟨?_, ?_, ?_, ?_⟩, fun j hj => ?_, fun i hi => ?_⟩, rfl⟩
  · rintro ⟨k, hk, q1, q2⟩
    rw [hbk] at q1
    have h1 := of_decide_eq_true q1
    exact hb k hk ⟨by rw [eW]; exact h1, by rw [(zW4_T hI h hk h1).2]; exact q2⟩
  · rw [eV 0 k (by decide) (by decide)]; exact (hL.1 k hk).1
  · rw [eV 1 k (by decide) (by decide)]; exact (hL.1 k hk).2
  · have e16 : zVR (zEn gp mo (zDn gp mo (zW4 c (zbr (zVB R)) sc lc R) sc) sc) 2 k = R 10 k := by
      simp only [zVR, zEn, hk]
      simp [e10 k hk]
    rw [e16, hbk]
    rcases (h.1 k hk).1 with q | q <;> rw [zVB2] at q <;> simp [q]
  · have e13 : zVR (zEn gp mo (zDn gp mo (zW4 c (zbr (zVB R)) sc lc R) sc) sc) 3 k = if R 10 k = 1 then (zdi gp mo (zVR (zW4 c (zbr (zVB R)) sc lc R)) k).toInt32 else 0 := by
      simp only [zVR, zEn, hk]
      simp [e10 k hk, ← zDn_V (gp := gp) (mo := mo) (R := zW4 c (zbr (zVB R)) sc lc R) (k := sc)]
    rw [e13, hbk]
    by_cases hv : R 10 k = 1
    · rw [(zW4_T hI h hk hv).2]
      simp [hv]
    · simp [hv]
  · rw [eV 4 j (by decide) (by decide)]; exact hL.2.1 j hj
  · rw [eV 5 i (by decide) (by decide)]; exact hL.2.2 i hi
