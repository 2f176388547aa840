section ZCG
variable {c : Nat → Nat → Nat} {gp mo : Nat → Int32} {sc lc : Nat} {b b2 : Nat → Bool} {V V2 : Nat → Nat → Int32}
theorem zln_congr {k e : Nat} (h : b k = b2 k) : zln c b k e = zln c b2 k e := by simp only [zln, h]
theorem zSZ_congr : ∀ (k i : Nat), (∀ j, j < k → b j = b2 j) → zSZ c b k i = zSZ c b2 k i
  | 0, _, _ => rfl
  | k + 1, i, h => by
    have h1 := zSZ_congr k i (fun j hj => h j (by omega))
    simp only [zSZ, h1, zln_congr (h k (by omega))]
theorem zL0_congr {k : Nat} (h : ∀ j, j < sc → b j = b2 j) (hk : k < sc) : zL c b sc 0 k = zL c b2 sc 0 k ∧ zL c b sc 1 k = zL c b2 sc 1 k := by
  have h1 := zSZ_congr (c := c) k (c 1 k) (fun j hj => h j (by omega))
  simp [zL, h1, zln_congr (h k hk)]
theorem zL4_congr {j : Nat} (h : ∀ j, j < sc → b j = b2 j) (hj : c 4 j ≤ sc) : zL c b sc 4 j = zL c b2 sc 4 j := by
  have h1 := zSZ_congr (c := c) (c 4 j) (c 3 j) (fun i hi => h i (by omega))
  simp [zL, h1]
theorem zL5_congr {i : Nat} (h : ∀ j, j < sc → b j = b2 j) : zL c b sc 5 i = zL c b2 sc 5 i := by
  have h1 := zSZ_congr (c := c) sc i h
  simp [zL, h1]
theorem zdi_congr (hs : sc ≤ 4096) (hl : lc ≤ 1024) {k : Nat} (hk : k < sc) (hv : zvalid sc lc (gp k)) (hn : ¬ gp k = -1) (h0 : ∀ i, i < sc → V 0 i = V2 0 i ∧ V 1 i = V2 1 i) (h4 : ∀ j, j < lc → V 4 j = V2 4 j) : zdi gp mo V k = zdi gp mo V2 k := by
  have h1 := h0 k hk
  have h2 : zgat (gp k) V = zgat (gp k) V2 := by
    rcases hv with h | ⟨j, hj, h⟩ | ⟨i, hi, h⟩
    · exact absurd h hn
    · have e0 := nI_pos (n := j) (by omega)
      have e1 := nI_clamp (n := j) (by omega)
      rw [h]
      simp only [zgat, e0, if_false, e1, h4 j hj]
    · obtain ⟨e1, e2, e3⟩ := zm2 (i := i) (by omega)
      have e4 := nI_clamp (n := i) (by omega)
      rw [h]
      simp only [zgat, e2, if_true, e1, e4, (h0 i hi).1]
  simp only [zdi, h2, h1.1, h1.2]
/-- only branches that go are short -/
def zgo1 (sc : Nat) (c : Nat → Nat → Nat) (gp : Nat → Int32) (b : Nat → Bool) : Prop := ∀ k, k < sc → b k = true → c 0 k = 2 ∧ ¬ gp k = -1
theorem zok_congr (hI : zI sc lc c gp) (hg : zgo1 sc c gp b) (h : ∀ j, j < sc → b j = b2 j) {k : Nat} (hk : k < sc) (hb : b k = true) : zok (zdi gp mo (zL c b sc) k) = zok (zdi gp mo (zL c b2 sc) k) := by
  rw [zdi_congr (V2 := zL c b2 sc) hI.1 hI.2.1 hk (hI.2.2.1 k hk).2.2.2.2.1 (hg k hk hb).2 (fun i hi => zL0_congr h hi) (fun j hj => zL4_congr h (hI.2.2.2.1 j hj).2)]
theorem zany_congr (hI : zI sc lc c gp) (hg : zgo1 sc c gp b) (h : ∀ j, j < sc → b j = b2 j) : zany c gp mo sc b ↔ zany c gp mo sc b2 := by
  constructor
  · rintro ⟨k, hk, h1, h2⟩
    exact ⟨k, hk, by rw [← h k hk]; exact h1, by rw [← zok_congr hI hg h hk h1]; exact h2⟩
  · rintro ⟨k, hk, h1, h2⟩
    have h3 : b k = true := by rw [h k hk]; exact h1
    exact ⟨k, hk, h3, by rw [zok_congr hI hg h hk h3]; exact h2⟩
theorem zstep_congr (hI : zI sc lc c gp) (hg : zgo1 sc c gp b) (h : ∀ j, j < sc → b j = b2 j) {k : Nat} (hk : k < sc) : zstep c gp mo sc b k = zstep c gp mo sc b2 k := by
  simp only [zstep]
  cases hb : b k with
  | false => rw [← h k hk, hb]; simp
  | true => rw [← h k hk, hb, zok_congr hI hg h hk hb]
theorem zgo1_step (hg : zgo1 sc c gp b) : zgo1 sc c gp (zstep c gp mo sc b) := fun k hk h => hg k hk (by simp only [zstep, Bool.and_eq_true] at h; exact h.1)
theorem zgo1_congr (hg : zgo1 sc c gp b) (h : ∀ j, j < sc → b j = b2 j) : zgo1 sc c gp b2 := fun k hk h1 => hg k hk (by rw [h k hk]; exact h1)
end ZCG
/-- b runs to e in n rounds -/
def zrun (c : Nat → Nat → Nat) (gp mo : Nat → Int32) (sc : Nat) : Nat → (Nat → Bool) → (Nat → Bool) → Prop
  | 0, b, e => ¬ zany c gp mo sc b ∧ ∀ k, k < sc → e k = b k
  | n + 1, b, e => zany c gp mo sc b ∧ zrun c gp mo sc n (zstep c gp mo sc b) e
def zR (c : Nat → Nat → Nat) (gp mo : Nat → Int32) (sc : Nat) (b e : Nat → Bool) : Prop := ∃ n, zrun c gp mo sc n b e
section ZRN
variable {c : Nat → Nat → Nat} {gp mo : Nat → Int32} {sc lc : Nat}
theorem zrun_congr (hI : zI sc lc c gp) : ∀ (n : Nat) {b b2 e : Nat → Bool}, zgo1 sc c gp b → (∀ j, j < sc → b j = b2 j) → zrun c gp mo sc n b e → zrun c gp mo sc n b2 e
  | 0, b, b2, e, hg, h, ⟨h1, h2⟩ => ⟨fun q => h1 ((zany_congr hI hg h).mpr q), fun k hk => by rw [h2 k hk, h k hk]⟩
  | n + 1, b, b2, e, hg, h, ⟨h1, h2⟩ => ⟨(zany_congr hI hg h).mp h1, zrun_congr hI n (zgo1_step hg) (fun j hj => zstep_congr hI hg h hj) h2⟩
theorem zR_congr (hI : zI sc lc c gp) {b b2 e : Nat → Bool} (hg : zgo1 sc c gp b) (h : ∀ j, j < sc → b j = b2 j) (hr : zR c gp mo sc b e) : zR c gp mo sc b2 e := by
  obtain ⟨n, hn⟩ := hr
  exact ⟨n, zrun_congr hI n hg h hn⟩
theorem zrun_det : ∀ (n n2 : Nat) {b e e2 : Nat → Bool}, zrun c gp mo sc n b e → zrun c gp mo sc n2 b e2 → ∀ k, k < sc → e k = e2 k
  | 0, 0, b, e, e2, h, h2 => fun k hk => by rw [h.2 k hk, h2.2 k hk]
  | 0, n2 + 1, b, e, e2, h, h2 => absurd h2.1 h.1
  | n + 1, 0, b, e, e2, h, h2 => absurd h.1 h2.1
  | n + 1, n2 + 1, b, e, e2, h, h2 => zrun_det n n2 h.2 h2.2
theorem zR_det {b e e2 : Nat → Bool} (h : zR c gp mo sc b e) (h2 : zR c gp mo sc b e2) : ∀ k, k < sc → e k = e2 k := by
  obtain ⟨n, hn⟩ := h
  obtain ⟨n2, hn2⟩ := h2
  exact zrun_det n n2 hn hn2
end ZRN
/-- V is laid out by b -/
def zLaid (c : Nat → Nat → Nat) (gp mo : Nat → Int32) (sc lc : Nat) (b : Nat → Bool) (V : Nat → Nat → Int32) : Prop := (∀ k, k < sc → V 0 k = zL c b sc 0 k ∧ V 1 k = zL c b sc 1 k ∧ V 2 k = (if b k then 1 else 0) ∧ V 3 k = (if b k then (zdi gp mo (zL c b sc) k).toInt32 else 0)) ∧ (∀ j, j < lc → V 4 j = zL c b sc 4 j) ∧ ∀ i, i < 4 → V 5 i = zL c b sc 5 i
def zcb (c : Nat → Nat → Nat) (b : Nat → Bool) : Nat → Nat
  | 0 => 0
  | k + 1 => zcb c b k + (if c 0 k = 2 ∧ b k = false then 1 else 0)
/-- what relax answers and leaves -/
def zRx (c : Nat → Nat → Nat) (gp mo : Nat → Int32) (sc lc : Nat) (V : Nat → Nat → Int32) (r : Int32) : Prop := ∃ b, zR c gp mo sc (zb0 c gp) b ∧ zgo1 sc c gp b ∧ zLaid c gp mo sc lc b V ∧ r = nI (zcb c b sc)
theorem zcb_congr {c : Nat → Nat → Nat} {b b2 : Nat → Bool} : ∀ (k : Nat), (∀ j, j < k → b j = b2 j) → zcb c b k = zcb c b2 k
  | 0, _ => rfl
  | k + 1, h => by
    have h1 := zcb_congr (c := c) k (fun j hj => h j (by omega))
    simp only [zcb, h1, h k (by omega)]
theorem zct_cb {c : Nat → Nat → Nat} {b : Nat → Bool} {V : Nat → Nat → Int32} : ∀ (k : Nat), (∀ j, j < k → V 2 j = if b j then 1 else 0) → zct c V k = zcb c b k
  | 0, _ => rfl
  | k + 1, h => by
    have h1 := zct_cb (c := c) k (fun j hj => h j (by omega))
    have h2 := h k (by omega)
    unfold zct zcb
    rw [h1]
    cases hb : b k with
    | true => rw [hb] at h2; simp [h2]
    | false => rw [hb] at h2; simp [h2]
theorem zRx_same {c : Nat → Nat → Nat} {gp mo : Nat → Int32} {sc lc : Nat} {V V2 : Nat → Nat → Int32} {r r2 : Int32} (hI : zI sc lc c gp) (h : zRx c gp mo sc lc V r) (h2 : zRx c gp mo sc lc V2 r2) : r = r2 ∧ (∀ k, k < sc → V 0 k = V2 0 k ∧ V 1 k = V2 1 k ∧ V 2 k = V2 2 k ∧ V 3 k = V2 3 k) ∧ (∀ j, j < lc → V 4 j = V2 4 j) ∧ ∀ i, i < 4 → V 5 i = V2 5 i := by
  obtain ⟨b, hR, hg, ⟨l1, l2, l3⟩, hr⟩ := h
  obtain ⟨b2, hR2, hg2, ⟨m1, m2, m3⟩, hr2⟩ := h2
  have hb := zR_det hR hR2
  refine ⟨by rw [hr, hr2, zcb_congr sc hb], fun k hk => ?_, fun j hj => ?_, fun i hi => ?_⟩
  · obtain ⟨a1, a2, a3, a4⟩ := l1 k hk
    obtain ⟨d1, d2, d3, d4⟩ := m1 k hk
    obtain ⟨e1, e2⟩ := zL0_congr (c := c) hb hk
    refine ⟨by rw [a1, d1, e1], by rw [a2, d2, e2], by rw [a3, d3, hb k hk], ?_⟩
    rw [a4, d4, ← hb k hk]
    cases hbk : b k with
    | false => simp
    | true =>
      rw [zdi_congr (V2 := zL c b2 sc) hI.1 hI.2.1 hk (hI.2.2.1 k hk).2.2.2.2.1 (hg k hk hbk).2 (fun i hi => zL0_congr hb hi) (fun j hj => zL4_congr hb (hI.2.2.2.1 j hj).2)]
  · rw [l2 j hj, m2 j hj, zL4_congr hb (hI.2.2.2.1 j hj).2]
  · rw [l3 i hi, m3 i hi, zL5_congr hb]
theorem zRx_J {c : Nat → Nat → Nat} {gp mo : Nat → Int32} {sc lc : Nat} {V : Nat → Nat → Int32} {r : Int32} (h : zRx c gp mo sc lc V r) : zJ sc c gp V := by
  obtain ⟨b, hR, hg, ⟨l1, -, -⟩, -⟩ := h
  intro k hk
  obtain ⟨-, -, a3, a4⟩ := l1 k hk
  have hgk := hg k hk
  cases hb : b k with
  | true =>
    rw [hb] at a3 a4
    refine ⟨Or.inr a3, fun q => ?_, fun q => absurd q (hgk hb).2⟩
    rw [a3] at q
    exact absurd q (by decide)
  | false =>
    rw [hb] at a3 a4
    exact ⟨Or.inl a3, fun _ => a4, fun _ => a3⟩
/-- short ones among the first k -/
def zcs (V : Nat → Nat → Int32) : Nat → Nat
  | 0 => 0
  | k + 1 => zcs V k + (if V 2 k = 1 then 1 else 0)
theorem zcs_le {V : Nat → Nat → Int32} : ∀ k, zcs V k ≤ k
  | 0 => Nat.le_refl _
  | k + 1 => by
    have := zcs_le (V := V) k
    unfold zcs
    split <;> omega
theorem zcs_mono {V V2 : Nat → Nat → Int32} : ∀ k, (∀ i, i < k → V2 2 i = 1 → V 2 i = 1) → zcs V2 k ≤ zcs V k
  | 0, _ => Nat.le_refl _
  | k + 1, h => by
    have h1 := zcs_mono k (fun i hi => h i (by omega))
    have h2 := h k (by omega)
    unfold zcs
    by_cases h3 : V2 2 k = 1
    · rw [if_pos h3, if_pos (h2 h3)]; omega
    · rw [if_neg h3]; split <;> omega
theorem zcs_lt {V V2 : Nat → Nat → Int32} : ∀ k, (∀ i, i < k → V2 2 i = 1 → V 2 i = 1) → (∃ i, i < k ∧ V 2 i = 1 ∧ ¬ V2 2 i = 1) → zcs V2 k < zcs V k
  | 0, _, ⟨i, hi, _⟩ => absurd hi (Nat.not_lt_zero i)
  | k + 1, h, ⟨i, hi, h1, h2⟩ => by
    have hm := zcs_mono k (fun i hi => h i (by omega))
    unfold zcs
    by_cases hik : i = k
    · subst hik
      rw [if_neg h2, if_pos h1]; omega
    · have := zcs_lt k (fun i hi => h i (by omega)) ⟨i, by omega, h1, h2⟩
      by_cases h3 : V2 2 k = 1
      · rw [if_pos h3, if_pos (h k (by omega) h3)]; omega
      · rw [if_neg h3]; split <;> omega
theorem zcs_cong {V V2 : Nat → Nat → Int32} : ∀ k, (∀ i, i < k → V2 2 i = V 2 i) → zcs V2 k = zcs V k
  | 0, _ => rfl
  | k + 1, h => by
    have h1 := zcs_cong k (fun i hi => h i (by omega))
    simp only [zcs, h1, h k (by omega)]
/-- a state between two rounds -/
def zMid (c : Nat → Nat → Nat) (gp mo : Nat → Int32) (sc : Nat) (V : Nat → Nat → Int32) : Prop := (∀ k, k < sc → (V 2 k = 0 ∨ V 2 k = 1) ∧ (V 2 k = 1 → c 0 k = 2 ∧ ¬ gp k = -1) ∧ (V 2 k = 0 → V 3 k = 0)) ∧ ∀ e, zR c gp mo sc (zbr V) e → zR c gp mo sc (zb0 c gp) e
section ZMD
variable {c : Nat → Nat → Nat} {gp mo : Nat → Int32} {sc lc : Nat} {V : Nat → Nat → Int32}
theorem zMid_go (h : zMid c gp mo sc V) : zgo1 sc c gp (zbr V) := fun k hk hb => (h.1 k hk).2.1 (of_decide_eq_true hb)
theorem zMid_0 (hI : zI sc lc c gp) (hJ : zJ sc c gp V) : zMid c gp mo sc (zSh c gp V sc) := by
  have key : ∀ k, k < sc → (c 0 k = 2 ∧ ¬ gp k = -1 ∧ zSh c gp V sc 2 k = 1) ∨ (gp k = -1 ∧ zSh c gp V sc 2 k = 0) := by
    intro k hk
    obtain ⟨g1, g2, g3, g4, g5, g6⟩ := hI.2.2.1 k hk
    by_cases h2 : c 0 k = 2
    · by_cases hg : gp k = -1
      · exact Or.inr ⟨hg, by simp [zSh, hk, h2, hg]⟩
      · exact Or.inl ⟨h2, hg, by simp [zSh, hk, h2, hg]⟩
    · exact Or.inr ⟨g6 h2, by simp only [zSh, h2, and_false, if_false]; exact (hJ k hk).2.2 (g6 h2)⟩
  have e3 : ∀ k, zSh c gp V sc 3 k = V 3 k := fun k => by simp [zSh]
  have hk1 : ∀ k, k < sc → (zSh c gp V sc 2 k = 0 ∨ zSh c gp V sc 2 k = 1) ∧ (zSh c gp V sc 2 k = 1 → c 0 k = 2 ∧ ¬ gp k = -1) ∧ (zSh c gp V sc 2 k = 0 → zSh c gp V sc 3 k = 0) := by
    intro k hk
    rcases key k hk with ⟨a1, a2, a3⟩ | ⟨a1, a2⟩
    · exact ⟨Or.inr a3, fun _ => ⟨a1, a2⟩, fun q => by rw [a3] at q; exact absurd q (by decide)⟩
    · refine ⟨Or.inl a2, fun q => by rw [a2] at q; exact absurd q (by decide), fun _ => ?_⟩
      rw [e3]
      exact (hJ k hk).2.1 ((hJ k hk).2.2 a1)
  refine ⟨hk1, fun e he => zR_congr hI (fun k hk hb => (hk1 k hk).2.1 (of_decide_eq_true hb)) (fun k hk => ?_) he⟩
  rcases key k hk with ⟨a1, a2, a3⟩ | ⟨a1, a2⟩
  · simp [zbr, a3, zb0, a1, a2]
  · simp [zbr, a2, zb0, a1]
theorem zT_L {b : Nat → Bool} : (∀ i, i < sc → zT c b V sc lc 0 i = zL c b sc 0 i ∧ zT c b V sc lc 1 i = zL c b sc 1 i) ∧ (∀ j, j < lc → zT c b V sc lc 4 j = zL c b sc 4 j) ∧ ∀ i, i < 4 → zT c b V sc lc 5 i = zL c b sc 5 i :=
  ⟨fun i hi => ⟨by simp [zT, zL, hi], by simp [zT, zL, hi]⟩, fun j hj => by simp [zT, zL, hj], fun i hi => by simp [zT, zL, hi]⟩
theorem zT_di (hI : zI sc lc c gp) (h : zMid c gp mo sc V) {k : Nat} (hk : k < sc) (hv : V 2 k = 1) : zdi gp mo (zT c (zbr V) V sc lc) k = zdi gp mo (zL c (zbr V) sc) k :=
  zdi_congr hI.1 hI.2.1 hk (hI.2.2.1 k hk).2.2.2.2.1 ((h.1 k hk).2.1 hv).2 (fun i hi => (zT_L (V := V) (lc := lc)).1 i hi) (fun j hj => (zT_L (V := V) (sc := sc)).2.1 j hj)
/-- a round that lengthens one -/
theorem zMid_s (hI : zI sc lc c gp) (h : zMid c gp mo sc V) (hb : ∃ i, i < sc ∧ V 2 i = 1 ∧ zok (zdi gp mo (zT c (zbr V) V sc lc) i) = false) : zMid c gp mo sc (zLn gp mo (zT c (zbr V) V sc lc) sc) ∧ zcs (zLn gp mo (zT c (zbr V) V sc lc) sc) sc < zcs V sc := by
  have e2 : ∀ k, k < sc → zLn gp mo (zT c (zbr V) V sc lc) sc 2 k = if V 2 k = 1 ∧ zok (zdi gp mo (zT c (zbr V) V sc lc) k) = false then 0 else V 2 k := fun k hk => by simp only [zLn, hk, true_and, and_self, if_true, zT_2]
  have e3 : ∀ k, k < sc → zLn gp mo (zT c (zbr V) V sc lc) sc 3 k = if V 2 k = 1 then (if zok (zdi gp mo (zT c (zbr V) V sc lc) k) then (zdi gp mo (zT c (zbr V) V sc lc) k).toInt32 else 0) else V 3 k := fun k hk => by simp [zLn, hk, zT_2, zT_3]
  have hst : ∀ k, k < sc → zbr (zLn gp mo (zT c (zbr V) V sc lc) sc) k = zstep c gp mo sc (zbr V) k := by
    intro k hk
    simp only [zbr, e2 k hk, zstep]
    by_cases h1 : V 2 k = 1
    · have hd := zT_di hI h hk h1
      rw [hd]
      cases ho : zok (zdi gp mo (zL c (zbr V) sc) k) with
      | true => unfold zbr at ho; simp [h1, ho]
      | false => unfold zbr at ho; simp [h1, ho]
    · simp [h1]
  refine ⟨⟨fun k hk => ?_, fun e he => ?_⟩, ?_⟩
  · obtain ⟨a1, a2, a3⟩ := h.1 k hk
    rw [e2 k hk, e3 k hk]
    by_cases h1 : V 2 k = 1
    · cases ho : zok (zdi gp mo (zT c (zbr V) V sc lc) k) with
      | true => simp [h1]; exact a2 h1
      | false => simp [h1]
    · have h0 := a1.resolve_right h1
      simp [h0, a3 h0]
  · obtain ⟨i, hi, hi1, hi2⟩ := hb
    obtain ⟨n, hn⟩ := zR_congr hI (fun k hk q => by rw [hst k hk] at q; exact zgo1_step (zMid_go h) k hk q) hst he
    refine h.2 e ⟨n + 1, ⟨i, hi, decide_eq_true hi1, ?_⟩, hn⟩
    rw [← zT_di hI h hi hi1]
    exact hi2
  · obtain ⟨i, hi, hi1, hi2⟩ := hb
    refine zcs_lt sc (fun k hk q => ?_) ⟨i, hi, hi1, ?_⟩
    · rw [e2 k hk] at q
      by_cases h1 : V 2 k = 1
      · exact h1
      · simp [h1] at q
    · rw [e2 i hi]
      simp [hi1, hi2]
/-- the last round -/
theorem zMid_e (hI : zI sc lc c gp) (h : zMid c gp mo sc V) (hb : ∀ i, i < sc → ¬ (V 2 i = 1 ∧ zok (zdi gp mo (zT c (zbr V) V sc lc) i) = false)) : zRx c gp mo sc lc (zLn gp mo (zT c (zbr V) V sc lc) sc) (nI (zct c (zLn gp mo (zT c (zbr V) V sc lc) sc) sc)) := by
  have e2 : ∀ k, k < sc → zLn gp mo (zT c (zbr V) V sc lc) sc 2 k = V 2 k := fun k hk => by
    have := hb k hk
    simp only [zLn, hk, true_and, and_self, if_true, zT_2, this, if_false]
  have e3 : ∀ k, k < sc → zLn gp mo (zT c (zbr V) V sc lc) sc 3 k = if V 2 k = 1 then (if zok (zdi gp mo (zT c (zbr V) V sc lc) k) then (zdi gp mo (zT c (zbr V) V sc lc) k).toInt32 else 0) else V 3 k := fun k hk => by simp [zLn, hk, zT_2, zT_3]
  have ho : ∀ f k, f ≠ 2 → f ≠ 3 → zLn gp mo (zT c (zbr V) V sc lc) sc f k = zT c (zbr V) V sc lc f k := fun f k h2 h3 => by simp [zLn, h2, h3]
  have hv2 : ∀ k, k < sc → zLn gp mo (zT c (zbr V) V sc lc) sc 2 k = if zbr V k then 1 else 0 := fun k hk => by
    rw [e2 k hk]
    rcases (h.1 k hk).1 with q | q <;> simp [zbr, q]
  refine ⟨zbr V, h.2 _ ⟨0, ?_, fun k hk => rfl⟩, zMid_go h, ⟨fun k hk => ⟨?_, ?_, hv2 k hk, ?_⟩, fun j hj => ?_, fun i hi => ?_⟩, by rw [zct_cb sc hv2]⟩
  · rintro ⟨k, hk, q1, q2⟩
    have h1 : V 2 k = 1 := of_decide_eq_true q1
    exact hb k hk ⟨h1, by rw [zT_di hI h hk h1]; exact q2⟩
  · rw [ho 0 k (by decide) (by decide)]; exact (zT_L.1 k hk).1
  · rw [ho 1 k (by decide) (by decide)]; exact (zT_L.1 k hk).2
  · rw [e3 k hk]
    rcases (h.1 k hk).1 with q | q
    · have hz : zbr V k = false := by simp [zbr, q]
      rw [hz]
      simp [q, (h.1 k hk).2.2 q]
    · have hz : zbr V k = true := by simp [zbr, q]
      have hn := hb k hk
      cases hoo : zok (zdi gp mo (zT c (zbr V) V sc lc) k) with
      | false => exact absurd ⟨q, hoo⟩ hn
      | true =>
        rw [zT_di hI h hk q, hz]
        simp [q]
  · rw [ho 4 j (by decide) (by decide)]; exact zT_L.2.1 j hj
  · rw [ho 5 i (by decide) (by decide)]; exact zT_L.2.2 i hi
end ZMD
