def zbr (V : Nat → Nat → Int32) : Nat → Bool := fun k => decide (V 2 k = 1)
theorem zal_le (n e : Nat) : zal n e ≤ n := Nat.le_trans (Nat.mod_le _ _) (Nat.sub_le _ _)
theorem zln_le {c : Nat → Nat → Nat} {br : Nat → Bool} {k e : Nat} (h : c 2 k ≤ 65536) : zln c br k e ≤ 65536 := by
  unfold zln
  have := zal_le (c 2 k) e
  split
  · split
    · omega
    · exact h
  · split
    · omega
    · exact h
theorem zSZ_le {c : Nat → Nat → Nat} {br : Nat → Bool} {sc B : Nat} (h : ∀ k, k < sc → ∀ e, zln c br k e ≤ B) : ∀ k i, k ≤ sc → zSZ c br k i ≤ k * B
  | 0, _, _ => by simp [zSZ]
  | k + 1, i, hk => by
    have h1 := zSZ_le h k i (by omega)
    have h2 := h k (by omega) (zSZ c br k i)
    have e : (k + 1) * B = k * B + B := Nat.succ_mul _ _
    rw [e]
    unfold zSZ
    split <;> omega
theorem zSZ_lt {c : Nat → Nat → Nat} {br : Nat → Bool} {sc lc : Nat} {gp : Nat → Int32} (hI : zI sc lc c gp) {k i : Nat} (hk : k ≤ sc) : zSZ c br k i < 2 ^ 30 := by
  have h1 := zSZ_le (br := br) (fun k hk e => zln_le (hI.2.2.1 k hk).2.2.1) k i hk
  have h2 : k * 65536 ≤ 4096 * 65536 := Nat.mul_le_mul_right _ (Nat.le_trans hk hI.1)
  exact Nat.lt_of_le_of_lt (Nat.le_trans h1 h2) (by decide)
theorem zneg_mask {e : Nat} (he : e < 2 ^ 31) : ∀ p, p ≤ 12 → (-nI e) &&& (nI (2 ^ p) - 1) = nI (zal (2 ^ p) e) := by
  intro p hp
  have hx : (-nI e).toBitVec.toNat = (2 ^ 32 - e) % 2 ^ 32 := by
    rw [Int32.toBitVec_neg, BitVec.toNat_neg, pk_tn (by omega)]
  have hm : ∀ p, p ≤ 12 → (nI (2 ^ p) - 1).toBitVec.toNat = 2 ^ p - 1 := by decide
  rw [pk_and _ p (hm p hp), hx]
  congr 1
  unfold zal
  have : p = 0 ∨ p = 1 ∨ p = 2 ∨ p = 3 ∨ p = 4 ∨ p = 5 ∨ p = 6 ∨ p = 7 ∨ p = 8 ∨ p = 9 ∨ p = 10 ∨ p = 11 ∨ p = 12 := by omega
  rcases this with rfl | rfl | rfl | rfl | rfl | rfl | rfl | rfl | rfl | rfl | rfl | rfl | rfl <;> simp only [Nat.reducePow] <;> omega
/-- after k statements and p labels of the walk -/
def zT (c : Nat → Nat → Nat) (br : Nat → Bool) (V : Nat → Nat → Int32) (k p : Nat) : Nat → Nat → Int32 := fun f i =>
  if f = 0 ∧ i < k then nI (zSZ c br i (c 1 i)) else if f = 1 ∧ i < k then nI (zln c br i (zSZ c br i (c 1 i))) else if f = 4 ∧ i < p then nI (zSZ c br (c 4 i) (c 3 i)) else if f = 5 ∧ i < 4 then nI (zSZ c br k i) else V f i
theorem zT_0 {c : Nat → Nat → Nat} {br : Nat → Bool} {V : Nat → Nat → Int32} : zfl V 0 = zT c br V 0 0 := by
  funext f i
  by_cases h5 : f = 5
  · subst h5
    by_cases h0 : i = 0
    · subst h0; simp [zfl, zu, zT, zSZ, nI_0]
    · by_cases h1 : i = 1
      · subst h1; simp [zfl, zu, zT, zSZ, nI_0]
      · by_cases h2 : i = 2
        · subst h2; simp [zfl, zu, zT, zSZ, nI_0]
        · by_cases h3 : i = 3
          · subst h3; simp [zfl, zu, zT, zSZ, nI_0]
          · have : ¬ i < 4 := by omega
            simp [zfl, zu, zT, h0, h1, h2, h3, this]
  · simp [zfl, zu, zT, h5]
theorem zT_2 {c : Nat → Nat → Nat} {br : Nat → Bool} {V : Nat → Nat → Int32} {k p i : Nat} : zT c br V k p 2 i = V 2 i := by simp [zT]
theorem zT_3 {c : Nat → Nat → Nat} {br : Nat → Bool} {V : Nat → Nat → Int32} {k p i : Nat} : zT c br V k p 3 i = V 3 i := by simp [zT]
theorem zT_br {c : Nat → Nat → Nat} {br : Nat → Bool} {V : Nat → Nat → Int32} {k p : Nat} : zbr (zT c br V k p) = zbr V := by
  funext i
  simp [zbr, zT_2]
theorem zT_5 {c : Nat → Nat → Nat} {br : Nat → Bool} {V : Nat → Nat → Int32} {k p i : Nat} (h : i < 4) : zT c br V k p 5 i = nI (zSZ c br k i) := by simp [zT, h]
theorem zT_s {c : Nat → Nat → Nat} {br : Nat → Bool} {V : Nat → Nat → Int32} {k p : Nat} (h : c 1 k < 4) : zu (zu (zu (zT c br V k p) 0 k (nI (zSZ c br k (c 1 k)))) 1 k (nI (zln c br k (zSZ c br k (c 1 k))))) 5 (c 1 k) (nI (zSZ c br k (c 1 k) + zln c br k (zSZ c br k (c 1 k)))) = zT c br V (k + 1) p := by
  funext f i
  by_cases h0 : f = 0
  · subst h0
    by_cases hi : i = k
    · subst hi; simp [zu, zT]
    · have : (i < k + 1) = (i < k) := by apply propext; omega
      simp [zu, zT, hi, this]
  · by_cases h1 : f = 1
    · subst h1
      by_cases hi : i = k
      · subst hi; simp [zu, zT]
      · have : (i < k + 1) = (i < k) := by apply propext; omega
        simp [zu, zT, hi, this]
    · by_cases h5 : f = 5
      · subst h5
        by_cases hi : i = c 1 k
        · subst hi; simp [zu, zT, h, zSZ]
        · have hne : ¬ c 1 k = i := fun q => hi q.symm
          simp [zu, zT, hi, zSZ, hne]
      · simp [zu, zT, h0, h1, h5]
/-- labels a .. b - 1 told by the sizes as they are -/
def zTl (c : Nat → Nat → Nat) (V : Nat → Nat → Int32) (a b : Nat) : Nat → Nat → Int32 := fun f i => if f = 4 ∧ a ≤ i ∧ i < b then V 5 (c 3 i) else V f i
theorem zTl_0 {c : Nat → Nat → Nat} {V : Nat → Nat → Int32} {a : Nat} : V = zTl c V a a := by
  funext f i
  have : ¬ (f = 4 ∧ a ≤ i ∧ i < a) := by omega
  simp [zTl, this]
theorem zTl_s {c : Nat → Nat → Nat} {V : Nat → Nat → Int32} {a b : Nat} (h : a ≤ b) : zu (zTl c V a b) 4 b (V 5 (c 3 b)) = zTl c V a (b + 1) := by
  funext f i
  by_cases hf : f = 4
  · subst hf
    by_cases hi : i = b
    · subst hi; simp [zu, zTl, h]
    · have : (i < b + 1) = (i < b) := by apply propext; omega
      simp [zu, zTl, hi, this]
  · simp [zu, zTl, hf]
theorem zTl_5 {c : Nat → Nat → Nat} {V : Nat → Nat → Int32} {a b : Nat} : zTl c V a b 5 = V 5 := by
  funext i
  simp [zTl]
theorem zT_l {c : Nat → Nat → Nat} {br : Nat → Bool} {V : Nat → Nat → Int32} {k p q : Nat} (hpq : p ≤ q) (h : ∀ j, p ≤ j → j < q → c 4 j = k ∧ c 3 j < 4) : zTl c (zT c br V k p) p q = zT c br V k q := by
  funext f i
  by_cases hf : f = 4
  · subst hf
    by_cases hi : p ≤ i ∧ i < q
    · obtain ⟨e1, e2⟩ := h i hi.1 hi.2
      simp [zTl, zT, hi.1, hi.2, e1, e2]
    · by_cases h1 : i < p
      · have h2 : i < q := by omega
        have h3 : ¬ p ≤ i := by omega
        simp [zTl, zT, h1, h2, h3]
      · have h2 : ¬ i < q := by omega
        simp [zTl, zT, h1, h2]
  · simp [zTl, zT, hf]
/-- branches 0 .. k - 1 looked at -/
def zLn (gp mo : Nat → Int32) (V : Nat → Nat → Int32) (k : Nat) : Nat → Nat → Int32 := fun f i =>
  if f = 2 ∧ i < k then (if V 2 i = 1 ∧ zok (zdi gp mo V i) = false then 0 else V 2 i) else if f = 3 ∧ i < k ∧ V 2 i = 1 then (if zok (zdi gp mo V i) then (zdi gp mo V i).toInt32 else 0) else V f i
/-- branch k looked at -/
def zLk (gp mo : Nat → Int32) (V : Nat → Nat → Int32) (k : Nat) : Nat → Nat → Int32 := if V 2 k = 1 then (if zok (zdi gp mo V k) then zu (zu V 2 k 1) 3 k (zdi gp mo V k).toInt32 else zu (zu V 2 k 0) 3 k 0) else V
theorem zLn_0 {gp mo : Nat → Int32} {V : Nat → Nat → Int32} : V = zLn gp mo V 0 := by
  funext f i
  simp [zLn]
theorem zLn_di {gp mo : Nat → Int32} {V : Nat → Nat → Int32} {k i : Nat} : zdi gp mo (zLn gp mo V k) i = zdi gp mo V i := by simp [zdi, zgat, zLn]
theorem zLn_s {gp mo : Nat → Int32} {V : Nat → Nat → Int32} {k : Nat} : zLk gp mo (zLn gp mo V k) k = zLn gp mo V (k + 1) := by
  have e2 : zLn gp mo V k 2 k = V 2 k := by simp [zLn]
  unfold zLk
  rw [zLn_di, e2]
  funext f i
  by_cases hk : i = k
  · subst hk
    by_cases h1 : V 2 i = 1
    · cases ho : zok (zdi gp mo V i) with
      | true =>
        by_cases f2 : f = 2
        · subst f2; simp [h1, ho, zu, zLn]
        · by_cases f3 : f = 3
          · subst f3; simp [h1, ho, zu, zLn]
          · simp [h1, ho, zu, zLn, f2, f3]
      | false =>
        by_cases f2 : f = 2
        · subst f2; simp [h1, ho, zu, zLn]
        · by_cases f3 : f = 3
          · subst f3; simp [h1, ho, zu, zLn]
          · simp [h1, ho, zu, zLn, f2, f3]
    · simp [h1, zLn]
      intro hf; rw [hf]
  · have hlt : (i < k + 1) = (i < k) := by apply propext; omega
    have hz : ∀ x y : Int32, zu (zu (zLn gp mo V k) 2 k x) 3 k y f i = zLn gp mo V k f i := fun x y => by simp [zu, hk]
    have hr : zLn gp mo V (k + 1) f i = zLn gp mo V k f i := by simp only [zLn, hlt]
    rw [hr]
    split
    · split
      · exact hz _ _
      · exact hz _ _
    · rfl
/-- all that go are short -/
def zSh (c : Nat → Nat → Nat) (gp : Nat → Int32) (V : Nat → Nat → Int32) (k : Nat) : Nat → Nat → Int32 := fun f i => if f = 2 ∧ i < k ∧ c 0 i = 2 then (if gp i = -1 then 0 else 1) else V f i
theorem zSh_0 {c : Nat → Nat → Nat} {gp : Nat → Int32} {V : Nat → Nat → Int32} : V = zSh c gp V 0 := by
  funext f i
  simp [zSh]
theorem zSh_b {c : Nat → Nat → Nat} {gp : Nat → Int32} {V : Nat → Nat → Int32} {k : Nat} (h : c 0 k = 2) : zu (zSh c gp V k) 2 k (if gp k = -1 then 0 else 1) = zSh c gp V (k + 1) := by
  funext f i
  by_cases hf : f = 2
  · subst hf
    by_cases hi : i = k
    · subst hi; simp [zu, zSh, h]
    · have : (i < k + 1) = (i < k) := by apply propext; omega
      simp [zu, zSh, hi, this]
  · simp [zu, zSh, hf]
theorem zSh_n {c : Nat → Nat → Nat} {gp : Nat → Int32} {V : Nat → Nat → Int32} {k : Nat} (h : ¬ c 0 k = 2) : zSh c gp V k = zSh c gp V (k + 1) := by
  funext f i
  by_cases hi : i = k
  · subst hi; simp [zSh, h]
  · have : (i < k + 1) = (i < k) := by apply propext; omega
    simp [zSh, this]
/-- long branches among the first k -/
def zct (c : Nat → Nat → Nat) (V : Nat → Nat → Int32) : Nat → Nat
  | 0 => 0
  | k + 1 => zct c V k + (if c 0 k = 2 ∧ V 2 k = 0 then 1 else 0)
theorem zct_le {c : Nat → Nat → Nat} {V : Nat → Nat → Int32} : ∀ k, zct c V k ≤ k
  | 0 => Nat.le_refl _
  | k + 1 => by
    have := zct_le (c := c) (V := V) k
    unfold zct
    split <;> omega
