/-! worlds: some fixed cells, then two rows of cells by their numbers -/
def zw_ws (X : va_W) (n : Nat) (F : Nat → Nat × va_E) (k : Nat) (G : Nat → Nat × va_E) : va_W := (X ++ (List.range n).map F) ++ (List.range k).map G
section ZW
variable {X : va_W} {n : Nat} {F F' : Nat → Nat × va_E} {k : Nat} {G G' : Nat → Nat × va_E} {i j x : Nat} {q : Nat × va_E}
theorem zw_x (h : X[i]? = some q) : (zw_ws X n F k G)[i]? = some q := by
  have hl := (List.getElem?_eq_some_iff.mp h).1
  unfold zw_ws
  rw [List.getElem?_append_left (by rw [List.length_append]; omega), List.getElem?_append_left hl]
  exact h
theorem zw_f (hx : X.length = x) (h : j < n) : (zw_ws X n F k G)[x + j]? = some (F j) := by
  subst hx
  unfold zw_ws
  rw [List.getElem?_append_left (by simp; omega), List.getElem?_append_right (by omega), Nat.add_sub_cancel_left]
  simp [h]
theorem zw_g (hx : X.length = x) (h : j < k) : (zw_ws X n F k G)[x + n + j]? = some (G j) := by
  subst hx
  unfold zw_ws
  rw [List.getElem?_append_right (by simp)]
  have e : X.length + n + j - (X ++ (List.range n).map F).length = j := by simp
  rw [e]
  simp [h]
theorem zw_setx (h : i < X.length) : (zw_ws X n F k G).set i q = zw_ws (X.set i q) n F k G := by
  unfold zw_ws
  rw [List.set_append_left _ _ (by simp; omega), List.set_append_left _ _ h]
theorem zw_map {n : Nat} {F F' : Nat → Nat × va_E} {j : Nat} {q : Nat × va_E} (h : j < n) (h1 : F' j = q) (h2 : ∀ i, i < n → i ≠ j → F' i = F i) : ((List.range n).map F).set j q = (List.range n).map F' := by
  apply List.ext_getElem?
  intro i
  by_cases hi : i = j
  · subst hi
    rw [List.getElem?_set_self (by simpa using h)]
    simp [h, h1]
  · rw [List.getElem?_set_ne (Ne.symm hi)]
    by_cases hn : i < n
    · simp [hn, h2 i hn hi]
    · simp [hn]
theorem zw_cong {n : Nat} {F F' : Nat → Nat × va_E} (h : ∀ i, i < n → F i = F' i) : (List.range n).map F = (List.range n).map F' := by
  apply List.map_congr_left
  intro i hi
  exact h i (List.mem_range.mp hi)
theorem zw_setf {X' : va_W} (hx : X.length = x) (h : j < n) (h1 : F' j = q) (h2 : ∀ i, i < n → i ≠ j → F' i = F i) (h3 : ∀ i, i < k → G i = G' i) (h4 : X = X') : (zw_ws X n F k G).set (x + j) q = zw_ws X' n F' k G' := by
  subst hx; subst h4
  unfold zw_ws
  rw [List.set_append_left _ _ (by simp; omega), List.set_append_right _ _ (by omega), Nat.add_sub_cancel_left, zw_map h h1 h2, zw_cong h3]
theorem zw_setg {X' : va_W} (hx : X.length = x) (h : j < k) (h1 : G' j = q) (h2 : ∀ i, i < k → i ≠ j → G' i = G i) (h3 : ∀ i, i < n → F i = F' i) (h4 : X = X') : (zw_ws X n F k G).set (x + n + j) q = zw_ws X' n F' k G' := by
  subst hx; subst h4
  unfold zw_ws
  have e : X.length + n + j - (X ++ (List.range n).map F).length = j := by simp
  rw [List.set_append_right _ _ (by simp), e, zw_map h h1 h2, zw_cong h3]
theorem zw_congr {X' : va_W} (h1 : ∀ i, i < n → F i = F' i) (h2 : ∀ i, i < k → G i = G' i) (h3 : X = X') : zw_ws X n F k G = zw_ws X' n F' k G' := by
  subst h3
  unfold zw_ws
  rw [zw_cong h1, zw_cong h2]
theorem zw_pushg (h1 : ∀ i, i < k → G i = G' i) (h2 : G' k = q) : zw_ws X n F k G ++ [q] = zw_ws X n F (k + 1) G' := by
  unfold zw_ws
  rw [List.range_succ, List.map_append, zw_cong h1, ← List.append_assoc]
  simp [h2]
theorem zw_pushf {D : va_G} {cl : List vw_C} {H : Heap} {A : Nat → Prop} (h1 : ∀ i, i < n → F i = F' i) (h2 : F' n = q) (hG : ∀ i, i < k → G i = G' i) (hP : va_P D cl (zw_ws X n F k G ++ [q]) H) (hD : va_D A (zw_ws X n F k G ++ [q])) : va_P D cl (zw_ws X (n + 1) F' k G') H ∧ va_D A (zw_ws X (n + 1) F' k G') := by
  have e : (X ++ (List.range n).map F ++ [q]) ++ (List.range k).map G = zw_ws X (n + 1) F' k G' := by
    unfold zw_ws
    rw [List.range_succ, List.map_append, zw_cong h1, zw_cong hG, ← List.append_assoc]
    simp [h2]
  rw [← e]
  exact ⟨hP.swap, hD.swap⟩
theorem zw_cut {D : va_G} {cl : List vw_C} {H : Heap} {A : Nat → Prop} (hP : va_P D cl (zw_ws X n F k G) H) (hD : va_D A (zw_ws X n F k G)) : va_P D cl (zw_ws X 0 F' 0 G') H ∧ va_D A (zw_ws X 0 F' 0 G') := by
  have e : zw_ws X 0 F' 0 G' = X := by simp [zw_ws]
  rw [e]
  exact ⟨hP.by id (fun k q h => zw_x h), hD.by id (fun k q h => zw_x h) (fun i j _ _ h => h)⟩
end ZW
def zu (V : Nat → Nat → Int32) (f k : Nat) (x : Int32) : Nat → Nat → Int32 := fun a b => if a = f ∧ b = k then x else V a b
theorem zu5 (V : Nat → Nat → Int32) (i : Nat) (x : Int32) : (zu V 5 i x) 5 = upd (V 5) i x := by
  funext j
  simp [zu, upd]
def zga (ad bd : Nat → Nat) (g : Int32) : Option Nat := if g = -1 then none else if g < 0 then some (ad (-2 - g).toNatClampNeg) else some (bd g.toNatClampNeg)
/-- statement k: c 0 its kind (0 bytes, 1 alignment, 2 branch), c 1 its section, c 2 its amount; gp, mo where it goes; V 0 at, V 1 length, V 2 short, V 3 distance -/
def zcell (c : Nat → Nat → Nat) (gp mo : Nat → Int32) (V : Nat → Nat → Int32) (ad bd : Nat → Nat) (k : Nat) : va_E :=
  if c 0 k = 2 then .inr (1, [.int (V 1 k), .int (nI (c 1 k)), .int (V 0 k), .int (nI (c 2 k)), va_rf (zga ad bd (gp k)), .int (mo k), .int (V 2 k), .int (V 3 k)])
  else if c 0 k = 1 then .inr (0, [.int (V 1 k), .int (nI (c 1 k)), .int (V 0 k), .int (nI (c 2 k))])
  else .inr (2, [.int (V 1 k), .int (nI (c 1 k)), .int (V 0 k), .int (nI (c 2 k))])
/-- label j: c 3 its section, c 4 the statements ahead of it; V 4 at -/
def zlab (c : Nat → Nat → Nat) (V : Nat → Nat → Int32) (j : Nat) : va_E := .inr (3, [.int (nI (c 3 j)), .int (V 4 j), .int (nI (c 4 j))])
abbrev zX (o : Nat × Nat × Nat × Nat) (cs : ClassId × ClassId × ClassId × ClassId) (sc lc : Nat) (fa fb : Nat → Option Nat) (z : Nat → Int32) : va_W :=
  [(o.1, .inr (4, [.ref o.2.1, .ref o.2.2.1, .ref o.2.2.2, .int (nI sc), .int (nI lc)])), (o.2.1, .inl (cs.2.2.1, 4096, .inr (.inr (.inr (.inr fa))))), (o.2.2.1, .inl (cs.2.2.2, 1024, .inr (.inr (.inr (.inr fb))))), (o.2.2.2, .inl (cs.1, 4, .inl z))]
def zB (o : Nat × Nat × Nat × Nat) (cs : ClassId × ClassId × ClassId × ClassId) (sc lc : Nat) (fa fb : Nat → Option Nat) (ad bd : Nat → Nat) (c : Nat → Nat → Nat) (gp mo : Nat → Int32) (V : Nat → Nat → Int32) : va_W :=
  zw_ws (zX o cs sc lc fa fb (V 5)) sc (fun k => (ad k, zcell c gp mo V ad bd k)) lc (fun j => (bd j, zlab c V j))
section ZB
variable {o : Nat × Nat × Nat × Nat} {cs : ClassId × ClassId × ClassId × ClassId} {sc lc : Nat} {fa fb : Nat → Option Nat} {ad bd : Nat → Nat} {c : Nat → Nat → Nat} {gp mo gp' mo' : Nat → Int32} {V V' : Nat → Nat → Int32} {k j i : Nat} {q : Nat × va_E} {e : va_E}
theorem zb_x (h : (zX o cs sc lc fa fb (V 5))[i]? = some q) : (zB o cs sc lc fa fb ad bd c gp mo V)[i]? = some q := zw_x h
theorem zb_s (h : k < sc) : (zB o cs sc lc fa fb ad bd c gp mo V)[4 + k]? = some (ad k, zcell c gp mo V ad bd k) := zw_f rfl h
theorem zb_l (h : j < lc) : (zB o cs sc lc fa fb ad bd c gp mo V)[4 + sc + j]? = some (bd j, zlab c V j) := zw_g rfl h
theorem zb_sets (h : k < sc) (h1 : zcell c gp' mo' V' ad bd k = e) (h2 : ∀ i, i < sc → i ≠ k → zcell c gp' mo' V' ad bd i = zcell c gp mo V ad bd i) (h3 : V 4 = V' 4) (h4 : V 5 = V' 5) : (zB o cs sc lc fa fb ad bd c gp mo V).set (4 + k) (ad k, e) = zB o cs sc lc fa fb ad bd c gp' mo' V' := by
  refine zw_setf rfl h (by rw [h1]) (fun i hi hk => by simp only [h2 i hi hk]) (fun i _ => by simp only [zlab, h3]) (by rw [h4])
theorem zb_setl (h : j < lc) (h1 : zlab c V' j = e) (h2 : ∀ i, i < lc → i ≠ j → zlab c V' i = zlab c V i) (h3 : ∀ i, i < sc → zcell c gp mo V ad bd i = zcell c gp' mo' V' ad bd i) (h4 : V 5 = V' 5) : (zB o cs sc lc fa fb ad bd c gp mo V).set (4 + sc + j) (bd j, e) = zB o cs sc lc fa fb ad bd c gp' mo' V' := by
  refine zw_setg rfl h (by rw [h1]) (fun i hi hk => by simp only [h2 i hi hk]) (fun i hi => by simp only [h3 i hi]) (by rw [h4])
theorem zcell_u {f : Nat} {x : Int32} (hf : f < 4) (h : i ≠ k) : zcell c gp mo (zu V f k x) ad bd i = zcell c gp mo V ad bd i := by
  unfold zcell zu
  simp [h]
theorem zcell_u4 {f : Nat} {x : Int32} (hf : 4 ≤ f) : zcell c gp mo (zu V f k x) ad bd i = zcell c gp mo V ad bd i := by
  unfold zcell zu
  have h0 : ¬ (0 = f) := by omega
  have h1 : ¬ (1 = f) := by omega
  have h2 : ¬ (2 = f) := by omega
  have h3 : ¬ (3 = f) := by omega
  simp [h0, h1, h2, h3]
theorem zu_ne {f g : Nat} {x : Int32} (h : g ≠ f) : zu V f k x g = V g := by
  funext b
  simp [zu, h]
theorem zu_at {f : Nat} {x : Int32} : zu V f k x f k = x := by simp [zu]
theorem zu_no {f g : Nat} {x : Int32} (h : ¬ (g = f ∧ i = k)) : zu V f k x g i = V g i := by simp [zu, h]
end ZB
/-! the pure layout -/
def zal (n e : Nat) : Nat := (n - e % n) % n
def zln (c : Nat → Nat → Nat) (br : Nat → Bool) (k e : Nat) : Nat := if c 0 k = 2 then (if br k then 2 else c 2 k) else if c 0 k = 1 then zal (c 2 k) e else c 2 k
def zSZ (c : Nat → Nat → Nat) (br : Nat → Bool) : Nat → Nat → Nat
  | 0, _ => 0
  | k + 1, i => if c 1 k = i then zSZ c br k i + zln c br k (zSZ c br k i) else zSZ c br k i
/-- the layout of br: at, length, a label's place, a section's size -/
def zL (c : Nat → Nat → Nat) (br : Nat → Bool) (sc f k : Nat) : Int32 :=
  if f = 0 then nI (zSZ c br k (c 1 k)) else if f = 1 then nI (zln c br k (zSZ c br k (c 1 k))) else if f = 4 then nI (zSZ c br (c 4 k) (c 3 k)) else nI (zSZ c br sc k)
def zgat (g : Int32) (V : Nat → Nat → Int32) : Int32 := if g < 0 then V 0 (-2 - g).toNatClampNeg else V 4 g.toNatClampNeg
/-- the distance of branch k as the places V say -/
def zdi (gp mo : Nat → Int32) (V : Nat → Nat → Int32) (k : Nat) : Int64 := (zgat (gp k) V).toInt64 + (mo k).toInt64 - (V 0 k + V 1 k).toInt64
def zok (x : Int64) : Bool := decide (-128 ≤ x) && decide (x ≤ 127)
def zb0 (c : Nat → Nat → Nat) (gp : Nat → Int32) (k : Nat) : Bool := decide (c 0 k = 2) && decide (gp k ≠ -1)
def zstep (c : Nat → Nat → Nat) (gp mo : Nat → Int32) (sc : Nat) (br : Nat → Bool) : Nat → Bool := fun k => br k && zok (zdi gp mo (zL c br sc) k)
def zany (c : Nat → Nat → Nat) (gp mo : Nat → Int32) (sc : Nat) (br : Nat → Bool) : Prop := ∃ k, k < sc ∧ br k = true ∧ zok (zdi gp mo (zL c br sc) k) = false
def zvalid (sc lc : Nat) (g : Int32) : Prop := g = -1 ∨ (∃ j, j < lc ∧ g = nI j) ∨ ∃ i, i < sc ∧ g = -2 - nI i
/-- what always holds of a state -/
def zI (sc lc : Nat) (c : Nat → Nat → Nat) (gp : Nat → Int32) : Prop := sc ≤ 4096 ∧ lc ≤ 1024 ∧ (∀ k, k < sc → c 0 k ≤ 2 ∧ c 1 k < 4 ∧ c 2 k ≤ 65536 ∧ (c 0 k = 1 → ∃ p, p ≤ 12 ∧ c 2 k = 2 ^ p) ∧ zvalid sc lc (gp k) ∧ (c 0 k ≠ 2 → gp k = -1)) ∧ (∀ j, j < lc → c 3 j < 4 ∧ c 4 j ≤ sc) ∧ ∀ i j, i ≤ j → j < lc → c 4 i ≤ c 4 j
def zJ (sc : Nat) (c : Nat → Nat → Nat) (gp : Nat → Int32) (V : Nat → Nat → Int32) : Prop := ∀ k, k < sc → (V 2 k = 0 ∨ V 2 k = 1) ∧ (V 2 k = 0 → V 3 k = 0) ∧ (gp k = -1 → V 2 k = 0)
