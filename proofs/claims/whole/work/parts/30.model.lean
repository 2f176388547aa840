/-- the reference: thrown, counts, arrays by their numbers 3 .. 16 -/
def zM (q : Nat → Nat) (cs : ClassId × ClassId × ClassId × ClassId) (th : Int32) (sc lc : Nat) (R : Nat → Nat → Int32) : va_W :=
  [(q 0, .inr (5, [.int th, .int (nI sc), .int (nI lc), .ref (q 3), .ref (q 4), .ref (q 5), .ref (q 6), .ref (q 7), .ref (q 8), .ref (q 9), .ref (q 10), .ref (q 11), .ref (q 12), .ref (q 13), .ref (q 14), .ref (q 15), .ref (q 16)])),
   (q 3, .inl (cs.1, 4096, .inl (R 3))),
   (q 4, .inl (cs.1, 4096, .inl (R 4))),
   (q 5, .inl (cs.1, 4096, .inl (R 5))),
   (q 6, .inl (cs.1, 4096, .inl (R 6))),
   (q 7, .inl (cs.1, 4096, .inl (R 7))),
   (q 8, .inl (cs.1, 1024, .inl (R 8))),
   (q 9, .inl (cs.1, 1024, .inl (R 9))),
   (q 10, .inl (cs.2.1, 4096, .inl (R 10))),
   (q 11, .inl (cs.1, 4096, .inl (R 11))),
   (q 12, .inl (cs.1, 4096, .inl (R 12))),
   (q 13, .inl (cs.1, 4096, .inl (R 13))),
   (q 14, .inl (cs.1, 1024, .inl (R 14))),
   (q 15, .inl (cs.1, 4, .inl (R 15))),
   (q 16, .inl (cs.2.1, 4096, .inl (R 16)))]
theorem zuf (V : Nat → Nat → Int32) (f i : Nat) (x : Int32) : (zu V f i x) f = upd (V f) i x := by
  funext j
  simp [zu, upd]
theorem zm_set_3 {q : Nat → Nat} {cs : ClassId × ClassId × ClassId × ClassId} {th : Int32} {sc lc i : Nat} {R : Nat → Nat → Int32} {x : Int32} : (zM q cs th sc lc R).set 1 (q 3, .inl (cs.1, 4096, .inl (upd (R 3) i x))) = zM q cs th sc lc (zu R 3 i x) := by
  simp only [zM, List.set_cons_succ, List.set_cons_zero, zuf, zu_ne (show (4 : Nat) ≠ 3 by decide), zu_ne (show (5 : Nat) ≠ 3 by decide), zu_ne (show (6 : Nat) ≠ 3 by decide), zu_ne (show (7 : Nat) ≠ 3 by decide), zu_ne (show (8 : Nat) ≠ 3 by decide), zu_ne (show (9 : Nat) ≠ 3 by decide), zu_ne (show (10 : Nat) ≠ 3 by decide), zu_ne (show (11 : Nat) ≠ 3 by decide), zu_ne (show (12 : Nat) ≠ 3 by decide), zu_ne (show (13 : Nat) ≠ 3 by decide), zu_ne (show (14 : Nat) ≠ 3 by decide), zu_ne (show (15 : Nat) ≠ 3 by decide), zu_ne (show (16 : Nat) ≠ 3 by decide)]
theorem zm_set_4 {q : Nat → Nat} {cs : ClassId × ClassId × ClassId × ClassId} {th : Int32} {sc lc i : Nat} {R : Nat → Nat → Int32} {x : Int32} : (zM q cs th sc lc R).set 2 (q 4, .inl (cs.1, 4096, .inl (upd (R 4) i x))) = zM q cs th sc lc (zu R 4 i x) := by
  simp only [zM, List.set_cons_succ, List.set_cons_zero, zuf, zu_ne (show (3 : Nat) ≠ 4 by decide), zu_ne (show (5 : Nat) ≠ 4 by decide), zu_ne (show (6 : Nat) ≠ 4 by decide), zu_ne (show (7 : Nat) ≠ 4 by decide), zu_ne (show (8 : Nat) ≠ 4 by decide), zu_ne (show (9 : Nat) ≠ 4 by decide), zu_ne (show (10 : Nat) ≠ 4 by decide), zu_ne (show (11 : Nat) ≠ 4 by decide), zu_ne (show (12 : Nat) ≠ 4 by decide), zu_ne (show (13 : Nat) ≠ 4 by decide), zu_ne (show (14 : Nat) ≠ 4 by decide), zu_ne (show (15 : Nat) ≠ 4 by decide), zu_ne (show (16 : Nat) ≠ 4 by decide)]
theorem zm_set_5 {q : Nat → Nat} {cs : ClassId × ClassId × ClassId × ClassId} {th : Int32} {sc lc i : Nat} {R : Nat → Nat → Int32} {x : Int32} : (zM q cs th sc lc R).set 3 (q 5, .inl (cs.1, 4096, .inl (upd (R 5) i x))) = zM q cs th sc lc (zu R 5 i x) := by
  simp only [zM, List.set_cons_succ, List.set_cons_zero, zuf, zu_ne (show (3 : Nat) ≠ 5 by decide), zu_ne (show (4 : Nat) ≠ 5 by decide), zu_ne (show (6 : Nat) ≠ 5 by decide), zu_ne (show (7 : Nat) ≠ 5 by decide), zu_ne (show (8 : Nat) ≠ 5 by decide), zu_ne (show (9 : Nat) ≠ 5 by decide), zu_ne (show (10 : Nat) ≠ 5 by decide), zu_ne (show (11 : Nat) ≠ 5 by decide), zu_ne (show (12 : Nat) ≠ 5 by decide), zu_ne (show (13 : Nat) ≠ 5 by decide), zu_ne (show (14 : Nat) ≠ 5 by decide), zu_ne (show (15 : Nat) ≠ 5 by decide), zu_ne (show (16 : Nat) ≠ 5 by decide)]
theorem zm_set_6 {q : Nat → Nat} {cs : ClassId × ClassId × ClassId × ClassId} {th : Int32} {sc lc i : Nat} {R : Nat → Nat → Int32} {x : Int32} : (zM q cs th sc lc R).set 4 (q 6, .inl (cs.1, 4096, .inl (upd (R 6) i x))) = zM q cs th sc lc (zu R 6 i x) := by
  simp only [zM, List.set_cons_succ, List.set_cons_zero, zuf, zu_ne (show (3 : Nat) ≠ 6 by decide), zu_ne (show (4 : Nat) ≠ 6 by decide), zu_ne (show (5 : Nat) ≠ 6 by decide), zu_ne (show (7 : Nat) ≠ 6 by decide), zu_ne (show (8 : Nat) ≠ 6 by decide), zu_ne (show (9 : Nat) ≠ 6 by decide), zu_ne (show (10 : Nat) ≠ 6 by decide), zu_ne (show (11 : Nat) ≠ 6 by decide), zu_ne (show (12 : Nat) ≠ 6 by decide), zu_ne (show (13 : Nat) ≠ 6 by decide), zu_ne (show (14 : Nat) ≠ 6 by decide), zu_ne (show (15 : Nat) ≠ 6 by decide), zu_ne (show (16 : Nat) ≠ 6 by decide)]
theorem zm_set_7 {q : Nat → Nat} {cs : ClassId × ClassId × ClassId × ClassId} {th : Int32} {sc lc i : Nat} {R : Nat → Nat → Int32} {x : Int32} : (zM q cs th sc lc R).set 5 (q 7, .inl (cs.1, 4096, .inl (upd (R 7) i x))) = zM q cs th sc lc (zu R 7 i x) := by
  simp only [zM, List.set_cons_succ, List.set_cons_zero, zuf, zu_ne (show (3 : Nat) ≠ 7 by decide), zu_ne (show (4 : Nat) ≠ 7 by decide), zu_ne (show (5 : Nat) ≠ 7 by decide), zu_ne (show (6 : Nat) ≠ 7 by decide), zu_ne (show (8 : Nat) ≠ 7 by decide), zu_ne (show (9 : Nat) ≠ 7 by decide), zu_ne (show (10 : Nat) ≠ 7 by decide), zu_ne (show (11 : Nat) ≠ 7 by decide), zu_ne (show (12 : Nat) ≠ 7 by decide), zu_ne (show (13 : Nat) ≠ 7 by decide), zu_ne (show (14 : Nat) ≠ 7 by decide), zu_ne (show (15 : Nat) ≠ 7 by decide), zu_ne (show (16 : Nat) ≠ 7 by decide)]
theorem zm_set_8 {q : Nat → Nat} {cs : ClassId × ClassId × ClassId × ClassId} {th : Int32} {sc lc i : Nat} {R : Nat → Nat → Int32} {x : Int32} : (zM q cs th sc lc R).set 6 (q 8, .inl (cs.1, 1024, .inl (upd (R 8) i x))) = zM q cs th sc lc (zu R 8 i x) := by
  simp only [zM, List.set_cons_succ, List.set_cons_zero, zuf, zu_ne (show (3 : Nat) ≠ 8 by decide), zu_ne (show (4 : Nat) ≠ 8 by decide), zu_ne (show (5 : Nat) ≠ 8 by decide), zu_ne (show (6 : Nat) ≠ 8 by decide), zu_ne (show (7 : Nat) ≠ 8 by decide), zu_ne (show (9 : Nat) ≠ 8 by decide), zu_ne (show (10 : Nat) ≠ 8 by decide), zu_ne (show (11 : Nat) ≠ 8 by decide), zu_ne (show (12 : Nat) ≠ 8 by decide), zu_ne (show (13 : Nat) ≠ 8 by decide), zu_ne (show (14 : Nat) ≠ 8 by decide), zu_ne (show (15 : Nat) ≠ 8 by decide), zu_ne (show (16 : Nat) ≠ 8 by decide)]
theorem zm_set_9 {q : Nat → Nat} {cs : ClassId × ClassId × ClassId × ClassId} {th : Int32} {sc lc i : Nat} {R : Nat → Nat → Int32} {x : Int32} : (zM q cs th sc lc R).set 7 (q 9, .inl (cs.1, 1024, .inl (upd (R 9) i x))) = zM q cs th sc lc (zu R 9 i x) := by
  simp only [zM, List.set_cons_succ, List.set_cons_zero, zuf, zu_ne (show (3 : Nat) ≠ 9 by decide), zu_ne (show (4 : Nat) ≠ 9 by decide), zu_ne (show (5 : Nat) ≠ 9 by decide), zu_ne (show (6 : Nat) ≠ 9 by decide), zu_ne (show (7 : Nat) ≠ 9 by decide), zu_ne (show (8 : Nat) ≠ 9 by decide), zu_ne (show (10 : Nat) ≠ 9 by decide), zu_ne (show (11 : Nat) ≠ 9 by decide), zu_ne (show (12 : Nat) ≠ 9 by decide), zu_ne (show (13 : Nat) ≠ 9 by decide), zu_ne (show (14 : Nat) ≠ 9 by decide), zu_ne (show (15 : Nat) ≠ 9 by decide), zu_ne (show (16 : Nat) ≠ 9 by decide)]
theorem zm_set_10 {q : Nat → Nat} {cs : ClassId × ClassId × ClassId × ClassId} {th : Int32} {sc lc i : Nat} {R : Nat → Nat → Int32} {x : Int32} : (zM q cs th sc lc R).set 8 (q 10, .inl (cs.2.1, 4096, .inl (upd (R 10) i x))) = zM q cs th sc lc (zu R 10 i x) := by
  simp only [zM, List.set_cons_succ, List.set_cons_zero, zuf, zu_ne (show (3 : Nat) ≠ 10 by decide), zu_ne (show (4 : Nat) ≠ 10 by decide), zu_ne (show (5 : Nat) ≠ 10 by decide), zu_ne (show (6 : Nat) ≠ 10 by decide), zu_ne (show (7 : Nat) ≠ 10 by decide), zu_ne (show (8 : Nat) ≠ 10 by decide), zu_ne (show (9 : Nat) ≠ 10 by decide), zu_ne (show (11 : Nat) ≠ 10 by decide), zu_ne (show (12 : Nat) ≠ 10 by decide), zu_ne (show (13 : Nat) ≠ 10 by decide), zu_ne (show (14 : Nat) ≠ 10 by decide), zu_ne (show (15 : Nat) ≠ 10 by decide), zu_ne (show (16 : Nat) ≠ 10 by decide)]
theorem zm_set_11 {q : Nat → Nat} {cs : ClassId × ClassId × ClassId × ClassId} {th : Int32} {sc lc i : Nat} {R : Nat → Nat → Int32} {x : Int32} : (zM q cs th sc lc R).set 9 (q 11, .inl (cs.1, 4096, .inl (upd (R 11) i x))) = zM q cs th sc lc (zu R 11 i x) := by
  simp only [zM, List.set_cons_succ, List.set_cons_zero, zuf, zu_ne (show (3 : Nat) ≠ 11 by decide), zu_ne (show (4 : Nat) ≠ 11 by decide), zu_ne (show (5 : Nat) ≠ 11 by decide), zu_ne (show (6 : Nat) ≠ 11 by decide), zu_ne (show (7 : Nat) ≠ 11 by decide), zu_ne (show (8 : Nat) ≠ 11 by decide), zu_ne (show (9 : Nat) ≠ 11 by decide), zu_ne (show (10 : Nat) ≠ 11 by decide), zu_ne (show (12 : Nat) ≠ 11 by decide), zu_ne (show (13 : Nat) ≠ 11 by decide), zu_ne (show (14 : Nat) ≠ 11 by decide), zu_ne (show (15 : Nat) ≠ 11 by decide), zu_ne (show (16 : Nat) ≠ 11 by decide)]
theorem zm_set_12 {q : Nat → Nat} {cs : ClassId × ClassId × ClassId × ClassId} {th : Int32} {sc lc i : Nat} {R : Nat → Nat → Int32} {x : Int32} : (zM q cs th sc lc R).set 10 (q 12, .inl (cs.1, 4096, .inl (upd (R 12) i x))) = zM q cs th sc lc (zu R 12 i x) := by
  simp only [zM, List.set_cons_succ, List.set_cons_zero, zuf, zu_ne (show (3 : Nat) ≠ 12 by decide), zu_ne (show (4 : Nat) ≠ 12 by decide), zu_ne (show (5 : Nat) ≠ 12 by decide), zu_ne (show (6 : Nat) ≠ 12 by decide), zu_ne (show (7 : Nat) ≠ 12 by decide), zu_ne (show (8 : Nat) ≠ 12 by decide), zu_ne (show (9 : Nat) ≠ 12 by decide), zu_ne (show (10 : Nat) ≠ 12 by decide), zu_ne (show (11 : Nat) ≠ 12 by decide), zu_ne (show (13 : Nat) ≠ 12 by decide), zu_ne (show (14 : Nat) ≠ 12 by decide), zu_ne (show (15 : Nat) ≠ 12 by decide), zu_ne (show (16 : Nat) ≠ 12 by decide)]
theorem zm_set_13 {q : Nat → Nat} {cs : ClassId × ClassId × ClassId × ClassId} {th : Int32} {sc lc i : Nat} {R : Nat → Nat → Int32} {x : Int32} : (zM q cs th sc lc R).set 11 (q 13, .inl (cs.1, 4096, .inl (upd (R 13) i x))) = zM q cs th sc lc (zu R 13 i x) := by
  simp only [zM, List.set_cons_succ, List.set_cons_zero, zuf, zu_ne (show (3 : Nat) ≠ 13 by decide), zu_ne (show (4 : Nat) ≠ 13 by decide), zu_ne (show (5 : Nat) ≠ 13 by decide), zu_ne (show (6 : Nat) ≠ 13 by decide), zu_ne (show (7 : Nat) ≠ 13 by decide), zu_ne (show (8 : Nat) ≠ 13 by decide), zu_ne (show (9 : Nat) ≠ 13 by decide), zu_ne (show (10 : Nat) ≠ 13 by decide), zu_ne (show (11 : Nat) ≠ 13 by decide), zu_ne (show (12 : Nat) ≠ 13 by decide), zu_ne (show (14 : Nat) ≠ 13 by decide), zu_ne (show (15 : Nat) ≠ 13 by decide), zu_ne (show (16 : Nat) ≠ 13 by decide)]
theorem zm_set_14 {q : Nat → Nat} {cs : ClassId × ClassId × ClassId × ClassId} {th : Int32} {sc lc i : Nat} {R : Nat → Nat → Int32} {x : Int32} : (zM q cs th sc lc R).set 12 (q 14, .inl (cs.1, 1024, .inl (upd (R 14) i x))) = zM q cs th sc lc (zu R 14 i x) := by
  simp only [zM, List.set_cons_succ, List.set_cons_zero, zuf, zu_ne (show (3 : Nat) ≠ 14 by decide), zu_ne (show (4 : Nat) ≠ 14 by decide), zu_ne (show (5 : Nat) ≠ 14 by decide), zu_ne (show (6 : Nat) ≠ 14 by decide), zu_ne (show (7 : Nat) ≠ 14 by decide), zu_ne (show (8 : Nat) ≠ 14 by decide), zu_ne (show (9 : Nat) ≠ 14 by decide), zu_ne (show (10 : Nat) ≠ 14 by decide), zu_ne (show (11 : Nat) ≠ 14 by decide), zu_ne (show (12 : Nat) ≠ 14 by decide), zu_ne (show (13 : Nat) ≠ 14 by decide), zu_ne (show (15 : Nat) ≠ 14 by decide), zu_ne (show (16 : Nat) ≠ 14 by decide)]
theorem zm_set_15 {q : Nat → Nat} {cs : ClassId × ClassId × ClassId × ClassId} {th : Int32} {sc lc i : Nat} {R : Nat → Nat → Int32} {x : Int32} : (zM q cs th sc lc R).set 13 (q 15, .inl (cs.1, 4, .inl (upd (R 15) i x))) = zM q cs th sc lc (zu R 15 i x) := by
  simp only [zM, List.set_cons_succ, List.set_cons_zero, zuf, zu_ne (show (3 : Nat) ≠ 15 by decide), zu_ne (show (4 : Nat) ≠ 15 by decide), zu_ne (show (5 : Nat) ≠ 15 by decide), zu_ne (show (6 : Nat) ≠ 15 by decide), zu_ne (show (7 : Nat) ≠ 15 by decide), zu_ne (show (8 : Nat) ≠ 15 by decide), zu_ne (show (9 : Nat) ≠ 15 by decide), zu_ne (show (10 : Nat) ≠ 15 by decide), zu_ne (show (11 : Nat) ≠ 15 by decide), zu_ne (show (12 : Nat) ≠ 15 by decide), zu_ne (show (13 : Nat) ≠ 15 by decide), zu_ne (show (14 : Nat) ≠ 15 by decide), zu_ne (show (16 : Nat) ≠ 15 by decide)]
theorem zm_set_16 {q : Nat → Nat} {cs : ClassId × ClassId × ClassId × ClassId} {th : Int32} {sc lc i : Nat} {R : Nat → Nat → Int32} {x : Int32} : (zM q cs th sc lc R).set 14 (q 16, .inl (cs.2.1, 4096, .inl (upd (R 16) i x))) = zM q cs th sc lc (zu R 16 i x) := by
  simp only [zM, List.set_cons_succ, List.set_cons_zero, zuf, zu_ne (show (3 : Nat) ≠ 16 by decide), zu_ne (show (4 : Nat) ≠ 16 by decide), zu_ne (show (5 : Nat) ≠ 16 by decide), zu_ne (show (6 : Nat) ≠ 16 by decide), zu_ne (show (7 : Nat) ≠ 16 by decide), zu_ne (show (8 : Nat) ≠ 16 by decide), zu_ne (show (9 : Nat) ≠ 16 by decide), zu_ne (show (10 : Nat) ≠ 16 by decide), zu_ne (show (11 : Nat) ≠ 16 by decide), zu_ne (show (12 : Nat) ≠ 16 by decide), zu_ne (show (13 : Nat) ≠ 16 by decide), zu_ne (show (14 : Nat) ≠ 16 by decide), zu_ne (show (15 : Nat) ≠ 16 by decide)]
theorem zm_b0 : vp_nar .boolean 0 = 0 := rfl
theorem zm_b1 : vp_nar .boolean 1 = 1 := rfl
/-- the reference's arrays hold the state -/
def zAg (sc lc : Nat) (c : Nat → Nat → Nat) (gp mo : Nat → Int32) (V R : Nat → Nat → Int32) : Prop := (∀ k, k < sc → R 3 k = nI (c 0 k) ∧ R 4 k = nI (c 1 k) ∧ R 5 k = nI (c 2 k) ∧ R 6 k = gp k ∧ R 7 k = mo k ∧ R 11 k = V 0 k ∧ R 12 k = V 1 k ∧ R 13 k = V 3 k ∧ R 16 k = V 2 k) ∧ (∀ j, j < lc → R 8 j = nI (c 3 j) ∧ R 9 j = nI (c 4 j) ∧ R 14 j = V 4 j) ∧ ∀ i, i < 4 → R 15 i = V 5 i
/-- the reference's object, by its pure state -/
def zRW (D : va_G) (A : Nat → Prop) (q : Nat → Nat) (cs : ClassId × ClassId × ClassId × ClassId) (sc lc : Nat) (c : Nat → Nat → Nat) (gp mo : Nat → Int32) (V : Nat → Nat → Int32) (H : Heap) : Prop := ∃ (th : Int32) (R : Nat → Nat → Int32), zAg sc lc c gp mo V R ∧ zH D A (zM q cs th sc lc R) H
theorem z34 {x : Int32} : ¬ 3 < x ↔ x < 4 := by
  have e3 : (3 : Int32).toInt = 3 := by decide
  have e4 : (4 : Int32).toInt = 4 := by decide
  rw [Int32.lt_iff_toInt_lt, Int32.lt_iff_toInt_lt, e3, e4]
  omega
theorem zsec_f1 {x : Int32} (h : x < 0) : zsec x = false := by simp [zsec, h]
theorem zsec_f2 {x : Int32} (h : 3 < x) : zsec x = false := by
  have : ¬ x < 4 := fun q => (z34.mpr q) h
  simp [zsec, this]
theorem zsec_t {x : Int32} (h : ¬ x < 0) (h2 : ¬ 3 < x) : zsec x = true := by simp [zsec, h, z34.mp h2]
/-- the reference's arrays behind a new statement -/
abbrev zaR (R : Nat → Nat → Int32) (sc : Nat) (x n kd : Int32) : Nat → Nat → Int32 := zu (zu (zu (zu (zu (zu (zu (zu (zu (zu R 3 sc kd) 4 sc x) 5 sc n) 6 sc (-1)) 7 sc 0) 10 sc 0) 11 sc 0) 12 sc 0) 13 sc 0) 16 sc 0
theorem zAg_add {sc lc kd : Nat} {c : Nat → Nat → Nat} {gp mo : Nat → Int32} {V R : Nat → Nat → Int32} {x n : Int32} (hx0 : ¬ x < 0) (hn0 : ¬ n < 0) (h : zAg sc lc c gp mo V R) : zAg (sc + 1) lc (zac c sc kd x n) (upd gp sc (-1)) (upd mo sc 0) (zaV V sc) (zaR R sc x n (nI kd)) := by
  refine ⟨fun k hk => ?_, fun j hj => ?_, fun i hi => ?_⟩
  · by_cases hs : k = sc
    · subst hs
      simp [zaR, zu, zac, zaV, upd, zclamp hx0, zclamp hn0]
    · have := h.1 k (by omega)
      simpa [zaR, zu, zac, zaV, upd, hs] using this
  · have := h.2.1 j hj
    simpa [zaR, zu, zac, zaV] using this
  · have := h.2.2 i hi
    simpa [zaR, zu, zaV] using this
theorem zAg_lab {sc lc : Nat} {c : Nat → Nat → Nat} {gp mo : Nat → Int32} {V R : Nat → Nat → Int32} {x : Int32} (hx0 : ¬ x < 0) (h : zAg sc lc c gp mo V R) : zAg sc (lc + 1) (zlc c lc sc x) gp mo (zu V 4 lc 0) (zu (zu (zu R 8 lc x) 9 lc (nI sc)) 14 lc 0) := by
  refine ⟨fun k hk => ?_, fun j hj => ?_, fun i hi => ?_⟩
  · have := h.1 k hk
    simpa [zu, zlc] using this
  · by_cases hs : j = lc
    · subst hs
      simp [zu, zlc, zclamp hx0]
    · have := h.2.1 j (by omega)
      simpa [zu, zlc, hs] using this
  · have := h.2.2 i hi
    simpa [zu] using this
theorem zAg_go {sc lc k : Nat} {c : Nat → Nat → Nat} {gp mo : Nat → Int32} {V R : Nat → Nat → Int32} {pl mr : Int32} (h : zAg sc lc c gp mo V R) : zAg sc lc c (upd gp k pl) (upd mo k mr) V (zu (zu R 6 k pl) 7 k mr) := by
  refine ⟨fun i hi => ?_, fun j hj => ?_, fun i hi => ?_⟩
  · have := h.1 i hi
    by_cases hs : i = k
    · subst hs
      simpa [zu, upd] using ⟨this.1, this.2.1, this.2.2.1, this.2.2.2.2.2⟩
    · simpa [zu, upd, hs] using this
  · have := h.2.1 j hj
    simpa [zu] using this
  · have := h.2.2 i hi
    simpa [zu] using this
theorem zAg_V {sc lc : Nat} {c : Nat → Nat → Nat} {gp mo : Nat → Int32} {V V2 R : Nat → Nat → Int32} (h : zAg sc lc c gp mo V R) (h1 : ∀ k, k < sc → V 0 k = V2 0 k ∧ V 1 k = V2 1 k ∧ V 2 k = V2 2 k ∧ V 3 k = V2 3 k) (h2 : ∀ j, j < lc → V 4 j = V2 4 j) (h3 : ∀ i, i < 4 → V 5 i = V2 5 i) : zAg sc lc c gp mo V2 R := by
  refine ⟨fun k hk => ?_, fun j hj => ?_, fun i hi => ?_⟩
  · obtain ⟨a1, a2, a3, a4, a5, a6, a7, a8, a9⟩ := h.1 k hk
    obtain ⟨e0, e1, e2, e3⟩ := h1 k hk
    exact ⟨a1, a2, a3, a4, a5, by rw [a6, e0], by rw [a7, e1], by rw [a8, e3], by rw [a9, e2]⟩
  · obtain ⟨a1, a2, a3⟩ := h.2.1 j hj
    exact ⟨a1, a2, by rw [a3, h2 j hj]⟩
  · rw [h.2.2 i hi, h3 i hi]
theorem zAg_clear {c : Nat → Nat → Nat} {gp mo : Nat → Int32} {V R : Nat → Nat → Int32} : zAg 0 0 c gp mo (zfl V 0) (zu (zu (zu (zu R 15 0 0) 15 1 0) 15 2 0) 15 3 0) := by
  refine ⟨fun k hk => absurd hk (Nat.not_lt_zero k), fun k hk => absurd hk (Nat.not_lt_zero k), fun i hi => ?_⟩
  have : i = 0 ∨ i = 1 ∨ i = 2 ∨ i = 3 := by omega
  rcases this with rfl | rfl | rfl | rfl <;> simp [zfl, zu]
set_option maxRecDepth 100000 in
theorem zpow2 : ∀ j : Fin 4097, 0 < j.val → ((zbc (nI j.val) = 1 ↔ nI j.val &&& (nI j.val - 1) = 0) ∧ (zbc (nI j.val) = 1 → ((List.range 13).any fun p => 2 ^ p == j.val) = true)) := by decide +kernel
theorem zal_test {n : Int32} : zisal n = true ↔ (¬ n ≤ 0 ∧ ¬ 4096 < n ∧ n &&& (n - 1) = 0) := by
  have e1 : n < 1 ↔ n ≤ 0 := by
    have h1 : (1 : Int32).toInt = 1 := by decide
    have h0 : (0 : Int32).toInt = 0 := by decide
    rw [Int32.lt_iff_toInt_lt, Int32.le_iff_toInt_le, h1, h0]
    omega
  simp only [zisal, decide_eq_true_eq, e1]
  constructor
  · rintro ⟨h1, h2, h3⟩
    obtain ⟨j, hj, rfl⟩ := nI_of2 (M := 4096) (n := 4096) (by decide) (fun q => h1 (Int32.le_of_lt q)) (Int32.not_lt.mp h2)
    have hp : 0 < j := Nat.pos_of_ne_zero fun q => h1 (by rw [q, nI_0]; exact Int32.le_refl _)
    exact ⟨h1, h2, ((zpow2 ⟨j, by omega⟩ hp).1).mp h3⟩
  · rintro ⟨h1, h2, h3⟩
    obtain ⟨j, hj, rfl⟩ := nI_of2 (M := 4096) (n := 4096) (by decide) (fun q => h1 (Int32.le_of_lt q)) (Int32.not_lt.mp h2)
    have hp : 0 < j := Nat.pos_of_ne_zero fun q => h1 (by rw [q, nI_0]; exact Int32.le_refl _)
    exact ⟨h1, h2, ((zpow2 ⟨j, by omega⟩ hp).1).mpr h3⟩
theorem zal_pow {n : Int32} (h : zisal n = true) : ¬ n < 0 ∧ n.toNatClampNeg ≤ 4096 ∧ ∃ p, p ≤ 12 ∧ n.toNatClampNeg = 2 ^ p := by
  obtain ⟨h1, h2, h3⟩ := of_decide_eq_true h
  have h0 : ¬ n < 0 := fun q => h1 (Int32.lt_trans q (by decide))
  obtain ⟨j, hj, rfl⟩ := nI_of2 (M := 4096) (n := 4096) (by decide) h0 (Int32.not_lt.mp h2)
  have hp : 0 < j := Nat.pos_of_ne_zero fun q => h1 (by rw [q, nI_0]; decide)
  have ha := (zpow2 ⟨j, by omega⟩ hp).2 h3
  rw [nI_clamp (by omega)]
  obtain ⟨p, hp1, hp2⟩ := List.any_eq_true.mp ha
  have := List.mem_range.mp hp1
  exact ⟨h0, hj, p, by omega, (beq_iff_eq.mp hp2).symm⟩
theorem zgd_ok {kd : Nat} {x n : Int32} (h : zgd kd x n) : kd ≤ 2 ∧ ¬ x < 0 ∧ x.toNatClampNeg < 4 ∧ ¬ n < 0 ∧ n.toNatClampNeg ≤ 65536 ∧ (kd = 1 → ∃ p, p ≤ 12 ∧ n.toNatClampNeg = 2 ^ p) := by
  obtain ⟨hs, h⟩ := h
  have hs1 := of_decide_eq_true hs
  obtain ⟨j, hj, e1⟩ := nI_of2 (M := 3) (n := 3) (by decide) hs1.1 (Int32.not_lt.mp (z34.mpr hs1.2))
  have hx4 : x.toNatClampNeg < 4 := by rw [e1, nI_clamp (by omega)]; omega
  rcases h with ⟨rfl, h1, h2⟩ | ⟨rfl, h1⟩ | ⟨rfl, h1⟩
  · obtain ⟨i, hi, e2⟩ := nI_of2 (M := 65536) (n := 65536) (by decide) h1 (Int32.not_lt.mp h2)
    exact ⟨by decide, hs1.1, hx4, h1, by rw [e2, nI_clamp (by omega)]; exact hi, fun q => absurd q (by decide)⟩
  · obtain ⟨g1, g2, g3⟩ := zal_pow h1
    exact ⟨by decide, hs1.1, hx4, g1, by omega, fun _ => g3⟩
  · refine ⟨by decide, hs1.1, hx4, ?_, ?_, fun q => absurd q (by decide)⟩
    · rcases h1 with rfl | rfl <;> decide
    · rcases h1 with rfl | rfl <;> decide
