abbrev isS (x : Int32) : Prop := x = 108 ∨ x = 115 ∨ x = 97 ∨ x = 99 ∨ x = 120 ∨ x = 59 ∨ x = 123 ∨ x = 125
abbrev isG (x : Int32) : Prop := 48 ≤ x ∧ x ≤ 57
/-- the token that begins at q: its kind, its value, the place behind it -/
def TK (f : Nat → Int32) (n q : Nat) (tk va pb : Int32) : Prop := (q = n ∧ tk = 0 ∧ pb = nI n) ∨ (q < n ∧ ¬ isG (f q) ∧ va = f q ∧ tk = (if isS (f q) then 1 else 3) ∧ pb = nI (q + 1)) ∨ (q < n ∧ isG (f q) ∧ pb = nI (q + dg f n q) ∧ ((dg f n q ≤ 3 ∧ tk = 2 ∧ va = vl f q (dg f n q)) ∨ (¬ dg f n q ≤ 3 ∧ tk = 3)))
theorem G_oob {x : Int32} : ¬ oob x 48 57 ↔ isG x := ⟨fun h => ⟨Int32.not_lt.mp fun q => h (Or.inl q), Int32.not_lt.mp fun q => h (Or.inr q)⟩, fun h q => q.elim (Int32.not_lt.mpr h.1) (Int32.not_lt.mpr h.2)⟩
theorem vl_s {f : Nat → Int32} {i j : Nat} (h : j < 3) : 10 * vl f i (min j 3) + f (i + j) - 48 = vl f i (min (j + 1) 3) := by
  rw [show min j 3 = j by omega, show min (j + 1) 3 = j + 1 by omega]; rfl
theorem G_S {x : Int32} (h : isG x) : ¬ isS x := by
  rintro (rfl | rfl | rfl | rfl | rfl | rfl | rfl | rfl)
  all_goals exact absurd h (by decide)
/-- a number of a range stands there -/
theorem tk_num {f : Nat → Int32} {n q : Nat} {tk va pb lo hi : Int32} (h : TK f n q tk va pb) : (tk = 2 ∧ ¬ oob va lo hi) ↔ rdOK f n q lo hi := by
  rcases h with ⟨h1, h2, -⟩ | ⟨h1, h2, h3, h4, -⟩ | ⟨h1, h2, h3, h4⟩
  · refine ⟨fun h => absurd (h2.symm.trans h.1) (by decide), fun h => ?_⟩
    have := dg_end (f := f) (n := n) (p := q) (by omega)
    exact absurd h.1.1 (by omega)
  · refine ⟨fun h => ?_, fun h => ?_⟩
    · rw [h4] at h
      split at h <;> exact absurd h.1 (by decide)
    · have := dg_no (f := f) h1 h2
      exact absurd h.1.1 (by omega)
  · have hd := dg_yes (f := f) h1 h2
    rcases h4 with ⟨a, b, c⟩ | ⟨a, b⟩
    · rw [b, c]
      exact ⟨fun h => ⟨⟨by omega, a⟩, fun q => h.2 (Or.inl q), fun q => h.2 (Or.inr q)⟩, fun h => ⟨rfl, fun q => q.elim h.2.1 h.2.2⟩⟩
    · rw [b]
      exact ⟨fun h => absurd h.1 (by decide), fun h => absurd h.1.2 a⟩
theorem tk_val {f : Nat → Int32} {n q : Nat} {tk va pb : Int32} (h : TK f n q tk va pb) (h2 : tk = 2) : va = vl f q (dg f n q) ∧ pb = nI (q + dg f n q) ∧ q + dg f n q ≤ n := by
  rcases h with ⟨h1, h3, -⟩ | ⟨h1, -, h3, h4, -⟩ | ⟨h1, h5, h3, h4⟩
  · exact absurd (h3.symm.trans h2) (by decide)
  · rw [h2] at h4
    split at h4 <;> exact absurd h4 (by decide)
  · rcases h4 with ⟨a, b, c⟩ | ⟨a, b⟩
    · exact ⟨c, h3, dg_le (by omega)⟩
    · exact absurd (b.symm.trans h2) (by decide)
/-- a sign stands there -/
theorem tk_sign {f : Nat → Int32} {n q : Nat} {tk va pb b : Int32} (h : TK f n q tk va pb) (hb : isS b) : (tk = 1 ∧ va = b) ↔ btA f n q = b := by
  rcases h with ⟨h1, h3, -⟩ | ⟨h1, h2, h3, h4, -⟩ | ⟨h1, h5, h3, h4⟩
  · refine ⟨fun h => absurd (h3.symm.trans h.1) (by decide), fun h => ?_⟩
    rw [btA, if_neg (by omega)] at h
    rw [← h] at hb; exact absurd hb (by decide)
  · rw [btA, if_pos h1, h3, h4]
    refine ⟨fun h => h.2, fun h => ⟨?_, h⟩⟩
    rw [h, if_pos hb]
  · rw [btA, if_pos h1]
    refine ⟨fun h => ?_, fun h => ?_⟩
    · rcases h4 with ⟨-, b, -⟩ | ⟨-, b⟩ <;> exact absurd (b.symm.trans h.1) (by decide)
    · rw [h] at h5; exact absurd hb (G_S h5)
/-- the place behind a sign -/
theorem tk_pb {f : Nat → Int32} {n q : Nat} {tk va pb : Int32} (h : TK f n q tk va pb) (h1 : tk = 1) : pb = nI (q + 1) ∧ q < n ∧ va = f q ∧ isS (f q) := by
  rcases h with ⟨-, h3, -⟩ | ⟨h1', -, h3, h4, h5⟩ | ⟨-, -, -, h4⟩
  · exact absurd (h3.symm.trans h1) (by decide)
  · rw [h1] at h4
    refine ⟨h5, h1', h3, Decidable.byContradiction fun c => ?_⟩
    rw [if_neg c] at h4; exact absurd h4 (by decide)
  · rcases h4 with ⟨-, b, -⟩ | ⟨-, b⟩ <;> exact absurd (b.symm.trans h1) (by decide)
theorem tk_end {f : Nat → Int32} {n q : Nat} {tk va pb : Int32} (h : TK f n q tk va pb) (hq : q ≤ n) : tk = 0 ↔ ¬ q < n := by
  rcases h with ⟨h1, h3, -⟩ | ⟨h1, -, -, h4, -⟩ | ⟨h1, -, -, h4⟩
  · exact ⟨fun _ => by omega, fun _ => h3⟩
  · refine ⟨fun h => ?_, fun h => absurd h1 h⟩
    rw [h] at h4
    split at h4 <;> exact absurd h4 (by decide)
  · refine ⟨fun h => ?_, fun h => absurd h1 h⟩
    rcases h4 with ⟨-, b, -⟩ | ⟨-, b⟩ <;> exact absurd (b.symm.trans h) (by decide)
