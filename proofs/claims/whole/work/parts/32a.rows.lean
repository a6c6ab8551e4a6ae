/-- a row's part from b on -/
def rwo (f : Nat → Int32) (b j : Nat) : Int32 := f (b + j)
/-- a row whose part from b on, of n places, is without its place p -/
def mrs (f : Nat → Int32) (b p n : Nat) : Nat → Int32 := fun i => if b + p ≤ i ∧ i + 1 < b + n then f (i + 1) else f i
theorem mrs_0 (f : Nat → Int32) (b p : Nat) : mrs f b p (p + 1) = f := by
  funext j
  show (if b + p ≤ j ∧ j + 1 < b + (p + 1) then f (j + 1) else f j) = f j
  rw [if_neg (by omega)]
theorem mrs_step {f : Nat → Int32} {b p i : Nat} (h : p ≤ i) : upd (mrs f b p (i + 1)) (b + i) (mrs f b p (i + 1) (b + i + 1)) = mrs f b p (i + 2) := by
  funext j
  show (if j = b + i then (if b + p ≤ b + i + 1 ∧ b + i + 1 + 1 < b + (i + 1) then f (b + i + 1 + 1) else f (b + i + 1)) else (if b + p ≤ j ∧ j + 1 < b + (i + 1) then f (j + 1) else f j)) = (if b + p ≤ j ∧ j + 1 < b + (i + 2) then f (j + 1) else f j)
  rw [if_neg (show ¬ (b + p ≤ b + i + 1 ∧ b + i + 1 + 1 < b + (i + 1)) by omega)]
  by_cases hj : j = b + i
  · rw [if_pos hj, if_pos (by omega), hj]
  · rw [if_neg hj]
    by_cases h2 : b + p ≤ j ∧ j + 1 < b + (i + 1)
    · rw [if_pos h2, if_pos (by omega)]
    · rw [if_neg h2, if_neg (by omega)]
theorem mrs_rwo {f : Nat → Int32} {b p n : Nat} : rwo (mrs f b p n) b = shf (rwo f b) p n := by
  funext j
  show (if b + p ≤ b + j ∧ b + j + 1 < b + n then f (b + j + 1) else f (b + j)) = (if p ≤ j ∧ j + 1 < n then f (b + (j + 1)) else f (b + j))
  by_cases h : p ≤ j ∧ j + 1 < n
  · rw [if_pos h, if_pos (by omega)]; rfl
  · rw [if_neg h, if_neg (by omega)]
theorem mrs_ne {f : Nat → Int32} {b p n i : Nat} (h : i < b + p ∨ b + n ≤ i + 1) : mrs f b p n i = f i := if_neg (by omega)
theorem upd_s {f : Nat → Int32} {j : Nat} {x : Int32} : upd f j x j = x := if_pos rfl
theorem upd_o {f : Nat → Int32} {j q : Nat} {x : Int32} (h : q ≠ j) : upd f j x q = f q := if_neg h
theorem rwo_upd {f : Nat → Int32} {b j : Nat} {x : Int32} : rwo (upd f (b + j) x) b = upd (rwo f b) j x := by
  funext q
  show (if b + q = b + j then x else f (b + q)) = (if q = j then x else f (b + q))
  by_cases h : q = j
  · rw [if_pos h, if_pos (by omega)]
  · rw [if_neg h, if_neg (by omega)]
