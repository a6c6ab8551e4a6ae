/-! ===== numbers and rows ===== -/
/-- the first place below n that holds the key; n if there is none -/
def fx (f : Nat → Int32) (key : Int32) : Nat → Nat
  | 0 => 0
  | n + 1 => if fx f key n < n then fx f key n else if f n = key then n else n + 1
theorem fx_le (f : Nat → Int32) (key : Int32) : ∀ n, fx f key n ≤ n
  | 0 => Nat.le_refl 0
  | n + 1 => by
    have ih := fx_le f key n
    show (if fx f key n < n then fx f key n else if f n = key then n else n + 1) ≤ n + 1
    split
    · omega
    · split <;> omega
theorem fx_no {f : Nat → Int32} {key : Int32} : ∀ {n k : Nat}, k < fx f key n → f k ≠ key
  | 0, k, h => absurd h (Nat.not_lt_zero k)
  | n + 1, k, h => by
    have ih := @fx_no f key n k
    have hle := fx_le f key n
    have h : k < (if fx f key n < n then fx f key n else if f n = key then n else n + 1) := h
    split at h
    · exact ih h
    · split at h
      · exact ih (by omega)
      · next h1 h2 =>
        by_cases hk : k = n
        · rw [hk]; exact h2
        · exact ih (by omega)
theorem fx_yes {f : Nat → Int32} {key : Int32} : ∀ {n : Nat}, fx f key n < n → f (fx f key n) = key
  | 0, h => absurd h (Nat.not_lt_zero _)
  | n + 1, h => by
    have ih := @fx_yes f key n
    have h : (if fx f key n < n then fx f key n else if f n = key then n else n + 1) < n + 1 := h
    show f (if fx f key n < n then fx f key n else if f n = key then n else n + 1) = key
    split at h
    · next h1 => rw [if_pos h1]; exact ih h1
    · next h1 =>
      split at h
      · next h2 => rw [if_neg h1, if_pos h2]; exact h2
      · omega
theorem fx_at {f : Nat → Int32} {key : Int32} {n i : Nat} (hi : i < n) (hno : ∀ j, j < i → f j ≠ key) (hy : f i = key) : fx f key n = i := by
  rcases Nat.lt_trichotomy (fx f key n) i with h | h | h
  · exact absurd (fx_yes (Nat.lt_trans h hi)) (hno _ h)
  · exact h
  · exact absurd hy (fx_no h)
theorem fx_none {f : Nat → Int32} {key : Int32} {n : Nat} (hno : ∀ j, j < n → f j ≠ key) : fx f key n = n := by
  rcases Nat.lt_or_ge (fx f key n) n with h | h
  · exact absurd (fx_yes h) (hno _ h)
  · exact Nat.le_antisymm (fx_le f key n) h
theorem fx_congr {f g : Nat → Int32} {key : Int32} {n : Nat} (h : ∀ j, j < n → f j = g j) : fx f key n = fx g key n := by
  rcases Nat.lt_or_ge (fx g key n) n with h1 | h1
  · exact fx_at h1 (fun j hj => by rw [h j (by omega)]; exact fx_no hj) (by rw [h _ h1]; exact fx_yes h1)
  · have h2 := fx_le g key n
    rw [show fx g key n = n by omega]
    exact fx_none fun j hj => by rw [h j hj]; exact fx_no (f := g) (n := n) (by omega)
/-- the place as the programs answer it -/
def fxI (f : Nat → Int32) (key : Int32) (n : Nat) : Int32 := if fx f key n < n then nI (fx f key n) else -1
/-- the row without its place p, of n places -/
def shf (f : Nat → Int32) (p n : Nat) : Nat → Int32 := fun j => if p ≤ j ∧ j + 1 < n then f (j + 1) else f j
theorem shf_0 (f : Nat → Int32) (p : Nat) : shf f p (p + 1) = f := by
  funext j
  show (if p ≤ j ∧ j + 1 < p + 1 then f (j + 1) else f j) = f j
  rw [if_neg (by omega)]
theorem shf_step {f : Nat → Int32} {p i : Nat} (h : p ≤ i) : upd (shf f p (i + 1)) i (shf f p (i + 1) (i + 1)) = shf f p (i + 2) := by
  funext j
  show (if j = i then (if p ≤ i + 1 ∧ i + 1 + 1 < i + 1 then f (i + 1 + 1) else f (i + 1)) else (if p ≤ j ∧ j + 1 < i + 1 then f (j + 1) else f j)) = (if p ≤ j ∧ j + 1 < i + 2 then f (j + 1) else f j)
  rw [if_neg (show ¬ (p ≤ i + 1 ∧ i + 1 + 1 < i + 1) by omega)]
  by_cases hj : j = i
  · rw [if_pos hj, if_pos (by omega), hj]
  · rw [if_neg hj]
    by_cases h2 : p ≤ j ∧ j + 1 < i + 1
    · rw [if_pos h2, if_pos (by omega)]
    · rw [if_neg h2, if_neg (by omega)]
theorem nI_m1 {n : Nat} (h : n < 2 ^ 31) : ¬ nI n = -1 := fun e => by
  have h1 := nI_toInt h
  rw [e] at h1
  have h2 : (-1 : Int32).toInt = -1 := rfl
  omega
theorem nI_inj {a b : Nat} (ha : a < 2 ^ 31) (hb : b < 2 ^ 31) (h : nI a = nI b) : a = b := (nI_eq ha hb).mp h
theorem absurd_lit {P : Prop} {a : Prop} [Decidable a] (h : a) (hd : decide a = false) : P := absurd h (of_decide_eq_false hd)
