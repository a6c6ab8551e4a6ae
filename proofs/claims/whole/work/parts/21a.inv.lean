/-- keys of 0 to 99 in a row, each once -/
def kI (n : Nat) (f : Nat → Int32) : Prop := n ≤ 100 ∧ (∀ j, j < n → ∃ y, y < 100 ∧ f j = nI y) ∧ (∀ i j, i < j → j < n → ¬ f i = f j)
/-- a key as a number -/
def kN (f : Nat → Int32) (j : Nat) : Nat := (f j).toInt.toNat
theorem kN_of {f : Nat → Int32} {j y : Nat} (hy : y < 2 ^ 31) (h : f j = nI y) : kN f j = y := by
  rw [kN, h, nI_toInt hy]; rfl
theorem kI.k {n : Nat} {f : Nat → Int32} (h : kI n f) : ∀ j, j < n → kN f j < 100 ∧ f j = nI (kN f j) := fun j hj => by
  obtain ⟨y, hy, e⟩ := h.2.1 j hj
  rw [kN_of (by omega) e]
  exact ⟨hy, e⟩
/-- no more values below m than m, if they differ -/
theorem pg_h : ∀ (m n : Nat) (f : Nat → Nat), (∀ i, i < n → f i < m) → (∀ i j, i < j → j < n → f i ≠ f j) → n ≤ m
  | 0, n, f, h, _ => Nat.le_of_not_lt fun h1 => absurd (h 0 h1) (Nat.not_lt_zero _)
  | m + 1, n, f, h, hd => by
    by_cases hx : ∃ i, i < n ∧ f i = m
    · obtain ⟨i, hi, e⟩ := hx
      have := pg_h m (n - 1) (fun j => if j < i then f j else f (j + 1)) (fun j hj => by
        show (if j < i then f j else f (j + 1)) < m
        split
        · next h1 => have a := h j (by omega); have b := hd j i h1 hi; omega
        · next h1 => have a := h (j + 1) (by omega); have b := hd i (j + 1) (by omega) (by omega); omega) (fun a b hab hb => by
        show (if a < i then f a else f (a + 1)) ≠ (if b < i then f b else f (b + 1))
        split <;> split
        · exact hd a b hab (by omega)
        · exact hd a (b + 1) (by omega) (by omega)
        · omega
        · exact hd (a + 1) (b + 1) (by omega) (by omega))
      omega
    · have := pg_h m n f (fun j hj => by have a := h j hj; have b : f j ≠ m := fun e => hx ⟨j, hj, e⟩; omega) hd
      omega
theorem kI.q {n : Nat} {f : Nat → Int32} (h : kI n f) {y : Nat} (hy : y < 100) : fx f (nI y) n < n ∨ n < 100 := by
  rcases Nat.lt_or_ge (fx f (nI y) n) n with h1 | h1
  · exact Or.inl h1
  · right
    have hno : ∀ j, j < n → f j ≠ nI y := fun j hj => fx_no (n := n) (by have := fx_le f (nI y) n; omega)
    have := pg_h 100 (n + 1) (fun j => if j < n then kN f j else y) (fun j hj => by
      show (if j < n then kN f j else y) < 100
      split
      · next h2 => exact (h.k j h2).1
      · exact hy) (fun i j hij hj => by
      show (if i < n then kN f i else y) ≠ (if j < n then kN f j else y)
      rw [if_pos (show i < n by omega)]
      have a := h.k i (by omega)
      split
      · next h2 => have b := h.k j h2; exact fun e => h.2.2 i j hij h2 (by rw [a.2, b.2, e])
      · exact fun e => hno i (by omega) (by rw [a.2, e]))
    omega
theorem kI.del {n p : Nat} {f : Nat → Int32} (h : kI n f) (hp : p < n) : kI (n - 1) (shf f p n) := by
  have e : ∀ j, j < n - 1 → shf f p n j = f (if p ≤ j then j + 1 else j) := fun j hj => by
    show (if p ≤ j ∧ j + 1 < n then f (j + 1) else f j) = _
    by_cases h1 : p ≤ j
    · rw [if_pos ⟨h1, by omega⟩, if_pos h1]
    · rw [if_neg (fun h2 => h1 h2.1), if_neg h1]
  refine ⟨by have := h.1; omega, fun j hj => ?_, fun i j hij hj => ?_⟩
  · rw [e j hj]; exact h.2.1 _ (by split <;> omega)
  · rw [e j hj, e i (by omega)]
    exact h.2.2 _ _ (by split <;> split <;> omega) (by split <;> omega)
theorem shf_mem {f : Nat → Int32} {p n j : Nat} (hp : p < n) (hj : j < n - 1) : ∃ i, i < n ∧ i ≠ p ∧ shf f p n j = f i := by
  refine ⟨if p ≤ j then j + 1 else j, by split <;> omega, by split <;> omega, ?_⟩
  show (if p ≤ j ∧ j + 1 < n then f (j + 1) else f j) = _
  by_cases h1 : p ≤ j
  · rw [if_pos ⟨h1, by omega⟩, if_pos h1]
  · rw [if_neg (fun h2 => h1 h2.1), if_neg h1]
theorem kI.add {n : Nat} {f : Nat → Int32} (h : kI n f) {y : Nat} (hy : y < 100) (hno : ∀ j, j < n → f j ≠ nI y) (hn : n < 100) : kI (n + 1) (upd f n (nI y)) := by
  have e1 : upd f n (nI y) n = nI y := if_pos rfl
  have e2 : ∀ j, j ≠ n → upd f n (nI y) j = f j := fun j hj => if_neg hj
  refine ⟨by omega, fun j hj => ?_, fun i j hij hj => ?_⟩
  · by_cases h1 : j = n
    · rw [h1, e1]; exact ⟨y, hy, rfl⟩
    · rw [e2 j h1]; exact h.2.1 j (by omega)
  · rw [e2 i (by omega)]
    by_cases h1 : j = n
    · rw [h1, e1]; exact hno i (by omega)
    · rw [e2 j h1]; exact h.2.2 i j hij (by omega)
theorem kI.use {n : Nat} {f : Nat → Int32} (h : kI n f) {y : Nat} (hy : y < 100) : kI (usN f n (nI y)) (usF f n (nI y)) := by
  unfold usN usF
  rcases h.q hy with h1 | h1
  · rw [if_pos h1, if_pos h1]
    have h2 := (h.del h1).add hy (fun j hj => by
      obtain ⟨i, hi, hip, e⟩ := shf_mem (f := f) h1 hj
      rw [e]
      intro e3
      have e4 := fx_yes h1
      rcases Nat.lt_trichotomy i (fx f (nI y) n) with h5 | h5 | h5
      · exact h.2.2 i _ h5 h1 (by rw [e3, e4])
      · exact hip h5
      · exact h.2.2 _ i h5 hi (by rw [e3, e4])) (by have := h.1; omega)
    rw [show n - 1 + 1 = n by omega] at h2
    exact h2
  · by_cases h0 : fx f (nI y) n < n
    · have h2 := (h.del h0).add hy (fun j hj => by
        obtain ⟨i, hi, hip, e⟩ := shf_mem (f := f) h0 hj
        rw [e]
        intro e3
        have e4 := fx_yes h0
        rcases Nat.lt_trichotomy i (fx f (nI y) n) with h5 | h5 | h5
        · exact h.2.2 i _ h5 h0 (by rw [e3, e4])
        · exact hip h5
        · exact h.2.2 _ i h5 hi (by rw [e3, e4])) (by have := h.1; omega)
      rw [show n - 1 + 1 = n by omega] at h2
      rw [if_pos h0, if_pos h0]
      exact h2
    · rw [if_neg h0, if_neg h0]
      exact h.add hy (fun j hj => fx_no (n := n) (by have := fx_le f (nI y) n; omega)) h1
theorem kI.st {n : Nat} {f : Nat → Int32} (h : kI n f) {y : Nat} (hy : y < 100) (b : Nat) : kI (stN f n (nI y) b) (stF f n (nI y) b) := by
  have h1 := h.use hy
  unfold stN stF
  by_cases hb : usN f n (nI y) ≤ b
  · rw [if_pos hb, if_pos hb]; exact h1
  · rw [if_neg hb, if_neg hb]; exact h1.del (by omega)
theorem kI.z {n : Nat} {f : Nat → Int32} (h : kI n f) {y : Nat} (hy : y < 100) : ¬ usF f n (nI y) 0 = -1 := fun e => by
  obtain ⟨z, hz, e2⟩ := (h.use hy).2.1 0 usN_pos
  exact nI_m1 (n := z) (by omega) (e2.symm.trans e)
/-- a map's state -/
def mI (Z : DS) (m : Nat) : Prop := kI (Z.1 m) (Z.2.2 (2 * m)) ∧ (1 ≤ Z.1 (12 + m) ∧ Z.1 (12 + m) ≤ 100) ∧ (∀ j, j < Z.1 m → ¬ Z.2.2 (2 * m + 1) (kN (Z.2.2 (2 * m)) j) = -1) ∧ (Z.2.1 (1 + 5 * m) = 0 ∨ Z.2.1 (1 + 5 * m) = 1) ∧ (¬ Z.2.1 (1 + 5 * m) = 0 → ∃ j, Z.2.1 (2 + 5 * m) = nI j ∧ j ≤ Z.1 m ∧ (¬ Z.2.1 (3 + 5 * m) = 0 → 1 ≤ j))
theorem mI.n {Z : DS} {m : Nat} (h : mI Z m) : Z.1 m ≤ 100 := h.1.1
theorem mI.b {Z : DS} {m : Nat} (h : mI Z m) : Z.1 (12 + m) < 2 ^ 31 := by have := h.2.1.2; omega
theorem mI.v {Z : DS} {m y : Nat} (h : mI Z m) (hy : y < 100) : fx (Z.2.2 (2 * m)) (nI y) (Z.1 m) < Z.1 m → ¬ Z.2.2 (2 * m + 1) y = -1 := fun h1 => by
  have h2 := h.2.2.1 _ h1
  rw [kN_of (by omega) (fx_yes h1)] at h2
  exact h2
theorem ite01 {c : Prop} [Decidable c] : (if c then (1 : Int32) else 0) = 0 ∨ (if c then (1 : Int32) else 0) = 1 := by
  split
  · exact Or.inr rfl
  · exact Or.inl rfl
theorem oob_nI {x : Int32} (lo hi : Nat) (h1 : lo < 2 ^ 31) (h2 : hi < 2 ^ 31) (h : ¬ oob x (nI lo) (nI hi)) : ∃ y, lo ≤ y ∧ y ≤ hi ∧ x = nI y := by
  have a : ¬ x < nI lo := fun z => h (Or.inl z)
  have b : ¬ nI hi < x := fun z => h (Or.inr z)
  obtain ⟨y, hy, rfl⟩ := nI_rng hi h2 (fun z => a (by
    have z1 := Int32.lt_iff_toInt_lt.mp z
    have z0 : (0 : Int32).toInt = 0 := rfl
    exact Int32.lt_iff_toInt_lt.mpr (by rw [nI_toInt h1]; omega))) b
  refine ⟨y, ?_, hy, rfl⟩
  have := mt (nI_ltI (a := y) (b := lo) (by omega) h1).mpr a
  omega
