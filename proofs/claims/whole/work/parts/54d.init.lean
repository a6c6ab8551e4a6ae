/-! ===== the two as they are made ===== -/
theorem GI_0 : GI dZ vZ gZ := by
  refine ⟨fun m hm => ?_, ?_, ?_, ?_, ?_, ?_, rfl, ?_⟩
  · match m, hm with
    | 0, _ => exact ⟨⟨kI_0, ⟨by decide, by decide⟩, fun j h => absurd h (Nat.not_lt_zero j), Or.inl rfl, fun h => absurd rfl h⟩, by decide, ⟨rfl, fun j h => absurd h (Nat.not_lt_zero j), fun j h => absurd h (Nat.not_lt_zero j)⟩, rfl, rfl⟩
    | 1, _ => exact ⟨⟨kI_0, ⟨by decide, by decide⟩, fun j h => absurd h (Nat.not_lt_zero j), Or.inl rfl, fun h => absurd rfl h⟩, by decide, ⟨rfl, fun j h => absurd h (Nat.not_lt_zero j), fun j h => absurd h (Nat.not_lt_zero j)⟩, rfl, rfl⟩
    | m + 2, h => exact absurd h (by omega)
  · exact ⟨rfl, ⟨by decide, by decide⟩, rfl, rfl, rfl⟩
  · refine ⟨fun i hi => ?_, kI_0, by decide⟩
    match i, hi with
    | 0, _ => exact kI_0
    | 1, _ => exact kI_0
    | 2, _ => exact kI_0
    | 3, _ => exact kI_0
    | 4, _ => exact kI_0
    | 5, _ => exact kI_0
    | 6, _ => exact kI_0
    | 7, _ => exact kI_0
    | i + 8, h => exact absurd h (by omega)
  · intro i hi
    match i, hi with
    | 0, _ => exact ⟨by decide, rfl, rfl, fun j h => absurd h (Nat.not_lt_zero j)⟩
    | 1, _ => exact ⟨by decide, rfl, rfl, fun j h => absurd h (Nat.not_lt_zero j)⟩
    | 2, _ => exact ⟨by decide, rfl, rfl, fun j h => absurd h (Nat.not_lt_zero j)⟩
    | 3, _ => exact ⟨by decide, rfl, rfl, fun j h => absurd h (Nat.not_lt_zero j)⟩
    | 4, _ => exact ⟨by decide, rfl, rfl, fun j h => absurd h (Nat.not_lt_zero j)⟩
    | 5, _ => exact ⟨by decide, rfl, rfl, fun j h => absurd h (Nat.not_lt_zero j)⟩
    | 6, _ => exact ⟨by decide, rfl, rfl, fun j h => absurd h (Nat.not_lt_zero j)⟩
    | 7, _ => exact ⟨by decide, rfl, rfl, fun j h => absurd h (Nat.not_lt_zero j)⟩
    | i + 8, h => exact absurd h (by omega)
  · exact ⟨rfl, fun r h => absurd h (Nat.not_lt_zero r), LO_0, fun r h => absurd h (Nat.not_lt_zero r)⟩
  · exact ⟨by decide, rfl, rfl⟩
  · refine ⟨⟨kI_0, fun j h => absurd h (Nat.not_lt_zero j), by decide, by decide⟩, by decide, rfl, rfl, rfl, rfl, rfl, fun a _ => ⟨rfl, rfl⟩, fun q _ => ⟨rfl, Or.inl rfl⟩, fun j h => absurd h (Nat.not_lt_zero j)⟩
