/-- the rows hold the items -/
def RW (its : List (Int32 × Int32)) (g11 g12 : Nat → Int32) : Prop := ∀ (i : Nat) (k x : Int32), its[i]? = some (k, x) → g11 i = k ∧ (k = 125 ∨ g12 i = x)
theorem RW_0 {g11 g12 : Nat → Int32} : RW [] g11 g12 := fun i k x h => by simp at h
theorem RW_add {its : List (Int32 × Int32)} {g11 g12 g12' : Nat → Int32} {m : Nat} {k x : Int32} (h : RW its g11 g12) (hm : m = its.length) (h12 : ∀ i, i ≠ m → g12' i = g12 i) (hx : k = 125 ∨ g12' m = x) : RW (its ++ [(k, x)]) (upd g11 m k) g12' := by
  intro i k2 x2 hi
  by_cases e : i < its.length
  · rw [List.getElem?_append_left e] at hi
    obtain ⟨a, b⟩ := h i k2 x2 hi
    rw [upd_o (by omega), h12 i (by omega)]
    exact ⟨a, b⟩
  · rw [List.getElem?_append_right (by omega)] at hi
    have hl : i < its.length + 1 := by
      have := (List.getElem?_eq_some_iff.mp hi).1
      simp at this; omega
    have hi0 : i - its.length = 0 := by omega
    rw [hi0] at hi
    have hi2 : (k, x) = (k2, x2) := Option.some.inj hi
    have e1 : k = k2 := congrArg Prod.fst hi2
    have e2 : x = x2 := congrArg Prod.snd hi2
    have hin : i = m := by omega
    subst e1; subst e2; subst hin
    exact ⟨upd_s, hx⟩
theorem itm_125 {f : Nat → Int32} {n p op p2 : Nat} {x : Int32} (hi : itm f n p op = .inl (125, x, p2)) : f p = 125 ∧ 0 < op := by
  rcases itm_kd hi with ⟨h, e⟩ | ⟨-, e⟩ | ⟨h, -⟩
  · rw [← e] at h; exact absurd h (by decide)
  · exact absurd e (by decide)
  · exact ⟨h, (itm_e h hi).1⟩
theorem itm_cl {f : Nat → Int32} {n p op : Nat} (h : f p = 125) (ho : 0 < op) : itm f n p op = .inl (125, 0, sk f n (p + 1)) := by
  unfold itm
  rw [if_neg (by rw [h]; decide), if_neg (by rw [h]; decide), if_pos h, if_pos ho]
theorem opn_125 (op : Nat) : opn op 125 = op - 1 := by
  unfold opn; rw [if_neg (by decide), if_pos rfl]
theorem opn_120 (op : Nat) : opn op 120 = op + 1 := by
  unfold opn; rw [if_pos rfl]
theorem opn_o {op : Nat} {kd : Int32} (h1 : ¬ kd = 120) (h2 : ¬ kd = 125) : opn op kd = op := by
  unfold opn; rw [if_neg h1, if_neg h2]
theorem itm_op {f : Nat → Int32} {n p op p2 : Nat} {x : Int32} (hi : itm f n p op = .inl (120, x, p2)) : op < 4 := by
  rcases itm_kd hi with ⟨h, e⟩ | ⟨h, -⟩ | ⟨-, e⟩
  · rw [← e] at h; exact absurd h (by decide)
  · exact (itm_x h hi).2.1.1
  · exact absurd e (by decide)
