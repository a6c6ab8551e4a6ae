theorem itm_st {f : Nat → Int32} {n p op : Nat} {c hi : Int32} (h : f p = c) (hc : isL c) (hl : lim c = hi) : itm f n p op = if rdOK f n (sk f n (p + 1)) 0 hi then (if btA f n (nx f n (sk f n (p + 1))) = 59 then .inl (c, vl f (sk f n (p + 1)) (dg f n (sk f n (p + 1))), sk f n (nx f n (sk f n (p + 1)) + 1)) else .inr (nx f n (sk f n (p + 1)))) else .inr (sk f n (p + 1)) := by
  unfold itm
  rw [h, if_pos hc, hl]
theorem itm_lp {f : Nat → Int32} {n p op : Nat} (h : f p = 120) : itm f n p op = if rdOK f n (sk f n (p + 1)) 1 9 then (if op < 4 ∧ btA f n (nx f n (sk f n (p + 1))) = 123 then .inl (120, vl f (sk f n (p + 1)) (dg f n (sk f n (p + 1))), sk f n (nx f n (sk f n (p + 1)) + 1)) else .inr (nx f n (sk f n (p + 1)))) else .inr (sk f n (p + 1)) := by
  unfold itm
  rw [h, if_neg (by decide), if_pos rfl]
theorem tk_isS {f : Nat → Int32} {n q : Nat} {tk va pb : Int32} (h : TK f n q tk va pb) (hq : q < n) (hs : isS (f q)) : tk = 1 := by
  rcases h with ⟨h1, -⟩ | ⟨-, -, -, h4, -⟩ | ⟨-, h5, -⟩
  · omega
  · rw [h4, if_pos hs]
  · exact absurd hs (G_S h5)
theorem inl_a {α β : Type} {a : α} {b : β} {P : Prop} (h : (Sum.inl a : α ⊕ β) = Sum.inr b) : P := by cases h
theorem inr_a {α β : Type} {a : α} {b : β} {P : Prop} (h : (Sum.inr b : α ⊕ β) = Sum.inl a) : P := by cases h
