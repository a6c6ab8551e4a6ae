/-! ===== programs: items, and the row of the steps ===== -/
abbrev PIt : Type := Int32 × Int32
/-- a row of items in whose braces q are open around it, and the steps that it does; k bounds its length -/
def bal : Nat → Nat → List PIt → List PIt → Prop
  | 0, _, l, u => l = [] ∧ u = []
  | k + 1, q, l, u => (l = [] ∧ u = []) ∨ (∃ (a : PIt) (l' u' : List PIt), l = a :: l' ∧ u = a :: u' ∧ ¬ a.1 = 120 ∧ ¬ a.1 = 125 ∧ bal k q l' u') ∨ (∃ (d : Nat) (c : Int32) (l1 l2 u1 u2 : List PIt), l = (120, nI d) :: (l1 ++ (125, c) :: l2) ∧ (1 ≤ d ∧ d ≤ 9) ∧ q < 4 ∧ bal k (q + 1) l1 u1 ∧ bal k q l2 u2 ∧ u = (List.replicate d u1).flatten ++ u2)
/-- the items close what is open, op braces -/
def clo : List PIt → Nat → Prop
  | [], op => op = 0
  | a :: l, op => if a.1 = 120 then op < 4 ∧ clo l (op + 1) else if a.1 = 125 then 0 < op ∧ clo l (op - 1) else clo l op
def IV (a : PIt) : Prop := (a.1 = 120 ∧ ∃ d : Nat, a.2 = nI d ∧ 1 ≤ d ∧ d ≤ 9) ∨ a.1 = 125 ∨ (¬ a.1 = 120 ∧ ¬ a.1 = 125 ∧ stepV a.1 a.2)
theorem rd_st {f : Nat → Int32} {n p : Nat} {hi : Int32} (h : rdOK f n p 0 hi) (hh : hi = 63) : ∃ a : Nat, a < 64 ∧ vl f p (dg f n p) = nI a := by
  obtain ⟨-, h1, h2⟩ := h
  subst hh
  obtain ⟨y, hy, e⟩ := nI_rng 63 (by decide) h1 h2
  exact ⟨y, by omega, e⟩
theorem itm_IV {f : Nat → Int32} {n p op p2 : Nat} {kd x : Int32} (hi : itm f n p op = .inl (kd, x, p2)) : IV (kd, x) := by
  rcases itm_kd hi with ⟨h, e⟩ | ⟨h, e⟩ | ⟨h, e⟩
  · obtain ⟨r1, -, -, r4, -⟩ := itm_L h hi
    refine Or.inr (Or.inr ⟨?_, ?_, ?_⟩)
    · show ¬ kd = 120
      rw [e]; rcases h with h | h | h | h <;> rw [h] <;> decide
    · show ¬ kd = 125
      rw [e]; rcases h with h | h | h | h <;> rw [h] <;> decide
    · show stepV kd x
      rw [e, r4]
      rcases h with h | h | h | h
      · rw [h] at r1 ⊢
        exact Or.inr ⟨Or.inl rfl, rd_st r1 rfl⟩
      · rw [h] at r1 ⊢
        exact Or.inr ⟨Or.inr (Or.inr rfl), rd_st r1 rfl⟩
      · rw [h] at r1 ⊢
        exact Or.inr ⟨Or.inr (Or.inl rfl), rd_st r1 rfl⟩
      · rw [h]; exact Or.inl rfl
  · obtain ⟨r1, -, -, r4, -⟩ := itm_x h hi
    refine Or.inl ⟨e, ?_⟩
    obtain ⟨d, a, b, c⟩ := n_between r1.2.1 r1.2.2
    exact ⟨d, r4.trans a, b, c⟩
  · exact Or.inr (Or.inl e)
theorem prs_clo {f : Nat → Int32} {n : Nat} (hn : n ≤ 300) : ∀ k p op, p ≤ n → (prs f n k p op).2 = -1 → clo (prs f n k p op).1 op ∧ ∀ a ∈ (prs f n k p op).1, IV a := by
  intro k
  induction k with
  | zero =>
    intro p op hp h
    have h : (if 0 < op then nI p else -1) = -1 := h
    by_cases c : 0 < op
    · rw [if_pos c] at h; exact absurd h (nI_m1 (by omega))
    · exact ⟨by show op = 0; omega, fun a ha => absurd ha (List.not_mem_nil)⟩
  | succ k ih =>
    intro p op hp h
    unfold prs at h ⊢
    by_cases c : p < n
    · rw [if_pos c] at h ⊢
      cases hi : itm f n p op with
      | inr e =>
        rw [hi] at h
        exact absurd h (nI_m1 (by have := itm_er c hi; omega))
      | inl z =>
        obtain ⟨kd, x, p2⟩ := z
        rw [hi] at h
        have hlt := itm_lt c hi
        obtain ⟨i1, i2⟩ := ih p2 (opn op kd) hlt.2 h
        refine ⟨?_, fun a ha => ?_⟩
        · show (if kd = 120 then op < 4 ∧ clo (prs f n k p2 (opn op kd)).1 (op + 1) else if kd = 125 then 0 < op ∧ clo (prs f n k p2 (opn op kd)).1 (op - 1) else clo (prs f n k p2 (opn op kd)).1 op)
          by_cases h1 : kd = 120
          · subst h1; rw [if_pos rfl]
            rw [opn_120] at i1 ⊢
            exact ⟨itm_op hi, i1⟩
          · rw [if_neg h1]
            by_cases h2 : kd = 125
            · subst h2; rw [if_pos rfl]
              rw [opn_125] at i1 ⊢
              exact ⟨(itm_125 hi).2, i1⟩
            · rw [if_neg h2]
              rw [opn_o h1 h2] at i1 ⊢
              exact i1
        · rcases List.mem_cons.mp ha with e | e
          · rw [e]; exact itm_IV hi
          · exact i2 a e
    · rw [if_neg c] at h ⊢
      by_cases c2 : 0 < op
      · rw [if_pos c2] at h; exact absurd h (nI_m1 (by omega))
      · exact ⟨by show op = 0; omega, fun a ha => absurd ha (List.not_mem_nil)⟩
theorem bal_ex : ∀ (len : Nat) (l : List PIt), l.length ≤ len → (∀ a ∈ l, IV a) → ∀ op, clo l op → (op = 0 → ∃ u, bal len 0 l u) ∧ (0 < op → ∃ (l1 : List PIt) (c : Int32) (l2 u1 : List PIt), l = l1 ++ (125, c) :: l2 ∧ bal len op l1 u1 ∧ clo l2 (op - 1)) := by
  intro len
  induction len with
  | zero =>
    intro l hl _ op hc
    have : l = [] := List.eq_nil_of_length_eq_zero (by omega)
    subst this
    have hc : op = 0 := hc
    exact ⟨fun _ => ⟨[], rfl, rfl⟩, fun h => by omega⟩
  | succ len ih =>
    intro l hl hv op hc
    cases l with
    | nil =>
      have hc : op = 0 := hc
      exact ⟨fun _ => ⟨[], Or.inl ⟨rfl, rfl⟩⟩, fun h => by omega⟩
    | cons a l' =>
      have hl' : l'.length ≤ len := by simp at hl; omega
      have hv' : ∀ b ∈ l', IV b := fun b hb => hv b (List.mem_cons_of_mem _ hb)
      have hc : (if a.1 = 120 then op < 4 ∧ clo l' (op + 1) else if a.1 = 125 then 0 < op ∧ clo l' (op - 1) else clo l' op) := hc
      by_cases h1 : a.1 = 120
      · rw [if_pos h1] at hc
        obtain ⟨-, hB⟩ := ih l' hl' hv' (op + 1) hc.2
        obtain ⟨l1, c, l2, u1, e, b1, c2⟩ := hB (by omega)
        have c2 : clo l2 op := c2
        have hle : l2.length ≤ len := by rw [e] at hl'; simp at hl'; omega
        have hv2 : ∀ b ∈ l2, IV b := fun b hb => hv' b (by rw [e]; exact List.mem_append_right _ (List.mem_cons_of_mem _ hb))
        obtain ⟨d, hd, d1⟩ : ∃ d : Nat, a.2 = nI d ∧ 1 ≤ d ∧ d ≤ 9 := by
          rcases hv a (List.mem_cons_self) with ⟨-, h⟩ | h | ⟨h, -⟩
          · exact h
          · rw [h1] at h; exact absurd h (by decide)
          · exact absurd h1 h
        have ea : a = (120, nI d) := by rw [← h1, ← hd]
        obtain ⟨hA2, hB2⟩ := ih l2 hle hv2 op c2
        refine ⟨fun h0 => ?_, fun h0 => ?_⟩
        · obtain ⟨u2, b2⟩ := hA2 h0
          subst h0
          exact ⟨_, Or.inr (Or.inr ⟨d, c, l1, l2, u1, u2, by rw [ea, e], d1, by omega, b1, b2, rfl⟩)⟩
        · obtain ⟨l3, c3, l4, u3, e3, b3, c4⟩ := hB2 h0
          refine ⟨(120, nI d) :: (l1 ++ (125, c) :: l3), c3, l4, _, ?_, Or.inr (Or.inr ⟨d, c, l1, l3, u1, u3, rfl, d1, hc.1, b1, b3, rfl⟩), c4⟩
          rw [ea, e, e3]
          simp
      · rw [if_neg h1] at hc
        by_cases h2 : a.1 = 125
        · rw [if_pos h2] at hc
          refine ⟨fun h0 => by omega, fun _ => ⟨[], a.2, l', [], ?_, Or.inl ⟨rfl, rfl⟩, hc.2⟩⟩
          rw [← h2]; rfl
        · rw [if_neg h2] at hc
          obtain ⟨hA, hB⟩ := ih l' hl' hv' op hc
          refine ⟨fun h0 => ?_, fun h0 => ?_⟩
          · obtain ⟨u, b⟩ := hA h0
            exact ⟨a :: u, Or.inr (Or.inl ⟨a, l', u, rfl, rfl, h1, h2, b⟩)⟩
          · obtain ⟨l1, c, l2, u1, e, b, c2⟩ := hB h0
            exact ⟨a :: l1, c, l2, a :: u1, by rw [e]; rfl, Or.inr (Or.inl ⟨a, l1, u1, rfl, rfl, h1, h2, b⟩), c2⟩
theorem bal_V : ∀ (k q : Nat) (l u : List PIt), bal k q l u → (∀ a ∈ l, IV a) → ∀ a ∈ u, stepV a.1 a.2 := by
  intro k
  induction k with
  | zero => intro q l u h _ a ha; rw [h.2] at ha; exact absurd ha List.not_mem_nil
  | succ k ih =>
    intro q l u h hv a ha
    rcases h with ⟨-, rfl⟩ | ⟨b, l', u', rfl, rfl, h1, h2, h3⟩ | ⟨d, c, l1, l2, u1, u2, rfl, -, -, h3, h4, rfl⟩
    · exact absurd ha List.not_mem_nil
    · rcases List.mem_cons.mp ha with e | e
      · rcases hv b List.mem_cons_self with ⟨h, -⟩ | h | ⟨-, -, h⟩
        · exact absurd h h1
        · exact absurd h h2
        · rw [e]; exact h
      · exact ih q l' u' h3 (fun x hx => hv x (List.mem_cons_of_mem _ hx)) a e
    · rcases List.mem_append.mp ha with e | e
      · obtain ⟨w, hw, hw2⟩ := List.mem_flatten.mp e
        have := (List.mem_replicate.mp hw).2
        subst this
        exact ih (q + 1) l1 w h3 (fun x hx => hv x (List.mem_cons_of_mem _ (List.mem_append_left _ hx))) a hw2
      · exact ih q l2 u2 h4 (fun x hx => hv x (List.mem_cons_of_mem _ (List.mem_append_right _ (List.mem_cons_of_mem _ hx)))) a e
/-- the steps u behind those of P, as far as there is room -/
def ap (P P' : PS) (u : List PIt) : Prop := P'.1 = min 200 (P.1 + u.length) ∧ (∀ j, j < P.1 → P'.2.1 j = P.2.1 j ∧ P'.2.2.1 j = P.2.2.1 j) ∧ (∀ (i : Nat) (a : PIt), u[i]? = some a → P.1 + i < 200 → P'.2.1 (P.1 + i) = a.1 ∧ P'.2.2.1 (P.1 + i) = a.2) ∧ P'.2.2.2.2.2 = P.2.2.2.2.2 ∧ ∀ j, j < P.2.2.2.2.2 → P'.2.2.2.1 j = P.2.2.2.1 j ∧ P'.2.2.2.2.1 j = P.2.2.2.2.1 j
theorem ap_nil {P : PS} (h : P.1 ≤ 200) : ap P P [] := ⟨by simp; omega, fun _ _ => ⟨rfl, rfl⟩, fun i a h => by simp at h, rfl, fun _ _ => ⟨rfl, rfl⟩⟩
theorem ap_trans {P P1 P2 : PS} {ua ub : List PIt} (h : P.1 ≤ 200) (a : ap P P1 ua) (b : ap P1 P2 ub) : ap P P2 (ua ++ ub) := by
  obtain ⟨a1, a2, a3, a4, a5⟩ := a
  obtain ⟨b1, b2, b3, b4, b5⟩ := b
  refine ⟨by rw [b1, a1, List.length_append]; omega, fun j hj => ?_, fun i x hx hi => ?_, b4.trans a4, fun j hj => ?_⟩
  · have hb := b2 j (by omega)
    have ha := a2 j hj
    exact ⟨hb.1.trans ha.1, hb.2.trans ha.2⟩
  · by_cases c : i < ua.length
    · rw [List.getElem?_append_left c] at hx
      have ha := a3 i x hx hi
      have hb := b2 (P.1 + i) (by omega)
      exact ⟨hb.1.trans ha.1, hb.2.trans ha.2⟩
    · rw [List.getElem?_append_right (by omega)] at hx
      have hb := b3 (i - ua.length) x hx (by omega)
      rw [show P1.1 + (i - ua.length) = P.1 + i by omega] at hb
      exact hb
  · have hb := b5 j (by omega)
    have ha := a5 j hj
    exact ⟨hb.1.trans ha.1, hb.2.trans ha.2⟩
theorem ap_step {P : PS} {a : PIt} (h : P.1 ≤ 200) (h1 : ¬ a.1 = 120) (h2 : ¬ a.1 = 125) : ap P (pst P a) [a] := by
  have e : pst P a = (adN P.1, adF P.2.1 P.1 a.1, adF P.2.2.1 P.1 a.2, P.2.2.2.1, P.2.2.2.2.1, P.2.2.2.2.2) := by
    unfold pst; rw [if_neg h1, if_neg h2]
  rw [e]
  refine ⟨?_, fun j hj => ?_, fun i x hx hi => ?_, rfl, fun _ _ => ⟨rfl, rfl⟩⟩
  · show adN P.1 = min 200 (P.1 + 1)
    unfold adN; split <;> omega
  · show adF P.2.1 P.1 a.1 j = P.2.1 j ∧ adF P.2.2.1 P.1 a.2 j = P.2.2.1 j
    unfold adF
    split
    · exact ⟨upd_o (by omega), upd_o (by omega)⟩
    · exact ⟨rfl, rfl⟩
  · have hl : i < 1 := (List.getElem?_eq_some_iff.mp hx).1
    have hi0 : i = 0 := by omega
    subst hi0
    have hx : a = x := Option.some.inj hx
    subst hx
    show adF P.2.1 P.1 a.1 P.1 = a.1 ∧ adF P.2.2.1 P.1 a.2 P.1 = a.2
    unfold adF
    rw [if_pos (by omega), if_pos (by omega)]
    exact ⟨upd_s, upd_s⟩
theorem fl_len {u : List PIt} : ∀ d, (List.replicate d u).flatten.length = d * u.length
  | 0 => by simp
  | d + 1 => by
    rw [List.replicate_succ, List.flatten_cons, List.length_append, fl_len d, Nat.succ_mul]; omega
theorem fl_get {u : List PIt} {a : PIt} : ∀ d i, (List.replicate d u).flatten[i]? = some a → u[i % u.length]? = some a
  | 0, i, h => by simp at h
  | d + 1, i, h => by
    rw [List.replicate_succ, List.flatten_cons] at h
    by_cases c : i < u.length
    · rw [List.getElem?_append_left c] at h
      rw [Nat.mod_eq_of_lt c]; exact h
    · rw [List.getElem?_append_right (by omega)] at h
      rw [Nat.mod_eq_sub_mod (by omega)]
      exact fl_get d _ h
theorem clampN {s : Nat} (h : s < 2 ^ 31) : (nI s).toNatClampNeg = s := by
  show (nI s).toInt.toNat = s
  rw [nI_toInt h]; rfl
theorem ap_loop {P P1 : PS} {d : Nat} {c : Int32} {u1 : List PIt} (h : P.1 ≤ 200) (hd : 1 ≤ d ∧ d ≤ 9) (a : ap (pst P (120, nI d)) P1 u1) : ap P (pst P1 (125, c)) (List.replicate d u1).flatten := by
  have ea : pst P (120, nI d) = (P.1, P.2.1, P.2.2.1, upd P.2.2.2.1 P.2.2.2.2.2 (nI P.1), upd P.2.2.2.2.1 P.2.2.2.2.2 (nI d), P.2.2.2.2.2 + 1) := by
    unfold pst; rw [if_pos rfl]
  rw [ea] at a
  obtain ⟨a1, a2, a3, a4, a5⟩ := a
  have a1 : P1.1 = min 200 (P.1 + u1.length) := a1
  have a4 : P1.2.2.2.2.2 = P.2.2.2.2.2 + 1 := a4
  obtain ⟨s5, t5⟩ := a5 P.2.2.2.2.2 (Nat.lt_succ_self _)
  have s5 : P1.2.2.2.1 P.2.2.2.2.2 = nI P.1 := s5.trans upd_s
  have t5 : P1.2.2.2.2.1 P.2.2.2.2.2 = nI d := t5.trans upd_s
  have eo : P1.2.2.2.2.2 - 1 = P.2.2.2.2.2 := by omega
  have e : pst P1 (125, c) = (rpN P.1 P1.1 d, rpF P1.2.1 P.1 P1.1 (rpN P.1 P1.1 d), rpF P1.2.2.1 P.1 P1.1 (rpN P.1 P1.1 d), P1.2.2.2.1, P1.2.2.2.2.1, P.2.2.2.2.2) := by
    unfold pst
    rw [if_neg (by show ¬ (125 : Int32) = 120; decide), if_pos rfl, eo, s5, t5, clampN (by omega), clampN (by omega)]
  rw [e]
  have hmul : (d - 1) * u1.length + u1.length = d * u1.length := by
    have := Nat.succ_mul (d - 1) u1.length
    rw [show (d - 1).succ = d by omega] at this
    omega
  have hN : rpN P.1 P1.1 d = min 200 (P.1 + d * u1.length) := by
    unfold rpN
    rw [a1]
    by_cases hc : P.1 + u1.length ≤ 200
    · rw [show min 200 (P.1 + u1.length) = P.1 + u1.length by omega, show P.1 + u1.length - P.1 = u1.length by omega]
      congr 1
      omega
    · rw [show min 200 (P.1 + u1.length) = 200 by omega]
      generalize (d - 1) * (200 - P.1) = g
      generalize (d - 1) * u1.length = g2 at hmul
      omega
  refine ⟨by rw [fl_len]; exact hN, fun j hj => ?_, fun i x hx hi => ?_, rfl, fun j hj => ?_⟩
  · have h2 := a2 j hj
    have hle : P.1 ≤ P1.1 := by omega
    show rpF P1.2.1 P.1 P1.1 _ j = _ ∧ rpF P1.2.2.1 P.1 P1.1 _ j = _
    unfold rpF
    rw [if_neg (by omega), if_neg (by omega)]
    exact h2
  · have hlen : i < d * u1.length := by
      have := (List.getElem?_eq_some_iff.mp hx).1
      rw [fl_len] at this; exact this
    have hg := fl_get d i hx
    have hg2 : i % u1.length < u1.length := (List.getElem?_eq_some_iff.mp hg).1
    show rpF P1.2.1 P.1 P1.1 (rpN P.1 P1.1 d) (P.1 + i) = _ ∧ rpF P1.2.2.1 P.1 P1.1 (rpN P.1 P1.1 d) (P.1 + i) = _
    unfold rpF
    by_cases hc : P1.1 ≤ P.1 + i
    · have he : P1.1 = P.1 + u1.length := by omega
      have hz : P1.1 ≤ P.1 + i ∧ P.1 + i < rpN P.1 P1.1 d := ⟨hc, by rw [hN]; omega⟩
      rw [if_pos hz, if_pos hz]
      have hm : (P.1 + i - P1.1) % (P1.1 - P.1) = i % u1.length := by
        rw [he, show P.1 + i - (P.1 + u1.length) = i - u1.length by omega, show P.1 + u1.length - P.1 = u1.length by omega]
        exact (Nat.mod_eq_sub_mod (by omega)).symm
      rw [hm]
      exact a3 _ x hg (by show P.1 + i % u1.length < 200; omega)
    · have hi2 : i < u1.length := by omega
      rw [Nat.mod_eq_of_lt hi2] at hg
      rw [if_neg (fun q => hc q.1), if_neg (fun q => hc q.1)]
      exact a3 i x hg hi
  · have h5 := a5 j (by show j < P.2.2.2.2.2 + 1; omega)
    exact ⟨h5.1.trans (upd_o (by omega)), h5.2.trans (upd_o (by omega))⟩
theorem ap_bal : ∀ (k q : Nat) (l u : List PIt), bal k q l u → ∀ P : PS, P.1 ≤ 200 → ap P (l.foldl pst P) u := by
  intro k
  induction k with
  | zero => intro q l u h P hP; rw [h.1, h.2]; exact ap_nil hP
  | succ k ih =>
    intro q l u h P hP
    rcases h with ⟨rfl, rfl⟩ | ⟨b, l', u', rfl, rfl, h1, h2, h3⟩ | ⟨d, c, l1, l2, u1, u2, rfl, hd, -, h3, h4, rfl⟩
    · exact ap_nil hP
    · have s1 := ap_step (a := b) hP h1 h2
      have s2 := ih q l' u' h3 (pst P b) (by have := s1.1; omega)
      exact ap_trans (ua := [b]) hP s1 s2
    · rw [List.foldl_cons, List.foldl_append, List.foldl_cons]
      have hP0 : (pst P (120, nI d)).1 ≤ 200 := by
        have e0 : (pst P (120, nI d)).1 = P.1 := by unfold pst; rw [if_pos rfl]
        rw [e0]; exact hP
      have s1 := ih (q + 1) l1 u1 h3 (pst P (120, nI d)) hP0
      have s2 := ap_loop (c := c) hP hd s1
      have s3 := ih q l2 u2 h4 (pst (l1.foldl pst (pst P (120, nI d))) (125, c)) (by have := s2.1; omega)
      exact ap_trans hP s2 s3
