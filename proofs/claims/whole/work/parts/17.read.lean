-- ---- the items of a text
abbrev PS : Type := Nat × (Nat → Int32) × (Nat → Int32) × (Nat → Int32) × (Nat → Int32) × Nat
abbrev isL (c : Int32) : Prop := c = 108 ∨ c = 115 ∨ c = 97 ∨ c = 99
def lim (c : Int32) : Int32 := if c = 99 then 999 else 63
/-- behind the number at p -/
abbrev nx (f : Nat → Int32) (n p : Nat) : Nat := sk f n (p + dg f n p)
/-- the item that begins at p, where it fits: kind, number, the next token's place; else the error's place -/
def itm (f : Nat → Int32) (n p op : Nat) : (Int32 × Int32 × Nat) ⊕ Nat :=
  if isL (f p) then
    if rdOK f n (sk f n (p + 1)) 0 (lim (f p)) then
      if btA f n (nx f n (sk f n (p + 1))) = 59 then .inl (f p, vl f (sk f n (p + 1)) (dg f n (sk f n (p + 1))), sk f n (nx f n (sk f n (p + 1)) + 1)) else .inr (nx f n (sk f n (p + 1)))
    else .inr (sk f n (p + 1))
  else if f p = 120 then
    if rdOK f n (sk f n (p + 1)) 1 9 then
      if op < 4 ∧ btA f n (nx f n (sk f n (p + 1))) = 123 then .inl (120, vl f (sk f n (p + 1)) (dg f n (sk f n (p + 1))), sk f n (nx f n (sk f n (p + 1)) + 1)) else .inr (nx f n (sk f n (p + 1)))
    else .inr (sk f n (p + 1))
  else if f p = 125 then
    if 0 < op then .inl (125, 0, sk f n (p + 1)) else .inr p
  else .inr p
/-- how many braces are open behind an item -/
def opn (op : Nat) (kd : Int32) : Nat := if kd = 120 then op + 1 else if kd = 125 then op - 1 else op
/-- the items from p on, and the error's place, -1 without one -/
def prs (f : Nat → Int32) (n : Nat) : Nat → Nat → Nat → List (Int32 × Int32) × Int32
  | 0, p, op => ([], if 0 < op then nI p else -1)
  | k + 1, p, op => if p < n then (match itm f n p op with
      | .inr e => ([], nI e)
      | .inl (kd, x, p2) => ((kd, x) :: (prs f n k p2 (opn op kd)).1, (prs f n k p2 (opn op kd)).2)) else ([], if 0 < op then nI p else -1)
/-- what an item does to the row of steps -/
def pst (P : PS) (it : Int32 × Int32) : PS :=
  if it.1 = 120 then (P.1, P.2.1, P.2.2.1, upd P.2.2.2.1 P.2.2.2.2.2 (nI P.1), upd P.2.2.2.2.1 P.2.2.2.2.2 it.2, P.2.2.2.2.2 + 1)
  else if it.1 = 125 then
    (rpN (P.2.2.2.1 (P.2.2.2.2.2 - 1)).toNatClampNeg P.1 (P.2.2.2.2.1 (P.2.2.2.2.2 - 1)).toNatClampNeg,
     rpF P.2.1 (P.2.2.2.1 (P.2.2.2.2.2 - 1)).toNatClampNeg P.1 (rpN (P.2.2.2.1 (P.2.2.2.2.2 - 1)).toNatClampNeg P.1 (P.2.2.2.2.1 (P.2.2.2.2.2 - 1)).toNatClampNeg),
     rpF P.2.2.1 (P.2.2.2.1 (P.2.2.2.2.2 - 1)).toNatClampNeg P.1 (rpN (P.2.2.2.1 (P.2.2.2.2.2 - 1)).toNatClampNeg P.1 (P.2.2.2.2.1 (P.2.2.2.2.2 - 1)).toNatClampNeg),
     P.2.2.2.1, P.2.2.2.2.1, P.2.2.2.2.2 - 1)
  else (adN P.1, adF P.2.1 P.1 it.1, adF P.2.2.1 P.1 it.2, P.2.2.2.1, P.2.2.2.2.1, P.2.2.2.2.2)
/-- what holds of the row of steps -/
def PI (P : PS) : Prop := P.1 ≤ 200 ∧ P.2.2.2.2.2 ≤ 4 ∧ ∀ i, i < P.2.2.2.2.2 → ∃ s d : Nat, P.2.2.2.1 i = nI s ∧ s ≤ P.1 ∧ P.2.2.2.2.1 i = nI d ∧ 1 ≤ d ∧ d ≤ 9
theorem itm_L {f : Nat → Int32} {n p op p2 : Nat} {kd x : Int32} (hc : isL (f p)) (hi : itm f n p op = .inl (kd, x, p2)) : rdOK f n (sk f n (p + 1)) 0 (lim (f p)) ∧ btA f n (nx f n (sk f n (p + 1))) = 59 ∧ kd = f p ∧ x = vl f (sk f n (p + 1)) (dg f n (sk f n (p + 1))) ∧ p2 = sk f n (nx f n (sk f n (p + 1)) + 1) := by
  unfold itm at hi
  rw [if_pos hc] at hi
  by_cases h1 : rdOK f n (sk f n (p + 1)) 0 (lim (f p))
  · rw [if_pos h1] at hi
    by_cases h2 : btA f n (nx f n (sk f n (p + 1))) = 59
    · rw [if_pos h2] at hi
      have h3 := Sum.inl.inj hi
      exact ⟨h1, h2, (congrArg (·.1) h3).symm, (congrArg (·.2.1) h3).symm, (congrArg (·.2.2) h3).symm⟩
    · rw [if_neg h2] at hi; cases hi
  · rw [if_neg h1] at hi; cases hi
theorem itm_x {f : Nat → Int32} {n p op p2 : Nat} {kd x : Int32} (hc : f p = 120) (hi : itm f n p op = .inl (kd, x, p2)) : rdOK f n (sk f n (p + 1)) 1 9 ∧ (op < 4 ∧ btA f n (nx f n (sk f n (p + 1))) = 123) ∧ kd = 120 ∧ x = vl f (sk f n (p + 1)) (dg f n (sk f n (p + 1))) ∧ p2 = sk f n (nx f n (sk f n (p + 1)) + 1) := by
  unfold itm at hi
  rw [if_neg (by rw [hc]; decide), if_pos hc] at hi
  by_cases h1 : rdOK f n (sk f n (p + 1)) 1 9
  · rw [if_pos h1] at hi
    by_cases h2 : op < 4 ∧ btA f n (nx f n (sk f n (p + 1))) = 123
    · rw [if_pos h2] at hi
      have h3 := Sum.inl.inj hi
      exact ⟨h1, h2, (congrArg (·.1) h3).symm, (congrArg (·.2.1) h3).symm, (congrArg (·.2.2) h3).symm⟩
    · rw [if_neg h2] at hi; cases hi
  · rw [if_neg h1] at hi; cases hi
theorem itm_e {f : Nat → Int32} {n p op p2 : Nat} {kd x : Int32} (hc : f p = 125) (hi : itm f n p op = .inl (kd, x, p2)) : 0 < op ∧ kd = 125 ∧ x = 0 ∧ p2 = sk f n (p + 1) := by
  unfold itm at hi
  rw [if_neg (by rw [hc]; decide), if_neg (by rw [hc]; decide), if_pos hc] at hi
  by_cases h1 : 0 < op
  · rw [if_pos h1] at hi
    have h3 := Sum.inl.inj hi
    exact ⟨h1, (congrArg (·.1) h3).symm, (congrArg (·.2.1) h3).symm, (congrArg (·.2.2) h3).symm⟩
  · rw [if_neg h1] at hi; cases hi
theorem itm_o {f : Nat → Int32} {n p op : Nat} (h1 : ¬ isL (f p)) (h2 : ¬ f p = 120) (h3 : ¬ f p = 125) : itm f n p op = .inr p := by
  unfold itm
  rw [if_neg h1, if_neg h2, if_neg h3]
theorem itm_kd {f : Nat → Int32} {n p op p2 : Nat} {kd x : Int32} (hi : itm f n p op = .inl (kd, x, p2)) : (isL (f p) ∧ kd = f p) ∨ (f p = 120 ∧ kd = 120) ∨ (f p = 125 ∧ kd = 125) := by
  by_cases h1 : isL (f p)
  · exact Or.inl ⟨h1, (itm_L h1 hi).2.2.1⟩
  · by_cases h2 : f p = 120
    · exact Or.inr (Or.inl ⟨h2, (itm_x h2 hi).2.2.1⟩)
    · by_cases h3 : f p = 125
      · exact Or.inr (Or.inr ⟨h3, (itm_e h3 hi).2.1⟩)
      · rw [itm_o h1 h2 h3] at hi; cases hi
theorem itm_lt {f : Nat → Int32} {n p op p2 : Nat} {kd x : Int32} (hp : p < n) (hi : itm f n p op = .inl (kd, x, p2)) : p < p2 ∧ p2 ≤ n := by
  have g1 := sk_ge f n (p + 1)
  have g2 : sk f n (p + 1) ≤ n := sk_le (by omega)
  have g3 := dg_le (f := f) g2
  have g4 : sk f n (p + 1) + dg f n (sk f n (p + 1)) ≤ nx f n (sk f n (p + 1)) := sk_ge f n (sk f n (p + 1) + dg f n (sk f n (p + 1)))
  have g5 : nx f n (sk f n (p + 1)) ≤ n := sk_le g3
  have key : ∀ {y : Int32}, ¬ y = -1 → btA f n (nx f n (sk f n (p + 1))) = y → nx f n (sk f n (p + 1)) < n := fun hy h => by
    rcases Nat.lt_or_ge (nx f n (sk f n (p + 1))) n with q | q
    · exact q
    · rw [btA, if_neg (by omega)] at h
      exact absurd h.symm hy
  by_cases h1 : isL (f p)
  · obtain ⟨-, h, -, -, rfl⟩ := itm_L h1 hi
    have := key (by decide) h
    have := sk_ge f n (nx f n (sk f n (p + 1)) + 1)
    exact ⟨by omega, sk_le (by omega)⟩
  · by_cases h2 : f p = 120
    · obtain ⟨-, h, -, -, rfl⟩ := itm_x h2 hi
      have := key (by decide) h.2
      have := sk_ge f n (nx f n (sk f n (p + 1)) + 1)
      exact ⟨by omega, sk_le (by omega)⟩
    · by_cases h3 : f p = 125
      · obtain ⟨-, -, -, rfl⟩ := itm_e h3 hi
        exact ⟨by omega, g2⟩
      · rw [itm_o h1 h2 h3] at hi; cases hi
theorem n_between {x : Int32} (h1 : ¬ x < 1) (h2 : ¬ 9 < x) : ∃ d : Nat, x = nI d ∧ 1 ≤ d ∧ d ≤ 9 := by
  obtain ⟨j, hj, e⟩ := nI_of2 (x := x) (M := 9) (n := 9) rfl (fun h => h1 (Int32.lt_of_lt_of_le h (by decide))) (Int32.not_lt.mp h2)
  refine ⟨j, e, ?_, hj⟩
  rcases Nat.lt_or_ge 0 j with q | q
  · exact q
  · exact absurd (show x < 1 by rw [e, show j = 0 by omega]; decide) h1
theorem PI_st {f : Nat → Int32} {n p p2 : Nat} {P : PS} {kd x : Int32} (hP : PI P) (hi : itm f n p P.2.2.2.2.2 = .inl (kd, x, p2)) : PI (pst P (kd, x)) ∧ (pst P (kd, x)).2.2.2.2.2 = opn P.2.2.2.2.2 kd := by
  obtain ⟨a1, a2, a3⟩ := hP
  rcases itm_kd hi with ⟨h, hk⟩ | ⟨h, hk⟩ | ⟨h, hk⟩
  · have e1 : ¬ kd = 120 := by rw [hk]; rcases h with h | h | h | h <;> (rw [h]; decide)
    have e2 : ¬ kd = 125 := by rw [hk]; rcases h with h | h | h | h <;> (rw [h]; decide)
    have hs : pst P (kd, x) = (adN P.1, adF P.2.1 P.1 kd, adF P.2.2.1 P.1 x, P.2.2.2.1, P.2.2.2.2.1, P.2.2.2.2.2) := by unfold pst; rw [if_neg e1, if_neg e2]
    have ho : opn P.2.2.2.2.2 kd = P.2.2.2.2.2 := by unfold opn; rw [if_neg e1, if_neg e2]
    rw [hs, ho]
    have hm : adN P.1 ≤ 200 ∧ P.1 ≤ adN P.1 := by unfold adN; split <;> omega
    refine ⟨⟨hm.1, a2, fun i hi => ?_⟩, rfl⟩
    obtain ⟨s, d, b1, b2, b3, b4⟩ := a3 i hi
    exact ⟨s, d, b1, Nat.le_trans b2 hm.2, b3, b4⟩
  · obtain ⟨⟨-, c1, c2⟩, ⟨c3, -⟩, -, c4, -⟩ := itm_x h hi
    rw [← c4] at c1 c2
    obtain ⟨d, hd, hd1, hd2⟩ := n_between c1 c2
    subst hk
    have hs : pst P (120, x) = (P.1, P.2.1, P.2.2.1, upd P.2.2.2.1 P.2.2.2.2.2 (nI P.1), upd P.2.2.2.2.1 P.2.2.2.2.2 x, P.2.2.2.2.2 + 1) := by unfold pst; rw [if_pos rfl]
    have ho : opn P.2.2.2.2.2 120 = P.2.2.2.2.2 + 1 := by unfold opn; rw [if_pos rfl]
    rw [hs, ho]
    refine ⟨⟨a1, by show P.2.2.2.2.2 + 1 ≤ 4; omega, fun i hi => ?_⟩, rfl⟩
    have hi : i < P.2.2.2.2.2 + 1 := hi
    by_cases e : i = P.2.2.2.2.2
    · exact ⟨P.1, d, by show (if i = P.2.2.2.2.2 then nI P.1 else _) = _; rw [if_pos e], Nat.le_refl _, by show (if i = P.2.2.2.2.2 then x else _) = _; rw [if_pos e, hd], hd1, hd2⟩
    · obtain ⟨s, d, b1, b2, b3, b4⟩ := a3 i (by omega)
      exact ⟨s, d, by show (if i = P.2.2.2.2.2 then nI P.1 else _) = _; rw [if_neg e, b1], b2, by show (if i = P.2.2.2.2.2 then x else _) = _; rw [if_neg e, b3], b4⟩
  · obtain ⟨c1, -, -, -⟩ := itm_e h hi
    obtain ⟨s0, d0, b1, b2, b3, b4⟩ := a3 (P.2.2.2.2.2 - 1) (by omega)
    subst hk
    have es : (P.2.2.2.1 (P.2.2.2.2.2 - 1)).toNatClampNeg = s0 := by rw [b1]; exact nI_clamp (by omega)
    have ed : (P.2.2.2.2.1 (P.2.2.2.2.2 - 1)).toNatClampNeg = d0 := by rw [b3]; exact nI_clamp (by omega)
    have hs : pst P (125, x) = (rpN s0 P.1 d0, rpF P.2.1 s0 P.1 (rpN s0 P.1 d0), rpF P.2.2.1 s0 P.1 (rpN s0 P.1 d0), P.2.2.2.1, P.2.2.2.2.1, P.2.2.2.2.2 - 1) := by unfold pst; rw [if_neg (show ¬ (125 : Int32) = 120 by decide), if_pos (show (125 : Int32) = 125 from rfl), es, ed]
    have ho : opn P.2.2.2.2.2 125 = P.2.2.2.2.2 - 1 := by unfold opn; rw [if_neg (by decide), if_pos rfl]
    rw [hs, ho]
    have hm : rpN s0 P.1 d0 ≤ 200 ∧ P.1 ≤ rpN s0 P.1 d0 := by
      unfold rpN
      have : P.1 ≤ P.1 + (d0 - 1) * (P.1 - s0) := Nat.le_add_right _ _
      omega
    refine ⟨⟨hm.1, by show P.2.2.2.2.2 - 1 ≤ 4; omega, fun i hi => ?_⟩, rfl⟩
    have hi : i < P.2.2.2.2.2 - 1 := hi
    obtain ⟨s, d, c1, c2, c3, c4⟩ := a3 i (by omega)
    exact ⟨s, d, c1, Nat.le_trans c2 hm.2, c3, c4⟩
theorem prs_fuel (f : Nat → Int32) (n : Nat) : ∀ (k j p op : Nat), n - p ≤ k → n - p ≤ j → prs f n k p op = prs f n j p op
  | 0, 0, _, _, _, _ => rfl
  | 0, j + 1, p, op, h, _ => by
    show ([], if 0 < op then nI p else -1) = (if p < n then _ else ([], if 0 < op then nI p else -1))
    rw [if_neg (show ¬ p < n by omega)]
  | k + 1, 0, p, op, _, h => by
    show (if p < n then _ else ([], if 0 < op then nI p else -1)) = ([], if 0 < op then nI p else -1)
    rw [if_neg (show ¬ p < n by omega)]
  | k + 1, j + 1, p, op, h1, h2 => by
    unfold prs
    by_cases hp : p < n
    · rw [if_pos hp, if_pos hp]
      cases hi : itm f n p op with
      | inr e => rfl
      | inl z =>
        obtain ⟨kd, x, p2⟩ := z
        have hlt := itm_lt hp hi
        have ih := prs_fuel f n k j p2 (opn op kd) (by omega) (by omega)
        show ((kd, x) :: (prs f n k p2 (opn op kd)).1, (prs f n k p2 (opn op kd)).2) = ((kd, x) :: (prs f n j p2 (opn op kd)).1, (prs f n j p2 (opn op kd)).2)
        rw [ih]
    · rw [if_neg hp, if_neg hp]
theorem prs_ok {f : Nat → Int32} {n p op p2 : Nat} {kd x : Int32} (hp : p < n) (hi : itm f n p op = .inl (kd, x, p2)) : prs f n (n - p) p op = ((kd, x) :: (prs f n (n - p2) p2 (opn op kd)).1, (prs f n (n - p2) p2 (opn op kd)).2) := by
  have hlt := itm_lt hp hi
  rw [show n - p = (n - p - 1) + 1 by omega]
  have e : prs f n (n - p - 1 + 1) p op = ((kd, x) :: (prs f n (n - p - 1) p2 (opn op kd)).1, (prs f n (n - p - 1) p2 (opn op kd)).2) := by
    show (if p < n then (match itm f n p op with | .inr e => ([], nI e) | .inl (kd, x, p2) => ((kd, x) :: (prs f n (n - p - 1) p2 (opn op kd)).1, (prs f n (n - p - 1) p2 (opn op kd)).2)) else _) = _
    rw [if_pos hp, hi]
  rw [e, prs_fuel f n (n - p - 1) (n - p2) p2 (opn op kd) (by omega) (by omega)]
theorem prs_no {f : Nat → Int32} {n p op e1 : Nat} (hp : p < n) (hi : itm f n p op = .inr e1) : prs f n (n - p) p op = ([], nI e1) := by
  rw [show n - p = (n - p - 1) + 1 by omega]
  show (if p < n then (match itm f n p op with | .inr e => ([], nI e) | .inl (kd, x, p2) => ((kd, x) :: (prs f n (n - p - 1) p2 (opn op kd)).1, (prs f n (n - p - 1) p2 (opn op kd)).2)) else _) = _
  rw [if_pos hp, hi]
theorem prs_end {f : Nat → Int32} {n p op : Nat} (hp : n ≤ p) : prs f n (n - p) p op = ([], if 0 < op then nI p else -1) := by
  rw [show n - p = 0 by omega]
  rfl
theorem itm_er {f : Nat → Int32} {n p op e1 : Nat} (hp : p < n) (hi : itm f n p op = .inr e1) : e1 ≤ n := by
  have g2 : sk f n (p + 1) ≤ n := sk_le (by omega)
  have g3 := dg_le (f := f) g2
  have g5 : sk f n (sk f n (p + 1) + dg f n (sk f n (p + 1))) ≤ n := sk_le g3
  unfold itm at hi
  split at hi
  · split at hi
    · split at hi
      · cases hi
      · cases hi; exact g5
    · cases hi; exact g2
  · split at hi
    · split at hi
      · split at hi
        · cases hi
        · cases hi; exact g5
      · cases hi; exact g2
    · split at hi
      · split at hi
        · cases hi
        · cases hi; omega
      · cases hi; omega
set_option maxHeartbeats 4000000 in
set_option maxRecDepth 100000 in
theorem c_X4_readPart (l : Launch) (D : va_G) (ay : Nat → ClassId) (r : Nat) (t : Nat) (q : Nat) (pos : Nat) (b : Nat) (n : Nat) (f : Nat → Int32) (le : Nat) (nu : Nat) (ls : Nat) (lt : Nat) (P : PS) (kd : Int32) (x : Int32) (p2 : Nat) (hn : n ≤ 300) (hp : pos < n) (hI : PI P) (hi : itm f n pos P.2.2.2.2.2 = .inl (kd, x, p2)) : jM l yX4_readPart (jws yX4_readPart cX4_readPart 1 (some .boolean)) 4 90 0 0 D ay [.ref r] [(r, .inr (4, [.ref t, .ref q, .int (nI pos)])), (t, .inr (6, [.ref b, .int (nI n)])), (b, .inl (ay 0, 300, .inl f)), (q, .inr (3, [.ref le, .ref nu, .int (nI P.1), .ref ls, .ref lt, .int (nI P.2.2.2.2.2)])), (le, .inl (ay 0, 200, .inl P.2.1)), (nu, .inl (ay 0, 200, .inl P.2.2.1)), (ls, .inl (ay 0, 4, .inl P.2.2.2.1)), (lt, .inl (ay 0, 4, .inl P.2.2.2.2.1))] (fun v w => v = some (.int 1) ∧ w = [(r, .inr (4, [.ref t, .ref q, .int (nI p2)])), (t, .inr (6, [.ref b, .int (nI n)])), (b, .inl (ay 0, 300, .inl f)), (q, .inr (3, [.ref le, .ref nu, .int (nI (pst P (kd, x)).1), .ref ls, .ref lt, .int (nI (pst P (kd, x)).2.2.2.2.2)])), (le, .inl (ay 0, 200, .inl ((pst P (kd, x)).2.1))), (nu, .inl (ay 0, 200, .inl ((pst P (kd, x)).2.2.1))), (ls, .inl (ay 0, 4, .inl ((pst P (kd, x)).2.2.2.1))), (lt, .inl (ay 0, 4, .inl ((pst P (kd, x)).2.2.2.2.1)))]) := by
  refine jM_of l (by decide) [(0, .ref r)] rfl rfl (fun p9 e9 s9 m9 a9 b9 me9 c9 A9 F => ?_)
  refine j_aload_n F 0 dX4_readPart_0 rfl ?_
  refine j_getf F fX4_12 0 rfl rfl dX4_readPart_1 ?_
  refine j_aload_n F 0 dX4_readPart_4 rfl ?_
  refine j_getf F fX4_25 0 rfl rfl dX4_readPart_5 ?_
  refine j_callV F kX4_47 (As := [.int (nI pos)]) (rest := []) (c_X6_byteIn l D ay t b n f pos (by first | assumption | omega) (by first | assumption | omega)) 1 [1, 2] [0, 3, 4, 5, 6, 7] [(r, .inr (4, [.ref t, .ref q, .int (nI pos)])), (q, .inr (3, [.ref le, .ref nu, .int (nI P.1), .ref ls, .ref lt, .int (nI P.2.2.2.2.2)])), (le, .inl (ay 0, 200, .inl P.2.1)), (nu, .inl (ay 0, 200, .inl P.2.2.1)), (ls, .inl (ay 0, 4, .inl P.2.2.2.1)), (lt, .inl (ay 0, 4, .inl P.2.2.2.2.1))] rfl rfl rfl rfl rfl rfl rfl ⟨Nat.le_of_ble_eq_true rfl, Nat.le_of_ble_eq_true rfl⟩ dX4_readPart_8 (fun v w hw => ?_)
  obtain ⟨rfl, rfl⟩ := hw
  refine j_perm [0, 6, 7, 1, 2, 3, 4, 5] [(r, .inr (4, [.ref t, .ref q, .int (nI pos)])), (t, .inr (6, [.ref b, .int (nI n)])), (b, .inl (ay 0, 300, .inl f)), (q, .inr (3, [.ref le, .ref nu, .int (nI P.1), .ref ls, .ref lt, .int (nI P.2.2.2.2.2)])), (le, .inl (ay 0, 200, .inl P.2.1)), (nu, .inl (ay 0, 200, .inl P.2.2.1)), (ls, .inl (ay 0, 4, .inl P.2.2.2.1)), (lt, .inl (ay 0, 4, .inl P.2.2.2.2.1))] rfl rfl ?_
  refine j_top (f pos) (if_pos hp) ?_
  have hcs : f pos = 97 ∨ f pos = 99 ∨ f pos = 108 ∨ f pos = 115 ∨ f pos = 120 ∨ f pos = 125 := by
    rcases itm_kd hi with ⟨h, -⟩ | ⟨h, -⟩ | ⟨h, -⟩
    · rcases h with h | h | h | h
      · exact Or.inr (Or.inr (Or.inl h))
      · exact Or.inr (Or.inr (Or.inr (Or.inl h)))
      · exact Or.inl h
      · exact Or.inr (Or.inl h)
    · exact Or.inr (Or.inr (Or.inr (Or.inr (Or.inl h))))
    · exact Or.inr (Or.inr (Or.inr (Or.inr (Or.inr h))))
  rcases hcs with hc | hc | hc | hc | hc | hc
  · skip
    obtain ⟨h1, h2, hk, hx, hp2⟩ := itm_L (Or.inr (Or.inr (Or.inl hc))) hi
    rw [hc, show lim 97 = 63 from rfl] at h1
    rw [hc] at hk
    subst hk hx hp2
    refine j_top 97 hc ?_
    refine j_lookup F 68 dX4_readPart_11 (by decide) (by rfl) (by decide) ?_
    refine j_aload_n F 0 dX4_readPart_68 rfl ?_
    refine j_bipush F (v := 63) dX4_readPart_69 (by decide) ?_
    refine j_callV F kX4_51 (As := [.int 63]) (rest := []) (c_X4_readStep l D ay r t q pos b n f le nu ls lt P.1 P.2.1 P.2.2.1 P.2.2.2.1 P.2.2.2.2.1 P.2.2.2.2.2 63 hn hp hI.1) 0 [0, 1, 2, 3, 4, 5, 6, 7] [] [] rfl rfl rfl rfl rfl rfl rfl ⟨Nat.le_of_ble_eq_true rfl, Nat.le_of_ble_eq_true rfl⟩ dX4_readPart_71 (fun v w hw => ?_)
    obtain ⟨rfl, rfl⟩ := hw
    refine j_perm [0, 1, 2, 3, 4, 5, 6, 7] [(r, .inr (4, [.ref t, .ref q, .int (nI (if rdOK f n (sk f n (pos + 1)) 0 63 then (if btA f n (sk f n (sk f n (pos + 1) + dg f n (sk f n (pos + 1)))) = 59 then sk f n (sk f n (sk f n (pos + 1) + dg f n (sk f n (pos + 1))) + 1) else sk f n (sk f n (pos + 1) + dg f n (sk f n (pos + 1)))) else sk f n (pos + 1)))])), (t, .inr (6, [.ref b, .int (nI n)])), (b, .inl (ay 0, 300, .inl f)), (q, .inr (3, [.ref le, .ref nu, .int (nI (if rdOK f n (sk f n (pos + 1)) 0 63 ∧ btA f n (sk f n (sk f n (pos + 1) + dg f n (sk f n (pos + 1)))) = 59 then adN P.1 else P.1)), .ref ls, .ref lt, .int (nI P.2.2.2.2.2)])), (le, .inl (ay 0, 200, .inl (if rdOK f n (sk f n (pos + 1)) 0 63 ∧ btA f n (sk f n (sk f n (pos + 1) + dg f n (sk f n (pos + 1)))) = 59 then adF P.2.1 P.1 (f pos) else P.2.1))), (nu, .inl (ay 0, 200, .inl (if rdOK f n (sk f n (pos + 1)) 0 63 ∧ btA f n (sk f n (sk f n (pos + 1) + dg f n (sk f n (pos + 1)))) = 59 then adF P.2.2.1 P.1 (vl f (sk f n (pos + 1)) (dg f n (sk f n (pos + 1)))) else P.2.2.1))), (ls, .inl (ay 0, 4, .inl P.2.2.2.1)), (lt, .inl (ay 0, 4, .inl P.2.2.2.2.1))] rfl rfl ?_
    refine j_top 1 (if_pos ⟨h1, h2⟩) ?_
    refine j_ws [(r, .inr (4, [.ref t, .ref q, .int (nI (sk f n (nx f n (sk f n (pos + 1)) + 1)))])), (t, .inr (6, [.ref b, .int (nI n)])), (b, .inl (ay 0, 300, .inl f)), (q, .inr (3, [.ref le, .ref nu, .int (nI (pst P (97, vl f (sk f n (pos + 1)) (dg f n (sk f n (pos + 1))))).1), .ref ls, .ref lt, .int (nI (pst P (97, vl f (sk f n (pos + 1)) (dg f n (sk f n (pos + 1))))).2.2.2.2.2)])), (le, .inl (ay 0, 200, .inl ((pst P (97, vl f (sk f n (pos + 1)) (dg f n (sk f n (pos + 1))))).2.1))), (nu, .inl (ay 0, 200, .inl ((pst P (97, vl f (sk f n (pos + 1)) (dg f n (sk f n (pos + 1))))).2.2.1))), (ls, .inl (ay 0, 4, .inl ((pst P (97, vl f (sk f n (pos + 1)) (dg f n (sk f n (pos + 1))))).2.2.2.1))), (lt, .inl (ay 0, 4, .inl ((pst P (97, vl f (sk f n (pos + 1)) (dg f n (sk f n (pos + 1))))).2.2.2.2.1)))] (by simp only [if_pos h1, if_pos h2, if_pos (show _ ∧ _ from And.intro h1 h2), hc]; rfl) ?_
    exact j_zret F (Or.inr rfl) ⟨rfl, rfl⟩ dX4_readPart_74 (Nat.le_of_ble_eq_true rfl) (Nat.le_of_ble_eq_true rfl)
  · skip
    obtain ⟨h1, h2, hk, hx, hp2⟩ := itm_L (Or.inr (Or.inr (Or.inr hc))) hi
    rw [hc, show lim 99 = 999 from rfl] at h1
    rw [hc] at hk
    subst hk hx hp2
    refine j_top 99 hc ?_
    refine j_lookup F 75 dX4_readPart_11 (by decide) (by rfl) (by decide) ?_
    refine j_aload_n F 0 dX4_readPart_75 rfl ?_
    refine j_sipush F (v := 999) dX4_readPart_76 (by decide) ?_
    refine j_callV F kX4_51 (As := [.int 999]) (rest := []) (c_X4_readStep l D ay r t q pos b n f le nu ls lt P.1 P.2.1 P.2.2.1 P.2.2.2.1 P.2.2.2.2.1 P.2.2.2.2.2 999 hn hp hI.1) 0 [0, 1, 2, 3, 4, 5, 6, 7] [] [] rfl rfl rfl rfl rfl rfl rfl ⟨Nat.le_of_ble_eq_true rfl, Nat.le_of_ble_eq_true rfl⟩ dX4_readPart_79 (fun v w hw => ?_)
    obtain ⟨rfl, rfl⟩ := hw
    refine j_perm [0, 1, 2, 3, 4, 5, 6, 7] [(r, .inr (4, [.ref t, .ref q, .int (nI (if rdOK f n (sk f n (pos + 1)) 0 999 then (if btA f n (sk f n (sk f n (pos + 1) + dg f n (sk f n (pos + 1)))) = 59 then sk f n (sk f n (sk f n (pos + 1) + dg f n (sk f n (pos + 1))) + 1) else sk f n (sk f n (pos + 1) + dg f n (sk f n (pos + 1)))) else sk f n (pos + 1)))])), (t, .inr (6, [.ref b, .int (nI n)])), (b, .inl (ay 0, 300, .inl f)), (q, .inr (3, [.ref le, .ref nu, .int (nI (if rdOK f n (sk f n (pos + 1)) 0 999 ∧ btA f n (sk f n (sk f n (pos + 1) + dg f n (sk f n (pos + 1)))) = 59 then adN P.1 else P.1)), .ref ls, .ref lt, .int (nI P.2.2.2.2.2)])), (le, .inl (ay 0, 200, .inl (if rdOK f n (sk f n (pos + 1)) 0 999 ∧ btA f n (sk f n (sk f n (pos + 1) + dg f n (sk f n (pos + 1)))) = 59 then adF P.2.1 P.1 (f pos) else P.2.1))), (nu, .inl (ay 0, 200, .inl (if rdOK f n (sk f n (pos + 1)) 0 999 ∧ btA f n (sk f n (sk f n (pos + 1) + dg f n (sk f n (pos + 1)))) = 59 then adF P.2.2.1 P.1 (vl f (sk f n (pos + 1)) (dg f n (sk f n (pos + 1)))) else P.2.2.1))), (ls, .inl (ay 0, 4, .inl P.2.2.2.1)), (lt, .inl (ay 0, 4, .inl P.2.2.2.2.1))] rfl rfl ?_
    refine j_top 1 (if_pos ⟨h1, h2⟩) ?_
    refine j_ws [(r, .inr (4, [.ref t, .ref q, .int (nI (sk f n (nx f n (sk f n (pos + 1)) + 1)))])), (t, .inr (6, [.ref b, .int (nI n)])), (b, .inl (ay 0, 300, .inl f)), (q, .inr (3, [.ref le, .ref nu, .int (nI (pst P (99, vl f (sk f n (pos + 1)) (dg f n (sk f n (pos + 1))))).1), .ref ls, .ref lt, .int (nI (pst P (99, vl f (sk f n (pos + 1)) (dg f n (sk f n (pos + 1))))).2.2.2.2.2)])), (le, .inl (ay 0, 200, .inl ((pst P (99, vl f (sk f n (pos + 1)) (dg f n (sk f n (pos + 1))))).2.1))), (nu, .inl (ay 0, 200, .inl ((pst P (99, vl f (sk f n (pos + 1)) (dg f n (sk f n (pos + 1))))).2.2.1))), (ls, .inl (ay 0, 4, .inl ((pst P (99, vl f (sk f n (pos + 1)) (dg f n (sk f n (pos + 1))))).2.2.2.1))), (lt, .inl (ay 0, 4, .inl ((pst P (99, vl f (sk f n (pos + 1)) (dg f n (sk f n (pos + 1))))).2.2.2.2.1)))] (by simp only [if_pos h1, if_pos h2, if_pos (show _ ∧ _ from And.intro h1 h2), hc]; rfl) ?_
    exact j_zret F (Or.inr rfl) ⟨rfl, rfl⟩ dX4_readPart_82 (Nat.le_of_ble_eq_true rfl) (Nat.le_of_ble_eq_true rfl)
  · skip
    obtain ⟨h1, h2, hk, hx, hp2⟩ := itm_L (Or.inl hc) hi
    rw [hc, show lim 108 = 63 from rfl] at h1
    rw [hc] at hk
    subst hk hx hp2
    refine j_top 108 hc ?_
    refine j_lookup F 68 dX4_readPart_11 (by decide) (by rfl) (by decide) ?_
    refine j_aload_n F 0 dX4_readPart_68 rfl ?_
    refine j_bipush F (v := 63) dX4_readPart_69 (by decide) ?_
    refine j_callV F kX4_51 (As := [.int 63]) (rest := []) (c_X4_readStep l D ay r t q pos b n f le nu ls lt P.1 P.2.1 P.2.2.1 P.2.2.2.1 P.2.2.2.2.1 P.2.2.2.2.2 63 hn hp hI.1) 0 [0, 1, 2, 3, 4, 5, 6, 7] [] [] rfl rfl rfl rfl rfl rfl rfl ⟨Nat.le_of_ble_eq_true rfl, Nat.le_of_ble_eq_true rfl⟩ dX4_readPart_71 (fun v w hw => ?_)
    obtain ⟨rfl, rfl⟩ := hw
    refine j_perm [0, 1, 2, 3, 4, 5, 6, 7] [(r, .inr (4, [.ref t, .ref q, .int (nI (if rdOK f n (sk f n (pos + 1)) 0 63 then (if btA f n (sk f n (sk f n (pos + 1) + dg f n (sk f n (pos + 1)))) = 59 then sk f n (sk f n (sk f n (pos + 1) + dg f n (sk f n (pos + 1))) + 1) else sk f n (sk f n (pos + 1) + dg f n (sk f n (pos + 1)))) else sk f n (pos + 1)))])), (t, .inr (6, [.ref b, .int (nI n)])), (b, .inl (ay 0, 300, .inl f)), (q, .inr (3, [.ref le, .ref nu, .int (nI (if rdOK f n (sk f n (pos + 1)) 0 63 ∧ btA f n (sk f n (sk f n (pos + 1) + dg f n (sk f n (pos + 1)))) = 59 then adN P.1 else P.1)), .ref ls, .ref lt, .int (nI P.2.2.2.2.2)])), (le, .inl (ay 0, 200, .inl (if rdOK f n (sk f n (pos + 1)) 0 63 ∧ btA f n (sk f n (sk f n (pos + 1) + dg f n (sk f n (pos + 1)))) = 59 then adF P.2.1 P.1 (f pos) else P.2.1))), (nu, .inl (ay 0, 200, .inl (if rdOK f n (sk f n (pos + 1)) 0 63 ∧ btA f n (sk f n (sk f n (pos + 1) + dg f n (sk f n (pos + 1)))) = 59 then adF P.2.2.1 P.1 (vl f (sk f n (pos + 1)) (dg f n (sk f n (pos + 1)))) else P.2.2.1))), (ls, .inl (ay 0, 4, .inl P.2.2.2.1)), (lt, .inl (ay 0, 4, .inl P.2.2.2.2.1))] rfl rfl ?_
    refine j_top 1 (if_pos ⟨h1, h2⟩) ?_
    refine j_ws [(r, .inr (4, [.ref t, .ref q, .int (nI (sk f n (nx f n (sk f n (pos + 1)) + 1)))])), (t, .inr (6, [.ref b, .int (nI n)])), (b, .inl (ay 0, 300, .inl f)), (q, .inr (3, [.ref le, .ref nu, .int (nI (pst P (108, vl f (sk f n (pos + 1)) (dg f n (sk f n (pos + 1))))).1), .ref ls, .ref lt, .int (nI (pst P (108, vl f (sk f n (pos + 1)) (dg f n (sk f n (pos + 1))))).2.2.2.2.2)])), (le, .inl (ay 0, 200, .inl ((pst P (108, vl f (sk f n (pos + 1)) (dg f n (sk f n (pos + 1))))).2.1))), (nu, .inl (ay 0, 200, .inl ((pst P (108, vl f (sk f n (pos + 1)) (dg f n (sk f n (pos + 1))))).2.2.1))), (ls, .inl (ay 0, 4, .inl ((pst P (108, vl f (sk f n (pos + 1)) (dg f n (sk f n (pos + 1))))).2.2.2.1))), (lt, .inl (ay 0, 4, .inl ((pst P (108, vl f (sk f n (pos + 1)) (dg f n (sk f n (pos + 1))))).2.2.2.2.1)))] (by simp only [if_pos h1, if_pos h2, if_pos (show _ ∧ _ from And.intro h1 h2), hc]; rfl) ?_
    exact j_zret F (Or.inr rfl) ⟨rfl, rfl⟩ dX4_readPart_74 (Nat.le_of_ble_eq_true rfl) (Nat.le_of_ble_eq_true rfl)
  · skip
    obtain ⟨h1, h2, hk, hx, hp2⟩ := itm_L (Or.inr (Or.inl hc)) hi
    rw [hc, show lim 115 = 63 from rfl] at h1
    rw [hc] at hk
    subst hk hx hp2
    refine j_top 115 hc ?_
    refine j_lookup F 68 dX4_readPart_11 (by decide) (by rfl) (by decide) ?_
    refine j_aload_n F 0 dX4_readPart_68 rfl ?_
    refine j_bipush F (v := 63) dX4_readPart_69 (by decide) ?_
    refine j_callV F kX4_51 (As := [.int 63]) (rest := []) (c_X4_readStep l D ay r t q pos b n f le nu ls lt P.1 P.2.1 P.2.2.1 P.2.2.2.1 P.2.2.2.2.1 P.2.2.2.2.2 63 hn hp hI.1) 0 [0, 1, 2, 3, 4, 5, 6, 7] [] [] rfl rfl rfl rfl rfl rfl rfl ⟨Nat.le_of_ble_eq_true rfl, Nat.le_of_ble_eq_true rfl⟩ dX4_readPart_71 (fun v w hw => ?_)
    obtain ⟨rfl, rfl⟩ := hw
    refine j_perm [0, 1, 2, 3, 4, 5, 6, 7] [(r, .inr (4, [.ref t, .ref q, .int (nI (if rdOK f n (sk f n (pos + 1)) 0 63 then (if btA f n (sk f n (sk f n (pos + 1) + dg f n (sk f n (pos + 1)))) = 59 then sk f n (sk f n (sk f n (pos + 1) + dg f n (sk f n (pos + 1))) + 1) else sk f n (sk f n (pos + 1) + dg f n (sk f n (pos + 1)))) else sk f n (pos + 1)))])), (t, .inr (6, [.ref b, .int (nI n)])), (b, .inl (ay 0, 300, .inl f)), (q, .inr (3, [.ref le, .ref nu, .int (nI (if rdOK f n (sk f n (pos + 1)) 0 63 ∧ btA f n (sk f n (sk f n (pos + 1) + dg f n (sk f n (pos + 1)))) = 59 then adN P.1 else P.1)), .ref ls, .ref lt, .int (nI P.2.2.2.2.2)])), (le, .inl (ay 0, 200, .inl (if rdOK f n (sk f n (pos + 1)) 0 63 ∧ btA f n (sk f n (sk f n (pos + 1) + dg f n (sk f n (pos + 1)))) = 59 then adF P.2.1 P.1 (f pos) else P.2.1))), (nu, .inl (ay 0, 200, .inl (if rdOK f n (sk f n (pos + 1)) 0 63 ∧ btA f n (sk f n (sk f n (pos + 1) + dg f n (sk f n (pos + 1)))) = 59 then adF P.2.2.1 P.1 (vl f (sk f n (pos + 1)) (dg f n (sk f n (pos + 1)))) else P.2.2.1))), (ls, .inl (ay 0, 4, .inl P.2.2.2.1)), (lt, .inl (ay 0, 4, .inl P.2.2.2.2.1))] rfl rfl ?_
    refine j_top 1 (if_pos ⟨h1, h2⟩) ?_
    refine j_ws [(r, .inr (4, [.ref t, .ref q, .int (nI (sk f n (nx f n (sk f n (pos + 1)) + 1)))])), (t, .inr (6, [.ref b, .int (nI n)])), (b, .inl (ay 0, 300, .inl f)), (q, .inr (3, [.ref le, .ref nu, .int (nI (pst P (115, vl f (sk f n (pos + 1)) (dg f n (sk f n (pos + 1))))).1), .ref ls, .ref lt, .int (nI (pst P (115, vl f (sk f n (pos + 1)) (dg f n (sk f n (pos + 1))))).2.2.2.2.2)])), (le, .inl (ay 0, 200, .inl ((pst P (115, vl f (sk f n (pos + 1)) (dg f n (sk f n (pos + 1))))).2.1))), (nu, .inl (ay 0, 200, .inl ((pst P (115, vl f (sk f n (pos + 1)) (dg f n (sk f n (pos + 1))))).2.2.1))), (ls, .inl (ay 0, 4, .inl ((pst P (115, vl f (sk f n (pos + 1)) (dg f n (sk f n (pos + 1))))).2.2.2.1))), (lt, .inl (ay 0, 4, .inl ((pst P (115, vl f (sk f n (pos + 1)) (dg f n (sk f n (pos + 1))))).2.2.2.2.1)))] (by simp only [if_pos h1, if_pos h2, if_pos (show _ ∧ _ from And.intro h1 h2), hc]; rfl) ?_
    exact j_zret F (Or.inr rfl) ⟨rfl, rfl⟩ dX4_readPart_74 (Nat.le_of_ble_eq_true rfl) (Nat.le_of_ble_eq_true rfl)
  · skip
    obtain ⟨h1, h3, hk, hx, hp2⟩ := itm_x hc hi
    subst hk hx hp2
    refine j_top 120 hc ?_
    refine j_lookup F 83 dX4_readPart_11 (by decide) (by rfl) (by decide) ?_
    refine j_aload_n F 0 dX4_readPart_83 rfl ?_
    refine j_callV F kX4_55 (As := []) (rest := []) (c_X4_readLoopStart l D ay r t q pos b n f le nu ls lt P.1 P.2.1 P.2.2.1 P.2.2.2.1 P.2.2.2.2.1 P.2.2.2.2.2 hn hp hI.2.1) 0 [0, 1, 2, 3, 4, 5, 6, 7] [] [] rfl rfl rfl rfl rfl rfl rfl ⟨Nat.le_of_ble_eq_true rfl, Nat.le_of_ble_eq_true rfl⟩ dX4_readPart_84 (fun v w hw => ?_)
    obtain ⟨rfl, rfl⟩ := hw
    refine j_perm [0, 1, 2, 3, 4, 5, 6, 7] [(r, .inr (4, [.ref t, .ref q, .int (nI (if rdOK f n (sk f n (pos + 1)) 1 9 then (if P.2.2.2.2.2 < 4 ∧ btA f n (sk f n (sk f n (pos + 1) + dg f n (sk f n (pos + 1)))) = 123 then sk f n (sk f n (sk f n (pos + 1) + dg f n (sk f n (pos + 1))) + 1) else sk f n (sk f n (pos + 1) + dg f n (sk f n (pos + 1)))) else sk f n (pos + 1)))])), (t, .inr (6, [.ref b, .int (nI n)])), (b, .inl (ay 0, 300, .inl f)), (q, .inr (3, [.ref le, .ref nu, .int (nI P.1), .ref ls, .ref lt, .int (nI (if rdOK f n (sk f n (pos + 1)) 1 9 ∧ P.2.2.2.2.2 < 4 ∧ btA f n (sk f n (sk f n (pos + 1) + dg f n (sk f n (pos + 1)))) = 123 then P.2.2.2.2.2 + 1 else P.2.2.2.2.2))])), (le, .inl (ay 0, 200, .inl P.2.1)), (nu, .inl (ay 0, 200, .inl P.2.2.1)), (ls, .inl (ay 0, 4, .inl (if rdOK f n (sk f n (pos + 1)) 1 9 ∧ P.2.2.2.2.2 < 4 ∧ btA f n (sk f n (sk f n (pos + 1) + dg f n (sk f n (pos + 1)))) = 123 then upd P.2.2.2.1 P.2.2.2.2.2 (nI P.1) else P.2.2.2.1))), (lt, .inl (ay 0, 4, .inl (if rdOK f n (sk f n (pos + 1)) 1 9 ∧ P.2.2.2.2.2 < 4 ∧ btA f n (sk f n (sk f n (pos + 1) + dg f n (sk f n (pos + 1)))) = 123 then upd P.2.2.2.2.1 P.2.2.2.2.2 (vl f (sk f n (pos + 1)) (dg f n (sk f n (pos + 1)))) else P.2.2.2.2.1)))] rfl rfl ?_
    refine j_top 1 (if_pos ⟨h1, h3⟩) ?_
    refine j_ws [(r, .inr (4, [.ref t, .ref q, .int (nI (sk f n (nx f n (sk f n (pos + 1)) + 1)))])), (t, .inr (6, [.ref b, .int (nI n)])), (b, .inl (ay 0, 300, .inl f)), (q, .inr (3, [.ref le, .ref nu, .int (nI (pst P (120, vl f (sk f n (pos + 1)) (dg f n (sk f n (pos + 1))))).1), .ref ls, .ref lt, .int (nI (pst P (120, vl f (sk f n (pos + 1)) (dg f n (sk f n (pos + 1))))).2.2.2.2.2)])), (le, .inl (ay 0, 200, .inl ((pst P (120, vl f (sk f n (pos + 1)) (dg f n (sk f n (pos + 1))))).2.1))), (nu, .inl (ay 0, 200, .inl ((pst P (120, vl f (sk f n (pos + 1)) (dg f n (sk f n (pos + 1))))).2.2.1))), (ls, .inl (ay 0, 4, .inl ((pst P (120, vl f (sk f n (pos + 1)) (dg f n (sk f n (pos + 1))))).2.2.2.1))), (lt, .inl (ay 0, 4, .inl ((pst P (120, vl f (sk f n (pos + 1)) (dg f n (sk f n (pos + 1))))).2.2.2.2.1)))] (by simp only [if_pos h1, if_pos h3, if_pos (show _ ∧ _ ∧ _ from And.intro h1 h3)]; rfl) ?_
    exact j_zret F (Or.inr rfl) ⟨rfl, rfl⟩ dX4_readPart_87 (Nat.le_of_ble_eq_true rfl) (Nat.le_of_ble_eq_true rfl)
  · skip
    obtain ⟨ho, hk, hx, hp2⟩ := itm_e hc hi
    subst hk hx hp2
    obtain ⟨s0, d0, b1, b2, b3, b4⟩ := hI.2.2 (P.2.2.2.2.2 - 1) (by omega)
    refine j_top 125 hc ?_
    refine j_lookup F 88 dX4_readPart_11 (by decide) (by rfl) (by decide) ?_
    refine j_aload_n F 0 dX4_readPart_88 rfl ?_
    refine j_callV F kX4_58 (As := []) (rest := []) (c_X4_readLoopEnd l D ay r t q pos b n f le nu ls lt P.1 P.2.1 P.2.2.1 P.2.2.2.1 P.2.2.2.2.1 P.2.2.2.2.2 s0 d0 hn hp hI.1 ⟨ho, hI.2.1⟩ ⟨b1, b2⟩ ⟨b3, b4⟩) 0 [0, 1, 2, 3, 4, 5, 6, 7] [] [] rfl rfl rfl rfl rfl rfl rfl ⟨Nat.le_of_ble_eq_true rfl, Nat.le_of_ble_eq_true rfl⟩ dX4_readPart_89 (fun v w hw => ?_)
    obtain ⟨rfl, rfl⟩ := hw
    refine j_perm [0, 1, 2, 3, 4, 5, 6, 7] [(r, .inr (4, [.ref t, .ref q, .int (nI (sk f n (pos + 1)))])), (t, .inr (6, [.ref b, .int (nI n)])), (b, .inl (ay 0, 300, .inl f)), (q, .inr (3, [.ref le, .ref nu, .int (nI (rpN s0 P.1 d0)), .ref ls, .ref lt, .int (nI (P.2.2.2.2.2 - 1))])), (le, .inl (ay 0, 200, .inl (rpF P.2.1 s0 P.1 (rpN s0 P.1 d0)))), (nu, .inl (ay 0, 200, .inl (rpF P.2.2.1 s0 P.1 (rpN s0 P.1 d0)))), (ls, .inl (ay 0, 4, .inl P.2.2.2.1)), (lt, .inl (ay 0, 4, .inl P.2.2.2.2.1))] rfl rfl ?_
    have hps : pst P (125, 0) = (rpN s0 P.1 d0, rpF P.2.1 s0 P.1 (rpN s0 P.1 d0), rpF P.2.2.1 s0 P.1 (rpN s0 P.1 d0), P.2.2.2.1, P.2.2.2.2.1, P.2.2.2.2.2 - 1) := by
      unfold pst
      rw [if_neg (show ¬ (125 : Int32) = 120 by decide), if_pos (show (125 : Int32) = 125 from rfl), show (P.2.2.2.1 (P.2.2.2.2.2 - 1)).toNatClampNeg = s0 by rw [b1]; exact nI_clamp (by have := hI.1; omega), show (P.2.2.2.2.1 (P.2.2.2.2.2 - 1)).toNatClampNeg = d0 by rw [b3]; exact nI_clamp (by omega)]
    refine j_ws [(r, .inr (4, [.ref t, .ref q, .int (nI (sk f n (pos + 1)))])), (t, .inr (6, [.ref b, .int (nI n)])), (b, .inl (ay 0, 300, .inl f)), (q, .inr (3, [.ref le, .ref nu, .int (nI (pst P (125, 0)).1), .ref ls, .ref lt, .int (nI (pst P (125, 0)).2.2.2.2.2)])), (le, .inl (ay 0, 200, .inl ((pst P (125, 0)).2.1))), (nu, .inl (ay 0, 200, .inl ((pst P (125, 0)).2.2.1))), (ls, .inl (ay 0, 4, .inl ((pst P (125, 0)).2.2.2.1))), (lt, .inl (ay 0, 4, .inl ((pst P (125, 0)).2.2.2.2.1)))] (by rw [hps]) ?_
    exact j_zret F (Or.inr rfl) ⟨rfl, rfl⟩ dX4_readPart_92 (Nat.le_of_ble_eq_true rfl) (Nat.le_of_ble_eq_true rfl)

set_option maxHeartbeats 4000000 in
set_option maxRecDepth 100000 in
theorem c_X4_readPart_no (l : Launch) (D : va_G) (ay : Nat → ClassId) (r : Nat) (t : Nat) (q : Nat) (pos : Nat) (b : Nat) (n : Nat) (f : Nat → Int32) (le : Nat) (nu : Nat) (ls : Nat) (lt : Nat) (P : PS) (e1 : Nat) (hn : n ≤ 300) (hp : pos < n) (hI : PI P) (hi : itm f n pos P.2.2.2.2.2 = .inr e1) : jM l yX4_readPart (jws yX4_readPart cX4_readPart 1 (some .boolean)) 4 90 0 0 D ay [.ref r] [(r, .inr (4, [.ref t, .ref q, .int (nI pos)])), (t, .inr (6, [.ref b, .int (nI n)])), (b, .inl (ay 0, 300, .inl f)), (q, .inr (3, [.ref le, .ref nu, .int (nI P.1), .ref ls, .ref lt, .int (nI P.2.2.2.2.2)])), (le, .inl (ay 0, 200, .inl P.2.1)), (nu, .inl (ay 0, 200, .inl P.2.2.1)), (ls, .inl (ay 0, 4, .inl P.2.2.2.1)), (lt, .inl (ay 0, 4, .inl P.2.2.2.2.1))] (fun v w => v = some (.int 0) ∧ w = [(r, .inr (4, [.ref t, .ref q, .int (nI e1)])), (t, .inr (6, [.ref b, .int (nI n)])), (b, .inl (ay 0, 300, .inl f)), (q, .inr (3, [.ref le, .ref nu, .int (nI P.1), .ref ls, .ref lt, .int (nI P.2.2.2.2.2)])), (le, .inl (ay 0, 200, .inl P.2.1)), (nu, .inl (ay 0, 200, .inl P.2.2.1)), (ls, .inl (ay 0, 4, .inl P.2.2.2.1)), (lt, .inl (ay 0, 4, .inl P.2.2.2.2.1))]) := by
  refine jM_of l (by decide) [(0, .ref r)] rfl rfl (fun p9 e9 s9 m9 a9 b9 me9 c9 A9 F => ?_)
  refine j_aload_n F 0 dX4_readPart_0 rfl ?_
  refine j_getf F fX4_12 0 rfl rfl dX4_readPart_1 ?_
  refine j_aload_n F 0 dX4_readPart_4 rfl ?_
  refine j_getf F fX4_25 0 rfl rfl dX4_readPart_5 ?_
  refine j_callV F kX4_47 (As := [.int (nI pos)]) (rest := []) (c_X6_byteIn l D ay t b n f pos (by first | assumption | omega) (by first | assumption | omega)) 1 [1, 2] [0, 3, 4, 5, 6, 7] [(r, .inr (4, [.ref t, .ref q, .int (nI pos)])), (q, .inr (3, [.ref le, .ref nu, .int (nI P.1), .ref ls, .ref lt, .int (nI P.2.2.2.2.2)])), (le, .inl (ay 0, 200, .inl P.2.1)), (nu, .inl (ay 0, 200, .inl P.2.2.1)), (ls, .inl (ay 0, 4, .inl P.2.2.2.1)), (lt, .inl (ay 0, 4, .inl P.2.2.2.2.1))] rfl rfl rfl rfl rfl rfl rfl ⟨Nat.le_of_ble_eq_true rfl, Nat.le_of_ble_eq_true rfl⟩ dX4_readPart_8 (fun v w hw => ?_)
  obtain ⟨rfl, rfl⟩ := hw
  refine j_perm [0, 6, 7, 1, 2, 3, 4, 5] [(r, .inr (4, [.ref t, .ref q, .int (nI pos)])), (t, .inr (6, [.ref b, .int (nI n)])), (b, .inl (ay 0, 300, .inl f)), (q, .inr (3, [.ref le, .ref nu, .int (nI P.1), .ref ls, .ref lt, .int (nI P.2.2.2.2.2)])), (le, .inl (ay 0, 200, .inl P.2.1)), (nu, .inl (ay 0, 200, .inl P.2.2.1)), (ls, .inl (ay 0, 4, .inl P.2.2.2.1)), (lt, .inl (ay 0, 4, .inl P.2.2.2.2.1))] rfl rfl ?_
  refine j_top (f pos) (if_pos hp) ?_
  by_cases n97 : f pos = 97
  · skip
    have hc := n97
    refine j_top 97 hc ?_
    refine j_lookup F 68 dX4_readPart_11 (by decide) (by rfl) (by decide) ?_
    unfold itm at hi
    rw [if_pos (show isL (f pos) from Or.inr (Or.inr (Or.inl hc))), hc, show lim 97 = 63 from rfl] at hi
    refine j_aload_n F 0 dX4_readPart_68 rfl ?_
    refine j_bipush F (v := 63) dX4_readPart_69 (by decide) ?_
    refine j_callV F kX4_51 (As := [.int 63]) (rest := []) (c_X4_readStep l D ay r t q pos b n f le nu ls lt P.1 P.2.1 P.2.2.1 P.2.2.2.1 P.2.2.2.2.1 P.2.2.2.2.2 63 hn hp hI.1) 0 [0, 1, 2, 3, 4, 5, 6, 7] [] [] rfl rfl rfl rfl rfl rfl rfl ⟨Nat.le_of_ble_eq_true rfl, Nat.le_of_ble_eq_true rfl⟩ dX4_readPart_71 (fun v w hw => ?_)
    obtain ⟨rfl, rfl⟩ := hw
    refine j_perm [0, 1, 2, 3, 4, 5, 6, 7] [(r, .inr (4, [.ref t, .ref q, .int (nI (if rdOK f n (sk f n (pos + 1)) 0 63 then (if btA f n (sk f n (sk f n (pos + 1) + dg f n (sk f n (pos + 1)))) = 59 then sk f n (sk f n (sk f n (pos + 1) + dg f n (sk f n (pos + 1))) + 1) else sk f n (sk f n (pos + 1) + dg f n (sk f n (pos + 1)))) else sk f n (pos + 1)))])), (t, .inr (6, [.ref b, .int (nI n)])), (b, .inl (ay 0, 300, .inl f)), (q, .inr (3, [.ref le, .ref nu, .int (nI (if rdOK f n (sk f n (pos + 1)) 0 63 ∧ btA f n (sk f n (sk f n (pos + 1) + dg f n (sk f n (pos + 1)))) = 59 then adN P.1 else P.1)), .ref ls, .ref lt, .int (nI P.2.2.2.2.2)])), (le, .inl (ay 0, 200, .inl (if rdOK f n (sk f n (pos + 1)) 0 63 ∧ btA f n (sk f n (sk f n (pos + 1) + dg f n (sk f n (pos + 1)))) = 59 then adF P.2.1 P.1 (f pos) else P.2.1))), (nu, .inl (ay 0, 200, .inl (if rdOK f n (sk f n (pos + 1)) 0 63 ∧ btA f n (sk f n (sk f n (pos + 1) + dg f n (sk f n (pos + 1)))) = 59 then adF P.2.2.1 P.1 (vl f (sk f n (pos + 1)) (dg f n (sk f n (pos + 1)))) else P.2.2.1))), (ls, .inl (ay 0, 4, .inl P.2.2.2.1)), (lt, .inl (ay 0, 4, .inl P.2.2.2.2.1))] rfl rfl ?_
    have hno : ¬ (rdOK f n (sk f n (pos + 1)) 0 63 ∧ btA f n (nx f n (sk f n (pos + 1))) = 59) := fun h => by rw [if_pos h.1, if_pos h.2] at hi; cases hi
    have hpos : (if rdOK f n (sk f n (pos + 1)) 0 63 then (if btA f n (nx f n (sk f n (pos + 1))) = 59 then sk f n (nx f n (sk f n (pos + 1)) + 1) else nx f n (sk f n (pos + 1))) else sk f n (pos + 1)) = e1 := by
      by_cases h1 : rdOK f n (sk f n (pos + 1)) 0 63
      · rw [if_pos h1] at hi ⊢
        rw [if_neg (fun h => hno ⟨h1, h⟩)] at hi ⊢
        exact Sum.inr.inj hi
      · rw [if_neg h1] at hi ⊢
        exact Sum.inr.inj hi
    refine j_top 0 (if_neg hno) ?_
    refine j_ws [(r, .inr (4, [.ref t, .ref q, .int (nI e1)])), (t, .inr (6, [.ref b, .int (nI n)])), (b, .inl (ay 0, 300, .inl f)), (q, .inr (3, [.ref le, .ref nu, .int (nI P.1), .ref ls, .ref lt, .int (nI P.2.2.2.2.2)])), (le, .inl (ay 0, 200, .inl P.2.1)), (nu, .inl (ay 0, 200, .inl P.2.2.1)), (ls, .inl (ay 0, 4, .inl P.2.2.2.1)), (lt, .inl (ay 0, 4, .inl P.2.2.2.2.1))] (by rw [hpos]; simp only [if_neg hno]) ?_
    exact j_zret F (Or.inl rfl) ⟨rfl, rfl⟩ dX4_readPart_74 (Nat.le_of_ble_eq_true rfl) (Nat.le_of_ble_eq_true rfl)
  · skip
    by_cases n99 : f pos = 99
    · skip
      have hc := n99
      refine j_top 99 hc ?_
      refine j_lookup F 75 dX4_readPart_11 (by decide) (by rfl) (by decide) ?_
      unfold itm at hi
      rw [if_pos (show isL (f pos) from Or.inr (Or.inr (Or.inr hc))), hc, show lim 99 = 999 from rfl] at hi
      refine j_aload_n F 0 dX4_readPart_75 rfl ?_
      refine j_sipush F (v := 999) dX4_readPart_76 (by decide) ?_
      refine j_callV F kX4_51 (As := [.int 999]) (rest := []) (c_X4_readStep l D ay r t q pos b n f le nu ls lt P.1 P.2.1 P.2.2.1 P.2.2.2.1 P.2.2.2.2.1 P.2.2.2.2.2 999 hn hp hI.1) 0 [0, 1, 2, 3, 4, 5, 6, 7] [] [] rfl rfl rfl rfl rfl rfl rfl ⟨Nat.le_of_ble_eq_true rfl, Nat.le_of_ble_eq_true rfl⟩ dX4_readPart_79 (fun v w hw => ?_)
      obtain ⟨rfl, rfl⟩ := hw
      refine j_perm [0, 1, 2, 3, 4, 5, 6, 7] [(r, .inr (4, [.ref t, .ref q, .int (nI (if rdOK f n (sk f n (pos + 1)) 0 999 then (if btA f n (sk f n (sk f n (pos + 1) + dg f n (sk f n (pos + 1)))) = 59 then sk f n (sk f n (sk f n (pos + 1) + dg f n (sk f n (pos + 1))) + 1) else sk f n (sk f n (pos + 1) + dg f n (sk f n (pos + 1)))) else sk f n (pos + 1)))])), (t, .inr (6, [.ref b, .int (nI n)])), (b, .inl (ay 0, 300, .inl f)), (q, .inr (3, [.ref le, .ref nu, .int (nI (if rdOK f n (sk f n (pos + 1)) 0 999 ∧ btA f n (sk f n (sk f n (pos + 1) + dg f n (sk f n (pos + 1)))) = 59 then adN P.1 else P.1)), .ref ls, .ref lt, .int (nI P.2.2.2.2.2)])), (le, .inl (ay 0, 200, .inl (if rdOK f n (sk f n (pos + 1)) 0 999 ∧ btA f n (sk f n (sk f n (pos + 1) + dg f n (sk f n (pos + 1)))) = 59 then adF P.2.1 P.1 (f pos) else P.2.1))), (nu, .inl (ay 0, 200, .inl (if rdOK f n (sk f n (pos + 1)) 0 999 ∧ btA f n (sk f n (sk f n (pos + 1) + dg f n (sk f n (pos + 1)))) = 59 then adF P.2.2.1 P.1 (vl f (sk f n (pos + 1)) (dg f n (sk f n (pos + 1)))) else P.2.2.1))), (ls, .inl (ay 0, 4, .inl P.2.2.2.1)), (lt, .inl (ay 0, 4, .inl P.2.2.2.2.1))] rfl rfl ?_
      have hno : ¬ (rdOK f n (sk f n (pos + 1)) 0 999 ∧ btA f n (nx f n (sk f n (pos + 1))) = 59) := fun h => by rw [if_pos h.1, if_pos h.2] at hi; cases hi
      have hpos : (if rdOK f n (sk f n (pos + 1)) 0 999 then (if btA f n (nx f n (sk f n (pos + 1))) = 59 then sk f n (nx f n (sk f n (pos + 1)) + 1) else nx f n (sk f n (pos + 1))) else sk f n (pos + 1)) = e1 := by
        by_cases h1 : rdOK f n (sk f n (pos + 1)) 0 999
        · rw [if_pos h1] at hi ⊢
          rw [if_neg (fun h => hno ⟨h1, h⟩)] at hi ⊢
          exact Sum.inr.inj hi
        · rw [if_neg h1] at hi ⊢
          exact Sum.inr.inj hi
      refine j_top 0 (if_neg hno) ?_
      refine j_ws [(r, .inr (4, [.ref t, .ref q, .int (nI e1)])), (t, .inr (6, [.ref b, .int (nI n)])), (b, .inl (ay 0, 300, .inl f)), (q, .inr (3, [.ref le, .ref nu, .int (nI P.1), .ref ls, .ref lt, .int (nI P.2.2.2.2.2)])), (le, .inl (ay 0, 200, .inl P.2.1)), (nu, .inl (ay 0, 200, .inl P.2.2.1)), (ls, .inl (ay 0, 4, .inl P.2.2.2.1)), (lt, .inl (ay 0, 4, .inl P.2.2.2.2.1))] (by rw [hpos]; simp only [if_neg hno]) ?_
      exact j_zret F (Or.inl rfl) ⟨rfl, rfl⟩ dX4_readPart_82 (Nat.le_of_ble_eq_true rfl) (Nat.le_of_ble_eq_true rfl)
    · skip
      by_cases n108 : f pos = 108
      · skip
        have hc := n108
        refine j_top 108 hc ?_
        refine j_lookup F 68 dX4_readPart_11 (by decide) (by rfl) (by decide) ?_
        unfold itm at hi
        rw [if_pos (show isL (f pos) from Or.inl hc), hc, show lim 108 = 63 from rfl] at hi
        refine j_aload_n F 0 dX4_readPart_68 rfl ?_
        refine j_bipush F (v := 63) dX4_readPart_69 (by decide) ?_
        refine j_callV F kX4_51 (As := [.int 63]) (rest := []) (c_X4_readStep l D ay r t q pos b n f le nu ls lt P.1 P.2.1 P.2.2.1 P.2.2.2.1 P.2.2.2.2.1 P.2.2.2.2.2 63 hn hp hI.1) 0 [0, 1, 2, 3, 4, 5, 6, 7] [] [] rfl rfl rfl rfl rfl rfl rfl ⟨Nat.le_of_ble_eq_true rfl, Nat.le_of_ble_eq_true rfl⟩ dX4_readPart_71 (fun v w hw => ?_)
        obtain ⟨rfl, rfl⟩ := hw
        refine j_perm [0, 1, 2, 3, 4, 5, 6, 7] [(r, .inr (4, [.ref t, .ref q, .int (nI (if rdOK f n (sk f n (pos + 1)) 0 63 then (if btA f n (sk f n (sk f n (pos + 1) + dg f n (sk f n (pos + 1)))) = 59 then sk f n (sk f n (sk f n (pos + 1) + dg f n (sk f n (pos + 1))) + 1) else sk f n (sk f n (pos + 1) + dg f n (sk f n (pos + 1)))) else sk f n (pos + 1)))])), (t, .inr (6, [.ref b, .int (nI n)])), (b, .inl (ay 0, 300, .inl f)), (q, .inr (3, [.ref le, .ref nu, .int (nI (if rdOK f n (sk f n (pos + 1)) 0 63 ∧ btA f n (sk f n (sk f n (pos + 1) + dg f n (sk f n (pos + 1)))) = 59 then adN P.1 else P.1)), .ref ls, .ref lt, .int (nI P.2.2.2.2.2)])), (le, .inl (ay 0, 200, .inl (if rdOK f n (sk f n (pos + 1)) 0 63 ∧ btA f n (sk f n (sk f n (pos + 1) + dg f n (sk f n (pos + 1)))) = 59 then adF P.2.1 P.1 (f pos) else P.2.1))), (nu, .inl (ay 0, 200, .inl (if rdOK f n (sk f n (pos + 1)) 0 63 ∧ btA f n (sk f n (sk f n (pos + 1) + dg f n (sk f n (pos + 1)))) = 59 then adF P.2.2.1 P.1 (vl f (sk f n (pos + 1)) (dg f n (sk f n (pos + 1)))) else P.2.2.1))), (ls, .inl (ay 0, 4, .inl P.2.2.2.1)), (lt, .inl (ay 0, 4, .inl P.2.2.2.2.1))] rfl rfl ?_
        have hno : ¬ (rdOK f n (sk f n (pos + 1)) 0 63 ∧ btA f n (nx f n (sk f n (pos + 1))) = 59) := fun h => by rw [if_pos h.1, if_pos h.2] at hi; cases hi
        have hpos : (if rdOK f n (sk f n (pos + 1)) 0 63 then (if btA f n (nx f n (sk f n (pos + 1))) = 59 then sk f n (nx f n (sk f n (pos + 1)) + 1) else nx f n (sk f n (pos + 1))) else sk f n (pos + 1)) = e1 := by
          by_cases h1 : rdOK f n (sk f n (pos + 1)) 0 63
          · rw [if_pos h1] at hi ⊢
            rw [if_neg (fun h => hno ⟨h1, h⟩)] at hi ⊢
            exact Sum.inr.inj hi
          · rw [if_neg h1] at hi ⊢
            exact Sum.inr.inj hi
        refine j_top 0 (if_neg hno) ?_
        refine j_ws [(r, .inr (4, [.ref t, .ref q, .int (nI e1)])), (t, .inr (6, [.ref b, .int (nI n)])), (b, .inl (ay 0, 300, .inl f)), (q, .inr (3, [.ref le, .ref nu, .int (nI P.1), .ref ls, .ref lt, .int (nI P.2.2.2.2.2)])), (le, .inl (ay 0, 200, .inl P.2.1)), (nu, .inl (ay 0, 200, .inl P.2.2.1)), (ls, .inl (ay 0, 4, .inl P.2.2.2.1)), (lt, .inl (ay 0, 4, .inl P.2.2.2.2.1))] (by rw [hpos]; simp only [if_neg hno]) ?_
        exact j_zret F (Or.inl rfl) ⟨rfl, rfl⟩ dX4_readPart_74 (Nat.le_of_ble_eq_true rfl) (Nat.le_of_ble_eq_true rfl)
      · skip
        by_cases n115 : f pos = 115
        · skip
          have hc := n115
          refine j_top 115 hc ?_
          refine j_lookup F 68 dX4_readPart_11 (by decide) (by rfl) (by decide) ?_
          unfold itm at hi
          rw [if_pos (show isL (f pos) from Or.inr (Or.inl hc)), hc, show lim 115 = 63 from rfl] at hi
          refine j_aload_n F 0 dX4_readPart_68 rfl ?_
          refine j_bipush F (v := 63) dX4_readPart_69 (by decide) ?_
          refine j_callV F kX4_51 (As := [.int 63]) (rest := []) (c_X4_readStep l D ay r t q pos b n f le nu ls lt P.1 P.2.1 P.2.2.1 P.2.2.2.1 P.2.2.2.2.1 P.2.2.2.2.2 63 hn hp hI.1) 0 [0, 1, 2, 3, 4, 5, 6, 7] [] [] rfl rfl rfl rfl rfl rfl rfl ⟨Nat.le_of_ble_eq_true rfl, Nat.le_of_ble_eq_true rfl⟩ dX4_readPart_71 (fun v w hw => ?_)
          obtain ⟨rfl, rfl⟩ := hw
          refine j_perm [0, 1, 2, 3, 4, 5, 6, 7] [(r, .inr (4, [.ref t, .ref q, .int (nI (if rdOK f n (sk f n (pos + 1)) 0 63 then (if btA f n (sk f n (sk f n (pos + 1) + dg f n (sk f n (pos + 1)))) = 59 then sk f n (sk f n (sk f n (pos + 1) + dg f n (sk f n (pos + 1))) + 1) else sk f n (sk f n (pos + 1) + dg f n (sk f n (pos + 1)))) else sk f n (pos + 1)))])), (t, .inr (6, [.ref b, .int (nI n)])), (b, .inl (ay 0, 300, .inl f)), (q, .inr (3, [.ref le, .ref nu, .int (nI (if rdOK f n (sk f n (pos + 1)) 0 63 ∧ btA f n (sk f n (sk f n (pos + 1) + dg f n (sk f n (pos + 1)))) = 59 then adN P.1 else P.1)), .ref ls, .ref lt, .int (nI P.2.2.2.2.2)])), (le, .inl (ay 0, 200, .inl (if rdOK f n (sk f n (pos + 1)) 0 63 ∧ btA f n (sk f n (sk f n (pos + 1) + dg f n (sk f n (pos + 1)))) = 59 then adF P.2.1 P.1 (f pos) else P.2.1))), (nu, .inl (ay 0, 200, .inl (if rdOK f n (sk f n (pos + 1)) 0 63 ∧ btA f n (sk f n (sk f n (pos + 1) + dg f n (sk f n (pos + 1)))) = 59 then adF P.2.2.1 P.1 (vl f (sk f n (pos + 1)) (dg f n (sk f n (pos + 1)))) else P.2.2.1))), (ls, .inl (ay 0, 4, .inl P.2.2.2.1)), (lt, .inl (ay 0, 4, .inl P.2.2.2.2.1))] rfl rfl ?_
          have hno : ¬ (rdOK f n (sk f n (pos + 1)) 0 63 ∧ btA f n (nx f n (sk f n (pos + 1))) = 59) := fun h => by rw [if_pos h.1, if_pos h.2] at hi; cases hi
          have hpos : (if rdOK f n (sk f n (pos + 1)) 0 63 then (if btA f n (nx f n (sk f n (pos + 1))) = 59 then sk f n (nx f n (sk f n (pos + 1)) + 1) else nx f n (sk f n (pos + 1))) else sk f n (pos + 1)) = e1 := by
            by_cases h1 : rdOK f n (sk f n (pos + 1)) 0 63
            · rw [if_pos h1] at hi ⊢
              rw [if_neg (fun h => hno ⟨h1, h⟩)] at hi ⊢
              exact Sum.inr.inj hi
            · rw [if_neg h1] at hi ⊢
              exact Sum.inr.inj hi
          refine j_top 0 (if_neg hno) ?_
          refine j_ws [(r, .inr (4, [.ref t, .ref q, .int (nI e1)])), (t, .inr (6, [.ref b, .int (nI n)])), (b, .inl (ay 0, 300, .inl f)), (q, .inr (3, [.ref le, .ref nu, .int (nI P.1), .ref ls, .ref lt, .int (nI P.2.2.2.2.2)])), (le, .inl (ay 0, 200, .inl P.2.1)), (nu, .inl (ay 0, 200, .inl P.2.2.1)), (ls, .inl (ay 0, 4, .inl P.2.2.2.1)), (lt, .inl (ay 0, 4, .inl P.2.2.2.2.1))] (by rw [hpos]; simp only [if_neg hno]) ?_
          exact j_zret F (Or.inl rfl) ⟨rfl, rfl⟩ dX4_readPart_74 (Nat.le_of_ble_eq_true rfl) (Nat.le_of_ble_eq_true rfl)
        · skip
          by_cases n120 : f pos = 120
          · skip
            have hc := n120
            refine j_top 120 hc ?_
            refine j_lookup F 83 dX4_readPart_11 (by decide) (by rfl) (by decide) ?_
            unfold itm at hi
            rw [if_neg (show ¬ isL (f pos) by rw [hc]; decide), if_pos hc] at hi
            refine j_aload_n F 0 dX4_readPart_83 rfl ?_
            refine j_callV F kX4_55 (As := []) (rest := []) (c_X4_readLoopStart l D ay r t q pos b n f le nu ls lt P.1 P.2.1 P.2.2.1 P.2.2.2.1 P.2.2.2.2.1 P.2.2.2.2.2 hn hp hI.2.1) 0 [0, 1, 2, 3, 4, 5, 6, 7] [] [] rfl rfl rfl rfl rfl rfl rfl ⟨Nat.le_of_ble_eq_true rfl, Nat.le_of_ble_eq_true rfl⟩ dX4_readPart_84 (fun v w hw => ?_)
            obtain ⟨rfl, rfl⟩ := hw
            refine j_perm [0, 1, 2, 3, 4, 5, 6, 7] [(r, .inr (4, [.ref t, .ref q, .int (nI (if rdOK f n (sk f n (pos + 1)) 1 9 then (if P.2.2.2.2.2 < 4 ∧ btA f n (sk f n (sk f n (pos + 1) + dg f n (sk f n (pos + 1)))) = 123 then sk f n (sk f n (sk f n (pos + 1) + dg f n (sk f n (pos + 1))) + 1) else sk f n (sk f n (pos + 1) + dg f n (sk f n (pos + 1)))) else sk f n (pos + 1)))])), (t, .inr (6, [.ref b, .int (nI n)])), (b, .inl (ay 0, 300, .inl f)), (q, .inr (3, [.ref le, .ref nu, .int (nI P.1), .ref ls, .ref lt, .int (nI (if rdOK f n (sk f n (pos + 1)) 1 9 ∧ P.2.2.2.2.2 < 4 ∧ btA f n (sk f n (sk f n (pos + 1) + dg f n (sk f n (pos + 1)))) = 123 then P.2.2.2.2.2 + 1 else P.2.2.2.2.2))])), (le, .inl (ay 0, 200, .inl P.2.1)), (nu, .inl (ay 0, 200, .inl P.2.2.1)), (ls, .inl (ay 0, 4, .inl (if rdOK f n (sk f n (pos + 1)) 1 9 ∧ P.2.2.2.2.2 < 4 ∧ btA f n (sk f n (sk f n (pos + 1) + dg f n (sk f n (pos + 1)))) = 123 then upd P.2.2.2.1 P.2.2.2.2.2 (nI P.1) else P.2.2.2.1))), (lt, .inl (ay 0, 4, .inl (if rdOK f n (sk f n (pos + 1)) 1 9 ∧ P.2.2.2.2.2 < 4 ∧ btA f n (sk f n (sk f n (pos + 1) + dg f n (sk f n (pos + 1)))) = 123 then upd P.2.2.2.2.1 P.2.2.2.2.2 (vl f (sk f n (pos + 1)) (dg f n (sk f n (pos + 1)))) else P.2.2.2.2.1)))] rfl rfl ?_
            have hno : ¬ (rdOK f n (sk f n (pos + 1)) 1 9 ∧ (P.2.2.2.2.2 < 4 ∧ btA f n (nx f n (sk f n (pos + 1))) = 123)) := fun h => by rw [if_pos h.1, if_pos h.2] at hi; cases hi
            have hpos : (if rdOK f n (sk f n (pos + 1)) 1 9 then (if (P.2.2.2.2.2 < 4 ∧ btA f n (nx f n (sk f n (pos + 1))) = 123) then sk f n (nx f n (sk f n (pos + 1)) + 1) else nx f n (sk f n (pos + 1))) else sk f n (pos + 1)) = e1 := by
              by_cases h1 : rdOK f n (sk f n (pos + 1)) 1 9
              · rw [if_pos h1] at hi ⊢
                rw [if_neg (fun h => hno ⟨h1, h⟩)] at hi ⊢
                exact Sum.inr.inj hi
              · rw [if_neg h1] at hi ⊢
                exact Sum.inr.inj hi
            refine j_top 0 (if_neg hno) ?_
            refine j_ws [(r, .inr (4, [.ref t, .ref q, .int (nI e1)])), (t, .inr (6, [.ref b, .int (nI n)])), (b, .inl (ay 0, 300, .inl f)), (q, .inr (3, [.ref le, .ref nu, .int (nI P.1), .ref ls, .ref lt, .int (nI P.2.2.2.2.2)])), (le, .inl (ay 0, 200, .inl P.2.1)), (nu, .inl (ay 0, 200, .inl P.2.2.1)), (ls, .inl (ay 0, 4, .inl P.2.2.2.1)), (lt, .inl (ay 0, 4, .inl P.2.2.2.2.1))] (by rw [hpos]; simp only [if_neg hno]) ?_
            exact j_zret F (Or.inl rfl) ⟨rfl, rfl⟩ dX4_readPart_87 (Nat.le_of_ble_eq_true rfl) (Nat.le_of_ble_eq_true rfl)
          · skip
            by_cases n125 : f pos = 125
            · skip
              have hc := n125
              refine j_top 125 hc ?_
              refine j_lookup F 88 dX4_readPart_11 (by decide) (by rfl) (by decide) ?_
              unfold itm at hi
              rw [if_neg (show ¬ isL (f pos) by rw [hc]; decide), if_neg (show ¬ f pos = 120 by rw [hc]; decide), if_pos hc] at hi
              have ho : P.2.2.2.2.2 = 0 := by
                rcases Nat.lt_or_ge 0 P.2.2.2.2.2 with g | g
                · rw [if_pos g] at hi; cases hi
                · omega
              have he : pos = e1 := by
                rw [if_neg (by omega)] at hi
                exact Sum.inr.inj hi
              subst he
              refine j_aload_n F 0 dX4_readPart_88 rfl ?_
              refine j_ws [(r, .inr (4, [.ref t, .ref q, .int (nI pos)])), (t, .inr (6, [.ref b, .int (nI n)])), (b, .inl (ay 0, 300, .inl f)), (q, .inr (3, [.ref le, .ref nu, .int (nI P.1), .ref ls, .ref lt, .int (nI 0)])), (le, .inl (ay 0, 200, .inl P.2.1)), (nu, .inl (ay 0, 200, .inl P.2.2.1)), (ls, .inl (ay 0, 4, .inl P.2.2.2.1)), (lt, .inl (ay 0, 4, .inl P.2.2.2.2.1))] (by rw [ho]) ?_
              refine j_callV F kX4_58 (As := []) (rest := []) (c_X4_readLoopEnd_none l D ay r t q pos b n f le nu ls lt P.1 P.2.1 P.2.2.1 P.2.2.2.1 P.2.2.2.2.1 0) 0 [0, 1, 2, 3, 4, 5, 6, 7] [] [] rfl rfl rfl rfl rfl rfl rfl ⟨Nat.le_of_ble_eq_true rfl, Nat.le_of_ble_eq_true rfl⟩ dX4_readPart_89 (fun v w hw => ?_)
              obtain ⟨rfl, rfl⟩ := hw
              refine j_perm [0, 1, 2, 3, 4, 5, 6, 7] [(r, .inr (4, [.ref t, .ref q, .int (nI pos)])), (t, .inr (6, [.ref b, .int (nI n)])), (b, .inl (ay 0, 300, .inl f)), (q, .inr (3, [.ref le, .ref nu, .int (nI P.1), .ref ls, .ref lt, .int (nI 0)])), (le, .inl (ay 0, 200, .inl P.2.1)), (nu, .inl (ay 0, 200, .inl P.2.2.1)), (ls, .inl (ay 0, 4, .inl P.2.2.2.1)), (lt, .inl (ay 0, 4, .inl P.2.2.2.2.1))] rfl rfl ?_
              refine j_ws [(r, .inr (4, [.ref t, .ref q, .int (nI pos)])), (t, .inr (6, [.ref b, .int (nI n)])), (b, .inl (ay 0, 300, .inl f)), (q, .inr (3, [.ref le, .ref nu, .int (nI P.1), .ref ls, .ref lt, .int (nI P.2.2.2.2.2)])), (le, .inl (ay 0, 200, .inl P.2.1)), (nu, .inl (ay 0, 200, .inl P.2.2.1)), (ls, .inl (ay 0, 4, .inl P.2.2.2.1)), (lt, .inl (ay 0, 4, .inl P.2.2.2.2.1))] (by rw [ho]) ?_
              exact j_zret F (Or.inl rfl) ⟨rfl, rfl⟩ dX4_readPart_92 (Nat.le_of_ble_eq_true rfl) (Nat.le_of_ble_eq_true rfl)
            · skip
              have he : pos = e1 := by
                rw [itm_o (fun h => by rcases h with h | h | h | h; exact n108 h; exact n115 h; exact n97 h; exact n99 h) n120 n125] at hi
                exact Sum.inr.inj hi
              subst he
              refine j_lookup F 93 dX4_readPart_11 (by decide) (by show Op.lookupswitch.offset [(97, 57), (99, 64), (108, 57), (115, 57), (120, 72), (125, 77)] 82 (f pos).toInt = 82; rw [lv_osw (k := 97) (a := 97) n97 rfl, lv_osw (k := 99) (a := 99) n99 rfl, lv_osw (k := 108) (a := 108) n108 rfl, lv_osw (k := 115) (a := 115) n115 rfl, lv_osw (k := 120) (a := 120) n120 rfl, lv_osw (k := 125) (a := 125) n125 rfl]; rfl) (by decide) ?_
              refine j_iconst F (v := 0) dX4_readPart_93 (by decide) ?_
              exact j_zret F (Or.inl rfl) ⟨rfl, rfl⟩ dX4_readPart_94 (Nat.le_of_ble_eq_true rfl) (Nat.le_of_ble_eq_true rfl)

set_option maxHeartbeats 4000000 in
set_option maxRecDepth 100000 in
theorem c_X4_read (l : Launch) (D : va_G) (ay : Nat → ClassId) (r : Nat) (t : Nat) (q : Nat) (pos : Nat) (b : Nat) (n : Nat) (f : Nat → Int32) (le : Nat) (nu : Nat) (ls : Nat) (lt : Nat) (P : PS) (hn : n ≤ 300) : jM l yX4_read (jws yX4_read cX4_read 2 (some .int)) 5 110 0 0 D ay [.ref r] [(r, .inr (4, [.ref t, .ref q, .int (nI pos)])), (t, .inr (6, [.ref b, .int (nI n)])), (b, .inl (ay 0, 300, .inl f)), (q, .inr (3, [.ref le, .ref nu, .int (nI P.1), .ref ls, .ref lt, .int (nI P.2.2.2.2.2)])), (le, .inl (ay 0, 200, .inl P.2.1)), (nu, .inl (ay 0, 200, .inl P.2.2.1)), (ls, .inl (ay 0, 4, .inl P.2.2.2.1)), (lt, .inl (ay 0, 4, .inl P.2.2.2.2.1))] (fun v w => ∃ (pos2 : Nat), ∃ (P2 : PS), ((prs f n n (sk f n 0) 0).2 = -1 → P2 = (prs f n n (sk f n 0) 0).1.foldl pst (0, P.2.1, P.2.2.1, P.2.2.2.1, P.2.2.2.2.1, 0)) ∧ PI P2 ∧ v = some (.int ((prs f n n (sk f n 0) 0).2)) ∧ w = [(r, .inr (4, [.ref t, .ref q, .int (nI pos2)])), (t, .inr (6, [.ref b, .int (nI n)])), (b, .inl (ay 0, 300, .inl f)), (q, .inr (3, [.ref le, .ref nu, .int (nI P2.1), .ref ls, .ref lt, .int (nI P2.2.2.2.2.2)])), (le, .inl (ay 0, 200, .inl P2.2.1)), (nu, .inl (ay 0, 200, .inl P2.2.2.1)), (ls, .inl (ay 0, 4, .inl P2.2.2.2.1)), (lt, .inl (ay 0, 4, .inl P2.2.2.2.2.1))]) := by
  refine jM_of l (by decide) [(0, .ref r)] rfl rfl (fun p9 e9 s9 m9 a9 b9 me9 c9 A9 F => ?_)
  refine j_aload_n F 0 dX4_read_0 rfl ?_
  refine j_getf F fX4_21 0 rfl rfl dX4_read_1 ?_
  refine j_callV F kX4_29 (As := []) (rest := []) (c_X3_restart l D ay q le nu ls lt P.1 P.2.1 P.2.2.1 P.2.2.2.1 P.2.2.2.2.1 P.2.2.2.2.2) 3 [3, 4, 5, 6, 7] [0, 1, 2] [(r, .inr (4, [.ref t, .ref q, .int (nI pos)])), (t, .inr (6, [.ref b, .int (nI n)])), (b, .inl (ay 0, 300, .inl f))] rfl rfl rfl rfl rfl rfl rfl ⟨Nat.le_of_ble_eq_true rfl, Nat.le_of_ble_eq_true rfl⟩ dX4_read_4 (fun v w hw => ?_)
  obtain ⟨rfl, rfl⟩ := hw
  refine j_perm [0, 1, 2, 3, 4, 5, 6, 7] [(r, .inr (4, [.ref t, .ref q, .int (nI pos)])), (t, .inr (6, [.ref b, .int (nI n)])), (b, .inl (ay 0, 300, .inl f)), (q, .inr (3, [.ref le, .ref nu, .int (nI 0), .ref ls, .ref lt, .int (nI 0)])), (le, .inl (ay 0, 200, .inl P.2.1)), (nu, .inl (ay 0, 200, .inl P.2.2.1)), (ls, .inl (ay 0, 4, .inl P.2.2.2.1)), (lt, .inl (ay 0, 4, .inl P.2.2.2.2.1))] rfl rfl ?_
  refine j_aload_n F 0 dX4_read_7 rfl ?_
  refine j_iconst F (v := 0) dX4_read_8 (by decide) ?_
  refine j_putf F fX4_25 0 [(r, .inr (4, [.ref t, .ref q, .int 0])), (t, .inr (6, [.ref b, .int (nI n)])), (b, .inl (ay 0, 300, .inl f)), (q, .inr (3, [.ref le, .ref nu, .int (nI 0), .ref ls, .ref lt, .int (nI 0)])), (le, .inl (ay 0, 200, .inl P.2.1)), (nu, .inl (ay 0, 200, .inl P.2.2.1)), (ls, .inl (ay 0, 4, .inl P.2.2.2.1)), (lt, .inl (ay 0, 4, .inl P.2.2.2.2.1))] rfl rfl rfl rfl rfl (Nat.le_of_ble_eq_true rfl) dX4_read_9 ?_
  refine j_aload_n F 0 dX4_read_12 rfl ?_
  refine j_iconst F (v := 0) dX4_read_13 (by decide) ?_
  refine j_callV F kX4_32 (As := [.int 0]) (rest := []) (c_X4_pass l D ay r t q 0 b n f le nu ls lt 0 P.2.1 P.2.2.1 P.2.2.2.1 P.2.2.2.2.1 0 0 hn (by omega)) 0 [0, 1, 2, 3, 4, 5, 6, 7] [] [] rfl rfl rfl rfl rfl rfl rfl ⟨Nat.le_of_ble_eq_true rfl, Nat.le_of_ble_eq_true rfl⟩ dX4_read_14 (fun v w hw => ?_)
  obtain ⟨rfl, rfl⟩ := hw
  refine j_perm [0, 1, 2, 3, 4, 5, 6, 7] [(r, .inr (4, [.ref t, .ref q, .int (nI (sk f n (0 + 0)))])), (t, .inr (6, [.ref b, .int (nI n)])), (b, .inl (ay 0, 300, .inl f)), (q, .inr (3, [.ref le, .ref nu, .int (nI 0), .ref ls, .ref lt, .int (nI 0)])), (le, .inl (ay 0, 200, .inl P.2.1)), (nu, .inl (ay 0, 200, .inl P.2.2.1)), (ls, .inl (ay 0, 4, .inl P.2.2.2.1)), (lt, .inl (ay 0, 4, .inl P.2.2.2.2.1))] rfl rfl ?_
  refine j_iconst F (v := 0) dX4_read_17 (by decide) ?_
  refine j_istore_n F 1 [(1, .int 0), (0, .ref r)] dX4_read_18 rfl (by decide) rfl ?_
  refine j_loop (σ := Nat × Nat × PS) (fun z => z.1 ≤ z.2.1 ∧ z.2.1 ≤ n ∧ PI z.2.2 ∧ (prs f n (n - z.2.1) z.2.1 z.2.2.2.2.2.2.2).2 = (prs f n n (sk f n 0) 0).2 ∧ (prs f n (n - z.2.1) z.2.1 z.2.2.2.2.2.2.2).1.foldl pst z.2.2 = (prs f n n (sk f n 0) 0).1.foldl pst (0, P.2.1, P.2.2.1, P.2.2.2.1, P.2.2.2.2.1, 0)) (fun z => n - z.2.1) (fun z => [(1, .int (nI z.1)), (0, .ref r)]) (fun z => [(r, .inr (4, [.ref t, .ref q, .int (nI z.2.1)])), (t, .inr (6, [.ref b, .int (nI n)])), (b, .inl (ay 0, 300, .inl f)), (q, .inr (3, [.ref le, .ref nu, .int (nI z.2.2.1), .ref ls, .ref lt, .int (nI z.2.2.2.2.2.2.2)])), (le, .inl (ay 0, 200, .inl z.2.2.2.1)), (nu, .inl (ay 0, 200, .inl z.2.2.2.2.1)), (ls, .inl (ay 0, 4, .inl z.2.2.2.2.2.1)), (lt, .inl (ay 0, 4, .inl z.2.2.2.2.2.2.1))]) (0, sk f n 0, (0, P.2.1, P.2.2.1, P.2.2.2.1, P.2.2.2.2.1, 0)) ⟨Nat.zero_le _, sk_le (Nat.zero_le _), ⟨Nat.zero_le _, Nat.zero_le _, fun i hi => absurd hi (Nat.not_lt_zero i)⟩, congrArg (·.2) (prs_fuel f n _ _ _ _ (Nat.le_refl _) (Nat.sub_le _ _)), by rw [prs_fuel f n (n - sk f n 0) n _ _ (Nat.le_refl _) (Nat.sub_le _ _)]⟩ rfl rfl (fun z hI ih => ?_)
  obtain ⟨i, p1, P1⟩ := z
  obtain ⟨hi1, hi2, hi3, hi4, hi5⟩ := hI
  dsimp only at hi1 hi2 hi3 hi4 hi5
  show jJ p9 l e9 _ s9 m9 a9 b9 me9 c9 _ D A9 _ _ _ [(r, .inr (4, [.ref t, .ref q, .int (nI p1)])), (t, .inr (6, [.ref b, .int (nI n)])), (b, .inl (ay 0, 300, .inl f)), (q, .inr (3, [.ref le, .ref nu, .int (nI P1.1), .ref ls, .ref lt, .int (nI P1.2.2.2.2.2)])), (le, .inl (ay 0, 200, .inl P1.2.1)), (nu, .inl (ay 0, 200, .inl P1.2.2.1)), (ls, .inl (ay 0, 4, .inl P1.2.2.2.1)), (lt, .inl (ay 0, 4, .inl P1.2.2.2.2.1))] 19 [(1, .int (nI i)), (0, .ref r)] []
  refine j_iload_n F 0 dX4_read_19 rfl ?_
  refine j_sipush F (v := 300) dX4_read_20 (by decide) ?_
  refine j_icmp_ge F 58 dX4_read_23 (by decide) (fun c_23 => ?_) (fun c_23 => ?_)
  · skip
    have n_23 := (n_le 300 i rfl rfl (by omega) (by omega)).mp c_23
    refine j_aload_n F 1 dX4_read_58 rfl ?_
    refine j_getf F fX4_21 0 rfl rfl dX4_read_59 ?_
    refine j_callV F kX4_44 (As := []) (rest := []) (c_X3_isInLoop l D ay q le nu ls lt P1.1 P1.2.1 P1.2.2.1 P1.2.2.2.1 P1.2.2.2.2.1 P1.2.2.2.2.2 hi3.2.1) 3 [3, 4, 5, 6, 7] [0, 1, 2] [(r, .inr (4, [.ref t, .ref q, .int (nI p1)])), (t, .inr (6, [.ref b, .int (nI n)])), (b, .inl (ay 0, 300, .inl f))] rfl rfl rfl rfl rfl rfl rfl ⟨Nat.le_of_ble_eq_true rfl, Nat.le_of_ble_eq_true rfl⟩ dX4_read_62 (fun v w hw => ?_)
    obtain ⟨rfl, rfl⟩ := hw
    refine j_perm [0, 1, 2, 3, 4, 5, 6, 7] [(r, .inr (4, [.ref t, .ref q, .int (nI p1)])), (t, .inr (6, [.ref b, .int (nI n)])), (b, .inl (ay 0, 300, .inl f)), (q, .inr (3, [.ref le, .ref nu, .int (nI P1.1), .ref ls, .ref lt, .int (nI P1.2.2.2.2.2)])), (le, .inl (ay 0, 200, .inl P1.2.1)), (nu, .inl (ay 0, 200, .inl P1.2.2.1)), (ls, .inl (ay 0, 4, .inl P1.2.2.2.1)), (lt, .inl (ay 0, 4, .inl P1.2.2.2.2.1))] rfl rfl ?_
    by_cases h0 : 0 < P1.2.2.2.2.2
    · skip
      refine j_top 1 (if_pos h0) ?_
      refine j_if_eq F 75 dX4_read_65 (by decide) (fun c_65 => absurd c_65 (by decide)) (fun c_65 => ?_)
      refine j_aload_n F 1 dX4_read_68 rfl ?_
      refine j_getf F fX4_25 0 rfl rfl dX4_read_69 ?_
      refine j_goto F 76 dX4_read_72 (by decide) ?_
      rw [prs_end (show n ≤ p1 by omega)] at hi4 hi5
      exact j_iret F ⟨p1, P1, fun _ => hi5, hi3, congrArg (fun v => some (Value.int v)) ((if_pos h0).symm.trans hi4), rfl⟩ dX4_read_76 (Nat.le_of_ble_eq_true rfl) (Nat.le_of_ble_eq_true rfl)
    · skip
      refine j_top 0 (if_neg h0) ?_
      refine j_if_eq F 75 dX4_read_65 (by decide) (fun c_65 => ?_) (fun c_65 => absurd (by decide) c_65)
      refine j_iconst F (v := (-1)) dX4_read_75 (by decide) ?_
      rw [prs_end (show n ≤ p1 by omega)] at hi4 hi5
      exact j_iret F ⟨p1, P1, fun _ => hi5, hi3, congrArg (fun v => some (Value.int v)) ((if_neg h0).symm.trans hi4), rfl⟩ dX4_read_76 (Nat.le_of_ble_eq_true rfl) (Nat.le_of_ble_eq_true rfl)
  · skip
    have n_23 := mt (n_le 300 i rfl rfl (by omega) (by omega)).mpr c_23
    refine j_aload_n F 1 dX4_read_26 rfl ?_
    refine j_getf F fX4_25 0 rfl rfl dX4_read_27 ?_
    refine j_aload_n F 1 dX4_read_30 rfl ?_
    refine j_getf F fX4_12 0 rfl rfl dX4_read_31 ?_
    refine j_callV F kX4_36 (As := []) (rest := [.int (nI p1)]) (c_X6_length l D ay t b n f) 1 [1, 2] [0, 3, 4, 5, 6, 7] [(r, .inr (4, [.ref t, .ref q, .int (nI p1)])), (q, .inr (3, [.ref le, .ref nu, .int (nI P1.1), .ref ls, .ref lt, .int (nI P1.2.2.2.2.2)])), (le, .inl (ay 0, 200, .inl P1.2.1)), (nu, .inl (ay 0, 200, .inl P1.2.2.1)), (ls, .inl (ay 0, 4, .inl P1.2.2.2.1)), (lt, .inl (ay 0, 4, .inl P1.2.2.2.2.1))] rfl rfl rfl rfl rfl rfl rfl ⟨Nat.le_of_ble_eq_true rfl, Nat.le_of_ble_eq_true rfl⟩ dX4_read_34 (fun v w hw => ?_)
    obtain ⟨rfl, rfl⟩ := hw
    refine j_perm [0, 6, 7, 1, 2, 3, 4, 5] [(r, .inr (4, [.ref t, .ref q, .int (nI p1)])), (t, .inr (6, [.ref b, .int (nI n)])), (b, .inl (ay 0, 300, .inl f)), (q, .inr (3, [.ref le, .ref nu, .int (nI P1.1), .ref ls, .ref lt, .int (nI P1.2.2.2.2.2)])), (le, .inl (ay 0, 200, .inl P1.2.1)), (nu, .inl (ay 0, 200, .inl P1.2.2.1)), (ls, .inl (ay 0, 4, .inl P1.2.2.2.1)), (lt, .inl (ay 0, 4, .inl P1.2.2.2.2.1))] rfl rfl ?_
    refine j_icmp_ge F 58 dX4_read_37 (by decide) (fun c_37 => ?_) (fun c_37 => ?_)
    · skip
      have n_37 := (n_le n p1 rfl rfl (by omega) (by omega)).mp c_37
      refine j_aload_n F 1 dX4_read_58 rfl ?_
      refine j_getf F fX4_21 0 rfl rfl dX4_read_59 ?_
      refine j_callV F kX4_44 (As := []) (rest := []) (c_X3_isInLoop l D ay q le nu ls lt P1.1 P1.2.1 P1.2.2.1 P1.2.2.2.1 P1.2.2.2.2.1 P1.2.2.2.2.2 hi3.2.1) 3 [3, 4, 5, 6, 7] [0, 1, 2] [(r, .inr (4, [.ref t, .ref q, .int (nI p1)])), (t, .inr (6, [.ref b, .int (nI n)])), (b, .inl (ay 0, 300, .inl f))] rfl rfl rfl rfl rfl rfl rfl ⟨Nat.le_of_ble_eq_true rfl, Nat.le_of_ble_eq_true rfl⟩ dX4_read_62 (fun v w hw => ?_)
      obtain ⟨rfl, rfl⟩ := hw
      refine j_perm [0, 1, 2, 3, 4, 5, 6, 7] [(r, .inr (4, [.ref t, .ref q, .int (nI p1)])), (t, .inr (6, [.ref b, .int (nI n)])), (b, .inl (ay 0, 300, .inl f)), (q, .inr (3, [.ref le, .ref nu, .int (nI P1.1), .ref ls, .ref lt, .int (nI P1.2.2.2.2.2)])), (le, .inl (ay 0, 200, .inl P1.2.1)), (nu, .inl (ay 0, 200, .inl P1.2.2.1)), (ls, .inl (ay 0, 4, .inl P1.2.2.2.1)), (lt, .inl (ay 0, 4, .inl P1.2.2.2.2.1))] rfl rfl ?_
      by_cases h0 : 0 < P1.2.2.2.2.2
      · skip
        refine j_top 1 (if_pos h0) ?_
        refine j_if_eq F 75 dX4_read_65 (by decide) (fun c_65 => absurd c_65 (by decide)) (fun c_65 => ?_)
        refine j_aload_n F 1 dX4_read_68 rfl ?_
        refine j_getf F fX4_25 0 rfl rfl dX4_read_69 ?_
        refine j_goto F 76 dX4_read_72 (by decide) ?_
        rw [prs_end (show n ≤ p1 by omega)] at hi4 hi5
        exact j_iret F ⟨p1, P1, fun _ => hi5, hi3, congrArg (fun v => some (Value.int v)) ((if_pos h0).symm.trans hi4), rfl⟩ dX4_read_76 (Nat.le_of_ble_eq_true rfl) (Nat.le_of_ble_eq_true rfl)
      · skip
        refine j_top 0 (if_neg h0) ?_
        refine j_if_eq F 75 dX4_read_65 (by decide) (fun c_65 => ?_) (fun c_65 => absurd (by decide) c_65)
        refine j_iconst F (v := (-1)) dX4_read_75 (by decide) ?_
        rw [prs_end (show n ≤ p1 by omega)] at hi4 hi5
        exact j_iret F ⟨p1, P1, fun _ => hi5, hi3, congrArg (fun v => some (Value.int v)) ((if_neg h0).symm.trans hi4), rfl⟩ dX4_read_76 (Nat.le_of_ble_eq_true rfl) (Nat.le_of_ble_eq_true rfl)
    · skip
      have n_37 := mt (n_le n p1 rfl rfl (by omega) (by omega)).mpr c_37
      refine j_aload_n F 1 dX4_read_40 rfl ?_
      cases him : itm f n p1 P1.2.2.2.2.2 with
      | inr e1 =>
        refine j_callV F kX4_40 (As := []) (rest := []) (c_X4_readPart_no l D ay r t q p1 b n f le nu ls lt P1 e1 hn (by omega) hi3 him) 0 [0, 1, 2, 3, 4, 5, 6, 7] [] [] rfl rfl rfl rfl rfl rfl rfl ⟨Nat.le_of_ble_eq_true rfl, Nat.le_of_ble_eq_true rfl⟩ dX4_read_41 (fun v w hw => ?_)
        obtain ⟨rfl, rfl⟩ := hw
        refine j_perm [0, 1, 2, 3, 4, 5, 6, 7] [(r, .inr (4, [.ref t, .ref q, .int (nI e1)])), (t, .inr (6, [.ref b, .int (nI n)])), (b, .inl (ay 0, 300, .inl f)), (q, .inr (3, [.ref le, .ref nu, .int (nI P1.1), .ref ls, .ref lt, .int (nI P1.2.2.2.2.2)])), (le, .inl (ay 0, 200, .inl P1.2.1)), (nu, .inl (ay 0, 200, .inl P1.2.2.1)), (ls, .inl (ay 0, 4, .inl P1.2.2.2.1)), (lt, .inl (ay 0, 4, .inl P1.2.2.2.2.1))] rfl rfl ?_
        refine j_if_ne F 52 dX4_read_44 (by decide) (fun c_44 => absurd (by decide) c_44) (fun c_44 => ?_)
        refine j_aload_n F 1 dX4_read_47 rfl ?_
        refine j_getf F fX4_25 0 rfl rfl dX4_read_48 ?_
        rw [prs_no (by omega) him] at hi4
        exact j_iret F ⟨e1, P1, fun h => by rw [← hi4] at h; have h : nI e1 = -1 := h; exact absurd h (nI_m1 (by have := itm_er (by omega) him; omega)), hi3, congrArg (fun v => some (Value.int v)) hi4, rfl⟩ dX4_read_51 (Nat.le_of_ble_eq_true rfl) (Nat.le_of_ble_eq_true rfl)
      | inl z =>
        obtain ⟨kd, x, p2⟩ := z
        have hlt := itm_lt (by omega) him
        have hst := PI_st hi3 him
        have hok := prs_ok (by omega) him
        refine j_callV F kX4_40 (As := []) (rest := []) (c_X4_readPart l D ay r t q p1 b n f le nu ls lt P1 kd x p2 hn (by omega) hi3 him) 0 [0, 1, 2, 3, 4, 5, 6, 7] [] [] rfl rfl rfl rfl rfl rfl rfl ⟨Nat.le_of_ble_eq_true rfl, Nat.le_of_ble_eq_true rfl⟩ dX4_read_41 (fun v w hw => ?_)
        obtain ⟨rfl, rfl⟩ := hw
        refine j_perm [0, 1, 2, 3, 4, 5, 6, 7] [(r, .inr (4, [.ref t, .ref q, .int (nI p2)])), (t, .inr (6, [.ref b, .int (nI n)])), (b, .inl (ay 0, 300, .inl f)), (q, .inr (3, [.ref le, .ref nu, .int (nI (pst P1 (kd, x)).1), .ref ls, .ref lt, .int (nI (pst P1 (kd, x)).2.2.2.2.2)])), (le, .inl (ay 0, 200, .inl ((pst P1 (kd, x)).2.1))), (nu, .inl (ay 0, 200, .inl ((pst P1 (kd, x)).2.2.1))), (ls, .inl (ay 0, 4, .inl ((pst P1 (kd, x)).2.2.2.1))), (lt, .inl (ay 0, 4, .inl ((pst P1 (kd, x)).2.2.2.2.1)))] rfl rfl ?_
        refine j_if_ne F 52 dX4_read_44 (by decide) (fun c_44 => ?_) (fun c_44 => absurd c_44 (by decide))
        refine j_iinc F 0 (nI (i + 1)) [(1, .int (nI (i + 1))), (0, .ref r)] dX4_read_52 rfl (nI_1 _) (by decide) rfl ?_
        refine j_goto F 19 dX4_read_55 (by decide) ?_
        exact ih (i + 1, p2, pst P1 (kd, x)) ⟨by show i + 1 ≤ p2; omega, hlt.2, hst.1, by rw [hok] at hi4; show (prs f n (n - p2) p2 (pst P1 (kd, x)).2.2.2.2.2).2 = _; rw [hst.2]; exact hi4, by rw [hok] at hi5; show (prs f n (n - p2) p2 (pst P1 (kd, x)).2.2.2.2.2).1.foldl pst (pst P1 (kd, x)) = _; rw [hst.2]; exact hi5⟩ (by show n - p2 < n - p1; omega)
