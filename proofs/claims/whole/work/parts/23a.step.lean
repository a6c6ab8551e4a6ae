theorem aI_fr {Z T : DS} (h : aI Z) (h1 : ∀ q, q < 15 → T.1 q = Z.1 q) (h3 : ∀ q, q < 15 → T.2.2 q = Z.2.2 q) : aI T := by
  refine ⟨fun i hi => ?_, ?_, ?_⟩
  · rw [h1 _ (by omega), h3 _ (by omega)]; exact h.1 i hi
  · rw [h1 _ (by omega), h3 _ (by omega)]; exact h.2.1
  · rw [h1 _ (by omega)]; exact h.2.2
theorem rd_fr (Z : DS) (pos : Nat) (P : PS) (x : Int32) (n : Nat) (f : Nat → Int32) : (∀ q, q < 15 → (tU (eU (rU Z pos P) x) n f).1 q = Z.1 q) ∧ (∀ q, q < 15 → (tU (eU (rU Z pos P) x) n f).2.2 q = Z.2.2 q) :=
  ⟨fun q hq => (ups_ne (by omega)).trans ((ups_ne (by omega)).trans ((ups_ne (by omega)).trans (ups_ne (by omega)))), fun q hq => (ups_ne (by omega)).trans ((ups_ne (by omega)).trans ((ups_ne (by omega)).trans ((ups_ne (by omega)).trans (ups_ne (by omega)))))⟩
def apd (Z : DS) (x : Int32) : DS := tU Z (Z.1 15 + bcnt x 4) (brow (Z.2.2 15) (Z.1 15) x 4)
/-- the machine's steps -/
def mstC (T : DS) (x : Int32) : DS := xU T (T.1 19) x (T.2.1 20) (T.2.1 21) (T.2.2 20) (T.2.2 21) (T.2.2 22) (T.1 11) (T.2.2 23)
def mstL (T : DS) (a : Nat) : DS := xU T (T.1 19) (acH (T.2.2 20) (T.2.2 21) (T.2.2 23) (T.1 11) (a / 4) a) (if fx (T.2.2 23) (nI (a / 4)) (T.1 11) < (T.1 11) then (T.2.1 20) else (T.2.1 20) + 1) (if usN (T.2.2 23) (T.1 11) (nI (a / 4)) ≤ (T.1 19) ∨ (T.2.2 22) (kN (usF (T.2.2 23) (T.1 11) (nI (a / 4))) 0) = 0 then (T.2.1 21) else (T.2.1 21) + 1) (if usN (T.2.2 23) (T.1 11) (nI (a / 4)) ≤ (T.1 19) ∨ (T.2.2 22) (kN (usF (T.2.2 23) (T.1 11) (nI (a / 4))) 0) = 0 then (T.2.2 20) else cpI (acH (T.2.2 20) (T.2.2 21) (T.2.2 23) (T.1 11) (a / 4)) (T.2.2 20) (4 * (kN (usF (T.2.2 23) (T.1 11) (nI (a / 4))) 0)) (4 * (kN (usF (T.2.2 23) (T.1 11) (nI (a / 4))) 0) + 4)) (acH (T.2.2 20) (T.2.2 21) (T.2.2 23) (T.1 11) (a / 4)) (if usN (T.2.2 23) (T.1 11) (nI (a / 4)) ≤ (T.1 19) ∨ (T.2.2 22) (kN (usF (T.2.2 23) (T.1 11) (nI (a / 4))) 0) = 0 then (T.2.2 22) else upd (T.2.2 22) (kN (usF (T.2.2 23) (T.1 11) (nI (a / 4))) 0) 0) (stN (T.2.2 23) (T.1 11) (nI (a / 4)) (T.1 19)) (stF (T.2.2 23) (T.1 11) (nI (a / 4)) (T.1 19))
def mstA (T : DS) (a : Nat) : DS := xU T (T.1 19) ((T.2.1 19) + acH (T.2.2 20) (T.2.2 21) (T.2.2 23) (T.1 11) (a / 4) a) (if fx (T.2.2 23) (nI (a / 4)) (T.1 11) < (T.1 11) then (T.2.1 20) else (T.2.1 20) + 1) (if usN (T.2.2 23) (T.1 11) (nI (a / 4)) ≤ (T.1 19) ∨ (T.2.2 22) (kN (usF (T.2.2 23) (T.1 11) (nI (a / 4))) 0) = 0 then (T.2.1 21) else (T.2.1 21) + 1) (if usN (T.2.2 23) (T.1 11) (nI (a / 4)) ≤ (T.1 19) ∨ (T.2.2 22) (kN (usF (T.2.2 23) (T.1 11) (nI (a / 4))) 0) = 0 then (T.2.2 20) else cpI (acH (T.2.2 20) (T.2.2 21) (T.2.2 23) (T.1 11) (a / 4)) (T.2.2 20) (4 * (kN (usF (T.2.2 23) (T.1 11) (nI (a / 4))) 0)) (4 * (kN (usF (T.2.2 23) (T.1 11) (nI (a / 4))) 0) + 4)) (acH (T.2.2 20) (T.2.2 21) (T.2.2 23) (T.1 11) (a / 4)) (if usN (T.2.2 23) (T.1 11) (nI (a / 4)) ≤ (T.1 19) ∨ (T.2.2 22) (kN (usF (T.2.2 23) (T.1 11) (nI (a / 4))) 0) = 0 then (T.2.2 22) else upd (T.2.2 22) (kN (usF (T.2.2 23) (T.1 11) (nI (a / 4))) 0) 0) (stN (T.2.2 23) (T.1 11) (nI (a / 4)) (T.1 19)) (stF (T.2.2 23) (T.1 11) (nI (a / 4)) (T.1 19))
def mstS (T : DS) (a : Nat) : DS := xU T (T.1 19) (T.2.1 19) (if fx (T.2.2 23) (nI (a / 4)) (T.1 11) < (T.1 11) then (T.2.1 20) else (T.2.1 20) + 1) (if usN (T.2.2 23) (T.1 11) (nI (a / 4)) ≤ (T.1 19) ∨ (T.2.2 22) (kN (usF (T.2.2 23) (T.1 11) (nI (a / 4))) 0) = 0 then (T.2.1 21) else (T.2.1 21) + 1) (if usN (T.2.2 23) (T.1 11) (nI (a / 4)) ≤ (T.1 19) ∨ (T.2.2 22) (kN (usF (T.2.2 23) (T.1 11) (nI (a / 4))) 0) = 0 then (T.2.2 20) else cpI (acH (T.2.2 20) (T.2.2 21) (T.2.2 23) (T.1 11) (a / 4)) (T.2.2 20) (4 * (kN (usF (T.2.2 23) (T.1 11) (nI (a / 4))) 0)) (4 * (kN (usF (T.2.2 23) (T.1 11) (nI (a / 4))) 0) + 4)) (upd (acH (T.2.2 20) (T.2.2 21) (T.2.2 23) (T.1 11) (a / 4)) a (T.2.1 19)) (upd (if usN (T.2.2 23) (T.1 11) (nI (a / 4)) ≤ (T.1 19) ∨ (T.2.2 22) (kN (usF (T.2.2 23) (T.1 11) (nI (a / 4))) 0) = 0 then (T.2.2 22) else upd (T.2.2 22) (kN (usF (T.2.2 23) (T.1 11) (nI (a / 4))) 0) 0) (a / 4) 1) (stN (T.2.2 23) (T.1 11) (nI (a / 4)) (T.1 19)) (stF (T.2.2 23) (T.1 11) (nI (a / 4)) (T.1 19))
/-- a step of a program, its number's key asked for first -/
def stepS (Z : DS) (L x : Int32) : DS := if L = 99 then mstC Z x else if L = 108 then mstL (askS Z (nI (x.toInt.toNat / 4))) x.toInt.toNat else if L = 97 then mstA (askS Z (nI (x.toInt.toNat / 4))) x.toInt.toNat else mstS (askS Z (nI (x.toInt.toNat / 4))) x.toInt.toNat
def stepV (L x : Int32) : Prop := L = 99 ∨ ((L = 108 ∨ L = 97 ∨ L = 115) ∧ ∃ a, a < 64 ∧ x = nI a)
def stV (P : PS) : Prop := P.1 ≤ 200 ∧ ∀ i, i < P.1 → stepV (P.2.1 i) (P.2.2.1 i)
/-- the first i steps -/
def runF (T : DS) (L M : Nat → Int32) : Nat → DS
  | 0 => T
  | i + 1 => stepS (runF T L M i) (L i) (M i)
/-- pages in a row -/
def k16 (n : Nat) (f : Nat → Int32) : Prop := ∀ j, j < n → kN f j < 16
def xI (Z : DS) : Prop := kI (Z.1 11) (Z.2.2 23) ∧ k16 (Z.1 11) (Z.2.2 23) ∧ 1 ≤ Z.1 19 ∧ Z.1 19 ≤ 8
theorem kN_x {a : Nat} (h : a < 2 ^ 31) : (nI a).toInt.toNat = a := by rw [nI_toInt h]; rfl
theorem k16.del {n p : Nat} {f : Nat → Int32} (h : k16 n f) (hp : p < n) : k16 (n - 1) (shf f p n) := fun j hj => by
  obtain ⟨i, hi, -, e⟩ := shf_mem (f := f) hp hj
  show (shf f p n j).toInt.toNat < 16
  rw [e]
  exact h i hi
theorem k16.add {n y : Nat} {f : Nat → Int32} (h : k16 n f) (hy : y < 16) : k16 (n + 1) (upd f n (nI y)) := fun j hj => by
  show (if j = n then nI y else f j).toInt.toNat < 16
  by_cases e : j = n
  · rw [if_pos e, kN_x (by omega)]; exact hy
  · rw [if_neg e]; exact h j (by omega)
theorem k16.use {n y : Nat} {f : Nat → Int32} (h : k16 n f) (hy : y < 16) : k16 (usN f n (nI y)) (usF f n (nI y)) := by
  unfold usN usF
  by_cases h1 : fx f (nI y) n < n
  · rw [if_pos h1, if_pos h1]
    have h2 := (h.del h1).add hy
    rw [show n - 1 + 1 = n by omega] at h2
    exact h2
  · rw [if_neg h1, if_neg h1]; exact h.add hy
theorem k16.st {n y b : Nat} {f : Nat → Int32} (h : k16 n f) (hy : y < 16) : k16 (stN f n (nI y) b) (stF f n (nI y) b) := by
  have h1 := h.use hy
  unfold stN stF
  by_cases hb : usN f n (nI y) ≤ b
  · rw [if_pos hb, if_pos hb]; exact h1
  · rw [if_neg hb, if_neg hb]; exact h1.del (by omega)
theorem xI.v {Z : DS} (h : xI Z) {p : Nat} (hp : p < 16) : ¬ usN (Z.2.2 23) (Z.1 11) (nI p) ≤ Z.1 19 → usF (Z.2.2 23) (Z.1 11) (nI p) 0 = nI (kN (usF (Z.2.2 23) (Z.1 11) (nI p)) 0) ∧ kN (usF (Z.2.2 23) (Z.1 11) (nI p)) 0 < 16 := fun _ =>
  ⟨((h.1.use (y := p) (by omega)).k 0 usN_pos).2, h.2.1.use hp 0 usN_pos⟩
theorem stepS_c (Z : DS) (x : Int32) : stepS Z 99 x = mstC Z x := if_pos rfl
theorem stepS_l (Z : DS) {a : Nat} (h : a < 64) : stepS Z 108 (nI a) = mstL (askS Z (nI (a / 4))) a := by
  rw [stepS, if_neg (by decide), if_pos rfl, kN_x (by omega)]
theorem stepS_a (Z : DS) {a : Nat} (h : a < 64) : stepS Z 97 (nI a) = mstA (askS Z (nI (a / 4))) a := by
  rw [stepS, if_neg (by decide), if_neg (by decide), if_pos rfl, kN_x (by omega)]
theorem stepS_s (Z : DS) {a : Nat} (h : a < 64) : stepS Z 115 (nI a) = mstS (askS Z (nI (a / 4))) a := by
  rw [stepS, if_neg (by decide), if_neg (by decide), if_neg (by decide), kN_x (by omega)]
/-- a step leaves these places -/
def frS (Z T : DS) : Prop := (∀ q, q < 2 ∨ (12 ≤ q ∧ q < 14) ∨ 15 ≤ q → T.1 q = Z.1 q) ∧ (∀ q, q < 11 → T.2.1 q = Z.2.1 q) ∧ (∀ q, q < 4 ∨ (15 ≤ q ∧ q < 20) → T.2.2 q = Z.2.2 q)
theorem askS_fr (Z : DS) (key : Int32) : (∀ q, q < 2 ∨ q = 11 ∨ (12 ≤ q ∧ q < 14) ∨ 15 ≤ q → (askS Z key).1 q = Z.1 q) ∧ (∀ q, q < 11 ∨ 19 ≤ q → (askS Z key).2.1 q = Z.2.1 q) ∧ (∀ q, q < 4 ∨ 15 ≤ q → (askS Z key).2.2 q = Z.2.2 q) := by
  obtain ⟨a, b, c⟩ := askC_fr Z key 8 (Nat.le_refl _)
  refine ⟨fun q hq => ?_, fun q hq => b q (by omega), fun q hq => ?_⟩
  · exact (ups_ne (by omega)).trans ((ups_ne (by omega)).trans (a q (by omega)))
  · exact (ups_ne (by omega)).trans ((ups_ne (by omega)).trans ((ups_ne (by omega)).trans (c q (by omega))))
theorem xU_fr {T : DS} {fr : Nat} {ac fc wc : Int32} {dd hh yy : Nat → Int32} {n : Nat} {f : Nat → Int32} : (∀ q, q ≠ 19 → q ≠ 11 → (xU T fr ac fc wc dd hh yy n f).1 q = T.1 q) ∧ (∀ q, q < 19 → (xU T fr ac fc wc dd hh yy n f).2.1 q = T.2.1 q) ∧ (∀ q, q < 20 → (xU T fr ac fc wc dd hh yy n f).2.2 q = T.2.2 q) := by
  refine ⟨fun q h1 h2 => (ups_ne h2).trans (ups_ne h1), fun q hq => (ups_ne (by omega)).trans ((ups_ne (by omega)).trans (ups_ne (by omega))), fun q hq => (ups_ne (by omega)).trans ((ups_ne (by omega)).trans ((ups_ne (by omega)).trans (ups_ne (by omega))))⟩
theorem askS_k {Z : DS} {y : Nat} (h : aI Z) (hy : y < 100) (hc : Z.1 14 < 1000) : aI (askS Z (nI y)) ∧ (askS Z (nI y)).1 14 = Z.1 14 + 1 := by
  have key : ∀ i, i ≤ 8 → ∀ j, j < i → kI ((askC Z (nI y) i).1 (2 + j)) ((askC Z (nI y) i).2.2 (4 + j)) := by
    intro i
    induction i with
    | zero => intro _ j hj; omega
    | succ i ih =>
      intro hi j hj
      show kI (ups (askC Z (nI y) i).1 (2 + i) (stN ((askC Z (nI y) i).2.2 (4 + i)) ((askC Z (nI y) i).1 (2 + i)) (nI y) (i + 1)) (2 + j)) (ups (askC Z (nI y) i).2.2 (4 + i) (stF ((askC Z (nI y) i).2.2 (4 + i)) ((askC Z (nI y) i).1 (2 + i)) (nI y) (i + 1)) (4 + j))
      by_cases e : j = i
      · rw [e, ups_at, ups_at]; exact (askC_k h (by omega)).st hy _
      · rw [ups_ne (by omega), ups_ne (by omega)]; exact ih (by omega) j (by omega)
  have e1 : (askS Z (nI y)).1 14 = Z.1 14 + 1 := rfl
  refine ⟨⟨fun i hi => ?_, ?_, by rw [e1]; omega⟩, e1⟩
  · have e2 : (askS Z (nI y)).1 (2 + i) = (askC Z (nI y) 8).1 (2 + i) := (ups_ne (by omega)).trans (ups_ne (by omega))
    have e3 : (askS Z (nI y)).2.2 (4 + i) = (askC Z (nI y) 8).2.2 (4 + i) := (ups_ne (by omega)).trans ((ups_ne (by omega)).trans (ups_ne (by omega)))
    rw [e2, e3]
    exact key 8 (Nat.le_refl _) i hi
  · have e2 : (askS Z (nI y)).1 10 = usN (Z.2.2 14) (Z.1 10) (nI y) := rfl
    have e3 : (askS Z (nI y)).2.2 14 = usF (Z.2.2 14) (Z.1 10) (nI y) := rfl
    rw [e2, e3]
    exact h.2.1.use hy
/-- what a step keeps -/
def stI (Z T : DS) (d : Nat) : Prop := aI T ∧ xI T ∧ T.1 14 ≤ Z.1 14 + d ∧ frS Z T
theorem stI_x {Z T : DS} {fr d : Nat} {ac fc wc : Int32} {dd hh yy : Nat → Int32} {n : Nat} {f : Nat → Int32} (h1 : aI T) (h2 : T.1 14 ≤ Z.1 14 + d) (h3 : frS Z T) (hn : kI n f) (h16 : k16 n f) (hf : fr = T.1 19) (hfr : 1 ≤ T.1 19 ∧ T.1 19 ≤ 8) : stI Z (xU T fr ac fc wc dd hh yy n f) d := by
  obtain ⟨a, b, c⟩ := xU_fr (T := T) (fr := fr) (ac := ac) (fc := fc) (wc := wc) (dd := dd) (hh := hh) (yy := yy) (n := n) (f := f)
  have e1 : (xU T fr ac fc wc dd hh yy n f).1 11 = n := rfl
  have e2 : (xU T fr ac fc wc dd hh yy n f).1 19 = fr := rfl
  have e3 : (xU T fr ac fc wc dd hh yy n f).2.2 23 = f := rfl
  refine ⟨⟨fun i hi => ?_, ?_, ?_⟩, ⟨?_, ?_, ?_⟩, ?_, ⟨fun q hq => ?_, fun q hq => ?_, fun q hq => ?_⟩⟩
  · rw [a _ (by omega) (by omega), c _ (by omega)]; exact h1.1 i hi
  · rw [a _ (by omega) (by omega), c _ (by omega)]; exact h1.2.1
  · rw [a _ (by omega) (by omega)]; exact h1.2.2
  · rw [e1, e3]; exact hn
  · rw [e1, e3]; exact h16
  · rw [e2, hf]; exact hfr
  · rw [a _ (by omega) (by omega)]; exact h2
  · by_cases h19 : q = 19
    · rw [h19, e2, hf]; exact h3.1 19 (by omega)
    · rw [a q h19 (by omega)]; exact h3.1 q hq
  · rw [b q (by omega)]; exact h3.2.1 q hq
  · rw [c q (by omega)]; exact h3.2.2 q hq
theorem stepS_I {Z : DS} {L x : Int32} (hv : stepV L x) (hA : aI Z) (hX : xI Z) (hc : Z.1 14 < 1000) : stI Z (stepS Z L x) 1 := by
  have fr0 : frS Z Z := ⟨fun _ _ => rfl, fun _ _ => rfl, fun _ _ => rfl⟩
  have key : ∀ a, a < 64 → aI (askS Z (nI (a / 4))) ∧ (askS Z (nI (a / 4))).1 14 ≤ Z.1 14 + 1 ∧ frS Z (askS Z (nI (a / 4))) ∧ xI (askS Z (nI (a / 4))) := fun a ha => by
    obtain ⟨h1, h2⟩ := askS_k (y := a / 4) hA (by omega) hc
    obtain ⟨f1, f2, f3⟩ := askS_fr Z (nI (a / 4))
    refine ⟨h1, by omega, ⟨fun q hq => f1 q (by omega), fun q hq => f2 q (by omega), fun q hq => f3 q (by omega)⟩, ?_⟩
    unfold xI
    rw [f1 11 (by omega), f1 19 (by omega), f3 23 (by omega)]
    exact hX
  rcases hv with rfl | ⟨h, a, ha, rfl⟩
  · rw [stepS_c]; exact stI_x hA (by omega) fr0 hX.1 hX.2.1 rfl hX.2.2
  · obtain ⟨k1, k2, k3, k4⟩ := key a ha
    rcases h with rfl | rfl | rfl
    · rw [stepS_l Z ha]; exact stI_x k1 k2 k3 (k4.1.st (y := a / 4) (by omega) _) (k4.2.1.st (y := a / 4) (by omega)) rfl k4.2.2
    · rw [stepS_a Z ha]; exact stI_x k1 k2 k3 (k4.1.st (y := a / 4) (by omega) _) (k4.2.1.st (y := a / 4) (by omega)) rfl k4.2.2
    · rw [stepS_s Z ha]; exact stI_x k1 k2 k3 (k4.1.st (y := a / 4) (by omega) _) (k4.2.1.st (y := a / 4) (by omega)) rfl k4.2.2
theorem runF_I {T : DS} {P : PS} (hV : stV P) (hA : aI T) (hX : xI T) (hc : T.1 14 ≤ 800) : ∀ i, i ≤ P.1 → stI T (runF T P.2.1 P.2.2.1 i) i
  | 0, _ => ⟨hA, hX, Nat.le_refl _, fun _ _ => rfl, fun _ _ => rfl, fun _ _ => rfl⟩
  | i + 1, h => by
    obtain ⟨h1, h2, h3, h4⟩ := runF_I hV hA hX hc i (by omega)
    have h5 := hV.1
    obtain ⟨g1, g2, g3, g4⟩ := stepS_I (hV.2 i (by omega)) h1 h2 (by omega)
    exact ⟨g1, g2, by show (stepS _ _ _).1 14 ≤ _; omega, fun q hq => (g4.1 q hq).trans (h4.1 q hq), fun q hq => (g4.2.1 q hq).trans (h4.2.1 q hq), fun q hq => (g4.2.2 q hq).trans (h4.2.2 q hq)⟩
