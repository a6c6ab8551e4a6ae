theorem clr1_C {T : DS} {i : Nat} {g5 g6 g7 : Nat → Int32} (h : gC T g5 g6 g7) (hi : i < 8) : gC (cU T i 0 (T.2.2 (4 + i)) 0) g5 (upd g6 (i + 1) 0) (upd g7 (i + 1) 0) := by
  intro q hq
  by_cases e : q = i
  · subst e
    have a1 : (cU T q 0 (T.2.2 (4 + q)) 0).1 (2 + q) = 0 := ups_at
    have a2 : (cU T q 0 (T.2.2 (4 + q)) 0).2.1 (11 + q) = 0 := ups_at
    rw [a1, a2]
    exact ⟨Nat.zero_le _, upd_s, upd_s, fun _ h => absurd h (Nat.not_lt_zero _)⟩
  · have a1 : (cU T i 0 (T.2.2 (4 + i)) 0).1 (2 + q) = T.1 (2 + q) := ups_ne (by omega)
    have a2 : (cU T i 0 (T.2.2 (4 + i)) 0).2.2 (4 + q) = T.2.2 (4 + q) := ups_ne (by omega)
    have a3 : (cU T i 0 (T.2.2 (4 + i)) 0).2.1 (11 + q) = T.2.1 (11 + q) := ups_ne (by omega)
    rw [a1, a2, a3]
    obtain ⟨b1, b2, b3, b4⟩ := h q hq
    exact ⟨b1, (upd_o (by omega)).trans b2, (upd_o (by omega)).trans b3, b4⟩
theorem clr_G {Z : DS} {vi vi' : Nat → Int32} {ga ga' : Nat → Nat → Int32} (hG : GI Z vi ga) (hv : ∀ q, 1 ≤ q → q ≠ 13 → vi' q = vi q) (h13 : vi' 13 = 0) (hg : ∀ q, q < 6 ∨ 7 < q → ga' q = ga q) (hC : gC (clrC Z 8) (ga' 5) (ga' 6) (ga' 7)) : GI (lU (clrC Z 8) 0 (Z.2.2 12) (Z.2.2 13) 0 (Z.2.2 14)) vi' ga' := by
  obtain ⟨h1, h2, h3, h4, h5, h6, h7, h9⟩ := hG
  obtain ⟨c1, c2, c3⟩ := clrC_fr Z 8 (Nat.le_refl _)
  have f1 : ∀ q, q < 2 ∨ q = 11 ∨ q = 12 ∨ q = 13 ∨ 15 ≤ q → (lU (clrC Z 8) 0 (Z.2.2 12) (Z.2.2 13) 0 (Z.2.2 14)).1 q = Z.1 q := fun q hq => (ups_ne (by omega)).trans ((ups_ne (by omega)).trans (c1 q (by omega)))
  have f2 : ∀ q, q < 11 ∨ 19 ≤ q → (lU (clrC Z 8) 0 (Z.2.2 12) (Z.2.2 13) 0 (Z.2.2 14)).2.1 q = Z.2.1 q := fun q hq => c2 q (by omega)
  have f3 : ∀ q, q < 12 ∨ 15 ≤ q → (lU (clrC Z 8) 0 (Z.2.2 12) (Z.2.2 13) 0 (Z.2.2 14)).2.2 q = Z.2.2 q := fun q hq => (ups_ne (by omega)).trans ((ups_ne (by omega)).trans ((ups_ne (by omega)).trans (c3 q)))
  have hz : ∀ i, i ≤ 8 → ∀ q, q < i → (clrC Z i).1 (2 + q) = 0 := by
    intro i
    induction i with
    | zero => intro _ q hq; omega
    | succ i ih =>
      intro hi q hq
      show ups (clrC Z i).1 (2 + i) 0 (2 + q) = 0
      by_cases e : q = i
      · rw [e, ups_at]
      · rw [ups_ne (by omega)]; exact ih (by omega) q (by omega)
  refine ⟨fun m hm => ?_, ?_, ⟨fun i hi => ?_, kI_0, Nat.zero_le _⟩, ?_, ?_, ?_, ?_, ?_⟩
  · rw [hg 0 (by omega), hg 1 (by omega), hg 2 (by omega), hg 3 (by omega), hg 4 (by omega)]
    exact gM_fr (h1 m hm) (f1 _ (by omega)) (f1 _ (by omega)) (f2 _ (by omega)) (f2 _ (by omega)) (f2 _ (by omega)) (f3 _ (by omega)) (f3 _ (by omega)) rfl (fun _ _ => ⟨rfl, rfl⟩) rfl rfl
  · rw [hv 4 (by omega) (by omega), hv 5 (by omega) (by omega), hv 6 (by omega) (by omega)]
    exact gB_fr h2 (f1 _ (by omega)) (f1 _ (by omega)) (f2 _ (by omega)) (f2 _ (by omega))
  · have e : (lU (clrC Z 8) 0 (Z.2.2 12) (Z.2.2 13) 0 (Z.2.2 14)).1 (2 + i) = 0 := (ups_ne (by omega)).trans ((ups_ne (by omega)).trans (hz 8 (Nat.le_refl _) i hi))
    rw [e]; exact kI_0
  · exact gC_fr hC (fun q _ _ => (ups_ne (by omega)).trans (ups_ne (by omega))) (fun _ _ _ => rfl) (fun q _ _ => (ups_ne (by omega)).trans ((ups_ne (by omega)).trans (ups_ne (by omega))))
  · exact ⟨h13, fun _ h => absurd h (Nat.not_lt_zero _), LO_0, fun _ h => absurd h (Nat.not_lt_zero _)⟩
  · rw [hg 10 (by omega), hv 16 (by omega) (by omega)]
    exact gT_fr h6 (f1 _ (by omega)) (f3 _ (by omega))
  · rw [hv 24 (by omega) (by omega), f2 0 (by omega)]; exact h7
  · rw [hg 15 (by omega), hg 16 (by omega), hg 17 (by omega), hg 18 (by omega), hv 31 (by omega) (by omega), hv 32 (by omega) (by omega), hv 33 (by omega) (by omega), hv 34 (by omega) (by omega), hv 35 (by omega) (by omega)]
    exact gX_fr h9 (f1 _ (by omega)) (f1 _ (by omega)) (fun q _ _ => f2 q (by omega)) (fun q _ _ => f3 q (by omega))
/-! ===== distances ===== -/
def LL (f : Nat → Int32) (n : Nat) (R : Nat → Int32) (c : Nat) (L : Nat → Nat) : Prop := (∀ j, j < n → L j < c ∧ R (L j) = f j ∧ ∀ t, L j < t → t < c → ¬ R t = f j) ∧ (∀ i j, i < j → j < n → L i < L j) ∧ ∀ t, t < c → ∃ j, j < n ∧ f j = R t
/-- the places below t are still to be looked at, q keys were met -/
def dI (f : Nat → Int32) (n : Nat) (R : Nat → Int32) (r : Nat) (L : Nat → Nat) (t q : Nat) (g : Nat → Int32) : Prop := t ≤ r ∧ q ≤ n ∧ (∀ s, t ≤ s → s < r → ¬ R s = R r) ∧ (∀ j, j < n → (t ≤ L j ↔ n ≤ q + j)) ∧ ∀ j, j < n → g (kN f j) = if n ≤ q + j then 1 else 0
theorem d_0 {f R g : Nat → Int32} {n r : Nat} {L : Nat → Nat} (hL : LL f n R r L) (hg : ∀ j, j < n → g (kN f j) = 0) : dI f n R r L r 0 g := by
  refine ⟨Nat.le_refl _, Nat.zero_le _, fun s h1 h2 => by omega, fun j hj => ?_, fun j hj => ?_⟩
  · have := (hL.1 j hj).1; omega
  · rw [if_neg (by omega)]; exact hg j hj
theorem d_near {f R g : Nat → Int32} {n r t q : Nat} {L : Nat → Nat} (hL : LL f n R r L) (hd : dI f n R r L (t + 1) q g) {j : Nat} (hj : j < n) (e : L j = t) : q + j + 1 = n := by
  obtain ⟨d1, d2, d3, d4, d5⟩ := hd
  have h1 := d4 j hj
  by_cases h : j + 1 < n
  · have h2 := d4 (j + 1) h
    have h3 := hL.2.1 j (j + 1) (by omega) h
    omega
  · omega
theorem d_hit {f R g : Nat → Int32} {n r t q : Nat} {L : Nat → Nat} (hk : kI n f) (hL : LL f n R r L) (hd : dI f n R r L (t + 1) q g) (h : R t = R r) : dsI f n (R r) = nI q := by
  have hd' := hd
  obtain ⟨d1, d2, d3, d4, d5⟩ := hd
  obtain ⟨j, hj, e⟩ := hL.2.2 t (by omega)
  obtain ⟨l1, l2, l3⟩ := hL.1 j hj
  have eL : L j = t := by
    rcases Nat.lt_trichotomy (L j) t with h1 | h1 | h1
    · exact absurd e.symm (l3 t h1 (by omega))
    · exact h1
    · exact absurd (l2.trans (e.trans h)) (d3 (L j) (by omega) l1)
  have hn := d_near hL hd' hj eL
  have efx : fx f (R r) n = j := fx_at hj (fun i hi e2 => hk.2.2 i j hi hj (e2.trans (h.symm.trans e.symm))) (e.trans h)
  unfold dsI
  rw [efx, if_pos hj]
  congr 1
  omega
theorem d_none {f R g : Nat → Int32} {n r q : Nat} {L : Nat → Nat} (hL : LL f n R r L) (hd : dI f n R r L 0 q g) : dsI f n (R r) = -1 := by
  unfold dsI
  rw [fx_none (f := f) (fun j hj e => ?_), if_neg (by omega)]
  obtain ⟨l1, l2, l3⟩ := hL.1 j hj
  exact hd.2.2.1 (L j) (Nat.zero_le _) l1 (l2.trans e)
theorem kI.inj {n : Nat} {f : Nat → Int32} (h : kI n f) {i j : Nat} (hi : i < n) (hj : j < n) (e : f i = f j) : i = j := by
  rcases Nat.lt_trichotomy i j with h1 | h1 | h1
  · exact absurd e (h.2.2 i j h1 hj)
  · exact h1
  · exact absurd e.symm (h.2.2 j i h1 hi)
theorem kI.kne {n : Nat} {f : Nat → Int32} (h : kI n f) {i j : Nat} (hi : i < n) (hj : j < n) (e : i ≠ j) : kN f i ≠ kN f j := fun e2 => e (h.inj hi hj (by rw [(h.k i hi).2, (h.k j hj).2, e2]))
theorem d_step {f R g : Nat → Int32} {n r t q : Nat} {L : Nat → Nat} (hk : kI n f) (hL : LL f n R r L) (hd : dI f n R r L (t + 1) q g) (h : ¬ R t = R r) : ∃ j, j < n ∧ f j = R t ∧ ((g (kN f j) = 1 ∧ dI f n R r L t q (upd g (kN f j) 1)) ∨ (g (kN f j) = 0 ∧ dI f n R r L t (q + 1) (upd g (kN f j) 1))) := by
  have hd' := hd
  obtain ⟨d1, d2, d3, d4, d5⟩ := hd
  obtain ⟨j, hj, e⟩ := hL.2.2 t (by omega)
  obtain ⟨l1, l2, l3⟩ := hL.1 j hj
  have hge : t ≤ L j := by
    rcases Nat.lt_or_ge (L j) t with h1 | h1
    · exact absurd e.symm (l3 t h1 (by omega))
    · exact h1
  have d3' : ∀ s, t ≤ s → s < r → ¬ R s = R r := fun s h1 h2 => by
    by_cases hs : s = t
    · rw [hs]; exact h
    · exact d3 s (by omega) h2
  refine ⟨j, hj, e, ?_⟩
  by_cases hm : n ≤ q + j
  · refine Or.inl ⟨by rw [d5 j hj, if_pos hm], by omega, d2, d3', fun i hi => ?_, fun i hi => ?_⟩
    · have h1 := d4 i hi
      by_cases hc : L i = t
      · have h2 := hL.1 i hi
        have : i = j := hk.inj hi hj (h2.2.1.symm.trans ((congrArg R hc).trans e.symm))
        subst this; omega
      · omega
    · by_cases hc : i = j
      · rw [hc, upd_s, if_pos hm]
      · rw [upd_o (hk.kne hi hj hc)]; exact d5 i hi
  · have eL : L j = t := by have := d4 j hj; omega
    have hn := d_near hL hd' hj eL
    refine Or.inr ⟨by rw [d5 j hj, if_neg hm], by omega, by omega, d3', fun i hi => ?_, fun i hi => ?_⟩
    · rcases Nat.lt_trichotomy i j with hc | hc | hc
      · have := hL.2.1 i j hc hj; omega
      · subst hc; omega
      · have := hL.2.1 j i hc hi; omega
    · by_cases hc : i = j
      · rw [hc, upd_s, if_pos (by omega)]
      · rw [upd_o (hk.kne hi hj hc), d5 i hi]
        by_cases h2 : n ≤ q + i
        · rw [if_pos h2, if_pos (by omega)]
        · rw [if_neg h2, if_neg (by omega)]
theorem ds_lt {f : Nat → Int32} {n : Nat} {key : Int32} (h : kI n f) (hne : ¬ dsI f n key = -1) : dsI f n key < 100 := by
  unfold dsI at hne ⊢
  by_cases c : fx f key n < n
  · rw [if_pos c]
    exact (nI_ltI (a := n - 1 - fx f key n) (b := 100) (by have := h.1; omega) (by decide)).mpr (by have := h.1; omega)
  · rw [if_neg c] at hne; exact absurd rfl hne
theorem nI_dec {t : Nat} : nI t + Int32.ofInt (-1) = nI t - 1 := by rw [Int32.sub_eq_add_neg]; rfl
