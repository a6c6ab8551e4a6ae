theorem nob {y : Nat} (lo hi : Nat) (h1 : lo ≤ y) (h2 : y ≤ hi) (h3 : hi < 2 ^ 31) : ¬ oob (nI y) (nI lo) (nI hi) := fun h => h.elim (fun h => by have := (nI_ltI (a := y) (b := lo) (by omega) (by omega)).mp h; omega) (fun h => by have := (nI_ltI (a := hi) (b := y) (by omega) (by omega)).mp h; omega)
theorem nob1 {m : Nat} (h : m < 2) : ¬ oob (nI m) 0 1 := nob 0 1 (by omega) (by omega) (by decide)
theorem nob99 {m : Nat} (h : m < 100) : ¬ oob (nI m) 0 99 := nob 0 99 (by omega) (by omega) (by decide)
theorem nob999 {m : Nat} (h : m < 1000) : ¬ oob (nI m) 0 999 := nob 0 999 (by omega) (by omega) (by decide)
theorem nob63 {m : Nat} (h : m < 64) : ¬ oob (nI m) 0 63 := nob 0 63 (by omega) (by omega) (by decide)
theorem nob15 {m : Nat} (h : m < 16) : ¬ oob (nI m) 0 15 := nob 0 15 (by omega) (by omega) (by decide)
theorem nob8 {i : Nat} (h : i < 8) : ¬ oob (nI (i + 1)) 1 8 := nob 1 8 (by omega) (by omega) (by decide)
theorem nob8' {b : Nat} (h1 : 1 ≤ b) (h : b ≤ 8) : ¬ oob (nI b) 1 8 := nob 1 8 h1 h (by decide)
theorem nob20 {b : Nat} (h1 : 1 ≤ b) (h : b ≤ 20) : ¬ oob (nI b) 1 20 := nob 1 20 h1 h (by decide)
theorem oop_oob {x : Int32} {n : Nat} (hn : n < 2 ^ 31) : oob x 0 (nI n - 1) ↔ oop x n := by
  by_cases h0 : n = 0
  · subst h0
    refine ⟨fun _ => ?_, fun _ => ?_⟩
    · rcases Int32.lt_or_le x 0 with h | h
      · exact Or.inl h
      · exact Or.inr h
    · rcases Int32.lt_or_le x 0 with h | h
      · exact Or.inl h
      · exact Or.inr (Int32.lt_of_lt_of_le (by decide) h)
  · have e : nI n - 1 = nI (n - 1) := pk_sub (a := n) (b := 1) (by omega)
    rw [e]
    refine ⟨fun h => h.elim Or.inl (fun h => Or.inr ?_), fun h => h.elim Or.inl (fun h => Or.inr ?_)⟩
    · have h1 := Int32.lt_iff_toInt_lt.mp h
      rw [nI_toInt (by omega)] at h1
      exact Int32.le_iff_toInt_le.mpr (by rw [nI_toInt hn]; omega)
    · have h1 := Int32.le_iff_toInt_le.mp h
      rw [nI_toInt hn] at h1
      exact Int32.lt_iff_toInt_lt.mpr (by rw [nI_toInt (by omega)]; omega)
theorem nop {j n : Nat} (h : j < n) (hn : n < 2 ^ 31) : ¬ oob (nI j) 0 (nI n - 1) := fun h1 => by
  rcases (oop_oob hn).mp h1 with h2 | h2
  · exact absurd h2 (nI_pos (by omega))
  · have := (nI_leI hn (by omega)).mp h2; omega
theorem fxI_c {f K : Nat → Int32} {b n : Nat} {key : Int32} (h : ∀ j, j < n → f (b + j) = K j) : fxI (rwo f b) key n = fxI K key n := by
  rw [fxI, fxI, fx_congr (f := rwo f b) (g := K) h]
theorem mV_shf {f vf : Nat → Int32} {p n : Nat} : mV (shf f p n) vf = shf (mV f vf) p n := by
  funext j
  show vf (kN (shf f p n) j) = (if p ≤ j ∧ j + 1 < n then vf (kN f (j + 1)) else vf (kN f j))
  by_cases c : p ≤ j ∧ j + 1 < n
  · rw [if_pos c]; show vf (if p ≤ j ∧ j + 1 < n then f (j + 1) else f j).toInt.toNat = _; rw [if_pos c]; rfl
  · rw [if_neg c]; show vf (if p ≤ j ∧ j + 1 < n then f (j + 1) else f j).toInt.toNat = _; rw [if_neg c]; rfl
theorem mV_fx {f vf : Nat → Int32} {y n : Nat} (hy : y < 100) (h : fx f (nI y) n < n) : mV f vf (fx f (nI y) n) = vf y := by
  rw [mV, kN_of (by omega) (fx_yes h)]
/-- the values' row behind a use that stores x -/
def usV (f V : Nat → Int32) (n : Nat) (key x : Int32) : Nat → Int32 := if fx f key n < n then upd (shf V (fx f key n) n) (n - 1) x else upd V n x
theorem kI.ne {n : Nat} {f : Nat → Int32} (h : kI n f) {y j : Nat} (hy : y < 100) (hj : j < n) (hne : f j ≠ nI y) : kN f j ≠ y := fun e => hne (by rw [(h.k j hj).2, e])
theorem mV_use {f vf : Nat → Int32} {n y : Nat} {x : Int32} (h : kI n f) (hy : y < 100) : ∀ j, j < usN f n (nI y) → mV (usF f n (nI y)) (upd vf y x) j = usV f (mV f vf) n (nI y) x j := by
  intro j hj
  unfold usN at hj
  unfold usF usV
  by_cases c : fx f (nI y) n < n
  · rw [if_pos c] at hj ⊢
    rw [if_pos c]
    by_cases e : j = n - 1
    · rw [e, upd_s]
      show upd vf y x (kN _ _) = x
      rw [kN_of (y := y) (by omega) upd_s, upd_s]
    · rw [upd_o e]
      have e1 : kN (upd (shf f (fx f (nI y) n) n) (n - 1) (nI y)) j = kN (shf f (fx f (nI y) n) n) j := by rw [kN, kN, upd_o e]
      show upd vf y x (kN _ _) = _
      rw [e1]
      obtain ⟨i, hi, hip, e2⟩ := shf_mem (f := f) (p := fx f (nI y) n) (n := n) (j := j) c (by omega)
      have e3 : kN (shf f (fx f (nI y) n) n) j = kN f i := by rw [kN, kN, e2]
      have hne : f i ≠ nI y := fun e4 => by
        have e5 := fx_yes c
        rcases Nat.lt_trichotomy i (fx f (nI y) n) with h5 | h5 | h5
        · exact h.2.2 i _ h5 c (by rw [e4, e5])
        · exact hip h5
        · exact h.2.2 _ i h5 hi (by rw [e4, e5])
      rw [← mV_shf, mV, e3, upd_o (h.ne hy hi hne)]
  · rw [if_neg c] at hj ⊢
    rw [if_neg c]
    by_cases e : j = n
    · rw [e, upd_s]
      show upd vf y x (kN _ _) = x
      rw [kN_of (y := y) (by omega) upd_s, upd_s]
    · rw [upd_o e]
      have e1 : kN (upd f n (nI y)) j = kN f j := by rw [kN, kN, upd_o e]
      have hne : f j ≠ nI y := fx_no (n := n) (by have := fx_le f (nI y) n; omega)
      show upd vf y x (kN _ _) = vf (kN f j)
      rw [e1, upd_o (h.ne hy (by omega) hne)]
theorem nn_shf {V : Nat → Int32} {p n : Nat} (h : ∀ j, j < n → ¬ V j = -1) (hp : p < n) : ∀ j, j < n - 1 → ¬ shf V p n j = -1 := fun j hj => by
  obtain ⟨i, hi, -, e⟩ := shf_mem (f := V) hp hj
  rw [e]; exact h i hi
theorem nn_use {f V : Nat → Int32} {n : Nat} {key x : Int32} (h : ∀ j, j < n → ¬ V j = -1) (hx : ¬ x = -1) : ∀ j, j < usN f n key → ¬ usV f V n key x j = -1 := fun j hj => by
  unfold usN at hj
  unfold usV
  by_cases c : fx f key n < n
  · rw [if_pos c] at hj ⊢
    by_cases e : j = n - 1
    · rw [e, upd_s]; exact hx
    · rw [upd_o e]; exact nn_shf h c j (by omega)
  · rw [if_neg c] at hj ⊢
    by_cases e : j = n
    · rw [e, upd_s]; exact hx
    · rw [upd_o e]; exact h j (by omega)
theorem usN_b {f : Nat → Int32} {n : Nat} {key : Int32} : n ≤ usN f n key ∧ usN f n key ≤ n + 1 := by
  unfold usN; split <;> omega
theorem gM_U {Z : DS} {m n : Nat} {f : Nat → Int32} {bg pl gv : Int32} {vf : Nat → Int32} {b : Nat} {oc ol : Int32} {h0 h1 h2 h3 h4 : Nat → Int32} (hm : m < 2) (hk : kI n f) (hb : 1 ≤ b ∧ b ≤ 100) (hnb : n ≤ b) (hval : ∀ j, j < n → ¬ mV f vf j = -1) (hbg : bg = 0 ∨ bg = 1) (hcur : ¬ bg = 0 → ∃ j, pl = nI j ∧ j ≤ n ∧ (¬ gv = 0 → 1 ≤ j)) (hvw : vw h0 h1 h2 m n f (mV f vf)) (e3 : h3 m = if bg = 0 then -1 else pl) (e4 : h4 m = if bg = 0 ∨ gv = 0 then 0 else 1) : gM (mU Z m n f bg pl gv vf b oc ol) h0 h1 h2 h3 h4 m := by
  have a1 : (mU Z m n f bg pl gv vf b oc ol).1 m = n := (ups_ne (by omega)).trans ups_at
  have a2 : (mU Z m n f bg pl gv vf b oc ol).1 (12 + m) = b := ups_at
  have a3 : (mU Z m n f bg pl gv vf b oc ol).2.1 (1 + 5 * m) = bg := (ups_ne (by omega)).trans ((ups_ne (by omega)).trans ((ups_ne (by omega)).trans ((ups_ne (by omega)).trans ups_at)))
  have a4 : (mU Z m n f bg pl gv vf b oc ol).2.1 (2 + 5 * m) = pl := (ups_ne (by omega)).trans ((ups_ne (by omega)).trans ((ups_ne (by omega)).trans ups_at))
  have a5 : (mU Z m n f bg pl gv vf b oc ol).2.1 (3 + 5 * m) = gv := (ups_ne (by omega)).trans ((ups_ne (by omega)).trans ups_at)
  have a6 : (mU Z m n f bg pl gv vf b oc ol).2.2 (2 * m) = f := (ups_ne (by omega)).trans ups_at
  have a7 : (mU Z m n f bg pl gv vf b oc ol).2.2 (2 * m + 1) = vf := ups_at
  refine ⟨?_, ?_, ?_, ?_, ?_⟩
  · unfold mI; rw [a1, a2, a3, a4, a5, a6, a7]; exact ⟨hk, hb, hval, hbg, hcur⟩
  · rw [a1, a2]; exact hnb
  · rw [a1, a6, a7]; exact hvw
  · rw [a3, a4]; exact e3
  · rw [a3, a5]; exact e4
theorem gB_U {Z : DS} {m n : Nat} {f : Nat → Int32} {bg pl gv : Int32} {vf : Nat → Int32} {b : Nat} {oc ol : Int32} {v4 v5 v6 w4 w5 w6 : Int32} (h : gB Z v4 v5 v6) (hm : m < 2) (h0 : m = 0 → b = 100 ∧ w4 = v4 ∧ w5 = v5 ∧ w6 = v6) (h1 : m = 1 → (1 ≤ b ∧ b ≤ 20) ∧ w4 = nI b ∧ w5 = oc ∧ w6 = ol) : gB (mU Z m n f bg pl gv vf b oc ol) w4 w5 w6 := by
  obtain ⟨f1, f2, f3⟩ := mU_fr (Z := Z) (m := m) (n := n) (f := f) (bg := bg) (pl := pl) (gv := gv) (vf := vf) (b := b) (oc := oc) (ol := ol)
  obtain ⟨c1, c2, c3, c4, c5⟩ := h
  rcases (show m = 0 ∨ m = 1 by omega) with rfl | rfl
  · obtain ⟨d1, rfl, rfl, rfl⟩ := h0 rfl
    refine ⟨d1, ?_, ?_, ?_, ?_⟩
    · rw [f1 13 (by omega) (by omega)]; exact c2
    · rw [f1 13 (by omega) (by omega)]; exact c3
    · rw [f2 9 (by omega)]; exact c4
    · rw [f2 10 (by omega)]; exact c5
  · obtain ⟨d1, rfl, rfl, rfl⟩ := h1 rfl
    refine ⟨?_, ?_, rfl, rfl, rfl⟩
    · rw [f1 12 (by omega) (by omega)]; exact c1
    · exact d1
theorem ga_pick {m : Nat} {g : Nat → Int32} {x : Int32} : ∀ q, q < 2 → q ≠ m → upd g m x q = g q := fun _ _ h => upd_o h
/-- a pair is put, or put again -/
theorem put_G {Z : DS} {vi vi' : Nat → Int32} {ga ga' : Nat → Nat → Int32} {m y : Nat} {x : Int32} (hG : GI Z vi ga) (hm : m < 2) (hy : y < 100) (hx : ¬ x = -1) (hv : ∀ q, 13 ≤ q → vi' q = vi q) (hg : ∀ q, 5 ≤ q → ga' q = ga q) (e3 : ga' 3 = upd (ga 3) m (-1)) (e4 : ga' 4 = upd (ga 4) m 0) (hfm : fm m (ga 0) (ga 1) (ga 2) (ga' 0) (ga' 1) (ga' 2)) (v4 : vi' 4 = vi 4)
    (hk : (usN (Z.2.2 (2 * m)) (Z.1 m) (nI y) ≤ Z.1 (12 + m) ∧ vi' 5 = vi 5 ∧ vi' 6 = vi 6 ∧ vw (ga' 0) (ga' 1) (ga' 2) m (usN (Z.2.2 (2 * m)) (Z.1 m) (nI y)) (usF (Z.2.2 (2 * m)) (Z.1 m) (nI y)) (usV (Z.2.2 (2 * m)) (mV (Z.2.2 (2 * m)) (Z.2.2 (2 * m + 1))) (Z.1 m) (nI y) x)) ∨ (¬ usN (Z.2.2 (2 * m)) (Z.1 m) (nI y) ≤ Z.1 (12 + m) ∧ m = 1 ∧ vi' 5 = vi 5 + 1 ∧ vi' 6 = usF (Z.2.2 (2 * m)) (Z.1 m) (nI y) 0 ∧ vw (ga' 0) (ga' 1) (ga' 2) m (usN (Z.2.2 (2 * m)) (Z.1 m) (nI y) - 1) (shf (usF (Z.2.2 (2 * m)) (Z.1 m) (nI y)) 0 (usN (Z.2.2 (2 * m)) (Z.1 m) (nI y))) (shf (usV (Z.2.2 (2 * m)) (mV (Z.2.2 (2 * m)) (Z.2.2 (2 * m + 1))) (Z.1 m) (nI y) x) 0 (usN (Z.2.2 (2 * m)) (Z.1 m) (nI y))))) :
    GI (mU Z m (stN (Z.2.2 (2 * m)) (Z.1 m) (nI y) (Z.1 (12 + m))) (stF (Z.2.2 (2 * m)) (Z.1 m) (nI y) (Z.1 (12 + m))) 0 (Z.2.1 (2 + 5 * m)) (Z.2.1 (3 + 5 * m)) (upd (Z.2.2 (2 * m + 1)) y x) (Z.1 (12 + m)) (if usN (Z.2.2 (2 * m)) (Z.1 m) (nI y) ≤ (Z.1 (12 + m)) then (Z.2.1 (4 + 5 * m)) else (Z.2.1 (4 + 5 * m)) + 1) (if usN (Z.2.2 (2 * m)) (Z.1 m) (nI y) ≤ (Z.1 (12 + m)) then (Z.2.1 (5 + 5 * m)) else usF (Z.2.2 (2 * m)) (Z.1 m) (nI y) 0)) vi' ga' := by
  have hgm := hG.1 m hm
  have hB := hG.2.1
  have hI := hgm.1
  have hle := usN_b (f := Z.2.2 (2 * m)) (n := Z.1 m) (key := nI y)
  have nnU := nn_use (f := Z.2.2 (2 * m)) (key := nI y) (V := mV (Z.2.2 (2 * m)) (Z.2.2 (2 * m + 1))) hI.2.2.1 hx
  have hmv := mV_use (vf := Z.2.2 (2 * m + 1)) (x := x) hI.1 hy
  refine GI_m hG hm hv hg ?_ ?_ hfm (fun q h1 h2 => by rw [e3, e4]; exact ⟨upd_o h2, upd_o h2⟩)
  · refine gM_U hm (hI.1.st hy _) hI.2.1 ?_ ?_ (Or.inl rfl) (fun h => absurd rfl h) ?_ (by rw [e3, if_pos rfl]; exact upd_s) (by rw [e4, if_pos (Or.inl rfl)]; exact upd_s)
    · unfold stN; have := hgm.2.1; split <;> omega
    · unfold stN stF
      rcases hk with ⟨k1, -⟩ | ⟨k1, -⟩
      · rw [if_pos k1, if_pos k1]
        intro j hj; rw [hmv j hj]; exact nnU j hj
      · rw [if_neg k1, if_neg k1]
        intro j hj
        rw [mV_shf]
        exact nn_shf (fun j hj => by rw [hmv j hj]; exact nnU j hj) usN_pos j hj
    · unfold stN stF
      rcases hk with ⟨k1, -, -, k2⟩ | ⟨k1, -, -, -, k2⟩
      · rw [if_pos k1, if_pos k1]
        exact vw_congr k2 (fun _ _ => rfl) (fun j hj => (hmv j hj).symm)
      · rw [if_neg k1, if_neg k1]
        refine vw_congr k2 (fun _ _ => rfl) (fun j hj => ?_)
        rw [mV_shf]
        show (if 0 ≤ j ∧ j + 1 < _ then _ else _) = (if 0 ≤ j ∧ j + 1 < _ then _ else _)
        split
        · exact (hmv _ (by omega)).symm
        · exact (hmv _ (by omega)).symm
  · refine gB_U hB hm (fun h => ?_) (fun h => ?_)
    · subst h
      rcases hk with ⟨-, k1, k2, -⟩ | ⟨-, k1, -⟩
      · exact ⟨hB.1, v4, k1, k2⟩
      · omega
    · subst h
      refine ⟨hB.2.1, v4.trans hB.2.2.1, ?_, ?_⟩
      · rcases hk with ⟨k1, k2, k3, -⟩ | ⟨k1, -, k2, k3, -⟩
        · rw [if_pos k1, k2]; exact hB.2.2.2.1
        · rw [if_neg k1, k2, hB.2.2.2.1]
      · rcases hk with ⟨k1, k2, k3, -⟩ | ⟨k1, -, k2, k3, -⟩
        · rw [if_pos k1, k3]; exact hB.2.2.2.2
        · rw [if_neg k1, k3]
