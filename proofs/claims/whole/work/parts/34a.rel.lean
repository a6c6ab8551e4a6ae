/-! ===== desk and reference: one state ===== -/
/-- the rows hold the pairs K V of the map m, n of them -/
def vw (g0 g1 g2 : Nat → Int32) (m n : Nat) (K V : Nat → Int32) : Prop := g2 m = nI n ∧ (∀ j, j < n → g0 (101 * m + j) = K j) ∧ ∀ j, j < n → g1 (101 * m + j) = V j
/-- the other map is left as it is -/
def fm (m : Nat) (g0 g1 g2 h0 h1 h2 : Nat → Int32) : Prop := ∀ q, q < 2 → q ≠ m → h2 q = g2 q ∧ ∀ j, j < 101 → h0 (101 * q + j) = g0 (101 * q + j) ∧ h1 (101 * q + j) = g1 (101 * q + j)
theorem fm_id {m : Nat} {g0 g1 g2 : Nat → Int32} : fm m g0 g1 g2 g0 g1 g2 := fun _ _ _ => ⟨rfl, fun _ _ => ⟨rfl, rfl⟩⟩
theorem fm_trans {m : Nat} {g0 g1 g2 h0 h1 h2 k0 k1 k2 : Nat → Int32} (a : fm m g0 g1 g2 h0 h1 h2) (b : fm m h0 h1 h2 k0 k1 k2) : fm m g0 g1 g2 k0 k1 k2 := fun q hq hn => ⟨(b q hq hn).1.trans (a q hq hn).1, fun j hj => ⟨((b q hq hn).2 j hj).1.trans ((a q hq hn).2 j hj).1, ((b q hq hn).2 j hj).2.trans ((a q hq hn).2 j hj).2⟩⟩
theorem fm_take {m n p : Nat} {g0 g1 g2 : Nat → Int32} {x : Int32} (hm : m < 2) (hn : n ≤ 101) : fm m g0 g1 g2 (mrs g0 (101 * m) p n) (mrs g1 (101 * m) p n) (upd g2 m x) := fun q hq hne => ⟨upd_o hne, fun j hj => ⟨mrs_ne (by omega), mrs_ne (by omega)⟩⟩
theorem fm_come {m n : Nat} {g0 g1 g2 : Nat → Int32} {a b x : Int32} (hm : m < 2) (hn : n ≤ 100) : fm m g0 g1 g2 (upd g0 (101 * m + n) a) (upd g1 (101 * m + n) b) (upd g2 m x) := fun q hq hne => ⟨upd_o hne, fun j hj => ⟨upd_o (by omega), upd_o (by omega)⟩⟩
theorem fm_n {m : Nat} {g0 g1 g2 : Nat → Int32} {x : Int32} : fm m g0 g1 g2 g0 g1 (upd g2 m x) := fun q hq hne => ⟨upd_o hne, fun j hj => ⟨rfl, rfl⟩⟩
theorem vw_take {m n p : Nat} {g0 g1 g2 K V : Nat → Int32} (h : vw g0 g1 g2 m n K V) (hp : p < n) : vw (mrs g0 (101 * m) p n) (mrs g1 (101 * m) p n) (upd g2 m (nI (n - 1))) m (n - 1) (shf K p n) (shf V p n) := by
  have key : ∀ (g K : Nat → Int32), (∀ j, j < n → g (101 * m + j) = K j) → ∀ j, j < n - 1 → mrs g (101 * m) p n (101 * m + j) = shf K p n j := fun g K h j hj => by
    show (if 101 * m + p ≤ 101 * m + j ∧ 101 * m + j + 1 < 101 * m + n then g (101 * m + j + 1) else g (101 * m + j)) = (if p ≤ j ∧ j + 1 < n then K (j + 1) else K j)
    by_cases c : p ≤ j ∧ j + 1 < n
    · rw [if_pos (by omega), if_pos c, Nat.add_assoc]; exact h _ c.2
    · rw [if_neg (by omega), if_neg c]; exact h _ (by omega)
  exact ⟨upd_s, key g0 K h.2.1, key g1 V h.2.2⟩
theorem vw_come {m n : Nat} {g0 g1 g2 K V : Nat → Int32} {a b : Int32} (h : vw g0 g1 g2 m n K V) : vw (upd g0 (101 * m + n) a) (upd g1 (101 * m + n) b) (upd g2 m (nI (n + 1))) m (n + 1) (upd K n a) (upd V n b) := by
  have key : ∀ (g K : Nat → Int32) (a : Int32), (∀ j, j < n → g (101 * m + j) = K j) → ∀ j, j < n + 1 → upd g (101 * m + n) a (101 * m + j) = upd K n a j := fun g K a h j hj => by
    by_cases c : j = n
    · rw [c, upd_s, upd_s]
    · rw [upd_o (by omega), upd_o c]; exact h j (by omega)
  exact ⟨upd_s, key g0 K a h.2.1, key g1 V b h.2.2⟩
theorem vw_congr {m n : Nat} {g0 g1 g2 K V K' V' : Nat → Int32} (h : vw g0 g1 g2 m n K V) (hk : ∀ j, j < n → K j = K' j) (hv : ∀ j, j < n → V j = V' j) : vw g0 g1 g2 m n K' V' := ⟨h.1, fun j hj => (h.2.1 j hj).trans (hk j hj), fun j hj => (h.2.2 j hj).trans (hv j hj)⟩
/-- the values of a map by their places -/
def mV (f vf : Nat → Int32) (j : Nat) : Int32 := vf (kN f j)
def gM (Z : DS) (g0 g1 g2 g3 g4 : Nat → Int32) (m : Nat) : Prop := mI Z m ∧ Z.1 m ≤ Z.1 (12 + m) ∧ vw g0 g1 g2 m (Z.1 m) (Z.2.2 (2 * m)) (mV (Z.2.2 (2 * m)) (Z.2.2 (2 * m + 1))) ∧ g3 m = (if Z.2.1 (1 + 5 * m) = 0 then -1 else Z.2.1 (2 + 5 * m)) ∧ g4 m = (if Z.2.1 (1 + 5 * m) = 0 ∨ Z.2.1 (3 + 5 * m) = 0 then 0 else 1)
def gB (Z : DS) (v4 v5 v6 : Int32) : Prop := Z.1 12 = 100 ∧ (1 ≤ Z.1 13 ∧ Z.1 13 ≤ 20) ∧ v4 = nI (Z.1 13) ∧ v5 = Z.2.1 9 ∧ v6 = Z.2.1 10
def gC (Z : DS) (g5 g6 g7 : Nat → Int32) : Prop := ∀ i, i < 8 → Z.1 (2 + i) ≤ i + 1 ∧ g6 (i + 1) = nI (Z.1 (2 + i)) ∧ g7 (i + 1) = Z.2.1 (11 + i) ∧ ∀ j, j < Z.1 (2 + i) → g5 (9 * (i + 1) + j) = Z.2.2 (4 + i) j
/-- f is the order of the latest places of the keys below c in R -/
def LO (f : Nat → Int32) (n : Nat) (R : Nat → Int32) (c : Nat) : Prop := ∃ L : Nat → Nat, (∀ j, j < n → L j < c ∧ R (L j) = f j ∧ ∀ t, L j < t → t < c → ¬ R t = f j) ∧ (∀ i j, i < j → j < n → L i < L j) ∧ ∀ t, t < c → ∃ j, j < n ∧ f j = R t
def gL (Z : DS) (v13 : Int32) (g8 : Nat → Int32) : Prop := v13 = nI (Z.1 14) ∧ (∀ r, r < Z.1 14 → g8 r = Z.2.2 12 r) ∧ LO (Z.2.2 14) (Z.1 10) (Z.2.2 12) (Z.1 14) ∧ ∀ r, r < Z.1 14 → (∃ y, y < 100 ∧ Z.2.2 12 r = nI y) ∧ ∃ (f : Nat → Int32) (n : Nat), kI n f ∧ LO f n (Z.2.2 12) r ∧ Z.2.2 13 r = dsI f n (Z.2.2 12 r)
def gT (Z : DS) (v16 : Int32) (g10 : Nat → Int32) : Prop := Z.1 15 ≤ 300 ∧ v16 = nI (Z.1 15) ∧ g10 = Z.2.2 15
def gX (Z : DS) (g15 g16 g17 g18 : Nat → Int32) (v31 v32 v33 v34 v35 : Int32) : Prop := xI Z ∧ Z.1 11 ≤ Z.1 19 ∧ v31 = nI (Z.1 19) ∧ v32 = nI (Z.1 11) ∧ v33 = Z.2.1 19 ∧ v34 = Z.2.1 20 ∧ v35 = Z.2.1 21 ∧ (∀ a, a < 64 → g15 a = Z.2.2 20 a ∧ g16 a = Z.2.2 21 a) ∧ (∀ q, q < 16 → g18 q = Z.2.2 22 q ∧ (Z.2.2 22 q = 0 ∨ Z.2.2 22 q = 1)) ∧ ∀ j, j < Z.1 11 → g17 j = Z.2.2 23 j
/-- the desk's state Z and the reference's vi, ga are one -/
def GI (Z : DS) (vi : Nat → Int32) (ga : Nat → Nat → Int32) : Prop := (∀ m, m < 2 → gM Z (ga 0) (ga 1) (ga 2) (ga 3) (ga 4) m) ∧ gB Z (vi 4) (vi 5) (vi 6) ∧ aI Z ∧ gC Z (ga 5) (ga 6) (ga 7) ∧ gL Z (vi 13) (ga 8) ∧ gT Z (vi 16) (ga 10) ∧ vi 24 = Z.2.1 0 ∧ gX Z (ga 15) (ga 16) (ga 17) (ga 18) (vi 31) (vi 32) (vi 33) (vi 34) (vi 35)
theorem gM_fr {Z T : DS} {g0 g1 g2 g3 g4 h0 h1 h2 h3 h4 : Nat → Int32} {q : Nat} (h : gM Z g0 g1 g2 g3 g4 q) (e1 : T.1 q = Z.1 q) (e2 : T.1 (12 + q) = Z.1 (12 + q)) (e3 : T.2.1 (1 + 5 * q) = Z.2.1 (1 + 5 * q)) (e4 : T.2.1 (2 + 5 * q) = Z.2.1 (2 + 5 * q)) (e5 : T.2.1 (3 + 5 * q) = Z.2.1 (3 + 5 * q)) (e6 : T.2.2 (2 * q) = Z.2.2 (2 * q)) (e7 : T.2.2 (2 * q + 1) = Z.2.2 (2 * q + 1)) (r2 : h2 q = g2 q) (r : ∀ j, j < 101 → h0 (101 * q + j) = g0 (101 * q + j) ∧ h1 (101 * q + j) = g1 (101 * q + j)) (r3 : h3 q = g3 q) (r4 : h4 q = g4 q) : gM T h0 h1 h2 h3 h4 q := by
  obtain ⟨a, b, c, d, e⟩ := h
  have hn := a.n
  refine ⟨?_, ?_, ?_, ?_, ?_⟩
  · unfold mI; rw [e1, e2, e3, e4, e5, e6, e7]; exact a
  · rw [e1, e2]; exact b
  · rw [e1, e6, e7]; exact ⟨r2.trans c.1, fun j hj => (r j (by omega)).1.trans (c.2.1 j hj), fun j hj => (r j (by omega)).2.trans (c.2.2 j hj)⟩
  · rw [r3, e3, e4]; exact d
  · rw [r4, e3, e5]; exact e
theorem gB_fr {Z T : DS} {a b c : Int32} (h : gB Z a b c) (e1 : T.1 12 = Z.1 12) (e2 : T.1 13 = Z.1 13) (e3 : T.2.1 9 = Z.2.1 9) (e4 : T.2.1 10 = Z.2.1 10) : gB T a b c := by
  unfold gB; rw [e1, e2, e3, e4]; exact h
theorem gC_fr {Z T : DS} {g5 g6 g7 : Nat → Int32} (h : gC Z g5 g6 g7) (e1 : ∀ q, 2 ≤ q → q < 10 → T.1 q = Z.1 q) (e2 : ∀ q, 11 ≤ q → q < 19 → T.2.1 q = Z.2.1 q) (e3 : ∀ q, 4 ≤ q → q < 12 → T.2.2 q = Z.2.2 q) : gC T g5 g6 g7 := fun i hi => by
  rw [e1 (2 + i) (by omega) (by omega), e2 (11 + i) (by omega) (by omega), e3 (4 + i) (by omega) (by omega)]; exact h i hi
theorem gL_fr {Z T : DS} {a : Int32} {g8 : Nat → Int32} (h : gL Z a g8) (e1 : T.1 10 = Z.1 10) (e2 : T.1 14 = Z.1 14) (e3 : T.2.2 12 = Z.2.2 12) (e4 : T.2.2 13 = Z.2.2 13) (e5 : T.2.2 14 = Z.2.2 14) : gL T a g8 := by
  unfold gL; rw [e1, e2, e3, e4, e5]; exact h
theorem gT_fr {Z T : DS} {a : Int32} {g : Nat → Int32} (h : gT Z a g) (e1 : T.1 15 = Z.1 15) (e2 : T.2.2 15 = Z.2.2 15) : gT T a g := by
  unfold gT; rw [e1, e2]; exact h
theorem xI_fr {Z T : DS} (h : xI Z) (e1 : T.1 11 = Z.1 11) (e2 : T.1 19 = Z.1 19) (e3 : T.2.2 23 = Z.2.2 23) : xI T := by
  unfold xI; rw [e1, e2, e3]; exact h
theorem gX_fr {Z T : DS} {g15 g16 g17 g18 : Nat → Int32} {a b c d e : Int32} (h : gX Z g15 g16 g17 g18 a b c d e) (e1 : T.1 11 = Z.1 11) (e2 : T.1 19 = Z.1 19) (e3 : ∀ q, 19 ≤ q → q < 22 → T.2.1 q = Z.2.1 q) (e4 : ∀ q, 20 ≤ q → q < 24 → T.2.2 q = Z.2.2 q) : gX T g15 g16 g17 g18 a b c d e := by
  unfold gX
  rw [e1, e2, e3 19 (by omega) (by omega), e3 20 (by omega) (by omega), e3 21 (by omega) (by omega), e4 20 (by omega) (by omega), e4 21 (by omega) (by omega), e4 22 (by omega) (by omega), e4 23 (by omega) (by omega)]
  exact ⟨xI_fr h.1 e1 e2 (e4 23 (by omega) (by omega)), h.2⟩
theorem mU_fr {Z : DS} {m n : Nat} {f : Nat → Int32} {bg pl gv : Int32} {vf : Nat → Int32} {b : Nat} {oc ol : Int32} : (∀ q, q ≠ m → q ≠ 12 + m → (mU Z m n f bg pl gv vf b oc ol).1 q = Z.1 q) ∧ (∀ q, q < 1 + 5 * m ∨ 5 + 5 * m < q → (mU Z m n f bg pl gv vf b oc ol).2.1 q = Z.2.1 q) ∧ ∀ q, q ≠ 2 * m → q ≠ 2 * m + 1 → (mU Z m n f bg pl gv vf b oc ol).2.2 q = Z.2.2 q :=
  ⟨fun q h1 h2 => (ups_ne h2).trans (ups_ne h1), fun q h => (ups_ne (by omega)).trans ((ups_ne (by omega)).trans ((ups_ne (by omega)).trans ((ups_ne (by omega)).trans (ups_ne (by omega))))), fun q h1 h2 => (ups_ne h2).trans (ups_ne h1)⟩
/-- a change of one map -/
theorem GI_m {Z : DS} {vi : Nat → Int32} {ga : Nat → Nat → Int32} {m n : Nat} {f : Nat → Int32} {bg pl gv : Int32} {vf : Nat → Int32} {b : Nat} {oc ol : Int32} {vi' : Nat → Int32} {ga' : Nat → Nat → Int32} (h : GI Z vi ga) (hm : m < 2) (hv : ∀ q, 13 ≤ q → vi' q = vi q) (hg : ∀ q, 5 ≤ q → ga' q = ga q) (hM : gM (mU Z m n f bg pl gv vf b oc ol) (ga' 0) (ga' 1) (ga' 2) (ga' 3) (ga' 4) m) (hB : gB (mU Z m n f bg pl gv vf b oc ol) (vi' 4) (vi' 5) (vi' 6)) (ho : fm m (ga 0) (ga 1) (ga 2) (ga' 0) (ga' 1) (ga' 2)) (ho2 : ∀ q, q < 2 → q ≠ m → ga' 3 q = ga 3 q ∧ ga' 4 q = ga 4 q) : GI (mU Z m n f bg pl gv vf b oc ol) vi' ga' := by
  obtain ⟨h1, h2, h3, h4, h5, h6, h7, h8⟩ := h
  obtain ⟨f1, f2, f3⟩ := mU_fr (Z := Z) (m := m) (n := n) (f := f) (bg := bg) (pl := pl) (gv := gv) (vf := vf) (b := b) (oc := oc) (ol := ol)
  refine ⟨fun q hq => ?_, hB, ⟨fun i hi => ?_, ?_, ?_⟩, ?_, ?_, ?_, ?_, ?_⟩
  · by_cases hqm : q = m
    · rw [hqm]; exact hM
    · obtain ⟨o1, o2⟩ := ho q hq hqm
      obtain ⟨o3, o4⟩ := ho2 q hq hqm
      exact gM_fr (h1 q hq) (f1 q hqm (by omega)) (f1 _ (by omega) (by omega)) (f2 _ (by omega)) (f2 _ (by omega)) (f2 _ (by omega)) (f3 _ (by omega) (by omega)) (f3 _ (by omega) (by omega)) o1 o2 o3 o4
  · rw [f1 _ (by omega) (by omega), f3 _ (by omega) (by omega)]; exact h3.1 i hi
  · rw [f1 _ (by omega) (by omega), f3 _ (by omega) (by omega)]; exact h3.2.1
  · rw [f1 _ (by omega) (by omega)]; exact h3.2.2
  · rw [hg 5 (by omega), hg 6 (by omega), hg 7 (by omega)]
    exact gC_fr h4 (fun q _ _ => f1 q (by omega) (by omega)) (fun q _ _ => f2 q (by omega)) (fun q _ _ => f3 q (by omega) (by omega))
  · rw [hg 8 (by omega), hv 13 (by omega)]
    exact gL_fr h5 (f1 _ (by omega) (by omega)) (f1 _ (by omega) (by omega)) (f3 _ (by omega) (by omega)) (f3 _ (by omega) (by omega)) (f3 _ (by omega) (by omega))
  · rw [hg 10 (by omega), hv 16 (by omega)]
    exact gT_fr h6 (f1 _ (by omega) (by omega)) (f3 _ (by omega) (by omega))
  · rw [hv 24 (by omega), f2 0 (by omega)]; exact h7
  · rw [hg 15 (by omega), hg 16 (by omega), hg 17 (by omega), hg 18 (by omega), hv 31 (by omega), hv 32 (by omega), hv 33 (by omega), hv 34 (by omega), hv 35 (by omega)]
    exact gX_fr h8 (f1 _ (by omega) (by omega)) (f1 _ (by omega) (by omega)) (fun q _ _ => f2 q (by omega)) (fun q _ _ => f3 q (by omega) (by omega))
/-- nothing that counts has changed -/
theorem GI_id {Z : DS} {vi : Nat → Int32} {ga : Nat → Nat → Int32} {vi' : Nat → Int32} {ga' : Nat → Nat → Int32} (h : GI Z vi ga) (hv : ∀ q, (4 ≤ q ∧ q < 17) ∨ 24 ≤ q → vi' q = vi q) (hg : ∀ q, q < 9 ∨ q = 10 ∨ 15 ≤ q → ga' q = ga q) : GI Z vi' ga' := by
  unfold GI
  rw [hg 0 (by omega), hg 1 (by omega), hg 2 (by omega), hg 3 (by omega), hg 4 (by omega), hg 5 (by omega), hg 6 (by omega), hg 7 (by omega), hg 8 (by omega), hg 10 (by omega), hg 15 (by omega), hg 16 (by omega), hg 17 (by omega), hg 18 (by omega), hv 4 (by omega), hv 5 (by omega), hv 6 (by omega), hv 13 (by omega), hv 16 (by omega), hv 24 (by omega), hv 31 (by omega), hv 32 (by omega), hv 33 (by omega), hv 34 (by omega), hv 35 (by omega)]
  exact h
