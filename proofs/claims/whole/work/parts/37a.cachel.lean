section JN
variable {p : Program} {l : Launch} {e : Env} {R : Room} {s : State} {m : MethodId} {args : Array Value} {below : List Frame} {meth : Method} {c : Code} {Q : State → Prop} {D : va_G} {A : Nat → Prop} {nL k n : Nat} {ws : va_W} {pc : Nat} {lv : List (Nat × Value)} {st : List Value}
theorem j_nf (ws' : va_W) (lv' : List (Nat × Value)) (hw : ws = ws') (hl : lv = lv') (kk : jJ p l e R s m args below meth c Q D A nL k n ws' pc lv' st) : jJ p l e R s m args below meth c Q D A nL k n ws pc lv st := hw ▸ hl ▸ kk
end JN
/-- the rows hold the keys K of the cache i + 1, n of them -/
def cw (g5 g6 : Nat → Int32) (i n : Nat) (K : Nat → Int32) : Prop := g6 (i + 1) = nI n ∧ ∀ j, j < n → g5 (9 * (i + 1) + j) = K j
def fC (i : Nat) (g5 g6 h5 h6 : Nat → Int32) : Prop := ∀ q, q < 8 → q ≠ i → h6 (q + 1) = g6 (q + 1) ∧ ∀ j, j < 9 → h5 (9 * (q + 1) + j) = g5 (9 * (q + 1) + j)
theorem fC_id {i : Nat} {g5 g6 : Nat → Int32} : fC i g5 g6 g5 g6 := fun _ _ _ => ⟨rfl, fun _ _ => rfl⟩
theorem fC_trans {i : Nat} {g5 g6 h5 h6 k5 k6 : Nat → Int32} (a : fC i g5 g6 h5 h6) (b : fC i h5 h6 k5 k6) : fC i g5 g6 k5 k6 := fun q hq hn => ⟨(b q hq hn).1.trans (a q hq hn).1, fun j hj => ((b q hq hn).2 j hj).trans ((a q hq hn).2 j hj)⟩
theorem fC_take {i n p : Nat} {g5 g6 : Nat → Int32} {x : Int32} (hn : n ≤ 9) : fC i g5 g6 (mrs g5 (9 * (i + 1)) p n) (upd g6 (i + 1) x) := fun q hq hne => ⟨upd_o (by omega), fun j hj => mrs_ne (by omega)⟩
theorem fC_come {i n : Nat} {g5 g6 : Nat → Int32} {a x : Int32} (hn : n ≤ 8) : fC i g5 g6 (upd g5 (9 * (i + 1) + n) a) (upd g6 (i + 1) x) := fun q hq hne => ⟨upd_o (by omega), fun j hj => upd_o (by omega)⟩
theorem cw_take {i n p : Nat} {g5 g6 K : Nat → Int32} (h : cw g5 g6 i n K) (hp : p < n) : cw (mrs g5 (9 * (i + 1)) p n) (upd g6 (i + 1) (nI (n - 1))) i (n - 1) (shf K p n) := by
  refine ⟨upd_s, fun j hj => ?_⟩
  show (if 9 * (i + 1) + p ≤ 9 * (i + 1) + j ∧ 9 * (i + 1) + j + 1 < 9 * (i + 1) + n then g5 (9 * (i + 1) + j + 1) else g5 (9 * (i + 1) + j)) = (if p ≤ j ∧ j + 1 < n then K (j + 1) else K j)
  by_cases c : p ≤ j ∧ j + 1 < n
  · rw [if_pos (by omega), if_pos c, Nat.add_assoc]; exact h.2 _ c.2
  · rw [if_neg (by omega), if_neg c]; exact h.2 _ (by omega)
theorem cw_come {i n : Nat} {g5 g6 K : Nat → Int32} {a : Int32} (h : cw g5 g6 i n K) : cw (upd g5 (9 * (i + 1) + n) a) (upd g6 (i + 1) (nI (n + 1))) i (n + 1) (upd K n a) := by
  refine ⟨upd_s, fun j hj => ?_⟩
  by_cases c : j = n
  · rw [c, upd_s, upd_s]
  · rw [upd_o (by omega), upd_o c]; exact h.2 j (by omega)
theorem cw_1 {K g5 g6 : Nat → Int32} {i n : Nat} {key : Int32} (hf : fx K key n < n) (hn : n ≤ i + 1) (h : cw g5 g6 i n K) : cw (upd (mrs g5 (9 * (i + 1)) (fx K key n) n) (9 * (i + 1) + (n - 1)) key) (upd (upd g6 (i + 1) (nI (n - 1))) (i + 1) (nI (n - 1 + 1))) i (stN K n key (i + 1)) (stF K n key (i + 1)) := by
  have hu : usN K n key = n := by unfold usN; rw [if_pos hf]
  unfold stN stF
  rw [hu, if_pos hn, if_pos hn]
  unfold usF
  rw [if_pos hf]
  have h2 := cw_come (a := key) (cw_take h hf)
  rw [show n - 1 + 1 = n by omega] at h2 ⊢
  exact h2
theorem cw_2 {K g5 g6 : Nat → Int32} {i n : Nat} {key : Int32} (hf : ¬ fx K key n < n) (hn : n + 1 ≤ i + 1) (h : cw g5 g6 i n K) : cw (upd g5 (9 * (i + 1) + n) key) (upd g6 (i + 1) (nI (n + 1))) i (stN K n key (i + 1)) (stF K n key (i + 1)) := by
  have hu : usN K n key = n + 1 := by unfold usN; rw [if_neg hf]
  unfold stN stF
  rw [hu, if_pos hn, if_pos hn]
  unfold usF
  rw [if_neg hf]
  exact cw_come h
theorem cw_3 {K g5 g6 : Nat → Int32} {i n : Nat} {key : Int32} (hf : ¬ fx K key n < n) (hn : ¬ n + 1 ≤ i + 1) (h : cw g5 g6 i n K) : cw (mrs (upd g5 (9 * (i + 1) + n) key) (9 * (i + 1)) 0 (n + 1)) (upd (upd g6 (i + 1) (nI (n + 1))) (i + 1) (nI (n + 1 - 1))) i (stN K n key (i + 1)) (stF K n key (i + 1)) := by
  have hu : usN K n key = n + 1 := by unfold usN; rw [if_neg hf]
  unfold stN stF
  rw [hu, if_neg hn, if_neg hn]
  unfold usF
  rw [if_neg hf]
  exact cw_take (cw_come h) (by omega)
theorem ask1_C {T : DS} {key : Int32} {i : Nat} {g5 g6 g7 h5 h6 h7 : Nat → Int32} (h : gC T g5 g6 g7) (hi : i < 8) (hf : fC i g5 g6 h5 h6) (h7e : h7 = if fx (T.2.2 (4 + i)) key (T.1 (2 + i)) < T.1 (2 + i) then upd g7 (i + 1) (T.2.1 (11 + i) + 1) else g7) (hv : cw h5 h6 i (stN (T.2.2 (4 + i)) (T.1 (2 + i)) key (i + 1)) (stF (T.2.2 (4 + i)) (T.1 (2 + i)) key (i + 1))) : gC (ask1 T i key) h5 h6 h7 := by
  intro q hq
  by_cases e : q = i
  · subst e
    have a1 : (ask1 T q key).1 (2 + q) = stN (T.2.2 (4 + q)) (T.1 (2 + q)) key (q + 1) := ups_at
    have a2 : (ask1 T q key).2.2 (4 + q) = stF (T.2.2 (4 + q)) (T.1 (2 + q)) key (q + 1) := ups_at
    have a3 : (ask1 T q key).2.1 (11 + q) = if fx (T.2.2 (4 + q)) key (T.1 (2 + q)) < T.1 (2 + q) then T.2.1 (11 + q) + 1 else T.2.1 (11 + q) := ups_at
    rw [a1, a2, a3]
    refine ⟨?_, hv.1, ?_, hv.2⟩
    · have h1 := (h q hq).1
      have h2 := usN_b (f := T.2.2 (4 + q)) (n := T.1 (2 + q)) (key := key)
      unfold stN; split <;> omega
    · rw [h7e]
      split
      · exact upd_s
      · exact (h q hq).2.2.1
  · have a1 : (ask1 T i key).1 (2 + q) = T.1 (2 + q) := ups_ne (by omega)
    have a2 : (ask1 T i key).2.2 (4 + q) = T.2.2 (4 + q) := ups_ne (by omega)
    have a3 : (ask1 T i key).2.1 (11 + q) = T.2.1 (11 + q) := ups_ne (by omega)
    rw [a1, a2, a3]
    obtain ⟨b1, b2, b3, b4⟩ := h q hq
    refine ⟨b1, (hf q hq e).1.trans b2, ?_, fun j hj => ((hf q hq e).2 j (by omega)).trans (b4 j hj)⟩
    rw [h7e]
    split
    · rw [upd_o (by omega)]; exact b3
    · exact b3
theorem LO_congr {f R R' : Nat → Int32} {n c : Nat} (h : LO f n R c) (hr : ∀ t, t < c → R' t = R t) : LO f n R' c := by
  obtain ⟨L, h1, h2, h3⟩ := h
  refine ⟨L, fun j hj => ?_, h2, fun t ht => ?_⟩
  · obtain ⟨a, b, d⟩ := h1 j hj
    exact ⟨a, (hr _ a).trans b, fun t t1 t2 => by rw [hr t t2]; exact d t t1 t2⟩
  · rw [hr t ht]; exact h3 t ht
theorem LO_0 {f R : Nat → Int32} : LO f 0 R 0 := ⟨fun _ => 0, fun _ h => absurd h (Nat.not_lt_zero _), fun _ _ _ h => absurd h (Nat.not_lt_zero _), fun _ h => absurd h (Nat.not_lt_zero _)⟩
theorem LO_use {f R : Nat → Int32} {n c : Nat} {key : Int32} (hk : ∀ i j, i < j → j < n → ¬ f i = f j) (h : LO f n R c) (hc : R c = key) : LO (usF f n key) (usN f n key) R (c + 1) := by
  obtain ⟨L, h1, h2, h3⟩ := h
  by_cases hf : fx f key n < n
  · have hp := fx_yes hf
    unfold usN usF
    rw [if_pos hf, if_pos hf]
    have e1 : ∀ j, j ≠ n - 1 → j < n → upd (shf f (fx f key n) n) (n - 1) key j = f (if fx f key n ≤ j then j + 1 else j) := fun j h0 h1 => by
      rw [upd_o h0]
      show (if fx f key n ≤ j ∧ j + 1 < n then f (j + 1) else f j) = _
      by_cases hq : fx f key n ≤ j
      · rw [if_pos ⟨hq, by omega⟩, if_pos hq]
      · rw [if_neg (fun q => hq q.1), if_neg hq]
    have hne : ∀ i, i < n → i ≠ fx f key n → ¬ key = f i := fun i hi hip e4 => by
      rcases Nat.lt_trichotomy i (fx f key n) with h5 | h5 | h5
      · exact hk i _ h5 hf (by rw [← e4, hp])
      · exact hip h5
      · exact hk _ i h5 hi (by rw [← e4, hp])
    refine ⟨fun j => if j = n - 1 then c else L (if fx f key n ≤ j then j + 1 else j), fun j hj => ?_, fun i j hij hj => ?_, fun t ht => ?_⟩
    · show (if j = n - 1 then c else L (if fx f key n ≤ j then j + 1 else j)) < c + 1 ∧ R (if j = n - 1 then c else L (if fx f key n ≤ j then j + 1 else j)) = _ ∧ ∀ t, (if j = n - 1 then c else L (if fx f key n ≤ j then j + 1 else j)) < t → _
      by_cases h0 : j = n - 1
      · rw [if_pos h0]
        refine ⟨by omega, by rw [h0, upd_s]; exact hc, fun t t1 t2 => by omega⟩
      · rw [if_neg h0, e1 j h0 hj]
        have hb : (if fx f key n ≤ j then j + 1 else j) < n := by split <;> omega
        obtain ⟨a, b, d⟩ := h1 _ hb
        refine ⟨by omega, b, fun t t1 t2 => ?_⟩
        by_cases ht : t = c
        · rw [ht, hc]
          exact hne _ hb (by split <;> omega)
        · exact d t t1 (by omega)
    · show (if i = n - 1 then c else L (if fx f key n ≤ i then i + 1 else i)) < (if j = n - 1 then c else L (if fx f key n ≤ j then j + 1 else j))
      rw [if_neg (show ¬ i = n - 1 by omega)]
      by_cases h0 : j = n - 1
      · rw [if_pos h0]
        exact (h1 _ (by split <;> omega)).1
      · rw [if_neg h0]
        exact h2 _ _ (by split <;> split <;> omega) (by split <;> omega)
    · by_cases h0 : t = c
      · exact ⟨n - 1, by omega, by rw [h0, upd_s, hc]⟩
      · obtain ⟨j, hj, e⟩ := h3 t (by omega)
        by_cases hjp : j = fx f key n
        · refine ⟨n - 1, by omega, ?_⟩
          rw [upd_s, ← e, hjp, hp]
        · refine ⟨if fx f key n ≤ j then j - 1 else j, by split <;> omega, ?_⟩
          rw [e1 _ (by split <;> omega) (by split <;> omega), ← e]
          congr 1
          by_cases q : fx f key n ≤ j
          · rw [if_pos q, if_pos (by omega)]; omega
          · rw [if_neg q, if_neg q]
  · unfold usN usF
    rw [if_neg hf, if_neg hf]
    have hno : ∀ j, j < n → ¬ key = f j := fun j hj e => fx_no (f := f) (key := key) (n := n) (by have := fx_le f key n; omega) e.symm
    refine ⟨fun j => if j = n then c else L j, fun j hj => ?_, fun i j hij hj => ?_, fun t ht => ?_⟩
    · show (if j = n then c else L j) < c + 1 ∧ R (if j = n then c else L j) = _ ∧ ∀ t, (if j = n then c else L j) < t → _
      by_cases h0 : j = n
      · rw [if_pos h0]
        exact ⟨by omega, by rw [h0, upd_s]; exact hc, fun t t1 t2 => by omega⟩
      · rw [if_neg h0, upd_o h0]
        obtain ⟨a, b, d⟩ := h1 j (by omega)
        refine ⟨by omega, b, fun t t1 t2 => ?_⟩
        by_cases ht : t = c
        · rw [ht, hc]; exact hno j (by omega)
        · exact d t t1 (by omega)
    · show (if i = n then c else L i) < (if j = n then c else L j)
      rw [if_neg (show ¬ i = n by omega)]
      by_cases h0 : j = n
      · rw [if_pos h0]; exact (h1 i (by omega)).1
      · rw [if_neg h0]; exact h2 i j hij (by omega)
    · by_cases h0 : t = c
      · exact ⟨n, by omega, by rw [h0, upd_s, hc]⟩
      · obtain ⟨j, hj, e⟩ := h3 t (by omega)
        exact ⟨j, by omega, by rw [upd_o (by omega)]; exact e⟩
/-- a request in both states -/
theorem ask_G {Z : DS} {vi vi' : Nat → Int32} {ga ga' : Nat → Nat → Int32} {y : Nat} (hG : GI Z vi ga) (hy : y < 100) (hc : Z.1 14 < 1000) (hv : ∀ q, q ≠ 13 → vi' q = vi q) (h13 : vi' 13 = nI (Z.1 14 + 1)) (hg : ∀ q, q < 5 ∨ 8 < q → ga' q = ga q) (h8 : ga' 8 = upd (ga 8) (Z.1 14) (nI y)) (hC : gC (askC Z (nI y) 8) (ga' 5) (ga' 6) (ga' 7)) : GI (askS Z (nI y)) vi' ga' := by
  obtain ⟨h1, h2, h3, h4, h5, h6, h7, h9⟩ := hG
  obtain ⟨f1, f2, f3⟩ := askS_fr Z (nI y)
  refine ⟨fun m hm => ?_, ?_, (askS_k h3 hy hc).1, ?_, ?_, ?_, ?_, ?_⟩
  · rw [hg 0 (by omega), hg 1 (by omega), hg 2 (by omega), hg 3 (by omega), hg 4 (by omega)]
    exact gM_fr (h1 m hm) (f1 _ (by omega)) (f1 _ (by omega)) (f2 _ (by omega)) (f2 _ (by omega)) (f2 _ (by omega)) (f3 _ (by omega)) (f3 _ (by omega)) rfl (fun _ _ => ⟨rfl, rfl⟩) rfl rfl
  · rw [hv 4 (by omega), hv 5 (by omega), hv 6 (by omega)]
    exact gB_fr h2 (f1 _ (by omega)) (f1 _ (by omega)) (f2 _ (by omega)) (f2 _ (by omega))
  · exact gC_fr hC (fun q _ _ => (ups_ne (by omega)).trans (ups_ne (by omega))) (fun _ _ _ => rfl) (fun q _ _ => (ups_ne (by omega)).trans ((ups_ne (by omega)).trans (ups_ne (by omega))))
  · obtain ⟨a1, a2, a3, a4⟩ := h5
    have e1 : (askS Z (nI y)).1 14 = Z.1 14 + 1 := rfl
    have e2 : (askS Z (nI y)).2.2 12 = upd (Z.2.2 12) (Z.1 14) (nI y) := rfl
    have e3 : (askS Z (nI y)).2.2 13 = upd (Z.2.2 13) (Z.1 14) (dsI (Z.2.2 14) (Z.1 10) (nI y)) := rfl
    have e4 : (askS Z (nI y)).1 10 = usN (Z.2.2 14) (Z.1 10) (nI y) := rfl
    have e5 : (askS Z (nI y)).2.2 14 = usF (Z.2.2 14) (Z.1 10) (nI y) := rfl
    unfold gL
    rw [e1, e2, e3, e4, e5]
    have hcg : ∀ t, t < Z.1 14 → upd (Z.2.2 12) (Z.1 14) (nI y) t = Z.2.2 12 t := fun t ht => upd_o (by omega)
    refine ⟨h13, fun r hr => ?_, LO_use h3.2.1.2.2 (LO_congr a3 hcg) upd_s, fun r hr => ?_⟩
    · rw [h8]
      by_cases hq : r = Z.1 14
      · rw [hq, upd_s, upd_s]
      · rw [upd_o hq, upd_o hq]; exact a2 r (by omega)
    · by_cases hq : r = Z.1 14
      · subst hq
        rw [upd_s, upd_s]
        exact ⟨⟨y, hy, rfl⟩, Z.2.2 14, Z.1 10, h3.2.1, LO_congr a3 hcg, rfl⟩
      · rw [upd_o hq, upd_o hq]
        obtain ⟨b1, f, n, b2, b3, b4⟩ := a4 r (by omega)
        exact ⟨b1, f, n, b2, LO_congr b3 (fun t ht => hcg t (by omega)), b4⟩
  · rw [hg 10 (by omega), hv 16 (by omega)]
    exact gT_fr h6 (f1 _ (by omega)) (f3 _ (by omega))
  · rw [hv 24 (by omega), f2 0 (by omega)]; exact h7
  · rw [hg 15 (by omega), hg 16 (by omega), hg 17 (by omega), hg 18 (by omega), hv 31 (by omega), hv 32 (by omega), hv 33 (by omega), hv 34 (by omega), hv 35 (by omega)]
    exact gX_fr h9 (f1 _ (by omega)) (f1 _ (by omega)) (fun q _ _ => f2 q (by omega)) (fun q _ _ => f3 q (by omega))
