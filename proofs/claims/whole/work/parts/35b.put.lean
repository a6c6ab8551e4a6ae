theorem put_k1 {f : Nat → Int32} {n b : Nat} {key : Int32} (hf : fx f key n < n) (hb : n ≤ b) : usN f n key ≤ b := by
  unfold usN; rw [if_pos hf]; exact hb
theorem put_k2 {f : Nat → Int32} {m n : Nat} {Z : DS} {key : Int32} (hf : ¬ fx f key n < n) (hu : usN f n key ≤ 100) (h12 : Z.1 12 = 100) (hm : m < 2) (hk : m = 0 ∨ n + 1 ≤ Z.1 13) : usN f n key ≤ Z.1 (12 + m) := by
  rcases (show m = 0 ∨ m = 1 by omega) with h | h
  · subst h; show _ ≤ Z.1 12; omega
  · subst h; unfold usN; rw [if_neg hf]; show n + 1 ≤ Z.1 13; omega
theorem put_k3 {f : Nat → Int32} {m n : Nat} {Z : DS} {key : Int32} (hf : ¬ fx f key n < n) (hm : m = 1) (hk : ¬ n + 1 ≤ Z.1 13) : ¬ usN f n key ≤ Z.1 (12 + m) := by
  subst hm; unfold usN; rw [if_neg hf]; exact hk
theorem put_w1 {K V g0 g1 g2 : Nat → Int32} {m n : Nat} {key x : Int32} (hf : fx K key n < n) (h : vw g0 g1 g2 m n K V) : vw (upd (mrs g0 (101 * m) (fx K key n) n) (101 * m + (n - 1)) key) (upd (mrs g1 (101 * m) (fx K key n) n) (101 * m + (n - 1)) x) (upd (upd g2 m (nI (n - 1))) m (nI (n - 1 + 1))) m (usN K n key) (usF K n key) (usV K V n key x) := by
  unfold usN usF usV
  rw [if_pos hf, if_pos hf, if_pos hf]
  have h2 := vw_come (a := key) (b := x) (vw_take h hf)
  rw [show n - 1 + 1 = n by omega] at h2 ⊢
  exact h2
theorem put_w2 {K V g0 g1 g2 : Nat → Int32} {m n : Nat} {key x : Int32} (hf : ¬ fx K key n < n) (h : vw g0 g1 g2 m n K V) : vw (upd g0 (101 * m + n) key) (upd g1 (101 * m + n) x) (upd g2 m (nI (n + 1))) m (usN K n key) (usF K n key) (usV K V n key x) := by
  unfold usN usF usV
  rw [if_neg hf, if_neg hf, if_neg hf]
  exact vw_come h
theorem put_w3 {K V g0 g1 g2 : Nat → Int32} {m n : Nat} {key x : Int32} (hf : ¬ fx K key n < n) (h : vw g0 g1 g2 m n K V) : vw (mrs (upd g0 (101 * m + n) key) (101 * m) 0 (n + 1)) (mrs (upd g1 (101 * m + n) x) (101 * m) 0 (n + 1)) (upd (upd g2 m (nI (n + 1))) m (nI (n + 1 - 1))) m (usN K n key - 1) (shf (usF K n key) 0 (usN K n key)) (shf (usV K V n key x) 0 (usN K n key)) := by
  unfold usN usF usV
  rw [if_neg hf, if_neg hf, if_neg hf]
  exact vw_take (vw_come h) (by omega)
theorem put_v6 {K V g0 g1 g2 : Nat → Int32} {m n : Nat} {key : Int32} (hf : ¬ fx K key n < n) (hm : m = 1) (h : vw g0 g1 g2 m n K V) : upd g0 (101 * m + n) key 101 = usF K n key 0 := by
  subst hm
  unfold usF
  rw [if_neg hf]
  exact (vw_come (a := key) (b := key) h).2.1 0 (by omega)
set_option maxHeartbeats 4000000 in
set_option maxRecDepth 100000 in
theorem c_X10_put_ok (l : Launch) (D : va_G) (ay : Nat → ClassId) (ad : Nat → Nat) (vi : Nat → Int32) (ga : Nat → Nat → Int32) (Z : DS) (m : Nat) (y : Nat) (z : Nat) (hG : GI Z vi ga) (hm : m < 2) (hy : y < 100) (hz : z < 1000) : jM l yX10_put (jws yX10_put cX10_put 6 (some .int)) 4 88 0 0 D ay [.ref (ad 0), .int (nI m), .int (nI y), .int (nI z)] (mW ay ad vi ga) (fun v w => ∃ (vi' : Nat → Int32) (ga' : Nat → Nat → Int32), GI (mU Z m (stN (Z.2.2 (2 * m)) (Z.1 m) (nI y) (Z.1 (12 + m))) (stF (Z.2.2 (2 * m)) (Z.1 m) (nI y) (Z.1 (12 + m))) 0 (Z.2.1 (2 + 5 * m)) (Z.2.1 (3 + 5 * m)) (upd (Z.2.2 (2 * m + 1)) y (nI z)) (Z.1 (12 + m)) (if usN (Z.2.2 (2 * m)) (Z.1 m) (nI y) ≤ (Z.1 (12 + m)) then (Z.2.1 (4 + 5 * m)) else (Z.2.1 (4 + 5 * m)) + 1) (if usN (Z.2.2 (2 * m)) (Z.1 m) (nI y) ≤ (Z.1 (12 + m)) then (Z.2.1 (5 + 5 * m)) else usF (Z.2.2 (2 * m)) (Z.1 m) (nI y) 0)) vi' ga' ∧ vi' 0 = 0 ∧ v = some (.int (if fx (Z.2.2 (2 * m)) (nI y) (Z.1 m) < (Z.1 m) then (Z.2.2 (2 * m + 1)) y else -1)) ∧ w = mW ay ad vi' ga') := by
  refine jM_of l (by decide) [(0, .ref (ad 0)), (1, .int (nI m)), (2, .int (nI y)), (3, .int (nI z))] rfl rfl (fun p9 e9 s9 m9 a9 b9 me9 c9 A9 F => ?_)
  have hgm := hG.1 m hm
  have hI := hgm.1
  have hn := hI.n
  have hv := hgm.2.2.1
  have hB := hG.2.1
  have hmb : m = 0 ∨ Z.1 m ≤ Z.1 13 := by
    rcases (show m = 0 ∨ m = 1 by omega) with h | h
    · exact Or.inl h
    · subst h; exact Or.inr hgm.2.1
  refine j_aload_n F 0 dX10_put_0 rfl ?_
  refine j_iconst F (v := 0) dX10_put_1 (by decide) ?_
  refine j_putf F fX10_1 0 (mW ay ad (ups vi 0 0) ga) rfl rfl rfl rfl rfl (Nat.le_of_ble_eq_true rfl) dX10_put_2 ?_
  refine j_aload_n F 0 dX10_put_5 rfl ?_
  refine j_iload_n F 1 dX10_put_6 rfl ?_
  refine j_iload_n F 2 dX10_put_7 rfl ?_
  refine j_iload_n F 3 dX10_put_8 rfl ?_
  refine j_scallV F kX10_107 (As := [.int (nI m), .int (nI y), .int (nI z)]) (rest := []) (c_X10_noPair_ok l D ay ad (ups vi 0 0) ga (nI m) (nI y) (nI z) rfl (show ¬ oob (nI m) 0 1 from nob1 hm) (show ¬ oob (nI y) 0 99 from nob99 hy) (show ¬ oob (nI z) 0 999 from nob999 hz)) 0 0 20 rfl rfl rfl rfl rfl rfl ⟨Nat.le_of_ble_eq_true rfl, Nat.le_of_ble_eq_true rfl⟩ dX10_put_9 (fun v w hw => ?_)
  obtain ⟨rfl, rfl⟩ := hw
  refine ⟨rfl, (mW ay ad (ups vi 0 0) ga), (slp_all _ _ rfl).trans rfl, ?_⟩
  refine j_top 0 rfl ?_
  refine j_if_eq F 17 dX10_put_12 (by decide) (fun c_12 => ?_) (fun c_12 => absurd (by decide) c_12)
  refine j_aload_n F 0 dX10_put_17 rfl ?_
  refine j_iload_n F 1 dX10_put_18 rfl ?_
  refine j_scallV F kX10_110 (As := [.int (nI m)]) (rest := []) (c_X10_ends l D ay ad (ups vi 0 0) ga m (show m < 2 from by first | assumption | omega)) 0 0 20 rfl rfl rfl rfl rfl rfl ⟨Nat.le_of_ble_eq_true rfl, Nat.le_of_ble_eq_true rfl⟩ dX10_put_19 (fun v w hw => ?_)
  obtain ⟨rfl, rfl⟩ := hw
  refine ⟨rfl, (mW ay ad (ups vi 0 0) (ups (ups ga 3 (upd (ga 3) m (-1))) 4 (upd (ga 4) m 0))), (slp_all _ _ rfl).trans rfl, ?_⟩
  refine j_aload_n F 0 dX10_put_22 rfl ?_
  refine j_iload_n F 1 dX10_put_23 rfl ?_
  refine j_iload_n F 2 dX10_put_24 rfl ?_
  refine j_scallV F kX10_114 (As := [.int (nI m), .int (nI y)]) (rest := []) (c_X10_placeIn l D ay ad (ups vi 0 0) (ups (ups ga 3 (upd (ga 3) m (-1))) 4 (upd (ga 4) m 0)) m (Z.1 m) (nI y) (show m < 2 from hm) (show ga 2 m = nI (Z.1 m) from hv.1) (show (Z.1 m) ≤ 101 from by omega)) 0 0 20 rfl rfl rfl rfl rfl rfl ⟨Nat.le_of_ble_eq_true rfl, Nat.le_of_ble_eq_true rfl⟩ dX10_put_25 (fun v w hw => ?_)
  obtain ⟨rfl, rfl⟩ := hw
  refine ⟨rfl, (mW ay ad (ups vi 0 0) (ups (ups ga 3 (upd (ga 3) m (-1))) 4 (upd (ga 4) m 0))), (slp_all _ _ rfl).trans rfl, ?_⟩
  refine j_top (fxI (Z.2.2 (2 * m)) (nI y) (Z.1 m)) (fxI_c hv.2.1) ?_
  by_cases hf : fx (Z.2.2 (2 * m)) (nI y) (Z.1 m) < Z.1 m
  · skip
    refine j_top (nI (fx (Z.2.2 (2 * m)) (nI y) (Z.1 m))) (if_pos hf) ?_
    refine j_istore F 4 [(4, .int (nI (fx (Z.2.2 (2 * m)) (nI y) (Z.1 m)))), (0, .ref (ad 0)), (1, .int (nI m)), (2, .int (nI y)), (3, .int (nI z))] dX10_put_28 (by decide) rfl ?_
    refine j_iload F 0 dX10_put_30 rfl ?_
    refine j_iconst F (v := (-1)) dX10_put_32 (by decide) ?_
    refine j_icmp_ne F 40 dX10_put_33 (by decide) (fun c_33 => ?_) (fun c_33 => absurd c_33 (nI_m1 (by omega)))
    refine j_aload_n F 1 dX10_put_40 rfl ?_
    refine j_iload_n F 2 dX10_put_41 rfl ?_
    refine j_iload F 0 dX10_put_42 rfl ?_
    refine j_scallV F kX10_99 (As := [.int (nI m), .int (nI (fx (Z.2.2 (2 * m)) (nI y) (Z.1 m)))]) (rest := []) (c_X10_takes l D ay ad (ups vi 0 0) (ups (ups ga 3 (upd (ga 3) m (-1))) 4 (upd (ga 4) m 0)) m (Z.1 m) (fx (Z.2.2 (2 * m)) (nI y) (Z.1 m)) (show m < 2 from hm) (show ga 2 m = nI (Z.1 m) from hv.1) (show (Z.1 m) ≤ 101 from by omega) (show (fx (Z.2.2 (2 * m)) (nI y) (Z.1 m)) < (Z.1 m) from hf)) 0 0 20 rfl rfl rfl rfl rfl rfl ⟨Nat.le_of_ble_eq_true rfl, Nat.le_of_ble_eq_true rfl⟩ dX10_put_44 (fun v w hw => ?_)
    obtain ⟨rfl, rfl⟩ := hw
    refine ⟨rfl, (mW ay ad (ups vi 0 0) (ups (ups (ups (ups (ups ga 0 (mrs (ga 0) (101 * m) (fx (Z.2.2 (2 * m)) (nI y) (Z.1 m)) (Z.1 m))) 1 (mrs (ga 1) (101 * m) (fx (Z.2.2 (2 * m)) (nI y) (Z.1 m)) (Z.1 m))) 2 (upd (ga 2) m (nI ((Z.1 m) - 1)))) 3 (upd (ga 3) m (-1))) 4 (upd (ga 4) m 0))), (slp_all _ _ rfl).trans rfl, ?_⟩
    refine j_top (Z.2.2 (2 * m + 1) y) ((hv.2.2 _ hf).trans (mV_fx hy hf)) ?_
    refine j_istore F 5 [(5, .int (Z.2.2 (2 * m + 1) y)), (4, .int (nI (fx (Z.2.2 (2 * m)) (nI y) (Z.1 m)))), (0, .ref (ad 0)), (1, .int (nI m)), (2, .int (nI y)), (3, .int (nI z))] dX10_put_47 (by decide) rfl ?_
    refine j_aload_n F 2 dX10_put_49 rfl ?_
    refine j_iload_n F 3 dX10_put_50 rfl ?_
    refine j_iload_n F 4 dX10_put_51 rfl ?_
    refine j_iload_n F 5 dX10_put_52 rfl ?_
    refine j_scallV F kX10_117 (As := [.int (nI m), .int (nI y), .int (nI z)]) (rest := []) (c_X10_comes_keep l D ay ad (ups vi 0 0) (ups (ups (ups (ups (ups ga 0 (mrs (ga 0) (101 * m) (fx (Z.2.2 (2 * m)) (nI y) (Z.1 m)) (Z.1 m))) 1 (mrs (ga 1) (101 * m) (fx (Z.2.2 (2 * m)) (nI y) (Z.1 m)) (Z.1 m))) 2 (upd (ga 2) m (nI ((Z.1 m) - 1)))) 3 (upd (ga 3) m (-1))) 4 (upd (ga 4) m 0)) m (Z.1 m - 1) (Z.1 13) (nI y) (nI z) (show m < 2 from hm) (show (upd (ga 2) m (nI ((Z.1 m) - 1))) m = nI (Z.1 m - 1) from upd_s) (show (Z.1 m - 1) ≤ 100 from by omega) (show vi 4 = nI (Z.1 13) from hB.2.2.1) (show (Z.1 13) ≤ 100 ∧ (m = 0 ∨ (Z.1 m - 1) + 1 ≤ (Z.1 13)) from ⟨by have := hB.2.1; omega, by omega⟩)) 0 0 20 rfl rfl rfl rfl rfl rfl ⟨Nat.le_of_ble_eq_true rfl, Nat.le_of_ble_eq_true rfl⟩ dX10_put_53 (fun v w hw => ?_)
    obtain ⟨rfl, rfl⟩ := hw
    refine ⟨rfl, (mW ay ad (ups vi 0 0) (ups (ups (ups (ups (ups ga 0 (upd ((mrs (ga 0) (101 * m) (fx (Z.2.2 (2 * m)) (nI y) (Z.1 m)) (Z.1 m))) (101 * m + (Z.1 m - 1)) (nI y))) 1 (upd ((mrs (ga 1) (101 * m) (fx (Z.2.2 (2 * m)) (nI y) (Z.1 m)) (Z.1 m))) (101 * m + (Z.1 m - 1)) (nI z))) 2 (upd ((upd (ga 2) m (nI ((Z.1 m) - 1)))) m (nI ((Z.1 m - 1) + 1)))) 3 (upd (ga 3) m (-1))) 4 (upd (ga 4) m 0))), (slp_all _ _ rfl).trans rfl, ?_⟩
    refine j_iload F 0 dX10_put_56 rfl ?_
    exact j_iret F ⟨ups vi 0 0, ups (ups (ups (ups (ups ga 0 (upd ((mrs (ga 0) (101 * m) (fx (Z.2.2 (2 * m)) (nI y) (Z.1 m)) (Z.1 m))) (101 * m + (Z.1 m - 1)) (nI y))) 1 (upd ((mrs (ga 1) (101 * m) (fx (Z.2.2 (2 * m)) (nI y) (Z.1 m)) (Z.1 m))) (101 * m + (Z.1 m - 1)) (nI z))) 2 (upd ((upd (ga 2) m (nI ((Z.1 m) - 1)))) m (nI ((Z.1 m - 1) + 1)))) 3 (upd (ga 3) m (-1))) 4 (upd (ga 4) m 0), (put_G (x := nI z) hG hm hy (nI_m1 (by omega)) (fun q hq => (ups_ne (by omega)).trans rfl) (fun q hq => (ups_ne (by omega)).trans ((ups_ne (by omega)).trans ((ups_ne (by omega)).trans ((ups_ne (by omega)).trans ((ups_ne (by omega)).trans rfl))))) rfl rfl (fm_trans (fm_take hm (by omega)) (fm_come hm (by omega))) rfl (Or.inl ⟨put_k1 hf hgm.2.1, rfl, rfl, put_w1 hf hv⟩)), rfl, (by rw [if_pos hf]), rfl⟩ dX10_put_58 (Nat.le_of_ble_eq_true rfl) (Nat.le_of_ble_eq_true rfl)
  · skip
    refine j_top (-1) (if_neg hf) ?_
    refine j_istore F 4 [(4, .int (-1)), (0, .ref (ad 0)), (1, .int (nI m)), (2, .int (nI y)), (3, .int (nI z))] dX10_put_28 (by decide) rfl ?_
    refine j_iload F 0 dX10_put_30 rfl ?_
    refine j_iconst F (v := (-1)) dX10_put_32 (by decide) ?_
    refine j_icmp_ne F 40 dX10_put_33 (by decide) (fun c_33 => absurd (by decide) c_33) (fun c_33 => ?_)
    refine j_iconst F (v := (-1)) dX10_put_36 (by decide) ?_
    refine j_goto F 47 dX10_put_37 (by decide) ?_
    refine j_istore F 5 [(5, .int (-1)), (4, .int (-1)), (0, .ref (ad 0)), (1, .int (nI m)), (2, .int (nI y)), (3, .int (nI z))] dX10_put_47 (by decide) rfl ?_
    by_cases hk : m = 0 ∨ Z.1 m + 1 ≤ Z.1 13
    · skip
      refine j_aload_n F 2 dX10_put_49 rfl ?_
      refine j_iload_n F 3 dX10_put_50 rfl ?_
      refine j_iload_n F 4 dX10_put_51 rfl ?_
      refine j_iload_n F 5 dX10_put_52 rfl ?_
      refine j_scallV F kX10_117 (As := [.int (nI m), .int (nI y), .int (nI z)]) (rest := []) (c_X10_comes_keep l D ay ad (ups vi 0 0) (ups (ups ga 3 (upd (ga 3) m (-1))) 4 (upd (ga 4) m 0)) m (Z.1 m) (Z.1 13) (nI y) (nI z) (show m < 2 from hm) (show ga 2 m = nI (Z.1 m) from hv.1) (show (Z.1 m) ≤ 100 from by omega) (show vi 4 = nI (Z.1 13) from hB.2.2.1) (show (Z.1 13) ≤ 100 ∧ (m = 0 ∨ (Z.1 m) + 1 ≤ (Z.1 13)) from ⟨by have := hB.2.1; omega, hk⟩)) 0 0 20 rfl rfl rfl rfl rfl rfl ⟨Nat.le_of_ble_eq_true rfl, Nat.le_of_ble_eq_true rfl⟩ dX10_put_53 (fun v w hw => ?_)
      obtain ⟨rfl, rfl⟩ := hw
      refine ⟨rfl, (mW ay ad (ups vi 0 0) (ups (ups (ups (ups (ups ga 0 (upd (ga 0) (101 * m + (Z.1 m)) (nI y))) 1 (upd (ga 1) (101 * m + (Z.1 m)) (nI z))) 2 (upd (ga 2) m (nI ((Z.1 m) + 1)))) 3 (upd (ga 3) m (-1))) 4 (upd (ga 4) m 0))), (slp_all _ _ rfl).trans rfl, ?_⟩
      refine j_iload F 0 dX10_put_56 rfl ?_
      exact j_iret F ⟨ups vi 0 0, ups (ups (ups (ups (ups ga 0 (upd (ga 0) (101 * m + (Z.1 m)) (nI y))) 1 (upd (ga 1) (101 * m + (Z.1 m)) (nI z))) 2 (upd (ga 2) m (nI ((Z.1 m) + 1)))) 3 (upd (ga 3) m (-1))) 4 (upd (ga 4) m 0), (put_G (x := nI z) hG hm hy (nI_m1 (by omega)) (fun q hq => (ups_ne (by omega)).trans rfl) (fun q hq => (ups_ne (by omega)).trans ((ups_ne (by omega)).trans ((ups_ne (by omega)).trans ((ups_ne (by omega)).trans ((ups_ne (by omega)).trans rfl))))) rfl rfl (fm_come hm (by omega)) rfl (Or.inl ⟨put_k2 hf (hI.1.use hy).1 hB.1 hm hk, rfl, rfl, put_w2 hf hv⟩)), rfl, (by rw [if_neg hf]), rfl⟩ dX10_put_58 (Nat.le_of_ble_eq_true rfl) (Nat.le_of_ble_eq_true rfl)
    · skip
      replace hk : m = 1 ∧ ¬ Z.1 m + 1 ≤ Z.1 13 := ⟨by omega, fun h => hk (Or.inr h)⟩
      refine j_aload_n F 2 dX10_put_49 rfl ?_
      refine j_iload_n F 3 dX10_put_50 rfl ?_
      refine j_iload_n F 4 dX10_put_51 rfl ?_
      refine j_iload_n F 5 dX10_put_52 rfl ?_
      refine j_scallV F kX10_117 (As := [.int (nI m), .int (nI y), .int (nI z)]) (rest := []) (c_X10_comes_out l D ay ad (ups vi 0 0) (ups (ups ga 3 (upd (ga 3) m (-1))) 4 (upd (ga 4) m 0)) m (Z.1 m) (Z.1 13) (nI y) (nI z) (show m = 1 from hk.1) (show ga 2 m = nI (Z.1 m) from hv.1) (show (Z.1 m) ≤ 100 from by omega) (show vi 4 = nI (Z.1 13) from hB.2.2.1) (show (Z.1 13) ≤ 100 ∧ (Z.1 13) < (Z.1 m) + 1 from ⟨by have := hB.2.1; omega, by omega⟩)) 0 0 20 rfl rfl rfl rfl rfl rfl ⟨Nat.le_of_ble_eq_true rfl, Nat.le_of_ble_eq_true rfl⟩ dX10_put_53 (fun v w hw => ?_)
      obtain ⟨rfl, rfl⟩ := hw
      refine ⟨rfl, (mW ay ad (ups (ups (ups vi 0 0) 5 (vi 5 + 1)) 6 (upd (ga 0) (101 * m + (Z.1 m)) (nI y) 101)) (ups (ups (ups (ups (ups ga 0 (mrs (upd (ga 0) (101 * m + (Z.1 m)) (nI y)) (101 * m) 0 ((Z.1 m) + 1))) 1 (mrs (upd (ga 1) (101 * m + (Z.1 m)) (nI z)) (101 * m) 0 ((Z.1 m) + 1))) 2 (upd (upd (ga 2) m (nI ((Z.1 m) + 1))) m (nI ((Z.1 m) + 1 - 1)))) 3 (upd (ga 3) m (-1))) 4 (upd (ga 4) m 0))), (slp_all _ _ rfl).trans rfl, ?_⟩
      refine j_iload F 0 dX10_put_56 rfl ?_
      exact j_iret F ⟨ups (ups (ups vi 0 0) 5 (vi 5 + 1)) 6 (upd (ga 0) (101 * m + (Z.1 m)) (nI y) 101), ups (ups (ups (ups (ups ga 0 (mrs (upd (ga 0) (101 * m + (Z.1 m)) (nI y)) (101 * m) 0 ((Z.1 m) + 1))) 1 (mrs (upd (ga 1) (101 * m + (Z.1 m)) (nI z)) (101 * m) 0 ((Z.1 m) + 1))) 2 (upd (upd (ga 2) m (nI ((Z.1 m) + 1))) m (nI ((Z.1 m) + 1 - 1)))) 3 (upd (ga 3) m (-1))) 4 (upd (ga 4) m 0), (put_G (x := nI z) hG hm hy (nI_m1 (by omega)) (fun q hq => (ups_ne (by omega)).trans ((ups_ne (by omega)).trans ((ups_ne (by omega)).trans rfl))) (fun q hq => (ups_ne (by omega)).trans ((ups_ne (by omega)).trans ((ups_ne (by omega)).trans ((ups_ne (by omega)).trans ((ups_ne (by omega)).trans rfl))))) rfl rfl (fm_trans (fm_come hm (by omega)) (fm_take hm (by omega))) rfl (Or.inr ⟨put_k3 hf hk.1 hk.2, hk.1, rfl, put_v6 hf hk.1 hv, put_w3 hf hv⟩)), rfl, (by rw [if_neg hf]), rfl⟩ dX10_put_58 (Nat.le_of_ble_eq_true rfl) (Nat.le_of_ble_eq_true rfl)

set_option maxHeartbeats 4000000 in
set_option maxRecDepth 100000 in
theorem c_X10_put_no (l : Launch) (D : va_G) (ay : Nat → ClassId) (ad : Nat → Nat) (vi : Nat → Int32) (ga : Nat → Nat → Int32) (Z : DS) (x : Int32) (y : Int32) (z : Int32) (hG : GI Z vi ga) (h : oob x 0 1 ∨ oob y 0 99 ∨ oob z 0 999) : jM l yX10_put (jws yX10_put cX10_put 6 (some .int)) 4 88 0 0 D ay [.ref (ad 0), .int x, .int y, .int z] (mW ay ad vi ga) (fun v w => ∃ (vi' : Nat → Int32) (ga' : Nat → Nat → Int32), GI Z vi' ga' ∧ vi' 0 = 1 ∧ v = some (.int 0) ∧ w = mW ay ad vi' ga') := by
  refine jM_of l (by decide) [(0, .ref (ad 0)), (1, .int x), (2, .int y), (3, .int z)] rfl rfl (fun p9 e9 s9 m9 a9 b9 me9 c9 A9 F => ?_)
  refine j_aload_n F 0 dX10_put_0 rfl ?_
  refine j_iconst F (v := 0) dX10_put_1 (by decide) ?_
  refine j_putf F fX10_1 0 (mW ay ad (ups vi 0 0) ga) rfl rfl rfl rfl rfl (Nat.le_of_ble_eq_true rfl) dX10_put_2 ?_
  refine j_aload_n F 0 dX10_put_5 rfl ?_
  refine j_iload_n F 1 dX10_put_6 rfl ?_
  refine j_iload_n F 2 dX10_put_7 rfl ?_
  refine j_iload_n F 3 dX10_put_8 rfl ?_
  refine j_scallV F kX10_107 (As := [.int x, .int y, .int z]) (rest := []) (c_X10_noPair_no l D ay ad (ups vi 0 0) ga x y z rfl (show oob x 0 1 ∨ oob y 0 99 ∨ oob z 0 999 from h)) 0 0 20 rfl rfl rfl rfl rfl rfl ⟨Nat.le_of_ble_eq_true rfl, Nat.le_of_ble_eq_true rfl⟩ dX10_put_9 (fun v w hw => ?_)
  obtain ⟨rfl, rfl⟩ := hw
  refine ⟨rfl, (mW ay ad (ups vi 0 1) ga), (slp_all _ _ rfl).trans rfl, ?_⟩
  refine j_top 1 rfl ?_
  refine j_if_eq F 17 dX10_put_12 (by decide) (fun c_12 => absurd c_12 (by decide)) (fun c_12 => ?_)
  refine j_iconst F (v := 0) dX10_put_15 (by decide) ?_
  exact j_iret F ⟨ups vi 0 1, ga, (GI_id hG (fun q hq => (ups_ne (by omega)).trans rfl) (fun q hq => rfl)), rfl, rfl, rfl⟩ dX10_put_16 (Nat.le_of_ble_eq_true rfl) (Nat.le_of_ble_eq_true rfl)

