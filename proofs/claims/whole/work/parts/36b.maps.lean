set_option maxHeartbeats 4000000 in
set_option maxRecDepth 100000 in
theorem c_X10_putIfAbsent_ok (l : Launch) (D : va_G) (ay : Nat → ClassId) (ad : Nat → Nat) (vi : Nat → Int32) (ga : Nat → Nat → Int32) (Z : DS) (m : Nat) (y : Nat) (z : Nat) (hG : GI Z vi ga) (hm : m < 2) (hy : y < 100) (hz : z < 1000) : jM l yX10_putIfAbsent (jws yX10_putIfAbsent cX10_putIfAbsent 5 (some .int)) 4 88 0 0 D ay [.ref (ad 0), .int (nI m), .int (nI y), .int (nI z)] (mW ay ad vi ga) (fun v w => ∃ (vi' : Nat → Int32) (ga' : Nat → Nat → Int32), GI (mU Z m (stN (Z.2.2 (2 * m)) (Z.1 m) (nI y) (Z.1 (12 + m))) (stF (Z.2.2 (2 * m)) (Z.1 m) (nI y) (Z.1 (12 + m))) 0 (Z.2.1 (2 + 5 * m)) (Z.2.1 (3 + 5 * m)) (upd (Z.2.2 (2 * m + 1)) y (if fx (Z.2.2 (2 * m)) (nI y) (Z.1 m) < Z.1 m then Z.2.2 (2 * m + 1) y else nI z)) (Z.1 (12 + m)) (if usN (Z.2.2 (2 * m)) (Z.1 m) (nI y) ≤ (Z.1 (12 + m)) then (Z.2.1 (4 + 5 * m)) else (Z.2.1 (4 + 5 * m)) + 1) (if usN (Z.2.2 (2 * m)) (Z.1 m) (nI y) ≤ (Z.1 (12 + m)) then (Z.2.1 (5 + 5 * m)) else usF (Z.2.2 (2 * m)) (Z.1 m) (nI y) 0)) vi' ga' ∧ vi' 0 = 0 ∧ v = some (.int (if fx (Z.2.2 (2 * m)) (nI y) (Z.1 m) < (Z.1 m) then (Z.2.2 (2 * m + 1)) y else -1)) ∧ w = mW ay ad vi' ga') := by
  refine jM_of l (by decide) [(0, .ref (ad 0)), (1, .int (nI m)), (2, .int (nI y)), (3, .int (nI z))] rfl rfl (fun p9 e9 s9 m9 a9 b9 me9 c9 A9 F => ?_)
  have hgm := hG.1 m hm
  have hI := hgm.1
  have hn := hI.n
  have hv := hgm.2.2.1
  have hB := hG.2.1
  have hmb : m = 0 ∨ Z.1 m ≤ Z.1 13 := by
    rcases (show m = 0 ∨ m = 1 by omega) with h | h
    · exact Or.inl h
    · subst h; exact Or.inr hgm.2.1
  by_cases hf : fx (Z.2.2 (2 * m)) (nI y) (Z.1 m) < Z.1 m
  · skip
    refine j_aload_n F 0 dX10_putIfAbsent_0 rfl ?_
    refine j_iconst F (v := 0) dX10_putIfAbsent_1 (by decide) ?_
    refine j_putf F fX10_1 0 (mW ay ad (ups vi 0 0) ga) rfl rfl rfl rfl rfl (Nat.le_of_ble_eq_true rfl) dX10_putIfAbsent_2 ?_
    refine j_aload_n F 0 dX10_putIfAbsent_5 rfl ?_
    refine j_iload_n F 1 dX10_putIfAbsent_6 rfl ?_
    refine j_iload_n F 2 dX10_putIfAbsent_7 rfl ?_
    refine j_iload_n F 3 dX10_putIfAbsent_8 rfl ?_
    refine j_scallV F kX10_107 (As := [.int (nI m), .int (nI y), .int (nI z)]) (rest := []) (c_X10_noPair_ok l D ay ad (ups vi 0 0) ga (nI m) (nI y) (nI z) rfl (show ¬ oob (nI m) 0 1 from nob1 hm) (show ¬ oob (nI y) 0 99 from nob99 hy) (show ¬ oob (nI z) 0 999 from nob999 hz)) 0 0 20 rfl rfl rfl rfl rfl rfl ⟨Nat.le_of_ble_eq_true rfl, Nat.le_of_ble_eq_true rfl⟩ dX10_putIfAbsent_9 (fun v w hw => ?_)
    obtain ⟨rfl, rfl⟩ := hw
    refine ⟨rfl, (mW ay ad (ups vi 0 0) ga), (slp_all _ _ rfl).trans rfl, ?_⟩
    refine j_top 0 rfl ?_
    refine j_if_eq F 17 dX10_putIfAbsent_12 (by decide) (fun c_12 => ?_) (fun c_12 => absurd (by decide) c_12)
    refine j_aload_n F 0 dX10_putIfAbsent_17 rfl ?_
    refine j_iload_n F 1 dX10_putIfAbsent_18 rfl ?_
    refine j_scallV F kX10_110 (As := [.int (nI m)]) (rest := []) (c_X10_ends l D ay ad (ups vi 0 0) ga m (show m < 2 from by first | assumption | omega)) 0 0 20 rfl rfl rfl rfl rfl rfl ⟨Nat.le_of_ble_eq_true rfl, Nat.le_of_ble_eq_true rfl⟩ dX10_putIfAbsent_19 (fun v w hw => ?_)
    obtain ⟨rfl, rfl⟩ := hw
    refine ⟨rfl, (mW ay ad (ups vi 0 0) (ups (ups ga 3 (upd (ga 3) m (-1))) 4 (upd (ga 4) m 0))), (slp_all _ _ rfl).trans rfl, ?_⟩
    refine j_aload_n F 0 dX10_putIfAbsent_22 rfl ?_
    refine j_iload_n F 1 dX10_putIfAbsent_23 rfl ?_
    refine j_iload_n F 2 dX10_putIfAbsent_24 rfl ?_
    refine j_scallV F kX10_121 (As := [.int (nI m), .int (nI y)]) (rest := []) (c_X10_uses_yes l D ay ad (ups vi 0 0) (ups (ups ga 3 (upd (ga 3) m (-1))) 4 (upd (ga 4) m 0)) m (Z.1 m) (Z.2.2 (2 * m)) (mV (Z.2.2 (2 * m)) (Z.2.2 (2 * m + 1))) (nI y) (Z.1 13) (show m < 2 from hm) (show vw (ga 0) (ga 1) (ga 2) m (Z.1 m) (Z.2.2 (2 * m)) (mV (Z.2.2 (2 * m)) (Z.2.2 (2 * m + 1))) from hv) (show (Z.1 m) ≤ 100 from by omega) (show vi 4 = nI (Z.1 13) from hB.2.2.1) (show (Z.1 13) ≤ 100 ∧ (m = 0 ∨ (Z.1 m) ≤ (Z.1 13)) from ⟨by have := hB.2.1; omega, hmb⟩) (show fx (Z.2.2 (2 * m)) (nI y) (Z.1 m) < (Z.1 m) from hf)) 0 0 20 rfl rfl rfl rfl rfl rfl ⟨Nat.le_of_ble_eq_true rfl, Nat.le_of_ble_eq_true rfl⟩ dX10_putIfAbsent_25 (fun v w hw => ?_)
    obtain ⟨rfl, rfl⟩ := hw
    refine ⟨rfl, (mW ay ad (ups vi 0 0) (ups (ups (ups (ups (ups ga 0 (upd (mrs (ga 0) (101 * m) (fx (Z.2.2 (2 * m)) (nI y) (Z.1 m)) (Z.1 m)) (101 * m + ((Z.1 m) - 1)) (nI y))) 1 (upd (mrs (ga 1) (101 * m) (fx (Z.2.2 (2 * m)) (nI y) (Z.1 m)) (Z.1 m)) (101 * m + ((Z.1 m) - 1)) ((mV (Z.2.2 (2 * m)) (Z.2.2 (2 * m + 1))) (fx (Z.2.2 (2 * m)) (nI y) (Z.1 m))))) 2 (upd (upd (ga 2) m (nI ((Z.1 m) - 1))) m (nI ((Z.1 m) - 1 + 1)))) 3 (upd (ga 3) m (-1))) 4 (upd (ga 4) m 0))), (slp_all _ _ rfl).trans rfl, ?_⟩
    refine j_top ((mV (Z.2.2 (2 * m)) (Z.2.2 (2 * m + 1))) (fx (Z.2.2 (2 * m)) (nI y) (Z.1 m))) rfl ?_
    refine j_top (Z.2.2 (2 * m + 1) y) (mV_fx hy hf) ?_
    refine j_istore F 4 [(4, .int (Z.2.2 (2 * m + 1) y)), (0, .ref (ad 0)), (1, .int (nI m)), (2, .int (nI y)), (3, .int (nI z))] dX10_putIfAbsent_28 (by decide) rfl ?_
    refine j_iload F 0 dX10_putIfAbsent_30 rfl ?_
    refine j_iconst F (v := (-1)) dX10_putIfAbsent_32 (by decide) ?_
    refine j_icmp_ne F 43 dX10_putIfAbsent_33 (by decide) (fun c_33 => ?_) (fun c_33 => absurd c_33 (hI.v hy hf))
    refine j_iload F 0 dX10_putIfAbsent_43 rfl ?_
    exact j_iret F ⟨ups vi 0 0, ups (ups (ups (ups (ups ga 0 (upd (mrs (ga 0) (101 * m) (fx (Z.2.2 (2 * m)) (nI y) (Z.1 m)) (Z.1 m)) (101 * m + ((Z.1 m) - 1)) (nI y))) 1 (upd (mrs (ga 1) (101 * m) (fx (Z.2.2 (2 * m)) (nI y) (Z.1 m)) (Z.1 m)) (101 * m + ((Z.1 m) - 1)) ((mV (Z.2.2 (2 * m)) (Z.2.2 (2 * m + 1))) (fx (Z.2.2 (2 * m)) (nI y) (Z.1 m))))) 2 (upd (upd (ga 2) m (nI ((Z.1 m) - 1))) m (nI ((Z.1 m) - 1 + 1)))) 3 (upd (ga 3) m (-1))) 4 (upd (ga 4) m 0), (put_G (x := if fx (Z.2.2 (2 * m)) (nI y) (Z.1 m) < Z.1 m then Z.2.2 (2 * m + 1) y else nI z) hG hm hy (by rw [if_pos hf]; exact hI.v hy hf) (fun q hq => (ups_ne (by omega)).trans rfl) (fun q hq => (ups_ne (by omega)).trans ((ups_ne (by omega)).trans ((ups_ne (by omega)).trans ((ups_ne (by omega)).trans ((ups_ne (by omega)).trans rfl))))) rfl rfl (fm_trans (fm_take hm (by omega)) (fm_come hm (by omega))) rfl (Or.inl ⟨put_k1 hf hgm.2.1, rfl, rfl, by rw [if_pos hf, ← mV_fx (vf := Z.2.2 (2 * m + 1)) hy hf]; exact put_w1 hf hv⟩)), rfl, (by rw [if_pos hf]), rfl⟩ dX10_putIfAbsent_45 (Nat.le_of_ble_eq_true rfl) (Nat.le_of_ble_eq_true rfl)
  · skip
    refine j_aload_n F 0 dX10_putIfAbsent_0 rfl ?_
    refine j_iconst F (v := 0) dX10_putIfAbsent_1 (by decide) ?_
    refine j_putf F fX10_1 0 (mW ay ad (ups vi 0 0) ga) rfl rfl rfl rfl rfl (Nat.le_of_ble_eq_true rfl) dX10_putIfAbsent_2 ?_
    refine j_aload_n F 0 dX10_putIfAbsent_5 rfl ?_
    refine j_iload_n F 1 dX10_putIfAbsent_6 rfl ?_
    refine j_iload_n F 2 dX10_putIfAbsent_7 rfl ?_
    refine j_iload_n F 3 dX10_putIfAbsent_8 rfl ?_
    refine j_scallV F kX10_107 (As := [.int (nI m), .int (nI y), .int (nI z)]) (rest := []) (c_X10_noPair_ok l D ay ad (ups vi 0 0) ga (nI m) (nI y) (nI z) rfl (show ¬ oob (nI m) 0 1 from nob1 hm) (show ¬ oob (nI y) 0 99 from nob99 hy) (show ¬ oob (nI z) 0 999 from nob999 hz)) 0 0 20 rfl rfl rfl rfl rfl rfl ⟨Nat.le_of_ble_eq_true rfl, Nat.le_of_ble_eq_true rfl⟩ dX10_putIfAbsent_9 (fun v w hw => ?_)
    obtain ⟨rfl, rfl⟩ := hw
    refine ⟨rfl, (mW ay ad (ups vi 0 0) ga), (slp_all _ _ rfl).trans rfl, ?_⟩
    refine j_top 0 rfl ?_
    refine j_if_eq F 17 dX10_putIfAbsent_12 (by decide) (fun c_12 => ?_) (fun c_12 => absurd (by decide) c_12)
    refine j_aload_n F 0 dX10_putIfAbsent_17 rfl ?_
    refine j_iload_n F 1 dX10_putIfAbsent_18 rfl ?_
    refine j_scallV F kX10_110 (As := [.int (nI m)]) (rest := []) (c_X10_ends l D ay ad (ups vi 0 0) ga m (show m < 2 from by first | assumption | omega)) 0 0 20 rfl rfl rfl rfl rfl rfl ⟨Nat.le_of_ble_eq_true rfl, Nat.le_of_ble_eq_true rfl⟩ dX10_putIfAbsent_19 (fun v w hw => ?_)
    obtain ⟨rfl, rfl⟩ := hw
    refine ⟨rfl, (mW ay ad (ups vi 0 0) (ups (ups ga 3 (upd (ga 3) m (-1))) 4 (upd (ga 4) m 0))), (slp_all _ _ rfl).trans rfl, ?_⟩
    refine j_aload_n F 0 dX10_putIfAbsent_22 rfl ?_
    refine j_iload_n F 1 dX10_putIfAbsent_23 rfl ?_
    refine j_iload_n F 2 dX10_putIfAbsent_24 rfl ?_
    refine j_scallV F kX10_121 (As := [.int (nI m), .int (nI y)]) (rest := []) (c_X10_uses_no l D ay ad (ups vi 0 0) (ups (ups ga 3 (upd (ga 3) m (-1))) 4 (upd (ga 4) m 0)) m (Z.1 m) (Z.2.2 (2 * m)) (mV (Z.2.2 (2 * m)) (Z.2.2 (2 * m + 1))) (nI y) (show m < 2 from hm) (show vw (ga 0) (ga 1) (ga 2) m (Z.1 m) (Z.2.2 (2 * m)) (mV (Z.2.2 (2 * m)) (Z.2.2 (2 * m + 1))) from hv) (show (Z.1 m) ≤ 101 from by omega) (show ¬ fx (Z.2.2 (2 * m)) (nI y) (Z.1 m) < (Z.1 m) from hf)) 0 0 20 rfl rfl rfl rfl rfl rfl ⟨Nat.le_of_ble_eq_true rfl, Nat.le_of_ble_eq_true rfl⟩ dX10_putIfAbsent_25 (fun v w hw => ?_)
    obtain ⟨rfl, rfl⟩ := hw
    refine ⟨rfl, (mW ay ad (ups vi 0 0) (ups (ups ga 3 (upd (ga 3) m (-1))) 4 (upd (ga 4) m 0))), (slp_all _ _ rfl).trans rfl, ?_⟩
    refine j_top (-1) rfl ?_
    refine j_istore F 4 [(4, .int (-1)), (0, .ref (ad 0)), (1, .int (nI m)), (2, .int (nI y)), (3, .int (nI z))] dX10_putIfAbsent_28 (by decide) rfl ?_
    refine j_iload F 0 dX10_putIfAbsent_30 rfl ?_
    refine j_iconst F (v := (-1)) dX10_putIfAbsent_32 (by decide) ?_
    refine j_icmp_ne F 43 dX10_putIfAbsent_33 (by decide) (fun c_33 => absurd (by decide) c_33) (fun c_33 => ?_)
    by_cases hk : m = 0 ∨ Z.1 m + 1 ≤ Z.1 13
    · skip
      refine j_aload_n F 1 dX10_putIfAbsent_36 rfl ?_
      refine j_iload_n F 2 dX10_putIfAbsent_37 rfl ?_
      refine j_iload_n F 3 dX10_putIfAbsent_38 rfl ?_
      refine j_iload_n F 4 dX10_putIfAbsent_39 rfl ?_
      refine j_scallV F kX10_117 (As := [.int (nI m), .int (nI y), .int (nI z)]) (rest := []) (c_X10_comes_keep l D ay ad (ups vi 0 0) (ups (ups ga 3 (upd (ga 3) m (-1))) 4 (upd (ga 4) m 0)) m (Z.1 m) (Z.1 13) (nI y) (nI z) (show m < 2 from hm) (show ga 2 m = nI (Z.1 m) from hv.1) (show (Z.1 m) ≤ 100 from by omega) (show vi 4 = nI (Z.1 13) from hB.2.2.1) (show (Z.1 13) ≤ 100 ∧ (m = 0 ∨ (Z.1 m) + 1 ≤ (Z.1 13)) from ⟨by have := hB.2.1; omega, hk⟩)) 0 0 20 rfl rfl rfl rfl rfl rfl ⟨Nat.le_of_ble_eq_true rfl, Nat.le_of_ble_eq_true rfl⟩ dX10_putIfAbsent_40 (fun v w hw => ?_)
      obtain ⟨rfl, rfl⟩ := hw
      refine ⟨rfl, (mW ay ad (ups vi 0 0) (ups (ups (ups (ups (ups ga 0 (upd (ga 0) (101 * m + (Z.1 m)) (nI y))) 1 (upd (ga 1) (101 * m + (Z.1 m)) (nI z))) 2 (upd (ga 2) m (nI ((Z.1 m) + 1)))) 3 (upd (ga 3) m (-1))) 4 (upd (ga 4) m 0))), (slp_all _ _ rfl).trans rfl, ?_⟩
      refine j_iload F 0 dX10_putIfAbsent_43 rfl ?_
      exact j_iret F ⟨ups vi 0 0, ups (ups (ups (ups (ups ga 0 (upd (ga 0) (101 * m + (Z.1 m)) (nI y))) 1 (upd (ga 1) (101 * m + (Z.1 m)) (nI z))) 2 (upd (ga 2) m (nI ((Z.1 m) + 1)))) 3 (upd (ga 3) m (-1))) 4 (upd (ga 4) m 0), (put_G (x := if fx (Z.2.2 (2 * m)) (nI y) (Z.1 m) < Z.1 m then Z.2.2 (2 * m + 1) y else nI z) hG hm hy (by rw [if_neg hf]; exact nI_m1 (by omega)) (fun q hq => (ups_ne (by omega)).trans rfl) (fun q hq => (ups_ne (by omega)).trans ((ups_ne (by omega)).trans ((ups_ne (by omega)).trans ((ups_ne (by omega)).trans ((ups_ne (by omega)).trans rfl))))) rfl rfl (fm_come hm (by omega)) rfl (Or.inl ⟨put_k2 hf (hI.1.use hy).1 hB.1 hm hk, rfl, rfl, by rw [if_neg hf]; exact put_w2 hf hv⟩)), rfl, (by rw [if_neg hf]), rfl⟩ dX10_putIfAbsent_45 (Nat.le_of_ble_eq_true rfl) (Nat.le_of_ble_eq_true rfl)
    · skip
      replace hk : m = 1 ∧ ¬ Z.1 m + 1 ≤ Z.1 13 := ⟨by omega, fun h => hk (Or.inr h)⟩
      refine j_aload_n F 1 dX10_putIfAbsent_36 rfl ?_
      refine j_iload_n F 2 dX10_putIfAbsent_37 rfl ?_
      refine j_iload_n F 3 dX10_putIfAbsent_38 rfl ?_
      refine j_iload_n F 4 dX10_putIfAbsent_39 rfl ?_
      refine j_scallV F kX10_117 (As := [.int (nI m), .int (nI y), .int (nI z)]) (rest := []) (c_X10_comes_out l D ay ad (ups vi 0 0) (ups (ups ga 3 (upd (ga 3) m (-1))) 4 (upd (ga 4) m 0)) m (Z.1 m) (Z.1 13) (nI y) (nI z) (show m = 1 from hk.1) (show ga 2 m = nI (Z.1 m) from hv.1) (show (Z.1 m) ≤ 100 from by omega) (show vi 4 = nI (Z.1 13) from hB.2.2.1) (show (Z.1 13) ≤ 100 ∧ (Z.1 13) < (Z.1 m) + 1 from ⟨by have := hB.2.1; omega, by omega⟩)) 0 0 20 rfl rfl rfl rfl rfl rfl ⟨Nat.le_of_ble_eq_true rfl, Nat.le_of_ble_eq_true rfl⟩ dX10_putIfAbsent_40 (fun v w hw => ?_)
      obtain ⟨rfl, rfl⟩ := hw
      refine ⟨rfl, (mW ay ad (ups (ups (ups vi 0 0) 5 (vi 5 + 1)) 6 (upd (ga 0) (101 * m + (Z.1 m)) (nI y) 101)) (ups (ups (ups (ups (ups ga 0 (mrs (upd (ga 0) (101 * m + (Z.1 m)) (nI y)) (101 * m) 0 ((Z.1 m) + 1))) 1 (mrs (upd (ga 1) (101 * m + (Z.1 m)) (nI z)) (101 * m) 0 ((Z.1 m) + 1))) 2 (upd (upd (ga 2) m (nI ((Z.1 m) + 1))) m (nI ((Z.1 m) + 1 - 1)))) 3 (upd (ga 3) m (-1))) 4 (upd (ga 4) m 0))), (slp_all _ _ rfl).trans rfl, ?_⟩
      refine j_iload F 0 dX10_putIfAbsent_43 rfl ?_
      exact j_iret F ⟨ups (ups (ups vi 0 0) 5 (vi 5 + 1)) 6 (upd (ga 0) (101 * m + (Z.1 m)) (nI y) 101), ups (ups (ups (ups (ups ga 0 (mrs (upd (ga 0) (101 * m + (Z.1 m)) (nI y)) (101 * m) 0 ((Z.1 m) + 1))) 1 (mrs (upd (ga 1) (101 * m + (Z.1 m)) (nI z)) (101 * m) 0 ((Z.1 m) + 1))) 2 (upd (upd (ga 2) m (nI ((Z.1 m) + 1))) m (nI ((Z.1 m) + 1 - 1)))) 3 (upd (ga 3) m (-1))) 4 (upd (ga 4) m 0), (put_G (x := if fx (Z.2.2 (2 * m)) (nI y) (Z.1 m) < Z.1 m then Z.2.2 (2 * m + 1) y else nI z) hG hm hy (by rw [if_neg hf]; exact nI_m1 (by omega)) (fun q hq => (ups_ne (by omega)).trans ((ups_ne (by omega)).trans ((ups_ne (by omega)).trans rfl))) (fun q hq => (ups_ne (by omega)).trans ((ups_ne (by omega)).trans ((ups_ne (by omega)).trans ((ups_ne (by omega)).trans ((ups_ne (by omega)).trans rfl))))) rfl rfl (fm_trans (fm_come hm (by omega)) (fm_take hm (by omega))) rfl (Or.inr ⟨put_k3 hf hk.1 hk.2, hk.1, rfl, put_v6 hf hk.1 hv, by rw [if_neg hf]; exact put_w3 hf hv⟩)), rfl, (by rw [if_neg hf]), rfl⟩ dX10_putIfAbsent_45 (Nat.le_of_ble_eq_true rfl) (Nat.le_of_ble_eq_true rfl)

set_option maxHeartbeats 4000000 in
set_option maxRecDepth 100000 in
theorem c_X10_putIfAbsent_no (l : Launch) (D : va_G) (ay : Nat → ClassId) (ad : Nat → Nat) (vi : Nat → Int32) (ga : Nat → Nat → Int32) (Z : DS) (x : Int32) (y : Int32) (z : Int32) (hG : GI Z vi ga) (h : oob x 0 1 ∨ oob y 0 99 ∨ oob z 0 999) : jM l yX10_putIfAbsent (jws yX10_putIfAbsent cX10_putIfAbsent 5 (some .int)) 4 88 0 0 D ay [.ref (ad 0), .int x, .int y, .int z] (mW ay ad vi ga) (fun v w => ∃ (vi' : Nat → Int32) (ga' : Nat → Nat → Int32), GI Z vi' ga' ∧ vi' 0 = 1 ∧ v = some (.int 0) ∧ w = mW ay ad vi' ga') := by
  refine jM_of l (by decide) [(0, .ref (ad 0)), (1, .int x), (2, .int y), (3, .int z)] rfl rfl (fun p9 e9 s9 m9 a9 b9 me9 c9 A9 F => ?_)
  refine j_aload_n F 0 dX10_putIfAbsent_0 rfl ?_
  refine j_iconst F (v := 0) dX10_putIfAbsent_1 (by decide) ?_
  refine j_putf F fX10_1 0 (mW ay ad (ups vi 0 0) ga) rfl rfl rfl rfl rfl (Nat.le_of_ble_eq_true rfl) dX10_putIfAbsent_2 ?_
  refine j_aload_n F 0 dX10_putIfAbsent_5 rfl ?_
  refine j_iload_n F 1 dX10_putIfAbsent_6 rfl ?_
  refine j_iload_n F 2 dX10_putIfAbsent_7 rfl ?_
  refine j_iload_n F 3 dX10_putIfAbsent_8 rfl ?_
  refine j_scallV F kX10_107 (As := [.int x, .int y, .int z]) (rest := []) (c_X10_noPair_no l D ay ad (ups vi 0 0) ga x y z rfl (show oob x 0 1 ∨ oob y 0 99 ∨ oob z 0 999 from h)) 0 0 20 rfl rfl rfl rfl rfl rfl ⟨Nat.le_of_ble_eq_true rfl, Nat.le_of_ble_eq_true rfl⟩ dX10_putIfAbsent_9 (fun v w hw => ?_)
  obtain ⟨rfl, rfl⟩ := hw
  refine ⟨rfl, (mW ay ad (ups vi 0 1) ga), (slp_all _ _ rfl).trans rfl, ?_⟩
  refine j_top 1 rfl ?_
  refine j_if_eq F 17 dX10_putIfAbsent_12 (by decide) (fun c_12 => absurd c_12 (by decide)) (fun c_12 => ?_)
  refine j_iconst F (v := 0) dX10_putIfAbsent_15 (by decide) ?_
  exact j_iret F ⟨ups vi 0 1, ga, (GI_id hG (fun q hq => (ups_ne (by omega)).trans rfl) (fun q hq => rfl)), rfl, rfl, rfl⟩ dX10_putIfAbsent_16 (Nat.le_of_ble_eq_true rfl) (Nat.le_of_ble_eq_true rfl)

set_option maxHeartbeats 4000000 in
set_option maxRecDepth 100000 in
theorem c_X10_get_ok (l : Launch) (D : va_G) (ay : Nat → ClassId) (ad : Nat → Nat) (vi : Nat → Int32) (ga : Nat → Nat → Int32) (Z : DS) (m : Nat) (y : Nat) (hG : GI Z vi ga) (hm : m < 2) (hy : y < 100) : jM l yX10_get (jws yX10_get cX10_get 3 (some .int)) 3 71 0 0 D ay [.ref (ad 0), .int (nI m), .int (nI y)] (mW ay ad vi ga) (fun v w => ∃ (vi' : Nat → Int32) (ga' : Nat → Nat → Int32), GI (mU Z m (Z.1 m) (if fx (Z.2.2 (2 * m)) (nI y) (Z.1 m) < Z.1 m then usF (Z.2.2 (2 * m)) (Z.1 m) (nI y) else Z.2.2 (2 * m)) 0 (Z.2.1 (2 + 5 * m)) (Z.2.1 (3 + 5 * m)) (Z.2.2 (2 * m + 1)) (Z.1 (12 + m)) (Z.2.1 (4 + 5 * m)) (Z.2.1 (5 + 5 * m))) vi' ga' ∧ vi' 0 = 0 ∧ v = some (.int (if fx (Z.2.2 (2 * m)) (nI y) (Z.1 m) < (Z.1 m) then (Z.2.2 (2 * m + 1)) y else -1)) ∧ w = mW ay ad vi' ga') := by
  refine jM_of l (by decide) [(0, .ref (ad 0)), (1, .int (nI m)), (2, .int (nI y))] rfl rfl (fun p9 e9 s9 m9 a9 b9 me9 c9 A9 F => ?_)
  have hgm := hG.1 m hm
  have hI := hgm.1
  have hn := hI.n
  have hv := hgm.2.2.1
  have hB := hG.2.1
  have hmb : m = 0 ∨ Z.1 m ≤ Z.1 13 := by
    rcases (show m = 0 ∨ m = 1 by omega) with h | h
    · exact Or.inl h
    · subst h; exact Or.inr hgm.2.1
  by_cases hf : fx (Z.2.2 (2 * m)) (nI y) (Z.1 m) < Z.1 m
  · skip
    refine j_aload_n F 0 dX10_get_0 rfl ?_
    refine j_iconst F (v := 0) dX10_get_1 (by decide) ?_
    refine j_putf F fX10_1 0 (mW ay ad (ups vi 0 0) ga) rfl rfl rfl rfl rfl (Nat.le_of_ble_eq_true rfl) dX10_get_2 ?_
    refine j_aload_n F 0 dX10_get_5 rfl ?_
    refine j_iload_n F 1 dX10_get_6 rfl ?_
    refine j_iload_n F 2 dX10_get_7 rfl ?_
    refine j_scallV F kX10_103 (As := [.int (nI m), .int (nI y)]) (rest := []) (c_X10_noKey_ok l D ay ad (ups vi 0 0) ga (nI m) (nI y) rfl (show ¬ oob (nI m) 0 1 from nob1 hm) (show ¬ oob (nI y) 0 99 from nob99 hy)) 0 0 20 rfl rfl rfl rfl rfl rfl ⟨Nat.le_of_ble_eq_true rfl, Nat.le_of_ble_eq_true rfl⟩ dX10_get_8 (fun v w hw => ?_)
    obtain ⟨rfl, rfl⟩ := hw
    refine ⟨rfl, (mW ay ad (ups vi 0 0) ga), (slp_all _ _ rfl).trans rfl, ?_⟩
    refine j_top 0 rfl ?_
    refine j_if_eq F 16 dX10_get_11 (by decide) (fun c_11 => ?_) (fun c_11 => absurd (by decide) c_11)
    refine j_aload_n F 0 dX10_get_16 rfl ?_
    refine j_iload_n F 1 dX10_get_17 rfl ?_
    refine j_scallV F kX10_110 (As := [.int (nI m)]) (rest := []) (c_X10_ends l D ay ad (ups vi 0 0) ga m (show m < 2 from by first | assumption | omega)) 0 0 20 rfl rfl rfl rfl rfl rfl ⟨Nat.le_of_ble_eq_true rfl, Nat.le_of_ble_eq_true rfl⟩ dX10_get_18 (fun v w hw => ?_)
    obtain ⟨rfl, rfl⟩ := hw
    refine ⟨rfl, (mW ay ad (ups vi 0 0) (ups (ups ga 3 (upd (ga 3) m (-1))) 4 (upd (ga 4) m 0))), (slp_all _ _ rfl).trans rfl, ?_⟩
    refine j_aload_n F 0 dX10_get_21 rfl ?_
    refine j_iload_n F 1 dX10_get_22 rfl ?_
    refine j_iload_n F 2 dX10_get_23 rfl ?_
    refine j_scallV F kX10_121 (As := [.int (nI m), .int (nI y)]) (rest := []) (c_X10_uses_yes l D ay ad (ups vi 0 0) (ups (ups ga 3 (upd (ga 3) m (-1))) 4 (upd (ga 4) m 0)) m (Z.1 m) (Z.2.2 (2 * m)) (mV (Z.2.2 (2 * m)) (Z.2.2 (2 * m + 1))) (nI y) (Z.1 13) (show m < 2 from hm) (show vw (ga 0) (ga 1) (ga 2) m (Z.1 m) (Z.2.2 (2 * m)) (mV (Z.2.2 (2 * m)) (Z.2.2 (2 * m + 1))) from hv) (show (Z.1 m) ≤ 100 from by omega) (show vi 4 = nI (Z.1 13) from hB.2.2.1) (show (Z.1 13) ≤ 100 ∧ (m = 0 ∨ (Z.1 m) ≤ (Z.1 13)) from ⟨by have := hB.2.1; omega, hmb⟩) (show fx (Z.2.2 (2 * m)) (nI y) (Z.1 m) < (Z.1 m) from hf)) 0 0 20 rfl rfl rfl rfl rfl rfl ⟨Nat.le_of_ble_eq_true rfl, Nat.le_of_ble_eq_true rfl⟩ dX10_get_24 (fun v w hw => ?_)
    obtain ⟨rfl, rfl⟩ := hw
    refine ⟨rfl, (mW ay ad (ups vi 0 0) (ups (ups (ups (ups (ups ga 0 (upd (mrs (ga 0) (101 * m) (fx (Z.2.2 (2 * m)) (nI y) (Z.1 m)) (Z.1 m)) (101 * m + ((Z.1 m) - 1)) (nI y))) 1 (upd (mrs (ga 1) (101 * m) (fx (Z.2.2 (2 * m)) (nI y) (Z.1 m)) (Z.1 m)) (101 * m + ((Z.1 m) - 1)) ((mV (Z.2.2 (2 * m)) (Z.2.2 (2 * m + 1))) (fx (Z.2.2 (2 * m)) (nI y) (Z.1 m))))) 2 (upd (upd (ga 2) m (nI ((Z.1 m) - 1))) m (nI ((Z.1 m) - 1 + 1)))) 3 (upd (ga 3) m (-1))) 4 (upd (ga 4) m 0))), (slp_all _ _ rfl).trans rfl, ?_⟩
    refine j_top ((mV (Z.2.2 (2 * m)) (Z.2.2 (2 * m + 1))) (fx (Z.2.2 (2 * m)) (nI y) (Z.1 m))) rfl ?_
    refine j_top (Z.2.2 (2 * m + 1) y) (mV_fx hy hf) ?_
    exact j_iret F ⟨ups vi 0 0, ups (ups (ups (ups (ups ga 0 (upd (mrs (ga 0) (101 * m) (fx (Z.2.2 (2 * m)) (nI y) (Z.1 m)) (Z.1 m)) (101 * m + ((Z.1 m) - 1)) (nI y))) 1 (upd (mrs (ga 1) (101 * m) (fx (Z.2.2 (2 * m)) (nI y) (Z.1 m)) (Z.1 m)) (101 * m + ((Z.1 m) - 1)) ((mV (Z.2.2 (2 * m)) (Z.2.2 (2 * m + 1))) (fx (Z.2.2 (2 * m)) (nI y) (Z.1 m))))) 2 (upd (upd (ga 2) m (nI ((Z.1 m) - 1))) m (nI ((Z.1 m) - 1 + 1)))) 3 (upd (ga 3) m (-1))) 4 (upd (ga 4) m 0), (by rw [if_pos hf]; exact use_G hG hm hy hf (fun q hq => (ups_ne (by omega)).trans rfl) (fun q hq => (ups_ne (by omega)).trans ((ups_ne (by omega)).trans ((ups_ne (by omega)).trans ((ups_ne (by omega)).trans ((ups_ne (by omega)).trans rfl))))) rfl rfl (fm_trans (fm_take hm (by omega)) (fm_come hm (by omega))) rfl rfl rfl (put_w1 hf hv)), rfl, (by rw [if_pos hf]), rfl⟩ dX10_get_27 (Nat.le_of_ble_eq_true rfl) (Nat.le_of_ble_eq_true rfl)
  · skip
    refine j_aload_n F 0 dX10_get_0 rfl ?_
    refine j_iconst F (v := 0) dX10_get_1 (by decide) ?_
    refine j_putf F fX10_1 0 (mW ay ad (ups vi 0 0) ga) rfl rfl rfl rfl rfl (Nat.le_of_ble_eq_true rfl) dX10_get_2 ?_
    refine j_aload_n F 0 dX10_get_5 rfl ?_
    refine j_iload_n F 1 dX10_get_6 rfl ?_
    refine j_iload_n F 2 dX10_get_7 rfl ?_
    refine j_scallV F kX10_103 (As := [.int (nI m), .int (nI y)]) (rest := []) (c_X10_noKey_ok l D ay ad (ups vi 0 0) ga (nI m) (nI y) rfl (show ¬ oob (nI m) 0 1 from nob1 hm) (show ¬ oob (nI y) 0 99 from nob99 hy)) 0 0 20 rfl rfl rfl rfl rfl rfl ⟨Nat.le_of_ble_eq_true rfl, Nat.le_of_ble_eq_true rfl⟩ dX10_get_8 (fun v w hw => ?_)
    obtain ⟨rfl, rfl⟩ := hw
    refine ⟨rfl, (mW ay ad (ups vi 0 0) ga), (slp_all _ _ rfl).trans rfl, ?_⟩
    refine j_top 0 rfl ?_
    refine j_if_eq F 16 dX10_get_11 (by decide) (fun c_11 => ?_) (fun c_11 => absurd (by decide) c_11)
    refine j_aload_n F 0 dX10_get_16 rfl ?_
    refine j_iload_n F 1 dX10_get_17 rfl ?_
    refine j_scallV F kX10_110 (As := [.int (nI m)]) (rest := []) (c_X10_ends l D ay ad (ups vi 0 0) ga m (show m < 2 from by first | assumption | omega)) 0 0 20 rfl rfl rfl rfl rfl rfl ⟨Nat.le_of_ble_eq_true rfl, Nat.le_of_ble_eq_true rfl⟩ dX10_get_18 (fun v w hw => ?_)
    obtain ⟨rfl, rfl⟩ := hw
    refine ⟨rfl, (mW ay ad (ups vi 0 0) (ups (ups ga 3 (upd (ga 3) m (-1))) 4 (upd (ga 4) m 0))), (slp_all _ _ rfl).trans rfl, ?_⟩
    refine j_aload_n F 0 dX10_get_21 rfl ?_
    refine j_iload_n F 1 dX10_get_22 rfl ?_
    refine j_iload_n F 2 dX10_get_23 rfl ?_
    refine j_scallV F kX10_121 (As := [.int (nI m), .int (nI y)]) (rest := []) (c_X10_uses_no l D ay ad (ups vi 0 0) (ups (ups ga 3 (upd (ga 3) m (-1))) 4 (upd (ga 4) m 0)) m (Z.1 m) (Z.2.2 (2 * m)) (mV (Z.2.2 (2 * m)) (Z.2.2 (2 * m + 1))) (nI y) (show m < 2 from hm) (show vw (ga 0) (ga 1) (ga 2) m (Z.1 m) (Z.2.2 (2 * m)) (mV (Z.2.2 (2 * m)) (Z.2.2 (2 * m + 1))) from hv) (show (Z.1 m) ≤ 101 from by omega) (show ¬ fx (Z.2.2 (2 * m)) (nI y) (Z.1 m) < (Z.1 m) from hf)) 0 0 20 rfl rfl rfl rfl rfl rfl ⟨Nat.le_of_ble_eq_true rfl, Nat.le_of_ble_eq_true rfl⟩ dX10_get_24 (fun v w hw => ?_)
    obtain ⟨rfl, rfl⟩ := hw
    refine ⟨rfl, (mW ay ad (ups vi 0 0) (ups (ups ga 3 (upd (ga 3) m (-1))) 4 (upd (ga 4) m 0))), (slp_all _ _ rfl).trans rfl, ?_⟩
    refine j_top (-1) rfl ?_
    exact j_iret F ⟨ups vi 0 0, ups (ups ga 3 (upd (ga 3) m (-1))) 4 (upd (ga 4) m 0), (by rw [if_neg hf]; exact chg_G hG hm (fun q hq => (ups_ne (by omega)).trans rfl) (fun q hq => (ups_ne (by omega)).trans ((ups_ne (by omega)).trans rfl)) fm_id ho2_u rfl rfl rfl hI.1 hgm.2.1 hI.2.2.1 (Or.inl rfl) (fun h => absurd rfl h) hv upd_s upd_s), rfl, (by rw [if_neg hf]), rfl⟩ dX10_get_27 (Nat.le_of_ble_eq_true rfl) (Nat.le_of_ble_eq_true rfl)

set_option maxHeartbeats 4000000 in
set_option maxRecDepth 100000 in
theorem c_X10_get_no (l : Launch) (D : va_G) (ay : Nat → ClassId) (ad : Nat → Nat) (vi : Nat → Int32) (ga : Nat → Nat → Int32) (Z : DS) (x : Int32) (y : Int32) (hG : GI Z vi ga) (h : oob x 0 1 ∨ oob y 0 99) : jM l yX10_get (jws yX10_get cX10_get 3 (some .int)) 3 71 0 0 D ay [.ref (ad 0), .int x, .int y] (mW ay ad vi ga) (fun v w => ∃ (vi' : Nat → Int32) (ga' : Nat → Nat → Int32), GI Z vi' ga' ∧ vi' 0 = 1 ∧ v = some (.int 0) ∧ w = mW ay ad vi' ga') := by
  refine jM_of l (by decide) [(0, .ref (ad 0)), (1, .int x), (2, .int y)] rfl rfl (fun p9 e9 s9 m9 a9 b9 me9 c9 A9 F => ?_)
  refine j_aload_n F 0 dX10_get_0 rfl ?_
  refine j_iconst F (v := 0) dX10_get_1 (by decide) ?_
  refine j_putf F fX10_1 0 (mW ay ad (ups vi 0 0) ga) rfl rfl rfl rfl rfl (Nat.le_of_ble_eq_true rfl) dX10_get_2 ?_
  refine j_aload_n F 0 dX10_get_5 rfl ?_
  refine j_iload_n F 1 dX10_get_6 rfl ?_
  refine j_iload_n F 2 dX10_get_7 rfl ?_
  refine j_scallV F kX10_103 (As := [.int x, .int y]) (rest := []) (c_X10_noKey_no l D ay ad (ups vi 0 0) ga x y rfl (show oob x 0 1 ∨ oob y 0 99 from h)) 0 0 20 rfl rfl rfl rfl rfl rfl ⟨Nat.le_of_ble_eq_true rfl, Nat.le_of_ble_eq_true rfl⟩ dX10_get_8 (fun v w hw => ?_)
  obtain ⟨rfl, rfl⟩ := hw
  refine ⟨rfl, (mW ay ad (ups vi 0 1) ga), (slp_all _ _ rfl).trans rfl, ?_⟩
  refine j_top 1 rfl ?_
  refine j_if_eq F 16 dX10_get_11 (by decide) (fun c_11 => absurd c_11 (by decide)) (fun c_11 => ?_)
  refine j_iconst F (v := 0) dX10_get_14 (by decide) ?_
  exact j_iret F ⟨ups vi 0 1, ga, (GI_id hG (fun q hq => (ups_ne (by omega)).trans rfl) (fun q hq => rfl)), rfl, rfl, rfl⟩ dX10_get_15 (Nat.le_of_ble_eq_true rfl) (Nat.le_of_ble_eq_true rfl)

set_option maxHeartbeats 4000000 in
set_option maxRecDepth 100000 in
theorem c_X10_getOrDefault_ok (l : Launch) (D : va_G) (ay : Nat → ClassId) (ad : Nat → Nat) (vi : Nat → Int32) (ga : Nat → Nat → Int32) (Z : DS) (m : Nat) (y : Nat) (z : Int32) (hG : GI Z vi ga) (hm : m < 2) (hy : y < 100) : jM l yX10_getOrDefault (jws yX10_getOrDefault cX10_getOrDefault 5 (some .int)) 3 71 0 0 D ay [.ref (ad 0), .int (nI m), .int (nI y), .int z] (mW ay ad vi ga) (fun v w => ∃ (vi' : Nat → Int32) (ga' : Nat → Nat → Int32), GI (mU Z m (Z.1 m) (if fx (Z.2.2 (2 * m)) (nI y) (Z.1 m) < Z.1 m then usF (Z.2.2 (2 * m)) (Z.1 m) (nI y) else Z.2.2 (2 * m)) 0 (Z.2.1 (2 + 5 * m)) (Z.2.1 (3 + 5 * m)) (Z.2.2 (2 * m + 1)) (Z.1 (12 + m)) (Z.2.1 (4 + 5 * m)) (Z.2.1 (5 + 5 * m))) vi' ga' ∧ vi' 0 = 0 ∧ v = some (.int (if fx (Z.2.2 (2 * m)) (nI y) (Z.1 m) < (Z.1 m) then (Z.2.2 (2 * m + 1)) y else z)) ∧ w = mW ay ad vi' ga') := by
  refine jM_of l (by decide) [(0, .ref (ad 0)), (1, .int (nI m)), (2, .int (nI y)), (3, .int z)] rfl rfl (fun p9 e9 s9 m9 a9 b9 me9 c9 A9 F => ?_)
  have hgm := hG.1 m hm
  have hI := hgm.1
  have hn := hI.n
  have hv := hgm.2.2.1
  have hB := hG.2.1
  have hmb : m = 0 ∨ Z.1 m ≤ Z.1 13 := by
    rcases (show m = 0 ∨ m = 1 by omega) with h | h
    · exact Or.inl h
    · subst h; exact Or.inr hgm.2.1
  by_cases hf : fx (Z.2.2 (2 * m)) (nI y) (Z.1 m) < Z.1 m
  · skip
    refine j_aload_n F 0 dX10_getOrDefault_0 rfl ?_
    refine j_iconst F (v := 0) dX10_getOrDefault_1 (by decide) ?_
    refine j_putf F fX10_1 0 (mW ay ad (ups vi 0 0) ga) rfl rfl rfl rfl rfl (Nat.le_of_ble_eq_true rfl) dX10_getOrDefault_2 ?_
    refine j_aload_n F 0 dX10_getOrDefault_5 rfl ?_
    refine j_iload_n F 1 dX10_getOrDefault_6 rfl ?_
    refine j_iload_n F 2 dX10_getOrDefault_7 rfl ?_
    refine j_scallV F kX10_103 (As := [.int (nI m), .int (nI y)]) (rest := []) (c_X10_noKey_ok l D ay ad (ups vi 0 0) ga (nI m) (nI y) rfl (show ¬ oob (nI m) 0 1 from nob1 hm) (show ¬ oob (nI y) 0 99 from nob99 hy)) 0 0 20 rfl rfl rfl rfl rfl rfl ⟨Nat.le_of_ble_eq_true rfl, Nat.le_of_ble_eq_true rfl⟩ dX10_getOrDefault_8 (fun v w hw => ?_)
    obtain ⟨rfl, rfl⟩ := hw
    refine ⟨rfl, (mW ay ad (ups vi 0 0) ga), (slp_all _ _ rfl).trans rfl, ?_⟩
    refine j_top 0 rfl ?_
    refine j_if_eq F 16 dX10_getOrDefault_11 (by decide) (fun c_11 => ?_) (fun c_11 => absurd (by decide) c_11)
    refine j_aload_n F 0 dX10_getOrDefault_16 rfl ?_
    refine j_iload_n F 1 dX10_getOrDefault_17 rfl ?_
    refine j_scallV F kX10_110 (As := [.int (nI m)]) (rest := []) (c_X10_ends l D ay ad (ups vi 0 0) ga m (show m < 2 from by first | assumption | omega)) 0 0 20 rfl rfl rfl rfl rfl rfl ⟨Nat.le_of_ble_eq_true rfl, Nat.le_of_ble_eq_true rfl⟩ dX10_getOrDefault_18 (fun v w hw => ?_)
    obtain ⟨rfl, rfl⟩ := hw
    refine ⟨rfl, (mW ay ad (ups vi 0 0) (ups (ups ga 3 (upd (ga 3) m (-1))) 4 (upd (ga 4) m 0))), (slp_all _ _ rfl).trans rfl, ?_⟩
    refine j_aload_n F 0 dX10_getOrDefault_21 rfl ?_
    refine j_iload_n F 1 dX10_getOrDefault_22 rfl ?_
    refine j_iload_n F 2 dX10_getOrDefault_23 rfl ?_
    refine j_scallV F kX10_121 (As := [.int (nI m), .int (nI y)]) (rest := []) (c_X10_uses_yes l D ay ad (ups vi 0 0) (ups (ups ga 3 (upd (ga 3) m (-1))) 4 (upd (ga 4) m 0)) m (Z.1 m) (Z.2.2 (2 * m)) (mV (Z.2.2 (2 * m)) (Z.2.2 (2 * m + 1))) (nI y) (Z.1 13) (show m < 2 from hm) (show vw (ga 0) (ga 1) (ga 2) m (Z.1 m) (Z.2.2 (2 * m)) (mV (Z.2.2 (2 * m)) (Z.2.2 (2 * m + 1))) from hv) (show (Z.1 m) ≤ 100 from by omega) (show vi 4 = nI (Z.1 13) from hB.2.2.1) (show (Z.1 13) ≤ 100 ∧ (m = 0 ∨ (Z.1 m) ≤ (Z.1 13)) from ⟨by have := hB.2.1; omega, hmb⟩) (show fx (Z.2.2 (2 * m)) (nI y) (Z.1 m) < (Z.1 m) from hf)) 0 0 20 rfl rfl rfl rfl rfl rfl ⟨Nat.le_of_ble_eq_true rfl, Nat.le_of_ble_eq_true rfl⟩ dX10_getOrDefault_24 (fun v w hw => ?_)
    obtain ⟨rfl, rfl⟩ := hw
    refine ⟨rfl, (mW ay ad (ups vi 0 0) (ups (ups (ups (ups (ups ga 0 (upd (mrs (ga 0) (101 * m) (fx (Z.2.2 (2 * m)) (nI y) (Z.1 m)) (Z.1 m)) (101 * m + ((Z.1 m) - 1)) (nI y))) 1 (upd (mrs (ga 1) (101 * m) (fx (Z.2.2 (2 * m)) (nI y) (Z.1 m)) (Z.1 m)) (101 * m + ((Z.1 m) - 1)) ((mV (Z.2.2 (2 * m)) (Z.2.2 (2 * m + 1))) (fx (Z.2.2 (2 * m)) (nI y) (Z.1 m))))) 2 (upd (upd (ga 2) m (nI ((Z.1 m) - 1))) m (nI ((Z.1 m) - 1 + 1)))) 3 (upd (ga 3) m (-1))) 4 (upd (ga 4) m 0))), (slp_all _ _ rfl).trans rfl, ?_⟩
    refine j_top ((mV (Z.2.2 (2 * m)) (Z.2.2 (2 * m + 1))) (fx (Z.2.2 (2 * m)) (nI y) (Z.1 m))) rfl ?_
    refine j_top (Z.2.2 (2 * m + 1) y) (mV_fx hy hf) ?_
    refine j_istore F 4 [(4, .int (Z.2.2 (2 * m + 1) y)), (0, .ref (ad 0)), (1, .int (nI m)), (2, .int (nI y)), (3, .int z)] dX10_getOrDefault_27 (by decide) rfl ?_
    refine j_iload F 0 dX10_getOrDefault_29 rfl ?_
    refine j_iconst F (v := (-1)) dX10_getOrDefault_31 (by decide) ?_
    refine j_icmp_ne F 39 dX10_getOrDefault_32 (by decide) (fun c_32 => ?_) (fun c_32 => absurd c_32 (hI.v hy hf))
    refine j_iload F 0 dX10_getOrDefault_39 rfl ?_
    exact j_iret F ⟨ups vi 0 0, ups (ups (ups (ups (ups ga 0 (upd (mrs (ga 0) (101 * m) (fx (Z.2.2 (2 * m)) (nI y) (Z.1 m)) (Z.1 m)) (101 * m + ((Z.1 m) - 1)) (nI y))) 1 (upd (mrs (ga 1) (101 * m) (fx (Z.2.2 (2 * m)) (nI y) (Z.1 m)) (Z.1 m)) (101 * m + ((Z.1 m) - 1)) ((mV (Z.2.2 (2 * m)) (Z.2.2 (2 * m + 1))) (fx (Z.2.2 (2 * m)) (nI y) (Z.1 m))))) 2 (upd (upd (ga 2) m (nI ((Z.1 m) - 1))) m (nI ((Z.1 m) - 1 + 1)))) 3 (upd (ga 3) m (-1))) 4 (upd (ga 4) m 0), (by rw [if_pos hf]; exact use_G hG hm hy hf (fun q hq => (ups_ne (by omega)).trans rfl) (fun q hq => (ups_ne (by omega)).trans ((ups_ne (by omega)).trans ((ups_ne (by omega)).trans ((ups_ne (by omega)).trans ((ups_ne (by omega)).trans rfl))))) rfl rfl (fm_trans (fm_take hm (by omega)) (fm_come hm (by omega))) rfl rfl rfl (put_w1 hf hv)), rfl, (by rw [if_pos hf]), rfl⟩ dX10_getOrDefault_41 (Nat.le_of_ble_eq_true rfl) (Nat.le_of_ble_eq_true rfl)
  · skip
    refine j_aload_n F 0 dX10_getOrDefault_0 rfl ?_
    refine j_iconst F (v := 0) dX10_getOrDefault_1 (by decide) ?_
    refine j_putf F fX10_1 0 (mW ay ad (ups vi 0 0) ga) rfl rfl rfl rfl rfl (Nat.le_of_ble_eq_true rfl) dX10_getOrDefault_2 ?_
    refine j_aload_n F 0 dX10_getOrDefault_5 rfl ?_
    refine j_iload_n F 1 dX10_getOrDefault_6 rfl ?_
    refine j_iload_n F 2 dX10_getOrDefault_7 rfl ?_
    refine j_scallV F kX10_103 (As := [.int (nI m), .int (nI y)]) (rest := []) (c_X10_noKey_ok l D ay ad (ups vi 0 0) ga (nI m) (nI y) rfl (show ¬ oob (nI m) 0 1 from nob1 hm) (show ¬ oob (nI y) 0 99 from nob99 hy)) 0 0 20 rfl rfl rfl rfl rfl rfl ⟨Nat.le_of_ble_eq_true rfl, Nat.le_of_ble_eq_true rfl⟩ dX10_getOrDefault_8 (fun v w hw => ?_)
    obtain ⟨rfl, rfl⟩ := hw
    refine ⟨rfl, (mW ay ad (ups vi 0 0) ga), (slp_all _ _ rfl).trans rfl, ?_⟩
    refine j_top 0 rfl ?_
    refine j_if_eq F 16 dX10_getOrDefault_11 (by decide) (fun c_11 => ?_) (fun c_11 => absurd (by decide) c_11)
    refine j_aload_n F 0 dX10_getOrDefault_16 rfl ?_
    refine j_iload_n F 1 dX10_getOrDefault_17 rfl ?_
    refine j_scallV F kX10_110 (As := [.int (nI m)]) (rest := []) (c_X10_ends l D ay ad (ups vi 0 0) ga m (show m < 2 from by first | assumption | omega)) 0 0 20 rfl rfl rfl rfl rfl rfl ⟨Nat.le_of_ble_eq_true rfl, Nat.le_of_ble_eq_true rfl⟩ dX10_getOrDefault_18 (fun v w hw => ?_)
    obtain ⟨rfl, rfl⟩ := hw
    refine ⟨rfl, (mW ay ad (ups vi 0 0) (ups (ups ga 3 (upd (ga 3) m (-1))) 4 (upd (ga 4) m 0))), (slp_all _ _ rfl).trans rfl, ?_⟩
    refine j_aload_n F 0 dX10_getOrDefault_21 rfl ?_
    refine j_iload_n F 1 dX10_getOrDefault_22 rfl ?_
    refine j_iload_n F 2 dX10_getOrDefault_23 rfl ?_
    refine j_scallV F kX10_121 (As := [.int (nI m), .int (nI y)]) (rest := []) (c_X10_uses_no l D ay ad (ups vi 0 0) (ups (ups ga 3 (upd (ga 3) m (-1))) 4 (upd (ga 4) m 0)) m (Z.1 m) (Z.2.2 (2 * m)) (mV (Z.2.2 (2 * m)) (Z.2.2 (2 * m + 1))) (nI y) (show m < 2 from hm) (show vw (ga 0) (ga 1) (ga 2) m (Z.1 m) (Z.2.2 (2 * m)) (mV (Z.2.2 (2 * m)) (Z.2.2 (2 * m + 1))) from hv) (show (Z.1 m) ≤ 101 from by omega) (show ¬ fx (Z.2.2 (2 * m)) (nI y) (Z.1 m) < (Z.1 m) from hf)) 0 0 20 rfl rfl rfl rfl rfl rfl ⟨Nat.le_of_ble_eq_true rfl, Nat.le_of_ble_eq_true rfl⟩ dX10_getOrDefault_24 (fun v w hw => ?_)
    obtain ⟨rfl, rfl⟩ := hw
    refine ⟨rfl, (mW ay ad (ups vi 0 0) (ups (ups ga 3 (upd (ga 3) m (-1))) 4 (upd (ga 4) m 0))), (slp_all _ _ rfl).trans rfl, ?_⟩
    refine j_top (-1) rfl ?_
    refine j_istore F 4 [(4, .int (-1)), (0, .ref (ad 0)), (1, .int (nI m)), (2, .int (nI y)), (3, .int z)] dX10_getOrDefault_27 (by decide) rfl ?_
    refine j_iload F 0 dX10_getOrDefault_29 rfl ?_
    refine j_iconst F (v := (-1)) dX10_getOrDefault_31 (by decide) ?_
    refine j_icmp_ne F 39 dX10_getOrDefault_32 (by decide) (fun c_32 => absurd (by decide) c_32) (fun c_32 => ?_)
    refine j_iload_n F 4 dX10_getOrDefault_35 rfl ?_
    refine j_goto F 41 dX10_getOrDefault_36 (by decide) ?_
    exact j_iret F ⟨ups vi 0 0, ups (ups ga 3 (upd (ga 3) m (-1))) 4 (upd (ga 4) m 0), (by rw [if_neg hf]; exact chg_G hG hm (fun q hq => (ups_ne (by omega)).trans rfl) (fun q hq => (ups_ne (by omega)).trans ((ups_ne (by omega)).trans rfl)) fm_id ho2_u rfl rfl rfl hI.1 hgm.2.1 hI.2.2.1 (Or.inl rfl) (fun h => absurd rfl h) hv upd_s upd_s), rfl, (by rw [if_neg hf]), rfl⟩ dX10_getOrDefault_41 (Nat.le_of_ble_eq_true rfl) (Nat.le_of_ble_eq_true rfl)

set_option maxHeartbeats 4000000 in
set_option maxRecDepth 100000 in
theorem c_X10_getOrDefault_no (l : Launch) (D : va_G) (ay : Nat → ClassId) (ad : Nat → Nat) (vi : Nat → Int32) (ga : Nat → Nat → Int32) (Z : DS) (x : Int32) (y : Int32) (z : Int32) (hG : GI Z vi ga) (h : oob x 0 1 ∨ oob y 0 99) : jM l yX10_getOrDefault (jws yX10_getOrDefault cX10_getOrDefault 5 (some .int)) 3 71 0 0 D ay [.ref (ad 0), .int x, .int y, .int z] (mW ay ad vi ga) (fun v w => ∃ (vi' : Nat → Int32) (ga' : Nat → Nat → Int32), GI Z vi' ga' ∧ vi' 0 = 1 ∧ v = some (.int 0) ∧ w = mW ay ad vi' ga') := by
  refine jM_of l (by decide) [(0, .ref (ad 0)), (1, .int x), (2, .int y), (3, .int z)] rfl rfl (fun p9 e9 s9 m9 a9 b9 me9 c9 A9 F => ?_)
  refine j_aload_n F 0 dX10_getOrDefault_0 rfl ?_
  refine j_iconst F (v := 0) dX10_getOrDefault_1 (by decide) ?_
  refine j_putf F fX10_1 0 (mW ay ad (ups vi 0 0) ga) rfl rfl rfl rfl rfl (Nat.le_of_ble_eq_true rfl) dX10_getOrDefault_2 ?_
  refine j_aload_n F 0 dX10_getOrDefault_5 rfl ?_
  refine j_iload_n F 1 dX10_getOrDefault_6 rfl ?_
  refine j_iload_n F 2 dX10_getOrDefault_7 rfl ?_
  refine j_scallV F kX10_103 (As := [.int x, .int y]) (rest := []) (c_X10_noKey_no l D ay ad (ups vi 0 0) ga x y rfl (show oob x 0 1 ∨ oob y 0 99 from h)) 0 0 20 rfl rfl rfl rfl rfl rfl ⟨Nat.le_of_ble_eq_true rfl, Nat.le_of_ble_eq_true rfl⟩ dX10_getOrDefault_8 (fun v w hw => ?_)
  obtain ⟨rfl, rfl⟩ := hw
  refine ⟨rfl, (mW ay ad (ups vi 0 1) ga), (slp_all _ _ rfl).trans rfl, ?_⟩
  refine j_top 1 rfl ?_
  refine j_if_eq F 16 dX10_getOrDefault_11 (by decide) (fun c_11 => absurd c_11 (by decide)) (fun c_11 => ?_)
  refine j_iconst F (v := 0) dX10_getOrDefault_14 (by decide) ?_
  exact j_iret F ⟨ups vi 0 1, ga, (GI_id hG (fun q hq => (ups_ne (by omega)).trans rfl) (fun q hq => rfl)), rfl, rfl, rfl⟩ dX10_getOrDefault_15 (Nat.le_of_ble_eq_true rfl) (Nat.le_of_ble_eq_true rfl)

set_option maxHeartbeats 4000000 in
set_option maxRecDepth 100000 in
theorem c_X10_remove_ok (l : Launch) (D : va_G) (ay : Nat → ClassId) (ad : Nat → Nat) (vi : Nat → Int32) (ga : Nat → Nat → Int32) (Z : DS) (m : Nat) (y : Nat) (hG : GI Z vi ga) (hm : m < 2) (hy : y < 100) : jM l yX10_remove (jws yX10_remove cX10_remove 4 (some .int)) 3 65 0 0 D ay [.ref (ad 0), .int (nI m), .int (nI y)] (mW ay ad vi ga) (fun v w => ∃ (vi' : Nat → Int32) (ga' : Nat → Nat → Int32), GI (mU Z m (if fx (Z.2.2 (2 * m)) (nI y) (Z.1 m) < Z.1 m then Z.1 m - 1 else Z.1 m) (if fx (Z.2.2 (2 * m)) (nI y) (Z.1 m) < Z.1 m then shf (Z.2.2 (2 * m)) (fx (Z.2.2 (2 * m)) (nI y) (Z.1 m)) (Z.1 m) else Z.2.2 (2 * m)) 0 (Z.2.1 (2 + 5 * m)) (Z.2.1 (3 + 5 * m)) (Z.2.2 (2 * m + 1)) (Z.1 (12 + m)) (Z.2.1 (4 + 5 * m)) (Z.2.1 (5 + 5 * m))) vi' ga' ∧ vi' 0 = 0 ∧ v = some (.int (if fx (Z.2.2 (2 * m)) (nI y) (Z.1 m) < (Z.1 m) then (Z.2.2 (2 * m + 1)) y else -1)) ∧ w = mW ay ad vi' ga') := by
  refine jM_of l (by decide) [(0, .ref (ad 0)), (1, .int (nI m)), (2, .int (nI y))] rfl rfl (fun p9 e9 s9 m9 a9 b9 me9 c9 A9 F => ?_)
  have hgm := hG.1 m hm
  have hI := hgm.1
  have hn := hI.n
  have hv := hgm.2.2.1
  have hB := hG.2.1
  have hmb : m = 0 ∨ Z.1 m ≤ Z.1 13 := by
    rcases (show m = 0 ∨ m = 1 by omega) with h | h
    · exact Or.inl h
    · subst h; exact Or.inr hgm.2.1
  refine j_aload_n F 0 dX10_remove_0 rfl ?_
  refine j_iconst F (v := 0) dX10_remove_1 (by decide) ?_
  refine j_putf F fX10_1 0 (mW ay ad (ups vi 0 0) ga) rfl rfl rfl rfl rfl (Nat.le_of_ble_eq_true rfl) dX10_remove_2 ?_
  refine j_aload_n F 0 dX10_remove_5 rfl ?_
  refine j_iload_n F 1 dX10_remove_6 rfl ?_
  refine j_iload_n F 2 dX10_remove_7 rfl ?_
  refine j_scallV F kX10_103 (As := [.int (nI m), .int (nI y)]) (rest := []) (c_X10_noKey_ok l D ay ad (ups vi 0 0) ga (nI m) (nI y) rfl (show ¬ oob (nI m) 0 1 from nob1 hm) (show ¬ oob (nI y) 0 99 from nob99 hy)) 0 0 20 rfl rfl rfl rfl rfl rfl ⟨Nat.le_of_ble_eq_true rfl, Nat.le_of_ble_eq_true rfl⟩ dX10_remove_8 (fun v w hw => ?_)
  obtain ⟨rfl, rfl⟩ := hw
  refine ⟨rfl, (mW ay ad (ups vi 0 0) ga), (slp_all _ _ rfl).trans rfl, ?_⟩
  refine j_top 0 rfl ?_
  refine j_if_eq F 16 dX10_remove_11 (by decide) (fun c_11 => ?_) (fun c_11 => absurd (by decide) c_11)
  refine j_aload_n F 0 dX10_remove_16 rfl ?_
  refine j_iload_n F 1 dX10_remove_17 rfl ?_
  refine j_scallV F kX10_110 (As := [.int (nI m)]) (rest := []) (c_X10_ends l D ay ad (ups vi 0 0) ga m (show m < 2 from by first | assumption | omega)) 0 0 20 rfl rfl rfl rfl rfl rfl ⟨Nat.le_of_ble_eq_true rfl, Nat.le_of_ble_eq_true rfl⟩ dX10_remove_18 (fun v w hw => ?_)
  obtain ⟨rfl, rfl⟩ := hw
  refine ⟨rfl, (mW ay ad (ups vi 0 0) (ups (ups ga 3 (upd (ga 3) m (-1))) 4 (upd (ga 4) m 0))), (slp_all _ _ rfl).trans rfl, ?_⟩
  refine j_aload_n F 0 dX10_remove_21 rfl ?_
  refine j_iload_n F 1 dX10_remove_22 rfl ?_
  refine j_iload_n F 2 dX10_remove_23 rfl ?_
  refine j_scallV F kX10_114 (As := [.int (nI m), .int (nI y)]) (rest := []) (c_X10_placeIn l D ay ad (ups vi 0 0) (ups (ups ga 3 (upd (ga 3) m (-1))) 4 (upd (ga 4) m 0)) m (Z.1 m) (nI y) (show m < 2 from hm) (show ga 2 m = nI (Z.1 m) from hv.1) (show (Z.1 m) ≤ 101 from by omega)) 0 0 20 rfl rfl rfl rfl rfl rfl ⟨Nat.le_of_ble_eq_true rfl, Nat.le_of_ble_eq_true rfl⟩ dX10_remove_24 (fun v w hw => ?_)
  obtain ⟨rfl, rfl⟩ := hw
  refine ⟨rfl, (mW ay ad (ups vi 0 0) (ups (ups ga 3 (upd (ga 3) m (-1))) 4 (upd (ga 4) m 0))), (slp_all _ _ rfl).trans rfl, ?_⟩
  refine j_top (fxI (Z.2.2 (2 * m)) (nI y) (Z.1 m)) (fxI_c hv.2.1) ?_
  by_cases hf : fx (Z.2.2 (2 * m)) (nI y) (Z.1 m) < Z.1 m
  · skip
    refine j_top (nI (fx (Z.2.2 (2 * m)) (nI y) (Z.1 m))) (if_pos hf) ?_
    refine j_istore_n F 3 [(3, .int (nI (fx (Z.2.2 (2 * m)) (nI y) (Z.1 m)))), (0, .ref (ad 0)), (1, .int (nI m)), (2, .int (nI y))] dX10_remove_27 rfl (by decide) rfl ?_
    refine j_iload_n F 0 dX10_remove_28 rfl ?_
    refine j_iconst F (v := (-1)) dX10_remove_29 (by decide) ?_
    refine j_icmp_ne F 37 dX10_remove_30 (by decide) (fun c_30 => ?_) (fun c_30 => absurd c_30 (nI_m1 (by omega)))
    refine j_aload_n F 1 dX10_remove_37 rfl ?_
    refine j_iload_n F 2 dX10_remove_38 rfl ?_
    refine j_iload_n F 0 dX10_remove_39 rfl ?_
    refine j_scallV F kX10_99 (As := [.int (nI m), .int (nI (fx (Z.2.2 (2 * m)) (nI y) (Z.1 m)))]) (rest := []) (c_X10_takes l D ay ad (ups vi 0 0) (ups (ups ga 3 (upd (ga 3) m (-1))) 4 (upd (ga 4) m 0)) m (Z.1 m) (fx (Z.2.2 (2 * m)) (nI y) (Z.1 m)) (show m < 2 from hm) (show ga 2 m = nI (Z.1 m) from hv.1) (show (Z.1 m) ≤ 101 from by omega) (show (fx (Z.2.2 (2 * m)) (nI y) (Z.1 m)) < (Z.1 m) from hf)) 0 0 20 rfl rfl rfl rfl rfl rfl ⟨Nat.le_of_ble_eq_true rfl, Nat.le_of_ble_eq_true rfl⟩ dX10_remove_40 (fun v w hw => ?_)
    obtain ⟨rfl, rfl⟩ := hw
    refine ⟨rfl, (mW ay ad (ups vi 0 0) (ups (ups (ups (ups (ups ga 0 (mrs (ga 0) (101 * m) (fx (Z.2.2 (2 * m)) (nI y) (Z.1 m)) (Z.1 m))) 1 (mrs (ga 1) (101 * m) (fx (Z.2.2 (2 * m)) (nI y) (Z.1 m)) (Z.1 m))) 2 (upd (ga 2) m (nI ((Z.1 m) - 1)))) 3 (upd (ga 3) m (-1))) 4 (upd (ga 4) m 0))), (slp_all _ _ rfl).trans rfl, ?_⟩
    refine j_top (Z.2.2 (2 * m + 1) y) ((hv.2.2 _ hf).trans (mV_fx hy hf)) ?_
    exact j_iret F ⟨ups vi 0 0, ups (ups (ups (ups (ups ga 0 (mrs (ga 0) (101 * m) (fx (Z.2.2 (2 * m)) (nI y) (Z.1 m)) (Z.1 m))) 1 (mrs (ga 1) (101 * m) (fx (Z.2.2 (2 * m)) (nI y) (Z.1 m)) (Z.1 m))) 2 (upd (ga 2) m (nI ((Z.1 m) - 1)))) 3 (upd (ga 3) m (-1))) 4 (upd (ga 4) m 0), (by rw [if_pos hf, if_pos hf]; exact chg_G hG hm (fun q hq => (ups_ne (by omega)).trans rfl) (fun q hq => (ups_ne (by omega)).trans ((ups_ne (by omega)).trans ((ups_ne (by omega)).trans ((ups_ne (by omega)).trans ((ups_ne (by omega)).trans rfl))))) (fm_take hm (by omega)) ho2_u rfl rfl rfl (hI.1.del hf) (by have := hgm.2.1; omega) (fun j hj => by rw [mV_shf]; exact nn_shf hI.2.2.1 hf j hj) (Or.inl rfl) (fun h => absurd rfl h) (by rw [mV_shf]; exact vw_take hv hf) upd_s upd_s), rfl, (by rw [if_pos hf]), rfl⟩ dX10_remove_43 (Nat.le_of_ble_eq_true rfl) (Nat.le_of_ble_eq_true rfl)
  · skip
    refine j_top (-1) (if_neg hf) ?_
    refine j_istore_n F 3 [(3, .int (-1)), (0, .ref (ad 0)), (1, .int (nI m)), (2, .int (nI y))] dX10_remove_27 rfl (by decide) rfl ?_
    refine j_iload_n F 0 dX10_remove_28 rfl ?_
    refine j_iconst F (v := (-1)) dX10_remove_29 (by decide) ?_
    refine j_icmp_ne F 37 dX10_remove_30 (by decide) (fun c_30 => absurd (by decide) c_30) (fun c_30 => ?_)
    refine j_iconst F (v := (-1)) dX10_remove_33 (by decide) ?_
    refine j_goto F 43 dX10_remove_34 (by decide) ?_
    exact j_iret F ⟨ups vi 0 0, ups (ups ga 3 (upd (ga 3) m (-1))) 4 (upd (ga 4) m 0), (by rw [if_neg hf, if_neg hf]; exact chg_G hG hm (fun q hq => (ups_ne (by omega)).trans rfl) (fun q hq => (ups_ne (by omega)).trans ((ups_ne (by omega)).trans rfl)) fm_id ho2_u rfl rfl rfl hI.1 hgm.2.1 hI.2.2.1 (Or.inl rfl) (fun h => absurd rfl h) hv upd_s upd_s), rfl, (by rw [if_neg hf]), rfl⟩ dX10_remove_43 (Nat.le_of_ble_eq_true rfl) (Nat.le_of_ble_eq_true rfl)

set_option maxHeartbeats 4000000 in
set_option maxRecDepth 100000 in
theorem c_X10_remove_no (l : Launch) (D : va_G) (ay : Nat → ClassId) (ad : Nat → Nat) (vi : Nat → Int32) (ga : Nat → Nat → Int32) (Z : DS) (x : Int32) (y : Int32) (hG : GI Z vi ga) (h : oob x 0 1 ∨ oob y 0 99) : jM l yX10_remove (jws yX10_remove cX10_remove 4 (some .int)) 3 65 0 0 D ay [.ref (ad 0), .int x, .int y] (mW ay ad vi ga) (fun v w => ∃ (vi' : Nat → Int32) (ga' : Nat → Nat → Int32), GI Z vi' ga' ∧ vi' 0 = 1 ∧ v = some (.int 0) ∧ w = mW ay ad vi' ga') := by
  refine jM_of l (by decide) [(0, .ref (ad 0)), (1, .int x), (2, .int y)] rfl rfl (fun p9 e9 s9 m9 a9 b9 me9 c9 A9 F => ?_)
  refine j_aload_n F 0 dX10_remove_0 rfl ?_
  refine j_iconst F (v := 0) dX10_remove_1 (by decide) ?_
  refine j_putf F fX10_1 0 (mW ay ad (ups vi 0 0) ga) rfl rfl rfl rfl rfl (Nat.le_of_ble_eq_true rfl) dX10_remove_2 ?_
  refine j_aload_n F 0 dX10_remove_5 rfl ?_
  refine j_iload_n F 1 dX10_remove_6 rfl ?_
  refine j_iload_n F 2 dX10_remove_7 rfl ?_
  refine j_scallV F kX10_103 (As := [.int x, .int y]) (rest := []) (c_X10_noKey_no l D ay ad (ups vi 0 0) ga x y rfl (show oob x 0 1 ∨ oob y 0 99 from h)) 0 0 20 rfl rfl rfl rfl rfl rfl ⟨Nat.le_of_ble_eq_true rfl, Nat.le_of_ble_eq_true rfl⟩ dX10_remove_8 (fun v w hw => ?_)
  obtain ⟨rfl, rfl⟩ := hw
  refine ⟨rfl, (mW ay ad (ups vi 0 1) ga), (slp_all _ _ rfl).trans rfl, ?_⟩
  refine j_top 1 rfl ?_
  refine j_if_eq F 16 dX10_remove_11 (by decide) (fun c_11 => absurd c_11 (by decide)) (fun c_11 => ?_)
  refine j_iconst F (v := 0) dX10_remove_14 (by decide) ?_
  exact j_iret F ⟨ups vi 0 1, ga, (GI_id hG (fun q hq => (ups_ne (by omega)).trans rfl) (fun q hq => rfl)), rfl, rfl, rfl⟩ dX10_remove_15 (Nat.le_of_ble_eq_true rfl) (Nat.le_of_ble_eq_true rfl)

set_option maxHeartbeats 4000000 in
set_option maxRecDepth 100000 in
theorem c_X10_clear_ok (l : Launch) (D : va_G) (ay : Nat → ClassId) (ad : Nat → Nat) (vi : Nat → Int32) (ga : Nat → Nat → Int32) (Z : DS) (m : Nat) (hG : GI Z vi ga) (hm : m < 2) : jM l yX10_clear (jws yX10_clear cX10_clear 3 (some .int)) 2 43 0 0 D ay [.ref (ad 0), .int (nI m)] (mW ay ad vi ga) (fun v w => ∃ (vi' : Nat → Int32) (ga' : Nat → Nat → Int32), GI (mU Z m 0 (Z.2.2 (2 * m)) 0 (Z.2.1 (2 + 5 * m)) (Z.2.1 (3 + 5 * m)) (Z.2.2 (2 * m + 1)) (Z.1 (12 + m)) (Z.2.1 (4 + 5 * m)) (Z.2.1 (5 + 5 * m))) vi' ga' ∧ vi' 0 = 0 ∧ v = some (.int (nI (Z.1 m))) ∧ w = mW ay ad vi' ga') := by
  refine jM_of l (by decide) [(0, .ref (ad 0)), (1, .int (nI m))] rfl rfl (fun p9 e9 s9 m9 a9 b9 me9 c9 A9 F => ?_)
  have hgm := hG.1 m hm
  have hI := hgm.1
  have hn := hI.n
  have hv := hgm.2.2.1
  have hB := hG.2.1
  have hmb : m = 0 ∨ Z.1 m ≤ Z.1 13 := by
    rcases (show m = 0 ∨ m = 1 by omega) with h | h
    · exact Or.inl h
    · subst h; exact Or.inr hgm.2.1
  refine j_aload_n F 0 dX10_clear_0 rfl ?_
  refine j_iconst F (v := 0) dX10_clear_1 (by decide) ?_
  refine j_putf F fX10_1 0 (mW ay ad (ups vi 0 0) ga) rfl rfl rfl rfl rfl (Nat.le_of_ble_eq_true rfl) dX10_clear_2 ?_
  refine j_aload_n F 0 dX10_clear_5 rfl ?_
  refine j_iload_n F 1 dX10_clear_6 rfl ?_
  refine j_scallV F kX10_92 (As := [.int (nI m)]) (rest := []) (c_X10_noMap_ok l D ay ad (ups vi 0 0) ga (nI m) rfl (show ¬ oob (nI m) 0 1 from nob1 hm)) 0 0 20 rfl rfl rfl rfl rfl rfl ⟨Nat.le_of_ble_eq_true rfl, Nat.le_of_ble_eq_true rfl⟩ dX10_clear_7 (fun v w hw => ?_)
  obtain ⟨rfl, rfl⟩ := hw
  refine ⟨rfl, (mW ay ad (ups vi 0 0) ga), (slp_all _ _ rfl).trans rfl, ?_⟩
  refine j_top 0 rfl ?_
  refine j_if_eq F 15 dX10_clear_10 (by decide) (fun c_10 => ?_) (fun c_10 => absurd (by decide) c_10)
  refine j_aload_n F 0 dX10_clear_15 rfl ?_
  refine j_iload_n F 1 dX10_clear_16 rfl ?_
  refine j_scallV F kX10_110 (As := [.int (nI m)]) (rest := []) (c_X10_ends l D ay ad (ups vi 0 0) ga m (show m < 2 from by first | assumption | omega)) 0 0 20 rfl rfl rfl rfl rfl rfl ⟨Nat.le_of_ble_eq_true rfl, Nat.le_of_ble_eq_true rfl⟩ dX10_clear_17 (fun v w hw => ?_)
  obtain ⟨rfl, rfl⟩ := hw
  refine ⟨rfl, (mW ay ad (ups vi 0 0) (ups (ups ga 3 (upd (ga 3) m (-1))) 4 (upd (ga 4) m 0))), (slp_all _ _ rfl).trans rfl, ?_⟩
  refine j_aload_n F 0 dX10_clear_20 rfl ?_
  refine j_getf F fX10_20 0 (v := .ref (ad 3)) rfl rfl dX10_clear_21 ?_
  refine j_iload_n F 1 dX10_clear_24 rfl ?_
  refine j_iald F 3 m (f := ga 2) rfl rfl (by omega) (Nat.le_of_ble_eq_true rfl) dX10_clear_25 ?_
  refine j_top (nI (Z.1 m)) hv.1 ?_
  refine j_istore_n F 2 [(2, .int (nI (Z.1 m))), (0, .ref (ad 0)), (1, .int (nI m))] dX10_clear_26 rfl (by decide) rfl ?_
  refine j_aload_n F 1 dX10_clear_27 rfl ?_
  refine j_getf F fX10_20 0 (v := .ref (ad 3)) rfl rfl dX10_clear_28 ?_
  refine j_iload_n F 2 dX10_clear_31 rfl ?_
  refine j_iconst F (v := 0) dX10_clear_32 (by decide) ?_
  refine j_iast F 3 (mW ay ad (ups vi 0 0) (ups (ups (ups ga 2 (upd (ga 2) m 0)) 3 (upd (ga 3) m (-1))) 4 (upd (ga 4) m 0))) m rfl rfl (by omega) (Nat.le_of_ble_eq_true rfl) rfl dX10_clear_33 ?_
  refine j_iload_n F 0 dX10_clear_34 rfl ?_
  exact j_iret F ⟨ups vi 0 0, ups (ups (ups ga 2 (upd (ga 2) m 0)) 3 (upd (ga 3) m (-1))) 4 (upd (ga 4) m 0), (chg_G hG hm (fun q hq => (ups_ne (by omega)).trans rfl) (fun q hq => (ups_ne (by omega)).trans ((ups_ne (by omega)).trans ((ups_ne (by omega)).trans rfl))) fm_n ho2_u rfl rfl rfl kI_0 (Nat.zero_le _) (fun _ h => absurd h (Nat.not_lt_zero _)) (Or.inl rfl) (fun h => absurd rfl h) vw_0 upd_s upd_s), rfl, rfl, rfl⟩ dX10_clear_35 (Nat.le_of_ble_eq_true rfl) (Nat.le_of_ble_eq_true rfl)

set_option maxHeartbeats 4000000 in
set_option maxRecDepth 100000 in
theorem c_X10_clear_no (l : Launch) (D : va_G) (ay : Nat → ClassId) (ad : Nat → Nat) (vi : Nat → Int32) (ga : Nat → Nat → Int32) (Z : DS) (x : Int32) (hG : GI Z vi ga) (h : oob x 0 1) : jM l yX10_clear (jws yX10_clear cX10_clear 3 (some .int)) 2 43 0 0 D ay [.ref (ad 0), .int x] (mW ay ad vi ga) (fun v w => ∃ (vi' : Nat → Int32) (ga' : Nat → Nat → Int32), GI Z vi' ga' ∧ vi' 0 = 1 ∧ v = some (.int 0) ∧ w = mW ay ad vi' ga') := by
  refine jM_of l (by decide) [(0, .ref (ad 0)), (1, .int x)] rfl rfl (fun p9 e9 s9 m9 a9 b9 me9 c9 A9 F => ?_)
  refine j_aload_n F 0 dX10_clear_0 rfl ?_
  refine j_iconst F (v := 0) dX10_clear_1 (by decide) ?_
  refine j_putf F fX10_1 0 (mW ay ad (ups vi 0 0) ga) rfl rfl rfl rfl rfl (Nat.le_of_ble_eq_true rfl) dX10_clear_2 ?_
  refine j_aload_n F 0 dX10_clear_5 rfl ?_
  refine j_iload_n F 1 dX10_clear_6 rfl ?_
  refine j_scallV F kX10_92 (As := [.int x]) (rest := []) (c_X10_noMap_no l D ay ad (ups vi 0 0) ga x rfl (show oob x 0 1 from h)) 0 0 20 rfl rfl rfl rfl rfl rfl ⟨Nat.le_of_ble_eq_true rfl, Nat.le_of_ble_eq_true rfl⟩ dX10_clear_7 (fun v w hw => ?_)
  obtain ⟨rfl, rfl⟩ := hw
  refine ⟨rfl, (mW ay ad (ups vi 0 1) ga), (slp_all _ _ rfl).trans rfl, ?_⟩
  refine j_top 1 rfl ?_
  refine j_if_eq F 15 dX10_clear_10 (by decide) (fun c_10 => absurd c_10 (by decide)) (fun c_10 => ?_)
  refine j_iconst F (v := 0) dX10_clear_13 (by decide) ?_
  exact j_iret F ⟨ups vi 0 1, ga, (GI_id hG (fun q hq => (ups_ne (by omega)).trans rfl) (fun q hq => rfl)), rfl, rfl, rfl⟩ dX10_clear_14 (Nat.le_of_ble_eq_true rfl) (Nat.le_of_ble_eq_true rfl)

set_option maxHeartbeats 4000000 in
set_option maxRecDepth 100000 in
theorem c_X10_setBound_ok (l : Launch) (D : va_G) (ay : Nat → ClassId) (ad : Nat → Nat) (vi : Nat → Int32) (ga : Nat → Nat → Int32) (Z : DS) (b : Nat) (hG : GI Z vi ga) (hb : 1 ≤ b ∧ b ≤ 20) : jM l yX10_setBound (jws yX10_setBound cX10_setBound 3 (some .int)) 1 22 0 0 D ay [.ref (ad 0), .int (nI b)] (mW ay ad vi ga) (fun v w => ∃ (vi' : Nat → Int32) (ga' : Nat → Nat → Int32), GI (mU Z 1 0 (Z.2.2 2) 0 (Z.2.1 7) (Z.2.1 8) (Z.2.2 3) b (Z.2.1 9) (Z.2.1 10)) vi' ga' ∧ vi' 0 = 0 ∧ v = some (.int (nI (Z.1 13))) ∧ w = mW ay ad vi' ga') := by
  refine jM_of l (by decide) [(0, .ref (ad 0)), (1, .int (nI b))] rfl rfl (fun p9 e9 s9 m9 a9 b9 me9 c9 A9 F => ?_)
  refine j_aload_n F 0 dX10_setBound_0 rfl ?_
  refine j_iconst F (v := 0) dX10_setBound_1 (by decide) ?_
  refine j_putf F fX10_1 0 (mW ay ad (ups vi 0 0) ga) rfl rfl rfl rfl rfl (Nat.le_of_ble_eq_true rfl) dX10_setBound_2 ?_
  refine j_aload_n F 0 dX10_setBound_5 rfl ?_
  refine j_iload_n F 1 dX10_setBound_6 rfl ?_
  refine j_iconst F (v := 1) dX10_setBound_7 (by decide) ?_
  refine j_bipush F (v := 20) dX10_setBound_8 (by decide) ?_
  refine j_ecallS F kX10_84 (As := [.int (nI b), .int 1, .int 20]) (rest := [.ref (ad 0)]) (c_X10_in l D ay (nI b) 1 20 (show ¬ oob (nI b) 1 20 from nob20 hb.1 hb.2)) rfl rfl rfl rfl ⟨Nat.le_of_ble_eq_true rfl, Nat.le_of_ble_eq_true rfl⟩ dX10_setBound_10 (fun v w hw => ?_)
  obtain ⟨rfl, rfl⟩ := hw
  refine ⟨rfl, ?_⟩
  refine j_top 1 rfl ?_
  refine j_iconst F (v := 1) dX10_setBound_13 (by decide) ?_
  refine j_scallV F kX10_88 (As := [.int 1, .int 1]) (rest := []) (c_X10_fails_ok l D ay ad (ups vi 0 0) ga 1 rfl) 0 0 20 rfl rfl rfl rfl rfl rfl ⟨Nat.le_of_ble_eq_true rfl, Nat.le_of_ble_eq_true rfl⟩ dX10_setBound_14 (fun v w hw => ?_)
  obtain ⟨rfl, rfl⟩ := hw
  refine ⟨rfl, (mW ay ad (ups vi 0 0) ga), (slp_all _ _ rfl).trans rfl, ?_⟩
  refine j_top 0 rfl ?_
  refine j_if_eq F 22 dX10_setBound_17 (by decide) (fun c_17 => ?_) (fun c_17 => absurd (by decide) c_17)
  refine j_aload_n F 0 dX10_setBound_22 rfl ?_
  refine j_iconst F (v := 1) dX10_setBound_23 (by decide) ?_
  refine j_scallV F kX10_110 (As := [.int 1]) (rest := []) (c_X10_ends l D ay ad (ups vi 0 0) ga 1 (show 1 < 2 from by omega)) 0 0 20 rfl rfl rfl rfl rfl rfl ⟨Nat.le_of_ble_eq_true rfl, Nat.le_of_ble_eq_true rfl⟩ dX10_setBound_24 (fun v w hw => ?_)
  obtain ⟨rfl, rfl⟩ := hw
  refine ⟨rfl, (mW ay ad (ups vi 0 0) (ups (ups ga 3 (upd (ga 3) 1 (-1))) 4 (upd (ga 4) 1 0))), (slp_all _ _ rfl).trans rfl, ?_⟩
  refine j_aload_n F 0 dX10_setBound_27 rfl ?_
  refine j_getf F fX10_20 0 (v := .ref (ad 3)) rfl rfl dX10_setBound_28 ?_
  refine j_iconst F (v := 1) dX10_setBound_31 (by decide) ?_
  refine j_iconst F (v := 0) dX10_setBound_32 (by decide) ?_
  refine j_iast F 3 (mW ay ad (ups vi 0 0) (ups (ups (ups ga 2 (upd (ga 2) 1 0)) 3 (upd (ga 3) 1 (-1))) 4 (upd (ga 4) 1 0))) 1 rfl rfl (by omega) (Nat.le_of_ble_eq_true rfl) rfl dX10_setBound_33 ?_
  refine j_aload_n F 0 dX10_setBound_34 rfl ?_
  refine j_getf F fX10_23 0 (v := .int (vi 4)) rfl rfl dX10_setBound_35 ?_
  refine j_top (nI (Z.1 13)) hG.2.1.2.2.1 ?_
  refine j_istore_n F 2 [(2, .int (nI (Z.1 13))), (0, .ref (ad 0)), (1, .int (nI b))] dX10_setBound_38 rfl (by decide) rfl ?_
  refine j_aload_n F 1 dX10_setBound_39 rfl ?_
  refine j_iload_n F 2 dX10_setBound_40 rfl ?_
  refine j_putf F fX10_23 0 (mW ay ad (ups (ups vi 0 0) 4 (nI b)) (ups (ups (ups ga 2 (upd (ga 2) 1 0)) 3 (upd (ga 3) 1 (-1))) 4 (upd (ga 4) 1 0))) rfl rfl rfl rfl rfl (Nat.le_of_ble_eq_true rfl) dX10_setBound_41 ?_
  refine j_iload_n F 0 dX10_setBound_44 rfl ?_
  exact j_iret F ⟨ups (ups vi 0 0) 4 (nI b), ups (ups (ups ga 2 (upd (ga 2) 1 0)) 3 (upd (ga 3) 1 (-1))) 4 (upd (ga 4) 1 0), (bound_G hG hb (fun q hq => (ups_ne (by omega)).trans ((ups_ne (by omega)).trans rfl)) (fun q hq => (ups_ne (by omega)).trans ((ups_ne (by omega)).trans ((ups_ne (by omega)).trans rfl))) rfl rfl rfl rfl rfl rfl rfl rfl), rfl, rfl, rfl⟩ dX10_setBound_45 (Nat.le_of_ble_eq_true rfl) (Nat.le_of_ble_eq_true rfl)

set_option maxHeartbeats 4000000 in
set_option maxRecDepth 100000 in
theorem c_X10_setBound_no (l : Launch) (D : va_G) (ay : Nat → ClassId) (ad : Nat → Nat) (vi : Nat → Int32) (ga : Nat → Nat → Int32) (Z : DS) (x : Int32) (hG : GI Z vi ga) (h : oob x 1 20) : jM l yX10_setBound (jws yX10_setBound cX10_setBound 3 (some .int)) 1 22 0 0 D ay [.ref (ad 0), .int x] (mW ay ad vi ga) (fun v w => ∃ (vi' : Nat → Int32) (ga' : Nat → Nat → Int32), GI Z vi' ga' ∧ vi' 0 = 1 ∧ v = some (.int 0) ∧ w = mW ay ad vi' ga') := by
  refine jM_of l (by decide) [(0, .ref (ad 0)), (1, .int x)] rfl rfl (fun p9 e9 s9 m9 a9 b9 me9 c9 A9 F => ?_)
  refine j_aload_n F 0 dX10_setBound_0 rfl ?_
  refine j_iconst F (v := 0) dX10_setBound_1 (by decide) ?_
  refine j_putf F fX10_1 0 (mW ay ad (ups vi 0 0) ga) rfl rfl rfl rfl rfl (Nat.le_of_ble_eq_true rfl) dX10_setBound_2 ?_
  refine j_aload_n F 0 dX10_setBound_5 rfl ?_
  refine j_iload_n F 1 dX10_setBound_6 rfl ?_
  refine j_iconst F (v := 1) dX10_setBound_7 (by decide) ?_
  refine j_bipush F (v := 20) dX10_setBound_8 (by decide) ?_
  refine j_ecallS F kX10_84 (As := [.int x, .int 1, .int 20]) (rest := [.ref (ad 0)]) (c_X10_in_no l D ay x 1 20 (show oob x 1 20 from h)) rfl rfl rfl rfl ⟨Nat.le_of_ble_eq_true rfl, Nat.le_of_ble_eq_true rfl⟩ dX10_setBound_10 (fun v w hw => ?_)
  obtain ⟨rfl, rfl⟩ := hw
  refine ⟨rfl, ?_⟩
  refine j_top 0 rfl ?_
  refine j_iconst F (v := 1) dX10_setBound_13 (by decide) ?_
  refine j_scallV F kX10_88 (As := [.int 0, .int 1]) (rest := []) (c_X10_fails_no l D ay ad (ups vi 0 0) ga 1 rfl (show ¬ 1 = 0 from by decide)) 0 0 20 rfl rfl rfl rfl rfl rfl ⟨Nat.le_of_ble_eq_true rfl, Nat.le_of_ble_eq_true rfl⟩ dX10_setBound_14 (fun v w hw => ?_)
  obtain ⟨rfl, rfl⟩ := hw
  refine ⟨rfl, (mW ay ad (ups vi 0 1) ga), (slp_all _ _ rfl).trans rfl, ?_⟩
  refine j_top 1 rfl ?_
  refine j_if_eq F 22 dX10_setBound_17 (by decide) (fun c_17 => absurd c_17 (by decide)) (fun c_17 => ?_)
  refine j_iconst F (v := 0) dX10_setBound_20 (by decide) ?_
  exact j_iret F ⟨ups vi 0 1, ga, (GI_id hG (fun q hq => (ups_ne (by omega)).trans rfl) (fun q hq => rfl)), rfl, rfl, rfl⟩ dX10_setBound_21 (Nat.le_of_ble_eq_true rfl) (Nat.le_of_ble_eq_true rfl)

set_option maxHeartbeats 4000000 in
set_option maxRecDepth 100000 in
theorem c_X10_hasKey_ok (l : Launch) (D : va_G) (ay : Nat → ClassId) (ad : Nat → Nat) (vi : Nat → Int32) (ga : Nat → Nat → Int32) (Z : DS) (m : Nat) (y : Nat) (hG : GI Z vi ga) (hm : m < 2) (hy : y < 100) : jM l yX10_hasKey (jws yX10_hasKey cX10_hasKey 3 (some .boolean)) 3 65 0 0 D ay [.ref (ad 0), .int (nI m), .int (nI y)] (mW ay ad vi ga) (fun v w => ∃ (vi' : Nat → Int32) (ga' : Nat → Nat → Int32), GI Z vi' ga' ∧ vi' 0 = 0 ∧ v = some (.int (if fx (Z.2.2 (2 * m)) (nI y) (Z.1 m) < Z.1 m then 1 else 0)) ∧ w = mW ay ad vi' ga') := by
  refine jM_of l (by decide) [(0, .ref (ad 0)), (1, .int (nI m)), (2, .int (nI y))] rfl rfl (fun p9 e9 s9 m9 a9 b9 me9 c9 A9 F => ?_)
  have hgm := hG.1 m hm
  have hI := hgm.1
  have hn := hI.n
  have hv := hgm.2.2.1
  have hB := hG.2.1
  have hmb : m = 0 ∨ Z.1 m ≤ Z.1 13 := by
    rcases (show m = 0 ∨ m = 1 by omega) with h | h
    · exact Or.inl h
    · subst h; exact Or.inr hgm.2.1
  refine j_aload_n F 0 dX10_hasKey_0 rfl ?_
  refine j_iconst F (v := 0) dX10_hasKey_1 (by decide) ?_
  refine j_putf F fX10_1 0 (mW ay ad (ups vi 0 0) ga) rfl rfl rfl rfl rfl (Nat.le_of_ble_eq_true rfl) dX10_hasKey_2 ?_
  refine j_aload_n F 0 dX10_hasKey_5 rfl ?_
  refine j_iload_n F 1 dX10_hasKey_6 rfl ?_
  refine j_iload_n F 2 dX10_hasKey_7 rfl ?_
  refine j_scallV F kX10_103 (As := [.int (nI m), .int (nI y)]) (rest := []) (c_X10_noKey_ok l D ay ad (ups vi 0 0) ga (nI m) (nI y) rfl (show ¬ oob (nI m) 0 1 from nob1 hm) (show ¬ oob (nI y) 0 99 from nob99 hy)) 0 0 20 rfl rfl rfl rfl rfl rfl ⟨Nat.le_of_ble_eq_true rfl, Nat.le_of_ble_eq_true rfl⟩ dX10_hasKey_8 (fun v w hw => ?_)
  obtain ⟨rfl, rfl⟩ := hw
  refine ⟨rfl, (mW ay ad (ups vi 0 0) ga), (slp_all _ _ rfl).trans rfl, ?_⟩
  refine j_top 0 rfl ?_
  refine j_if_ne F 28 dX10_hasKey_11 (by decide) (fun c_11 => absurd (by decide) c_11) (fun c_11 => ?_)
  refine j_aload_n F 0 dX10_hasKey_14 rfl ?_
  refine j_iload_n F 1 dX10_hasKey_15 rfl ?_
  refine j_iload_n F 2 dX10_hasKey_16 rfl ?_
  refine j_scallV F kX10_114 (As := [.int (nI m), .int (nI y)]) (rest := []) (c_X10_placeIn l D ay ad (ups vi 0 0) ga m (Z.1 m) (nI y) (show m < 2 from hm) (show ga 2 m = nI (Z.1 m) from hv.1) (show (Z.1 m) ≤ 101 from by omega)) 0 0 20 rfl rfl rfl rfl rfl rfl ⟨Nat.le_of_ble_eq_true rfl, Nat.le_of_ble_eq_true rfl⟩ dX10_hasKey_17 (fun v w hw => ?_)
  obtain ⟨rfl, rfl⟩ := hw
  refine ⟨rfl, (mW ay ad (ups vi 0 0) ga), (slp_all _ _ rfl).trans rfl, ?_⟩
  refine j_top (fxI (Z.2.2 (2 * m)) (nI y) (Z.1 m)) (fxI_c hv.2.1) ?_
  by_cases hf : fx (Z.2.2 (2 * m)) (nI y) (Z.1 m) < Z.1 m
  · skip
    refine j_top (nI (fx (Z.2.2 (2 * m)) (nI y) (Z.1 m))) (if_pos hf) ?_
    refine j_iconst F (v := (-1)) dX10_hasKey_20 (by decide) ?_
    refine j_icmp_eq F 28 dX10_hasKey_21 (by decide) (fun c_21 => absurd c_21 (nI_m1 (by omega))) (fun c_21 => ?_)
    refine j_iconst F (v := 1) dX10_hasKey_24 (by decide) ?_
    refine j_goto F 29 dX10_hasKey_25 (by decide) ?_
    exact j_zret F (Or.inr rfl) ⟨ups vi 0 0, ga, (GI_id hG (fun q hq => (ups_ne (by omega)).trans rfl) (fun q hq => rfl)), rfl, (by rw [if_pos hf]), rfl⟩ dX10_hasKey_29 (Nat.le_of_ble_eq_true rfl) (Nat.le_of_ble_eq_true rfl)
  · skip
    refine j_top (-1) (if_neg hf) ?_
    refine j_iconst F (v := (-1)) dX10_hasKey_20 (by decide) ?_
    refine j_icmp_eq F 28 dX10_hasKey_21 (by decide) (fun c_21 => ?_) (fun c_21 => absurd (by decide) c_21)
    refine j_iconst F (v := 0) dX10_hasKey_28 (by decide) ?_
    exact j_zret F (Or.inl rfl) ⟨ups vi 0 0, ga, (GI_id hG (fun q hq => (ups_ne (by omega)).trans rfl) (fun q hq => rfl)), rfl, (by rw [if_neg hf]), rfl⟩ dX10_hasKey_29 (Nat.le_of_ble_eq_true rfl) (Nat.le_of_ble_eq_true rfl)

set_option maxHeartbeats 4000000 in
set_option maxRecDepth 100000 in
theorem c_X10_hasKey_no (l : Launch) (D : va_G) (ay : Nat → ClassId) (ad : Nat → Nat) (vi : Nat → Int32) (ga : Nat → Nat → Int32) (Z : DS) (x : Int32) (y : Int32) (hG : GI Z vi ga) (h : oob x 0 1 ∨ oob y 0 99) : jM l yX10_hasKey (jws yX10_hasKey cX10_hasKey 3 (some .boolean)) 3 65 0 0 D ay [.ref (ad 0), .int x, .int y] (mW ay ad vi ga) (fun v w => ∃ (vi' : Nat → Int32) (ga' : Nat → Nat → Int32), GI Z vi' ga' ∧ vi' 0 = 1 ∧ v = some (.int 0) ∧ w = mW ay ad vi' ga') := by
  refine jM_of l (by decide) [(0, .ref (ad 0)), (1, .int x), (2, .int y)] rfl rfl (fun p9 e9 s9 m9 a9 b9 me9 c9 A9 F => ?_)
  refine j_aload_n F 0 dX10_hasKey_0 rfl ?_
  refine j_iconst F (v := 0) dX10_hasKey_1 (by decide) ?_
  refine j_putf F fX10_1 0 (mW ay ad (ups vi 0 0) ga) rfl rfl rfl rfl rfl (Nat.le_of_ble_eq_true rfl) dX10_hasKey_2 ?_
  refine j_aload_n F 0 dX10_hasKey_5 rfl ?_
  refine j_iload_n F 1 dX10_hasKey_6 rfl ?_
  refine j_iload_n F 2 dX10_hasKey_7 rfl ?_
  refine j_scallV F kX10_103 (As := [.int x, .int y]) (rest := []) (c_X10_noKey_no l D ay ad (ups vi 0 0) ga x y rfl (show oob x 0 1 ∨ oob y 0 99 from h)) 0 0 20 rfl rfl rfl rfl rfl rfl ⟨Nat.le_of_ble_eq_true rfl, Nat.le_of_ble_eq_true rfl⟩ dX10_hasKey_8 (fun v w hw => ?_)
  obtain ⟨rfl, rfl⟩ := hw
  refine ⟨rfl, (mW ay ad (ups vi 0 1) ga), (slp_all _ _ rfl).trans rfl, ?_⟩
  refine j_top 1 rfl ?_
  refine j_if_ne F 28 dX10_hasKey_11 (by decide) (fun c_11 => ?_) (fun c_11 => absurd c_11 (by decide))
  refine j_iconst F (v := 0) dX10_hasKey_28 (by decide) ?_
  exact j_zret F (Or.inl rfl) ⟨ups vi 0 1, ga, (GI_id hG (fun q hq => (ups_ne (by omega)).trans rfl) (fun q hq => rfl)), rfl, rfl, rfl⟩ dX10_hasKey_29 (Nat.le_of_ble_eq_true rfl) (Nat.le_of_ble_eq_true rfl)

set_option maxHeartbeats 4000000 in
set_option maxRecDepth 100000 in
theorem c_X10_size_ok (l : Launch) (D : va_G) (ay : Nat → ClassId) (ad : Nat → Nat) (vi : Nat → Int32) (ga : Nat → Nat → Int32) (Z : DS) (m : Nat) (hG : GI Z vi ga) (hm : m < 2) : jM l yX10_size (jws yX10_size cX10_size 2 (some .int)) 2 43 0 0 D ay [.ref (ad 0), .int (nI m)] (mW ay ad vi ga) (fun v w => ∃ (vi' : Nat → Int32) (ga' : Nat → Nat → Int32), GI Z vi' ga' ∧ vi' 0 = 0 ∧ v = some (.int (nI (Z.1 m))) ∧ w = mW ay ad vi' ga') := by
  refine jM_of l (by decide) [(0, .ref (ad 0)), (1, .int (nI m))] rfl rfl (fun p9 e9 s9 m9 a9 b9 me9 c9 A9 F => ?_)
  have hgm := hG.1 m hm
  have hI := hgm.1
  have hn := hI.n
  have hv := hgm.2.2.1
  have hB := hG.2.1
  have hmb : m = 0 ∨ Z.1 m ≤ Z.1 13 := by
    rcases (show m = 0 ∨ m = 1 by omega) with h | h
    · exact Or.inl h
    · subst h; exact Or.inr hgm.2.1
  refine j_aload_n F 0 dX10_size_0 rfl ?_
  refine j_iconst F (v := 0) dX10_size_1 (by decide) ?_
  refine j_putf F fX10_1 0 (mW ay ad (ups vi 0 0) ga) rfl rfl rfl rfl rfl (Nat.le_of_ble_eq_true rfl) dX10_size_2 ?_
  refine j_aload_n F 0 dX10_size_5 rfl ?_
  refine j_iload_n F 1 dX10_size_6 rfl ?_
  refine j_scallV F kX10_92 (As := [.int (nI m)]) (rest := []) (c_X10_noMap_ok l D ay ad (ups vi 0 0) ga (nI m) rfl (show ¬ oob (nI m) 0 1 from nob1 hm)) 0 0 20 rfl rfl rfl rfl rfl rfl ⟨Nat.le_of_ble_eq_true rfl, Nat.le_of_ble_eq_true rfl⟩ dX10_size_7 (fun v w hw => ?_)
  obtain ⟨rfl, rfl⟩ := hw
  refine ⟨rfl, (mW ay ad (ups vi 0 0) ga), (slp_all _ _ rfl).trans rfl, ?_⟩
  refine j_top 0 rfl ?_
  refine j_if_eq F 17 dX10_size_10 (by decide) (fun c_10 => ?_) (fun c_10 => absurd (by decide) c_10)
  refine j_aload_n F 0 dX10_size_17 rfl ?_
  refine j_getf F fX10_20 0 (v := .ref (ad 3)) rfl rfl dX10_size_18 ?_
  refine j_iload_n F 1 dX10_size_21 rfl ?_
  refine j_iald F 3 m (f := ga 2) rfl rfl (by omega) (Nat.le_of_ble_eq_true rfl) dX10_size_22 ?_
  refine j_top (nI (Z.1 m)) hv.1 ?_
  exact j_iret F ⟨ups vi 0 0, ga, (GI_id hG (fun q hq => (ups_ne (by omega)).trans rfl) (fun q hq => rfl)), rfl, rfl, rfl⟩ dX10_size_23 (Nat.le_of_ble_eq_true rfl) (Nat.le_of_ble_eq_true rfl)

set_option maxHeartbeats 4000000 in
set_option maxRecDepth 100000 in
theorem c_X10_size_no (l : Launch) (D : va_G) (ay : Nat → ClassId) (ad : Nat → Nat) (vi : Nat → Int32) (ga : Nat → Nat → Int32) (Z : DS) (x : Int32) (hG : GI Z vi ga) (h : oob x 0 1) : jM l yX10_size (jws yX10_size cX10_size 2 (some .int)) 2 43 0 0 D ay [.ref (ad 0), .int x] (mW ay ad vi ga) (fun v w => ∃ (vi' : Nat → Int32) (ga' : Nat → Nat → Int32), GI Z vi' ga' ∧ vi' 0 = 1 ∧ v = some (.int 0) ∧ w = mW ay ad vi' ga') := by
  refine jM_of l (by decide) [(0, .ref (ad 0)), (1, .int x)] rfl rfl (fun p9 e9 s9 m9 a9 b9 me9 c9 A9 F => ?_)
  refine j_aload_n F 0 dX10_size_0 rfl ?_
  refine j_iconst F (v := 0) dX10_size_1 (by decide) ?_
  refine j_putf F fX10_1 0 (mW ay ad (ups vi 0 0) ga) rfl rfl rfl rfl rfl (Nat.le_of_ble_eq_true rfl) dX10_size_2 ?_
  refine j_aload_n F 0 dX10_size_5 rfl ?_
  refine j_iload_n F 1 dX10_size_6 rfl ?_
  refine j_scallV F kX10_92 (As := [.int x]) (rest := []) (c_X10_noMap_no l D ay ad (ups vi 0 0) ga x rfl (show oob x 0 1 from h)) 0 0 20 rfl rfl rfl rfl rfl rfl ⟨Nat.le_of_ble_eq_true rfl, Nat.le_of_ble_eq_true rfl⟩ dX10_size_7 (fun v w hw => ?_)
  obtain ⟨rfl, rfl⟩ := hw
  refine ⟨rfl, (mW ay ad (ups vi 0 1) ga), (slp_all _ _ rfl).trans rfl, ?_⟩
  refine j_top 1 rfl ?_
  refine j_if_eq F 17 dX10_size_10 (by decide) (fun c_10 => absurd c_10 (by decide)) (fun c_10 => ?_)
  refine j_iconst F (v := 0) dX10_size_13 (by decide) ?_
  refine j_goto F 23 dX10_size_14 (by decide) ?_
  exact j_iret F ⟨ups vi 0 1, ga, (GI_id hG (fun q hq => (ups_ne (by omega)).trans rfl) (fun q hq => rfl)), rfl, rfl, rfl⟩ dX10_size_23 (Nat.le_of_ble_eq_true rfl) (Nat.le_of_ble_eq_true rfl)

set_option maxHeartbeats 4000000 in
set_option maxRecDepth 100000 in
theorem c_X10_placeOf_ok (l : Launch) (D : va_G) (ay : Nat → ClassId) (ad : Nat → Nat) (vi : Nat → Int32) (ga : Nat → Nat → Int32) (Z : DS) (m : Nat) (y : Nat) (hG : GI Z vi ga) (hm : m < 2) (hy : y < 100) : jM l yX10_placeOf (jws yX10_placeOf cX10_placeOf 3 (some .int)) 3 65 0 0 D ay [.ref (ad 0), .int (nI m), .int (nI y)] (mW ay ad vi ga) (fun v w => ∃ (vi' : Nat → Int32) (ga' : Nat → Nat → Int32), GI Z vi' ga' ∧ vi' 0 = 0 ∧ v = some (.int (fxI (Z.2.2 (2 * m)) (nI y) (Z.1 m))) ∧ w = mW ay ad vi' ga') := by
  refine jM_of l (by decide) [(0, .ref (ad 0)), (1, .int (nI m)), (2, .int (nI y))] rfl rfl (fun p9 e9 s9 m9 a9 b9 me9 c9 A9 F => ?_)
  have hgm := hG.1 m hm
  have hI := hgm.1
  have hn := hI.n
  have hv := hgm.2.2.1
  have hB := hG.2.1
  have hmb : m = 0 ∨ Z.1 m ≤ Z.1 13 := by
    rcases (show m = 0 ∨ m = 1 by omega) with h | h
    · exact Or.inl h
    · subst h; exact Or.inr hgm.2.1
  refine j_aload_n F 0 dX10_placeOf_0 rfl ?_
  refine j_iconst F (v := 0) dX10_placeOf_1 (by decide) ?_
  refine j_putf F fX10_1 0 (mW ay ad (ups vi 0 0) ga) rfl rfl rfl rfl rfl (Nat.le_of_ble_eq_true rfl) dX10_placeOf_2 ?_
  refine j_aload_n F 0 dX10_placeOf_5 rfl ?_
  refine j_iload_n F 1 dX10_placeOf_6 rfl ?_
  refine j_iload_n F 2 dX10_placeOf_7 rfl ?_
  refine j_scallV F kX10_103 (As := [.int (nI m), .int (nI y)]) (rest := []) (c_X10_noKey_ok l D ay ad (ups vi 0 0) ga (nI m) (nI y) rfl (show ¬ oob (nI m) 0 1 from nob1 hm) (show ¬ oob (nI y) 0 99 from nob99 hy)) 0 0 20 rfl rfl rfl rfl rfl rfl ⟨Nat.le_of_ble_eq_true rfl, Nat.le_of_ble_eq_true rfl⟩ dX10_placeOf_8 (fun v w hw => ?_)
  obtain ⟨rfl, rfl⟩ := hw
  refine ⟨rfl, (mW ay ad (ups vi 0 0) ga), (slp_all _ _ rfl).trans rfl, ?_⟩
  refine j_top 0 rfl ?_
  refine j_if_eq F 18 dX10_placeOf_11 (by decide) (fun c_11 => ?_) (fun c_11 => absurd (by decide) c_11)
  refine j_aload_n F 0 dX10_placeOf_18 rfl ?_
  refine j_iload_n F 1 dX10_placeOf_19 rfl ?_
  refine j_iload_n F 2 dX10_placeOf_20 rfl ?_
  refine j_scallV F kX10_114 (As := [.int (nI m), .int (nI y)]) (rest := []) (c_X10_placeIn l D ay ad (ups vi 0 0) ga m (Z.1 m) (nI y) (show m < 2 from hm) (show ga 2 m = nI (Z.1 m) from hv.1) (show (Z.1 m) ≤ 101 from by omega)) 0 0 20 rfl rfl rfl rfl rfl rfl ⟨Nat.le_of_ble_eq_true rfl, Nat.le_of_ble_eq_true rfl⟩ dX10_placeOf_21 (fun v w hw => ?_)
  obtain ⟨rfl, rfl⟩ := hw
  refine ⟨rfl, (mW ay ad (ups vi 0 0) ga), (slp_all _ _ rfl).trans rfl, ?_⟩
  refine j_top (fxI (Z.2.2 (2 * m)) (nI y) (Z.1 m)) (fxI_c hv.2.1) ?_
  exact j_iret F ⟨ups vi 0 0, ga, (GI_id hG (fun q hq => (ups_ne (by omega)).trans rfl) (fun q hq => rfl)), rfl, rfl, rfl⟩ dX10_placeOf_24 (Nat.le_of_ble_eq_true rfl) (Nat.le_of_ble_eq_true rfl)

set_option maxHeartbeats 4000000 in
set_option maxRecDepth 100000 in
theorem c_X10_placeOf_no (l : Launch) (D : va_G) (ay : Nat → ClassId) (ad : Nat → Nat) (vi : Nat → Int32) (ga : Nat → Nat → Int32) (Z : DS) (x : Int32) (y : Int32) (hG : GI Z vi ga) (h : oob x 0 1 ∨ oob y 0 99) : jM l yX10_placeOf (jws yX10_placeOf cX10_placeOf 3 (some .int)) 3 65 0 0 D ay [.ref (ad 0), .int x, .int y] (mW ay ad vi ga) (fun v w => ∃ (vi' : Nat → Int32) (ga' : Nat → Nat → Int32), GI Z vi' ga' ∧ vi' 0 = 1 ∧ v = some (.int 0) ∧ w = mW ay ad vi' ga') := by
  refine jM_of l (by decide) [(0, .ref (ad 0)), (1, .int x), (2, .int y)] rfl rfl (fun p9 e9 s9 m9 a9 b9 me9 c9 A9 F => ?_)
  refine j_aload_n F 0 dX10_placeOf_0 rfl ?_
  refine j_iconst F (v := 0) dX10_placeOf_1 (by decide) ?_
  refine j_putf F fX10_1 0 (mW ay ad (ups vi 0 0) ga) rfl rfl rfl rfl rfl (Nat.le_of_ble_eq_true rfl) dX10_placeOf_2 ?_
  refine j_aload_n F 0 dX10_placeOf_5 rfl ?_
  refine j_iload_n F 1 dX10_placeOf_6 rfl ?_
  refine j_iload_n F 2 dX10_placeOf_7 rfl ?_
  refine j_scallV F kX10_103 (As := [.int x, .int y]) (rest := []) (c_X10_noKey_no l D ay ad (ups vi 0 0) ga x y rfl (show oob x 0 1 ∨ oob y 0 99 from h)) 0 0 20 rfl rfl rfl rfl rfl rfl ⟨Nat.le_of_ble_eq_true rfl, Nat.le_of_ble_eq_true rfl⟩ dX10_placeOf_8 (fun v w hw => ?_)
  obtain ⟨rfl, rfl⟩ := hw
  refine ⟨rfl, (mW ay ad (ups vi 0 1) ga), (slp_all _ _ rfl).trans rfl, ?_⟩
  refine j_top 1 rfl ?_
  refine j_if_eq F 18 dX10_placeOf_11 (by decide) (fun c_11 => absurd c_11 (by decide)) (fun c_11 => ?_)
  refine j_iconst F (v := 0) dX10_placeOf_14 (by decide) ?_
  refine j_goto F 24 dX10_placeOf_15 (by decide) ?_
  exact j_iret F ⟨ups vi 0 1, ga, (GI_id hG (fun q hq => (ups_ne (by omega)).trans rfl) (fun q hq => rfl)), rfl, rfl, rfl⟩ dX10_placeOf_24 (Nat.le_of_ble_eq_true rfl) (Nat.le_of_ble_eq_true rfl)

set_option maxHeartbeats 4000000 in
set_option maxRecDepth 100000 in
theorem c_X10_keyAt_ok (l : Launch) (D : va_G) (ay : Nat → ClassId) (ad : Nat → Nat) (vi : Nat → Int32) (ga : Nat → Nat → Int32) (Z : DS) (m : Nat) (j : Nat) (hG : GI Z vi ga) (hm : m < 2) (hj : j < Z.1 m) : jM l yX10_keyAt (jws yX10_keyAt cX10_keyAt 3 (some .int)) 3 65 0 0 D ay [.ref (ad 0), .int (nI m), .int (nI j)] (mW ay ad vi ga) (fun v w => ∃ (vi' : Nat → Int32) (ga' : Nat → Nat → Int32), GI Z vi' ga' ∧ vi' 0 = 0 ∧ v = some (.int (Z.2.2 (2 * m) j)) ∧ w = mW ay ad vi' ga') := by
  refine jM_of l (by decide) [(0, .ref (ad 0)), (1, .int (nI m)), (2, .int (nI j))] rfl rfl (fun p9 e9 s9 m9 a9 b9 me9 c9 A9 F => ?_)
  have hgm := hG.1 m hm
  have hI := hgm.1
  have hn := hI.n
  have hv := hgm.2.2.1
  have hB := hG.2.1
  have hmb : m = 0 ∨ Z.1 m ≤ Z.1 13 := by
    rcases (show m = 0 ∨ m = 1 by omega) with h | h
    · exact Or.inl h
    · subst h; exact Or.inr hgm.2.1
  refine j_aload_n F 0 dX10_keyAt_0 rfl ?_
  refine j_iconst F (v := 0) dX10_keyAt_1 (by decide) ?_
  refine j_putf F fX10_1 0 (mW ay ad (ups vi 0 0) ga) rfl rfl rfl rfl rfl (Nat.le_of_ble_eq_true rfl) dX10_keyAt_2 ?_
  refine j_aload_n F 0 dX10_keyAt_5 rfl ?_
  refine j_iload_n F 1 dX10_keyAt_6 rfl ?_
  refine j_iload_n F 2 dX10_keyAt_7 rfl ?_
  refine j_scallV F kX10_124 (As := [.int (nI m), .int (nI j)]) (rest := []) (c_X10_noPlace_ok l D ay ad (ups vi 0 0) ga m (Z.1 m) j rfl (show m < 2 from hm) (show ga 2 m = nI (Z.1 m) from hv.1) (show (Z.1 m) < 2 ^ 31 from by omega) (show j < (Z.1 m) from hj)) 0 0 20 rfl rfl rfl rfl rfl rfl ⟨Nat.le_of_ble_eq_true rfl, Nat.le_of_ble_eq_true rfl⟩ dX10_keyAt_8 (fun v w hw => ?_)
  obtain ⟨rfl, rfl⟩ := hw
  refine ⟨rfl, (mW ay ad (ups vi 0 0) ga), (slp_all _ _ rfl).trans rfl, ?_⟩
  refine j_top 0 rfl ?_
  refine j_if_eq F 18 dX10_keyAt_11 (by decide) (fun c_11 => ?_) (fun c_11 => absurd (by decide) c_11)
  refine j_aload_n F 0 dX10_keyAt_18 rfl ?_
  refine j_getf F fX10_13 0 (v := .ref (ad 1)) rfl rfl dX10_keyAt_19 ?_
  refine j_bipush F (v := 101) dX10_keyAt_22 (by decide) ?_
  refine j_iload_n F 1 dX10_keyAt_24 rfl ?_
  refine j_imul F dX10_keyAt_25 ?_
  refine j_top (nI (101 * m)) (pk_mul 101 _) ?_
  refine j_iload_n F 2 dX10_keyAt_26 rfl ?_
  refine j_iadd F dX10_keyAt_27 ?_
  refine j_top (nI (101 * m + j)) (nI_add _ _) ?_
  refine j_iald F 1 (101 * m + j) (f := ga 0) rfl rfl (by omega) (Nat.le_of_ble_eq_true rfl) dX10_keyAt_28 ?_
  refine j_top (Z.2.2 (2 * m) j) (hv.2.1 j hj) ?_
  exact j_iret F ⟨ups vi 0 0, ga, (GI_id hG (fun q hq => (ups_ne (by omega)).trans rfl) (fun q hq => rfl)), rfl, rfl, rfl⟩ dX10_keyAt_29 (Nat.le_of_ble_eq_true rfl) (Nat.le_of_ble_eq_true rfl)

set_option maxHeartbeats 4000000 in
set_option maxRecDepth 100000 in
theorem c_X10_keyAt_no1 (l : Launch) (D : va_G) (ay : Nat → ClassId) (ad : Nat → Nat) (vi : Nat → Int32) (ga : Nat → Nat → Int32) (Z : DS) (x : Int32) (y : Int32) (hG : GI Z vi ga) (h : oob x 0 1) : jM l yX10_keyAt (jws yX10_keyAt cX10_keyAt 3 (some .int)) 3 65 0 0 D ay [.ref (ad 0), .int x, .int y] (mW ay ad vi ga) (fun v w => ∃ (vi' : Nat → Int32) (ga' : Nat → Nat → Int32), GI Z vi' ga' ∧ vi' 0 = 1 ∧ v = some (.int 0) ∧ w = mW ay ad vi' ga') := by
  refine jM_of l (by decide) [(0, .ref (ad 0)), (1, .int x), (2, .int y)] rfl rfl (fun p9 e9 s9 m9 a9 b9 me9 c9 A9 F => ?_)
  refine j_aload_n F 0 dX10_keyAt_0 rfl ?_
  refine j_iconst F (v := 0) dX10_keyAt_1 (by decide) ?_
  refine j_putf F fX10_1 0 (mW ay ad (ups vi 0 0) ga) rfl rfl rfl rfl rfl (Nat.le_of_ble_eq_true rfl) dX10_keyAt_2 ?_
  refine j_aload_n F 0 dX10_keyAt_5 rfl ?_
  refine j_iload_n F 1 dX10_keyAt_6 rfl ?_
  refine j_iload_n F 2 dX10_keyAt_7 rfl ?_
  refine j_scallV F kX10_124 (As := [.int x, .int y]) (rest := []) (c_X10_noPlace_no1 l D ay ad (ups vi 0 0) ga x y rfl (show oob x 0 1 from h)) 0 0 20 rfl rfl rfl rfl rfl rfl ⟨Nat.le_of_ble_eq_true rfl, Nat.le_of_ble_eq_true rfl⟩ dX10_keyAt_8 (fun v w hw => ?_)
  obtain ⟨rfl, rfl⟩ := hw
  refine ⟨rfl, (mW ay ad (ups vi 0 1) ga), (slp_all _ _ rfl).trans rfl, ?_⟩
  refine j_top 1 rfl ?_
  refine j_if_eq F 18 dX10_keyAt_11 (by decide) (fun c_11 => absurd c_11 (by decide)) (fun c_11 => ?_)
  refine j_iconst F (v := 0) dX10_keyAt_14 (by decide) ?_
  refine j_goto F 29 dX10_keyAt_15 (by decide) ?_
  exact j_iret F ⟨ups vi 0 1, ga, (GI_id hG (fun q hq => (ups_ne (by omega)).trans rfl) (fun q hq => rfl)), rfl, rfl, rfl⟩ dX10_keyAt_29 (Nat.le_of_ble_eq_true rfl) (Nat.le_of_ble_eq_true rfl)

set_option maxHeartbeats 4000000 in
set_option maxRecDepth 100000 in
theorem c_X10_keyAt_no2 (l : Launch) (D : va_G) (ay : Nat → ClassId) (ad : Nat → Nat) (vi : Nat → Int32) (ga : Nat → Nat → Int32) (Z : DS) (m : Nat) (y : Int32) (hG : GI Z vi ga) (hm : m < 2) (h : oop y (Z.1 m)) : jM l yX10_keyAt (jws yX10_keyAt cX10_keyAt 3 (some .int)) 3 65 0 0 D ay [.ref (ad 0), .int (nI m), .int y] (mW ay ad vi ga) (fun v w => ∃ (vi' : Nat → Int32) (ga' : Nat → Nat → Int32), GI Z vi' ga' ∧ vi' 0 = 2 ∧ v = some (.int 0) ∧ w = mW ay ad vi' ga') := by
  refine jM_of l (by decide) [(0, .ref (ad 0)), (1, .int (nI m)), (2, .int y)] rfl rfl (fun p9 e9 s9 m9 a9 b9 me9 c9 A9 F => ?_)
  have hgm := hG.1 m hm
  have hI := hgm.1
  have hn := hI.n
  have hv := hgm.2.2.1
  have hB := hG.2.1
  have hmb : m = 0 ∨ Z.1 m ≤ Z.1 13 := by
    rcases (show m = 0 ∨ m = 1 by omega) with h | h
    · exact Or.inl h
    · subst h; exact Or.inr hgm.2.1
  refine j_aload_n F 0 dX10_keyAt_0 rfl ?_
  refine j_iconst F (v := 0) dX10_keyAt_1 (by decide) ?_
  refine j_putf F fX10_1 0 (mW ay ad (ups vi 0 0) ga) rfl rfl rfl rfl rfl (Nat.le_of_ble_eq_true rfl) dX10_keyAt_2 ?_
  refine j_aload_n F 0 dX10_keyAt_5 rfl ?_
  refine j_iload_n F 1 dX10_keyAt_6 rfl ?_
  refine j_iload_n F 2 dX10_keyAt_7 rfl ?_
  refine j_scallV F kX10_124 (As := [.int (nI m), .int y]) (rest := []) (c_X10_noPlace_no2 l D ay ad (ups vi 0 0) ga m (Z.1 m) y rfl (show m < 2 from hm) (show ga 2 m = nI (Z.1 m) from hv.1) (show (Z.1 m) < 2 ^ 31 from by omega) (show oop y (Z.1 m) from h)) 0 0 20 rfl rfl rfl rfl rfl rfl ⟨Nat.le_of_ble_eq_true rfl, Nat.le_of_ble_eq_true rfl⟩ dX10_keyAt_8 (fun v w hw => ?_)
  obtain ⟨rfl, rfl⟩ := hw
  refine ⟨rfl, (mW ay ad (ups vi 0 2) ga), (slp_all _ _ rfl).trans rfl, ?_⟩
  refine j_top 1 rfl ?_
  refine j_if_eq F 18 dX10_keyAt_11 (by decide) (fun c_11 => absurd c_11 (by decide)) (fun c_11 => ?_)
  refine j_iconst F (v := 0) dX10_keyAt_14 (by decide) ?_
  refine j_goto F 29 dX10_keyAt_15 (by decide) ?_
  exact j_iret F ⟨ups vi 0 2, ga, (GI_id hG (fun q hq => (ups_ne (by omega)).trans rfl) (fun q hq => rfl)), rfl, rfl, rfl⟩ dX10_keyAt_29 (Nat.le_of_ble_eq_true rfl) (Nat.le_of_ble_eq_true rfl)

set_option maxHeartbeats 4000000 in
set_option maxRecDepth 100000 in
theorem c_X10_valueAt_ok (l : Launch) (D : va_G) (ay : Nat → ClassId) (ad : Nat → Nat) (vi : Nat → Int32) (ga : Nat → Nat → Int32) (Z : DS) (m : Nat) (j : Nat) (hG : GI Z vi ga) (hm : m < 2) (hj : j < Z.1 m) : jM l yX10_valueAt (jws yX10_valueAt cX10_valueAt 3 (some .int)) 3 65 0 0 D ay [.ref (ad 0), .int (nI m), .int (nI j)] (mW ay ad vi ga) (fun v w => ∃ (vi' : Nat → Int32) (ga' : Nat → Nat → Int32), GI Z vi' ga' ∧ vi' 0 = 0 ∧ v = some (.int (Z.2.2 (2 * m + 1) (kN (Z.2.2 (2 * m)) j))) ∧ w = mW ay ad vi' ga') := by
  refine jM_of l (by decide) [(0, .ref (ad 0)), (1, .int (nI m)), (2, .int (nI j))] rfl rfl (fun p9 e9 s9 m9 a9 b9 me9 c9 A9 F => ?_)
  have hgm := hG.1 m hm
  have hI := hgm.1
  have hn := hI.n
  have hv := hgm.2.2.1
  have hB := hG.2.1
  have hmb : m = 0 ∨ Z.1 m ≤ Z.1 13 := by
    rcases (show m = 0 ∨ m = 1 by omega) with h | h
    · exact Or.inl h
    · subst h; exact Or.inr hgm.2.1
  refine j_aload_n F 0 dX10_valueAt_0 rfl ?_
  refine j_iconst F (v := 0) dX10_valueAt_1 (by decide) ?_
  refine j_putf F fX10_1 0 (mW ay ad (ups vi 0 0) ga) rfl rfl rfl rfl rfl (Nat.le_of_ble_eq_true rfl) dX10_valueAt_2 ?_
  refine j_aload_n F 0 dX10_valueAt_5 rfl ?_
  refine j_iload_n F 1 dX10_valueAt_6 rfl ?_
  refine j_iload_n F 2 dX10_valueAt_7 rfl ?_
  refine j_scallV F kX10_124 (As := [.int (nI m), .int (nI j)]) (rest := []) (c_X10_noPlace_ok l D ay ad (ups vi 0 0) ga m (Z.1 m) j rfl (show m < 2 from hm) (show ga 2 m = nI (Z.1 m) from hv.1) (show (Z.1 m) < 2 ^ 31 from by omega) (show j < (Z.1 m) from hj)) 0 0 20 rfl rfl rfl rfl rfl rfl ⟨Nat.le_of_ble_eq_true rfl, Nat.le_of_ble_eq_true rfl⟩ dX10_valueAt_8 (fun v w hw => ?_)
  obtain ⟨rfl, rfl⟩ := hw
  refine ⟨rfl, (mW ay ad (ups vi 0 0) ga), (slp_all _ _ rfl).trans rfl, ?_⟩
  refine j_top 0 rfl ?_
  refine j_if_eq F 18 dX10_valueAt_11 (by decide) (fun c_11 => ?_) (fun c_11 => absurd (by decide) c_11)
  refine j_aload_n F 0 dX10_valueAt_18 rfl ?_
  refine j_getf F fX10_17 0 (v := .ref (ad 2)) rfl rfl dX10_valueAt_19 ?_
  refine j_bipush F (v := 101) dX10_valueAt_22 (by decide) ?_
  refine j_iload_n F 1 dX10_valueAt_24 rfl ?_
  refine j_imul F dX10_valueAt_25 ?_
  refine j_top (nI (101 * m)) (pk_mul 101 _) ?_
  refine j_iload_n F 2 dX10_valueAt_26 rfl ?_
  refine j_iadd F dX10_valueAt_27 ?_
  refine j_top (nI (101 * m + j)) (nI_add _ _) ?_
  refine j_iald F 2 (101 * m + j) (f := ga 1) rfl rfl (by omega) (Nat.le_of_ble_eq_true rfl) dX10_valueAt_28 ?_
  refine j_top (Z.2.2 (2 * m + 1) (kN (Z.2.2 (2 * m)) j)) (hv.2.2 j hj) ?_
  exact j_iret F ⟨ups vi 0 0, ga, (GI_id hG (fun q hq => (ups_ne (by omega)).trans rfl) (fun q hq => rfl)), rfl, rfl, rfl⟩ dX10_valueAt_29 (Nat.le_of_ble_eq_true rfl) (Nat.le_of_ble_eq_true rfl)

set_option maxHeartbeats 4000000 in
set_option maxRecDepth 100000 in
theorem c_X10_valueAt_no1 (l : Launch) (D : va_G) (ay : Nat → ClassId) (ad : Nat → Nat) (vi : Nat → Int32) (ga : Nat → Nat → Int32) (Z : DS) (x : Int32) (y : Int32) (hG : GI Z vi ga) (h : oob x 0 1) : jM l yX10_valueAt (jws yX10_valueAt cX10_valueAt 3 (some .int)) 3 65 0 0 D ay [.ref (ad 0), .int x, .int y] (mW ay ad vi ga) (fun v w => ∃ (vi' : Nat → Int32) (ga' : Nat → Nat → Int32), GI Z vi' ga' ∧ vi' 0 = 1 ∧ v = some (.int 0) ∧ w = mW ay ad vi' ga') := by
  refine jM_of l (by decide) [(0, .ref (ad 0)), (1, .int x), (2, .int y)] rfl rfl (fun p9 e9 s9 m9 a9 b9 me9 c9 A9 F => ?_)
  refine j_aload_n F 0 dX10_valueAt_0 rfl ?_
  refine j_iconst F (v := 0) dX10_valueAt_1 (by decide) ?_
  refine j_putf F fX10_1 0 (mW ay ad (ups vi 0 0) ga) rfl rfl rfl rfl rfl (Nat.le_of_ble_eq_true rfl) dX10_valueAt_2 ?_
  refine j_aload_n F 0 dX10_valueAt_5 rfl ?_
  refine j_iload_n F 1 dX10_valueAt_6 rfl ?_
  refine j_iload_n F 2 dX10_valueAt_7 rfl ?_
  refine j_scallV F kX10_124 (As := [.int x, .int y]) (rest := []) (c_X10_noPlace_no1 l D ay ad (ups vi 0 0) ga x y rfl (show oob x 0 1 from h)) 0 0 20 rfl rfl rfl rfl rfl rfl ⟨Nat.le_of_ble_eq_true rfl, Nat.le_of_ble_eq_true rfl⟩ dX10_valueAt_8 (fun v w hw => ?_)
  obtain ⟨rfl, rfl⟩ := hw
  refine ⟨rfl, (mW ay ad (ups vi 0 1) ga), (slp_all _ _ rfl).trans rfl, ?_⟩
  refine j_top 1 rfl ?_
  refine j_if_eq F 18 dX10_valueAt_11 (by decide) (fun c_11 => absurd c_11 (by decide)) (fun c_11 => ?_)
  refine j_iconst F (v := 0) dX10_valueAt_14 (by decide) ?_
  refine j_goto F 29 dX10_valueAt_15 (by decide) ?_
  exact j_iret F ⟨ups vi 0 1, ga, (GI_id hG (fun q hq => (ups_ne (by omega)).trans rfl) (fun q hq => rfl)), rfl, rfl, rfl⟩ dX10_valueAt_29 (Nat.le_of_ble_eq_true rfl) (Nat.le_of_ble_eq_true rfl)

set_option maxHeartbeats 4000000 in
set_option maxRecDepth 100000 in
theorem c_X10_valueAt_no2 (l : Launch) (D : va_G) (ay : Nat → ClassId) (ad : Nat → Nat) (vi : Nat → Int32) (ga : Nat → Nat → Int32) (Z : DS) (m : Nat) (y : Int32) (hG : GI Z vi ga) (hm : m < 2) (h : oop y (Z.1 m)) : jM l yX10_valueAt (jws yX10_valueAt cX10_valueAt 3 (some .int)) 3 65 0 0 D ay [.ref (ad 0), .int (nI m), .int y] (mW ay ad vi ga) (fun v w => ∃ (vi' : Nat → Int32) (ga' : Nat → Nat → Int32), GI Z vi' ga' ∧ vi' 0 = 2 ∧ v = some (.int 0) ∧ w = mW ay ad vi' ga') := by
  refine jM_of l (by decide) [(0, .ref (ad 0)), (1, .int (nI m)), (2, .int y)] rfl rfl (fun p9 e9 s9 m9 a9 b9 me9 c9 A9 F => ?_)
  have hgm := hG.1 m hm
  have hI := hgm.1
  have hn := hI.n
  have hv := hgm.2.2.1
  have hB := hG.2.1
  have hmb : m = 0 ∨ Z.1 m ≤ Z.1 13 := by
    rcases (show m = 0 ∨ m = 1 by omega) with h | h
    · exact Or.inl h
    · subst h; exact Or.inr hgm.2.1
  refine j_aload_n F 0 dX10_valueAt_0 rfl ?_
  refine j_iconst F (v := 0) dX10_valueAt_1 (by decide) ?_
  refine j_putf F fX10_1 0 (mW ay ad (ups vi 0 0) ga) rfl rfl rfl rfl rfl (Nat.le_of_ble_eq_true rfl) dX10_valueAt_2 ?_
  refine j_aload_n F 0 dX10_valueAt_5 rfl ?_
  refine j_iload_n F 1 dX10_valueAt_6 rfl ?_
  refine j_iload_n F 2 dX10_valueAt_7 rfl ?_
  refine j_scallV F kX10_124 (As := [.int (nI m), .int y]) (rest := []) (c_X10_noPlace_no2 l D ay ad (ups vi 0 0) ga m (Z.1 m) y rfl (show m < 2 from hm) (show ga 2 m = nI (Z.1 m) from hv.1) (show (Z.1 m) < 2 ^ 31 from by omega) (show oop y (Z.1 m) from h)) 0 0 20 rfl rfl rfl rfl rfl rfl ⟨Nat.le_of_ble_eq_true rfl, Nat.le_of_ble_eq_true rfl⟩ dX10_valueAt_8 (fun v w hw => ?_)
  obtain ⟨rfl, rfl⟩ := hw
  refine ⟨rfl, (mW ay ad (ups vi 0 2) ga), (slp_all _ _ rfl).trans rfl, ?_⟩
  refine j_top 1 rfl ?_
  refine j_if_eq F 18 dX10_valueAt_11 (by decide) (fun c_11 => absurd c_11 (by decide)) (fun c_11 => ?_)
  refine j_iconst F (v := 0) dX10_valueAt_14 (by decide) ?_
  refine j_goto F 29 dX10_valueAt_15 (by decide) ?_
  exact j_iret F ⟨ups vi 0 2, ga, (GI_id hG (fun q hq => (ups_ne (by omega)).trans rfl) (fun q hq => rfl)), rfl, rfl, rfl⟩ dX10_valueAt_29 (Nat.le_of_ble_eq_true rfl) (Nat.le_of_ble_eq_true rfl)

set_option maxHeartbeats 4000000 in
set_option maxRecDepth 100000 in
theorem c_X10_putOut_ok (l : Launch) (D : va_G) (ay : Nat → ClassId) (ad : Nat → Nat) (vi : Nat → Int32) (ga : Nat → Nat → Int32) (Z : DS) (hG : GI Z vi ga) : jM l yX10_putOut (jws yX10_putOut cX10_putOut 1 (some .int)) 0 0 0 0 D ay [.ref (ad 0)] (mW ay ad vi ga) (fun v w => ∃ (vi' : Nat → Int32) (ga' : Nat → Nat → Int32), GI Z vi' ga' ∧ vi' 0 = 0 ∧ v = some (.int (Z.2.1 9)) ∧ w = mW ay ad vi' ga') := by
  refine jM_of l (by decide) [(0, .ref (ad 0))] rfl rfl (fun p9 e9 s9 m9 a9 b9 me9 c9 A9 F => ?_)
  refine j_aload_n F 0 dX10_putOut_0 rfl ?_
  refine j_iconst F (v := 0) dX10_putOut_1 (by decide) ?_
  refine j_putf F fX10_1 0 (mW ay ad (ups vi 0 0) ga) rfl rfl rfl rfl rfl (Nat.le_of_ble_eq_true rfl) dX10_putOut_2 ?_
  refine j_aload_n F 0 dX10_putOut_5 rfl ?_
  refine j_getf F fX10_96 0 (v := .int (vi 5)) rfl rfl dX10_putOut_6 ?_
  refine j_top (Z.2.1 9) hG.2.1.2.2.2.1 ?_
  exact j_iret F ⟨ups vi 0 0, ga, (GI_id hG (fun q hq => (ups_ne (by omega)).trans rfl) (fun q hq => rfl)), rfl, rfl, rfl⟩ dX10_putOut_9 (Nat.le_of_ble_eq_true rfl) (Nat.le_of_ble_eq_true rfl)

set_option maxHeartbeats 4000000 in
set_option maxRecDepth 100000 in
theorem c_X10_lastPutOut_ok (l : Launch) (D : va_G) (ay : Nat → ClassId) (ad : Nat → Nat) (vi : Nat → Int32) (ga : Nat → Nat → Int32) (Z : DS) (hG : GI Z vi ga) : jM l yX10_lastPutOut (jws yX10_lastPutOut cX10_lastPutOut 1 (some .int)) 0 0 0 0 D ay [.ref (ad 0)] (mW ay ad vi ga) (fun v w => ∃ (vi' : Nat → Int32) (ga' : Nat → Nat → Int32), GI Z vi' ga' ∧ vi' 0 = 0 ∧ v = some (.int (Z.2.1 10)) ∧ w = mW ay ad vi' ga') := by
  refine jM_of l (by decide) [(0, .ref (ad 0))] rfl rfl (fun p9 e9 s9 m9 a9 b9 me9 c9 A9 F => ?_)
  refine j_aload_n F 0 dX10_lastPutOut_0 rfl ?_
  refine j_iconst F (v := 0) dX10_lastPutOut_1 (by decide) ?_
  refine j_putf F fX10_1 0 (mW ay ad (ups vi 0 0) ga) rfl rfl rfl rfl rfl (Nat.le_of_ble_eq_true rfl) dX10_lastPutOut_2 ?_
  refine j_aload_n F 0 dX10_lastPutOut_5 rfl ?_
  refine j_getf F fX10_26 0 (v := .int (vi 6)) rfl rfl dX10_lastPutOut_6 ?_
  refine j_top (Z.2.1 10) hG.2.1.2.2.2.2 ?_
  exact j_iret F ⟨ups vi 0 0, ga, (GI_id hG (fun q hq => (ups_ne (by omega)).trans rfl) (fun q hq => rfl)), rfl, rfl, rfl⟩ dX10_lastPutOut_9 (Nat.le_of_ble_eq_true rfl) (Nat.le_of_ble_eq_true rfl)

