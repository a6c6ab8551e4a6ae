set_option maxHeartbeats 4000000 in
set_option maxRecDepth 100000 in
theorem c_X10_asks (l : Launch) (D : va_G) (ay : Nat → ClassId) (ad : Nat → Nat) (vi : Nat → Int32) (ga : Nat → Nat → Int32) (Z : DS) (y : Nat) (hG : GI Z vi ga) (hy : y < 100) (hc : Z.1 14 < 1000) : jM l yX10_asks (jws yX10_asks cX10_asks 5 (some .int)) 1 23 0 0 D ay [.ref (ad 0), .int (nI y)] (mW ay ad vi ga) (fun v w => ∃ (vi' : Nat → Int32) (ga' : Nat → Nat → Int32), GI (askS Z (nI y)) vi' ga' ∧ vi' 0 = vi 0 ∧ (∀ q, 14 ≤ q ∧ q < 31 → vi' q = vi q) ∧ (∀ q, 9 ≤ q ∧ q < 15 → ga' q = ga q) ∧ v = some (.int (mskC Z (nI y) 8)) ∧ w = mW ay ad vi' ga') := by
  refine jM_of l (by decide) [(0, .ref (ad 0)), (1, .int (nI y))] rfl rfl (fun p9 e9 s9 m9 a9 b9 me9 c9 A9 F => ?_)
  refine j_aload_n F 0 dX10_asks_0 rfl ?_
  refine j_getf F fX10_45 0 (v := .ref (ad 9)) rfl rfl dX10_asks_1 ?_
  refine j_aload_n F 0 dX10_asks_4 rfl ?_
  refine j_getf F fX10_127 0 (v := .int (vi 13)) rfl rfl dX10_asks_5 ?_
  refine j_top (nI (Z.1 14)) hG.2.2.2.2.1.1 ?_
  refine j_iload_n F 1 dX10_asks_8 rfl ?_
  refine j_iast F 9 (mW ay ad vi (ups ga 8 (upd (ga 8) (Z.1 14) (nI y)))) (Z.1 14) rfl rfl (by omega) (Nat.le_of_ble_eq_true rfl) rfl dX10_asks_9 ?_
  refine j_aload_n F 0 dX10_asks_10 rfl ?_
  refine j_dup F dX10_asks_11 rfl ?_
  refine j_getf F fX10_127 0 (v := .int (vi 13)) rfl rfl dX10_asks_12 ?_
  refine j_top (nI (Z.1 14)) hG.2.2.2.2.1.1 ?_
  refine j_iconst F (v := 1) dX10_asks_15 (by decide) ?_
  refine j_iadd F dX10_asks_16 ?_
  refine j_top (nI (Z.1 14 + 1)) (nI_add _ _) ?_
  refine j_putf F fX10_127 0 (mW ay ad (ups vi 13 (nI (Z.1 14 + 1))) (ups ga 8 (upd (ga 8) (Z.1 14) (nI y)))) rfl rfl rfl rfl rfl (Nat.le_of_ble_eq_true rfl) dX10_asks_17 ?_
  refine j_iconst F (v := 0) dX10_asks_20 (by decide) ?_
  refine j_istore_n F 2 [(2, .int 0), (0, .ref (ad 0)), (1, .int (nI y))] dX10_asks_21 rfl (by decide) rfl ?_
  refine j_iconst F (v := 1) dX10_asks_22 (by decide) ?_
  refine j_istore_n F 3 [(3, .int 1), (2, .int 0), (0, .ref (ad 0)), (1, .int (nI y))] dX10_asks_23 rfl (by decide) rfl ?_
  refine j_loop (σ := Nat × (Nat → Nat → Int32)) (fun z => z.1 ≤ 8 ∧ (∀ q, q < 5 ∨ 7 < q → z.2 q = ups ga 8 (upd (ga 8) (Z.1 14) (nI y)) q) ∧ gC (askC Z (nI y) z.1) (z.2 5) (z.2 6) (z.2 7)) (fun z => 8 - z.1) (fun z => [(3, .int (nI (z.1 + 1))), (2, .int (mskC Z (nI y) z.1)), (0, .ref (ad 0)), (1, .int (nI y))]) (fun z => mW ay ad (ups vi 13 (nI (Z.1 14 + 1))) z.2) (0, ups ga 8 (upd (ga 8) (Z.1 14) (nI y))) ⟨Nat.zero_le _, fun _ _ => rfl, hG.2.2.2.1⟩ rfl rfl (fun z hz ih => ?_)
  obtain ⟨i, ga1⟩ := z
  obtain ⟨hi, hfr, hC⟩ := hz
  replace hi : i ≤ 8 := hi
  replace hfr : ∀ q, q < 5 ∨ 7 < q → ga1 q = ups ga 8 (upd (ga 8) (Z.1 14) (nI y)) q := hfr
  replace hC : gC (askC Z (nI y) i) (ga1 5) (ga1 6) (ga1 7) := hC
  refine j_nf (mW ay ad (ups vi 13 (nI (Z.1 14 + 1))) ga1) [(3, .int (nI (i + 1))), (2, .int (mskC Z (nI y) i)), (0, .ref (ad 0)), (1, .int (nI y))] rfl rfl ?_
  refine j_iload_n F 0 dX10_asks_24 rfl ?_
  refine j_bipush F (v := 8) dX10_asks_25 (by decide) ?_
  refine j_icmp_gt F 118 dX10_asks_27 (by decide) (fun c_27 => ?_) (fun c_27 => ?_)
  · skip
    have n_27 := (n_lt 8 (i + 1) rfl rfl (by omega) (by omega)).mp c_27
    refine j_iload_n F 1 dX10_asks_118 rfl ?_
    exact j_iret F ⟨ups vi 13 (nI (Z.1 14 + 1)), ga1, ask_G hG hy hc (fun q hq => ups_ne hq) rfl (fun q hq => (hfr q (by omega)).trans (ups_ne (by omega))) (hfr 8 (by omega)) (by rw [show (8 : Nat) = i by omega]; exact hC), rfl, fun q hq => ups_ne (by omega), fun q hq => (hfr q (by omega)).trans (ups_ne (by omega)), by rw [show (8 : Nat) = i by omega], rfl⟩ dX10_asks_119 (Nat.le_of_ble_eq_true rfl) (Nat.le_of_ble_eq_true rfl)
  · skip
    have n_27 := mt (n_lt 8 (i + 1) rfl rfl (by omega) (by omega)).mpr c_27
    have hi8 : i < 8 := by omega
    have hc1 := hC i hi8
    have hcw : cw (ga1 5) (ga1 6) i ((askC Z (nI y) i).1 (2 + i)) ((askC Z (nI y) i).2.2 (4 + i)) := ⟨hc1.2.1, hc1.2.2.2⟩
    have hcn := hc1.1
    refine j_aload_n F 2 dX10_asks_30 rfl ?_
    refine j_iload_n F 0 dX10_asks_31 rfl ?_
    refine j_iload_n F 3 dX10_asks_32 rfl ?_
    refine j_scallV F kX10_130 (As := [.int (nI (i + 1)), .int (nI y)]) (rest := []) (c_X10_cachePlace l D ay ad (ups vi 13 (nI (Z.1 14 + 1))) ga1 (i + 1) ((askC Z (nI y) i).1 (2 + i)) (nI y) (show 1 ≤ (i + 1) ∧ (i + 1) ≤ 8 from by omega) (show ga1 6 (i + 1) = nI ((askC Z (nI y) i).1 (2 + i)) from hcw.1) (show ((askC Z (nI y) i).1 (2 + i)) ≤ 9 from by omega)) 0 0 20 rfl rfl rfl rfl rfl rfl ⟨Nat.le_of_ble_eq_true rfl, Nat.le_of_ble_eq_true rfl⟩ dX10_asks_33 (fun v w hw => ?_)
    obtain ⟨rfl, rfl⟩ := hw
    refine ⟨rfl, (mW ay ad (ups vi 13 (nI (Z.1 14 + 1))) ga1), (slp_all _ _ rfl).trans rfl, ?_⟩
    refine j_top (fxI ((askC Z (nI y) i).2.2 (4 + i)) (nI y) ((askC Z (nI y) i).1 (2 + i))) (fxI_c hcw.2) ?_
    by_cases hf : fx ((askC Z (nI y) i).2.2 (4 + i)) (nI y) ((askC Z (nI y) i).1 (2 + i)) < (askC Z (nI y) i).1 (2 + i)
    · skip
      refine j_top (nI (fx ((askC Z (nI y) i).2.2 (4 + i)) (nI y) ((askC Z (nI y) i).1 (2 + i)))) (if_pos hf) ?_
      refine j_istore F 4 [(4, .int (nI (fx ((askC Z (nI y) i).2.2 (4 + i)) (nI y) ((askC Z (nI y) i).1 (2 + i))))), (3, .int (nI (i + 1))), (2, .int (mskC Z (nI y) i)), (0, .ref (ad 0)), (1, .int (nI y))] dX10_asks_36 (by decide) rfl ?_
      refine j_iload F 0 dX10_asks_38 rfl ?_
      refine j_iconst F (v := (-1)) dX10_asks_40 (by decide) ?_
      refine j_icmp_eq F 69 dX10_asks_41 (by decide) (fun c_41 => absurd c_41 (nI_m1 (by omega))) (fun c_41 => ?_)
      refine j_aload_n F 3 dX10_asks_44 rfl ?_
      refine j_getf F fX10_42 0 (v := .ref (ad 8)) rfl rfl dX10_asks_45 ?_
      refine j_iload_n F 1 dX10_asks_48 rfl ?_
      refine j_dup2 F dX10_asks_49 rfl rfl ?_
      refine j_iald F 8 (i + 1) (f := ga1 7) rfl rfl (by omega) (Nat.le_of_ble_eq_true rfl) dX10_asks_50 ?_
      refine j_top ((askC Z (nI y) i).2.1 (11 + i)) hc1.2.2.1 ?_
      refine j_iconst F (v := 1) dX10_asks_51 (by decide) ?_
      refine j_iadd F dX10_asks_52 ?_
      refine j_iast F 8 (mW ay ad (ups vi 13 (nI (Z.1 14 + 1))) (ups ga1 7 (upd (ga1 7) (i + 1) ((askC Z (nI y) i).2.1 (11 + i) + 1)))) (i + 1) rfl rfl (by omega) (Nat.le_of_ble_eq_true rfl) rfl dX10_asks_53 ?_
      refine j_iload_n F 2 dX10_asks_54 rfl ?_
      refine j_iconst F (v := 1) dX10_asks_55 (by decide) ?_
      refine j_iload_n F 1 dX10_asks_56 rfl ?_
      refine j_iconst F (v := 1) dX10_asks_57 (by decide) ?_
      refine j_isub F dX10_asks_58 ?_
      refine j_top (nI i) (pk_sub (a := i + 1) (b := 1) (by omega)) ?_
      refine j_ishl F dX10_asks_59 ?_
      refine j_ior F dX10_asks_60 ?_
      refine j_istore_n F 2 [(2, .int (mskC Z (nI y) i ||| (1 <<< (nI i &&& 31)))), (4, .int (nI (fx ((askC Z (nI y) i).2.2 (4 + i)) (nI y) ((askC Z (nI y) i).1 (2 + i))))), (3, .int (nI (i + 1))), (0, .ref (ad 0)), (1, .int (nI y))] dX10_asks_61 rfl (by decide) rfl ?_
      refine j_aload_n F 3 dX10_asks_62 rfl ?_
      refine j_iload_n F 2 dX10_asks_63 rfl ?_
      refine j_iload F 1 dX10_asks_64 rfl ?_
      refine j_scallV F kX10_133 (As := [.int (nI (i + 1)), .int (nI (fx ((askC Z (nI y) i).2.2 (4 + i)) (nI y) ((askC Z (nI y) i).1 (2 + i))))]) (rest := []) (c_X10_leaves l D ay ad (ups vi 13 (nI (Z.1 14 + 1))) (ups ga1 7 (upd (ga1 7) (i + 1) ((askC Z (nI y) i).2.1 (11 + i) + 1))) (i + 1) ((askC Z (nI y) i).1 (2 + i)) (fx ((askC Z (nI y) i).2.2 (4 + i)) (nI y) ((askC Z (nI y) i).1 (2 + i))) (show 1 ≤ (i + 1) ∧ (i + 1) ≤ 8 from by omega) (show ga1 6 (i + 1) = nI ((askC Z (nI y) i).1 (2 + i)) from hcw.1) (show ((askC Z (nI y) i).1 (2 + i)) ≤ 9 from by omega) (show (fx ((askC Z (nI y) i).2.2 (4 + i)) (nI y) ((askC Z (nI y) i).1 (2 + i))) < ((askC Z (nI y) i).1 (2 + i)) from hf)) 0 0 20 rfl rfl rfl rfl rfl rfl ⟨Nat.le_of_ble_eq_true rfl, Nat.le_of_ble_eq_true rfl⟩ dX10_asks_66 (fun v w hw => ?_)
      obtain ⟨rfl, rfl⟩ := hw
      refine ⟨rfl, (mW ay ad (ups vi 13 (nI (Z.1 14 + 1))) (ups (ups (ups ga1 5 (mrs (ga1 5) (9 * (i + 1)) (fx ((askC Z (nI y) i).2.2 (4 + i)) (nI y) ((askC Z (nI y) i).1 (2 + i))) ((askC Z (nI y) i).1 (2 + i)))) 6 (upd (ga1 6) (i + 1) (nI (((askC Z (nI y) i).1 (2 + i)) - 1)))) 7 (upd (ga1 7) (i + 1) ((askC Z (nI y) i).2.1 (11 + i) + 1)))), (slp_all _ _ rfl).trans rfl, ?_⟩
      refine j_aload_n F 3 dX10_asks_69 rfl ?_
      refine j_getf F fX10_36 0 (v := .ref (ad 6)) rfl rfl dX10_asks_70 ?_
      refine j_bipush F (v := 9) dX10_asks_73 (by decide) ?_
      refine j_iload_n F 2 dX10_asks_75 rfl ?_
      refine j_imul F dX10_asks_76 ?_
      refine j_top (nI (9 * (i + 1))) (pk_mul 9 _) ?_
      refine j_aload_n F 3 dX10_asks_77 rfl ?_
      refine j_getf F fX10_39 0 (v := .ref (ad 7)) rfl rfl dX10_asks_78 ?_
      refine j_iload_n F 2 dX10_asks_81 rfl ?_
      refine j_iald F 7 (i + 1) (f := upd (ga1 6) (i + 1) (nI (((askC Z (nI y) i).1 (2 + i)) - 1))) rfl rfl (by omega) (Nat.le_of_ble_eq_true rfl) dX10_asks_82 ?_
      refine j_top (nI ((askC Z (nI y) i).1 (2 + i) - 1)) upd_s ?_
      refine j_iadd F dX10_asks_83 ?_
      refine j_top (nI (9 * (i + 1) + ((askC Z (nI y) i).1 (2 + i) - 1))) (nI_add _ _) ?_
      refine j_iload_n F 4 dX10_asks_84 rfl ?_
      refine j_iast F 6 (mW ay ad (ups vi 13 (nI (Z.1 14 + 1))) (ups (ups (ups ga1 5 (upd (mrs (ga1 5) (9 * (i + 1)) (fx ((askC Z (nI y) i).2.2 (4 + i)) (nI y) ((askC Z (nI y) i).1 (2 + i))) ((askC Z (nI y) i).1 (2 + i))) (9 * (i + 1) + ((askC Z (nI y) i).1 (2 + i) - 1)) (nI y))) 6 (upd (ga1 6) (i + 1) (nI (((askC Z (nI y) i).1 (2 + i)) - 1)))) 7 (upd (ga1 7) (i + 1) ((askC Z (nI y) i).2.1 (11 + i) + 1)))) (9 * (i + 1) + ((askC Z (nI y) i).1 (2 + i) - 1)) rfl rfl (by omega) (Nat.le_of_ble_eq_true rfl) rfl dX10_asks_85 ?_
      refine j_aload_n F 3 dX10_asks_86 rfl ?_
      refine j_getf F fX10_39 0 (v := .ref (ad 7)) rfl rfl dX10_asks_87 ?_
      refine j_iload_n F 2 dX10_asks_90 rfl ?_
      refine j_dup2 F dX10_asks_91 rfl rfl ?_
      refine j_iald F 7 (i + 1) (f := upd (ga1 6) (i + 1) (nI (((askC Z (nI y) i).1 (2 + i)) - 1))) rfl rfl (by omega) (Nat.le_of_ble_eq_true rfl) dX10_asks_92 ?_
      refine j_top (nI ((askC Z (nI y) i).1 (2 + i) - 1)) upd_s ?_
      refine j_iconst F (v := 1) dX10_asks_93 (by decide) ?_
      refine j_iadd F dX10_asks_94 ?_
      refine j_top (nI ((askC Z (nI y) i).1 (2 + i) - 1 + 1)) (nI_add _ _) ?_
      refine j_iast F 7 (mW ay ad (ups vi 13 (nI (Z.1 14 + 1))) (ups (ups (ups ga1 5 (upd (mrs (ga1 5) (9 * (i + 1)) (fx ((askC Z (nI y) i).2.2 (4 + i)) (nI y) ((askC Z (nI y) i).1 (2 + i))) ((askC Z (nI y) i).1 (2 + i))) (9 * (i + 1) + ((askC Z (nI y) i).1 (2 + i) - 1)) (nI y))) 6 (upd (upd (ga1 6) (i + 1) (nI (((askC Z (nI y) i).1 (2 + i)) - 1))) (i + 1) (nI ((askC Z (nI y) i).1 (2 + i) - 1 + 1)))) 7 (upd (ga1 7) (i + 1) ((askC Z (nI y) i).2.1 (11 + i) + 1)))) (i + 1) rfl rfl (by omega) (Nat.le_of_ble_eq_true rfl) rfl dX10_asks_95 ?_
      refine j_aload_n F 3 dX10_asks_96 rfl ?_
      refine j_getf F fX10_39 0 (v := .ref (ad 7)) rfl rfl dX10_asks_97 ?_
      refine j_iload_n F 2 dX10_asks_100 rfl ?_
      refine j_iald F 7 (i + 1) (f := upd (upd (ga1 6) (i + 1) (nI (((askC Z (nI y) i).1 (2 + i)) - 1))) (i + 1) (nI ((askC Z (nI y) i).1 (2 + i) - 1 + 1))) rfl rfl (by omega) (Nat.le_of_ble_eq_true rfl) dX10_asks_101 ?_
      refine j_top (nI ((askC Z (nI y) i).1 (2 + i) - 1 + 1)) upd_s ?_
      refine j_iload_n F 2 dX10_asks_102 rfl ?_
      refine j_icmp_le F 112 dX10_asks_103 (by decide) (fun c_103 => ?_) (fun c_103 => absurd ((n_le ((askC Z (nI y) i).1 (2 + i) - 1 + 1) (i + 1) rfl rfl (by omega) (by omega)).mpr (by omega)) c_103)
      refine j_iinc F 2 (nI (i + 1 + 1)) [(3, .int (nI (i + 1 + 1))), (2, .int (mskC Z (nI y) i ||| (1 <<< (nI i &&& 31)))), (4, .int (nI (fx ((askC Z (nI y) i).2.2 (4 + i)) (nI y) ((askC Z (nI y) i).1 (2 + i))))), (0, .ref (ad 0)), (1, .int (nI y))] dX10_asks_112 rfl (nI_1 _) (by decide) rfl ?_
      refine j_goto F 24 dX10_asks_115 (by decide) ?_
      have hC2 : gC (askC Z (nI y) (i + 1)) ((ups (ups (ups ga1 5 (upd (mrs (ga1 5) (9 * (i + 1)) (fx ((askC Z (nI y) i).2.2 (4 + i)) (nI y) ((askC Z (nI y) i).1 (2 + i))) ((askC Z (nI y) i).1 (2 + i))) (9 * (i + 1) + ((askC Z (nI y) i).1 (2 + i) - 1)) (nI y))) 6 (upd (upd (ga1 6) (i + 1) (nI (((askC Z (nI y) i).1 (2 + i)) - 1))) (i + 1) (nI ((askC Z (nI y) i).1 (2 + i) - 1 + 1)))) 7 (upd (ga1 7) (i + 1) ((askC Z (nI y) i).2.1 (11 + i) + 1))) 5) ((ups (ups (ups ga1 5 (upd (mrs (ga1 5) (9 * (i + 1)) (fx ((askC Z (nI y) i).2.2 (4 + i)) (nI y) ((askC Z (nI y) i).1 (2 + i))) ((askC Z (nI y) i).1 (2 + i))) (9 * (i + 1) + ((askC Z (nI y) i).1 (2 + i) - 1)) (nI y))) 6 (upd (upd (ga1 6) (i + 1) (nI (((askC Z (nI y) i).1 (2 + i)) - 1))) (i + 1) (nI ((askC Z (nI y) i).1 (2 + i) - 1 + 1)))) 7 (upd (ga1 7) (i + 1) ((askC Z (nI y) i).2.1 (11 + i) + 1))) 6) ((ups (ups (ups ga1 5 (upd (mrs (ga1 5) (9 * (i + 1)) (fx ((askC Z (nI y) i).2.2 (4 + i)) (nI y) ((askC Z (nI y) i).1 (2 + i))) ((askC Z (nI y) i).1 (2 + i))) (9 * (i + 1) + ((askC Z (nI y) i).1 (2 + i) - 1)) (nI y))) 6 (upd (upd (ga1 6) (i + 1) (nI (((askC Z (nI y) i).1 (2 + i)) - 1))) (i + 1) (nI ((askC Z (nI y) i).1 (2 + i) - 1 + 1)))) 7 (upd (ga1 7) (i + 1) ((askC Z (nI y) i).2.1 (11 + i) + 1))) 7) := ask1_C hC hi8 (fC_trans (fC_take (by omega)) (fC_come (by omega))) (by rw [if_pos hf]; rfl) (cw_1 hf hcn hcw)
      have hms : mskC Z (nI y) (i + 1) = (mskC Z (nI y) i ||| (1 <<< (nI i &&& 31))) := by
        show (if fx ((askC Z (nI y) i).2.2 (4 + i)) (nI y) ((askC Z (nI y) i).1 (2 + i)) < (askC Z (nI y) i).1 (2 + i) then _ else _) = _
        rw [if_pos hf]
      refine j_sub [0, 1, 3, 4] [(3, .int (nI (i + 1 + 1))), (2, .int ((mskC Z (nI y) i ||| (1 <<< (nI i &&& 31))))), (0, .ref (ad 0)), (1, .int (nI y))] rfl ?_
      rw [← hms]
      exact ih (i + 1, (ups (ups (ups ga1 5 (upd (mrs (ga1 5) (9 * (i + 1)) (fx ((askC Z (nI y) i).2.2 (4 + i)) (nI y) ((askC Z (nI y) i).1 (2 + i))) ((askC Z (nI y) i).1 (2 + i))) (9 * (i + 1) + ((askC Z (nI y) i).1 (2 + i) - 1)) (nI y))) 6 (upd (upd (ga1 6) (i + 1) (nI (((askC Z (nI y) i).1 (2 + i)) - 1))) (i + 1) (nI ((askC Z (nI y) i).1 (2 + i) - 1 + 1)))) 7 (upd (ga1 7) (i + 1) ((askC Z (nI y) i).2.1 (11 + i) + 1)))) ⟨by show i + 1 ≤ 8; omega, fun q hq => ((fun q hq => (ups_ne (by omega)).trans ((ups_ne (by omega)).trans ((ups_ne (by omega)).trans rfl))) q hq).trans (hfr q (by omega)), hC2⟩ (by show 8 - (i + 1) < 8 - i; omega)
    · skip
      refine j_top (-1) (if_neg hf) ?_
      refine j_istore F 4 [(4, .int (-1)), (3, .int (nI (i + 1))), (2, .int (mskC Z (nI y) i)), (0, .ref (ad 0)), (1, .int (nI y))] dX10_asks_36 (by decide) rfl ?_
      refine j_iload F 0 dX10_asks_38 rfl ?_
      refine j_iconst F (v := (-1)) dX10_asks_40 (by decide) ?_
      refine j_icmp_eq F 69 dX10_asks_41 (by decide) (fun c_41 => ?_) (fun c_41 => absurd (by decide) c_41)
      refine j_aload_n F 3 dX10_asks_69 rfl ?_
      refine j_getf F fX10_36 0 (v := .ref (ad 6)) rfl rfl dX10_asks_70 ?_
      refine j_bipush F (v := 9) dX10_asks_73 (by decide) ?_
      refine j_iload_n F 1 dX10_asks_75 rfl ?_
      refine j_imul F dX10_asks_76 ?_
      refine j_top (nI (9 * (i + 1))) (pk_mul 9 _) ?_
      refine j_aload_n F 3 dX10_asks_77 rfl ?_
      refine j_getf F fX10_39 0 (v := .ref (ad 7)) rfl rfl dX10_asks_78 ?_
      refine j_iload_n F 1 dX10_asks_81 rfl ?_
      refine j_iald F 7 (i + 1) (f := ga1 6) rfl rfl (by omega) (Nat.le_of_ble_eq_true rfl) dX10_asks_82 ?_
      refine j_top (nI ((askC Z (nI y) i).1 (2 + i))) hcw.1 ?_
      refine j_iadd F dX10_asks_83 ?_
      refine j_top (nI (9 * (i + 1) + ((askC Z (nI y) i).1 (2 + i)))) (nI_add _ _) ?_
      refine j_iload_n F 4 dX10_asks_84 rfl ?_
      refine j_iast F 6 (mW ay ad (ups vi 13 (nI (Z.1 14 + 1))) (ups ga1 5 (upd (ga1 5) (9 * (i + 1) + ((askC Z (nI y) i).1 (2 + i))) (nI y)))) (9 * (i + 1) + ((askC Z (nI y) i).1 (2 + i))) rfl rfl (by omega) (Nat.le_of_ble_eq_true rfl) rfl dX10_asks_85 ?_
      refine j_aload_n F 3 dX10_asks_86 rfl ?_
      refine j_getf F fX10_39 0 (v := .ref (ad 7)) rfl rfl dX10_asks_87 ?_
      refine j_iload_n F 1 dX10_asks_90 rfl ?_
      refine j_dup2 F dX10_asks_91 rfl rfl ?_
      refine j_iald F 7 (i + 1) (f := ga1 6) rfl rfl (by omega) (Nat.le_of_ble_eq_true rfl) dX10_asks_92 ?_
      refine j_top (nI ((askC Z (nI y) i).1 (2 + i))) hcw.1 ?_
      refine j_iconst F (v := 1) dX10_asks_93 (by decide) ?_
      refine j_iadd F dX10_asks_94 ?_
      refine j_top (nI ((askC Z (nI y) i).1 (2 + i) + 1)) (nI_add _ _) ?_
      refine j_iast F 7 (mW ay ad (ups vi 13 (nI (Z.1 14 + 1))) (ups (ups ga1 5 (upd (ga1 5) (9 * (i + 1) + ((askC Z (nI y) i).1 (2 + i))) (nI y))) 6 (upd (ga1 6) (i + 1) (nI ((askC Z (nI y) i).1 (2 + i) + 1))))) (i + 1) rfl rfl (by omega) (Nat.le_of_ble_eq_true rfl) rfl dX10_asks_95 ?_
      refine j_aload_n F 3 dX10_asks_96 rfl ?_
      refine j_getf F fX10_39 0 (v := .ref (ad 7)) rfl rfl dX10_asks_97 ?_
      refine j_iload_n F 1 dX10_asks_100 rfl ?_
      refine j_iald F 7 (i + 1) (f := upd (ga1 6) (i + 1) (nI ((askC Z (nI y) i).1 (2 + i) + 1))) rfl rfl (by omega) (Nat.le_of_ble_eq_true rfl) dX10_asks_101 ?_
      refine j_top (nI ((askC Z (nI y) i).1 (2 + i) + 1)) upd_s ?_
      refine j_iload_n F 1 dX10_asks_102 rfl ?_
      refine j_icmp_le F 112 dX10_asks_103 (by decide) (fun c_103 => ?_) (fun c_103 => ?_)
      · skip
        have n_103 := (n_le ((askC Z (nI y) i).1 (2 + i) + 1) (i + 1) rfl rfl (by omega) (by omega)).mp c_103
        refine j_iinc F 1 (nI (i + 1 + 1)) [(3, .int (nI (i + 1 + 1))), (4, .int (-1)), (2, .int (mskC Z (nI y) i)), (0, .ref (ad 0)), (1, .int (nI y))] dX10_asks_112 rfl (nI_1 _) (by decide) rfl ?_
        refine j_goto F 24 dX10_asks_115 (by decide) ?_
        have hC2 : gC (askC Z (nI y) (i + 1)) ((ups (ups ga1 5 (upd (ga1 5) (9 * (i + 1) + ((askC Z (nI y) i).1 (2 + i))) (nI y))) 6 (upd (ga1 6) (i + 1) (nI ((askC Z (nI y) i).1 (2 + i) + 1)))) 5) ((ups (ups ga1 5 (upd (ga1 5) (9 * (i + 1) + ((askC Z (nI y) i).1 (2 + i))) (nI y))) 6 (upd (ga1 6) (i + 1) (nI ((askC Z (nI y) i).1 (2 + i) + 1)))) 6) ((ups (ups ga1 5 (upd (ga1 5) (9 * (i + 1) + ((askC Z (nI y) i).1 (2 + i))) (nI y))) 6 (upd (ga1 6) (i + 1) (nI ((askC Z (nI y) i).1 (2 + i) + 1)))) 7) := ask1_C hC hi8 (fC_come (by omega)) (by rw [if_neg hf]; rfl) (cw_2 hf (by omega) hcw)
        have hms : mskC Z (nI y) (i + 1) = mskC Z (nI y) i := by
          show (if fx ((askC Z (nI y) i).2.2 (4 + i)) (nI y) ((askC Z (nI y) i).1 (2 + i)) < (askC Z (nI y) i).1 (2 + i) then _ else _) = _
          rw [if_neg hf]
        refine j_sub [0, 2, 3, 4] [(3, .int (nI (i + 1 + 1))), (2, .int (mskC Z (nI y) i)), (0, .ref (ad 0)), (1, .int (nI y))] rfl ?_
        rw [← hms]
        exact ih (i + 1, (ups (ups ga1 5 (upd (ga1 5) (9 * (i + 1) + ((askC Z (nI y) i).1 (2 + i))) (nI y))) 6 (upd (ga1 6) (i + 1) (nI ((askC Z (nI y) i).1 (2 + i) + 1))))) ⟨by show i + 1 ≤ 8; omega, fun q hq => ((fun q hq => (ups_ne (by omega)).trans ((ups_ne (by omega)).trans rfl)) q hq).trans (hfr q (by omega)), hC2⟩ (by show 8 - (i + 1) < 8 - i; omega)
      · skip
        have n_103 := mt (n_le ((askC Z (nI y) i).1 (2 + i) + 1) (i + 1) rfl rfl (by omega) (by omega)).mpr c_103
        refine j_aload_n F 3 dX10_asks_106 rfl ?_
        refine j_iload_n F 1 dX10_asks_107 rfl ?_
        refine j_iconst F (v := 0) dX10_asks_108 (by decide) ?_
        refine j_scallV F kX10_133 (As := [.int (nI (i + 1)), .int 0]) (rest := []) (c_X10_leaves l D ay ad (ups vi 13 (nI (Z.1 14 + 1))) (ups (ups ga1 5 (upd (ga1 5) (9 * (i + 1) + ((askC Z (nI y) i).1 (2 + i))) (nI y))) 6 (upd (ga1 6) (i + 1) (nI ((askC Z (nI y) i).1 (2 + i) + 1)))) (i + 1) ((askC Z (nI y) i).1 (2 + i) + 1) 0 (show 1 ≤ (i + 1) ∧ (i + 1) ≤ 8 from by omega) (show (upd (ga1 6) (i + 1) (nI ((askC Z (nI y) i).1 (2 + i) + 1))) (i + 1) = nI ((askC Z (nI y) i).1 (2 + i) + 1) from upd_s) (show ((askC Z (nI y) i).1 (2 + i) + 1) ≤ 9 from by omega) (show 0 < ((askC Z (nI y) i).1 (2 + i) + 1) from by omega)) 0 0 20 rfl rfl rfl rfl rfl rfl ⟨Nat.le_of_ble_eq_true rfl, Nat.le_of_ble_eq_true rfl⟩ dX10_asks_109 (fun v w hw => ?_)
        obtain ⟨rfl, rfl⟩ := hw
        refine ⟨rfl, (mW ay ad (ups vi 13 (nI (Z.1 14 + 1))) (ups (ups ga1 5 (mrs ((upd (ga1 5) (9 * (i + 1) + ((askC Z (nI y) i).1 (2 + i))) (nI y))) (9 * (i + 1)) 0 ((askC Z (nI y) i).1 (2 + i) + 1))) 6 (upd ((upd (ga1 6) (i + 1) (nI ((askC Z (nI y) i).1 (2 + i) + 1)))) (i + 1) (nI (((askC Z (nI y) i).1 (2 + i) + 1) - 1))))), (slp_all _ _ rfl).trans rfl, ?_⟩
        refine j_iinc F 1 (nI (i + 1 + 1)) [(3, .int (nI (i + 1 + 1))), (4, .int (-1)), (2, .int (mskC Z (nI y) i)), (0, .ref (ad 0)), (1, .int (nI y))] dX10_asks_112 rfl (nI_1 _) (by decide) rfl ?_
        refine j_goto F 24 dX10_asks_115 (by decide) ?_
        have hC2 : gC (askC Z (nI y) (i + 1)) ((ups (ups ga1 5 (mrs ((upd (ga1 5) (9 * (i + 1) + ((askC Z (nI y) i).1 (2 + i))) (nI y))) (9 * (i + 1)) 0 ((askC Z (nI y) i).1 (2 + i) + 1))) 6 (upd ((upd (ga1 6) (i + 1) (nI ((askC Z (nI y) i).1 (2 + i) + 1)))) (i + 1) (nI (((askC Z (nI y) i).1 (2 + i) + 1) - 1)))) 5) ((ups (ups ga1 5 (mrs ((upd (ga1 5) (9 * (i + 1) + ((askC Z (nI y) i).1 (2 + i))) (nI y))) (9 * (i + 1)) 0 ((askC Z (nI y) i).1 (2 + i) + 1))) 6 (upd ((upd (ga1 6) (i + 1) (nI ((askC Z (nI y) i).1 (2 + i) + 1)))) (i + 1) (nI (((askC Z (nI y) i).1 (2 + i) + 1) - 1)))) 6) ((ups (ups ga1 5 (mrs ((upd (ga1 5) (9 * (i + 1) + ((askC Z (nI y) i).1 (2 + i))) (nI y))) (9 * (i + 1)) 0 ((askC Z (nI y) i).1 (2 + i) + 1))) 6 (upd ((upd (ga1 6) (i + 1) (nI ((askC Z (nI y) i).1 (2 + i) + 1)))) (i + 1) (nI (((askC Z (nI y) i).1 (2 + i) + 1) - 1)))) 7) := ask1_C hC hi8 (fC_trans (fC_come (by omega)) (fC_take (by omega))) (by rw [if_neg hf]; rfl) (cw_3 hf (by omega) hcw)
        have hms : mskC Z (nI y) (i + 1) = mskC Z (nI y) i := by
          show (if fx ((askC Z (nI y) i).2.2 (4 + i)) (nI y) ((askC Z (nI y) i).1 (2 + i)) < (askC Z (nI y) i).1 (2 + i) then _ else _) = _
          rw [if_neg hf]
        refine j_sub [0, 2, 3, 4] [(3, .int (nI (i + 1 + 1))), (2, .int (mskC Z (nI y) i)), (0, .ref (ad 0)), (1, .int (nI y))] rfl ?_
        rw [← hms]
        exact ih (i + 1, (ups (ups ga1 5 (mrs ((upd (ga1 5) (9 * (i + 1) + ((askC Z (nI y) i).1 (2 + i))) (nI y))) (9 * (i + 1)) 0 ((askC Z (nI y) i).1 (2 + i) + 1))) 6 (upd ((upd (ga1 6) (i + 1) (nI ((askC Z (nI y) i).1 (2 + i) + 1)))) (i + 1) (nI (((askC Z (nI y) i).1 (2 + i) + 1) - 1))))) ⟨by show i + 1 ≤ 8; omega, fun q hq => ((fun q hq => (ups_ne (by omega)).trans ((ups_ne (by omega)).trans rfl)) q hq).trans (hfr q (by omega)), hC2⟩ (by show 8 - (i + 1) < 8 - i; omega)

