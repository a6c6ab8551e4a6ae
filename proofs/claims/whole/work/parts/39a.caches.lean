set_option maxHeartbeats 4000000 in
set_option maxRecDepth 100000 in
theorem c_X10_request_ok (l : Launch) (D : va_G) (ay : Nat → ClassId) (ad : Nat → Nat) (vi : Nat → Int32) (ga : Nat → Nat → Int32) (Z : DS) (y : Nat) (hG : GI Z vi ga) (hy : y < 100) (hc : Z.1 14 < 1000) : jM l yX10_request (jws yX10_request cX10_request 2 (some .int)) 2 47 0 0 D ay [.ref (ad 0), .int (nI y)] (mW ay ad vi ga) (fun v w => ∃ (vi' : Nat → Int32) (ga' : Nat → Nat → Int32), GI (askS Z (nI y)) vi' ga' ∧ vi' 0 = 0 ∧ v = some (.int (mskC Z (nI y) 8)) ∧ w = mW ay ad vi' ga') := by
  refine jM_of l (by decide) [(0, .ref (ad 0)), (1, .int (nI y))] rfl rfl (fun p9 e9 s9 m9 a9 b9 me9 c9 A9 F => ?_)
  have hL5 := hG.2.2.2.2.1
  have h13 := hL5.1
  have hle := hG.2.2.1.2.2
  refine j_aload_n F 0 dX10_request_0 rfl ?_
  refine j_iconst F (v := 0) dX10_request_1 (by decide) ?_
  refine j_putf F fX10_1 0 (mW ay ad (ups vi 0 0) ga) rfl rfl rfl rfl rfl (Nat.le_of_ble_eq_true rfl) dX10_request_2 ?_
  refine j_aload_n F 0 dX10_request_5 rfl ?_
  refine j_iload_n F 1 dX10_request_6 rfl ?_
  refine j_iconst F (v := 0) dX10_request_7 (by decide) ?_
  refine j_bipush F (v := 99) dX10_request_8 (by decide) ?_
  refine j_ecallS F kX10_84 (As := [.int (nI y), .int 0, .int 99]) (rest := [.ref (ad 0)]) (c_X10_in l D ay (nI y) 0 99 (show ¬ oob (nI y) 0 99 from nob99 hy)) rfl rfl rfl rfl ⟨Nat.le_of_ble_eq_true rfl, Nat.le_of_ble_eq_true rfl⟩ dX10_request_10 (fun v w hw => ?_)
  obtain ⟨rfl, rfl⟩ := hw
  refine ⟨rfl, ?_⟩
  refine j_top 1 rfl ?_
  refine j_iconst F (v := 1) dX10_request_13 (by decide) ?_
  refine j_scallV F kX10_88 (As := [.int 1, .int 1]) (rest := []) (c_X10_fails_ok l D ay ad (ups vi 0 0) ga 1 rfl) 0 0 20 rfl rfl rfl rfl rfl rfl ⟨Nat.le_of_ble_eq_true rfl, Nat.le_of_ble_eq_true rfl⟩ dX10_request_14 (fun v w hw => ?_)
  obtain ⟨rfl, rfl⟩ := hw
  refine ⟨rfl, (mW ay ad (ups vi 0 0) ga), (slp_all _ _ rfl).trans rfl, ?_⟩
  refine j_top 0 rfl ?_
  refine j_if_ne F 43 dX10_request_17 (by decide) (fun c_17 => absurd (by decide) c_17) (fun c_17 => ?_)
  refine j_aload_n F 0 dX10_request_20 rfl ?_
  refine j_aload_n F 0 dX10_request_21 rfl ?_
  refine j_getf F fX10_127 0 (v := .int (vi 13)) rfl rfl dX10_request_22 ?_
  refine j_top (nI (Z.1 14)) h13 ?_
  refine j_sipush F (v := 1000) dX10_request_25 (by decide) ?_
  refine j_icmp_ge F 35 dX10_request_28 (by decide) (fun c_28 => absurd ((n_le 1000 (Z.1 14) rfl rfl (by omega) (by omega)).mp c_28) (by omega)) (fun c_28 => ?_)
  refine j_iconst F (v := 1) dX10_request_31 (by decide) ?_
  refine j_goto F 36 dX10_request_32 (by decide) ?_
  refine j_iconst F (v := 2) dX10_request_36 (by decide) ?_
  refine j_scallV F kX10_88 (As := [.int 1, .int 2]) (rest := []) (c_X10_fails_ok l D ay ad (ups vi 0 0) ga 2 rfl) 0 0 20 rfl rfl rfl rfl rfl rfl ⟨Nat.le_of_ble_eq_true rfl, Nat.le_of_ble_eq_true rfl⟩ dX10_request_37 (fun v w hw => ?_)
  obtain ⟨rfl, rfl⟩ := hw
  refine ⟨rfl, (mW ay ad (ups vi 0 0) ga), (slp_all _ _ rfl).trans rfl, ?_⟩
  refine j_top 0 rfl ?_
  refine j_if_eq F 47 dX10_request_40 (by decide) (fun c_40 => ?_) (fun c_40 => absurd (by decide) c_40)
  refine j_aload_n F 0 dX10_request_47 rfl ?_
  refine j_iload_n F 1 dX10_request_48 rfl ?_
  refine j_scallV F kX10_137 (As := [.int (nI y)]) (rest := []) (c_X10_asks l D ay ad (ups vi 0 0) ga Z y (show GI Z (ups vi 0 0) ga from GI_id hG (fun q hq => (ups_ne (by omega)).trans rfl) (fun q hq => rfl)) (show y < 100 from hy) (show Z.1 14 < 1000 from hc)) 0 0 20 rfl rfl rfl rfl rfl rfl ⟨Nat.le_of_ble_eq_true rfl, Nat.le_of_ble_eq_true rfl⟩ dX10_request_49 (fun v w hw => ?_)
  obtain ⟨vi_49, ga_49, h49_0, h49_1, h49_2, h49_3, rfl, rfl⟩ := hw
  replace h49_0 : GI (askS Z (nI y)) vi_49 ga_49 := h49_0
  replace h49_1 : vi_49 0 = 0 := h49_1
  replace h49_2 : (∀ q, 14 ≤ q ∧ q < 31 → vi_49 q = (ups vi 0 0) q) := h49_2
  replace h49_3 : (∀ q, 9 ≤ q ∧ q < 15 → ga_49 q = ga q) := h49_3
  refine ⟨rfl, (mW ay ad vi_49 ga_49), (slp_all _ _ rfl).trans rfl, ?_⟩
  refine j_top (mskC Z (nI y) 8) rfl ?_
  exact j_iret F ⟨vi_49, ga_49, h49_0, h49_1, rfl, rfl⟩ dX10_request_52 (Nat.le_of_ble_eq_true rfl) (Nat.le_of_ble_eq_true rfl)

set_option maxHeartbeats 4000000 in
set_option maxRecDepth 100000 in
theorem c_X10_request_no1 (l : Launch) (D : va_G) (ay : Nat → ClassId) (ad : Nat → Nat) (vi : Nat → Int32) (ga : Nat → Nat → Int32) (Z : DS) (x : Int32) (hG : GI Z vi ga) (h : oob x 0 99) : jM l yX10_request (jws yX10_request cX10_request 2 (some .int)) 2 47 0 0 D ay [.ref (ad 0), .int x] (mW ay ad vi ga) (fun v w => ∃ (vi' : Nat → Int32) (ga' : Nat → Nat → Int32), GI Z vi' ga' ∧ vi' 0 = 1 ∧ v = some (.int 0) ∧ w = mW ay ad vi' ga') := by
  refine jM_of l (by decide) [(0, .ref (ad 0)), (1, .int x)] rfl rfl (fun p9 e9 s9 m9 a9 b9 me9 c9 A9 F => ?_)
  refine j_aload_n F 0 dX10_request_0 rfl ?_
  refine j_iconst F (v := 0) dX10_request_1 (by decide) ?_
  refine j_putf F fX10_1 0 (mW ay ad (ups vi 0 0) ga) rfl rfl rfl rfl rfl (Nat.le_of_ble_eq_true rfl) dX10_request_2 ?_
  refine j_aload_n F 0 dX10_request_5 rfl ?_
  refine j_iload_n F 1 dX10_request_6 rfl ?_
  refine j_iconst F (v := 0) dX10_request_7 (by decide) ?_
  refine j_bipush F (v := 99) dX10_request_8 (by decide) ?_
  refine j_ecallS F kX10_84 (As := [.int x, .int 0, .int 99]) (rest := [.ref (ad 0)]) (c_X10_in_no l D ay x 0 99 (show oob x 0 99 from h)) rfl rfl rfl rfl ⟨Nat.le_of_ble_eq_true rfl, Nat.le_of_ble_eq_true rfl⟩ dX10_request_10 (fun v w hw => ?_)
  obtain ⟨rfl, rfl⟩ := hw
  refine ⟨rfl, ?_⟩
  refine j_top 0 rfl ?_
  refine j_iconst F (v := 1) dX10_request_13 (by decide) ?_
  refine j_scallV F kX10_88 (As := [.int 0, .int 1]) (rest := []) (c_X10_fails_no l D ay ad (ups vi 0 0) ga 1 rfl (show ¬ 1 = 0 from by decide)) 0 0 20 rfl rfl rfl rfl rfl rfl ⟨Nat.le_of_ble_eq_true rfl, Nat.le_of_ble_eq_true rfl⟩ dX10_request_14 (fun v w hw => ?_)
  obtain ⟨rfl, rfl⟩ := hw
  refine ⟨rfl, (mW ay ad (ups vi 0 1) ga), (slp_all _ _ rfl).trans rfl, ?_⟩
  refine j_top 1 rfl ?_
  refine j_if_ne F 43 dX10_request_17 (by decide) (fun c_17 => ?_) (fun c_17 => absurd c_17 (by decide))
  refine j_iconst F (v := 0) dX10_request_43 (by decide) ?_
  refine j_goto F 52 dX10_request_44 (by decide) ?_
  exact j_iret F ⟨ups vi 0 1, ga, (GI_id hG (fun q hq => (ups_ne (by omega)).trans rfl) (fun q hq => rfl)), rfl, rfl, rfl⟩ dX10_request_52 (Nat.le_of_ble_eq_true rfl) (Nat.le_of_ble_eq_true rfl)

set_option maxHeartbeats 4000000 in
set_option maxRecDepth 100000 in
theorem c_X10_request_no2 (l : Launch) (D : va_G) (ay : Nat → ClassId) (ad : Nat → Nat) (vi : Nat → Int32) (ga : Nat → Nat → Int32) (Z : DS) (y : Nat) (hG : GI Z vi ga) (hy : y < 100) (hc : 1000 ≤ Z.1 14) : jM l yX10_request (jws yX10_request cX10_request 2 (some .int)) 2 47 0 0 D ay [.ref (ad 0), .int (nI y)] (mW ay ad vi ga) (fun v w => ∃ (vi' : Nat → Int32) (ga' : Nat → Nat → Int32), GI Z vi' ga' ∧ vi' 0 = 2 ∧ v = some (.int 0) ∧ w = mW ay ad vi' ga') := by
  refine jM_of l (by decide) [(0, .ref (ad 0)), (1, .int (nI y))] rfl rfl (fun p9 e9 s9 m9 a9 b9 me9 c9 A9 F => ?_)
  have hL5 := hG.2.2.2.2.1
  have h13 := hL5.1
  have hle := hG.2.2.1.2.2
  refine j_aload_n F 0 dX10_request_0 rfl ?_
  refine j_iconst F (v := 0) dX10_request_1 (by decide) ?_
  refine j_putf F fX10_1 0 (mW ay ad (ups vi 0 0) ga) rfl rfl rfl rfl rfl (Nat.le_of_ble_eq_true rfl) dX10_request_2 ?_
  refine j_aload_n F 0 dX10_request_5 rfl ?_
  refine j_iload_n F 1 dX10_request_6 rfl ?_
  refine j_iconst F (v := 0) dX10_request_7 (by decide) ?_
  refine j_bipush F (v := 99) dX10_request_8 (by decide) ?_
  refine j_ecallS F kX10_84 (As := [.int (nI y), .int 0, .int 99]) (rest := [.ref (ad 0)]) (c_X10_in l D ay (nI y) 0 99 (show ¬ oob (nI y) 0 99 from nob99 hy)) rfl rfl rfl rfl ⟨Nat.le_of_ble_eq_true rfl, Nat.le_of_ble_eq_true rfl⟩ dX10_request_10 (fun v w hw => ?_)
  obtain ⟨rfl, rfl⟩ := hw
  refine ⟨rfl, ?_⟩
  refine j_top 1 rfl ?_
  refine j_iconst F (v := 1) dX10_request_13 (by decide) ?_
  refine j_scallV F kX10_88 (As := [.int 1, .int 1]) (rest := []) (c_X10_fails_ok l D ay ad (ups vi 0 0) ga 1 rfl) 0 0 20 rfl rfl rfl rfl rfl rfl ⟨Nat.le_of_ble_eq_true rfl, Nat.le_of_ble_eq_true rfl⟩ dX10_request_14 (fun v w hw => ?_)
  obtain ⟨rfl, rfl⟩ := hw
  refine ⟨rfl, (mW ay ad (ups vi 0 0) ga), (slp_all _ _ rfl).trans rfl, ?_⟩
  refine j_top 0 rfl ?_
  refine j_if_ne F 43 dX10_request_17 (by decide) (fun c_17 => absurd (by decide) c_17) (fun c_17 => ?_)
  refine j_aload_n F 0 dX10_request_20 rfl ?_
  refine j_aload_n F 0 dX10_request_21 rfl ?_
  refine j_getf F fX10_127 0 (v := .int (vi 13)) rfl rfl dX10_request_22 ?_
  refine j_top (nI (Z.1 14)) h13 ?_
  refine j_sipush F (v := 1000) dX10_request_25 (by decide) ?_
  refine j_icmp_ge F 35 dX10_request_28 (by decide) (fun c_28 => ?_) (fun c_28 => absurd ((n_le 1000 (Z.1 14) rfl rfl (by omega) (by omega)).mpr hc) c_28)
  refine j_iconst F (v := 0) dX10_request_35 (by decide) ?_
  refine j_iconst F (v := 2) dX10_request_36 (by decide) ?_
  refine j_scallV F kX10_88 (As := [.int 0, .int 2]) (rest := []) (c_X10_fails_no l D ay ad (ups vi 0 0) ga 2 rfl (show ¬ 2 = 0 from by decide)) 0 0 20 rfl rfl rfl rfl rfl rfl ⟨Nat.le_of_ble_eq_true rfl, Nat.le_of_ble_eq_true rfl⟩ dX10_request_37 (fun v w hw => ?_)
  obtain ⟨rfl, rfl⟩ := hw
  refine ⟨rfl, (mW ay ad (ups vi 0 2) ga), (slp_all _ _ rfl).trans rfl, ?_⟩
  refine j_top 1 rfl ?_
  refine j_if_eq F 47 dX10_request_40 (by decide) (fun c_40 => absurd c_40 (by decide)) (fun c_40 => ?_)
  refine j_iconst F (v := 0) dX10_request_43 (by decide) ?_
  refine j_goto F 52 dX10_request_44 (by decide) ?_
  exact j_iret F ⟨ups vi 0 2, ga, (GI_id hG (fun q hq => (ups_ne (by omega)).trans rfl) (fun q hq => rfl)), rfl, rfl, rfl⟩ dX10_request_52 (Nat.le_of_ble_eq_true rfl) (Nat.le_of_ble_eq_true rfl)

set_option maxHeartbeats 4000000 in
set_option maxRecDepth 100000 in
theorem c_X10_clearCaches_ok (l : Launch) (D : va_G) (ay : Nat → ClassId) (ad : Nat → Nat) (vi : Nat → Int32) (ga : Nat → Nat → Int32) (Z : DS) (hG : GI Z vi ga) : jM l yX10_clearCaches (jws yX10_clearCaches cX10_clearCaches 3 (some .int)) 0 0 0 0 D ay [.ref (ad 0)] (mW ay ad vi ga) (fun v w => ∃ (vi' : Nat → Int32) (ga' : Nat → Nat → Int32), GI (lU (clrC Z 8) 0 (Z.2.2 12) (Z.2.2 13) 0 (Z.2.2 14)) vi' ga' ∧ vi' 0 = 0 ∧ v = some (.int (nI (Z.1 14))) ∧ w = mW ay ad vi' ga') := by
  refine jM_of l (by decide) [(0, .ref (ad 0))] rfl rfl (fun p9 e9 s9 m9 a9 b9 me9 c9 A9 F => ?_)
  have hL5 := hG.2.2.2.2.1
  have h13 := hL5.1
  have hle := hG.2.2.1.2.2
  refine j_aload_n F 0 dX10_clearCaches_0 rfl ?_
  refine j_iconst F (v := 0) dX10_clearCaches_1 (by decide) ?_
  refine j_putf F fX10_1 0 (mW ay ad (ups vi 0 0) ga) rfl rfl rfl rfl rfl (Nat.le_of_ble_eq_true rfl) dX10_clearCaches_2 ?_
  refine j_aload_n F 0 dX10_clearCaches_5 rfl ?_
  refine j_getf F fX10_127 0 (v := .int (vi 13)) rfl rfl dX10_clearCaches_6 ?_
  refine j_top (nI (Z.1 14)) h13 ?_
  refine j_istore_n F 1 [(1, .int (nI (Z.1 14))), (0, .ref (ad 0))] dX10_clearCaches_9 rfl (by decide) rfl ?_
  refine j_aload_n F 1 dX10_clearCaches_10 rfl ?_
  refine j_iconst F (v := 0) dX10_clearCaches_11 (by decide) ?_
  refine j_putf F fX10_127 0 (mW ay ad (ups (ups vi 0 0) 13 0) ga) rfl rfl rfl rfl rfl (Nat.le_of_ble_eq_true rfl) dX10_clearCaches_12 ?_
  refine j_iconst F (v := 1) dX10_clearCaches_15 (by decide) ?_
  refine j_istore_n F 2 [(2, .int 1), (1, .int (nI (Z.1 14))), (0, .ref (ad 0))] dX10_clearCaches_16 rfl (by decide) rfl ?_
  refine j_loop (σ := Nat × (Nat → Nat → Int32)) (fun z => z.1 ≤ 8 ∧ (∀ q, q < 6 ∨ 7 < q → z.2 q = ga q) ∧ gC (clrC Z z.1) (z.2 5) (z.2 6) (z.2 7)) (fun z => 8 - z.1) (fun z => [(2, .int (nI (z.1 + 1))), (1, .int (nI (Z.1 14))), (0, .ref (ad 0))]) (fun z => mW ay ad (ups (ups vi 0 0) 13 0) z.2) (0, ga) ⟨Nat.zero_le _, fun _ _ => rfl, hG.2.2.2.1⟩ rfl rfl (fun z hz ih => ?_)
  obtain ⟨i, ga1⟩ := z
  obtain ⟨hi, hfr, hC⟩ := hz
  replace hi : i ≤ 8 := hi
  replace hfr : ∀ q, q < 6 ∨ 7 < q → ga1 q = ga q := hfr
  replace hC : gC (clrC Z i) (ga1 5) (ga1 6) (ga1 7) := hC
  refine j_nf (mW ay ad (ups (ups vi 0 0) 13 0) ga1) [(2, .int (nI (i + 1))), (1, .int (nI (Z.1 14))), (0, .ref (ad 0))] rfl rfl ?_
  refine j_iload_n F 0 dX10_clearCaches_17 rfl ?_
  refine j_bipush F (v := 8) dX10_clearCaches_18 (by decide) ?_
  refine j_icmp_gt F 43 dX10_clearCaches_20 (by decide) (fun c_20 => ?_) (fun c_20 => ?_)
  · skip
    have n_20 := (n_lt 8 (i + 1) rfl rfl (by omega) (by omega)).mp c_20
    refine j_iload_n F 1 dX10_clearCaches_43 rfl ?_
    exact j_iret F ⟨ups (ups vi 0 0) 13 0, ga1, clr_G hG (fun q h1 h2 => (ups_ne h2).trans (ups_ne (by omega))) rfl hfr (by rw [show (8 : Nat) = i by omega]; exact hC), rfl, rfl, rfl⟩ dX10_clearCaches_44 (Nat.le_of_ble_eq_true rfl) (Nat.le_of_ble_eq_true rfl)
  · skip
    have n_20 := mt (n_lt 8 (i + 1) rfl rfl (by omega) (by omega)).mpr c_20
    refine j_aload_n F 2 dX10_clearCaches_23 rfl ?_
    refine j_getf F fX10_39 0 (v := .ref (ad 7)) rfl rfl dX10_clearCaches_24 ?_
    refine j_iload_n F 0 dX10_clearCaches_27 rfl ?_
    refine j_iconst F (v := 0) dX10_clearCaches_28 (by decide) ?_
    refine j_iast F 7 (mW ay ad (ups (ups vi 0 0) 13 0) (ups ga1 6 (upd (ga1 6) (i + 1) 0))) (i + 1) rfl rfl (by omega) (Nat.le_of_ble_eq_true rfl) rfl dX10_clearCaches_29 ?_
    refine j_aload_n F 2 dX10_clearCaches_30 rfl ?_
    refine j_getf F fX10_42 0 (v := .ref (ad 8)) rfl rfl dX10_clearCaches_31 ?_
    refine j_iload_n F 0 dX10_clearCaches_34 rfl ?_
    refine j_iconst F (v := 0) dX10_clearCaches_35 (by decide) ?_
    refine j_iast F 8 (mW ay ad (ups (ups vi 0 0) 13 0) (ups (ups ga1 6 (upd (ga1 6) (i + 1) 0)) 7 (upd (ga1 7) (i + 1) 0))) (i + 1) rfl rfl (by omega) (Nat.le_of_ble_eq_true rfl) rfl dX10_clearCaches_36 ?_
    refine j_iinc F 0 (nI (i + 1 + 1)) [(2, .int (nI (i + 1 + 1))), (1, .int (nI (Z.1 14))), (0, .ref (ad 0))] dX10_clearCaches_37 rfl (nI_1 _) (by decide) rfl ?_
    refine j_goto F 17 dX10_clearCaches_40 (by decide) ?_
    exact ih (i + 1, (ups (ups ga1 6 (upd (ga1 6) (i + 1) 0)) 7 (upd (ga1 7) (i + 1) 0))) ⟨by show i + 1 ≤ 8; omega, fun q hq => ((fun q hq => (ups_ne (by omega)).trans ((ups_ne (by omega)).trans rfl)) q hq).trans (hfr q hq), clr1_C hC (by omega)⟩ (by show 8 - (i + 1) < 8 - i; omega)

set_option maxHeartbeats 4000000 in
set_option maxRecDepth 100000 in
theorem c_X10_hits_ok (l : Launch) (D : va_G) (ay : Nat → ClassId) (ad : Nat → Nat) (vi : Nat → Int32) (ga : Nat → Nat → Int32) (Z : DS) (i : Nat) (hG : GI Z vi ga) (hi : i < 8) : jM l yX10_hits (jws yX10_hits cX10_hits 2 (some .int)) 2 43 0 0 D ay [.ref (ad 0), .int (nI (i + 1))] (mW ay ad vi ga) (fun v w => ∃ (vi' : Nat → Int32) (ga' : Nat → Nat → Int32), GI Z vi' ga' ∧ vi' 0 = 0 ∧ v = some (.int (Z.2.1 (11 + i))) ∧ w = mW ay ad vi' ga') := by
  refine jM_of l (by decide) [(0, .ref (ad 0)), (1, .int (nI (i + 1)))] rfl rfl (fun p9 e9 s9 m9 a9 b9 me9 c9 A9 F => ?_)
  have hL5 := hG.2.2.2.2.1
  have h13 := hL5.1
  have hle := hG.2.2.1.2.2
  have hc1 := hG.2.2.2.1 i hi
  refine j_aload_n F 0 dX10_hits_0 rfl ?_
  refine j_iconst F (v := 0) dX10_hits_1 (by decide) ?_
  refine j_putf F fX10_1 0 (mW ay ad (ups vi 0 0) ga) rfl rfl rfl rfl rfl (Nat.le_of_ble_eq_true rfl) dX10_hits_2 ?_
  refine j_aload_n F 0 dX10_hits_5 rfl ?_
  refine j_iload_n F 1 dX10_hits_6 rfl ?_
  refine j_scallV F kX10_141 (As := [.int (nI (i + 1))]) (rest := []) (c_X10_noCache_ok l D ay ad (ups vi 0 0) ga i rfl (show i < 8 from hi)) 0 0 20 rfl rfl rfl rfl rfl rfl ⟨Nat.le_of_ble_eq_true rfl, Nat.le_of_ble_eq_true rfl⟩ dX10_hits_7 (fun v w hw => ?_)
  obtain ⟨rfl, rfl⟩ := hw
  refine ⟨rfl, (mW ay ad (ups vi 0 0) ga), (slp_all _ _ rfl).trans rfl, ?_⟩
  refine j_top 0 rfl ?_
  refine j_if_eq F 17 dX10_hits_10 (by decide) (fun c_10 => ?_) (fun c_10 => absurd (by decide) c_10)
  refine j_aload_n F 0 dX10_hits_17 rfl ?_
  refine j_getf F fX10_42 0 (v := .ref (ad 8)) rfl rfl dX10_hits_18 ?_
  refine j_iload_n F 1 dX10_hits_21 rfl ?_
  refine j_iald F 8 (i + 1) (f := ga 7) rfl rfl (by omega) (Nat.le_of_ble_eq_true rfl) dX10_hits_22 ?_
  refine j_top (Z.2.1 (11 + i)) hc1.2.2.1 ?_
  exact j_iret F ⟨ups vi 0 0, ga, (GI_id hG (fun q hq => (ups_ne (by omega)).trans rfl) (fun q hq => rfl)), rfl, rfl, rfl⟩ dX10_hits_23 (Nat.le_of_ble_eq_true rfl) (Nat.le_of_ble_eq_true rfl)

set_option maxHeartbeats 4000000 in
set_option maxRecDepth 100000 in
theorem c_X10_hits_no (l : Launch) (D : va_G) (ay : Nat → ClassId) (ad : Nat → Nat) (vi : Nat → Int32) (ga : Nat → Nat → Int32) (Z : DS) (x : Int32) (hG : GI Z vi ga) (h : oob x 1 8) : jM l yX10_hits (jws yX10_hits cX10_hits 2 (some .int)) 2 43 0 0 D ay [.ref (ad 0), .int x] (mW ay ad vi ga) (fun v w => ∃ (vi' : Nat → Int32) (ga' : Nat → Nat → Int32), GI Z vi' ga' ∧ vi' 0 = 1 ∧ v = some (.int 0) ∧ w = mW ay ad vi' ga') := by
  refine jM_of l (by decide) [(0, .ref (ad 0)), (1, .int x)] rfl rfl (fun p9 e9 s9 m9 a9 b9 me9 c9 A9 F => ?_)
  refine j_aload_n F 0 dX10_hits_0 rfl ?_
  refine j_iconst F (v := 0) dX10_hits_1 (by decide) ?_
  refine j_putf F fX10_1 0 (mW ay ad (ups vi 0 0) ga) rfl rfl rfl rfl rfl (Nat.le_of_ble_eq_true rfl) dX10_hits_2 ?_
  refine j_aload_n F 0 dX10_hits_5 rfl ?_
  refine j_iload_n F 1 dX10_hits_6 rfl ?_
  refine j_scallV F kX10_141 (As := [.int x]) (rest := []) (c_X10_noCache_no l D ay ad (ups vi 0 0) ga x rfl (show oob x 1 8 from h)) 0 0 20 rfl rfl rfl rfl rfl rfl ⟨Nat.le_of_ble_eq_true rfl, Nat.le_of_ble_eq_true rfl⟩ dX10_hits_7 (fun v w hw => ?_)
  obtain ⟨rfl, rfl⟩ := hw
  refine ⟨rfl, (mW ay ad (ups vi 0 1) ga), (slp_all _ _ rfl).trans rfl, ?_⟩
  refine j_top 1 rfl ?_
  refine j_if_eq F 17 dX10_hits_10 (by decide) (fun c_10 => absurd c_10 (by decide)) (fun c_10 => ?_)
  refine j_iconst F (v := 0) dX10_hits_13 (by decide) ?_
  refine j_goto F 23 dX10_hits_14 (by decide) ?_
  exact j_iret F ⟨ups vi 0 1, ga, (GI_id hG (fun q hq => (ups_ne (by omega)).trans rfl) (fun q hq => rfl)), rfl, rfl, rfl⟩ dX10_hits_23 (Nat.le_of_ble_eq_true rfl) (Nat.le_of_ble_eq_true rfl)

set_option maxHeartbeats 4000000 in
set_option maxRecDepth 100000 in
theorem c_X10_cached_ok (l : Launch) (D : va_G) (ay : Nat → ClassId) (ad : Nat → Nat) (vi : Nat → Int32) (ga : Nat → Nat → Int32) (Z : DS) (i : Nat) (hG : GI Z vi ga) (hi : i < 8) : jM l yX10_cached (jws yX10_cached cX10_cached 2 (some .int)) 2 43 0 0 D ay [.ref (ad 0), .int (nI (i + 1))] (mW ay ad vi ga) (fun v w => ∃ (vi' : Nat → Int32) (ga' : Nat → Nat → Int32), GI Z vi' ga' ∧ vi' 0 = 0 ∧ v = some (.int (nI (Z.1 (2 + i)))) ∧ w = mW ay ad vi' ga') := by
  refine jM_of l (by decide) [(0, .ref (ad 0)), (1, .int (nI (i + 1)))] rfl rfl (fun p9 e9 s9 m9 a9 b9 me9 c9 A9 F => ?_)
  have hL5 := hG.2.2.2.2.1
  have h13 := hL5.1
  have hle := hG.2.2.1.2.2
  have hc1 := hG.2.2.2.1 i hi
  refine j_aload_n F 0 dX10_cached_0 rfl ?_
  refine j_iconst F (v := 0) dX10_cached_1 (by decide) ?_
  refine j_putf F fX10_1 0 (mW ay ad (ups vi 0 0) ga) rfl rfl rfl rfl rfl (Nat.le_of_ble_eq_true rfl) dX10_cached_2 ?_
  refine j_aload_n F 0 dX10_cached_5 rfl ?_
  refine j_iload_n F 1 dX10_cached_6 rfl ?_
  refine j_scallV F kX10_141 (As := [.int (nI (i + 1))]) (rest := []) (c_X10_noCache_ok l D ay ad (ups vi 0 0) ga i rfl (show i < 8 from hi)) 0 0 20 rfl rfl rfl rfl rfl rfl ⟨Nat.le_of_ble_eq_true rfl, Nat.le_of_ble_eq_true rfl⟩ dX10_cached_7 (fun v w hw => ?_)
  obtain ⟨rfl, rfl⟩ := hw
  refine ⟨rfl, (mW ay ad (ups vi 0 0) ga), (slp_all _ _ rfl).trans rfl, ?_⟩
  refine j_top 0 rfl ?_
  refine j_if_eq F 17 dX10_cached_10 (by decide) (fun c_10 => ?_) (fun c_10 => absurd (by decide) c_10)
  refine j_aload_n F 0 dX10_cached_17 rfl ?_
  refine j_getf F fX10_39 0 (v := .ref (ad 7)) rfl rfl dX10_cached_18 ?_
  refine j_iload_n F 1 dX10_cached_21 rfl ?_
  refine j_iald F 7 (i + 1) (f := ga 6) rfl rfl (by omega) (Nat.le_of_ble_eq_true rfl) dX10_cached_22 ?_
  refine j_top (nI (Z.1 (2 + i))) hc1.2.1 ?_
  exact j_iret F ⟨ups vi 0 0, ga, (GI_id hG (fun q hq => (ups_ne (by omega)).trans rfl) (fun q hq => rfl)), rfl, rfl, rfl⟩ dX10_cached_23 (Nat.le_of_ble_eq_true rfl) (Nat.le_of_ble_eq_true rfl)

set_option maxHeartbeats 4000000 in
set_option maxRecDepth 100000 in
theorem c_X10_cached_no (l : Launch) (D : va_G) (ay : Nat → ClassId) (ad : Nat → Nat) (vi : Nat → Int32) (ga : Nat → Nat → Int32) (Z : DS) (x : Int32) (hG : GI Z vi ga) (h : oob x 1 8) : jM l yX10_cached (jws yX10_cached cX10_cached 2 (some .int)) 2 43 0 0 D ay [.ref (ad 0), .int x] (mW ay ad vi ga) (fun v w => ∃ (vi' : Nat → Int32) (ga' : Nat → Nat → Int32), GI Z vi' ga' ∧ vi' 0 = 1 ∧ v = some (.int 0) ∧ w = mW ay ad vi' ga') := by
  refine jM_of l (by decide) [(0, .ref (ad 0)), (1, .int x)] rfl rfl (fun p9 e9 s9 m9 a9 b9 me9 c9 A9 F => ?_)
  refine j_aload_n F 0 dX10_cached_0 rfl ?_
  refine j_iconst F (v := 0) dX10_cached_1 (by decide) ?_
  refine j_putf F fX10_1 0 (mW ay ad (ups vi 0 0) ga) rfl rfl rfl rfl rfl (Nat.le_of_ble_eq_true rfl) dX10_cached_2 ?_
  refine j_aload_n F 0 dX10_cached_5 rfl ?_
  refine j_iload_n F 1 dX10_cached_6 rfl ?_
  refine j_scallV F kX10_141 (As := [.int x]) (rest := []) (c_X10_noCache_no l D ay ad (ups vi 0 0) ga x rfl (show oob x 1 8 from h)) 0 0 20 rfl rfl rfl rfl rfl rfl ⟨Nat.le_of_ble_eq_true rfl, Nat.le_of_ble_eq_true rfl⟩ dX10_cached_7 (fun v w hw => ?_)
  obtain ⟨rfl, rfl⟩ := hw
  refine ⟨rfl, (mW ay ad (ups vi 0 1) ga), (slp_all _ _ rfl).trans rfl, ?_⟩
  refine j_top 1 rfl ?_
  refine j_if_eq F 17 dX10_cached_10 (by decide) (fun c_10 => absurd c_10 (by decide)) (fun c_10 => ?_)
  refine j_iconst F (v := 0) dX10_cached_13 (by decide) ?_
  refine j_goto F 23 dX10_cached_14 (by decide) ?_
  exact j_iret F ⟨ups vi 0 1, ga, (GI_id hG (fun q hq => (ups_ne (by omega)).trans rfl) (fun q hq => rfl)), rfl, rfl, rfl⟩ dX10_cached_23 (Nat.le_of_ble_eq_true rfl) (Nat.le_of_ble_eq_true rfl)

set_option maxHeartbeats 4000000 in
set_option maxRecDepth 100000 in
theorem c_X10_isCached_ok (l : Launch) (D : va_G) (ay : Nat → ClassId) (ad : Nat → Nat) (vi : Nat → Int32) (ga : Nat → Nat → Int32) (Z : DS) (i : Nat) (y : Nat) (hG : GI Z vi ga) (hi : i < 8) (hy : y < 100) : jM l yX10_isCached (jws yX10_isCached cX10_isCached 3 (some .boolean)) 2 43 0 0 D ay [.ref (ad 0), .int (nI (i + 1)), .int (nI y)] (mW ay ad vi ga) (fun v w => ∃ (vi' : Nat → Int32) (ga' : Nat → Nat → Int32), GI Z vi' ga' ∧ vi' 0 = 0 ∧ v = some (.int (if fx (Z.2.2 (4 + i)) (nI y) (Z.1 (2 + i)) < Z.1 (2 + i) then 1 else 0)) ∧ w = mW ay ad vi' ga') := by
  refine jM_of l (by decide) [(0, .ref (ad 0)), (1, .int (nI (i + 1))), (2, .int (nI y))] rfl rfl (fun p9 e9 s9 m9 a9 b9 me9 c9 A9 F => ?_)
  have hL5 := hG.2.2.2.2.1
  have h13 := hL5.1
  have hle := hG.2.2.1.2.2
  have hc1 := hG.2.2.2.1 i hi
  have hcn := hc1.1
  refine j_aload_n F 0 dX10_isCached_0 rfl ?_
  refine j_iconst F (v := 0) dX10_isCached_1 (by decide) ?_
  refine j_putf F fX10_1 0 (mW ay ad (ups vi 0 0) ga) rfl rfl rfl rfl rfl (Nat.le_of_ble_eq_true rfl) dX10_isCached_2 ?_
  refine j_aload_n F 0 dX10_isCached_5 rfl ?_
  refine j_iload_n F 1 dX10_isCached_6 rfl ?_
  refine j_scallV F kX10_141 (As := [.int (nI (i + 1))]) (rest := []) (c_X10_noCache_ok l D ay ad (ups vi 0 0) ga i rfl (show i < 8 from hi)) 0 0 20 rfl rfl rfl rfl rfl rfl ⟨Nat.le_of_ble_eq_true rfl, Nat.le_of_ble_eq_true rfl⟩ dX10_isCached_7 (fun v w hw => ?_)
  obtain ⟨rfl, rfl⟩ := hw
  refine ⟨rfl, (mW ay ad (ups vi 0 0) ga), (slp_all _ _ rfl).trans rfl, ?_⟩
  refine j_top 0 rfl ?_
  refine j_if_ne F 42 dX10_isCached_10 (by decide) (fun c_10 => absurd (by decide) c_10) (fun c_10 => ?_)
  refine j_aload_n F 0 dX10_isCached_13 rfl ?_
  refine j_iload_n F 2 dX10_isCached_14 rfl ?_
  refine j_iconst F (v := 0) dX10_isCached_15 (by decide) ?_
  refine j_bipush F (v := 99) dX10_isCached_16 (by decide) ?_
  refine j_ecallS F kX10_84 (As := [.int (nI y), .int 0, .int 99]) (rest := [.ref (ad 0)]) (c_X10_in l D ay (nI y) 0 99 (show ¬ oob (nI y) 0 99 from nob99 hy)) rfl rfl rfl rfl ⟨Nat.le_of_ble_eq_true rfl, Nat.le_of_ble_eq_true rfl⟩ dX10_isCached_18 (fun v w hw => ?_)
  obtain ⟨rfl, rfl⟩ := hw
  refine ⟨rfl, ?_⟩
  refine j_top 1 rfl ?_
  refine j_iconst F (v := 1) dX10_isCached_21 (by decide) ?_
  refine j_scallV F kX10_88 (As := [.int 1, .int 1]) (rest := []) (c_X10_fails_ok l D ay ad (ups vi 0 0) ga 1 rfl) 0 0 20 rfl rfl rfl rfl rfl rfl ⟨Nat.le_of_ble_eq_true rfl, Nat.le_of_ble_eq_true rfl⟩ dX10_isCached_22 (fun v w hw => ?_)
  obtain ⟨rfl, rfl⟩ := hw
  refine ⟨rfl, (mW ay ad (ups vi 0 0) ga), (slp_all _ _ rfl).trans rfl, ?_⟩
  refine j_top 0 rfl ?_
  refine j_if_ne F 42 dX10_isCached_25 (by decide) (fun c_25 => absurd (by decide) c_25) (fun c_25 => ?_)
  refine j_aload_n F 0 dX10_isCached_28 rfl ?_
  refine j_iload_n F 1 dX10_isCached_29 rfl ?_
  refine j_iload_n F 2 dX10_isCached_30 rfl ?_
  refine j_scallV F kX10_130 (As := [.int (nI (i + 1)), .int (nI y)]) (rest := []) (c_X10_cachePlace l D ay ad (ups vi 0 0) ga (i + 1) (Z.1 (2 + i)) (nI y) (show 1 ≤ (i + 1) ∧ (i + 1) ≤ 8 from by omega) (show ga 6 (i + 1) = nI (Z.1 (2 + i)) from hc1.2.1) (show (Z.1 (2 + i)) ≤ 9 from by omega)) 0 0 20 rfl rfl rfl rfl rfl rfl ⟨Nat.le_of_ble_eq_true rfl, Nat.le_of_ble_eq_true rfl⟩ dX10_isCached_31 (fun v w hw => ?_)
  obtain ⟨rfl, rfl⟩ := hw
  refine ⟨rfl, (mW ay ad (ups vi 0 0) ga), (slp_all _ _ rfl).trans rfl, ?_⟩
  refine j_top (fxI (Z.2.2 (4 + i)) (nI y) (Z.1 (2 + i))) (fxI_c hc1.2.2.2) ?_
  by_cases hf : fx (Z.2.2 (4 + i)) (nI y) (Z.1 (2 + i)) < Z.1 (2 + i)
  · skip
    refine j_top (nI (fx (Z.2.2 (4 + i)) (nI y) (Z.1 (2 + i)))) (if_pos hf) ?_
    refine j_iconst F (v := (-1)) dX10_isCached_34 (by decide) ?_
    refine j_icmp_eq F 42 dX10_isCached_35 (by decide) (fun c_35 => absurd c_35 (nI_m1 (by omega))) (fun c_35 => ?_)
    refine j_iconst F (v := 1) dX10_isCached_38 (by decide) ?_
    refine j_goto F 43 dX10_isCached_39 (by decide) ?_
    exact j_zret F (Or.inr rfl) ⟨ups vi 0 0, ga, (GI_id hG (fun q hq => (ups_ne (by omega)).trans rfl) (fun q hq => rfl)), rfl, (by rw [if_pos hf]), rfl⟩ dX10_isCached_43 (Nat.le_of_ble_eq_true rfl) (Nat.le_of_ble_eq_true rfl)
  · skip
    refine j_top (-1) (if_neg hf) ?_
    refine j_iconst F (v := (-1)) dX10_isCached_34 (by decide) ?_
    refine j_icmp_eq F 42 dX10_isCached_35 (by decide) (fun c_35 => ?_) (fun c_35 => absurd (by decide) c_35)
    refine j_iconst F (v := 0) dX10_isCached_42 (by decide) ?_
    exact j_zret F (Or.inl rfl) ⟨ups vi 0 0, ga, (GI_id hG (fun q hq => (ups_ne (by omega)).trans rfl) (fun q hq => rfl)), rfl, (by rw [if_neg hf]), rfl⟩ dX10_isCached_43 (Nat.le_of_ble_eq_true rfl) (Nat.le_of_ble_eq_true rfl)

set_option maxHeartbeats 4000000 in
set_option maxRecDepth 100000 in
theorem c_X10_isCached_no (l : Launch) (D : va_G) (ay : Nat → ClassId) (ad : Nat → Nat) (vi : Nat → Int32) (ga : Nat → Nat → Int32) (Z : DS) (x : Int32) (y : Int32) (hG : GI Z vi ga) (h : oob x 1 8 ∨ oob y 0 99) : jM l yX10_isCached (jws yX10_isCached cX10_isCached 3 (some .boolean)) 2 43 0 0 D ay [.ref (ad 0), .int x, .int y] (mW ay ad vi ga) (fun v w => ∃ (vi' : Nat → Int32) (ga' : Nat → Nat → Int32), GI Z vi' ga' ∧ vi' 0 = 1 ∧ v = some (.int 0) ∧ w = mW ay ad vi' ga') := by
  refine jM_of l (by decide) [(0, .ref (ad 0)), (1, .int x), (2, .int y)] rfl rfl (fun p9 e9 s9 m9 a9 b9 me9 c9 A9 F => ?_)
  by_cases hq : oob x 1 8
  · skip
    refine j_aload_n F 0 dX10_isCached_0 rfl ?_
    refine j_iconst F (v := 0) dX10_isCached_1 (by decide) ?_
    refine j_putf F fX10_1 0 (mW ay ad (ups vi 0 0) ga) rfl rfl rfl rfl rfl (Nat.le_of_ble_eq_true rfl) dX10_isCached_2 ?_
    refine j_aload_n F 0 dX10_isCached_5 rfl ?_
    refine j_iload_n F 1 dX10_isCached_6 rfl ?_
    refine j_scallV F kX10_141 (As := [.int x]) (rest := []) (c_X10_noCache_no l D ay ad (ups vi 0 0) ga x rfl (show oob x 1 8 from hq)) 0 0 20 rfl rfl rfl rfl rfl rfl ⟨Nat.le_of_ble_eq_true rfl, Nat.le_of_ble_eq_true rfl⟩ dX10_isCached_7 (fun v w hw => ?_)
    obtain ⟨rfl, rfl⟩ := hw
    refine ⟨rfl, (mW ay ad (ups vi 0 1) ga), (slp_all _ _ rfl).trans rfl, ?_⟩
    refine j_top 1 rfl ?_
    refine j_if_ne F 42 dX10_isCached_10 (by decide) (fun c_10 => ?_) (fun c_10 => absurd c_10 (by decide))
    refine j_iconst F (v := 0) dX10_isCached_42 (by decide) ?_
    exact j_zret F (Or.inl rfl) ⟨ups vi 0 1, ga, (GI_id hG (fun q hq => (ups_ne (by omega)).trans rfl) (fun q hq => rfl)), rfl, rfl, rfl⟩ dX10_isCached_43 (Nat.le_of_ble_eq_true rfl) (Nat.le_of_ble_eq_true rfl)
  · skip
    obtain ⟨i, hi, rfl⟩ : ∃ i, i < 8 ∧ x = nI (i + 1) := by
      obtain ⟨b, b1, b2, rfl⟩ := oob_nI 1 8 (by decide) (by decide) hq
      exact ⟨b - 1, by omega, by rw [show b - 1 + 1 = b by omega]⟩
    refine j_aload_n F 0 dX10_isCached_0 rfl ?_
    refine j_iconst F (v := 0) dX10_isCached_1 (by decide) ?_
    refine j_putf F fX10_1 0 (mW ay ad (ups vi 0 0) ga) rfl rfl rfl rfl rfl (Nat.le_of_ble_eq_true rfl) dX10_isCached_2 ?_
    refine j_aload_n F 0 dX10_isCached_5 rfl ?_
    refine j_iload_n F 1 dX10_isCached_6 rfl ?_
    refine j_scallV F kX10_141 (As := [.int (nI (i + 1))]) (rest := []) (c_X10_noCache_ok l D ay ad (ups vi 0 0) ga i rfl (show i < 8 from hi)) 0 0 20 rfl rfl rfl rfl rfl rfl ⟨Nat.le_of_ble_eq_true rfl, Nat.le_of_ble_eq_true rfl⟩ dX10_isCached_7 (fun v w hw => ?_)
    obtain ⟨rfl, rfl⟩ := hw
    refine ⟨rfl, (mW ay ad (ups vi 0 0) ga), (slp_all _ _ rfl).trans rfl, ?_⟩
    refine j_top 0 rfl ?_
    refine j_if_ne F 42 dX10_isCached_10 (by decide) (fun c_10 => absurd (by decide) c_10) (fun c_10 => ?_)
    refine j_aload_n F 0 dX10_isCached_13 rfl ?_
    refine j_iload_n F 2 dX10_isCached_14 rfl ?_
    refine j_iconst F (v := 0) dX10_isCached_15 (by decide) ?_
    refine j_bipush F (v := 99) dX10_isCached_16 (by decide) ?_
    refine j_ecallS F kX10_84 (As := [.int y, .int 0, .int 99]) (rest := [.ref (ad 0)]) (c_X10_in_no l D ay y 0 99 (show oob y 0 99 from h.resolve_left hq)) rfl rfl rfl rfl ⟨Nat.le_of_ble_eq_true rfl, Nat.le_of_ble_eq_true rfl⟩ dX10_isCached_18 (fun v w hw => ?_)
    obtain ⟨rfl, rfl⟩ := hw
    refine ⟨rfl, ?_⟩
    refine j_top 0 rfl ?_
    refine j_iconst F (v := 1) dX10_isCached_21 (by decide) ?_
    refine j_scallV F kX10_88 (As := [.int 0, .int 1]) (rest := []) (c_X10_fails_no l D ay ad (ups vi 0 0) ga 1 rfl (show ¬ 1 = 0 from by decide)) 0 0 20 rfl rfl rfl rfl rfl rfl ⟨Nat.le_of_ble_eq_true rfl, Nat.le_of_ble_eq_true rfl⟩ dX10_isCached_22 (fun v w hw => ?_)
    obtain ⟨rfl, rfl⟩ := hw
    refine ⟨rfl, (mW ay ad (ups vi 0 1) ga), (slp_all _ _ rfl).trans rfl, ?_⟩
    refine j_top 1 rfl ?_
    refine j_if_ne F 42 dX10_isCached_25 (by decide) (fun c_25 => ?_) (fun c_25 => absurd c_25 (by decide))
    refine j_iconst F (v := 0) dX10_isCached_42 (by decide) ?_
    exact j_zret F (Or.inl rfl) ⟨ups vi 0 1, ga, (GI_id hG (fun q hq => (ups_ne (by omega)).trans rfl) (fun q hq => rfl)), rfl, rfl, rfl⟩ dX10_isCached_43 (Nat.le_of_ble_eq_true rfl) (Nat.le_of_ble_eq_true rfl)

set_option maxHeartbeats 4000000 in
set_option maxRecDepth 100000 in
theorem c_X10_cachedAt_ok (l : Launch) (D : va_G) (ay : Nat → ClassId) (ad : Nat → Nat) (vi : Nat → Int32) (ga : Nat → Nat → Int32) (Z : DS) (i : Nat) (j : Nat) (hG : GI Z vi ga) (hi : i < 8) (hj : j < Z.1 (2 + i)) : jM l yX10_cachedAt (jws yX10_cachedAt cX10_cachedAt 3 (some .int)) 2 43 0 0 D ay [.ref (ad 0), .int (nI (i + 1)), .int (nI j)] (mW ay ad vi ga) (fun v w => ∃ (vi' : Nat → Int32) (ga' : Nat → Nat → Int32), GI Z vi' ga' ∧ vi' 0 = 0 ∧ v = some (.int (Z.2.2 (4 + i) j)) ∧ w = mW ay ad vi' ga') := by
  refine jM_of l (by decide) [(0, .ref (ad 0)), (1, .int (nI (i + 1))), (2, .int (nI j))] rfl rfl (fun p9 e9 s9 m9 a9 b9 me9 c9 A9 F => ?_)
  have hL5 := hG.2.2.2.2.1
  have h13 := hL5.1
  have hle := hG.2.2.1.2.2
  have hc1 := hG.2.2.2.1 i hi
  have hcn := hc1.1
  refine j_aload_n F 0 dX10_cachedAt_0 rfl ?_
  refine j_iconst F (v := 0) dX10_cachedAt_1 (by decide) ?_
  refine j_putf F fX10_1 0 (mW ay ad (ups vi 0 0) ga) rfl rfl rfl rfl rfl (Nat.le_of_ble_eq_true rfl) dX10_cachedAt_2 ?_
  refine j_aload_n F 0 dX10_cachedAt_5 rfl ?_
  refine j_iload_n F 1 dX10_cachedAt_6 rfl ?_
  refine j_scallV F kX10_141 (As := [.int (nI (i + 1))]) (rest := []) (c_X10_noCache_ok l D ay ad (ups vi 0 0) ga i rfl (show i < 8 from hi)) 0 0 20 rfl rfl rfl rfl rfl rfl ⟨Nat.le_of_ble_eq_true rfl, Nat.le_of_ble_eq_true rfl⟩ dX10_cachedAt_7 (fun v w hw => ?_)
  obtain ⟨rfl, rfl⟩ := hw
  refine ⟨rfl, (mW ay ad (ups vi 0 0) ga), (slp_all _ _ rfl).trans rfl, ?_⟩
  refine j_top 0 rfl ?_
  refine j_if_ne F 34 dX10_cachedAt_10 (by decide) (fun c_10 => absurd (by decide) c_10) (fun c_10 => ?_)
  refine j_aload_n F 0 dX10_cachedAt_13 rfl ?_
  refine j_iload_n F 2 dX10_cachedAt_14 rfl ?_
  refine j_iconst F (v := 0) dX10_cachedAt_15 (by decide) ?_
  refine j_aload_n F 0 dX10_cachedAt_16 rfl ?_
  refine j_getf F fX10_39 0 (v := .ref (ad 7)) rfl rfl dX10_cachedAt_17 ?_
  refine j_iload_n F 1 dX10_cachedAt_20 rfl ?_
  refine j_iald F 7 (i + 1) (f := ga 6) rfl rfl (by omega) (Nat.le_of_ble_eq_true rfl) dX10_cachedAt_21 ?_
  refine j_top (nI (Z.1 (2 + i))) hc1.2.1 ?_
  refine j_iconst F (v := 1) dX10_cachedAt_22 (by decide) ?_
  refine j_isub F dX10_cachedAt_23 ?_
  refine j_ecallS F kX10_84 (As := [.int (nI j), .int 0, .int (nI (Z.1 (2 + i)) - 1)]) (rest := [.ref (ad 0)]) (c_X10_in l D ay (nI j) 0 (nI (Z.1 (2 + i)) - 1) (show ¬ oob (nI j) 0 (nI (Z.1 (2 + i)) - 1) from nop hj (by omega))) rfl rfl rfl rfl ⟨Nat.le_of_ble_eq_true rfl, Nat.le_of_ble_eq_true rfl⟩ dX10_cachedAt_24 (fun v w hw => ?_)
  obtain ⟨rfl, rfl⟩ := hw
  refine ⟨rfl, ?_⟩
  refine j_top 1 rfl ?_
  refine j_iconst F (v := 2) dX10_cachedAt_27 (by decide) ?_
  refine j_scallV F kX10_88 (As := [.int 1, .int 2]) (rest := []) (c_X10_fails_ok l D ay ad (ups vi 0 0) ga 2 rfl) 0 0 20 rfl rfl rfl rfl rfl rfl ⟨Nat.le_of_ble_eq_true rfl, Nat.le_of_ble_eq_true rfl⟩ dX10_cachedAt_28 (fun v w hw => ?_)
  obtain ⟨rfl, rfl⟩ := hw
  refine ⟨rfl, (mW ay ad (ups vi 0 0) ga), (slp_all _ _ rfl).trans rfl, ?_⟩
  refine j_top 0 rfl ?_
  refine j_if_eq F 38 dX10_cachedAt_31 (by decide) (fun c_31 => ?_) (fun c_31 => absurd (by decide) c_31)
  refine j_aload_n F 0 dX10_cachedAt_38 rfl ?_
  refine j_getf F fX10_36 0 (v := .ref (ad 6)) rfl rfl dX10_cachedAt_39 ?_
  refine j_bipush F (v := 9) dX10_cachedAt_42 (by decide) ?_
  refine j_iload_n F 1 dX10_cachedAt_44 rfl ?_
  refine j_imul F dX10_cachedAt_45 ?_
  refine j_top (nI (9 * (i + 1))) (pk_mul 9 _) ?_
  refine j_iload_n F 2 dX10_cachedAt_46 rfl ?_
  refine j_iadd F dX10_cachedAt_47 ?_
  refine j_top (nI (9 * (i + 1) + j)) (nI_add _ _) ?_
  refine j_iald F 6 (9 * (i + 1) + j) (f := ga 5) rfl rfl (by omega) (Nat.le_of_ble_eq_true rfl) dX10_cachedAt_48 ?_
  refine j_top (Z.2.2 (4 + i) j) (hc1.2.2.2 j hj) ?_
  exact j_iret F ⟨ups vi 0 0, ga, (GI_id hG (fun q hq => (ups_ne (by omega)).trans rfl) (fun q hq => rfl)), rfl, rfl, rfl⟩ dX10_cachedAt_49 (Nat.le_of_ble_eq_true rfl) (Nat.le_of_ble_eq_true rfl)

set_option maxHeartbeats 4000000 in
set_option maxRecDepth 100000 in
theorem c_X10_cachedAt_no1 (l : Launch) (D : va_G) (ay : Nat → ClassId) (ad : Nat → Nat) (vi : Nat → Int32) (ga : Nat → Nat → Int32) (Z : DS) (x : Int32) (y : Int32) (hG : GI Z vi ga) (h : oob x 1 8) : jM l yX10_cachedAt (jws yX10_cachedAt cX10_cachedAt 3 (some .int)) 2 43 0 0 D ay [.ref (ad 0), .int x, .int y] (mW ay ad vi ga) (fun v w => ∃ (vi' : Nat → Int32) (ga' : Nat → Nat → Int32), GI Z vi' ga' ∧ vi' 0 = 1 ∧ v = some (.int 0) ∧ w = mW ay ad vi' ga') := by
  refine jM_of l (by decide) [(0, .ref (ad 0)), (1, .int x), (2, .int y)] rfl rfl (fun p9 e9 s9 m9 a9 b9 me9 c9 A9 F => ?_)
  refine j_aload_n F 0 dX10_cachedAt_0 rfl ?_
  refine j_iconst F (v := 0) dX10_cachedAt_1 (by decide) ?_
  refine j_putf F fX10_1 0 (mW ay ad (ups vi 0 0) ga) rfl rfl rfl rfl rfl (Nat.le_of_ble_eq_true rfl) dX10_cachedAt_2 ?_
  refine j_aload_n F 0 dX10_cachedAt_5 rfl ?_
  refine j_iload_n F 1 dX10_cachedAt_6 rfl ?_
  refine j_scallV F kX10_141 (As := [.int x]) (rest := []) (c_X10_noCache_no l D ay ad (ups vi 0 0) ga x rfl (show oob x 1 8 from h)) 0 0 20 rfl rfl rfl rfl rfl rfl ⟨Nat.le_of_ble_eq_true rfl, Nat.le_of_ble_eq_true rfl⟩ dX10_cachedAt_7 (fun v w hw => ?_)
  obtain ⟨rfl, rfl⟩ := hw
  refine ⟨rfl, (mW ay ad (ups vi 0 1) ga), (slp_all _ _ rfl).trans rfl, ?_⟩
  refine j_top 1 rfl ?_
  refine j_if_ne F 34 dX10_cachedAt_10 (by decide) (fun c_10 => ?_) (fun c_10 => absurd c_10 (by decide))
  refine j_iconst F (v := 0) dX10_cachedAt_34 (by decide) ?_
  refine j_goto F 49 dX10_cachedAt_35 (by decide) ?_
  exact j_iret F ⟨ups vi 0 1, ga, (GI_id hG (fun q hq => (ups_ne (by omega)).trans rfl) (fun q hq => rfl)), rfl, rfl, rfl⟩ dX10_cachedAt_49 (Nat.le_of_ble_eq_true rfl) (Nat.le_of_ble_eq_true rfl)

set_option maxHeartbeats 4000000 in
set_option maxRecDepth 100000 in
theorem c_X10_cachedAt_no2 (l : Launch) (D : va_G) (ay : Nat → ClassId) (ad : Nat → Nat) (vi : Nat → Int32) (ga : Nat → Nat → Int32) (Z : DS) (i : Nat) (y : Int32) (hG : GI Z vi ga) (hi : i < 8) (h : oop y (Z.1 (2 + i))) : jM l yX10_cachedAt (jws yX10_cachedAt cX10_cachedAt 3 (some .int)) 2 43 0 0 D ay [.ref (ad 0), .int (nI (i + 1)), .int y] (mW ay ad vi ga) (fun v w => ∃ (vi' : Nat → Int32) (ga' : Nat → Nat → Int32), GI Z vi' ga' ∧ vi' 0 = 2 ∧ v = some (.int 0) ∧ w = mW ay ad vi' ga') := by
  refine jM_of l (by decide) [(0, .ref (ad 0)), (1, .int (nI (i + 1))), (2, .int y)] rfl rfl (fun p9 e9 s9 m9 a9 b9 me9 c9 A9 F => ?_)
  have hc1 := hG.2.2.2.1 i hi
  have hcn := hc1.1
  refine j_aload_n F 0 dX10_cachedAt_0 rfl ?_
  refine j_iconst F (v := 0) dX10_cachedAt_1 (by decide) ?_
  refine j_putf F fX10_1 0 (mW ay ad (ups vi 0 0) ga) rfl rfl rfl rfl rfl (Nat.le_of_ble_eq_true rfl) dX10_cachedAt_2 ?_
  refine j_aload_n F 0 dX10_cachedAt_5 rfl ?_
  refine j_iload_n F 1 dX10_cachedAt_6 rfl ?_
  refine j_scallV F kX10_141 (As := [.int (nI (i + 1))]) (rest := []) (c_X10_noCache_ok l D ay ad (ups vi 0 0) ga i rfl (show i < 8 from hi)) 0 0 20 rfl rfl rfl rfl rfl rfl ⟨Nat.le_of_ble_eq_true rfl, Nat.le_of_ble_eq_true rfl⟩ dX10_cachedAt_7 (fun v w hw => ?_)
  obtain ⟨rfl, rfl⟩ := hw
  refine ⟨rfl, (mW ay ad (ups vi 0 0) ga), (slp_all _ _ rfl).trans rfl, ?_⟩
  refine j_top 0 rfl ?_
  refine j_if_ne F 34 dX10_cachedAt_10 (by decide) (fun c_10 => absurd (by decide) c_10) (fun c_10 => ?_)
  refine j_aload_n F 0 dX10_cachedAt_13 rfl ?_
  refine j_iload_n F 2 dX10_cachedAt_14 rfl ?_
  refine j_iconst F (v := 0) dX10_cachedAt_15 (by decide) ?_
  refine j_aload_n F 0 dX10_cachedAt_16 rfl ?_
  refine j_getf F fX10_39 0 (v := .ref (ad 7)) rfl rfl dX10_cachedAt_17 ?_
  refine j_iload_n F 1 dX10_cachedAt_20 rfl ?_
  refine j_iald F 7 (i + 1) (f := ga 6) rfl rfl (by omega) (Nat.le_of_ble_eq_true rfl) dX10_cachedAt_21 ?_
  refine j_top (nI (Z.1 (2 + i))) hc1.2.1 ?_
  refine j_iconst F (v := 1) dX10_cachedAt_22 (by decide) ?_
  refine j_isub F dX10_cachedAt_23 ?_
  refine j_ecallS F kX10_84 (As := [.int y, .int 0, .int (nI (Z.1 (2 + i)) - 1)]) (rest := [.ref (ad 0)]) (c_X10_in_no l D ay y 0 (nI (Z.1 (2 + i)) - 1) (show oob y 0 (nI (Z.1 (2 + i)) - 1) from (oop_oob (by omega)).mpr h)) rfl rfl rfl rfl ⟨Nat.le_of_ble_eq_true rfl, Nat.le_of_ble_eq_true rfl⟩ dX10_cachedAt_24 (fun v w hw => ?_)
  obtain ⟨rfl, rfl⟩ := hw
  refine ⟨rfl, ?_⟩
  refine j_top 0 rfl ?_
  refine j_iconst F (v := 2) dX10_cachedAt_27 (by decide) ?_
  refine j_scallV F kX10_88 (As := [.int 0, .int 2]) (rest := []) (c_X10_fails_no l D ay ad (ups vi 0 0) ga 2 rfl (show ¬ 2 = 0 from by decide)) 0 0 20 rfl rfl rfl rfl rfl rfl ⟨Nat.le_of_ble_eq_true rfl, Nat.le_of_ble_eq_true rfl⟩ dX10_cachedAt_28 (fun v w hw => ?_)
  obtain ⟨rfl, rfl⟩ := hw
  refine ⟨rfl, (mW ay ad (ups vi 0 2) ga), (slp_all _ _ rfl).trans rfl, ?_⟩
  refine j_top 1 rfl ?_
  refine j_if_eq F 38 dX10_cachedAt_31 (by decide) (fun c_31 => absurd c_31 (by decide)) (fun c_31 => ?_)
  refine j_iconst F (v := 0) dX10_cachedAt_34 (by decide) ?_
  refine j_goto F 49 dX10_cachedAt_35 (by decide) ?_
  exact j_iret F ⟨ups vi 0 2, ga, (GI_id hG (fun q hq => (ups_ne (by omega)).trans rfl) (fun q hq => rfl)), rfl, rfl, rfl⟩ dX10_cachedAt_49 (Nat.le_of_ble_eq_true rfl) (Nat.le_of_ble_eq_true rfl)

set_option maxHeartbeats 4000000 in
set_option maxRecDepth 100000 in
theorem c_X10_requests_ok (l : Launch) (D : va_G) (ay : Nat → ClassId) (ad : Nat → Nat) (vi : Nat → Int32) (ga : Nat → Nat → Int32) (Z : DS) (hG : GI Z vi ga) : jM l yX10_requests (jws yX10_requests cX10_requests 1 (some .int)) 0 0 0 0 D ay [.ref (ad 0)] (mW ay ad vi ga) (fun v w => ∃ (vi' : Nat → Int32) (ga' : Nat → Nat → Int32), GI Z vi' ga' ∧ vi' 0 = 0 ∧ v = some (.int (nI (Z.1 14))) ∧ w = mW ay ad vi' ga') := by
  refine jM_of l (by decide) [(0, .ref (ad 0))] rfl rfl (fun p9 e9 s9 m9 a9 b9 me9 c9 A9 F => ?_)
  have hL5 := hG.2.2.2.2.1
  have h13 := hL5.1
  have hle := hG.2.2.1.2.2
  refine j_aload_n F 0 dX10_requests_0 rfl ?_
  refine j_iconst F (v := 0) dX10_requests_1 (by decide) ?_
  refine j_putf F fX10_1 0 (mW ay ad (ups vi 0 0) ga) rfl rfl rfl rfl rfl (Nat.le_of_ble_eq_true rfl) dX10_requests_2 ?_
  refine j_aload_n F 0 dX10_requests_5 rfl ?_
  refine j_getf F fX10_127 0 (v := .int (vi 13)) rfl rfl dX10_requests_6 ?_
  refine j_top (nI (Z.1 14)) h13 ?_
  exact j_iret F ⟨ups vi 0 0, ga, (GI_id hG (fun q hq => (ups_ne (by omega)).trans rfl) (fun q hq => rfl)), rfl, rfl, rfl⟩ dX10_requests_9 (Nat.le_of_ble_eq_true rfl) (Nat.le_of_ble_eq_true rfl)

set_option maxHeartbeats 4000000 in
set_option maxRecDepth 100000 in
theorem c_X10_requestAt_ok (l : Launch) (D : va_G) (ay : Nat → ClassId) (ad : Nat → Nat) (vi : Nat → Int32) (ga : Nat → Nat → Int32) (Z : DS) (r : Nat) (hG : GI Z vi ga) (hr : r < Z.1 14) : jM l yX10_requestAt (jws yX10_requestAt cX10_requestAt 2 (some .int)) 2 43 0 0 D ay [.ref (ad 0), .int (nI r)] (mW ay ad vi ga) (fun v w => ∃ (vi' : Nat → Int32) (ga' : Nat → Nat → Int32), GI Z vi' ga' ∧ vi' 0 = 0 ∧ v = some (.int (Z.2.2 12 r)) ∧ w = mW ay ad vi' ga') := by
  refine jM_of l (by decide) [(0, .ref (ad 0)), (1, .int (nI r))] rfl rfl (fun p9 e9 s9 m9 a9 b9 me9 c9 A9 F => ?_)
  have hL5 := hG.2.2.2.2.1
  have h13 := hL5.1
  have hle := hG.2.2.1.2.2
  refine j_aload_n F 0 dX10_requestAt_0 rfl ?_
  refine j_iconst F (v := 0) dX10_requestAt_1 (by decide) ?_
  refine j_putf F fX10_1 0 (mW ay ad (ups vi 0 0) ga) rfl rfl rfl rfl rfl (Nat.le_of_ble_eq_true rfl) dX10_requestAt_2 ?_
  refine j_aload_n F 0 dX10_requestAt_5 rfl ?_
  refine j_iload_n F 1 dX10_requestAt_6 rfl ?_
  refine j_scallV F kX10_144 (As := [.int (nI r)]) (rest := []) (c_X10_noRequest_ok l D ay ad (ups vi 0 0) ga r (Z.1 14) rfl (show vi 13 = nI (Z.1 14) from h13) (show (Z.1 14) < 2 ^ 31 from by omega) (show r < (Z.1 14) from hr)) 0 0 20 rfl rfl rfl rfl rfl rfl ⟨Nat.le_of_ble_eq_true rfl, Nat.le_of_ble_eq_true rfl⟩ dX10_requestAt_7 (fun v w hw => ?_)
  obtain ⟨rfl, rfl⟩ := hw
  refine ⟨rfl, (mW ay ad (ups vi 0 0) ga), (slp_all _ _ rfl).trans rfl, ?_⟩
  refine j_top 0 rfl ?_
  refine j_if_eq F 17 dX10_requestAt_10 (by decide) (fun c_10 => ?_) (fun c_10 => absurd (by decide) c_10)
  refine j_aload_n F 0 dX10_requestAt_17 rfl ?_
  refine j_getf F fX10_45 0 (v := .ref (ad 9)) rfl rfl dX10_requestAt_18 ?_
  refine j_iload_n F 1 dX10_requestAt_21 rfl ?_
  refine j_iald F 9 r (f := ga 8) rfl rfl (by omega) (Nat.le_of_ble_eq_true rfl) dX10_requestAt_22 ?_
  refine j_top (Z.2.2 12 r) (hL5.2.1 r hr) ?_
  exact j_iret F ⟨ups vi 0 0, ga, (GI_id hG (fun q hq => (ups_ne (by omega)).trans rfl) (fun q hq => rfl)), rfl, rfl, rfl⟩ dX10_requestAt_23 (Nat.le_of_ble_eq_true rfl) (Nat.le_of_ble_eq_true rfl)

set_option maxHeartbeats 4000000 in
set_option maxRecDepth 100000 in
theorem c_X10_requestAt_no (l : Launch) (D : va_G) (ay : Nat → ClassId) (ad : Nat → Nat) (vi : Nat → Int32) (ga : Nat → Nat → Int32) (Z : DS) (x : Int32) (hG : GI Z vi ga) (h : oop x (Z.1 14)) : jM l yX10_requestAt (jws yX10_requestAt cX10_requestAt 2 (some .int)) 2 43 0 0 D ay [.ref (ad 0), .int x] (mW ay ad vi ga) (fun v w => ∃ (vi' : Nat → Int32) (ga' : Nat → Nat → Int32), GI Z vi' ga' ∧ vi' 0 = 1 ∧ v = some (.int 0) ∧ w = mW ay ad vi' ga') := by
  refine jM_of l (by decide) [(0, .ref (ad 0)), (1, .int x)] rfl rfl (fun p9 e9 s9 m9 a9 b9 me9 c9 A9 F => ?_)
  have hL5 := hG.2.2.2.2.1
  have h13 := hL5.1
  have hle := hG.2.2.1.2.2
  refine j_aload_n F 0 dX10_requestAt_0 rfl ?_
  refine j_iconst F (v := 0) dX10_requestAt_1 (by decide) ?_
  refine j_putf F fX10_1 0 (mW ay ad (ups vi 0 0) ga) rfl rfl rfl rfl rfl (Nat.le_of_ble_eq_true rfl) dX10_requestAt_2 ?_
  refine j_aload_n F 0 dX10_requestAt_5 rfl ?_
  refine j_iload_n F 1 dX10_requestAt_6 rfl ?_
  refine j_scallV F kX10_144 (As := [.int x]) (rest := []) (c_X10_noRequest_no l D ay ad (ups vi 0 0) ga x (Z.1 14) rfl (show vi 13 = nI (Z.1 14) from h13) (show (Z.1 14) < 2 ^ 31 from by omega) (show oop x (Z.1 14) from h)) 0 0 20 rfl rfl rfl rfl rfl rfl ⟨Nat.le_of_ble_eq_true rfl, Nat.le_of_ble_eq_true rfl⟩ dX10_requestAt_7 (fun v w hw => ?_)
  obtain ⟨rfl, rfl⟩ := hw
  refine ⟨rfl, (mW ay ad (ups vi 0 1) ga), (slp_all _ _ rfl).trans rfl, ?_⟩
  refine j_top 1 rfl ?_
  refine j_if_eq F 17 dX10_requestAt_10 (by decide) (fun c_10 => absurd c_10 (by decide)) (fun c_10 => ?_)
  refine j_iconst F (v := 0) dX10_requestAt_13 (by decide) ?_
  refine j_goto F 23 dX10_requestAt_14 (by decide) ?_
  exact j_iret F ⟨ups vi 0 1, ga, (GI_id hG (fun q hq => (ups_ne (by omega)).trans rfl) (fun q hq => rfl)), rfl, rfl, rfl⟩ dX10_requestAt_23 (Nat.le_of_ble_eq_true rfl) (Nat.le_of_ble_eq_true rfl)

set_option maxHeartbeats 4000000 in
set_option maxRecDepth 100000 in
theorem c_X10_distanceOf_ok (l : Launch) (D : va_G) (ay : Nat → ClassId) (ad : Nat → Nat) (vi : Nat → Int32) (ga : Nat → Nat → Int32) (Z : DS) (r : Nat) (hG : GI Z vi ga) (hr : r < Z.1 14) : jM l yX10_distanceOf (jws yX10_distanceOf cX10_distanceOf 2 (some .int)) 2 43 0 0 D ay [.ref (ad 0), .int (nI r)] (mW ay ad vi ga) (fun v w => ∃ (vi' : Nat → Int32) (ga' : Nat → Nat → Int32), GI Z vi' ga' ∧ vi' 0 = 0 ∧ v = some (.int (Z.2.2 13 r)) ∧ w = mW ay ad vi' ga') := by
  refine jM_of l (by decide) [(0, .ref (ad 0)), (1, .int (nI r))] rfl rfl (fun p9 e9 s9 m9 a9 b9 me9 c9 A9 F => ?_)
  have hL5 := hG.2.2.2.2.1
  have h13 := hL5.1
  have hle := hG.2.2.1.2.2
  obtain ⟨-, f, n, hk, hLO, hds⟩ := hL5.2.2.2 r (by omega)
  refine j_aload_n F 0 dX10_distanceOf_0 rfl ?_
  refine j_iconst F (v := 0) dX10_distanceOf_1 (by decide) ?_
  refine j_putf F fX10_1 0 (mW ay ad (ups vi 0 0) ga) rfl rfl rfl rfl rfl (Nat.le_of_ble_eq_true rfl) dX10_distanceOf_2 ?_
  refine j_aload_n F 0 dX10_distanceOf_5 rfl ?_
  refine j_iload_n F 1 dX10_distanceOf_6 rfl ?_
  refine j_scallV F kX10_144 (As := [.int (nI r)]) (rest := []) (c_X10_noRequest_ok l D ay ad (ups vi 0 0) ga r (Z.1 14) rfl (show vi 13 = nI (Z.1 14) from h13) (show (Z.1 14) < 2 ^ 31 from by omega) (show r < (Z.1 14) from hr)) 0 0 20 rfl rfl rfl rfl rfl rfl ⟨Nat.le_of_ble_eq_true rfl, Nat.le_of_ble_eq_true rfl⟩ dX10_distanceOf_7 (fun v w hw => ?_)
  obtain ⟨rfl, rfl⟩ := hw
  refine ⟨rfl, (mW ay ad (ups vi 0 0) ga), (slp_all _ _ rfl).trans rfl, ?_⟩
  refine j_top 0 rfl ?_
  refine j_if_eq F 17 dX10_distanceOf_10 (by decide) (fun c_10 => ?_) (fun c_10 => absurd (by decide) c_10)
  refine j_aload_n F 0 dX10_distanceOf_17 rfl ?_
  refine j_iload_n F 1 dX10_distanceOf_18 rfl ?_
  refine j_scallV F kX10_147 (As := [.int (nI r)]) (rest := []) (c_X10_distance l D ay ad (ups vi 0 0) ga r n f (Z.2.2 12) (show kI n f from hk) (show LO f n (Z.2.2 12) r from hLO) (show ∀ t, t ≤ r → ga 8 t = (Z.2.2 12) t from fun t ht => hL5.2.1 t (by omega)) (show r < 1000 from by omega)) 0 0 20 rfl rfl rfl rfl rfl rfl ⟨Nat.le_of_ble_eq_true rfl, Nat.le_of_ble_eq_true rfl⟩ dX10_distanceOf_19 (fun v w hw => ?_)
  obtain ⟨g9_19, rfl, rfl⟩ := hw
  refine ⟨rfl, (mW ay ad (ups vi 0 0) (ups ga 9 g9_19)), (slp_all _ _ rfl).trans rfl, ?_⟩
  refine j_top (Z.2.2 13 r) hds.symm ?_
  exact j_iret F ⟨ups vi 0 0, ups ga 9 g9_19, (GI_id hG (fun q hq => (ups_ne (by omega)).trans rfl) (fun q hq => (ups_ne (by omega)).trans rfl)), rfl, rfl, rfl⟩ dX10_distanceOf_22 (Nat.le_of_ble_eq_true rfl) (Nat.le_of_ble_eq_true rfl)

set_option maxHeartbeats 4000000 in
set_option maxRecDepth 100000 in
theorem c_X10_distanceOf_no (l : Launch) (D : va_G) (ay : Nat → ClassId) (ad : Nat → Nat) (vi : Nat → Int32) (ga : Nat → Nat → Int32) (Z : DS) (x : Int32) (hG : GI Z vi ga) (h : oop x (Z.1 14)) : jM l yX10_distanceOf (jws yX10_distanceOf cX10_distanceOf 2 (some .int)) 2 43 0 0 D ay [.ref (ad 0), .int x] (mW ay ad vi ga) (fun v w => ∃ (vi' : Nat → Int32) (ga' : Nat → Nat → Int32), GI Z vi' ga' ∧ vi' 0 = 1 ∧ v = some (.int 0) ∧ w = mW ay ad vi' ga') := by
  refine jM_of l (by decide) [(0, .ref (ad 0)), (1, .int x)] rfl rfl (fun p9 e9 s9 m9 a9 b9 me9 c9 A9 F => ?_)
  have hL5 := hG.2.2.2.2.1
  have h13 := hL5.1
  have hle := hG.2.2.1.2.2
  refine j_aload_n F 0 dX10_distanceOf_0 rfl ?_
  refine j_iconst F (v := 0) dX10_distanceOf_1 (by decide) ?_
  refine j_putf F fX10_1 0 (mW ay ad (ups vi 0 0) ga) rfl rfl rfl rfl rfl (Nat.le_of_ble_eq_true rfl) dX10_distanceOf_2 ?_
  refine j_aload_n F 0 dX10_distanceOf_5 rfl ?_
  refine j_iload_n F 1 dX10_distanceOf_6 rfl ?_
  refine j_scallV F kX10_144 (As := [.int x]) (rest := []) (c_X10_noRequest_no l D ay ad (ups vi 0 0) ga x (Z.1 14) rfl (show vi 13 = nI (Z.1 14) from h13) (show (Z.1 14) < 2 ^ 31 from by omega) (show oop x (Z.1 14) from h)) 0 0 20 rfl rfl rfl rfl rfl rfl ⟨Nat.le_of_ble_eq_true rfl, Nat.le_of_ble_eq_true rfl⟩ dX10_distanceOf_7 (fun v w hw => ?_)
  obtain ⟨rfl, rfl⟩ := hw
  refine ⟨rfl, (mW ay ad (ups vi 0 1) ga), (slp_all _ _ rfl).trans rfl, ?_⟩
  refine j_top 1 rfl ?_
  refine j_if_eq F 17 dX10_distanceOf_10 (by decide) (fun c_10 => absurd c_10 (by decide)) (fun c_10 => ?_)
  refine j_iconst F (v := 0) dX10_distanceOf_13 (by decide) ?_
  refine j_goto F 22 dX10_distanceOf_14 (by decide) ?_
  exact j_iret F ⟨ups vi 0 1, ga, (GI_id hG (fun q hq => (ups_ne (by omega)).trans rfl) (fun q hq => rfl)), rfl, rfl, rfl⟩ dX10_distanceOf_22 (Nat.le_of_ble_eq_true rfl) (Nat.le_of_ble_eq_true rfl)

set_option maxHeartbeats 4000000 in
set_option maxRecDepth 100000 in
theorem c_X10_nearerThan (l : Launch) (D : va_G) (ay : Nat → ClassId) (ad : Nat → Nat) (vi : Nat → Int32) (ga : Nat → Nat → Int32) (Z : DS) (d : Int32) (hG : GI Z vi ga) : jM l yX10_nearerThan (jws yX10_nearerThan cX10_nearerThan 5 (some .int)) 1 23 0 0 D ay [.ref (ad 0), .int d] (mW ay ad vi ga) (fun v w => ∃ (g9 : Nat → Int32), v = some (.int (nI (cb (Z.2.2 13) d (Z.1 14)))) ∧ w = (mW ay ad vi (ups ga 9 g9))) := by
  refine jM_of l (by decide) [(0, .ref (ad 0)), (1, .int d)] rfl rfl (fun p9 e9 s9 m9 a9 b9 me9 c9 A9 F => ?_)
  have hL5 := hG.2.2.2.2.1
  have h13 := hL5.1
  have hle := hG.2.2.1.2.2
  refine j_iconst F (v := 0) dX10_nearerThan_0 (by decide) ?_
  refine j_istore_n F 2 [(2, .int 0), (0, .ref (ad 0)), (1, .int d)] dX10_nearerThan_1 rfl (by decide) rfl ?_
  refine j_iconst F (v := 0) dX10_nearerThan_2 (by decide) ?_
  refine j_istore_n F 3 [(3, .int 0), (2, .int 0), (0, .ref (ad 0)), (1, .int d)] dX10_nearerThan_3 rfl (by decide) rfl ?_
  refine j_loop (σ := Nat × (Nat → Int32)) (fun z => z.1 ≤ Z.1 14) (fun z => Z.1 14 - z.1) (fun z => [(3, .int (nI z.1)), (2, .int (nI (cb (Z.2.2 13) d z.1))), (0, .ref (ad 0)), (1, .int d)]) (fun z => mW ay ad vi (ups ga 9 z.2)) (0, ga 9) (Nat.zero_le _) rfl (by rw [show ups ga 9 (ga 9) = ga from ups_self]) (fun z hz ih => ?_)
  obtain ⟨r, g1⟩ := z
  replace hz : r ≤ Z.1 14 := hz
  refine j_nf (mW ay ad vi (ups ga 9 g1)) [(3, .int (nI r)), (2, .int (nI (cb (Z.2.2 13) d r))), (0, .ref (ad 0)), (1, .int d)] rfl rfl ?_
  refine j_iload_n F 0 dX10_nearerThan_4 rfl ?_
  refine j_aload_n F 2 dX10_nearerThan_5 rfl ?_
  refine j_getf F fX10_127 0 (v := .int (vi 13)) rfl rfl dX10_nearerThan_6 ?_
  refine j_top (nI (Z.1 14)) h13 ?_
  refine j_icmp_ge F 45 dX10_nearerThan_9 (by decide) (fun c_9 => ?_) (fun c_9 => ?_)
  · skip
    have n_9 := (n_le (Z.1 14) r rfl rfl (by omega) (by omega)).mp c_9
    refine j_iload_n F 1 dX10_nearerThan_45 rfl ?_
    exact j_iret F ⟨g1, by rw [show Z.1 14 = r by omega], rfl⟩ dX10_nearerThan_46 (Nat.le_of_ble_eq_true rfl) (Nat.le_of_ble_eq_true rfl)
  · skip
    have n_9 := mt (n_le (Z.1 14) r rfl rfl (by omega) (by omega)).mpr c_9
    obtain ⟨-, f, n, hk, hLO, hds⟩ := hL5.2.2.2 r (by omega)
    have hcb := cb_le (Z.2.2 13) d r
    refine j_aload_n F 2 dX10_nearerThan_12 rfl ?_
    refine j_iload_n F 0 dX10_nearerThan_13 rfl ?_
    refine j_scallV F kX10_147 (As := [.int (nI r)]) (rest := []) (c_X10_distance l D ay ad vi (ups ga 9 g1) r n f (Z.2.2 12) (show kI n f from hk) (show LO f n (Z.2.2 12) r from hLO) (show ∀ t, t ≤ r → ga 8 t = (Z.2.2 12) t from fun t ht => hL5.2.1 t (by omega)) (show r < 1000 from by omega)) 0 0 20 rfl rfl rfl rfl rfl rfl ⟨Nat.le_of_ble_eq_true rfl, Nat.le_of_ble_eq_true rfl⟩ dX10_nearerThan_14 (fun v w hw => ?_)
    obtain ⟨g9_14, rfl, rfl⟩ := hw
    refine ⟨rfl, (mW ay ad vi (ups ga 9 g9_14)), (slp_all _ _ rfl).trans rfl, ?_⟩
    refine j_top (Z.2.2 13 r) hds.symm ?_
    refine j_istore F 4 [(4, .int (Z.2.2 13 r)), (3, .int (nI r)), (2, .int (nI (cb (Z.2.2 13) d r))), (0, .ref (ad 0)), (1, .int d)] dX10_nearerThan_17 (by decide) rfl ?_
    refine j_iload_n F 2 dX10_nearerThan_19 rfl ?_
    refine j_iload F 0 dX10_nearerThan_20 rfl ?_
    refine j_iconst F (v := (-1)) dX10_nearerThan_22 (by decide) ?_
    refine j_icmp_eq F 36 dX10_nearerThan_23 (by decide) (fun c_23 => ?_) (fun c_23 => ?_)
    · skip
      refine j_iconst F (v := 0) dX10_nearerThan_36 (by decide) ?_
      refine j_iadd F dX10_nearerThan_37 ?_
      refine j_top (nI (cb (Z.2.2 13) d r + 0)) (nI_add _ _) ?_
      refine j_istore_n F 2 [(2, .int (nI (cb (Z.2.2 13) d r + 0))), (4, .int (Z.2.2 13 r)), (3, .int (nI r)), (0, .ref (ad 0)), (1, .int d)] dX10_nearerThan_38 rfl (by decide) rfl ?_
      refine j_iinc F 2 (nI (r + 1)) [(3, .int (nI (r + 1))), (2, .int (nI (cb (Z.2.2 13) d r + 0))), (4, .int (Z.2.2 13 r)), (0, .ref (ad 0)), (1, .int d)] dX10_nearerThan_39 rfl (nI_1 _) (by decide) rfl ?_
      refine j_goto F 4 dX10_nearerThan_42 (by decide) ?_
      have hcb2 : cb (Z.2.2 13) d r = cb (Z.2.2 13) d (r + 1) := (if_neg (fun h => h.1 c_23)).symm
      refine j_sub [0, 1, 3, 4] [(3, .int (nI (r + 1))), (2, .int (nI (cb (Z.2.2 13) d r + 0))), (0, .ref (ad 0)), (1, .int d)] rfl ?_
      refine j_nf (mW ay ad vi (ups ga 9 g9_14)) [(3, .int (nI (r + 1))), (2, .int (nI (cb (Z.2.2 13) d (r + 1)))), (0, .ref (ad 0)), (1, .int d)] rfl (by rw [← hcb2] <;> rfl) ?_
      exact ih (r + 1, g9_14) (by show r + 1 ≤ Z.1 14; omega) (by show Z.1 14 - (r + 1) < Z.1 14 - r; omega)
    · skip
      refine j_iload F 0 dX10_nearerThan_26 rfl ?_
      refine j_iload_n F 4 dX10_nearerThan_28 rfl ?_
      refine j_icmp_ge F 36 dX10_nearerThan_29 (by decide) (fun c_29 => ?_) (fun c_29 => ?_)
      · skip
        refine j_iconst F (v := 0) dX10_nearerThan_36 (by decide) ?_
        refine j_iadd F dX10_nearerThan_37 ?_
        refine j_top (nI (cb (Z.2.2 13) d r + 0)) (nI_add _ _) ?_
        refine j_istore_n F 2 [(2, .int (nI (cb (Z.2.2 13) d r + 0))), (4, .int (Z.2.2 13 r)), (3, .int (nI r)), (0, .ref (ad 0)), (1, .int d)] dX10_nearerThan_38 rfl (by decide) rfl ?_
        refine j_iinc F 2 (nI (r + 1)) [(3, .int (nI (r + 1))), (2, .int (nI (cb (Z.2.2 13) d r + 0))), (4, .int (Z.2.2 13 r)), (0, .ref (ad 0)), (1, .int d)] dX10_nearerThan_39 rfl (nI_1 _) (by decide) rfl ?_
        refine j_goto F 4 dX10_nearerThan_42 (by decide) ?_
        have hcb2 : cb (Z.2.2 13) d r = cb (Z.2.2 13) d (r + 1) := (if_neg (fun h => absurd h.2 (Int32.not_lt.mpr c_29))).symm
        refine j_sub [0, 1, 3, 4] [(3, .int (nI (r + 1))), (2, .int (nI (cb (Z.2.2 13) d r + 0))), (0, .ref (ad 0)), (1, .int d)] rfl ?_
        refine j_nf (mW ay ad vi (ups ga 9 g9_14)) [(3, .int (nI (r + 1))), (2, .int (nI (cb (Z.2.2 13) d (r + 1)))), (0, .ref (ad 0)), (1, .int d)] rfl (by rw [← hcb2] <;> rfl) ?_
        exact ih (r + 1, g9_14) (by show r + 1 ≤ Z.1 14; omega) (by show Z.1 14 - (r + 1) < Z.1 14 - r; omega)
      · skip
        refine j_iconst F (v := 1) dX10_nearerThan_32 (by decide) ?_
        refine j_goto F 37 dX10_nearerThan_33 (by decide) ?_
        refine j_iadd F dX10_nearerThan_37 ?_
        refine j_top (nI (cb (Z.2.2 13) d r + 1)) (nI_add _ _) ?_
        refine j_istore_n F 2 [(2, .int (nI (cb (Z.2.2 13) d r + 1))), (4, .int (Z.2.2 13 r)), (3, .int (nI r)), (0, .ref (ad 0)), (1, .int d)] dX10_nearerThan_38 rfl (by decide) rfl ?_
        refine j_iinc F 2 (nI (r + 1)) [(3, .int (nI (r + 1))), (2, .int (nI (cb (Z.2.2 13) d r + 1))), (4, .int (Z.2.2 13 r)), (0, .ref (ad 0)), (1, .int d)] dX10_nearerThan_39 rfl (nI_1 _) (by decide) rfl ?_
        refine j_goto F 4 dX10_nearerThan_42 (by decide) ?_
        have hcb2 : cb (Z.2.2 13) d r + 1 = cb (Z.2.2 13) d (r + 1) := (if_pos ⟨c_23, Int32.not_le.mp c_29⟩).symm
        refine j_sub [0, 1, 3, 4] [(3, .int (nI (r + 1))), (2, .int (nI (cb (Z.2.2 13) d r + 1))), (0, .ref (ad 0)), (1, .int d)] rfl ?_
        refine j_nf (mW ay ad vi (ups ga 9 g9_14)) [(3, .int (nI (r + 1))), (2, .int (nI (cb (Z.2.2 13) d (r + 1)))), (0, .ref (ad 0)), (1, .int d)] rfl (by rw [← hcb2] <;> rfl) ?_
        exact ih (r + 1, g9_14) (by show r + 1 ≤ Z.1 14; omega) (by show Z.1 14 - (r + 1) < Z.1 14 - r; omega)

set_option maxHeartbeats 4000000 in
set_option maxRecDepth 100000 in
theorem c_X10_nearer_ok (l : Launch) (D : va_G) (ay : Nat → ClassId) (ad : Nat → Nat) (vi : Nat → Int32) (ga : Nat → Nat → Int32) (Z : DS) (x : Int32) (hG : GI Z vi ga) (h : ¬ oob x 0 100) : jM l yX10_nearer (jws yX10_nearer cX10_nearer 2 (some .int)) 2 47 0 0 D ay [.ref (ad 0), .int x] (mW ay ad vi ga) (fun v w => ∃ (vi' : Nat → Int32) (ga' : Nat → Nat → Int32), GI Z vi' ga' ∧ vi' 0 = 0 ∧ v = some (.int (nI (cb (Z.2.2 13) x (Z.1 14)))) ∧ w = mW ay ad vi' ga') := by
  refine jM_of l (by decide) [(0, .ref (ad 0)), (1, .int x)] rfl rfl (fun p9 e9 s9 m9 a9 b9 me9 c9 A9 F => ?_)
  have hL5 := hG.2.2.2.2.1
  have h13 := hL5.1
  have hle := hG.2.2.1.2.2
  refine j_aload_n F 0 dX10_nearer_0 rfl ?_
  refine j_iconst F (v := 0) dX10_nearer_1 (by decide) ?_
  refine j_putf F fX10_1 0 (mW ay ad (ups vi 0 0) ga) rfl rfl rfl rfl rfl (Nat.le_of_ble_eq_true rfl) dX10_nearer_2 ?_
  refine j_aload_n F 0 dX10_nearer_5 rfl ?_
  refine j_iload_n F 1 dX10_nearer_6 rfl ?_
  refine j_iconst F (v := 0) dX10_nearer_7 (by decide) ?_
  refine j_bipush F (v := 100) dX10_nearer_8 (by decide) ?_
  refine j_ecallS F kX10_84 (As := [.int x, .int 0, .int 100]) (rest := [.ref (ad 0)]) (c_X10_in l D ay x 0 100 (show ¬ oob x 0 100 from h)) rfl rfl rfl rfl ⟨Nat.le_of_ble_eq_true rfl, Nat.le_of_ble_eq_true rfl⟩ dX10_nearer_10 (fun v w hw => ?_)
  obtain ⟨rfl, rfl⟩ := hw
  refine ⟨rfl, ?_⟩
  refine j_top 1 rfl ?_
  refine j_iconst F (v := 1) dX10_nearer_13 (by decide) ?_
  refine j_scallV F kX10_88 (As := [.int 1, .int 1]) (rest := []) (c_X10_fails_ok l D ay ad (ups vi 0 0) ga 1 rfl) 0 0 20 rfl rfl rfl rfl rfl rfl ⟨Nat.le_of_ble_eq_true rfl, Nat.le_of_ble_eq_true rfl⟩ dX10_nearer_14 (fun v w hw => ?_)
  obtain ⟨rfl, rfl⟩ := hw
  refine ⟨rfl, (mW ay ad (ups vi 0 0) ga), (slp_all _ _ rfl).trans rfl, ?_⟩
  refine j_top 0 rfl ?_
  refine j_if_eq F 24 dX10_nearer_17 (by decide) (fun c_17 => ?_) (fun c_17 => absurd (by decide) c_17)
  refine j_aload_n F 0 dX10_nearer_24 rfl ?_
  refine j_iload_n F 1 dX10_nearer_25 rfl ?_
  refine j_scallV F kX10_150 (As := [.int x]) (rest := []) (c_X10_nearerThan l D ay ad (ups vi 0 0) ga Z x (show GI Z (ups vi 0 0) ga from GI_id hG (fun q hq => (ups_ne (by omega)).trans rfl) (fun q hq => rfl))) 0 0 20 rfl rfl rfl rfl rfl rfl ⟨Nat.le_of_ble_eq_true rfl, Nat.le_of_ble_eq_true rfl⟩ dX10_nearer_26 (fun v w hw => ?_)
  obtain ⟨g9_26, rfl, rfl⟩ := hw
  refine ⟨rfl, (mW ay ad (ups vi 0 0) (ups ga 9 g9_26)), (slp_all _ _ rfl).trans rfl, ?_⟩
  refine j_top (nI (cb (Z.2.2 13) x (Z.1 14))) rfl ?_
  exact j_iret F ⟨ups vi 0 0, ups ga 9 g9_26, (GI_id hG (fun q hq => (ups_ne (by omega)).trans rfl) (fun q hq => (ups_ne (by omega)).trans rfl)), rfl, rfl, rfl⟩ dX10_nearer_29 (Nat.le_of_ble_eq_true rfl) (Nat.le_of_ble_eq_true rfl)

set_option maxHeartbeats 4000000 in
set_option maxRecDepth 100000 in
theorem c_X10_nearer_no (l : Launch) (D : va_G) (ay : Nat → ClassId) (ad : Nat → Nat) (vi : Nat → Int32) (ga : Nat → Nat → Int32) (Z : DS) (x : Int32) (hG : GI Z vi ga) (h : oob x 0 100) : jM l yX10_nearer (jws yX10_nearer cX10_nearer 2 (some .int)) 2 47 0 0 D ay [.ref (ad 0), .int x] (mW ay ad vi ga) (fun v w => ∃ (vi' : Nat → Int32) (ga' : Nat → Nat → Int32), GI Z vi' ga' ∧ vi' 0 = 1 ∧ v = some (.int 0) ∧ w = mW ay ad vi' ga') := by
  refine jM_of l (by decide) [(0, .ref (ad 0)), (1, .int x)] rfl rfl (fun p9 e9 s9 m9 a9 b9 me9 c9 A9 F => ?_)
  refine j_aload_n F 0 dX10_nearer_0 rfl ?_
  refine j_iconst F (v := 0) dX10_nearer_1 (by decide) ?_
  refine j_putf F fX10_1 0 (mW ay ad (ups vi 0 0) ga) rfl rfl rfl rfl rfl (Nat.le_of_ble_eq_true rfl) dX10_nearer_2 ?_
  refine j_aload_n F 0 dX10_nearer_5 rfl ?_
  refine j_iload_n F 1 dX10_nearer_6 rfl ?_
  refine j_iconst F (v := 0) dX10_nearer_7 (by decide) ?_
  refine j_bipush F (v := 100) dX10_nearer_8 (by decide) ?_
  refine j_ecallS F kX10_84 (As := [.int x, .int 0, .int 100]) (rest := [.ref (ad 0)]) (c_X10_in_no l D ay x 0 100 (show oob x 0 100 from h)) rfl rfl rfl rfl ⟨Nat.le_of_ble_eq_true rfl, Nat.le_of_ble_eq_true rfl⟩ dX10_nearer_10 (fun v w hw => ?_)
  obtain ⟨rfl, rfl⟩ := hw
  refine ⟨rfl, ?_⟩
  refine j_top 0 rfl ?_
  refine j_iconst F (v := 1) dX10_nearer_13 (by decide) ?_
  refine j_scallV F kX10_88 (As := [.int 0, .int 1]) (rest := []) (c_X10_fails_no l D ay ad (ups vi 0 0) ga 1 rfl (show ¬ 1 = 0 from by decide)) 0 0 20 rfl rfl rfl rfl rfl rfl ⟨Nat.le_of_ble_eq_true rfl, Nat.le_of_ble_eq_true rfl⟩ dX10_nearer_14 (fun v w hw => ?_)
  obtain ⟨rfl, rfl⟩ := hw
  refine ⟨rfl, (mW ay ad (ups vi 0 1) ga), (slp_all _ _ rfl).trans rfl, ?_⟩
  refine j_top 1 rfl ?_
  refine j_if_eq F 24 dX10_nearer_17 (by decide) (fun c_17 => absurd c_17 (by decide)) (fun c_17 => ?_)
  refine j_iconst F (v := 0) dX10_nearer_20 (by decide) ?_
  refine j_goto F 29 dX10_nearer_21 (by decide) ?_
  exact j_iret F ⟨ups vi 0 1, ga, (GI_id hG (fun q hq => (ups_ne (by omega)).trans rfl) (fun q hq => rfl)), rfl, rfl, rfl⟩ dX10_nearer_29 (Nat.le_of_ble_eq_true rfl) (Nat.le_of_ble_eq_true rfl)

set_option maxHeartbeats 4000000 in
set_option maxRecDepth 100000 in
theorem c_X10_leastCache_ok (l : Launch) (D : va_G) (ay : Nat → ClassId) (ad : Nat → Nat) (vi : Nat → Int32) (ga : Nat → Nat → Int32) (Z : DS) (x : Int32) (hG : GI Z vi ga) (h : ¬ oob x 0 2147483647) : jM l yX10_leastCache (jws yX10_leastCache cX10_leastCache 3 (some .int)) 1 22 0 0 D ay [.ref (ad 0), .int x] (mW ay ad vi ga) (fun v w => ∃ (vi' : Nat → Int32) (ga' : Nat → Nat → Int32), GI Z vi' ga' ∧ vi' 0 = 0 ∧ v = some (.int (if fx (lcF Z x) 1 8 < 8 then nI (fx (lcF Z x) 1 8 + 1) else -1)) ∧ w = mW ay ad vi' ga') := by
  refine jM_of l (by decide) [(0, .ref (ad 0)), (1, .int x)] rfl rfl (fun p9 e9 s9 m9 a9 b9 me9 c9 A9 F => ?_)
  have hL5 := hG.2.2.2.2.1
  have h13 := hL5.1
  have hle := hG.2.2.1.2.2
  refine j_aload_n F 0 dX10_leastCache_0 rfl ?_
  refine j_iconst F (v := 0) dX10_leastCache_1 (by decide) ?_
  refine j_putf F fX10_1 0 (mW ay ad (ups vi 0 0) ga) rfl rfl rfl rfl rfl (Nat.le_of_ble_eq_true rfl) dX10_leastCache_2 ?_
  refine j_aload_n F 0 dX10_leastCache_5 rfl ?_
  refine j_iload_n F 1 dX10_leastCache_6 rfl ?_
  refine j_if_lt F 14 dX10_leastCache_7 (by decide) (fun c_7 => absurd (Or.inl c_7) h) (fun c_7 => ?_)
  refine j_iconst F (v := 1) dX10_leastCache_10 (by decide) ?_
  refine j_goto F 15 dX10_leastCache_11 (by decide) ?_
  refine j_iconst F (v := 1) dX10_leastCache_15 (by decide) ?_
  refine j_scallV F kX10_88 (As := [.int 1, .int 1]) (rest := []) (c_X10_fails_ok l D ay ad (ups vi 0 0) ga 1 rfl) 0 0 20 rfl rfl rfl rfl rfl rfl ⟨Nat.le_of_ble_eq_true rfl, Nat.le_of_ble_eq_true rfl⟩ dX10_leastCache_16 (fun v w hw => ?_)
  obtain ⟨rfl, rfl⟩ := hw
  refine ⟨rfl, (mW ay ad (ups vi 0 0) ga), (slp_all _ _ rfl).trans rfl, ?_⟩
  refine j_top 0 rfl ?_
  refine j_if_eq F 24 dX10_leastCache_19 (by decide) (fun c_19 => ?_) (fun c_19 => absurd (by decide) c_19)
  refine j_iconst F (v := 1) dX10_leastCache_24 (by decide) ?_
  refine j_istore_n F 2 [(2, .int 1), (0, .ref (ad 0)), (1, .int x)] dX10_leastCache_25 rfl (by decide) rfl ?_
  refine j_loop (σ := Nat) (fun i => i ≤ 8 ∧ ∀ j, j < i → lcF Z x j ≠ 1) (fun i => 8 - i) (fun i => [(2, .int (nI (i + 1))), (0, .ref (ad 0)), (1, .int x)]) (fun _ => (mW ay ad (ups vi 0 0) ga)) 0 ⟨Nat.zero_le _, fun j h => absurd h (Nat.not_lt_zero j)⟩ rfl rfl (fun i hI9 ih => ?_)
  obtain ⟨hi, hno⟩ := hI9
  refine j_iload_n F 0 dX10_leastCache_26 rfl ?_
  refine j_bipush F (v := 8) dX10_leastCache_27 (by decide) ?_
  refine j_icmp_gt F 50 dX10_leastCache_29 (by decide) (fun c_29 => ?_) (fun c_29 => ?_)
  · skip
    have n_29 := (n_lt 8 (i + 1) rfl rfl (by omega) (by omega)).mp c_29
    refine j_iconst F (v := (-1)) dX10_leastCache_50 (by decide) ?_
    exact j_iret F ⟨ups vi 0 0, ga, (GI_id hG (fun q hq => (ups_ne (by omega)).trans rfl) (fun q hq => rfl)), rfl, (by rw [fx_none (f := lcF Z x) (key := 1) (n := 8) (fun j hj => hno j (by omega)), if_neg (by omega)]), rfl⟩ dX10_leastCache_51 (Nat.le_of_ble_eq_true rfl) (Nat.le_of_ble_eq_true rfl)
  · skip
    have n_29 := mt (n_lt 8 (i + 1) rfl rfl (by omega) (by omega)).mpr c_29
    have hi8 : i < 8 := by omega
    refine j_aload_n F 1 dX10_leastCache_32 rfl ?_
    refine j_getf F fX10_42 0 (v := .ref (ad 8)) rfl rfl dX10_leastCache_33 ?_
    refine j_iload_n F 0 dX10_leastCache_36 rfl ?_
    refine j_iald F 8 (i + 1) (f := ga 7) rfl rfl (by omega) (Nat.le_of_ble_eq_true rfl) dX10_leastCache_37 ?_
    refine j_top (Z.2.1 (11 + i)) (hG.2.2.2.1 i hi8).2.2.1 ?_
    refine j_iload_n F 2 dX10_leastCache_38 rfl ?_
    refine j_icmp_lt F 44 dX10_leastCache_39 (by decide) (fun c_39 => ?_) (fun c_39 => ?_)
    · skip
      refine j_iinc F 0 (nI (i + 1 + 1)) [(2, .int (nI (i + 1 + 1))), (0, .ref (ad 0)), (1, .int x)] dX10_leastCache_44 rfl (nI_1 _) (by decide) rfl ?_
      refine j_goto F 26 dX10_leastCache_47 (by decide) ?_
      exact ih (i + 1) ⟨by omega, fun j hj => by
          by_cases h : j = i
          · rw [h, lcF, if_neg (Int32.not_le.mpr c_39)]; decide
          · exact hno j (by omega)⟩ (by show 8 - (i + 1) < 8 - i; omega)
    · skip
      refine j_iload_n F 0 dX10_leastCache_42 rfl ?_
      exact j_iret F ⟨ups vi 0 0, ga, (GI_id hG (fun q hq => (ups_ne (by omega)).trans rfl) (fun q hq => rfl)), rfl, (by rw [fx_at (f := lcF Z x) (key := 1) (n := 8) (i := i) hi8 hno (if_pos (Int32.not_lt.mp c_39)), if_pos hi8]), rfl⟩ dX10_leastCache_43 (Nat.le_of_ble_eq_true rfl) (Nat.le_of_ble_eq_true rfl)

set_option maxHeartbeats 4000000 in
set_option maxRecDepth 100000 in
theorem c_X10_leastCache_no (l : Launch) (D : va_G) (ay : Nat → ClassId) (ad : Nat → Nat) (vi : Nat → Int32) (ga : Nat → Nat → Int32) (Z : DS) (x : Int32) (hG : GI Z vi ga) (h : oob x 0 2147483647) : jM l yX10_leastCache (jws yX10_leastCache cX10_leastCache 3 (some .int)) 1 22 0 0 D ay [.ref (ad 0), .int x] (mW ay ad vi ga) (fun v w => ∃ (vi' : Nat → Int32) (ga' : Nat → Nat → Int32), GI Z vi' ga' ∧ vi' 0 = 1 ∧ v = some (.int 0) ∧ w = mW ay ad vi' ga') := by
  refine jM_of l (by decide) [(0, .ref (ad 0)), (1, .int x)] rfl rfl (fun p9 e9 s9 m9 a9 b9 me9 c9 A9 F => ?_)
  refine j_aload_n F 0 dX10_leastCache_0 rfl ?_
  refine j_iconst F (v := 0) dX10_leastCache_1 (by decide) ?_
  refine j_putf F fX10_1 0 (mW ay ad (ups vi 0 0) ga) rfl rfl rfl rfl rfl (Nat.le_of_ble_eq_true rfl) dX10_leastCache_2 ?_
  refine j_aload_n F 0 dX10_leastCache_5 rfl ?_
  refine j_iload_n F 1 dX10_leastCache_6 rfl ?_
  refine j_if_lt F 14 dX10_leastCache_7 (by decide) (fun c_7 => ?_) (fun c_7 => absurd h (fun h => h.elim c_7 (fun h => absurd (Int32.le_maxValue x) (Int32.not_le.mpr h))))
  refine j_iconst F (v := 0) dX10_leastCache_14 (by decide) ?_
  refine j_iconst F (v := 1) dX10_leastCache_15 (by decide) ?_
  refine j_scallV F kX10_88 (As := [.int 0, .int 1]) (rest := []) (c_X10_fails_no l D ay ad (ups vi 0 0) ga 1 rfl (show ¬ 1 = 0 from by decide)) 0 0 20 rfl rfl rfl rfl rfl rfl ⟨Nat.le_of_ble_eq_true rfl, Nat.le_of_ble_eq_true rfl⟩ dX10_leastCache_16 (fun v w hw => ?_)
  obtain ⟨rfl, rfl⟩ := hw
  refine ⟨rfl, (mW ay ad (ups vi 0 1) ga), (slp_all _ _ rfl).trans rfl, ?_⟩
  refine j_top 1 rfl ?_
  refine j_if_eq F 24 dX10_leastCache_19 (by decide) (fun c_19 => absurd c_19 (by decide)) (fun c_19 => ?_)
  refine j_iconst F (v := 0) dX10_leastCache_22 (by decide) ?_
  exact j_iret F ⟨ups vi 0 1, ga, (GI_id hG (fun q hq => (ups_ne (by omega)).trans rfl) (fun q hq => rfl)), rfl, rfl, rfl⟩ dX10_leastCache_23 (Nat.le_of_ble_eq_true rfl) (Nat.le_of_ble_eq_true rfl)

set_option maxHeartbeats 4000000 in
set_option maxRecDepth 100000 in
theorem c_X10_hitShare_ok (l : Launch) (D : va_G) (ay : Nat → ClassId) (ad : Nat → Nat) (vi : Nat → Int32) (ga : Nat → Nat → Int32) (Z : DS) (i : Nat) (hG : GI Z vi ga) (hi : i < 8) : jM l yX10_hitShare (jws yX10_hitShare cX10_hitShare 2 (some .float)) 2 43 0 0 D ay [.ref (ad 0), .int (nI (i + 1))] (mW ay ad vi ga) (fun v w => ∃ (vi' : Nat → Int32) (ga' : Nat → Nat → Int32), GI Z vi' ga' ∧ vi' 0 = 0 ∧ v = some (.float (if Z.1 14 = 0 then FP.fconst0 else FP.fdiv (FP.i2f (Z.2.1 (11 + i))) (FP.i2f (nI (Z.1 14))))) ∧ w = mW ay ad vi' ga') := by
  refine jM_of l (by decide) [(0, .ref (ad 0)), (1, .int (nI (i + 1)))] rfl rfl (fun p9 e9 s9 m9 a9 b9 me9 c9 A9 F => ?_)
  have hL5 := hG.2.2.2.2.1
  have h13 := hL5.1
  have hle := hG.2.2.1.2.2
  have hc1 := hG.2.2.2.1 i hi
  refine j_aload_n F 0 dX10_hitShare_0 rfl ?_
  refine j_iconst F (v := 0) dX10_hitShare_1 (by decide) ?_
  refine j_putf F fX10_1 0 (mW ay ad (ups vi 0 0) ga) rfl rfl rfl rfl rfl (Nat.le_of_ble_eq_true rfl) dX10_hitShare_2 ?_
  refine j_aload_n F 0 dX10_hitShare_5 rfl ?_
  refine j_iload_n F 1 dX10_hitShare_6 rfl ?_
  refine j_scallV F kX10_141 (As := [.int (nI (i + 1))]) (rest := []) (c_X10_noCache_ok l D ay ad (ups vi 0 0) ga i rfl (show i < 8 from hi)) 0 0 20 rfl rfl rfl rfl rfl rfl ⟨Nat.le_of_ble_eq_true rfl, Nat.le_of_ble_eq_true rfl⟩ dX10_hitShare_7 (fun v w hw => ?_)
  obtain ⟨rfl, rfl⟩ := hw
  refine ⟨rfl, (mW ay ad (ups vi 0 0) ga), (slp_all _ _ rfl).trans rfl, ?_⟩
  refine j_top 0 rfl ?_
  refine j_if_ne F 20 dX10_hitShare_10 (by decide) (fun c_10 => absurd (by decide) c_10) (fun c_10 => ?_)
  refine j_aload_n F 0 dX10_hitShare_13 rfl ?_
  refine j_getf F fX10_127 0 (v := .int (vi 13)) rfl rfl dX10_hitShare_14 ?_
  refine j_top (nI (Z.1 14)) h13 ?_
  refine j_if_ne F 22 dX10_hitShare_17 (by decide) (fun c_17 => ?_) (fun c_17 => ?_)
  · skip
    have n_17 := mt (n_eq (Z.1 14) 0 rfl rfl (by omega) (by omega)).mpr c_17
    refine j_aload_n F 0 dX10_hitShare_22 rfl ?_
    refine j_getf F fX10_42 0 (v := .ref (ad 8)) rfl rfl dX10_hitShare_23 ?_
    refine j_iload_n F 1 dX10_hitShare_26 rfl ?_
    refine j_iald F 8 (i + 1) (f := ga 7) rfl rfl (by omega) (Nat.le_of_ble_eq_true rfl) dX10_hitShare_27 ?_
    refine j_top (Z.2.1 (11 + i)) hc1.2.2.1 ?_
    refine j_i2f F dX10_hitShare_28 ?_
    refine j_aload_n F 0 dX10_hitShare_29 rfl ?_
    refine j_getf F fX10_127 0 (v := .int (vi 13)) rfl rfl dX10_hitShare_30 ?_
    refine j_top (nI (Z.1 14)) h13 ?_
    refine j_i2f F dX10_hitShare_33 ?_
    refine j_fdiv F dX10_hitShare_34 (fp_n32 (fp_fdiv _ (fun e => n_17 ((nI_eq (b := 0) (by omega) (by decide)).mp e)))) ?_
    exact j_fret F ⟨ups vi 0 0, ga, (GI_id hG (fun q hq => (ups_ne (by omega)).trans rfl) (fun q hq => rfl)), rfl, (by rw [if_neg n_17]), rfl⟩ dX10_hitShare_35 (Nat.le_of_ble_eq_true rfl) (Nat.le_of_ble_eq_true rfl)
  · skip
    have n_17 := (n_eq (Z.1 14) 0 rfl rfl (by omega) (by omega)).mp c_17
    refine j_fconst0 F dX10_hitShare_20 ?_
    exact j_fret F ⟨ups vi 0 0, ga, (GI_id hG (fun q hq => (ups_ne (by omega)).trans rfl) (fun q hq => rfl)), rfl, (by rw [if_pos n_17]), rfl⟩ dX10_hitShare_21 (Nat.le_of_ble_eq_true rfl) (Nat.le_of_ble_eq_true rfl)

set_option maxHeartbeats 4000000 in
set_option maxRecDepth 100000 in
theorem c_X10_hitShare_no (l : Launch) (D : va_G) (ay : Nat → ClassId) (ad : Nat → Nat) (vi : Nat → Int32) (ga : Nat → Nat → Int32) (Z : DS) (x : Int32) (hG : GI Z vi ga) (h : oob x 1 8) : jM l yX10_hitShare (jws yX10_hitShare cX10_hitShare 2 (some .float)) 2 43 0 0 D ay [.ref (ad 0), .int x] (mW ay ad vi ga) (fun v w => ∃ (vi' : Nat → Int32) (ga' : Nat → Nat → Int32), GI Z vi' ga' ∧ vi' 0 = 1 ∧ v = some (.float FP.fconst0) ∧ w = mW ay ad vi' ga') := by
  refine jM_of l (by decide) [(0, .ref (ad 0)), (1, .int x)] rfl rfl (fun p9 e9 s9 m9 a9 b9 me9 c9 A9 F => ?_)
  refine j_aload_n F 0 dX10_hitShare_0 rfl ?_
  refine j_iconst F (v := 0) dX10_hitShare_1 (by decide) ?_
  refine j_putf F fX10_1 0 (mW ay ad (ups vi 0 0) ga) rfl rfl rfl rfl rfl (Nat.le_of_ble_eq_true rfl) dX10_hitShare_2 ?_
  refine j_aload_n F 0 dX10_hitShare_5 rfl ?_
  refine j_iload_n F 1 dX10_hitShare_6 rfl ?_
  refine j_scallV F kX10_141 (As := [.int x]) (rest := []) (c_X10_noCache_no l D ay ad (ups vi 0 0) ga x rfl (show oob x 1 8 from h)) 0 0 20 rfl rfl rfl rfl rfl rfl ⟨Nat.le_of_ble_eq_true rfl, Nat.le_of_ble_eq_true rfl⟩ dX10_hitShare_7 (fun v w hw => ?_)
  obtain ⟨rfl, rfl⟩ := hw
  refine ⟨rfl, (mW ay ad (ups vi 0 1) ga), (slp_all _ _ rfl).trans rfl, ?_⟩
  refine j_top 1 rfl ?_
  refine j_if_ne F 20 dX10_hitShare_10 (by decide) (fun c_10 => ?_) (fun c_10 => absurd c_10 (by decide))
  refine j_fconst0 F dX10_hitShare_20 ?_
  exact j_fret F ⟨ups vi 0 1, ga, (GI_id hG (fun q hq => (ups_ne (by omega)).trans rfl) (fun q hq => rfl)), rfl, rfl, rfl⟩ dX10_hitShare_21 (Nat.le_of_ble_eq_true rfl) (Nat.le_of_ble_eq_true rfl)

set_option maxHeartbeats 4000000 in
set_option maxRecDepth 100000 in
theorem c_X10_meanDistance_ok (l : Launch) (D : va_G) (ay : Nat → ClassId) (ad : Nat → Nat) (vi : Nat → Int32) (ga : Nat → Nat → Int32) (Z : DS) (hG : GI Z vi ga) : jM l yX10_meanDistance (jws yX10_meanDistance cX10_meanDistance 5 (some .double)) 1 23 0 0 D ay [.ref (ad 0)] (mW ay ad vi ga) (fun v w => ∃ (vi' : Nat → Int32) (ga' : Nat → Nat → Int32), GI Z vi' ga' ∧ vi' 0 = 0 ∧ v = some (.double (if cb (Z.2.2 13) 100 (Z.1 14) = 0 then FP.dconst0 else FP.ddiv (FP.i2d (dtot (Z.2.2 13) (Z.1 14))) (FP.i2d (nI (cb (Z.2.2 13) 100 (Z.1 14)))))) ∧ w = mW ay ad vi' ga') := by
  refine jM_of l (by decide) [(0, .ref (ad 0))] rfl rfl (fun p9 e9 s9 m9 a9 b9 me9 c9 A9 F => ?_)
  have hL5 := hG.2.2.2.2.1
  have h13 := hL5.1
  have hle := hG.2.2.1.2.2
  refine j_aload_n F 0 dX10_meanDistance_0 rfl ?_
  refine j_iconst F (v := 0) dX10_meanDistance_1 (by decide) ?_
  refine j_putf F fX10_1 0 (mW ay ad (ups vi 0 0) ga) rfl rfl rfl rfl rfl (Nat.le_of_ble_eq_true rfl) dX10_meanDistance_2 ?_
  refine j_iconst F (v := 0) dX10_meanDistance_5 (by decide) ?_
  refine j_istore_n F 1 [(1, .int 0), (0, .ref (ad 0))] dX10_meanDistance_6 rfl (by decide) rfl ?_
  refine j_iconst F (v := 0) dX10_meanDistance_7 (by decide) ?_
  refine j_istore_n F 2 [(2, .int 0), (1, .int 0), (0, .ref (ad 0))] dX10_meanDistance_8 rfl (by decide) rfl ?_
  refine j_iconst F (v := 0) dX10_meanDistance_9 (by decide) ?_
  refine j_istore_n F 3 [(3, .int 0), (2, .int 0), (1, .int 0), (0, .ref (ad 0))] dX10_meanDistance_10 rfl (by decide) rfl ?_
  refine j_loop (σ := Nat × (Nat → Int32)) (fun z => z.1 ≤ Z.1 14) (fun z => Z.1 14 - z.1) (fun z => [(3, .int (nI z.1)), (2, .int (nI (cb (Z.2.2 13) 100 z.1))), (1, .int (dtot (Z.2.2 13) z.1)), (0, .ref (ad 0))]) (fun z => mW ay ad (ups vi 0 0) (ups ga 9 z.2)) (0, ga 9) (Nat.zero_le _) rfl (by rw [show ups ga 9 (ga 9) = ga from ups_self]) (fun z hz ih => ?_)
  obtain ⟨r, g1⟩ := z
  replace hz : r ≤ Z.1 14 := hz
  have hcb := cb_le (Z.2.2 13) 100 r
  refine j_nf (mW ay ad (ups vi 0 0) (ups ga 9 g1)) [(3, .int (nI r)), (2, .int (nI (cb (Z.2.2 13) 100 r))), (1, .int (dtot (Z.2.2 13) r)), (0, .ref (ad 0))] rfl rfl ?_
  refine j_iload_n F 0 dX10_meanDistance_11 rfl ?_
  refine j_aload_n F 3 dX10_meanDistance_12 rfl ?_
  refine j_getf F fX10_127 0 (v := .int (vi 13)) rfl rfl dX10_meanDistance_13 ?_
  refine j_top (nI (Z.1 14)) h13 ?_
  refine j_icmp_ge F 61 dX10_meanDistance_16 (by decide) (fun c_16 => ?_) (fun c_16 => ?_)
  · skip
    have n_16 := (n_le (Z.1 14) r rfl rfl (by omega) (by omega)).mp c_16
    refine j_iload_n F 1 dX10_meanDistance_61 rfl ?_
    refine j_if_ne F 69 dX10_meanDistance_62 (by decide) (fun c_62 => ?_) (fun c_62 => ?_)
    · skip
      have n_62 := mt (n_eq (cb (Z.2.2 13) 100 r) 0 rfl rfl (by omega) (by omega)).mpr c_62
      refine j_iload_n F 2 dX10_meanDistance_69 rfl ?_
      refine j_i2d F dX10_meanDistance_70 ?_
      refine j_iload_n F 1 dX10_meanDistance_71 rfl ?_
      refine j_i2d F dX10_meanDistance_72 ?_
      refine j_ddiv F dX10_meanDistance_73 (fp_n64 (fp_ddiv _ (fun e => n_62 ((nI_eq (b := 0) (by omega) (by decide)).mp e)))) ?_
      exact j_dret F ⟨ups vi 0 0, ups ga 9 g1, (GI_id hG (fun q hq => (ups_ne (by omega)).trans rfl) (fun q hq => (ups_ne (by omega)).trans rfl)), rfl, (by rw [show Z.1 14 = r by omega, if_neg n_62]), rfl⟩ dX10_meanDistance_74 (Nat.le_of_ble_eq_true rfl) (Nat.le_of_ble_eq_true rfl)
    · skip
      have n_62 := (n_eq (cb (Z.2.2 13) 100 r) 0 rfl rfl (by omega) (by omega)).mp c_62
      refine j_dconst0 F dX10_meanDistance_65 ?_
      refine j_goto F 74 dX10_meanDistance_66 (by decide) ?_
      exact j_dret F ⟨ups vi 0 0, ups ga 9 g1, (GI_id hG (fun q hq => (ups_ne (by omega)).trans rfl) (fun q hq => (ups_ne (by omega)).trans rfl)), rfl, (by rw [show Z.1 14 = r by omega, if_pos n_62]), rfl⟩ dX10_meanDistance_74 (Nat.le_of_ble_eq_true rfl) (Nat.le_of_ble_eq_true rfl)
  · skip
    have n_16 := mt (n_le (Z.1 14) r rfl rfl (by omega) (by omega)).mpr c_16
    obtain ⟨-, f, n, hk, hLO, hds⟩ := hL5.2.2.2 r (by omega)
    have hlt : ¬ Z.2.2 13 r = -1 → Z.2.2 13 r < 100 := fun h => by rw [hds] at h ⊢; exact ds_lt hk h
    refine j_aload_n F 3 dX10_meanDistance_19 rfl ?_
    refine j_iload_n F 0 dX10_meanDistance_20 rfl ?_
    refine j_scallV F kX10_147 (As := [.int (nI r)]) (rest := []) (c_X10_distance l D ay ad (ups vi 0 0) (ups ga 9 g1) r n f (Z.2.2 12) (show kI n f from hk) (show LO f n (Z.2.2 12) r from hLO) (show ∀ t, t ≤ r → ga 8 t = (Z.2.2 12) t from fun t ht => hL5.2.1 t (by omega)) (show r < 1000 from by omega)) 0 0 20 rfl rfl rfl rfl rfl rfl ⟨Nat.le_of_ble_eq_true rfl, Nat.le_of_ble_eq_true rfl⟩ dX10_meanDistance_21 (fun v w hw => ?_)
    obtain ⟨g9_21, rfl, rfl⟩ := hw
    refine ⟨rfl, (mW ay ad (ups vi 0 0) (ups ga 9 g9_21)), (slp_all _ _ rfl).trans rfl, ?_⟩
    refine j_top (Z.2.2 13 r) hds.symm ?_
    refine j_istore F 4 [(4, .int (Z.2.2 13 r)), (3, .int (nI r)), (2, .int (nI (cb (Z.2.2 13) 100 r))), (1, .int (dtot (Z.2.2 13) r)), (0, .ref (ad 0))] dX10_meanDistance_24 (by decide) rfl ?_
    refine j_iload_n F 3 dX10_meanDistance_26 rfl ?_
    refine j_iload F 0 dX10_meanDistance_27 rfl ?_
    refine j_iconst F (v := (-1)) dX10_meanDistance_29 (by decide) ?_
    refine j_icmp_ne F 37 dX10_meanDistance_30 (by decide) (fun c_30 => ?_) (fun c_30 => ?_)
    · skip
      refine j_iload F 0 dX10_meanDistance_37 rfl ?_
      refine j_iadd F dX10_meanDistance_39 ?_
      refine j_istore_n F 1 [(1, .int (dtot (Z.2.2 13) r + Z.2.2 13 r)), (4, .int (Z.2.2 13 r)), (3, .int (nI r)), (2, .int (nI (cb (Z.2.2 13) 100 r))), (0, .ref (ad 0))] dX10_meanDistance_40 rfl (by decide) rfl ?_
      refine j_iload_n F 3 dX10_meanDistance_41 rfl ?_
      refine j_iload F 1 dX10_meanDistance_42 rfl ?_
      refine j_iconst F (v := (-1)) dX10_meanDistance_44 (by decide) ?_
      refine j_icmp_ne F 52 dX10_meanDistance_45 (by decide) (fun c_45 => ?_) (fun c_45 => ?_)
      · skip
        refine j_iconst F (v := 1) dX10_meanDistance_52 (by decide) ?_
        refine j_iadd F dX10_meanDistance_53 ?_
        refine j_top (nI (cb (Z.2.2 13) 100 r + 1)) (nI_add _ _) ?_
        refine j_istore_n F 2 [(2, .int (nI (cb (Z.2.2 13) 100 r + 1))), (1, .int (dtot (Z.2.2 13) r + Z.2.2 13 r)), (4, .int (Z.2.2 13 r)), (3, .int (nI r)), (0, .ref (ad 0))] dX10_meanDistance_54 rfl (by decide) rfl ?_
        refine j_iinc F 3 (nI (r + 1)) [(3, .int (nI (r + 1))), (2, .int (nI (cb (Z.2.2 13) 100 r + 1))), (1, .int (dtot (Z.2.2 13) r + Z.2.2 13 r)), (4, .int (Z.2.2 13 r)), (0, .ref (ad 0))] dX10_meanDistance_55 rfl (nI_1 _) (by decide) rfl ?_
        refine j_goto F 11 dX10_meanDistance_58 (by decide) ?_
        have e1 : cb (Z.2.2 13) 100 r + 1 = cb (Z.2.2 13) 100 (r + 1) := (if_pos ⟨c_30, hlt c_30⟩).symm
        have e2 : dtot (Z.2.2 13) r + Z.2.2 13 r = dtot (Z.2.2 13) (r + 1) := (if_neg c_30).symm
        refine j_sub [0, 1, 2, 4] [(3, .int (nI (r + 1))), (2, .int (nI (cb (Z.2.2 13) 100 r + 1))), (1, .int ((dtot (Z.2.2 13) r + Z.2.2 13 r))), (0, .ref (ad 0))] rfl ?_
        refine j_nf (mW ay ad (ups vi 0 0) (ups ga 9 g9_21)) [(3, .int (nI (r + 1))), (2, .int (nI (cb (Z.2.2 13) 100 (r + 1)))), (1, .int (dtot (Z.2.2 13) (r + 1))), (0, .ref (ad 0))] rfl (by rw [← e1, ← e2] <;> rfl) ?_
        exact ih (r + 1, g9_21) (by show r + 1 ≤ Z.1 14; omega) (by show Z.1 14 - (r + 1) < Z.1 14 - r; omega)
      · skip
        refine j_iconst F (v := 0) dX10_meanDistance_48 (by decide) ?_
        refine j_goto F 53 dX10_meanDistance_49 (by decide) ?_
        refine j_iadd F dX10_meanDistance_53 ?_
        refine j_top (nI (cb (Z.2.2 13) 100 r + 0)) (nI_add _ _) ?_
        refine j_istore_n F 2 [(2, .int (nI (cb (Z.2.2 13) 100 r + 0))), (1, .int (dtot (Z.2.2 13) r + Z.2.2 13 r)), (4, .int (Z.2.2 13 r)), (3, .int (nI r)), (0, .ref (ad 0))] dX10_meanDistance_54 rfl (by decide) rfl ?_
        refine j_iinc F 3 (nI (r + 1)) [(3, .int (nI (r + 1))), (2, .int (nI (cb (Z.2.2 13) 100 r + 0))), (1, .int (dtot (Z.2.2 13) r + Z.2.2 13 r)), (4, .int (Z.2.2 13 r)), (0, .ref (ad 0))] dX10_meanDistance_55 rfl (nI_1 _) (by decide) rfl ?_
        refine j_goto F 11 dX10_meanDistance_58 (by decide) ?_
        exact absurd c_45 c_30
    · skip
      refine j_iconst F (v := 0) dX10_meanDistance_33 (by decide) ?_
      refine j_goto F 39 dX10_meanDistance_34 (by decide) ?_
      refine j_iadd F dX10_meanDistance_39 ?_
      refine j_istore_n F 1 [(1, .int (dtot (Z.2.2 13) r + 0)), (4, .int (Z.2.2 13 r)), (3, .int (nI r)), (2, .int (nI (cb (Z.2.2 13) 100 r))), (0, .ref (ad 0))] dX10_meanDistance_40 rfl (by decide) rfl ?_
      refine j_iload_n F 3 dX10_meanDistance_41 rfl ?_
      refine j_iload F 1 dX10_meanDistance_42 rfl ?_
      refine j_iconst F (v := (-1)) dX10_meanDistance_44 (by decide) ?_
      refine j_icmp_ne F 52 dX10_meanDistance_45 (by decide) (fun c_45 => ?_) (fun c_45 => ?_)
      · skip
        refine j_iconst F (v := 1) dX10_meanDistance_52 (by decide) ?_
        refine j_iadd F dX10_meanDistance_53 ?_
        refine j_top (nI (cb (Z.2.2 13) 100 r + 1)) (nI_add _ _) ?_
        refine j_istore_n F 2 [(2, .int (nI (cb (Z.2.2 13) 100 r + 1))), (1, .int (dtot (Z.2.2 13) r + 0)), (4, .int (Z.2.2 13 r)), (3, .int (nI r)), (0, .ref (ad 0))] dX10_meanDistance_54 rfl (by decide) rfl ?_
        refine j_iinc F 3 (nI (r + 1)) [(3, .int (nI (r + 1))), (2, .int (nI (cb (Z.2.2 13) 100 r + 1))), (1, .int (dtot (Z.2.2 13) r + 0)), (4, .int (Z.2.2 13 r)), (0, .ref (ad 0))] dX10_meanDistance_55 rfl (nI_1 _) (by decide) rfl ?_
        refine j_goto F 11 dX10_meanDistance_58 (by decide) ?_
        exact absurd c_30 c_45
      · skip
        refine j_iconst F (v := 0) dX10_meanDistance_48 (by decide) ?_
        refine j_goto F 53 dX10_meanDistance_49 (by decide) ?_
        refine j_iadd F dX10_meanDistance_53 ?_
        refine j_top (nI (cb (Z.2.2 13) 100 r + 0)) (nI_add _ _) ?_
        refine j_istore_n F 2 [(2, .int (nI (cb (Z.2.2 13) 100 r + 0))), (1, .int (dtot (Z.2.2 13) r + 0)), (4, .int (Z.2.2 13 r)), (3, .int (nI r)), (0, .ref (ad 0))] dX10_meanDistance_54 rfl (by decide) rfl ?_
        refine j_iinc F 3 (nI (r + 1)) [(3, .int (nI (r + 1))), (2, .int (nI (cb (Z.2.2 13) 100 r + 0))), (1, .int (dtot (Z.2.2 13) r + 0)), (4, .int (Z.2.2 13 r)), (0, .ref (ad 0))] dX10_meanDistance_55 rfl (nI_1 _) (by decide) rfl ?_
        refine j_goto F 11 dX10_meanDistance_58 (by decide) ?_
        have e1 : cb (Z.2.2 13) 100 r = cb (Z.2.2 13) 100 (r + 1) := (if_neg (fun h => h.1 c_30)).symm
        have e2 : dtot (Z.2.2 13) r = dtot (Z.2.2 13) (r + 1) := (if_pos c_30).symm
        refine j_sub [0, 1, 2, 4] [(3, .int (nI (r + 1))), (2, .int (nI (cb (Z.2.2 13) 100 r + 0))), (1, .int ((dtot (Z.2.2 13) r + 0))), (0, .ref (ad 0))] rfl ?_
        refine j_nf (mW ay ad (ups vi 0 0) (ups ga 9 g9_21)) [(3, .int (nI (r + 1))), (2, .int (nI (cb (Z.2.2 13) 100 (r + 1)))), (1, .int (dtot (Z.2.2 13) (r + 1))), (0, .ref (ad 0))] rfl (by rw [← e1, ← e2, Int32.add_zero] <;> rfl) ?_
        exact ih (r + 1, g9_21) (by show r + 1 ≤ Z.1 14; omega) (by show Z.1 14 - (r + 1) < Z.1 14 - r; omega)

