set_option maxHeartbeats 4000000 in
set_option maxRecDepth 100000 in
theorem c_X10_run_ok (l : Launch) (D : va_G) (ay : Nat → ClassId) (ad : Nat → Nat) (vi : Nat → Int32) (ga : Nat → Nat → Int32) (Z : DS) (pos : Nat) (P : PS) (hG : GI Z vi ga) (hle : Z.1 14 ≤ 800) (he : (prs (Z.2.2 15) (Z.1 15) (Z.1 15) (sk (Z.2.2 15) (Z.1 15) 0) 0).2 = -1) (hP : P = (prs (Z.2.2 15) (Z.1 15) (Z.1 15) (sk (Z.2.2 15) (Z.1 15) 0) 0).1.foldl pst (0, Z.2.2 16, Z.2.2 17, Z.2.2 18, Z.2.2 19, 0)) : jM l yX10_run (jws yX10_run cX10_run 2 (some .int)) 5 116 0 0 D ay [.ref (ad 0)] (mW ay ad vi ga) (fun v w => ∃ (vi' : Nat → Int32) (ga' : Nat → Nat → Int32), GI (runF (tU (eU (rU Z pos P) (-1)) 0 (Z.2.2 15)) P.2.1 P.2.2.1 P.1) vi' ga' ∧ vi' 0 = 0 ∧ v = some (.int (nI P.1)) ∧ w = mW ay ad vi' ga') := by
  refine jM_of l (by decide) [(0, .ref (ad 0))] rfl rfl (fun p9 e9 s9 m9 a9 b9 me9 c9 A9 F => ?_)
  have hL5 := hG.2.2.2.2.1
  have h13 := hL5.1
  have hle9 := hG.2.2.1.2.2
  have hT := hG.2.2.2.2.2.1
  have hT1 := hT.1
  have e10 : ga 10 = Z.2.2 15 := hT.2.2
  have h16 := hT.2.1
  have he2 : (prs (ga 10) (Z.1 15) (Z.1 15) (sk (ga 10) (Z.1 15) 0) 0).2 = -1 := by rw [e10]; exact he
  have hP2 : P = (prs (ga 10) (Z.1 15) (Z.1 15) (sk (ga 10) (Z.1 15) 0) 0).1.foldl pst (0, Z.2.2 16, Z.2.2 17, Z.2.2 18, Z.2.2 19, 0) := by rw [e10]; exact hP
  obtain ⟨k9, u9, hb9, hV9, hp1, hp2, -⟩ := prog_of (S := (0, Z.2.2 16, Z.2.2 17, Z.2.2 18, Z.2.2 19, 0)) hT1 rfl rfl he2
  rw [← hP2] at hp1 hp2
  refine j_aload_n F 0 dX10_run_0 rfl ?_
  refine j_iconst F (v := 0) dX10_run_1 (by decide) ?_
  refine j_putf F fX10_1 0 (mW ay ad (ups vi 0 0) ga) rfl rfl rfl rfl rfl (Nat.le_of_ble_eq_true rfl) dX10_run_2 ?_
  refine j_aload_n F 0 dX10_run_5 rfl ?_
  refine j_aload_n F 0 dX10_run_6 rfl ?_
  refine j_getf F fX10_127 0 (v := .int (vi 13)) rfl rfl dX10_run_7 ?_
  refine j_top (nI (Z.1 14)) h13 ?_
  refine j_sipush F (v := 800) dX10_run_10 (by decide) ?_
  refine j_icmp_gt F 20 dX10_run_13 (by decide) (fun c_13 => absurd ((n_lt 800 (Z.1 14) rfl rfl (by decide) (by omega)).mp c_13) (by omega)) (fun c_13 => ?_)
  refine j_iconst F (v := 1) dX10_run_16 (by decide) ?_
  refine j_goto F 21 dX10_run_17 (by decide) ?_
  refine j_iconst F (v := 1) dX10_run_21 (by decide) ?_
  refine j_scallV F kX10_88 (As := [.int 1, .int 1]) (rest := []) (c_X10_fails_ok l D ay ad (ups vi 0 0) ga 1 rfl) 0 0 20 rfl rfl rfl rfl rfl rfl ⟨Nat.le_of_ble_eq_true rfl, Nat.le_of_ble_eq_true rfl⟩ dX10_run_22 (fun v w hw => ?_)
  obtain ⟨rfl, rfl⟩ := hw
  refine ⟨rfl, (mW ay ad (ups vi 0 0) ga), (slp_all _ _ rfl).trans rfl, ?_⟩
  refine j_top 0 rfl ?_
  refine j_if_eq F 30 dX10_run_25 (by decide) (fun c_25 => ?_) (fun c_25 => absurd (by decide) c_25)
  refine j_aload_n F 0 dX10_run_30 rfl ?_
  refine j_scallV F kX10_195 (As := []) (rest := []) (c_X10_readsAll l D ay ad (ups vi 0 0) ga (Z.1 15) (show vi 16 = nI (Z.1 15) from h16) (show (Z.1 15) ≤ 300 from hT1)) 0 0 20 rfl rfl rfl rfl rfl rfl ⟨Nat.le_of_ble_eq_true rfl, Nat.le_of_ble_eq_true rfl⟩ dX10_run_31 (fun v w hw => ?_)
  obtain ⟨tk_31, ta_31, va_31, pb_31, m_31, g11_31, g12_31, h31_0, h31_1, rfl, rfl⟩ := hw
  replace h31_0 : ((prs (ga 10) (Z.1 15) (Z.1 15) (sk (ga 10) (Z.1 15) 0) 0).2 = -1 → m_31 = (prs (ga 10) (Z.1 15) (Z.1 15) (sk (ga 10) (Z.1 15) 0) 0).1.length ∧ m_31 ≤ 300 ∧ RW (prs (ga 10) (Z.1 15) (Z.1 15) (sk (ga 10) (Z.1 15) 0) 0).1 g11_31 g12_31) := h31_0
  replace h31_1 : (¬ (prs (ga 10) (Z.1 15) (Z.1 15) (sk (ga 10) (Z.1 15) 0) 0).2 = -1 → ta_31 = (prs (ga 10) (Z.1 15) (Z.1 15) (sk (ga 10) (Z.1 15) 0) 0).2) := h31_1
  refine ⟨rfl, (mW ay ad (ups (ups (ups (ups (ups (ups vi 0 0) 17 tk_31) 18 ta_31) 19 va_31) 20 pb_31) 23 (nI m_31)) (ups (ups ga 11 g11_31) 12 g12_31)), (slp_all _ _ rfl).trans rfl, ?_⟩
  refine j_top (if (prs (ga 10) (Z.1 15) (Z.1 15) (sk (ga 10) (Z.1 15) 0) 0).2 = -1 then 1 else 0) rfl ?_
  refine j_top 1 (if_pos he2) ?_
  refine j_istore_n F 1 [(1, .int 1), (0, .ref (ad 0))] dX10_run_34 rfl (by decide) rfl ?_
  refine j_aload_n F 1 dX10_run_35 rfl ?_
  refine j_iload_n F 0 dX10_run_36 rfl ?_
  refine j_if_eq F 44 dX10_run_37 (by decide) (fun c_37 => absurd c_37 (by decide)) (fun c_37 => ?_)
  refine j_iconst F (v := (-1)) dX10_run_40 (by decide) ?_
  refine j_goto F 48 dX10_run_41 (by decide) ?_
  refine j_putf F fX10_60 0 (mW ay ad (ups (ups (ups (ups (ups (ups (ups vi 0 0) 17 tk_31) 18 ta_31) 19 va_31) 20 pb_31) 23 (nI m_31)) 24 (-1)) (ups (ups ga 11 g11_31) 12 g12_31)) rfl rfl rfl rfl rfl (Nat.le_of_ble_eq_true rfl) dX10_run_48 ?_
  refine j_aload_n F 1 dX10_run_51 rfl ?_
  refine j_iconst F (v := 0) dX10_run_52 (by decide) ?_
  refine j_putf F fX10_153 0 (mW ay ad (ups (ups (ups (ups (ups (ups (ups (ups vi 0 0) 16 0) 17 tk_31) 18 ta_31) 19 va_31) 20 pb_31) 23 (nI m_31)) 24 (-1)) (ups (ups ga 11 g11_31) 12 g12_31)) rfl rfl rfl rfl rfl (Nat.le_of_ble_eq_true rfl) dX10_run_53 ?_
  refine j_aload_n F 1 dX10_run_56 rfl ?_
  refine j_iload_n F 0 dX10_run_57 rfl ?_
  refine j_iconst F (v := 2) dX10_run_58 (by decide) ?_
  refine j_scallV F kX10_88 (As := [.int 1, .int 2]) (rest := []) (c_X10_fails_ok l D ay ad (ups (ups (ups (ups (ups (ups (ups (ups vi 0 0) 16 0) 17 tk_31) 18 ta_31) 19 va_31) 20 pb_31) 23 (nI m_31)) 24 (-1)) (ups (ups ga 11 g11_31) 12 g12_31) 2 rfl) 0 0 20 rfl rfl rfl rfl rfl rfl ⟨Nat.le_of_ble_eq_true rfl, Nat.le_of_ble_eq_true rfl⟩ dX10_run_59 (fun v w hw => ?_)
  obtain ⟨rfl, rfl⟩ := hw
  refine ⟨rfl, (mW ay ad (ups (ups (ups (ups (ups (ups (ups (ups vi 0 0) 16 0) 17 tk_31) 18 ta_31) 19 va_31) 20 pb_31) 23 (nI m_31)) 24 (-1)) (ups (ups ga 11 g11_31) 12 g12_31)), (slp_all _ _ rfl).trans rfl, ?_⟩
  refine j_top 0 rfl ?_
  refine j_if_eq F 69 dX10_run_62 (by decide) (fun c_62 => ?_) (fun c_62 => absurd (by decide) c_62)
  refine j_aload_n F 1 dX10_run_69 rfl ?_
  refine j_scallV F kX10_199 (As := []) (rest := []) (c_X10_runs l D ay ad (ups (ups (ups (ups (ups (ups (ups (ups vi 0 0) 16 0) 17 tk_31) 18 ta_31) 19 va_31) 20 pb_31) 23 (nI m_31)) 24 (-1)) (ups (ups ga 11 g11_31) 12 g12_31) (tU (eU (rU Z pos P) (-1)) 0 (Z.2.2 15)) ((prs (ga 10) (Z.1 15) (Z.1 15) (sk (ga 10) (Z.1 15) 0) 0).1) u9 P k9 (show GI (tU (eU (rU Z pos P) (-1)) 0 (Z.2.2 15)) (ups (ups (ups (ups (ups (ups (ups (ups vi 0 0) 16 0) 17 tk_31) 18 ta_31) 19 va_31) 20 pb_31) 23 (nI m_31)) 24 (-1)) (ups (ups ga 11 g11_31) 12 g12_31) from rd_G hG (fun q hq => (ups_ne (by omega)).trans ((ups_ne (by omega)).trans ((ups_ne (by omega)).trans ((ups_ne (by omega)).trans ((ups_ne (by omega)).trans ((ups_ne (by omega)).trans ((ups_ne (by omega)).trans ((ups_ne (by omega)).trans rfl)))))))) (fun q hq => (ups_ne (by omega)).trans ((ups_ne (by omega)).trans rfl)) rfl rfl) (show (nI m_31) = nI ((prs (ga 10) (Z.1 15) (Z.1 15) (sk (ga 10) (Z.1 15) 0) 0).1).length from by rw [← (h31_0 he2).1]) (show ((prs (ga 10) (Z.1 15) (Z.1 15) (sk (ga 10) (Z.1 15) 0) 0).1).length ≤ 300 from by rw [← (h31_0 he2).1]; exact (h31_0 he2).2.1) (show RW ((prs (ga 10) (Z.1 15) (Z.1 15) (sk (ga 10) (Z.1 15) 0) 0).1) (g11_31) (g12_31) from (h31_0 he2).2.2) (show bal k9 0 ((prs (ga 10) (Z.1 15) (Z.1 15) (sk (ga 10) (Z.1 15) 0) 0).1) u9 from hb9) (show ∀ a ∈ u9, stepV a.1 a.2 from hV9) (show (tU (eU (rU Z pos P) (-1)) 0 (Z.2.2 15)).1 14 ≤ 800 from hle) (show P.1 = min 200 u9.length from hp1) (show ∀ (i : Nat) (a : PIt), u9[i]? = some a → i < 200 → P.2.1 i = a.1 ∧ P.2.2.1 i = a.2 from hp2)) 0 0 20 rfl rfl rfl rfl rfl rfl ⟨Nat.le_of_ble_eq_true rfl, Nat.le_of_ble_eq_true rfl⟩ dX10_run_70 (fun v w hw => ?_)
  obtain ⟨vi_70, ga_70, h70_0, h70_1, rfl, rfl⟩ := hw
  replace h70_0 : GI (runF (tU (eU (rU Z pos P) (-1)) 0 (Z.2.2 15)) P.2.1 P.2.2.1 P.1) vi_70 ga_70 := h70_0
  replace h70_1 : vi_70 0 = 0 := h70_1
  refine ⟨rfl, (mW ay ad vi_70 ga_70), (slp_all _ _ rfl).trans rfl, ?_⟩
  refine j_top (nI P.1) rfl ?_
  exact j_iret F ⟨vi_70, ga_70, h70_0, h70_1, rfl, rfl⟩ dX10_run_73 (Nat.le_of_ble_eq_true rfl) (Nat.le_of_ble_eq_true rfl)

set_option maxHeartbeats 4000000 in
set_option maxRecDepth 100000 in
theorem c_X10_run_no1 (l : Launch) (D : va_G) (ay : Nat → ClassId) (ad : Nat → Nat) (vi : Nat → Int32) (ga : Nat → Nat → Int32) (Z : DS) (hG : GI Z vi ga) (hle : 800 < Z.1 14) : jM l yX10_run (jws yX10_run cX10_run 2 (some .int)) 5 116 0 0 D ay [.ref (ad 0)] (mW ay ad vi ga) (fun v w => ∃ (vi' : Nat → Int32) (ga' : Nat → Nat → Int32), GI Z vi' ga' ∧ vi' 0 = 1 ∧ v = some (.int 0) ∧ w = mW ay ad vi' ga') := by
  refine jM_of l (by decide) [(0, .ref (ad 0))] rfl rfl (fun p9 e9 s9 m9 a9 b9 me9 c9 A9 F => ?_)
  have hL5 := hG.2.2.2.2.1
  have h13 := hL5.1
  have hle9 := hG.2.2.1.2.2
  have hT := hG.2.2.2.2.2.1
  have hT1 := hT.1
  have e10 : ga 10 = Z.2.2 15 := hT.2.2
  have h16 := hT.2.1
  refine j_aload_n F 0 dX10_run_0 rfl ?_
  refine j_iconst F (v := 0) dX10_run_1 (by decide) ?_
  refine j_putf F fX10_1 0 (mW ay ad (ups vi 0 0) ga) rfl rfl rfl rfl rfl (Nat.le_of_ble_eq_true rfl) dX10_run_2 ?_
  refine j_aload_n F 0 dX10_run_5 rfl ?_
  refine j_aload_n F 0 dX10_run_6 rfl ?_
  refine j_getf F fX10_127 0 (v := .int (vi 13)) rfl rfl dX10_run_7 ?_
  refine j_top (nI (Z.1 14)) h13 ?_
  refine j_sipush F (v := 800) dX10_run_10 (by decide) ?_
  refine j_icmp_gt F 20 dX10_run_13 (by decide) (fun c_13 => ?_) (fun c_13 => absurd ((n_lt 800 (Z.1 14) rfl rfl (by decide) (by omega)).mpr hle) c_13)
  refine j_iconst F (v := 0) dX10_run_20 (by decide) ?_
  refine j_iconst F (v := 1) dX10_run_21 (by decide) ?_
  refine j_scallV F kX10_88 (As := [.int 0, .int 1]) (rest := []) (c_X10_fails_no l D ay ad (ups vi 0 0) ga 1 rfl (show ¬ 1 = 0 from by decide)) 0 0 20 rfl rfl rfl rfl rfl rfl ⟨Nat.le_of_ble_eq_true rfl, Nat.le_of_ble_eq_true rfl⟩ dX10_run_22 (fun v w hw => ?_)
  obtain ⟨rfl, rfl⟩ := hw
  refine ⟨rfl, (mW ay ad (ups vi 0 1) ga), (slp_all _ _ rfl).trans rfl, ?_⟩
  refine j_top 1 rfl ?_
  refine j_if_eq F 30 dX10_run_25 (by decide) (fun c_25 => absurd c_25 (by decide)) (fun c_25 => ?_)
  refine j_iconst F (v := 0) dX10_run_28 (by decide) ?_
  exact j_iret F ⟨ups vi 0 1, ga, (GI_id hG (fun q hq => (ups_ne (by omega)).trans rfl) (fun q hq => rfl)), rfl, rfl, rfl⟩ dX10_run_29 (Nat.le_of_ble_eq_true rfl) (Nat.le_of_ble_eq_true rfl)

set_option maxHeartbeats 4000000 in
set_option maxRecDepth 100000 in
theorem c_X10_run_no2 (l : Launch) (D : va_G) (ay : Nat → ClassId) (ad : Nat → Nat) (vi : Nat → Int32) (ga : Nat → Nat → Int32) (Z : DS) (pos : Nat) (P : PS) (hG : GI Z vi ga) (hle : Z.1 14 ≤ 800) (he : ¬ (prs (Z.2.2 15) (Z.1 15) (Z.1 15) (sk (Z.2.2 15) (Z.1 15) 0) 0).2 = -1) : jM l yX10_run (jws yX10_run cX10_run 2 (some .int)) 5 116 0 0 D ay [.ref (ad 0)] (mW ay ad vi ga) (fun v w => ∃ (vi' : Nat → Int32) (ga' : Nat → Nat → Int32), GI (tU (eU (rU Z pos P) ((prs (Z.2.2 15) (Z.1 15) (Z.1 15) (sk (Z.2.2 15) (Z.1 15) 0) 0).2)) 0 (Z.2.2 15)) vi' ga' ∧ vi' 0 = 2 ∧ v = some (.int 0) ∧ w = mW ay ad vi' ga') := by
  refine jM_of l (by decide) [(0, .ref (ad 0))] rfl rfl (fun p9 e9 s9 m9 a9 b9 me9 c9 A9 F => ?_)
  have hL5 := hG.2.2.2.2.1
  have h13 := hL5.1
  have hle9 := hG.2.2.1.2.2
  have hT := hG.2.2.2.2.2.1
  have hT1 := hT.1
  have e10 : ga 10 = Z.2.2 15 := hT.2.2
  have h16 := hT.2.1
  have he2 : ¬ (prs (ga 10) (Z.1 15) (Z.1 15) (sk (ga 10) (Z.1 15) 0) 0).2 = -1 := by rw [e10]; exact he
  refine j_aload_n F 0 dX10_run_0 rfl ?_
  refine j_iconst F (v := 0) dX10_run_1 (by decide) ?_
  refine j_putf F fX10_1 0 (mW ay ad (ups vi 0 0) ga) rfl rfl rfl rfl rfl (Nat.le_of_ble_eq_true rfl) dX10_run_2 ?_
  refine j_aload_n F 0 dX10_run_5 rfl ?_
  refine j_aload_n F 0 dX10_run_6 rfl ?_
  refine j_getf F fX10_127 0 (v := .int (vi 13)) rfl rfl dX10_run_7 ?_
  refine j_top (nI (Z.1 14)) h13 ?_
  refine j_sipush F (v := 800) dX10_run_10 (by decide) ?_
  refine j_icmp_gt F 20 dX10_run_13 (by decide) (fun c_13 => absurd ((n_lt 800 (Z.1 14) rfl rfl (by decide) (by omega)).mp c_13) (by omega)) (fun c_13 => ?_)
  refine j_iconst F (v := 1) dX10_run_16 (by decide) ?_
  refine j_goto F 21 dX10_run_17 (by decide) ?_
  refine j_iconst F (v := 1) dX10_run_21 (by decide) ?_
  refine j_scallV F kX10_88 (As := [.int 1, .int 1]) (rest := []) (c_X10_fails_ok l D ay ad (ups vi 0 0) ga 1 rfl) 0 0 20 rfl rfl rfl rfl rfl rfl ⟨Nat.le_of_ble_eq_true rfl, Nat.le_of_ble_eq_true rfl⟩ dX10_run_22 (fun v w hw => ?_)
  obtain ⟨rfl, rfl⟩ := hw
  refine ⟨rfl, (mW ay ad (ups vi 0 0) ga), (slp_all _ _ rfl).trans rfl, ?_⟩
  refine j_top 0 rfl ?_
  refine j_if_eq F 30 dX10_run_25 (by decide) (fun c_25 => ?_) (fun c_25 => absurd (by decide) c_25)
  refine j_aload_n F 0 dX10_run_30 rfl ?_
  refine j_scallV F kX10_195 (As := []) (rest := []) (c_X10_readsAll l D ay ad (ups vi 0 0) ga (Z.1 15) (show vi 16 = nI (Z.1 15) from h16) (show (Z.1 15) ≤ 300 from hT1)) 0 0 20 rfl rfl rfl rfl rfl rfl ⟨Nat.le_of_ble_eq_true rfl, Nat.le_of_ble_eq_true rfl⟩ dX10_run_31 (fun v w hw => ?_)
  obtain ⟨tk_31, ta_31, va_31, pb_31, m_31, g11_31, g12_31, h31_0, h31_1, rfl, rfl⟩ := hw
  replace h31_0 : ((prs (ga 10) (Z.1 15) (Z.1 15) (sk (ga 10) (Z.1 15) 0) 0).2 = -1 → m_31 = (prs (ga 10) (Z.1 15) (Z.1 15) (sk (ga 10) (Z.1 15) 0) 0).1.length ∧ m_31 ≤ 300 ∧ RW (prs (ga 10) (Z.1 15) (Z.1 15) (sk (ga 10) (Z.1 15) 0) 0).1 g11_31 g12_31) := h31_0
  replace h31_1 : (¬ (prs (ga 10) (Z.1 15) (Z.1 15) (sk (ga 10) (Z.1 15) 0) 0).2 = -1 → ta_31 = (prs (ga 10) (Z.1 15) (Z.1 15) (sk (ga 10) (Z.1 15) 0) 0).2) := h31_1
  refine ⟨rfl, (mW ay ad (ups (ups (ups (ups (ups (ups vi 0 0) 17 tk_31) 18 ta_31) 19 va_31) 20 pb_31) 23 (nI m_31)) (ups (ups ga 11 g11_31) 12 g12_31)), (slp_all _ _ rfl).trans rfl, ?_⟩
  refine j_top (if (prs (ga 10) (Z.1 15) (Z.1 15) (sk (ga 10) (Z.1 15) 0) 0).2 = -1 then 1 else 0) rfl ?_
  refine j_top 0 (if_neg he2) ?_
  refine j_istore_n F 1 [(1, .int 0), (0, .ref (ad 0))] dX10_run_34 rfl (by decide) rfl ?_
  refine j_aload_n F 1 dX10_run_35 rfl ?_
  refine j_iload_n F 0 dX10_run_36 rfl ?_
  refine j_if_eq F 44 dX10_run_37 (by decide) (fun c_37 => ?_) (fun c_37 => absurd (by decide) c_37)
  refine j_aload_n F 1 dX10_run_44 rfl ?_
  refine j_getf F fX10_165 0 (v := .int ta_31) rfl rfl dX10_run_45 ?_
  refine j_putf F fX10_60 0 (mW ay ad (ups (ups (ups (ups (ups (ups (ups vi 0 0) 17 tk_31) 18 ta_31) 19 va_31) 20 pb_31) 23 (nI m_31)) 24 ta_31) (ups (ups ga 11 g11_31) 12 g12_31)) rfl rfl rfl rfl rfl (Nat.le_of_ble_eq_true rfl) dX10_run_48 ?_
  refine j_aload_n F 1 dX10_run_51 rfl ?_
  refine j_iconst F (v := 0) dX10_run_52 (by decide) ?_
  refine j_putf F fX10_153 0 (mW ay ad (ups (ups (ups (ups (ups (ups (ups (ups vi 0 0) 16 0) 17 tk_31) 18 ta_31) 19 va_31) 20 pb_31) 23 (nI m_31)) 24 ta_31) (ups (ups ga 11 g11_31) 12 g12_31)) rfl rfl rfl rfl rfl (Nat.le_of_ble_eq_true rfl) dX10_run_53 ?_
  refine j_aload_n F 1 dX10_run_56 rfl ?_
  refine j_iload_n F 0 dX10_run_57 rfl ?_
  refine j_iconst F (v := 2) dX10_run_58 (by decide) ?_
  refine j_scallV F kX10_88 (As := [.int 0, .int 2]) (rest := []) (c_X10_fails_no l D ay ad (ups (ups (ups (ups (ups (ups (ups (ups vi 0 0) 16 0) 17 tk_31) 18 ta_31) 19 va_31) 20 pb_31) 23 (nI m_31)) 24 ta_31) (ups (ups ga 11 g11_31) 12 g12_31) 2 rfl (show ¬ 2 = 0 from by decide)) 0 0 20 rfl rfl rfl rfl rfl rfl ⟨Nat.le_of_ble_eq_true rfl, Nat.le_of_ble_eq_true rfl⟩ dX10_run_59 (fun v w hw => ?_)
  obtain ⟨rfl, rfl⟩ := hw
  refine ⟨rfl, (mW ay ad (ups (ups (ups (ups (ups (ups (ups (ups vi 0 2) 16 0) 17 tk_31) 18 ta_31) 19 va_31) 20 pb_31) 23 (nI m_31)) 24 ta_31) (ups (ups ga 11 g11_31) 12 g12_31)), (slp_all _ _ rfl).trans rfl, ?_⟩
  refine j_top 1 rfl ?_
  refine j_if_eq F 69 dX10_run_62 (by decide) (fun c_62 => absurd c_62 (by decide)) (fun c_62 => ?_)
  refine j_iconst F (v := 0) dX10_run_65 (by decide) ?_
  refine j_goto F 73 dX10_run_66 (by decide) ?_
  exact j_iret F ⟨ups (ups (ups (ups (ups (ups (ups (ups vi 0 2) 16 0) 17 tk_31) 18 ta_31) 19 va_31) 20 pb_31) 23 (nI m_31)) 24 ta_31, ups (ups ga 11 g11_31) 12 g12_31, rd_G hG (fun q hq => (ups_ne (by omega)).trans ((ups_ne (by omega)).trans ((ups_ne (by omega)).trans ((ups_ne (by omega)).trans ((ups_ne (by omega)).trans ((ups_ne (by omega)).trans ((ups_ne (by omega)).trans ((ups_ne (by omega)).trans rfl)))))))) (fun q hq => (ups_ne (by omega)).trans ((ups_ne (by omega)).trans rfl)) rfl (by rw [← e10]; exact h31_1 he2), rfl, rfl, rfl⟩ dX10_run_73 (Nat.le_of_ble_eq_true rfl) (Nat.le_of_ble_eq_true rfl)

