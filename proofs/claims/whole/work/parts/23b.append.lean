set_option maxHeartbeats 4000000 in
set_option maxRecDepth 100000 in
theorem c_X9_append (l : Launch) (hfl : l.stackTraces = false) (D : va_G) (ay : Nat → ClassId) (sa : Nat → Nat) (ad : Nat → Nat) (Z : DS) (a1 : Int32) (a2 : Int32) (a3 : Int32) (a4 : Int32) (a5 : Int32) (ht : Z.1 15 ≤ 300) : jMx l yX9_append (jws yX9_append cX9_append 8 (some .int)) 6 100 3 18 D ay sa [.ref (ad 0), .int a1, .int a2, .int a3, .int a4, .int a5] (dW ay ad Z) (fun v w => Z.1 15 + (bcnt a1 4 + bcnt a2 4 + bcnt a3 4 + bcnt a4 4 + bcnt a5 4) ≤ 300 ∧ v = some (.int (nI ((apd (apd (apd (apd (apd Z a1) a2) a3) a4) a5).1 15))) ∧ w = (dW ay ad (apd (apd (apd (apd (apd Z a1) a2) a3) a4) a5))) (fun E w => (E = eIS ∧ (300 < Z.1 15 + (bcnt a1 4 + bcnt a2 4 + bcnt a3 4 + bcnt a4 4 + bcnt a5 4)) ∧ w = (dW ay ad Z))) := by
  refine jMx_of l hfl (by decide) [(0, .ref (ad 0)), (1, .int a1), (2, .int a2), (3, .int a3), (4, .int a4), (5, .int a5)] rfl rfl (fun p9 e9 s9 m9 a9 b9 me9 c9 A9 F hX hT => ?_)
  refine j_aload_n F 0 dX9_append_0 rfl ?_
  refine j_getf F fX9_37 0 rfl rfl dX9_append_1 ?_
  refine j_scallV F kX9_201 (As := []) (rest := []) (c_X4_tape l D ay (ad 41) (ad 42) (ad 44) (Z.1 16) (ad 43) (Z.1 15) (Z.2.2 15) (ad 45) (ad 46) (ad 47) (ad 48) (Z.1 17) (Z.2.2 16) (Z.2.2 17) (Z.2.2 18) (Z.2.2 19) (Z.1 18)) 41 41 8 rfl rfl rfl rfl rfl rfl ⟨Nat.le_of_ble_eq_true rfl, Nat.le_of_ble_eq_true rfl⟩ dX9_append_4 (fun v w hw => ?_)
  obtain ⟨rfl, rfl⟩ := hw
  refine ⟨rfl, (dW ay ad Z), rfl, ?_⟩
  refine j_astore F 6 [(6, .ref (ad 42)), (0, .ref (ad 0)), (1, .int a1), (2, .int a2), (3, .int a3), (4, .int a4), (5, .int a5)] dX9_append_7 (by decide) rfl ?_
  have hb1 := bcnt_le a1 4
  have hb2 := bcnt_le a2 4
  have hb3 := bcnt_le a3 4
  have hb4 := bcnt_le a4 4
  have hb5 := bcnt_le a5 4
  refine j_iload_n F 2 dX9_append_9 rfl ?_
  refine j_ecallS F kX9_205 (As := [.int a1]) (rest := []) (c_X6_bytesOf l D ay a1) rfl rfl rfl rfl ⟨Nat.le_of_ble_eq_true rfl, Nat.le_of_ble_eq_true rfl⟩ dX9_append_10 (fun v w hw => ?_)
  obtain ⟨rfl, rfl⟩ := hw
  refine ⟨rfl, ?_⟩
  refine j_iload_n F 3 dX9_append_13 rfl ?_
  refine j_ecallS F kX9_205 (As := [.int a2]) (rest := [.int (nI (bcnt a1 4))]) (c_X6_bytesOf l D ay a2) rfl rfl rfl rfl ⟨Nat.le_of_ble_eq_true rfl, Nat.le_of_ble_eq_true rfl⟩ dX9_append_14 (fun v w hw => ?_)
  obtain ⟨rfl, rfl⟩ := hw
  refine ⟨rfl, ?_⟩
  refine j_iadd F dX9_append_17 ?_
  refine j_top (nI (bcnt a1 4 + bcnt a2 4)) (nI_add _ _) ?_
  refine j_iload_n F 4 dX9_append_18 rfl ?_
  refine j_ecallS F kX9_205 (As := [.int a3]) (rest := [.int (nI (bcnt a1 4 + bcnt a2 4))]) (c_X6_bytesOf l D ay a3) rfl rfl rfl rfl ⟨Nat.le_of_ble_eq_true rfl, Nat.le_of_ble_eq_true rfl⟩ dX9_append_19 (fun v w hw => ?_)
  obtain ⟨rfl, rfl⟩ := hw
  refine ⟨rfl, ?_⟩
  refine j_iadd F dX9_append_22 ?_
  refine j_top (nI (bcnt a1 4 + bcnt a2 4 + bcnt a3 4)) (nI_add _ _) ?_
  refine j_iload F 5 dX9_append_23 rfl ?_
  refine j_ecallS F kX9_205 (As := [.int a4]) (rest := [.int (nI (bcnt a1 4 + bcnt a2 4 + bcnt a3 4))]) (c_X6_bytesOf l D ay a4) rfl rfl rfl rfl ⟨Nat.le_of_ble_eq_true rfl, Nat.le_of_ble_eq_true rfl⟩ dX9_append_25 (fun v w hw => ?_)
  obtain ⟨rfl, rfl⟩ := hw
  refine ⟨rfl, ?_⟩
  refine j_iadd F dX9_append_28 ?_
  refine j_top (nI (bcnt a1 4 + bcnt a2 4 + bcnt a3 4 + bcnt a4 4)) (nI_add _ _) ?_
  refine j_iload F 6 dX9_append_29 rfl ?_
  refine j_ecallS F kX9_205 (As := [.int a5]) (rest := [.int (nI (bcnt a1 4 + bcnt a2 4 + bcnt a3 4 + bcnt a4 4))]) (c_X6_bytesOf l D ay a5) rfl rfl rfl rfl ⟨Nat.le_of_ble_eq_true rfl, Nat.le_of_ble_eq_true rfl⟩ dX9_append_31 (fun v w hw => ?_)
  obtain ⟨rfl, rfl⟩ := hw
  refine ⟨rfl, ?_⟩
  refine j_iadd F dX9_append_34 ?_
  refine j_top (nI (bcnt a1 4 + bcnt a2 4 + bcnt a3 4 + bcnt a4 4 + bcnt a5 4)) (nI_add _ _) ?_
  refine j_istore F 7 [(7, .int (nI (bcnt a1 4 + bcnt a2 4 + bcnt a3 4 + bcnt a4 4 + bcnt a5 4))), (6, .ref (ad 42)), (0, .ref (ad 0)), (1, .int a1), (2, .int a2), (3, .int a3), (4, .int a4), (5, .int a5)] dX9_append_35 (by decide) rfl ?_
  refine j_aload F 1 dX9_append_37 rfl ?_
  refine j_scallV F kX9_210 (As := []) (rest := []) (c_X6_length l D ay (ad 42) (ad 43) (Z.1 15) (Z.2.2 15)) 42 42 2 rfl rfl rfl rfl rfl rfl ⟨Nat.le_of_ble_eq_true rfl, Nat.le_of_ble_eq_true rfl⟩ dX9_append_39 (fun v w hw => ?_)
  obtain ⟨rfl, rfl⟩ := hw
  refine ⟨rfl, (dW ay ad Z), rfl, ?_⟩
  refine j_iload F 0 dX9_append_42 rfl ?_
  refine j_iadd F dX9_append_44 ?_
  refine j_top (nI (Z.1 15 + (bcnt a1 4 + bcnt a2 4 + bcnt a3 4 + bcnt a4 4 + bcnt a5 4))) (nI_add _ _) ?_
  refine j_sipush F (v := 300) dX9_append_45 (by decide) ?_
  refine j_icmp_le F 61 dX9_append_48 (by decide) (fun c_48 => ?_) (fun c_48 => ?_)
  · skip
    have n_48 := (n_le (Z.1 15 + (bcnt a1 4 + bcnt a2 4 + bcnt a3 4 + bcnt a4 4 + bcnt a5 4)) 300 rfl rfl (by omega) (by omega)).mp c_48
    refine j_aload F 1 dX9_append_61 rfl ?_
    refine j_iload_n F 3 dX9_append_63 rfl ?_
    refine j_scallV F kX9_213 (As := [.int a1]) (rest := []) (c_X6_addBytes l D ay (ad 42) (ad 43) (Z.1 15) (Z.2.2 15) a1 (by show Z.1 15 + bcnt a1 4 ≤ 300; omega)) 42 42 2 rfl rfl rfl rfl rfl rfl ⟨Nat.le_of_ble_eq_true rfl, Nat.le_of_ble_eq_true rfl⟩ dX9_append_64 (fun v w hw => ?_)
    obtain ⟨rfl, rfl⟩ := hw
    refine ⟨rfl, (dW ay ad (apd Z a1)), dW_t ay ad Z .., ?_⟩
    refine j_aload F 1 dX9_append_67 rfl ?_
    refine j_iload_n F 4 dX9_append_69 rfl ?_
    refine j_scallV F kX9_213 (As := [.int a2]) (rest := []) (c_X6_addBytes l D ay (ad 42) (ad 43) ((apd Z a1).1 15) ((apd Z a1).2.2 15) a2 (by show Z.1 15 + bcnt a1 4 + bcnt a2 4 ≤ 300; omega)) 42 42 2 rfl rfl rfl rfl rfl rfl ⟨Nat.le_of_ble_eq_true rfl, Nat.le_of_ble_eq_true rfl⟩ dX9_append_70 (fun v w hw => ?_)
    obtain ⟨rfl, rfl⟩ := hw
    refine ⟨rfl, (dW ay ad (apd (apd Z a1) a2)), dW_t ay ad (apd Z a1) .., ?_⟩
    refine j_aload F 1 dX9_append_73 rfl ?_
    refine j_iload_n F 5 dX9_append_75 rfl ?_
    refine j_scallV F kX9_213 (As := [.int a3]) (rest := []) (c_X6_addBytes l D ay (ad 42) (ad 43) ((apd (apd Z a1) a2).1 15) ((apd (apd Z a1) a2).2.2 15) a3 (by show Z.1 15 + bcnt a1 4 + bcnt a2 4 + bcnt a3 4 ≤ 300; omega)) 42 42 2 rfl rfl rfl rfl rfl rfl ⟨Nat.le_of_ble_eq_true rfl, Nat.le_of_ble_eq_true rfl⟩ dX9_append_76 (fun v w hw => ?_)
    obtain ⟨rfl, rfl⟩ := hw
    refine ⟨rfl, (dW ay ad (apd (apd (apd Z a1) a2) a3)), dW_t ay ad (apd (apd Z a1) a2) .., ?_⟩
    refine j_aload F 1 dX9_append_79 rfl ?_
    refine j_iload F 6 dX9_append_81 rfl ?_
    refine j_scallV F kX9_213 (As := [.int a4]) (rest := []) (c_X6_addBytes l D ay (ad 42) (ad 43) ((apd (apd (apd Z a1) a2) a3).1 15) ((apd (apd (apd Z a1) a2) a3).2.2 15) a4 (by show Z.1 15 + bcnt a1 4 + bcnt a2 4 + bcnt a3 4 + bcnt a4 4 ≤ 300; omega)) 42 42 2 rfl rfl rfl rfl rfl rfl ⟨Nat.le_of_ble_eq_true rfl, Nat.le_of_ble_eq_true rfl⟩ dX9_append_83 (fun v w hw => ?_)
    obtain ⟨rfl, rfl⟩ := hw
    refine ⟨rfl, (dW ay ad (apd (apd (apd (apd Z a1) a2) a3) a4)), dW_t ay ad (apd (apd (apd Z a1) a2) a3) .., ?_⟩
    refine j_aload F 1 dX9_append_86 rfl ?_
    refine j_iload F 7 dX9_append_88 rfl ?_
    refine j_scallV F kX9_213 (As := [.int a5]) (rest := []) (c_X6_addBytes l D ay (ad 42) (ad 43) ((apd (apd (apd (apd Z a1) a2) a3) a4).1 15) ((apd (apd (apd (apd Z a1) a2) a3) a4).2.2 15) a5 (by show Z.1 15 + bcnt a1 4 + bcnt a2 4 + bcnt a3 4 + bcnt a4 4 + bcnt a5 4 ≤ 300; omega)) 42 42 2 rfl rfl rfl rfl rfl rfl ⟨Nat.le_of_ble_eq_true rfl, Nat.le_of_ble_eq_true rfl⟩ dX9_append_90 (fun v w hw => ?_)
    obtain ⟨rfl, rfl⟩ := hw
    refine ⟨rfl, (dW ay ad (apd (apd (apd (apd (apd Z a1) a2) a3) a4) a5)), dW_t ay ad (apd (apd (apd (apd Z a1) a2) a3) a4) .., ?_⟩
    refine j_aload F 1 dX9_append_93 rfl ?_
    refine j_scallV F kX9_210 (As := []) (rest := []) (c_X6_length l D ay (ad 42) (ad 43) ((apd (apd (apd (apd (apd Z a1) a2) a3) a4) a5).1 15) ((apd (apd (apd (apd (apd Z a1) a2) a3) a4) a5).2.2 15)) 42 42 2 rfl rfl rfl rfl rfl rfl ⟨Nat.le_of_ble_eq_true rfl, Nat.le_of_ble_eq_true rfl⟩ dX9_append_95 (fun v w hw => ?_)
    obtain ⟨rfl, rfl⟩ := hw
    refine ⟨rfl, (dW ay ad (apd (apd (apd (apd (apd Z a1) a2) a3) a4) a5)), rfl, ?_⟩
    exact j_xr (j_iret F ⟨by omega, rfl, rfl⟩ dX9_append_98 (Nat.le_of_ble_eq_true rfl) (Nat.le_of_ble_eq_true rfl))
  · skip
    have n_48 := mt (n_le (Z.1 15 + (bcnt a1 4 + bcnt a2 4 + bcnt a3 4 + bcnt a4 4 + bcnt a5 4)) 300 rfl rfl (by omega) (by omega)).mpr c_48
    exact j_throw F hfl hX hT (E := eIS) (text := "the tape has no room") (names := ["java/lang/RuntimeException", "java/lang/Exception"]) (ik := 142) (is := 211) (ic := 146) (a9 := sa 4) rfl (by decide) gk_IS gi_IS hX.2.2.1.2.2.2.2.1 gx_IS gb_IS hX.2.2.2.2.2.2.2.1 go_IS dX9_append_51 dX9_append_54 dX9_append_55 dX9_append_57 dX9_append_60 ⟨Nat.le_of_ble_eq_true rfl, Nat.le_of_ble_eq_true rfl, Nat.le_of_ble_eq_true rfl, Nat.le_of_ble_eq_true rfl⟩ ⟨Nat.le_of_ble_eq_true rfl, Nat.le_of_ble_eq_true rfl⟩ ⟨rfl, (by omega), rfl⟩

set_option maxHeartbeats 4000000 in
set_option maxRecDepth 100000 in
theorem c_X9_performStep_c (l : Launch) (D : va_G) (ay : Nat → ClassId) (ad : Nat → Nat) (Z : DS) (x : Int32) : jM l yX9_performStep (jws yX9_performStep cX9_performStep 3 none) 4 89 0 0 D ay [.ref (ad 0), .int 99, .int x] (dW ay ad Z) (fun v w => v = none ∧ w = (dW ay ad (mstC Z x))) := by
  refine jM_of l (by decide) [(0, .ref (ad 0)), (1, .int 99), (2, .int x)] rfl rfl (fun p9 e9 s9 m9 a9 b9 me9 c9 A9 F => ?_)
  refine j_iload_n F 1 dX9_performStep_0 rfl ?_
  refine j_bipush F (v := 99) dX9_performStep_1 (by decide) ?_
  refine j_icmp_eq F 14 dX9_performStep_3 (by decide) (fun c_3 => ?_) (fun c_3 => absurd (by decide) c_3)
  refine j_aload_n F 0 dX9_performStep_14 rfl ?_
  refine j_getf F fX9_44 0 rfl rfl dX9_performStep_15 ?_
  refine j_iload_n F 1 dX9_performStep_18 rfl ?_
  refine j_iload_n F 2 dX9_performStep_19 rfl ?_
  refine j_scallV F kX9_289 (As := [.int 99, .int x]) (rest := []) (c_X2_perform_c l D ay (ad 49) (ad 50) (ad 51) (ad 52) (ad 53) (ad 54) (Z.1 19) (Z.2.1 19) (Z.2.1 20) (Z.2.1 21) (Z.2.2 20) (Z.2.2 21) (Z.2.2 22) (Z.1 11) (Z.2.2 23) x) 49 49 6 rfl rfl rfl rfl rfl rfl ⟨Nat.le_of_ble_eq_true rfl, Nat.le_of_ble_eq_true rfl⟩ dX9_performStep_20 (fun v w hw => ?_)
  obtain ⟨rfl, rfl⟩ := hw
  refine ⟨rfl, (dW ay ad (mstC Z x)), dW_x ay ad Z .., ?_⟩
  exact j_vret F ⟨rfl, rfl⟩ dX9_performStep_23 (Nat.le_of_ble_eq_true rfl) (Nat.le_of_ble_eq_true rfl)

set_option maxHeartbeats 4000000 in
set_option maxRecDepth 100000 in
theorem c_X9_performStep_mstL (l : Launch) (D : va_G) (ay : Nat → ClassId) (ad : Nat → Nat) (Z : DS) (a : Nat) (ha : a < 64) (hA : aI Z) (hX1 : xI Z) (hc : Z.1 14 < 1000) : jM l yX9_performStep (jws yX9_performStep cX9_performStep 3 none) 4 89 0 0 D ay [.ref (ad 0), .int 108, .int (nI a)] (dW ay ad Z) (fun v w => v = none ∧ w = (dW ay ad (mstL (askS Z (nI (a / 4))) a))) := by
  refine jM_of l (by decide) [(0, .ref (ad 0)), (1, .int 108), (2, .int (nI a))] rfl rfl (fun p9 e9 s9 m9 a9 b9 me9 c9 A9 F => ?_)
  refine j_iload_n F 1 dX9_performStep_0 rfl ?_
  refine j_bipush F (v := 99) dX9_performStep_1 (by decide) ?_
  refine j_icmp_eq F 14 dX9_performStep_3 (by decide) (fun c_3 => absurd c_3 (by decide)) (fun c_3 => ?_)
  refine j_aload_n F 0 dX9_performStep_6 rfl ?_
  refine j_iload_n F 2 dX9_performStep_7 rfl ?_
  refine j_iconst F (v := 4) dX9_performStep_8 (by decide) ?_
  refine j_idiv F dX9_performStep_9 (by decide) ?_
  refine j_top (nI (a / 4)) (pk_div (d := 4) (by omega) (by decide) (by decide)) ?_
  refine j_scallV F kX9_171 (As := [.int (nI (a / 4))]) (rest := []) (c_X9_askCaches l D ay ad Z (a / 4) (by omega) hA hc) 0 0 55 rfl rfl rfl rfl rfl rfl ⟨Nat.le_of_ble_eq_true rfl, Nat.le_of_ble_eq_true rfl⟩ dX9_performStep_10 (fun v w hw => ?_)
  obtain ⟨rfl, rfl⟩ := hw
  refine ⟨rfl, (dW ay ad (askS Z (nI (a / 4)))), slp_all _ _ rfl, ?_⟩
  refine j_pop F dX9_performStep_13 rfl ?_
  refine j_aload_n F 0 dX9_performStep_14 rfl ?_
  refine j_getf F fX9_44 0 rfl rfl dX9_performStep_15 ?_
  refine j_iload_n F 1 dX9_performStep_18 rfl ?_
  refine j_iload_n F 2 dX9_performStep_19 rfl ?_
  refine j_scallV F kX9_289 (As := [.int 108, .int (nI a)]) (rest := []) (c_X2_perform_l l D ay (ad 49) (ad 50) (ad 51) (ad 52) (ad 53) (ad 54) ((askS Z (nI (a / 4))).1 19) ((askS Z (nI (a / 4))).2.1 19) ((askS Z (nI (a / 4))).2.1 20) ((askS Z (nI (a / 4))).2.1 21) ((askS Z (nI (a / 4))).2.2 20) ((askS Z (nI (a / 4))).2.2 21) ((askS Z (nI (a / 4))).2.2 22) ((askS Z (nI (a / 4))).1 11) ((askS Z (nI (a / 4))).2.2 23) a (kN (usF (Z.2.2 23) (Z.1 11) (nI (a / 4))) 0) hX1.1.1 (hX1.1.q (by omega)) ha ⟨hX1.2.2.1, Nat.lt_of_le_of_lt hX1.2.2.2 (by decide)⟩ (hX1.v (by omega))) 49 49 6 rfl rfl rfl rfl rfl rfl ⟨Nat.le_of_ble_eq_true rfl, Nat.le_of_ble_eq_true rfl⟩ dX9_performStep_20 (fun v w hw => ?_)
  obtain ⟨rfl, rfl⟩ := hw
  refine ⟨rfl, (dW ay ad (mstL (askS Z (nI (a / 4))) a)), dW_x ay ad (askS Z (nI (a / 4))) .., ?_⟩
  exact j_vret F ⟨rfl, rfl⟩ dX9_performStep_23 (Nat.le_of_ble_eq_true rfl) (Nat.le_of_ble_eq_true rfl)

set_option maxHeartbeats 4000000 in
set_option maxRecDepth 100000 in
theorem c_X9_performStep_mstA (l : Launch) (D : va_G) (ay : Nat → ClassId) (ad : Nat → Nat) (Z : DS) (a : Nat) (ha : a < 64) (hA : aI Z) (hX1 : xI Z) (hc : Z.1 14 < 1000) : jM l yX9_performStep (jws yX9_performStep cX9_performStep 3 none) 4 89 0 0 D ay [.ref (ad 0), .int 97, .int (nI a)] (dW ay ad Z) (fun v w => v = none ∧ w = (dW ay ad (mstA (askS Z (nI (a / 4))) a))) := by
  refine jM_of l (by decide) [(0, .ref (ad 0)), (1, .int 97), (2, .int (nI a))] rfl rfl (fun p9 e9 s9 m9 a9 b9 me9 c9 A9 F => ?_)
  refine j_iload_n F 1 dX9_performStep_0 rfl ?_
  refine j_bipush F (v := 99) dX9_performStep_1 (by decide) ?_
  refine j_icmp_eq F 14 dX9_performStep_3 (by decide) (fun c_3 => absurd c_3 (by decide)) (fun c_3 => ?_)
  refine j_aload_n F 0 dX9_performStep_6 rfl ?_
  refine j_iload_n F 2 dX9_performStep_7 rfl ?_
  refine j_iconst F (v := 4) dX9_performStep_8 (by decide) ?_
  refine j_idiv F dX9_performStep_9 (by decide) ?_
  refine j_top (nI (a / 4)) (pk_div (d := 4) (by omega) (by decide) (by decide)) ?_
  refine j_scallV F kX9_171 (As := [.int (nI (a / 4))]) (rest := []) (c_X9_askCaches l D ay ad Z (a / 4) (by omega) hA hc) 0 0 55 rfl rfl rfl rfl rfl rfl ⟨Nat.le_of_ble_eq_true rfl, Nat.le_of_ble_eq_true rfl⟩ dX9_performStep_10 (fun v w hw => ?_)
  obtain ⟨rfl, rfl⟩ := hw
  refine ⟨rfl, (dW ay ad (askS Z (nI (a / 4)))), slp_all _ _ rfl, ?_⟩
  refine j_pop F dX9_performStep_13 rfl ?_
  refine j_aload_n F 0 dX9_performStep_14 rfl ?_
  refine j_getf F fX9_44 0 rfl rfl dX9_performStep_15 ?_
  refine j_iload_n F 1 dX9_performStep_18 rfl ?_
  refine j_iload_n F 2 dX9_performStep_19 rfl ?_
  refine j_scallV F kX9_289 (As := [.int 97, .int (nI a)]) (rest := []) (c_X2_perform_a l D ay (ad 49) (ad 50) (ad 51) (ad 52) (ad 53) (ad 54) ((askS Z (nI (a / 4))).1 19) ((askS Z (nI (a / 4))).2.1 19) ((askS Z (nI (a / 4))).2.1 20) ((askS Z (nI (a / 4))).2.1 21) ((askS Z (nI (a / 4))).2.2 20) ((askS Z (nI (a / 4))).2.2 21) ((askS Z (nI (a / 4))).2.2 22) ((askS Z (nI (a / 4))).1 11) ((askS Z (nI (a / 4))).2.2 23) a (kN (usF (Z.2.2 23) (Z.1 11) (nI (a / 4))) 0) hX1.1.1 (hX1.1.q (by omega)) ha ⟨hX1.2.2.1, Nat.lt_of_le_of_lt hX1.2.2.2 (by decide)⟩ (hX1.v (by omega))) 49 49 6 rfl rfl rfl rfl rfl rfl ⟨Nat.le_of_ble_eq_true rfl, Nat.le_of_ble_eq_true rfl⟩ dX9_performStep_20 (fun v w hw => ?_)
  obtain ⟨rfl, rfl⟩ := hw
  refine ⟨rfl, (dW ay ad (mstA (askS Z (nI (a / 4))) a)), dW_x ay ad (askS Z (nI (a / 4))) .., ?_⟩
  exact j_vret F ⟨rfl, rfl⟩ dX9_performStep_23 (Nat.le_of_ble_eq_true rfl) (Nat.le_of_ble_eq_true rfl)

set_option maxHeartbeats 4000000 in
set_option maxRecDepth 100000 in
theorem c_X9_performStep_mstS (l : Launch) (D : va_G) (ay : Nat → ClassId) (ad : Nat → Nat) (Z : DS) (a : Nat) (ha : a < 64) (hA : aI Z) (hX1 : xI Z) (hc : Z.1 14 < 1000) : jM l yX9_performStep (jws yX9_performStep cX9_performStep 3 none) 4 89 0 0 D ay [.ref (ad 0), .int 115, .int (nI a)] (dW ay ad Z) (fun v w => v = none ∧ w = (dW ay ad (mstS (askS Z (nI (a / 4))) a))) := by
  refine jM_of l (by decide) [(0, .ref (ad 0)), (1, .int 115), (2, .int (nI a))] rfl rfl (fun p9 e9 s9 m9 a9 b9 me9 c9 A9 F => ?_)
  refine j_iload_n F 1 dX9_performStep_0 rfl ?_
  refine j_bipush F (v := 99) dX9_performStep_1 (by decide) ?_
  refine j_icmp_eq F 14 dX9_performStep_3 (by decide) (fun c_3 => absurd c_3 (by decide)) (fun c_3 => ?_)
  refine j_aload_n F 0 dX9_performStep_6 rfl ?_
  refine j_iload_n F 2 dX9_performStep_7 rfl ?_
  refine j_iconst F (v := 4) dX9_performStep_8 (by decide) ?_
  refine j_idiv F dX9_performStep_9 (by decide) ?_
  refine j_top (nI (a / 4)) (pk_div (d := 4) (by omega) (by decide) (by decide)) ?_
  refine j_scallV F kX9_171 (As := [.int (nI (a / 4))]) (rest := []) (c_X9_askCaches l D ay ad Z (a / 4) (by omega) hA hc) 0 0 55 rfl rfl rfl rfl rfl rfl ⟨Nat.le_of_ble_eq_true rfl, Nat.le_of_ble_eq_true rfl⟩ dX9_performStep_10 (fun v w hw => ?_)
  obtain ⟨rfl, rfl⟩ := hw
  refine ⟨rfl, (dW ay ad (askS Z (nI (a / 4)))), slp_all _ _ rfl, ?_⟩
  refine j_pop F dX9_performStep_13 rfl ?_
  refine j_aload_n F 0 dX9_performStep_14 rfl ?_
  refine j_getf F fX9_44 0 rfl rfl dX9_performStep_15 ?_
  refine j_iload_n F 1 dX9_performStep_18 rfl ?_
  refine j_iload_n F 2 dX9_performStep_19 rfl ?_
  refine j_scallV F kX9_289 (As := [.int 115, .int (nI a)]) (rest := []) (c_X2_perform_s l D ay (ad 49) (ad 50) (ad 51) (ad 52) (ad 53) (ad 54) ((askS Z (nI (a / 4))).1 19) ((askS Z (nI (a / 4))).2.1 19) ((askS Z (nI (a / 4))).2.1 20) ((askS Z (nI (a / 4))).2.1 21) ((askS Z (nI (a / 4))).2.2 20) ((askS Z (nI (a / 4))).2.2 21) ((askS Z (nI (a / 4))).2.2 22) ((askS Z (nI (a / 4))).1 11) ((askS Z (nI (a / 4))).2.2 23) a (kN (usF (Z.2.2 23) (Z.1 11) (nI (a / 4))) 0) hX1.1.1 (hX1.1.q (by omega)) ha ⟨hX1.2.2.1, Nat.lt_of_le_of_lt hX1.2.2.2 (by decide)⟩ (hX1.v (by omega))) 49 49 6 rfl rfl rfl rfl rfl rfl ⟨Nat.le_of_ble_eq_true rfl, Nat.le_of_ble_eq_true rfl⟩ dX9_performStep_20 (fun v w hw => ?_)
  obtain ⟨rfl, rfl⟩ := hw
  refine ⟨rfl, (dW ay ad (mstS (askS Z (nI (a / 4))) a)), dW_x ay ad (askS Z (nI (a / 4))) .., ?_⟩
  exact j_vret F ⟨rfl, rfl⟩ dX9_performStep_23 (Nat.le_of_ble_eq_true rfl) (Nat.le_of_ble_eq_true rfl)

theorem c_X9_performStep (l : Launch) (D : va_G) (ay : Nat → ClassId) (ad : Nat → Nat) (Z : DS) (L : Int32) (x : Int32) (hv : stepV L x) (hA : aI Z) (hX1 : xI Z) (hc : Z.1 14 < 1000) : jM l yX9_performStep (jws yX9_performStep cX9_performStep 3 none) 4 89 0 0 D ay [.ref (ad 0), .int L, .int x] (dW ay ad Z) (fun v w => v = none ∧ w = (dW ay ad (stepS Z L x))) := by
  rcases hv with rfl | ⟨h, a, ha, rfl⟩
  · rw [stepS_c]; exact c_X9_performStep_c l D ay ad Z x
  · rcases h with rfl | rfl | rfl
    · rw [stepS_l Z ha]; exact c_X9_performStep_mstL l D ay ad Z a ha hA hX1 hc
    · rw [stepS_a Z ha]; exact c_X9_performStep_mstA l D ay ad Z a ha hA hX1 hc
    · rw [stepS_s Z ha]; exact c_X9_performStep_mstS l D ay ad Z a ha hA hX1 hc

