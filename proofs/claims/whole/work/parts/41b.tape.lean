set_option maxHeartbeats 4000000 in
set_option maxRecDepth 100000 in
theorem c_X10_bytesIn (l : Launch) (D : va_G) (ay : Nat → ClassId) (x : Int32) : jM l yX10_bytesIn (jws yX10_bytesIn cX10_bytesIn 3 (some .int)) 0 0 0 0 D ay [.int x] [] (fun v w => v = some (.int (nI (bcnt x 4))) ∧ w = []) := by
  refine jM_of l (by decide) [(0, .int x)] rfl rfl (fun p9 e9 s9 m9 a9 b9 me9 c9 A9 F => ?_)
  refine j_iconst F (v := 0) dX10_bytesIn_0 (by decide) ?_
  refine j_istore_n F 1 [(1, .int 0), (0, .int x)] dX10_bytesIn_1 rfl (by decide) rfl ?_
  refine j_iconst F (v := 0) dX10_bytesIn_2 (by decide) ?_
  refine j_istore_n F 2 [(2, .int 0), (1, .int 0), (0, .int x)] dX10_bytesIn_3 rfl (by decide) rfl ?_
  refine j_loop (σ := Nat) (fun i => i ≤ 4) (fun i => 4 - i) (fun i => [(2, .int (rsh i)), (1, .int (nI (rcnt x i))), (0, .int x)]) (fun _ => []) 0 (Nat.zero_le _) rfl rfl (fun i hi ih => ?_)
  by_cases h4 : i < 4
  · skip
    refine j_iload_n F 0 dX10_bytesIn_4 rfl ?_
    refine j_bipush F (v := 32) dX10_bytesIn_5 (by decide) ?_
    refine j_icmp_ge F 34 dX10_bytesIn_7 (by decide) (fun c_7 => absurd c_7 (rsh_lt h4)) (fun c_7 => ?_)
    refine j_iload_n F 1 dX10_bytesIn_10 rfl ?_
    refine j_iload_n F 2 dX10_bytesIn_11 rfl ?_
    refine j_iload_n F 0 dX10_bytesIn_12 rfl ?_
    refine j_ishr F dX10_bytesIn_13 ?_
    refine j_sipush F (v := 255) dX10_bytesIn_14 (by decide) ?_
    refine j_iand F dX10_bytesIn_17 ?_
    refine j_top (by4 x (rsh i)) (bs_r x h4) ?_
    refine j_if_ne F 25 dX10_bytesIn_18 (by decide) (fun c_18 => ?_) (fun c_18 => ?_)
    · skip
      refine j_iconst F (v := 1) dX10_bytesIn_25 (by decide) ?_
      refine j_iadd F dX10_bytesIn_26 ?_
      refine j_top (nI (rcnt x i + 1)) (nI_add _ _) ?_
      refine j_istore_n F 1 [(1, .int (nI (rcnt x i + 1))), (2, .int (rsh i)), (0, .int x)] dX10_bytesIn_27 rfl (by decide) rfl ?_
      refine j_iinc F 1 (rsh (i + 1)) [(2, .int (rsh (i + 1))), (1, .int (nI (rcnt x i + 1))), (0, .int x)] dX10_bytesIn_28 rfl (rsh_next h4) (by decide) rfl ?_
      refine j_goto F 4 dX10_bytesIn_31 (by decide) ?_
      have e1 : rcnt x (i + 1) = (rcnt x i + 1) := if_neg c_18
      refine j_sub [0, 1, 2] [(2, .int (rsh (i + 1))), (1, .int (nI (rcnt x i + 1))), (0, .int x)] rfl ?_
      refine j_nf [] [(2, .int (rsh (i + 1))), (1, .int (nI (rcnt x (i + 1)))), (0, .int x)] rfl (by rw [e1] <;> rfl) ?_
      exact ih (i + 1) (by omega) (by show 4 - (i + 1) < 4 - i; omega)
    · skip
      refine j_iconst F (v := 0) dX10_bytesIn_21 (by decide) ?_
      refine j_goto F 26 dX10_bytesIn_22 (by decide) ?_
      refine j_iadd F dX10_bytesIn_26 ?_
      refine j_top (nI (rcnt x i + 0)) (nI_add _ _) ?_
      refine j_istore_n F 1 [(1, .int (nI (rcnt x i + 0))), (2, .int (rsh i)), (0, .int x)] dX10_bytesIn_27 rfl (by decide) rfl ?_
      refine j_iinc F 1 (rsh (i + 1)) [(2, .int (rsh (i + 1))), (1, .int (nI (rcnt x i + 0))), (0, .int x)] dX10_bytesIn_28 rfl (rsh_next h4) (by decide) rfl ?_
      refine j_goto F 4 dX10_bytesIn_31 (by decide) ?_
      have e1 : rcnt x (i + 1) = (rcnt x i + 0) := if_pos c_18
      refine j_sub [0, 1, 2] [(2, .int (rsh (i + 1))), (1, .int (nI (rcnt x i + 0))), (0, .int x)] rfl ?_
      refine j_nf [] [(2, .int (rsh (i + 1))), (1, .int (nI (rcnt x (i + 1)))), (0, .int x)] rfl (by rw [e1] <;> rfl) ?_
      exact ih (i + 1) (by omega) (by show 4 - (i + 1) < 4 - i; omega)
  · skip
    obtain rfl : i = 4 := by omega
    refine j_nf [] [(2, .int 32), (1, .int (nI (rcnt x 4))), (0, .int x)] rfl rfl ?_
    refine j_iload_n F 0 dX10_bytesIn_4 rfl ?_
    refine j_bipush F (v := 32) dX10_bytesIn_5 (by decide) ?_
    refine j_icmp_ge F 34 dX10_bytesIn_7 (by decide) (fun c_7 => ?_) (fun c_7 => absurd (by decide) c_7)
    refine j_iload_n F 1 dX10_bytesIn_34 rfl ?_
    exact j_iret F ⟨by rw [rcnt_4], rfl⟩ dX10_bytesIn_35 (Nat.le_of_ble_eq_true rfl) (Nat.le_of_ble_eq_true rfl)

set_option maxHeartbeats 4000000 in
set_option maxRecDepth 100000 in
theorem c_X10_takesBytes (l : Launch) (D : va_G) (ay : Nat → ClassId) (ad : Nat → Nat) (vi : Nat → Int32) (ga : Nat → Nat → Int32) (Z : DS) (x : Int32) (hG : GI Z vi ga) (hn : Z.1 15 + bcnt x 4 ≤ 300) : jM l yX10_takesBytes (jws yX10_takesBytes cX10_takesBytes 4 none) 0 0 0 0 D ay [.ref (ad 0), .int x] (mW ay ad vi ga) (fun v w => ∃ (vi' : Nat → Int32) (ga' : Nat → Nat → Int32), GI (apd Z x) vi' ga' ∧ vi' 0 = vi 0 ∧ v = none ∧ w = mW ay ad vi' ga') := by
  refine jM_of l (by decide) [(0, .ref (ad 0)), (1, .int x)] rfl rfl (fun p9 e9 s9 m9 a9 b9 me9 c9 A9 F => ?_)
  refine j_bipush F (v := 24) dX10_takesBytes_0 (by decide) ?_
  refine j_istore_n F 2 [(2, .int 24), (0, .ref (ad 0)), (1, .int x)] dX10_takesBytes_2 rfl (by decide) rfl ?_
  have hT := hG.2.2.2.2.2.1
  refine j_loop (σ := Nat) (fun i => i ≤ 4) (fun i => 4 - i) (fun i => [(2, .int (sh4 i)), (0, .ref (ad 0)), (1, .int x)]) (fun i => (mW ay ad (ups vi 16 (nI (Z.1 15 + bcnt x i))) (ups ga 10 (brow (ga 10) (Z.1 15) x i)))) 0 (Nat.zero_le _) rfl (by
    show mW ay ad vi ga = mW ay ad (ups vi 16 (nI (Z.1 15))) (ups ga 10 (ga 10))
    rw [show ups ga 10 (ga 10) = ga from ups_self, ← hT.2.1, show ups vi 16 (vi 16) = vi from ups_self]) (fun i hi ih => ?_)
  have hb4 := bcnt_mono x (i := i) (j := 4) hi
  by_cases h4 : i < 4
  · skip
    have hb5 := bcnt_mono x (i := i + 1) (j := 4) (by omega)
    refine j_iload_n F 0 dX10_takesBytes_3 rfl ?_
    refine j_if_lt F 48 dX10_takesBytes_4 (by decide) (fun c_4 => absurd c_4 (sh4_pos h4)) (fun c_4 => ?_)
    refine j_iload_n F 2 dX10_takesBytes_7 rfl ?_
    refine j_iload_n F 0 dX10_takesBytes_8 rfl ?_
    refine j_ishr F dX10_takesBytes_9 ?_
    refine j_sipush F (v := 255) dX10_takesBytes_10 (by decide) ?_
    refine j_iand F dX10_takesBytes_13 ?_
    refine j_top (by4 x (sh4 i)) (bs_s x h4) ?_
    refine j_istore_n F 3 [(3, .int (by4 x (sh4 i))), (2, .int (sh4 i)), (0, .ref (ad 0)), (1, .int x)] dX10_takesBytes_14 rfl (by decide) rfl ?_
    refine j_iload_n F 0 dX10_takesBytes_15 rfl ?_
    refine j_if_ne F 22 dX10_takesBytes_16 (by decide) (fun c_16 => ?_) (fun c_16 => ?_)
    · skip
      have e2 : bcnt x (i + 1) = bcnt x i + 1 := if_neg c_16
      refine j_aload_n F 2 dX10_takesBytes_22 rfl ?_
      refine j_getf F fX10_51 0 (v := .ref (ad 11)) rfl rfl dX10_takesBytes_23 ?_
      refine j_aload_n F 2 dX10_takesBytes_26 rfl ?_
      refine j_getf F fX10_153 0 (v := .int (nI (Z.1 15 + bcnt x i))) rfl rfl dX10_takesBytes_27 ?_
      refine j_iload_n F 0 dX10_takesBytes_30 rfl ?_
      refine j_iast F 11 (mW ay ad (ups vi 16 (nI (Z.1 15 + bcnt x i))) (ups ga 10 (upd (brow (ga 10) (Z.1 15) x i) (Z.1 15 + bcnt x i) (by4 x (sh4 i))))) (Z.1 15 + bcnt x i) rfl rfl (by omega) (Nat.le_of_ble_eq_true rfl) rfl dX10_takesBytes_31 ?_
      refine j_aload_n F 2 dX10_takesBytes_32 rfl ?_
      refine j_dup F dX10_takesBytes_33 rfl ?_
      refine j_getf F fX10_153 0 (v := .int (nI (Z.1 15 + bcnt x i))) rfl rfl dX10_takesBytes_34 ?_
      refine j_iconst F (v := 1) dX10_takesBytes_37 (by decide) ?_
      refine j_iadd F dX10_takesBytes_38 ?_
      refine j_top (nI (Z.1 15 + bcnt x i + 1)) (nI_add _ _) ?_
      refine j_putf F fX10_153 0 (mW ay ad (ups vi 16 (nI (Z.1 15 + bcnt x i + 1))) (ups ga 10 (upd (brow (ga 10) (Z.1 15) x i) (Z.1 15 + bcnt x i) (by4 x (sh4 i))))) rfl rfl rfl rfl rfl (Nat.le_of_ble_eq_true rfl) dX10_takesBytes_39 ?_
      refine j_iinc F 1 (sh4 (i + 1)) [(2, .int (sh4 (i + 1))), (3, .int (by4 x (sh4 i))), (0, .ref (ad 0)), (1, .int x)] dX10_takesBytes_42 rfl (sh4_next h4) (by decide) rfl ?_
      refine j_goto F 3 dX10_takesBytes_45 (by decide) ?_
      refine j_sub [0, 2, 3] [(2, .int (sh4 (i + 1))), (0, .ref (ad 0)), (1, .int x)] rfl ?_
      refine j_nf (mW ay ad (ups vi 16 (nI (Z.1 15 + bcnt x (i + 1)))) (ups ga 10 (brow (ga 10) (Z.1 15) x (i + 1)))) [(2, .int (sh4 (i + 1))), (0, .ref (ad 0)), (1, .int x)] (by rw [e2, show brow (ga 10) (Z.1 15) x (i + 1) = upd (brow (ga 10) (Z.1 15) x i) (Z.1 15 + bcnt x i) (by4 x (sh4 i)) from if_neg c_16] <;> rfl) rfl ?_
      exact ih (i + 1) (by omega) (by show 4 - (i + 1) < 4 - i; omega)
    · skip
      refine j_goto F 42 dX10_takesBytes_19 (by decide) ?_
      refine j_iinc F 1 (sh4 (i + 1)) [(2, .int (sh4 (i + 1))), (3, .int (by4 x (sh4 i))), (0, .ref (ad 0)), (1, .int x)] dX10_takesBytes_42 rfl (sh4_next h4) (by decide) rfl ?_
      refine j_goto F 3 dX10_takesBytes_45 (by decide) ?_
      refine j_sub [0, 2, 3] [(2, .int (sh4 (i + 1))), (0, .ref (ad 0)), (1, .int x)] rfl ?_
      refine j_nf (mW ay ad (ups vi 16 (nI (Z.1 15 + bcnt x (i + 1)))) (ups ga 10 (brow (ga 10) (Z.1 15) x (i + 1)))) [(2, .int (sh4 (i + 1))), (0, .ref (ad 0)), (1, .int x)] (by rw [show bcnt x (i + 1) = bcnt x i from if_pos c_16, show brow (ga 10) (Z.1 15) x (i + 1) = brow (ga 10) (Z.1 15) x i from if_pos c_16]) rfl ?_
      exact ih (i + 1) (by omega) (by show 4 - (i + 1) < 4 - i; omega)
  · skip
    obtain rfl : i = 4 := by omega
    refine j_nf (mW ay ad (ups vi 16 (nI (Z.1 15 + bcnt x 4))) (ups ga 10 (brow (ga 10) (Z.1 15) x 4))) [(2, .int (-8)), (0, .ref (ad 0)), (1, .int x)] rfl rfl ?_
    refine j_iload_n F 0 dX10_takesBytes_3 rfl ?_
    refine j_if_lt F 48 dX10_takesBytes_4 (by decide) (fun c_4 => ?_) (fun c_4 => absurd (by decide) c_4)
    exact j_vret F ⟨ups vi 16 (nI (Z.1 15 + bcnt x 4)), ups ga 10 (brow (ga 10) (Z.1 15) x 4), GI_t hG (fun q hq => (ups_ne (by omega)).trans rfl) (fun q hq => (ups_ne (by omega)).trans rfl) hn rfl (by show brow (ga 10) _ x 4 = _; rw [hT.2.2]), rfl, rfl, rfl⟩ dX10_takesBytes_48 (Nat.le_of_ble_eq_true rfl) (Nat.le_of_ble_eq_true rfl)

set_option maxHeartbeats 4000000 in
set_option maxRecDepth 100000 in
theorem c_X10_append_ok (l : Launch) (D : va_G) (ay : Nat → ClassId) (ad : Nat → Nat) (vi : Nat → Int32) (ga : Nat → Nat → Int32) (Z : DS) (a1 : Int32) (a2 : Int32) (a3 : Int32) (a4 : Int32) (a5 : Int32) (hG : GI Z vi ga) (hn : Z.1 15 + (bcnt a1 4 + bcnt a2 4 + bcnt a3 4 + bcnt a4 4 + bcnt a5 4) ≤ 300) : jM l yX10_append (jws yX10_append cX10_append 7 (some .int)) 1 23 0 0 D ay [.ref (ad 0), .int a1, .int a2, .int a3, .int a4, .int a5] (mW ay ad vi ga) (fun v w => ∃ (vi' : Nat → Int32) (ga' : Nat → Nat → Int32), GI (apd (apd (apd (apd (apd Z a1) a2) a3) a4) a5) vi' ga' ∧ vi' 0 = 0 ∧ v = some (.int (nI ((apd (apd (apd (apd (apd Z a1) a2) a3) a4) a5).1 15))) ∧ w = mW ay ad vi' ga') := by
  refine jM_of l (by decide) [(0, .ref (ad 0)), (1, .int a1), (2, .int a2), (3, .int a3), (4, .int a4), (5, .int a5)] rfl rfl (fun p9 e9 s9 m9 a9 b9 me9 c9 A9 F => ?_)
  have hL5 := hG.2.2.2.2.1
  have h13 := hL5.1
  have hle := hG.2.2.1.2.2
  have hT := hG.2.2.2.2.2.1
  have b1 := bcnt_le a1 4
  have b2 := bcnt_le a2 4
  have b3 := bcnt_le a3 4
  have b4 := bcnt_le a4 4
  have b5 := bcnt_le a5 4
  have hT1 := hT.1
  refine j_aload_n F 0 dX10_append_0 rfl ?_
  refine j_iconst F (v := 0) dX10_append_1 (by decide) ?_
  refine j_putf F fX10_1 0 (mW ay ad (ups vi 0 0) ga) rfl rfl rfl rfl rfl (Nat.le_of_ble_eq_true rfl) dX10_append_2 ?_
  refine j_iload_n F 1 dX10_append_5 rfl ?_
  refine j_ecallS F kX10_156 (As := [.int a1]) (rest := []) (c_X10_bytesIn l D ay a1) rfl rfl rfl rfl ⟨Nat.le_of_ble_eq_true rfl, Nat.le_of_ble_eq_true rfl⟩ dX10_append_6 (fun v w hw => ?_)
  obtain ⟨rfl, rfl⟩ := hw
  refine ⟨rfl, ?_⟩
  refine j_top (nI (bcnt a1 4)) rfl ?_
  refine j_iload_n F 2 dX10_append_9 rfl ?_
  refine j_ecallS F kX10_156 (As := [.int a2]) (rest := [.int (nI (bcnt a1 4))]) (c_X10_bytesIn l D ay a2) rfl rfl rfl rfl ⟨Nat.le_of_ble_eq_true rfl, Nat.le_of_ble_eq_true rfl⟩ dX10_append_10 (fun v w hw => ?_)
  obtain ⟨rfl, rfl⟩ := hw
  refine ⟨rfl, ?_⟩
  refine j_top (nI (bcnt a2 4)) rfl ?_
  refine j_iadd F dX10_append_13 ?_
  refine j_top (nI (bcnt a1 4 + bcnt a2 4)) (nI_add _ _) ?_
  refine j_iload_n F 3 dX10_append_14 rfl ?_
  refine j_ecallS F kX10_156 (As := [.int a3]) (rest := [.int (nI (bcnt a1 4 + bcnt a2 4))]) (c_X10_bytesIn l D ay a3) rfl rfl rfl rfl ⟨Nat.le_of_ble_eq_true rfl, Nat.le_of_ble_eq_true rfl⟩ dX10_append_15 (fun v w hw => ?_)
  obtain ⟨rfl, rfl⟩ := hw
  refine ⟨rfl, ?_⟩
  refine j_top (nI (bcnt a3 4)) rfl ?_
  refine j_iadd F dX10_append_18 ?_
  refine j_top (nI (bcnt a1 4 + bcnt a2 4 + bcnt a3 4)) (nI_add _ _) ?_
  refine j_iload F 4 dX10_append_19 rfl ?_
  refine j_ecallS F kX10_156 (As := [.int a4]) (rest := [.int (nI (bcnt a1 4 + bcnt a2 4 + bcnt a3 4))]) (c_X10_bytesIn l D ay a4) rfl rfl rfl rfl ⟨Nat.le_of_ble_eq_true rfl, Nat.le_of_ble_eq_true rfl⟩ dX10_append_21 (fun v w hw => ?_)
  obtain ⟨rfl, rfl⟩ := hw
  refine ⟨rfl, ?_⟩
  refine j_top (nI (bcnt a4 4)) rfl ?_
  refine j_iadd F dX10_append_24 ?_
  refine j_top (nI (bcnt a1 4 + bcnt a2 4 + bcnt a3 4 + bcnt a4 4)) (nI_add _ _) ?_
  refine j_iload F 5 dX10_append_25 rfl ?_
  refine j_ecallS F kX10_156 (As := [.int a5]) (rest := [.int (nI (bcnt a1 4 + bcnt a2 4 + bcnt a3 4 + bcnt a4 4))]) (c_X10_bytesIn l D ay a5) rfl rfl rfl rfl ⟨Nat.le_of_ble_eq_true rfl, Nat.le_of_ble_eq_true rfl⟩ dX10_append_27 (fun v w hw => ?_)
  obtain ⟨rfl, rfl⟩ := hw
  refine ⟨rfl, ?_⟩
  refine j_top (nI (bcnt a5 4)) rfl ?_
  refine j_iadd F dX10_append_30 ?_
  refine j_top (nI (bcnt a1 4 + bcnt a2 4 + bcnt a3 4 + bcnt a4 4 + bcnt a5 4)) (nI_add _ _) ?_
  refine j_istore F 6 [(6, .int (nI (bcnt a1 4 + bcnt a2 4 + bcnt a3 4 + bcnt a4 4 + bcnt a5 4))), (0, .ref (ad 0)), (1, .int a1), (2, .int a2), (3, .int a3), (4, .int a4), (5, .int a5)] dX10_append_31 (by decide) rfl ?_
  refine j_aload_n F 1 dX10_append_33 rfl ?_
  refine j_aload_n F 1 dX10_append_34 rfl ?_
  refine j_getf F fX10_153 0 (v := .int (vi 16)) rfl rfl dX10_append_35 ?_
  refine j_top (nI (Z.1 15)) hT.2.1 ?_
  refine j_iload F 0 dX10_append_38 rfl ?_
  refine j_iadd F dX10_append_40 ?_
  refine j_top (nI (Z.1 15 + (bcnt a1 4 + bcnt a2 4 + bcnt a3 4 + bcnt a4 4 + bcnt a5 4))) (nI_add _ _) ?_
  refine j_sipush F (v := 300) dX10_append_41 (by decide) ?_
  refine j_icmp_gt F 51 dX10_append_44 (by decide) (fun c_44 => absurd ((n_lt 300 (Z.1 15 + (bcnt a1 4 + bcnt a2 4 + bcnt a3 4 + bcnt a4 4 + bcnt a5 4)) rfl rfl (by omega) (by omega)).mp c_44) (by omega)) (fun c_44 => ?_)
  refine j_iconst F (v := 1) dX10_append_47 (by decide) ?_
  refine j_goto F 52 dX10_append_48 (by decide) ?_
  refine j_iconst F (v := 1) dX10_append_52 (by decide) ?_
  refine j_scallV F kX10_88 (As := [.int 1, .int 1]) (rest := []) (c_X10_fails_ok l D ay ad (ups vi 0 0) ga 1 rfl) 0 0 20 rfl rfl rfl rfl rfl rfl ⟨Nat.le_of_ble_eq_true rfl, Nat.le_of_ble_eq_true rfl⟩ dX10_append_53 (fun v w hw => ?_)
  obtain ⟨rfl, rfl⟩ := hw
  refine ⟨rfl, (mW ay ad (ups vi 0 0) ga), (slp_all _ _ rfl).trans rfl, ?_⟩
  refine j_top 0 rfl ?_
  refine j_if_eq F 61 dX10_append_56 (by decide) (fun c_56 => ?_) (fun c_56 => absurd (by decide) c_56)
  refine j_aload_n F 1 dX10_append_61 rfl ?_
  refine j_iload_n F 2 dX10_append_62 rfl ?_
  refine j_scallV F kX10_159 (As := [.int a1]) (rest := []) (c_X10_takesBytes l D ay ad (ups vi 0 0) ga Z a1 (show GI Z (ups vi 0 0) ga from GI_id hG (fun q hq => (ups_ne (by omega)).trans rfl) (fun q hq => rfl)) (show Z.1 15 + bcnt a1 4 ≤ 300 from by show Z.1 15 + bcnt a1 4 ≤ 300; omega)) 0 0 20 rfl rfl rfl rfl rfl rfl ⟨Nat.le_of_ble_eq_true rfl, Nat.le_of_ble_eq_true rfl⟩ dX10_append_63 (fun v w hw => ?_)
  obtain ⟨vi_63, ga_63, h63_0, h63_1, rfl, rfl⟩ := hw
  replace h63_0 : GI (apd Z a1) vi_63 ga_63 := h63_0
  replace h63_1 : vi_63 0 = 0 := h63_1
  refine ⟨rfl, (mW ay ad vi_63 ga_63), (slp_all _ _ rfl).trans rfl, ?_⟩
  refine j_aload_n F 1 dX10_append_66 rfl ?_
  refine j_iload_n F 3 dX10_append_67 rfl ?_
  refine j_scallV F kX10_159 (As := [.int a2]) (rest := []) (c_X10_takesBytes l D ay ad vi_63 ga_63 (apd (Z) a1) a2 (show GI (apd (Z) a1) vi_63 ga_63 from h63_0) (show (apd (Z) a1).1 15 + bcnt a2 4 ≤ 300 from by show Z.1 15 + bcnt a1 4 + bcnt a2 4 ≤ 300; omega)) 0 0 20 rfl rfl rfl rfl rfl rfl ⟨Nat.le_of_ble_eq_true rfl, Nat.le_of_ble_eq_true rfl⟩ dX10_append_68 (fun v w hw => ?_)
  obtain ⟨vi_68, ga_68, h68_0, h68_1, rfl, rfl⟩ := hw
  replace h68_0 : GI (apd (apd (Z) a1) a2) vi_68 ga_68 := h68_0
  replace h68_1 : vi_68 0 = vi_63 0 := h68_1
  refine ⟨rfl, (mW ay ad vi_68 ga_68), (slp_all _ _ rfl).trans rfl, ?_⟩
  refine j_aload_n F 1 dX10_append_71 rfl ?_
  refine j_iload_n F 4 dX10_append_72 rfl ?_
  refine j_scallV F kX10_159 (As := [.int a3]) (rest := []) (c_X10_takesBytes l D ay ad vi_68 ga_68 (apd (apd (Z) a1) a2) a3 (show GI (apd (apd (Z) a1) a2) vi_68 ga_68 from h68_0) (show (apd (apd (Z) a1) a2).1 15 + bcnt a3 4 ≤ 300 from by show Z.1 15 + bcnt a1 4 + bcnt a2 4 + bcnt a3 4 ≤ 300; omega)) 0 0 20 rfl rfl rfl rfl rfl rfl ⟨Nat.le_of_ble_eq_true rfl, Nat.le_of_ble_eq_true rfl⟩ dX10_append_73 (fun v w hw => ?_)
  obtain ⟨vi_73, ga_73, h73_0, h73_1, rfl, rfl⟩ := hw
  replace h73_0 : GI (apd (apd (apd (Z) a1) a2) a3) vi_73 ga_73 := h73_0
  replace h73_1 : vi_73 0 = vi_68 0 := h73_1
  refine ⟨rfl, (mW ay ad vi_73 ga_73), (slp_all _ _ rfl).trans rfl, ?_⟩
  refine j_aload_n F 1 dX10_append_76 rfl ?_
  refine j_iload F 5 dX10_append_77 rfl ?_
  refine j_scallV F kX10_159 (As := [.int a4]) (rest := []) (c_X10_takesBytes l D ay ad vi_73 ga_73 (apd (apd (apd (Z) a1) a2) a3) a4 (show GI (apd (apd (apd (Z) a1) a2) a3) vi_73 ga_73 from h73_0) (show (apd (apd (apd (Z) a1) a2) a3).1 15 + bcnt a4 4 ≤ 300 from by show Z.1 15 + bcnt a1 4 + bcnt a2 4 + bcnt a3 4 + bcnt a4 4 ≤ 300; omega)) 0 0 20 rfl rfl rfl rfl rfl rfl ⟨Nat.le_of_ble_eq_true rfl, Nat.le_of_ble_eq_true rfl⟩ dX10_append_79 (fun v w hw => ?_)
  obtain ⟨vi_79, ga_79, h79_0, h79_1, rfl, rfl⟩ := hw
  replace h79_0 : GI (apd (apd (apd (apd (Z) a1) a2) a3) a4) vi_79 ga_79 := h79_0
  replace h79_1 : vi_79 0 = vi_73 0 := h79_1
  refine ⟨rfl, (mW ay ad vi_79 ga_79), (slp_all _ _ rfl).trans rfl, ?_⟩
  refine j_aload_n F 1 dX10_append_82 rfl ?_
  refine j_iload F 6 dX10_append_83 rfl ?_
  refine j_scallV F kX10_159 (As := [.int a5]) (rest := []) (c_X10_takesBytes l D ay ad vi_79 ga_79 (apd (apd (apd (apd (Z) a1) a2) a3) a4) a5 (show GI (apd (apd (apd (apd (Z) a1) a2) a3) a4) vi_79 ga_79 from h79_0) (show (apd (apd (apd (apd (Z) a1) a2) a3) a4).1 15 + bcnt a5 4 ≤ 300 from by show Z.1 15 + bcnt a1 4 + bcnt a2 4 + bcnt a3 4 + bcnt a4 4 + bcnt a5 4 ≤ 300; omega)) 0 0 20 rfl rfl rfl rfl rfl rfl ⟨Nat.le_of_ble_eq_true rfl, Nat.le_of_ble_eq_true rfl⟩ dX10_append_85 (fun v w hw => ?_)
  obtain ⟨vi_85, ga_85, h85_0, h85_1, rfl, rfl⟩ := hw
  replace h85_0 : GI (apd (apd (apd (apd (apd (Z) a1) a2) a3) a4) a5) vi_85 ga_85 := h85_0
  replace h85_1 : vi_85 0 = vi_79 0 := h85_1
  refine ⟨rfl, (mW ay ad vi_85 ga_85), (slp_all _ _ rfl).trans rfl, ?_⟩
  refine j_aload_n F 1 dX10_append_88 rfl ?_
  refine j_getf F fX10_153 0 (v := .int (vi_85 16)) rfl rfl dX10_append_89 ?_
  refine j_top (nI ((apd (apd (apd (apd (apd Z a1) a2) a3) a4) a5).1 15)) h85_0.2.2.2.2.2.1.2.1 ?_
  exact j_iret F ⟨vi_85, ga_85, h85_0, h85_1.trans (h79_1.trans (h73_1.trans (h68_1.trans h63_1))), rfl, rfl⟩ dX10_append_92 (Nat.le_of_ble_eq_true rfl) (Nat.le_of_ble_eq_true rfl)

set_option maxHeartbeats 4000000 in
set_option maxRecDepth 100000 in
theorem c_X10_append_no (l : Launch) (D : va_G) (ay : Nat → ClassId) (ad : Nat → Nat) (vi : Nat → Int32) (ga : Nat → Nat → Int32) (Z : DS) (a1 : Int32) (a2 : Int32) (a3 : Int32) (a4 : Int32) (a5 : Int32) (hG : GI Z vi ga) (hn : 300 < Z.1 15 + (bcnt a1 4 + bcnt a2 4 + bcnt a3 4 + bcnt a4 4 + bcnt a5 4)) : jM l yX10_append (jws yX10_append cX10_append 7 (some .int)) 1 23 0 0 D ay [.ref (ad 0), .int a1, .int a2, .int a3, .int a4, .int a5] (mW ay ad vi ga) (fun v w => ∃ (vi' : Nat → Int32) (ga' : Nat → Nat → Int32), GI Z vi' ga' ∧ vi' 0 = 1 ∧ v = some (.int 0) ∧ w = mW ay ad vi' ga') := by
  refine jM_of l (by decide) [(0, .ref (ad 0)), (1, .int a1), (2, .int a2), (3, .int a3), (4, .int a4), (5, .int a5)] rfl rfl (fun p9 e9 s9 m9 a9 b9 me9 c9 A9 F => ?_)
  have hT := hG.2.2.2.2.2.1
  have b1 := bcnt_le a1 4
  have b2 := bcnt_le a2 4
  have b3 := bcnt_le a3 4
  have b4 := bcnt_le a4 4
  have b5 := bcnt_le a5 4
  have hT1 := hT.1
  refine j_aload_n F 0 dX10_append_0 rfl ?_
  refine j_iconst F (v := 0) dX10_append_1 (by decide) ?_
  refine j_putf F fX10_1 0 (mW ay ad (ups vi 0 0) ga) rfl rfl rfl rfl rfl (Nat.le_of_ble_eq_true rfl) dX10_append_2 ?_
  refine j_iload_n F 1 dX10_append_5 rfl ?_
  refine j_ecallS F kX10_156 (As := [.int a1]) (rest := []) (c_X10_bytesIn l D ay a1) rfl rfl rfl rfl ⟨Nat.le_of_ble_eq_true rfl, Nat.le_of_ble_eq_true rfl⟩ dX10_append_6 (fun v w hw => ?_)
  obtain ⟨rfl, rfl⟩ := hw
  refine ⟨rfl, ?_⟩
  refine j_top (nI (bcnt a1 4)) rfl ?_
  refine j_iload_n F 2 dX10_append_9 rfl ?_
  refine j_ecallS F kX10_156 (As := [.int a2]) (rest := [.int (nI (bcnt a1 4))]) (c_X10_bytesIn l D ay a2) rfl rfl rfl rfl ⟨Nat.le_of_ble_eq_true rfl, Nat.le_of_ble_eq_true rfl⟩ dX10_append_10 (fun v w hw => ?_)
  obtain ⟨rfl, rfl⟩ := hw
  refine ⟨rfl, ?_⟩
  refine j_top (nI (bcnt a2 4)) rfl ?_
  refine j_iadd F dX10_append_13 ?_
  refine j_top (nI (bcnt a1 4 + bcnt a2 4)) (nI_add _ _) ?_
  refine j_iload_n F 3 dX10_append_14 rfl ?_
  refine j_ecallS F kX10_156 (As := [.int a3]) (rest := [.int (nI (bcnt a1 4 + bcnt a2 4))]) (c_X10_bytesIn l D ay a3) rfl rfl rfl rfl ⟨Nat.le_of_ble_eq_true rfl, Nat.le_of_ble_eq_true rfl⟩ dX10_append_15 (fun v w hw => ?_)
  obtain ⟨rfl, rfl⟩ := hw
  refine ⟨rfl, ?_⟩
  refine j_top (nI (bcnt a3 4)) rfl ?_
  refine j_iadd F dX10_append_18 ?_
  refine j_top (nI (bcnt a1 4 + bcnt a2 4 + bcnt a3 4)) (nI_add _ _) ?_
  refine j_iload F 4 dX10_append_19 rfl ?_
  refine j_ecallS F kX10_156 (As := [.int a4]) (rest := [.int (nI (bcnt a1 4 + bcnt a2 4 + bcnt a3 4))]) (c_X10_bytesIn l D ay a4) rfl rfl rfl rfl ⟨Nat.le_of_ble_eq_true rfl, Nat.le_of_ble_eq_true rfl⟩ dX10_append_21 (fun v w hw => ?_)
  obtain ⟨rfl, rfl⟩ := hw
  refine ⟨rfl, ?_⟩
  refine j_top (nI (bcnt a4 4)) rfl ?_
  refine j_iadd F dX10_append_24 ?_
  refine j_top (nI (bcnt a1 4 + bcnt a2 4 + bcnt a3 4 + bcnt a4 4)) (nI_add _ _) ?_
  refine j_iload F 5 dX10_append_25 rfl ?_
  refine j_ecallS F kX10_156 (As := [.int a5]) (rest := [.int (nI (bcnt a1 4 + bcnt a2 4 + bcnt a3 4 + bcnt a4 4))]) (c_X10_bytesIn l D ay a5) rfl rfl rfl rfl ⟨Nat.le_of_ble_eq_true rfl, Nat.le_of_ble_eq_true rfl⟩ dX10_append_27 (fun v w hw => ?_)
  obtain ⟨rfl, rfl⟩ := hw
  refine ⟨rfl, ?_⟩
  refine j_top (nI (bcnt a5 4)) rfl ?_
  refine j_iadd F dX10_append_30 ?_
  refine j_top (nI (bcnt a1 4 + bcnt a2 4 + bcnt a3 4 + bcnt a4 4 + bcnt a5 4)) (nI_add _ _) ?_
  refine j_istore F 6 [(6, .int (nI (bcnt a1 4 + bcnt a2 4 + bcnt a3 4 + bcnt a4 4 + bcnt a5 4))), (0, .ref (ad 0)), (1, .int a1), (2, .int a2), (3, .int a3), (4, .int a4), (5, .int a5)] dX10_append_31 (by decide) rfl ?_
  refine j_aload_n F 1 dX10_append_33 rfl ?_
  refine j_aload_n F 1 dX10_append_34 rfl ?_
  refine j_getf F fX10_153 0 (v := .int (vi 16)) rfl rfl dX10_append_35 ?_
  refine j_top (nI (Z.1 15)) hT.2.1 ?_
  refine j_iload F 0 dX10_append_38 rfl ?_
  refine j_iadd F dX10_append_40 ?_
  refine j_top (nI (Z.1 15 + (bcnt a1 4 + bcnt a2 4 + bcnt a3 4 + bcnt a4 4 + bcnt a5 4))) (nI_add _ _) ?_
  refine j_sipush F (v := 300) dX10_append_41 (by decide) ?_
  refine j_icmp_gt F 51 dX10_append_44 (by decide) (fun c_44 => ?_) (fun c_44 => absurd ((n_lt 300 (Z.1 15 + (bcnt a1 4 + bcnt a2 4 + bcnt a3 4 + bcnt a4 4 + bcnt a5 4)) rfl rfl (by omega) (by omega)).mpr hn) c_44)
  refine j_iconst F (v := 0) dX10_append_51 (by decide) ?_
  refine j_iconst F (v := 1) dX10_append_52 (by decide) ?_
  refine j_scallV F kX10_88 (As := [.int 0, .int 1]) (rest := []) (c_X10_fails_no l D ay ad (ups vi 0 0) ga 1 rfl (show ¬ 1 = 0 from by decide)) 0 0 20 rfl rfl rfl rfl rfl rfl ⟨Nat.le_of_ble_eq_true rfl, Nat.le_of_ble_eq_true rfl⟩ dX10_append_53 (fun v w hw => ?_)
  obtain ⟨rfl, rfl⟩ := hw
  refine ⟨rfl, (mW ay ad (ups vi 0 1) ga), (slp_all _ _ rfl).trans rfl, ?_⟩
  refine j_top 1 rfl ?_
  refine j_if_eq F 61 dX10_append_56 (by decide) (fun c_56 => absurd c_56 (by decide)) (fun c_56 => ?_)
  refine j_iconst F (v := 0) dX10_append_59 (by decide) ?_
  exact j_iret F ⟨ups vi 0 1, ga, (GI_id hG (fun q hq => (ups_ne (by omega)).trans rfl) (fun q hq => rfl)), rfl, rfl, rfl⟩ dX10_append_60 (Nat.le_of_ble_eq_true rfl) (Nat.le_of_ble_eq_true rfl)

set_option maxHeartbeats 4000000 in
set_option maxRecDepth 100000 in
theorem c_X10_clearTape_ok (l : Launch) (D : va_G) (ay : Nat → ClassId) (ad : Nat → Nat) (vi : Nat → Int32) (ga : Nat → Nat → Int32) (Z : DS) (hG : GI Z vi ga) : jM l yX10_clearTape (jws yX10_clearTape cX10_clearTape 2 (some .int)) 0 0 0 0 D ay [.ref (ad 0)] (mW ay ad vi ga) (fun v w => ∃ (vi' : Nat → Int32) (ga' : Nat → Nat → Int32), GI (tU Z 0 (Z.2.2 15)) vi' ga' ∧ vi' 0 = 0 ∧ v = some (.int (nI (Z.1 15))) ∧ w = mW ay ad vi' ga') := by
  refine jM_of l (by decide) [(0, .ref (ad 0))] rfl rfl (fun p9 e9 s9 m9 a9 b9 me9 c9 A9 F => ?_)
  have hL5 := hG.2.2.2.2.1
  have h13 := hL5.1
  have hle := hG.2.2.1.2.2
  have hT := hG.2.2.2.2.2.1
  refine j_aload_n F 0 dX10_clearTape_0 rfl ?_
  refine j_iconst F (v := 0) dX10_clearTape_1 (by decide) ?_
  refine j_putf F fX10_1 0 (mW ay ad (ups vi 0 0) ga) rfl rfl rfl rfl rfl (Nat.le_of_ble_eq_true rfl) dX10_clearTape_2 ?_
  refine j_aload_n F 0 dX10_clearTape_5 rfl ?_
  refine j_getf F fX10_153 0 (v := .int (vi 16)) rfl rfl dX10_clearTape_6 ?_
  refine j_top (nI (Z.1 15)) hT.2.1 ?_
  refine j_istore_n F 1 [(1, .int (nI (Z.1 15))), (0, .ref (ad 0))] dX10_clearTape_9 rfl (by decide) rfl ?_
  refine j_aload_n F 1 dX10_clearTape_10 rfl ?_
  refine j_iconst F (v := 0) dX10_clearTape_11 (by decide) ?_
  refine j_putf F fX10_153 0 (mW ay ad (ups (ups vi 0 0) 16 0) ga) rfl rfl rfl rfl rfl (Nat.le_of_ble_eq_true rfl) dX10_clearTape_12 ?_
  refine j_iload_n F 0 dX10_clearTape_15 rfl ?_
  exact j_iret F ⟨ups (ups vi 0 0) 16 0, ga, (GI_t hG (fun q hq => (ups_ne (by omega)).trans ((ups_ne (by omega)).trans rfl)) (fun q hq => rfl) (Nat.zero_le _) rfl hT.2.2), rfl, rfl, rfl⟩ dX10_clearTape_16 (Nat.le_of_ble_eq_true rfl) (Nat.le_of_ble_eq_true rfl)

set_option maxHeartbeats 4000000 in
set_option maxRecDepth 100000 in
theorem c_X10_errorPosition_ok (l : Launch) (D : va_G) (ay : Nat → ClassId) (ad : Nat → Nat) (vi : Nat → Int32) (ga : Nat → Nat → Int32) (Z : DS) (hG : GI Z vi ga) : jM l yX10_errorPosition (jws yX10_errorPosition cX10_errorPosition 1 (some .int)) 0 0 0 0 D ay [.ref (ad 0)] (mW ay ad vi ga) (fun v w => ∃ (vi' : Nat → Int32) (ga' : Nat → Nat → Int32), GI Z vi' ga' ∧ vi' 0 = 0 ∧ v = some (.int (Z.2.1 0)) ∧ w = mW ay ad vi' ga') := by
  refine jM_of l (by decide) [(0, .ref (ad 0))] rfl rfl (fun p9 e9 s9 m9 a9 b9 me9 c9 A9 F => ?_)
  have hL5 := hG.2.2.2.2.1
  have h13 := hL5.1
  have hle := hG.2.2.1.2.2
  refine j_aload_n F 0 dX10_errorPosition_0 rfl ?_
  refine j_iconst F (v := 0) dX10_errorPosition_1 (by decide) ?_
  refine j_putf F fX10_1 0 (mW ay ad (ups vi 0 0) ga) rfl rfl rfl rfl rfl (Nat.le_of_ble_eq_true rfl) dX10_errorPosition_2 ?_
  refine j_aload_n F 0 dX10_errorPosition_5 rfl ?_
  refine j_getf F fX10_60 0 (v := .int (vi 24)) rfl rfl dX10_errorPosition_6 ?_
  refine j_top (Z.2.1 0) hG.2.2.2.2.2.2.1 ?_
  exact j_iret F ⟨ups vi 0 0, ga, (GI_id hG (fun q hq => (ups_ne (by omega)).trans rfl) (fun q hq => rfl)), rfl, rfl, rfl⟩ dX10_errorPosition_9 (Nat.le_of_ble_eq_true rfl) (Nat.le_of_ble_eq_true rfl)

