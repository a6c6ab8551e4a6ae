theorem disc_upd {i : Nat} : upd (fun j => if j < i then nI j else (0 : Int32)) i (nI i) = fun j => if j < i + 1 then nI j else 0 := by
  funext j
  by_cases h : j = i
  · subst h; rw [upd_s, if_pos (Nat.lt_succ_self _)]
  · rw [upd_o h]
    by_cases h2 : j < i
    · rw [if_pos h2, if_pos (by omega)]
    · rw [if_neg h2, if_neg (by omega)]

set_option maxHeartbeats 4000000 in
set_option maxRecDepth 100000 in
theorem c_X8_init (l : Launch) (D : va_G) (ay : Nat → ClassId) (a : Nat) : jC l yX8_init (jws yX8_init cX8_init 1 none) 1 32 1 100 D ay [.ref a] [(a, .inr (8, [.null, .int 0]))] (fun v w => ∃ (q1 : Nat), v = none ∧ w = [(a, .inr (8, [.ref q1, .int 0])), (q1, .inl (ay 0, 100, .inl (fun _ => 0)))]) := by
  refine jC_of l (by decide) rfl [(0, .ref a)] rfl rfl (fun p9 e9 s9 m9 a9 b9 me9 c9 A9 F hU hin => ?_)
  refine j_aload_n F 0 dX8_init_0 rfl ?_
  refine j_obj F gi_66 gi_38 gi_39 ⟨Nat.le_of_ble_eq_true rfl, Nat.le_of_ble_eq_true rfl⟩ dX8_init_1 ?_
  refine j_aload_n F 0 dX8_init_4 rfl ?_
  refine j_bipush F (v := 100) dX8_init_5 (by decide) ?_
  refine j_newa F 0 gi_88 rfl rfl 100 (100, .inl (fun _ => 0)) (fun _ => rfl) rfl rfl rfl ⟨Nat.le_of_ble_eq_true rfl, Nat.le_of_ble_eq_true rfl⟩ dX8_init_7 (fun q1_7 => ?_)
  refine j_ws [(a, .inr (8, [.null, .int 0])), (q1_7, .inl (ay 0, 100, .inl (fun _ => 0)))] rfl ?_
  refine j_putF F fX8_9 hin 0 [(a, .inr (8, [.ref q1_7, .int 0])), (q1_7, .inl (ay 0, 100, .inl (fun _ => 0)))] rfl rfl rfl rfl rfl rfl (Nat.le_of_ble_eq_true rfl) dX8_init_9 ?_
  refine j_aload_n F 0 dX8_init_12 rfl ?_
  refine j_iconst F (v := 0) dX8_init_13 (by decide) ?_
  refine j_putf F fX8_15 0 [(a, .inr (8, [.ref q1_7, .int 0])), (q1_7, .inl (ay 0, 100, .inl (fun _ => 0)))] rfl rfl rfl rfl rfl (Nat.le_of_ble_eq_true rfl) dX8_init_14 ?_
  exact j_vret F ⟨q1_7, rfl, rfl⟩ dX8_init_17 (Nat.le_of_ble_eq_true rfl) (Nat.le_of_ble_eq_true rfl)

set_option maxHeartbeats 4000000 in
set_option maxRecDepth 100000 in
theorem c_X1_init (l : Launch) (D : va_G) (ay : Nat → ClassId) (a : Nat) : jC l yX1_init (jws yX1_init cX1_init 1 none) 1 32 0 0 D ay [.ref a] [(a, .inr (1, [.int 0, .int 0, .int 0]))] (fun v w => v = none ∧ w = [(a, .inr (1, [.int 0, .int 0, .int 0]))]) := by
  refine jC_of l (by decide) rfl [(0, .ref a)] rfl rfl (fun p9 e9 s9 m9 a9 b9 me9 c9 A9 F hU hin => ?_)
  refine j_aload_n F 0 dX1_init_0 rfl ?_
  refine j_obj F gi_44 gi_38 gi_39 ⟨Nat.le_of_ble_eq_true rfl, Nat.le_of_ble_eq_true rfl⟩ dX1_init_1 ?_
  refine j_aload_n F 0 dX1_init_4 rfl ?_
  refine j_iconst F (v := 0) dX1_init_5 (by decide) ?_
  refine j_putf F fX1_7 0 [(a, .inr (1, [.int 0, .int 0, .int 0]))] rfl rfl rfl rfl rfl (Nat.le_of_ble_eq_true rfl) dX1_init_6 ?_
  refine j_aload_n F 0 dX1_init_9 rfl ?_
  refine j_iconst F (v := 0) dX1_init_10 (by decide) ?_
  refine j_putf F fX1_13 0 [(a, .inr (1, [.int 0, .int 0, .int 0]))] rfl rfl rfl rfl rfl (Nat.le_of_ble_eq_true rfl) dX1_init_11 ?_
  refine j_aload_n F 0 dX1_init_14 rfl ?_
  refine j_iconst F (v := 0) dX1_init_15 (by decide) ?_
  refine j_putf F fX1_17 0 [(a, .inr (1, [.int 0, .int 0, .int 0]))] rfl rfl rfl rfl rfl (Nat.le_of_ble_eq_true rfl) dX1_init_16 ?_
  exact j_vret F ⟨rfl, rfl⟩ dX1_init_19 (Nat.le_of_ble_eq_true rfl) (Nat.le_of_ble_eq_true rfl)

set_option maxHeartbeats 4000000 in
set_option maxRecDepth 100000 in
theorem c_X6_init (l : Launch) (D : va_G) (ay : Nat → ClassId) (a : Nat) : jC l yX6_init (jws yX6_init cX6_init 1 none) 1 32 1 300 D ay [.ref a] [(a, .inr (6, [.null, .int 0]))] (fun v w => ∃ (q1 : Nat), v = none ∧ w = [(a, .inr (6, [.ref q1, .int 0])), (q1, .inl (ay 0, 300, .inl (fun _ => 0)))]) := by
  refine jC_of l (by decide) rfl [(0, .ref a)] rfl rfl (fun p9 e9 s9 m9 a9 b9 me9 c9 A9 F hU hin => ?_)
  refine j_aload_n F 0 dX6_init_0 rfl ?_
  refine j_obj F gi_59 gi_38 gi_39 ⟨Nat.le_of_ble_eq_true rfl, Nat.le_of_ble_eq_true rfl⟩ dX6_init_1 ?_
  refine j_aload_n F 0 dX6_init_4 rfl ?_
  refine j_sipush F (v := 300) dX6_init_5 (by decide) ?_
  refine j_newa F 0 gi_88 rfl rfl 300 (300, .inl (fun _ => 0)) (fun _ => rfl) rfl rfl rfl ⟨Nat.le_of_ble_eq_true rfl, Nat.le_of_ble_eq_true rfl⟩ dX6_init_8 (fun q1_8 => ?_)
  refine j_ws [(a, .inr (6, [.null, .int 0])), (q1_8, .inl (ay 0, 300, .inl (fun _ => 0)))] rfl ?_
  refine j_putF F fX6_9 hin 0 [(a, .inr (6, [.ref q1_8, .int 0])), (q1_8, .inl (ay 0, 300, .inl (fun _ => 0)))] rfl rfl rfl rfl rfl rfl (Nat.le_of_ble_eq_true rfl) dX6_init_10 ?_
  refine j_aload_n F 0 dX6_init_13 rfl ?_
  refine j_iconst F (v := 0) dX6_init_14 (by decide) ?_
  refine j_putf F fX6_15 0 [(a, .inr (6, [.ref q1_8, .int 0])), (q1_8, .inl (ay 0, 300, .inl (fun _ => 0)))] rfl rfl rfl rfl rfl (Nat.le_of_ble_eq_true rfl) dX6_init_15 ?_
  exact j_vret F ⟨q1_8, rfl, rfl⟩ dX6_init_18 (Nat.le_of_ble_eq_true rfl) (Nat.le_of_ble_eq_true rfl)

set_option maxHeartbeats 4000000 in
set_option maxRecDepth 100000 in
theorem c_X3_init (l : Launch) (D : va_G) (ay : Nat → ClassId) (a : Nat) : jC l yX3_init (jws yX3_init cX3_init 1 none) 1 32 4 408 D ay [.ref a] [(a, .inr (3, [.null, .null, .int 0, .null, .null, .int 0]))] (fun v w => ∃ (q1 : Nat), ∃ (q2 : Nat), ∃ (q3 : Nat), ∃ (q4 : Nat), v = none ∧ w = [(a, .inr (3, [.ref q1, .ref q2, .int 0, .ref q3, .ref q4, .int 0])), (q1, .inl (ay 0, 200, .inl (fun _ => 0))), (q2, .inl (ay 0, 200, .inl (fun _ => 0))), (q3, .inl (ay 0, 4, .inl (fun _ => 0))), (q4, .inl (ay 0, 4, .inl (fun _ => 0)))]) := by
  refine jC_of l (by decide) rfl [(0, .ref a)] rfl rfl (fun p9 e9 s9 m9 a9 b9 me9 c9 A9 F hU hin => ?_)
  refine j_aload_n F 0 dX3_init_0 rfl ?_
  refine j_obj F gi_48 gi_38 gi_39 ⟨Nat.le_of_ble_eq_true rfl, Nat.le_of_ble_eq_true rfl⟩ dX3_init_1 ?_
  refine j_aload_n F 0 dX3_init_4 rfl ?_
  refine j_sipush F (v := 200) dX3_init_5 (by decide) ?_
  refine j_newa F 0 gi_88 rfl rfl 200 (200, .inl (fun _ => 0)) (fun _ => rfl) rfl rfl rfl ⟨Nat.le_of_ble_eq_true rfl, Nat.le_of_ble_eq_true rfl⟩ dX3_init_8 (fun q1_8 => ?_)
  refine j_ws [(a, .inr (3, [.null, .null, .int 0, .null, .null, .int 0])), (q1_8, .inl (ay 0, 200, .inl (fun _ => 0)))] rfl ?_
  refine j_putF F fX3_9 hin 0 [(a, .inr (3, [.ref q1_8, .null, .int 0, .null, .null, .int 0])), (q1_8, .inl (ay 0, 200, .inl (fun _ => 0)))] rfl rfl rfl rfl rfl rfl (Nat.le_of_ble_eq_true rfl) dX3_init_10 ?_
  refine j_aload_n F 0 dX3_init_13 rfl ?_
  refine j_sipush F (v := 200) dX3_init_14 (by decide) ?_
  refine j_newa F 0 gi_88 rfl rfl 200 (200, .inl (fun _ => 0)) (fun _ => rfl) rfl rfl rfl ⟨Nat.le_of_ble_eq_true rfl, Nat.le_of_ble_eq_true rfl⟩ dX3_init_17 (fun q2_17 => ?_)
  refine j_ws [(a, .inr (3, [.ref q1_8, .null, .int 0, .null, .null, .int 0])), (q1_8, .inl (ay 0, 200, .inl (fun _ => 0))), (q2_17, .inl (ay 0, 200, .inl (fun _ => 0)))] rfl ?_
  refine j_putF F fX3_15 hin 0 [(a, .inr (3, [.ref q1_8, .ref q2_17, .int 0, .null, .null, .int 0])), (q1_8, .inl (ay 0, 200, .inl (fun _ => 0))), (q2_17, .inl (ay 0, 200, .inl (fun _ => 0)))] rfl rfl rfl rfl rfl rfl (Nat.le_of_ble_eq_true rfl) dX3_init_19 ?_
  refine j_aload_n F 0 dX3_init_22 rfl ?_
  refine j_iconst F (v := 0) dX3_init_23 (by decide) ?_
  refine j_putf F fX3_18 0 [(a, .inr (3, [.ref q1_8, .ref q2_17, .int 0, .null, .null, .int 0])), (q1_8, .inl (ay 0, 200, .inl (fun _ => 0))), (q2_17, .inl (ay 0, 200, .inl (fun _ => 0)))] rfl rfl rfl rfl rfl (Nat.le_of_ble_eq_true rfl) dX3_init_24 ?_
  refine j_aload_n F 0 dX3_init_27 rfl ?_
  refine j_iconst F (v := 4) dX3_init_28 (by decide) ?_
  refine j_newa F 0 gi_88 rfl rfl 4 (4, .inl (fun _ => 0)) (fun _ => rfl) rfl rfl rfl ⟨Nat.le_of_ble_eq_true rfl, Nat.le_of_ble_eq_true rfl⟩ dX3_init_29 (fun q3_29 => ?_)
  refine j_ws [(a, .inr (3, [.ref q1_8, .ref q2_17, .int 0, .null, .null, .int 0])), (q1_8, .inl (ay 0, 200, .inl (fun _ => 0))), (q2_17, .inl (ay 0, 200, .inl (fun _ => 0))), (q3_29, .inl (ay 0, 4, .inl (fun _ => 0)))] rfl ?_
  refine j_putF F fX3_22 hin 0 [(a, .inr (3, [.ref q1_8, .ref q2_17, .int 0, .ref q3_29, .null, .int 0])), (q1_8, .inl (ay 0, 200, .inl (fun _ => 0))), (q2_17, .inl (ay 0, 200, .inl (fun _ => 0))), (q3_29, .inl (ay 0, 4, .inl (fun _ => 0)))] rfl rfl rfl rfl rfl rfl (Nat.le_of_ble_eq_true rfl) dX3_init_31 ?_
  refine j_aload_n F 0 dX3_init_34 rfl ?_
  refine j_iconst F (v := 4) dX3_init_35 (by decide) ?_
  refine j_newa F 0 gi_88 rfl rfl 4 (4, .inl (fun _ => 0)) (fun _ => rfl) rfl rfl rfl ⟨Nat.le_of_ble_eq_true rfl, Nat.le_of_ble_eq_true rfl⟩ dX3_init_36 (fun q4_36 => ?_)
  refine j_ws [(a, .inr (3, [.ref q1_8, .ref q2_17, .int 0, .ref q3_29, .null, .int 0])), (q1_8, .inl (ay 0, 200, .inl (fun _ => 0))), (q2_17, .inl (ay 0, 200, .inl (fun _ => 0))), (q3_29, .inl (ay 0, 4, .inl (fun _ => 0))), (q4_36, .inl (ay 0, 4, .inl (fun _ => 0)))] rfl ?_
  refine j_putF F fX3_25 hin 0 [(a, .inr (3, [.ref q1_8, .ref q2_17, .int 0, .ref q3_29, .ref q4_36, .int 0])), (q1_8, .inl (ay 0, 200, .inl (fun _ => 0))), (q2_17, .inl (ay 0, 200, .inl (fun _ => 0))), (q3_29, .inl (ay 0, 4, .inl (fun _ => 0))), (q4_36, .inl (ay 0, 4, .inl (fun _ => 0)))] rfl rfl rfl rfl rfl rfl (Nat.le_of_ble_eq_true rfl) dX3_init_38 ?_
  refine j_aload_n F 0 dX3_init_41 rfl ?_
  refine j_iconst F (v := 0) dX3_init_42 (by decide) ?_
  refine j_putf F fX3_28 0 [(a, .inr (3, [.ref q1_8, .ref q2_17, .int 0, .ref q3_29, .ref q4_36, .int 0])), (q1_8, .inl (ay 0, 200, .inl (fun _ => 0))), (q2_17, .inl (ay 0, 200, .inl (fun _ => 0))), (q3_29, .inl (ay 0, 4, .inl (fun _ => 0))), (q4_36, .inl (ay 0, 4, .inl (fun _ => 0)))] rfl rfl rfl rfl rfl (Nat.le_of_ble_eq_true rfl) dX3_init_43 ?_
  exact j_vret F ⟨q1_8, q2_17, q3_29, q4_36, rfl, rfl⟩ dX3_init_46 (Nat.le_of_ble_eq_true rfl) (Nat.le_of_ble_eq_true rfl)

set_option maxHeartbeats 4000000 in
set_option maxRecDepth 100000 in
theorem c_X7_init (l : Launch) (D : va_G) (ay : Nat → ClassId) (a : Nat) (x : Int32) : jC l yX7_init (jws yX7_init cX7_init 2 none) 2 52 4 205 D ay [.ref a, .int x] [(a, .inr (7, [.null, .null, .null, .int 0, .int 0, .int 0]))] (fun v w => ∃ (q1 : Nat), ∃ (q2 : Nat), ∃ (q3 : Nat), ∃ (q4 : Nat), v = none ∧ w = [(a, .inr (7, [.ref q1, .ref q3, .ref q4, .int x, .int 0, .int (-1)])), (q1, .inr (8, [.ref q2, .int 0])), (q2, .inl (ay 0, 100, .inl (fun _ => 0))), (q3, .inr (1, [.int 0, .int 0, .int 0])), (q4, .inl (ay 0, 100, .inl (fun _ => 0)))]) := by
  refine jC_of l (by decide) rfl [(0, .ref a), (1, .int x)] rfl rfl (fun p9 e9 s9 m9 a9 b9 me9 c9 A9 F hU hin => ?_)
  refine j_aload_n F 0 dX7_init_0 rfl ?_
  refine j_obj F gi_60 gi_38 gi_39 ⟨Nat.le_of_ble_eq_true rfl, Nat.le_of_ble_eq_true rfl⟩ dX7_init_1 ?_
  refine j_aload_n F 0 dX7_init_4 rfl ?_
  refine j_new F nwX7_9 [.null, .int 0] (fun j hj => by match j, hj with | 0, _ => rfl | 1, _ => rfl | j + 2, h => exact absurd h (by omega)) ⟨Nat.le_of_ble_eq_true rfl, Nat.le_of_ble_eq_true rfl⟩ dX7_init_5 (fun q1_5 => ?_)
  refine j_ws [(a, .inr (7, [.null, .null, .null, .int 0, .int 0, .int 0])), (q1_5, .inr (8, [.null, .int 0]))] rfl ?_
  refine j_dup F dX7_init_8 rfl ?_
  refine j_callI F hU kIX7_11 (As := []) (rest := [.ref q1_5, .ref a]) (c_X8_init l D ay q1_5) [1] [0] [(a, .inr (7, [.null, .null, .null, .int 0, .int 0, .int 0]))] rfl rfl rfl rfl rfl rfl ⟨Nat.le_of_ble_eq_true rfl, Nat.le_of_ble_eq_true rfl⟩ dX7_init_9 (fun v w hw => ?_)
  obtain ⟨q1_9, rfl, rfl⟩ := hw
  refine j_ws [(a, .inr (7, [.null, .null, .null, .int 0, .int 0, .int 0])), (q1_5, .inr (8, [.ref q1_9, .int 0])), (q1_9, .inl (ay 0, 100, .inl (fun _ => 0)))] rfl ?_
  refine j_putF F fX7_12 hin 0 [(a, .inr (7, [.ref q1_5, .null, .null, .int 0, .int 0, .int 0])), (q1_5, .inr (8, [.ref q1_9, .int 0])), (q1_9, .inl (ay 0, 100, .inl (fun _ => 0)))] rfl rfl rfl rfl rfl rfl (Nat.le_of_ble_eq_true rfl) dX7_init_12 ?_
  refine j_aload_n F 0 dX7_init_15 rfl ?_
  refine j_new F nwX7_18 [.int 0, .int 0, .int 0] (fun j hj => by match j, hj with | 0, _ => rfl | 1, _ => rfl | 2, _ => rfl | j + 3, h => exact absurd h (by omega)) ⟨Nat.le_of_ble_eq_true rfl, Nat.le_of_ble_eq_true rfl⟩ dX7_init_16 (fun q3_16 => ?_)
  refine j_ws [(a, .inr (7, [.ref q1_5, .null, .null, .int 0, .int 0, .int 0])), (q1_5, .inr (8, [.ref q1_9, .int 0])), (q1_9, .inl (ay 0, 100, .inl (fun _ => 0))), (q3_16, .inr (1, [.int 0, .int 0, .int 0]))] rfl ?_
  refine j_dup F dX7_init_19 rfl ?_
  refine j_callI F hU kIX7_20 (As := []) (rest := [.ref q3_16, .ref a]) (c_X1_init l D ay q3_16) [3] [0, 1, 2] [(a, .inr (7, [.ref q1_5, .null, .null, .int 0, .int 0, .int 0])), (q1_5, .inr (8, [.ref q1_9, .int 0])), (q1_9, .inl (ay 0, 100, .inl (fun _ => 0)))] rfl rfl rfl rfl rfl rfl ⟨Nat.le_of_ble_eq_true rfl, Nat.le_of_ble_eq_true rfl⟩ dX7_init_20 (fun v w hw => ?_)
  obtain ⟨rfl, rfl⟩ := hw
  refine j_ws [(a, .inr (7, [.ref q1_5, .null, .null, .int 0, .int 0, .int 0])), (q1_5, .inr (8, [.ref q1_9, .int 0])), (q1_9, .inl (ay 0, 100, .inl (fun _ => 0))), (q3_16, .inr (1, [.int 0, .int 0, .int 0]))] rfl ?_
  refine j_putF F fX7_21 hin 0 [(a, .inr (7, [.ref q1_5, .ref q3_16, .null, .int 0, .int 0, .int 0])), (q1_5, .inr (8, [.ref q1_9, .int 0])), (q1_9, .inl (ay 0, 100, .inl (fun _ => 0))), (q3_16, .inr (1, [.int 0, .int 0, .int 0]))] rfl rfl rfl rfl rfl rfl (Nat.le_of_ble_eq_true rfl) dX7_init_23 ?_
  refine j_aload_n F 0 dX7_init_26 rfl ?_
  refine j_bipush F (v := 100) dX7_init_27 (by decide) ?_
  refine j_newa F 0 gi_88 rfl rfl 100 (100, .inl (fun _ => 0)) (fun _ => rfl) rfl rfl rfl ⟨Nat.le_of_ble_eq_true rfl, Nat.le_of_ble_eq_true rfl⟩ dX7_init_29 (fun q4_29 => ?_)
  refine j_ws [(a, .inr (7, [.ref q1_5, .ref q3_16, .null, .int 0, .int 0, .int 0])), (q1_5, .inr (8, [.ref q1_9, .int 0])), (q1_9, .inl (ay 0, 100, .inl (fun _ => 0))), (q3_16, .inr (1, [.int 0, .int 0, .int 0])), (q4_29, .inl (ay 0, 100, .inl (fun _ => 0)))] rfl ?_
  refine j_putF F fX7_25 hin 0 [(a, .inr (7, [.ref q1_5, .ref q3_16, .ref q4_29, .int 0, .int 0, .int 0])), (q1_5, .inr (8, [.ref q1_9, .int 0])), (q1_9, .inl (ay 0, 100, .inl (fun _ => 0))), (q3_16, .inr (1, [.int 0, .int 0, .int 0])), (q4_29, .inl (ay 0, 100, .inl (fun _ => 0)))] rfl rfl rfl rfl rfl rfl (Nat.le_of_ble_eq_true rfl) dX7_init_31 ?_
  refine j_aload_n F 0 dX7_init_34 rfl ?_
  refine j_iconst F (v := 0) dX7_init_35 (by decide) ?_
  refine j_putf F fX7_29 0 [(a, .inr (7, [.ref q1_5, .ref q3_16, .ref q4_29, .int 0, .int 0, .int 0])), (q1_5, .inr (8, [.ref q1_9, .int 0])), (q1_9, .inl (ay 0, 100, .inl (fun _ => 0))), (q3_16, .inr (1, [.int 0, .int 0, .int 0])), (q4_29, .inl (ay 0, 100, .inl (fun _ => 0)))] rfl rfl rfl rfl rfl (Nat.le_of_ble_eq_true rfl) dX7_init_36 ?_
  refine j_aload_n F 0 dX7_init_39 rfl ?_
  refine j_iconst F (v := (-1)) dX7_init_40 (by decide) ?_
  refine j_putf F fX7_33 0 [(a, .inr (7, [.ref q1_5, .ref q3_16, .ref q4_29, .int 0, .int 0, .int (-1)])), (q1_5, .inr (8, [.ref q1_9, .int 0])), (q1_9, .inl (ay 0, 100, .inl (fun _ => 0))), (q3_16, .inr (1, [.int 0, .int 0, .int 0])), (q4_29, .inl (ay 0, 100, .inl (fun _ => 0)))] rfl rfl rfl rfl rfl (Nat.le_of_ble_eq_true rfl) dX7_init_41 ?_
  refine j_aload_n F 0 dX7_init_44 rfl ?_
  refine j_iload_n F 1 dX7_init_45 rfl ?_
  refine j_putf F fX7_36 0 [(a, .inr (7, [.ref q1_5, .ref q3_16, .ref q4_29, .int x, .int 0, .int (-1)])), (q1_5, .inr (8, [.ref q1_9, .int 0])), (q1_9, .inl (ay 0, 100, .inl (fun _ => 0))), (q3_16, .inr (1, [.int 0, .int 0, .int 0])), (q4_29, .inl (ay 0, 100, .inl (fun _ => 0)))] rfl rfl rfl rfl rfl (Nat.le_of_ble_eq_true rfl) dX7_init_46 ?_
  exact j_vret F ⟨q1_5, q1_9, q3_16, q4_29, rfl, rfl⟩ dX7_init_49 (Nat.le_of_ble_eq_true rfl) (Nat.le_of_ble_eq_true rfl)

set_option maxHeartbeats 4000000 in
set_option maxRecDepth 100000 in
theorem c_X0_init (l : Launch) (D : va_G) (ay : Nat → ClassId) (a : Nat) (x : Int32) : jC l yX0_init (jws yX0_init cX0_init 2 none) 2 52 2 102 D ay [.ref a, .int x] [(a, .inr (0, [.null, .int 0, .int 0]))] (fun v w => ∃ (q1 : Nat), ∃ (q2 : Nat), v = none ∧ w = [(a, .inr (0, [.ref q1, .int x, .int 0])), (q1, .inr (8, [.ref q2, .int 0])), (q2, .inl (ay 0, 100, .inl (fun _ => 0)))]) := by
  refine jC_of l (by decide) rfl [(0, .ref a), (1, .int x)] rfl rfl (fun p9 e9 s9 m9 a9 b9 me9 c9 A9 F hU hin => ?_)
  refine j_aload_n F 0 dX0_init_0 rfl ?_
  refine j_obj F gi_40 gi_38 gi_39 ⟨Nat.le_of_ble_eq_true rfl, Nat.le_of_ble_eq_true rfl⟩ dX0_init_1 ?_
  refine j_aload_n F 0 dX0_init_4 rfl ?_
  refine j_new F nwX0_7 [.null, .int 0] (fun j hj => by match j, hj with | 0, _ => rfl | 1, _ => rfl | j + 2, h => exact absurd h (by omega)) ⟨Nat.le_of_ble_eq_true rfl, Nat.le_of_ble_eq_true rfl⟩ dX0_init_5 (fun q1_5 => ?_)
  refine j_ws [(a, .inr (0, [.null, .int 0, .int 0])), (q1_5, .inr (8, [.null, .int 0]))] rfl ?_
  refine j_dup F dX0_init_8 rfl ?_
  refine j_callI F hU kIX0_9 (As := []) (rest := [.ref q1_5, .ref a]) (c_X8_init l D ay q1_5) [1] [0] [(a, .inr (0, [.null, .int 0, .int 0]))] rfl rfl rfl rfl rfl rfl ⟨Nat.le_of_ble_eq_true rfl, Nat.le_of_ble_eq_true rfl⟩ dX0_init_9 (fun v w hw => ?_)
  obtain ⟨q1_9, rfl, rfl⟩ := hw
  refine j_ws [(a, .inr (0, [.null, .int 0, .int 0])), (q1_5, .inr (8, [.ref q1_9, .int 0])), (q1_9, .inl (ay 0, 100, .inl (fun _ => 0)))] rfl ?_
  refine j_putF F fX0_10 hin 0 [(a, .inr (0, [.ref q1_5, .int 0, .int 0])), (q1_5, .inr (8, [.ref q1_9, .int 0])), (q1_9, .inl (ay 0, 100, .inl (fun _ => 0)))] rfl rfl rfl rfl rfl rfl (Nat.le_of_ble_eq_true rfl) dX0_init_12 ?_
  refine j_aload_n F 0 dX0_init_15 rfl ?_
  refine j_iconst F (v := 0) dX0_init_16 (by decide) ?_
  refine j_putf F fX0_16 0 [(a, .inr (0, [.ref q1_5, .int 0, .int 0])), (q1_5, .inr (8, [.ref q1_9, .int 0])), (q1_9, .inl (ay 0, 100, .inl (fun _ => 0)))] rfl rfl rfl rfl rfl (Nat.le_of_ble_eq_true rfl) dX0_init_17 ?_
  refine j_aload_n F 0 dX0_init_20 rfl ?_
  refine j_iload_n F 1 dX0_init_21 rfl ?_
  refine j_putF F fX0_20 hin 0 [(a, .inr (0, [.ref q1_5, .int x, .int 0])), (q1_5, .inr (8, [.ref q1_9, .int 0])), (q1_9, .inl (ay 0, 100, .inl (fun _ => 0)))] rfl rfl rfl rfl rfl rfl (Nat.le_of_ble_eq_true rfl) dX0_init_22 ?_
  exact j_vret F ⟨q1_5, q1_9, rfl, rfl⟩ dX0_init_25 (Nat.le_of_ble_eq_true rfl) (Nat.le_of_ble_eq_true rfl)

set_option maxHeartbeats 4000000 in
set_option maxRecDepth 100000 in
theorem c_X5_init (l : Launch) (D : va_G) (ay : Nat → ClassId) (a : Nat) : jC l yX5_init (jws yX5_init cX5_init 1 none) 2 52 4 2102 D ay [.ref a] [(a, .inr (5, [.null, .null, .null, .int 0]))] (fun v w => ∃ (q1 : Nat), ∃ (q2 : Nat), ∃ (q3 : Nat), ∃ (q4 : Nat), v = none ∧ w = [(a, .inr (5, [.ref q1, .ref q2, .ref q3, .int 0])), (q1, .inl (ay 0, 1000, .inl (fun _ => 0))), (q2, .inl (ay 0, 1000, .inl (fun _ => 0))), (q3, .inr (8, [.ref q4, .int 0])), (q4, .inl (ay 0, 100, .inl (fun _ => 0)))]) := by
  refine jC_of l (by decide) rfl [(0, .ref a)] rfl rfl (fun p9 e9 s9 m9 a9 b9 me9 c9 A9 F hU hin => ?_)
  refine j_aload_n F 0 dX5_init_0 rfl ?_
  refine j_obj F gi_56 gi_38 gi_39 ⟨Nat.le_of_ble_eq_true rfl, Nat.le_of_ble_eq_true rfl⟩ dX5_init_1 ?_
  refine j_aload_n F 0 dX5_init_4 rfl ?_
  refine j_sipush F (v := 1000) dX5_init_5 (by decide) ?_
  refine j_newa F 0 gi_88 rfl rfl 1000 (1000, .inl (fun _ => 0)) (fun _ => rfl) rfl rfl rfl ⟨Nat.le_of_ble_eq_true rfl, Nat.le_of_ble_eq_true rfl⟩ dX5_init_8 (fun q1_8 => ?_)
  refine j_ws [(a, .inr (5, [.null, .null, .null, .int 0])), (q1_8, .inl (ay 0, 1000, .inl (fun _ => 0)))] rfl ?_
  refine j_putF F fX5_9 hin 0 [(a, .inr (5, [.ref q1_8, .null, .null, .int 0])), (q1_8, .inl (ay 0, 1000, .inl (fun _ => 0)))] rfl rfl rfl rfl rfl rfl (Nat.le_of_ble_eq_true rfl) dX5_init_10 ?_
  refine j_aload_n F 0 dX5_init_13 rfl ?_
  refine j_sipush F (v := 1000) dX5_init_14 (by decide) ?_
  refine j_newa F 0 gi_88 rfl rfl 1000 (1000, .inl (fun _ => 0)) (fun _ => rfl) rfl rfl rfl ⟨Nat.le_of_ble_eq_true rfl, Nat.le_of_ble_eq_true rfl⟩ dX5_init_17 (fun q2_17 => ?_)
  refine j_ws [(a, .inr (5, [.ref q1_8, .null, .null, .int 0])), (q1_8, .inl (ay 0, 1000, .inl (fun _ => 0))), (q2_17, .inl (ay 0, 1000, .inl (fun _ => 0)))] rfl ?_
  refine j_putF F fX5_15 hin 0 [(a, .inr (5, [.ref q1_8, .ref q2_17, .null, .int 0])), (q1_8, .inl (ay 0, 1000, .inl (fun _ => 0))), (q2_17, .inl (ay 0, 1000, .inl (fun _ => 0)))] rfl rfl rfl rfl rfl rfl (Nat.le_of_ble_eq_true rfl) dX5_init_19 ?_
  refine j_aload_n F 0 dX5_init_22 rfl ?_
  refine j_new F nwX5_18 [.null, .int 0] (fun j hj => by match j, hj with | 0, _ => rfl | 1, _ => rfl | j + 2, h => exact absurd h (by omega)) ⟨Nat.le_of_ble_eq_true rfl, Nat.le_of_ble_eq_true rfl⟩ dX5_init_23 (fun q3_23 => ?_)
  refine j_ws [(a, .inr (5, [.ref q1_8, .ref q2_17, .null, .int 0])), (q1_8, .inl (ay 0, 1000, .inl (fun _ => 0))), (q2_17, .inl (ay 0, 1000, .inl (fun _ => 0))), (q3_23, .inr (8, [.null, .int 0]))] rfl ?_
  refine j_dup F dX5_init_26 rfl ?_
  refine j_callI F hU kIX5_20 (As := []) (rest := [.ref q3_23, .ref a]) (c_X8_init l D ay q3_23) [3] [0, 1, 2] [(a, .inr (5, [.ref q1_8, .ref q2_17, .null, .int 0])), (q1_8, .inl (ay 0, 1000, .inl (fun _ => 0))), (q2_17, .inl (ay 0, 1000, .inl (fun _ => 0)))] rfl rfl rfl rfl rfl rfl ⟨Nat.le_of_ble_eq_true rfl, Nat.le_of_ble_eq_true rfl⟩ dX5_init_27 (fun v w hw => ?_)
  obtain ⟨q1_27, rfl, rfl⟩ := hw
  refine j_ws [(a, .inr (5, [.ref q1_8, .ref q2_17, .null, .int 0])), (q1_8, .inl (ay 0, 1000, .inl (fun _ => 0))), (q2_17, .inl (ay 0, 1000, .inl (fun _ => 0))), (q3_23, .inr (8, [.ref q1_27, .int 0])), (q1_27, .inl (ay 0, 100, .inl (fun _ => 0)))] rfl ?_
  refine j_putF F fX5_21 hin 0 [(a, .inr (5, [.ref q1_8, .ref q2_17, .ref q3_23, .int 0])), (q1_8, .inl (ay 0, 1000, .inl (fun _ => 0))), (q2_17, .inl (ay 0, 1000, .inl (fun _ => 0))), (q3_23, .inr (8, [.ref q1_27, .int 0])), (q1_27, .inl (ay 0, 100, .inl (fun _ => 0)))] rfl rfl rfl rfl rfl rfl (Nat.le_of_ble_eq_true rfl) dX5_init_30 ?_
  refine j_aload_n F 0 dX5_init_33 rfl ?_
  refine j_iconst F (v := 0) dX5_init_34 (by decide) ?_
  refine j_putf F fX5_25 0 [(a, .inr (5, [.ref q1_8, .ref q2_17, .ref q3_23, .int 0])), (q1_8, .inl (ay 0, 1000, .inl (fun _ => 0))), (q2_17, .inl (ay 0, 1000, .inl (fun _ => 0))), (q3_23, .inr (8, [.ref q1_27, .int 0])), (q1_27, .inl (ay 0, 100, .inl (fun _ => 0)))] rfl rfl rfl rfl rfl (Nat.le_of_ble_eq_true rfl) dX5_init_35 ?_
  exact j_vret F ⟨q1_8, q2_17, q3_23, q1_27, rfl, rfl⟩ dX5_init_38 (Nat.le_of_ble_eq_true rfl) (Nat.le_of_ble_eq_true rfl)

set_option maxHeartbeats 4000000 in
set_option maxRecDepth 100000 in
theorem c_X4_init (l : Launch) (D : va_G) (ay : Nat → ClassId) (a : Nat) : jC l yX4_init (jws yX4_init cX4_init 1 none) 2 52 7 716 D ay [.ref a] [(a, .inr (4, [.null, .null, .int 0]))] (fun v w => ∃ (q1 : Nat), ∃ (q2 : Nat), ∃ (q3 : Nat), ∃ (q4 : Nat), ∃ (q5 : Nat), ∃ (q6 : Nat), ∃ (q7 : Nat), v = none ∧ w = [(a, .inr (4, [.ref q1, .ref q3, .int 0])), (q1, .inr (6, [.ref q2, .int 0])), (q2, .inl (ay 0, 300, .inl (fun _ => 0))), (q3, .inr (3, [.ref q4, .ref q5, .int 0, .ref q6, .ref q7, .int 0])), (q4, .inl (ay 0, 200, .inl (fun _ => 0))), (q5, .inl (ay 0, 200, .inl (fun _ => 0))), (q6, .inl (ay 0, 4, .inl (fun _ => 0))), (q7, .inl (ay 0, 4, .inl (fun _ => 0)))]) := by
  refine jC_of l (by decide) rfl [(0, .ref a)] rfl rfl (fun p9 e9 s9 m9 a9 b9 me9 c9 A9 F hU hin => ?_)
  refine j_aload_n F 0 dX4_init_0 rfl ?_
  refine j_obj F gi_49 gi_38 gi_39 ⟨Nat.le_of_ble_eq_true rfl, Nat.le_of_ble_eq_true rfl⟩ dX4_init_1 ?_
  refine j_aload_n F 0 dX4_init_4 rfl ?_
  refine j_new F nwX4_9 [.null, .int 0] (fun j hj => by match j, hj with | 0, _ => rfl | 1, _ => rfl | j + 2, h => exact absurd h (by omega)) ⟨Nat.le_of_ble_eq_true rfl, Nat.le_of_ble_eq_true rfl⟩ dX4_init_5 (fun q1_5 => ?_)
  refine j_ws [(a, .inr (4, [.null, .null, .int 0])), (q1_5, .inr (6, [.null, .int 0]))] rfl ?_
  refine j_dup F dX4_init_8 rfl ?_
  refine j_callI F hU kIX4_11 (As := []) (rest := [.ref q1_5, .ref a]) (c_X6_init l D ay q1_5) [1] [0] [(a, .inr (4, [.null, .null, .int 0]))] rfl rfl rfl rfl rfl rfl ⟨Nat.le_of_ble_eq_true rfl, Nat.le_of_ble_eq_true rfl⟩ dX4_init_9 (fun v w hw => ?_)
  obtain ⟨q1_9, rfl, rfl⟩ := hw
  refine j_ws [(a, .inr (4, [.null, .null, .int 0])), (q1_5, .inr (6, [.ref q1_9, .int 0])), (q1_9, .inl (ay 0, 300, .inl (fun _ => 0)))] rfl ?_
  refine j_putF F fX4_12 hin 0 [(a, .inr (4, [.ref q1_5, .null, .int 0])), (q1_5, .inr (6, [.ref q1_9, .int 0])), (q1_9, .inl (ay 0, 300, .inl (fun _ => 0)))] rfl rfl rfl rfl rfl rfl (Nat.le_of_ble_eq_true rfl) dX4_init_12 ?_
  refine j_aload_n F 0 dX4_init_15 rfl ?_
  refine j_new F nwX4_18 [.null, .null, .int 0, .null, .null, .int 0] (fun j hj => by match j, hj with | 0, _ => rfl | 1, _ => rfl | 2, _ => rfl | 3, _ => rfl | 4, _ => rfl | 5, _ => rfl | j + 6, h => exact absurd h (by omega)) ⟨Nat.le_of_ble_eq_true rfl, Nat.le_of_ble_eq_true rfl⟩ dX4_init_16 (fun q3_16 => ?_)
  refine j_ws [(a, .inr (4, [.ref q1_5, .null, .int 0])), (q1_5, .inr (6, [.ref q1_9, .int 0])), (q1_9, .inl (ay 0, 300, .inl (fun _ => 0))), (q3_16, .inr (3, [.null, .null, .int 0, .null, .null, .int 0]))] rfl ?_
  refine j_dup F dX4_init_19 rfl ?_
  refine j_callI F hU kIX4_20 (As := []) (rest := [.ref q3_16, .ref a]) (c_X3_init l D ay q3_16) [3] [0, 1, 2] [(a, .inr (4, [.ref q1_5, .null, .int 0])), (q1_5, .inr (6, [.ref q1_9, .int 0])), (q1_9, .inl (ay 0, 300, .inl (fun _ => 0)))] rfl rfl rfl rfl rfl rfl ⟨Nat.le_of_ble_eq_true rfl, Nat.le_of_ble_eq_true rfl⟩ dX4_init_20 (fun v w hw => ?_)
  obtain ⟨q1_20, q2_20, q3_20, q4_20, rfl, rfl⟩ := hw
  refine j_ws [(a, .inr (4, [.ref q1_5, .null, .int 0])), (q1_5, .inr (6, [.ref q1_9, .int 0])), (q1_9, .inl (ay 0, 300, .inl (fun _ => 0))), (q3_16, .inr (3, [.ref q1_20, .ref q2_20, .int 0, .ref q3_20, .ref q4_20, .int 0])), (q1_20, .inl (ay 0, 200, .inl (fun _ => 0))), (q2_20, .inl (ay 0, 200, .inl (fun _ => 0))), (q3_20, .inl (ay 0, 4, .inl (fun _ => 0))), (q4_20, .inl (ay 0, 4, .inl (fun _ => 0)))] rfl ?_
  refine j_putF F fX4_21 hin 0 [(a, .inr (4, [.ref q1_5, .ref q3_16, .int 0])), (q1_5, .inr (6, [.ref q1_9, .int 0])), (q1_9, .inl (ay 0, 300, .inl (fun _ => 0))), (q3_16, .inr (3, [.ref q1_20, .ref q2_20, .int 0, .ref q3_20, .ref q4_20, .int 0])), (q1_20, .inl (ay 0, 200, .inl (fun _ => 0))), (q2_20, .inl (ay 0, 200, .inl (fun _ => 0))), (q3_20, .inl (ay 0, 4, .inl (fun _ => 0))), (q4_20, .inl (ay 0, 4, .inl (fun _ => 0)))] rfl rfl rfl rfl rfl rfl (Nat.le_of_ble_eq_true rfl) dX4_init_23 ?_
  refine j_aload_n F 0 dX4_init_26 rfl ?_
  refine j_iconst F (v := 0) dX4_init_27 (by decide) ?_
  refine j_putf F fX4_25 0 [(a, .inr (4, [.ref q1_5, .ref q3_16, .int 0])), (q1_5, .inr (6, [.ref q1_9, .int 0])), (q1_9, .inl (ay 0, 300, .inl (fun _ => 0))), (q3_16, .inr (3, [.ref q1_20, .ref q2_20, .int 0, .ref q3_20, .ref q4_20, .int 0])), (q1_20, .inl (ay 0, 200, .inl (fun _ => 0))), (q2_20, .inl (ay 0, 200, .inl (fun _ => 0))), (q3_20, .inl (ay 0, 4, .inl (fun _ => 0))), (q4_20, .inl (ay 0, 4, .inl (fun _ => 0)))] rfl rfl rfl rfl rfl (Nat.le_of_ble_eq_true rfl) dX4_init_28 ?_
  exact j_vret F ⟨q1_5, q1_9, q3_16, q1_20, q2_20, q3_20, q4_20, rfl, rfl⟩ dX4_init_31 (Nat.le_of_ble_eq_true rfl) (Nat.le_of_ble_eq_true rfl)

set_option maxHeartbeats 4000000 in
set_option maxRecDepth 100000 in
theorem c_X2_init (l : Launch) (D : va_G) (ay : Nat → ClassId) (a : Nat) : jC l yX2_init (jws yX2_init cX2_init 2 none) 2 52 5 246 D ay [.ref a] [(a, .inr (2, [.null, .null, .null, .null, .int 0, .int 0, .int 0, .int 0]))] (fun v w => ∃ (q1 : Nat), ∃ (q2 : Nat), ∃ (q3 : Nat), ∃ (q4 : Nat), ∃ (q5 : Nat), v = none ∧ w = [(a, .inr (2, [.ref q1, .ref q2, .ref q3, .ref q4, .int 2, .int 0, .int 0, .int 0])), (q1, .inl (ay 0, 64, .inl (fun j => if j < 64 then nI j else 0))), (q2, .inl (ay 0, 64, .inl (fun _ => 0))), (q3, .inl (ay 1, 16, .inl (fun _ => 0))), (q4, .inr (8, [.ref q5, .int 0])), (q5, .inl (ay 0, 100, .inl (fun _ => 0)))]) := by
  refine jC_of l (by decide) rfl [(0, .ref a)] rfl rfl (fun p9 e9 s9 m9 a9 b9 me9 c9 A9 F hU hin => ?_)
  refine j_aload_n F 0 dX2_init_0 rfl ?_
  refine j_obj F gi_45 gi_38 gi_39 ⟨Nat.le_of_ble_eq_true rfl, Nat.le_of_ble_eq_true rfl⟩ dX2_init_1 ?_
  refine j_aload_n F 0 dX2_init_4 rfl ?_
  refine j_bipush F (v := 64) dX2_init_5 (by decide) ?_
  refine j_newa F 0 gi_88 rfl rfl 64 (64, .inl (fun _ => 0)) (fun _ => rfl) rfl rfl rfl ⟨Nat.le_of_ble_eq_true rfl, Nat.le_of_ble_eq_true rfl⟩ dX2_init_7 (fun q1_7 => ?_)
  refine j_ws [(a, .inr (2, [.null, .null, .null, .null, .int 0, .int 0, .int 0, .int 0])), (q1_7, .inl (ay 0, 64, .inl (fun _ => 0)))] rfl ?_
  refine j_putF F fX2_9 hin 0 [(a, .inr (2, [.ref q1_7, .null, .null, .null, .int 0, .int 0, .int 0, .int 0])), (q1_7, .inl (ay 0, 64, .inl (fun _ => 0)))] rfl rfl rfl rfl rfl rfl (Nat.le_of_ble_eq_true rfl) dX2_init_9 ?_
  refine j_aload_n F 0 dX2_init_12 rfl ?_
  refine j_bipush F (v := 64) dX2_init_13 (by decide) ?_
  refine j_newa F 0 gi_88 rfl rfl 64 (64, .inl (fun _ => 0)) (fun _ => rfl) rfl rfl rfl ⟨Nat.le_of_ble_eq_true rfl, Nat.le_of_ble_eq_true rfl⟩ dX2_init_15 (fun q2_15 => ?_)
  refine j_ws [(a, .inr (2, [.ref q1_7, .null, .null, .null, .int 0, .int 0, .int 0, .int 0])), (q1_7, .inl (ay 0, 64, .inl (fun _ => 0))), (q2_15, .inl (ay 0, 64, .inl (fun _ => 0)))] rfl ?_
  refine j_putF F fX2_15 hin 0 [(a, .inr (2, [.ref q1_7, .ref q2_15, .null, .null, .int 0, .int 0, .int 0, .int 0])), (q1_7, .inl (ay 0, 64, .inl (fun _ => 0))), (q2_15, .inl (ay 0, 64, .inl (fun _ => 0)))] rfl rfl rfl rfl rfl rfl (Nat.le_of_ble_eq_true rfl) dX2_init_17 ?_
  refine j_aload_n F 0 dX2_init_20 rfl ?_
  refine j_bipush F (v := 16) dX2_init_21 (by decide) ?_
  refine j_newa F 1 gi_89 rfl rfl 16 (16, .inl (fun _ => 0)) (fun _ => rfl) rfl rfl rfl ⟨Nat.le_of_ble_eq_true rfl, Nat.le_of_ble_eq_true rfl⟩ dX2_init_23 (fun q3_23 => ?_)
  refine j_ws [(a, .inr (2, [.ref q1_7, .ref q2_15, .null, .null, .int 0, .int 0, .int 0, .int 0])), (q1_7, .inl (ay 0, 64, .inl (fun _ => 0))), (q2_15, .inl (ay 0, 64, .inl (fun _ => 0))), (q3_23, .inl (ay 1, 16, .inl (fun _ => 0)))] rfl ?_
  refine j_putF F fX2_18 hin 0 [(a, .inr (2, [.ref q1_7, .ref q2_15, .ref q3_23, .null, .int 0, .int 0, .int 0, .int 0])), (q1_7, .inl (ay 0, 64, .inl (fun _ => 0))), (q2_15, .inl (ay 0, 64, .inl (fun _ => 0))), (q3_23, .inl (ay 1, 16, .inl (fun _ => 0)))] rfl rfl rfl rfl rfl rfl (Nat.le_of_ble_eq_true rfl) dX2_init_25 ?_
  refine j_aload_n F 0 dX2_init_28 rfl ?_
  refine j_new F nwX2_22 [.null, .int 0] (fun j hj => by match j, hj with | 0, _ => rfl | 1, _ => rfl | j + 2, h => exact absurd h (by omega)) ⟨Nat.le_of_ble_eq_true rfl, Nat.le_of_ble_eq_true rfl⟩ dX2_init_29 (fun q4_29 => ?_)
  refine j_ws [(a, .inr (2, [.ref q1_7, .ref q2_15, .ref q3_23, .null, .int 0, .int 0, .int 0, .int 0])), (q1_7, .inl (ay 0, 64, .inl (fun _ => 0))), (q2_15, .inl (ay 0, 64, .inl (fun _ => 0))), (q3_23, .inl (ay 1, 16, .inl (fun _ => 0))), (q4_29, .inr (8, [.null, .int 0]))] rfl ?_
  refine j_dup F dX2_init_32 rfl ?_
  refine j_callI F hU kIX2_24 (As := []) (rest := [.ref q4_29, .ref a]) (c_X8_init l D ay q4_29) [4] [0, 1, 2, 3] [(a, .inr (2, [.ref q1_7, .ref q2_15, .ref q3_23, .null, .int 0, .int 0, .int 0, .int 0])), (q1_7, .inl (ay 0, 64, .inl (fun _ => 0))), (q2_15, .inl (ay 0, 64, .inl (fun _ => 0))), (q3_23, .inl (ay 1, 16, .inl (fun _ => 0)))] rfl rfl rfl rfl rfl rfl ⟨Nat.le_of_ble_eq_true rfl, Nat.le_of_ble_eq_true rfl⟩ dX2_init_33 (fun v w hw => ?_)
  obtain ⟨q1_33, rfl, rfl⟩ := hw
  refine j_ws [(a, .inr (2, [.ref q1_7, .ref q2_15, .ref q3_23, .null, .int 0, .int 0, .int 0, .int 0])), (q1_7, .inl (ay 0, 64, .inl (fun _ => 0))), (q2_15, .inl (ay 0, 64, .inl (fun _ => 0))), (q3_23, .inl (ay 1, 16, .inl (fun _ => 0))), (q4_29, .inr (8, [.ref q1_33, .int 0])), (q1_33, .inl (ay 0, 100, .inl (fun _ => 0)))] rfl ?_
  refine j_putF F fX2_25 hin 0 [(a, .inr (2, [.ref q1_7, .ref q2_15, .ref q3_23, .ref q4_29, .int 0, .int 0, .int 0, .int 0])), (q1_7, .inl (ay 0, 64, .inl (fun _ => 0))), (q2_15, .inl (ay 0, 64, .inl (fun _ => 0))), (q3_23, .inl (ay 1, 16, .inl (fun _ => 0))), (q4_29, .inr (8, [.ref q1_33, .int 0])), (q1_33, .inl (ay 0, 100, .inl (fun _ => 0)))] rfl rfl rfl rfl rfl rfl (Nat.le_of_ble_eq_true rfl) dX2_init_36 ?_
  refine j_aload_n F 0 dX2_init_39 rfl ?_
  refine j_iconst F (v := 2) dX2_init_40 (by decide) ?_
  refine j_putf F fX2_29 0 [(a, .inr (2, [.ref q1_7, .ref q2_15, .ref q3_23, .ref q4_29, .int 2, .int 0, .int 0, .int 0])), (q1_7, .inl (ay 0, 64, .inl (fun _ => 0))), (q2_15, .inl (ay 0, 64, .inl (fun _ => 0))), (q3_23, .inl (ay 1, 16, .inl (fun _ => 0))), (q4_29, .inr (8, [.ref q1_33, .int 0])), (q1_33, .inl (ay 0, 100, .inl (fun _ => 0)))] rfl rfl rfl rfl rfl (Nat.le_of_ble_eq_true rfl) dX2_init_41 ?_
  refine j_aload_n F 0 dX2_init_44 rfl ?_
  refine j_iconst F (v := 0) dX2_init_45 (by decide) ?_
  refine j_putf F fX2_33 0 [(a, .inr (2, [.ref q1_7, .ref q2_15, .ref q3_23, .ref q4_29, .int 2, .int 0, .int 0, .int 0])), (q1_7, .inl (ay 0, 64, .inl (fun _ => 0))), (q2_15, .inl (ay 0, 64, .inl (fun _ => 0))), (q3_23, .inl (ay 1, 16, .inl (fun _ => 0))), (q4_29, .inr (8, [.ref q1_33, .int 0])), (q1_33, .inl (ay 0, 100, .inl (fun _ => 0)))] rfl rfl rfl rfl rfl (Nat.le_of_ble_eq_true rfl) dX2_init_46 ?_
  refine j_aload_n F 0 dX2_init_49 rfl ?_
  refine j_iconst F (v := 0) dX2_init_50 (by decide) ?_
  refine j_putf F fX2_36 0 [(a, .inr (2, [.ref q1_7, .ref q2_15, .ref q3_23, .ref q4_29, .int 2, .int 0, .int 0, .int 0])), (q1_7, .inl (ay 0, 64, .inl (fun _ => 0))), (q2_15, .inl (ay 0, 64, .inl (fun _ => 0))), (q3_23, .inl (ay 1, 16, .inl (fun _ => 0))), (q4_29, .inr (8, [.ref q1_33, .int 0])), (q1_33, .inl (ay 0, 100, .inl (fun _ => 0)))] rfl rfl rfl rfl rfl (Nat.le_of_ble_eq_true rfl) dX2_init_51 ?_
  refine j_aload_n F 0 dX2_init_54 rfl ?_
  refine j_iconst F (v := 0) dX2_init_55 (by decide) ?_
  refine j_putf F fX2_39 0 [(a, .inr (2, [.ref q1_7, .ref q2_15, .ref q3_23, .ref q4_29, .int 2, .int 0, .int 0, .int 0])), (q1_7, .inl (ay 0, 64, .inl (fun _ => 0))), (q2_15, .inl (ay 0, 64, .inl (fun _ => 0))), (q3_23, .inl (ay 1, 16, .inl (fun _ => 0))), (q4_29, .inr (8, [.ref q1_33, .int 0])), (q1_33, .inl (ay 0, 100, .inl (fun _ => 0)))] rfl rfl rfl rfl rfl (Nat.le_of_ble_eq_true rfl) dX2_init_56 ?_
  refine j_iconst F (v := 0) dX2_init_59 (by decide) ?_
  refine j_istore_n F 1 [(1, .int 0), (0, .ref a)] dX2_init_60 rfl (by decide) rfl ?_
  refine j_loop (σ := Nat) (fun i => i ≤ 64) (fun i => 64 - i) (fun i => [(1, .int (nI i)), (0, .ref a)]) (fun i => [(a, .inr (2, [.ref q1_7, .ref q2_15, .ref q3_23, .ref q4_29, .int 2, .int 0, .int 0, .int 0])), (q1_7, .inl (ay 0, 64, .inl (fun j => if j < i then nI j else 0))), (q2_15, .inl (ay 0, 64, .inl (fun _ => 0))), (q3_23, .inl (ay 1, 16, .inl (fun _ => 0))), (q4_29, .inr (8, [.ref q1_33, .int 0])), (q1_33, .inl (ay 0, 100, .inl (fun _ => 0)))]) 0 (Nat.zero_le _) rfl (by rw [show (fun j : Nat => if j < 0 then nI j else (0 : Int32)) = (fun _ => 0) from funext (fun j => if_neg (Nat.not_lt_zero j))]) (fun i hI ih => ?_)
  have hI : i ≤ 64 := hI
  refine j_iload_n F 0 dX2_init_61 rfl ?_
  refine j_bipush F (v := 64) dX2_init_62 (by decide) ?_
  refine j_icmp_ge F 80 dX2_init_64 (by decide) (fun hc => ?_) (fun hc => ?_)
  · skip
    have hq : i = 64 := by have := (n_le 64 i rfl rfl (by decide) (by omega)).mp hc; omega
    subst hq
    refine j_ws [(a, .inr (2, [.ref q1_7, .ref q2_15, .ref q3_23, .ref q4_29, .int 2, .int 0, .int 0, .int 0])), (q1_7, .inl (ay 0, 64, .inl (fun j => if j < 64 then nI j else 0))), (q2_15, .inl (ay 0, 64, .inl (fun _ => 0))), (q3_23, .inl (ay 1, 16, .inl (fun _ => 0))), (q4_29, .inr (8, [.ref q1_33, .int 0])), (q1_33, .inl (ay 0, 100, .inl (fun _ => 0)))] rfl ?_
    exact j_vret F ⟨q1_7, q2_15, q3_23, q4_29, q1_33, rfl, rfl⟩ dX2_init_80 (Nat.le_of_ble_eq_true rfl) (Nat.le_of_ble_eq_true rfl)
  · skip
    have hq : i < 64 := Nat.lt_of_not_le (fun h => hc ((n_le 64 i rfl rfl (by decide) (by omega)).mpr h))
    refine j_aload_n F 1 dX2_init_67 rfl ?_
    refine j_getf F fX2_9 0 rfl rfl dX2_init_68 ?_
    refine j_iload_n F 0 dX2_init_71 rfl ?_
    refine j_iload_n F 0 dX2_init_72 rfl ?_
    refine j_iast F 1 [(a, .inr (2, [.ref q1_7, .ref q2_15, .ref q3_23, .ref q4_29, .int 2, .int 0, .int 0, .int 0])), (q1_7, .inl (ay 0, 64, .inl (upd (fun j => if j < i then nI j else 0) i (nI i)))), (q2_15, .inl (ay 0, 64, .inl (fun _ => 0))), (q3_23, .inl (ay 1, 16, .inl (fun _ => 0))), (q4_29, .inr (8, [.ref q1_33, .int 0])), (q1_33, .inl (ay 0, 100, .inl (fun _ => 0)))] i rfl rfl (by omega) (by decide) rfl dX2_init_73 ?_
    refine j_ws [(a, .inr (2, [.ref q1_7, .ref q2_15, .ref q3_23, .ref q4_29, .int 2, .int 0, .int 0, .int 0])), (q1_7, .inl (ay 0, 64, .inl (fun j => if j < i + 1 then nI j else 0))), (q2_15, .inl (ay 0, 64, .inl (fun _ => 0))), (q3_23, .inl (ay 1, 16, .inl (fun _ => 0))), (q4_29, .inr (8, [.ref q1_33, .int 0])), (q1_33, .inl (ay 0, 100, .inl (fun _ => 0)))] (by rw [disc_upd]) ?_
    refine j_iinc F 0 (nI (i + 1)) [(1, .int (nI (i + 1))), (0, .ref a)] dX2_init_74 rfl (nI_1 _) (by decide) rfl ?_
    refine j_goto F 61 dX2_init_77 (by decide) ?_
    exact ih (i + 1) (by show i + 1 ≤ 64; omega) (by show 64 - (i + 1) < 64 - i; omega)

