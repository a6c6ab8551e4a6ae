set_option maxHeartbeats 4000000 in
set_option maxRecDepth 100000 in
theorem c_X10_thrown (l : Launch) (D : va_G) (ay : Nat → ClassId) (ad : Nat → Nat) (vi : Nat → Int32) (ga : Nat → Nat → Int32) : jM l yX10_thrown (jws yX10_thrown cX10_thrown 1 (some .int)) 0 0 0 0 D ay [.ref (ad 0)] (mW ay ad vi ga) (fun v w => v = some (.int (vi 0)) ∧ w = (mW ay ad vi ga)) := by
  refine jM_of l (by decide) [(0, .ref (ad 0))] rfl rfl (fun p9 e9 s9 m9 a9 b9 me9 c9 A9 F => ?_)
  refine j_aload_n F 0 dX10_thrown_0 rfl ?_
  refine j_getf F fX10_1 0 (v := .int (vi 0)) rfl rfl dX10_thrown_1 ?_
  exact j_iret F ⟨rfl, rfl⟩ dX10_thrown_4 (Nat.le_of_ble_eq_true rfl) (Nat.le_of_ble_eq_true rfl)

set_option maxHeartbeats 4000000 in
set_option maxRecDepth 100000 in
theorem c_X10_in (l : Launch) (D : va_G) (ay : Nat → ClassId) (x : Int32) (lo : Int32) (hi : Int32) (h : ¬ oob x lo hi) : jM l yX10_in (jws yX10_in cX10_in 3 (some .boolean)) 0 0 0 0 D ay [.int x, .int lo, .int hi] [] (fun v w => v = some (.int 1) ∧ w = []) := by
  refine jM_of l (by decide) [(0, .int x), (1, .int lo), (2, .int hi)] rfl rfl (fun p9 e9 s9 m9 a9 b9 me9 c9 A9 F => ?_)
  refine j_iload_n F 0 dX10_in_0 rfl ?_
  refine j_iload_n F 1 dX10_in_1 rfl ?_
  refine j_icmp_lt F 14 dX10_in_2 (by decide) (fun c_2 => absurd (Or.inl c_2) h) (fun c_2 => ?_)
  refine j_iload_n F 0 dX10_in_5 rfl ?_
  refine j_iload_n F 2 dX10_in_6 rfl ?_
  refine j_icmp_gt F 14 dX10_in_7 (by decide) (fun c_7 => absurd (Or.inr c_7) h) (fun c_7 => ?_)
  refine j_iconst F (v := 1) dX10_in_10 (by decide) ?_
  refine j_goto F 15 dX10_in_11 (by decide) ?_
  exact j_zret F (Or.inr rfl) ⟨rfl, rfl⟩ dX10_in_15 (Nat.le_of_ble_eq_true rfl) (Nat.le_of_ble_eq_true rfl)

set_option maxHeartbeats 4000000 in
set_option maxRecDepth 100000 in
theorem c_X10_in_no (l : Launch) (D : va_G) (ay : Nat → ClassId) (x : Int32) (lo : Int32) (hi : Int32) (h : oob x lo hi) : jM l yX10_in (jws yX10_in cX10_in 3 (some .boolean)) 0 0 0 0 D ay [.int x, .int lo, .int hi] [] (fun v w => v = some (.int 0) ∧ w = []) := by
  refine jM_of l (by decide) [(0, .int x), (1, .int lo), (2, .int hi)] rfl rfl (fun p9 e9 s9 m9 a9 b9 me9 c9 A9 F => ?_)
  refine j_iload_n F 0 dX10_in_0 rfl ?_
  refine j_iload_n F 1 dX10_in_1 rfl ?_
  refine j_icmp_lt F 14 dX10_in_2 (by decide) (fun c_2 => ?_) (fun c_2 => ?_)
  · skip
    refine j_iconst F (v := 0) dX10_in_14 (by decide) ?_
    exact j_zret F (Or.inl rfl) ⟨rfl, rfl⟩ dX10_in_15 (Nat.le_of_ble_eq_true rfl) (Nat.le_of_ble_eq_true rfl)
  · skip
    refine j_iload_n F 0 dX10_in_5 rfl ?_
    refine j_iload_n F 2 dX10_in_6 rfl ?_
    refine j_icmp_gt F 14 dX10_in_7 (by decide) (fun c_7 => ?_) (fun c_7 => ?_)
    · skip
      refine j_iconst F (v := 0) dX10_in_14 (by decide) ?_
      exact j_zret F (Or.inl rfl) ⟨rfl, rfl⟩ dX10_in_15 (Nat.le_of_ble_eq_true rfl) (Nat.le_of_ble_eq_true rfl)
    · skip
      refine j_iconst F (v := 1) dX10_in_10 (by decide) ?_
      refine j_goto F 15 dX10_in_11 (by decide) ?_
      exact j_zret F (Or.inr rfl) (absurd h (fun h => h.elim c_2 c_7)) dX10_in_15 (Nat.le_of_ble_eq_true rfl) (Nat.le_of_ble_eq_true rfl)

set_option maxHeartbeats 4000000 in
set_option maxRecDepth 100000 in
theorem c_X10_fails_ok (l : Launch) (D : va_G) (ay : Nat → ClassId) (ad : Nat → Nat) (vi : Nat → Int32) (ga : Nat → Nat → Int32) (k : Int32) (h0 : vi 0 = 0) : jM l yX10_fails (jws yX10_fails cX10_fails 3 (some .boolean)) 0 0 0 0 D ay [.ref (ad 0), .int 1, .int k] (mW ay ad vi ga) (fun v w => v = some (.int 0) ∧ w = (mW ay ad vi ga)) := by
  refine jM_of l (by decide) [(0, .ref (ad 0)), (1, .int 1), (2, .int k)] rfl rfl (fun p9 e9 s9 m9 a9 b9 me9 c9 A9 F => ?_)
  refine j_iload_n F 1 dX10_fails_0 rfl ?_
  refine j_if_ne F 16 dX10_fails_1 (by decide) (fun c_1 => ?_) (fun c_1 => absurd c_1 (by decide))
  refine j_aload_n F 0 dX10_fails_16 rfl ?_
  refine j_getf F fX10_1 0 (v := .int (vi 0)) rfl rfl dX10_fails_17 ?_
  refine j_if_eq F 27 dX10_fails_20 (by decide) (fun c_20 => ?_) (fun c_20 => absurd h0 c_20)
  refine j_iconst F (v := 0) dX10_fails_27 (by decide) ?_
  exact j_zret F (Or.inl rfl) ⟨rfl, rfl⟩ dX10_fails_28 (Nat.le_of_ble_eq_true rfl) (Nat.le_of_ble_eq_true rfl)

set_option maxHeartbeats 4000000 in
set_option maxRecDepth 100000 in
theorem c_X10_fails_no (l : Launch) (D : va_G) (ay : Nat → ClassId) (ad : Nat → Nat) (vi : Nat → Int32) (ga : Nat → Nat → Int32) (k : Int32) (h0 : vi 0 = 0) (hk : ¬ k = 0) : jM l yX10_fails (jws yX10_fails cX10_fails 3 (some .boolean)) 0 0 0 0 D ay [.ref (ad 0), .int 0, .int k] (mW ay ad vi ga) (fun v w => v = some (.int 1) ∧ w = (mW ay ad (ups vi 0 k) ga)) := by
  refine jM_of l (by decide) [(0, .ref (ad 0)), (1, .int 0), (2, .int k)] rfl rfl (fun p9 e9 s9 m9 a9 b9 me9 c9 A9 F => ?_)
  refine j_iload_n F 1 dX10_fails_0 rfl ?_
  refine j_if_ne F 16 dX10_fails_1 (by decide) (fun c_1 => absurd (by decide) c_1) (fun c_1 => ?_)
  refine j_aload_n F 0 dX10_fails_4 rfl ?_
  refine j_getf F fX10_1 0 (v := .int (vi 0)) rfl rfl dX10_fails_5 ?_
  refine j_if_ne F 16 dX10_fails_8 (by decide) (fun c_8 => absurd h0 c_8) (fun c_8 => ?_)
  refine j_aload_n F 0 dX10_fails_11 rfl ?_
  refine j_iload_n F 2 dX10_fails_12 rfl ?_
  refine j_putf F fX10_1 0 (mW ay ad (ups vi 0 k) ga) rfl rfl rfl rfl rfl (Nat.le_of_ble_eq_true rfl) dX10_fails_13 ?_
  refine j_aload_n F 0 dX10_fails_16 rfl ?_
  refine j_getf F fX10_1 0 (v := .int k) rfl rfl dX10_fails_17 ?_
  refine j_if_eq F 27 dX10_fails_20 (by decide) (fun c_20 => absurd c_20 hk) (fun c_20 => ?_)
  refine j_iconst F (v := 1) dX10_fails_23 (by decide) ?_
  refine j_goto F 28 dX10_fails_24 (by decide) ?_
  exact j_zret F (Or.inr rfl) ⟨rfl, rfl⟩ dX10_fails_28 (Nat.le_of_ble_eq_true rfl) (Nat.le_of_ble_eq_true rfl)

