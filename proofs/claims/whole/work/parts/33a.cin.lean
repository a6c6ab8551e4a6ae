set_option maxHeartbeats 4000000 in
set_option maxRecDepth 100000 in
theorem c_X10_cachePlace (l : Launch) (D : va_G) (ay : Nat → ClassId) (ad : Nat → Nat) (vi : Nat → Int32) (ga : Nat → Nat → Int32) (k : Nat) (n : Nat) (key : Int32) (hk : 1 ≤ k ∧ k ≤ 8) (hmn : ga 6 k = nI n) (hn : n ≤ 9) : jM l yX10_cachePlace (jws yX10_cachePlace cX10_cachePlace 4 (some .int)) 0 0 0 0 D ay [.ref (ad 0), .int (nI k), .int key] (mW ay ad vi ga) (fun v w => v = some (.int (fxI (rwo (ga 5) (9 * k)) key n)) ∧ w = (mW ay ad vi ga)) := by
  refine jM_of l (by decide) [(0, .ref (ad 0)), (1, .int (nI k)), (2, .int key)] rfl rfl (fun p9 e9 s9 m9 a9 b9 me9 c9 A9 F => ?_)
  refine j_iconst F (v := 0) dX10_cachePlace_0 (by decide) ?_
  refine j_istore_n F 3 [(3, .int 0), (0, .ref (ad 0)), (1, .int (nI k)), (2, .int key)] dX10_cachePlace_1 rfl (by decide) rfl ?_
  refine j_loop (σ := Nat) (fun i => i ≤ n ∧ ∀ j, j < i → rwo (ga 5) (9 * k) j ≠ key) (fun i => n - i) (fun i => [(3, .int (nI i)), (0, .ref (ad 0)), (1, .int (nI k)), (2, .int key)]) (fun _ => (mW ay ad vi ga)) 0 ⟨Nat.zero_le _, fun j h => absurd h (Nat.not_lt_zero j)⟩ rfl rfl (fun i hI ih => ?_)
  obtain ⟨hi, hno⟩ := hI
  refine j_iload_n F 0 dX10_cachePlace_2 rfl ?_
  refine j_aload_n F 1 dX10_cachePlace_3 rfl ?_
  refine j_getf F fX10_39 0 (v := .ref (ad 7)) rfl rfl dX10_cachePlace_4 ?_
  refine j_iload_n F 2 dX10_cachePlace_7 rfl ?_
  refine j_iald F 7 k (f := ga 6) rfl rfl (by omega) (Nat.le_of_ble_eq_true rfl) dX10_cachePlace_8 ?_
  refine j_top (nI n) hmn ?_
  refine j_icmp_ge F 35 dX10_cachePlace_9 (by decide) (fun c_9 => ?_) (fun c_9 => ?_)
  · skip
    have n_9 := (n_le n i rfl rfl (by omega) (by omega)).mp c_9
    refine j_iconst F (v := (-1)) dX10_cachePlace_35 (by decide) ?_
    exact j_iret F ⟨by show some (Value.int (-1)) = _; rw [fxI, fx_none (f := rwo (ga 5) (9 * k)) (fun j hj => hno j (by omega)), if_neg (by omega)], rfl⟩ dX10_cachePlace_36 (Nat.le_of_ble_eq_true rfl) (Nat.le_of_ble_eq_true rfl)
  · skip
    have n_9 := mt (n_le n i rfl rfl (by omega) (by omega)).mpr c_9
    refine j_aload_n F 1 dX10_cachePlace_12 rfl ?_
    refine j_getf F fX10_36 0 (v := .ref (ad 6)) rfl rfl dX10_cachePlace_13 ?_
    refine j_bipush F (v := 9) dX10_cachePlace_16 (by decide) ?_
    refine j_iload_n F 2 dX10_cachePlace_18 rfl ?_
    refine j_imul F dX10_cachePlace_19 ?_
    refine j_top (nI (9 * k)) (pk_mul 9 _) ?_
    refine j_iload_n F 0 dX10_cachePlace_20 rfl ?_
    refine j_iadd F dX10_cachePlace_21 ?_
    refine j_top (nI (9 * k + i)) (nI_add _ _) ?_
    refine j_iald F 6 (9 * k + i) (f := ga 5) rfl rfl (by omega) (Nat.le_of_ble_eq_true rfl) dX10_cachePlace_22 ?_
    refine j_iload_n F 3 dX10_cachePlace_23 rfl ?_
    refine j_icmp_ne F 29 dX10_cachePlace_24 (by decide) (fun c_24 => ?_) (fun c_24 => ?_)
    · skip
      refine j_iinc F 0 (nI (i + 1)) [(3, .int (nI (i + 1))), (0, .ref (ad 0)), (1, .int (nI k)), (2, .int key)] dX10_cachePlace_29 rfl (nI_1 _) (by decide) rfl ?_
      refine j_goto F 2 dX10_cachePlace_32 (by decide) ?_
      exact ih (i + 1) ⟨by omega, fun j hj => by
          by_cases h : j = i
          · rw [h]; exact c_24
          · exact hno j (by omega)⟩ (by show n - (i + 1) < n - i; omega)
    · skip
      refine j_iload_n F 0 dX10_cachePlace_27 rfl ?_
      exact j_iret F ⟨by show some (Value.int (nI i)) = _; rw [fxI, fx_at (f := rwo (ga 5) (9 * k)) (show i < n by omega) hno c_24, if_pos (by omega)], rfl⟩ dX10_cachePlace_28 (Nat.le_of_ble_eq_true rfl) (Nat.le_of_ble_eq_true rfl)

set_option maxHeartbeats 4000000 in
set_option maxRecDepth 100000 in
theorem c_X10_leaves (l : Launch) (D : va_G) (ay : Nat → ClassId) (ad : Nat → Nat) (vi : Nat → Int32) (ga : Nat → Nat → Int32) (k : Nat) (n : Nat) (p : Nat) (hk : 1 ≤ k ∧ k ≤ 8) (hmn : ga 6 k = nI n) (hn : n ≤ 9) (hp : p < n) : jM l yX10_leaves (jws yX10_leaves cX10_leaves 4 none) 0 0 0 0 D ay [.ref (ad 0), .int (nI k), .int (nI p)] (mW ay ad vi ga) (fun v w => v = none ∧ w = (mW ay ad vi (ups (ups ga 5 (mrs (ga 5) (9 * k) p n)) 6 (upd (ga 6) k (nI (n - 1)))))) := by
  refine jM_of l (by decide) [(0, .ref (ad 0)), (1, .int (nI k)), (2, .int (nI p))] rfl rfl (fun p9 e9 s9 m9 a9 b9 me9 c9 A9 F => ?_)
  refine j_aload_n F 0 dX10_leaves_0 rfl ?_
  refine j_getf F fX10_39 0 (v := .ref (ad 7)) rfl rfl dX10_leaves_1 ?_
  refine j_iload_n F 1 dX10_leaves_4 rfl ?_
  refine j_dup2 F dX10_leaves_5 rfl rfl ?_
  refine j_iald F 7 k (f := ga 6) rfl rfl (by omega) (Nat.le_of_ble_eq_true rfl) dX10_leaves_6 ?_
  refine j_top (nI n) hmn ?_
  refine j_iconst F (v := 1) dX10_leaves_7 (by decide) ?_
  refine j_isub F dX10_leaves_8 ?_
  refine j_top (nI (n - 1)) (pk_sub (a := n) (b := 1) (by omega)) ?_
  refine j_iast F 7 (mW ay ad vi (ups ga 6 (upd (ga 6) k (nI (n - 1))))) k rfl rfl (by omega) (Nat.le_of_ble_eq_true rfl) rfl dX10_leaves_9 ?_
  refine j_iload_n F 2 dX10_leaves_10 rfl ?_
  refine j_istore_n F 3 [(3, .int (nI p)), (0, .ref (ad 0)), (1, .int (nI k)), (2, .int (nI p))] dX10_leaves_11 rfl (by decide) rfl ?_
  refine j_loop (σ := Nat) (fun i => p ≤ i ∧ i + 1 ≤ n) (fun i => n - i) (fun i => [(3, .int (nI i)), (0, .ref (ad 0)), (1, .int (nI k)), (2, .int (nI p))]) (fun i => (mW ay ad vi (ups (ups ga 5 (mrs (ga 5) (9 * k) p (i + 1))) 6 (upd (ga 6) k (nI (n - 1)))))) p ⟨Nat.le_refl _, by omega⟩ rfl (by rw [mrs_0]; rfl) (fun i hI ih => ?_)
  obtain ⟨hi, hi2⟩ := hI
  refine j_iload_n F 0 dX10_leaves_12 rfl ?_
  refine j_aload_n F 1 dX10_leaves_13 rfl ?_
  refine j_getf F fX10_39 0 (v := .ref (ad 7)) rfl rfl dX10_leaves_14 ?_
  refine j_iload_n F 2 dX10_leaves_17 rfl ?_
  refine j_iald F 7 k (f := upd (ga 6) k (nI (n - 1))) rfl rfl (by omega) (Nat.le_of_ble_eq_true rfl) dX10_leaves_18 ?_
  refine j_top (nI (n - 1)) upd_s ?_
  refine j_icmp_ge F 52 dX10_leaves_19 (by decide) (fun c_19 => ?_) (fun c_19 => ?_)
  · skip
    have n_19 := (n_le (n - 1) i rfl rfl (by omega) (by omega)).mp c_19
    exact j_vret F ⟨rfl, by rw [show i + 1 = n by omega]⟩ dX10_leaves_52 (Nat.le_of_ble_eq_true rfl) (Nat.le_of_ble_eq_true rfl)
  · skip
    have n_19 := mt (n_le (n - 1) i rfl rfl (by omega) (by omega)).mpr c_19
    refine j_aload_n F 1 dX10_leaves_22 rfl ?_
    refine j_getf F fX10_36 0 (v := .ref (ad 6)) rfl rfl dX10_leaves_23 ?_
    refine j_bipush F (v := 9) dX10_leaves_26 (by decide) ?_
    refine j_iload_n F 2 dX10_leaves_28 rfl ?_
    refine j_imul F dX10_leaves_29 ?_
    refine j_top (nI (9 * k)) (pk_mul 9 _) ?_
    refine j_iload_n F 0 dX10_leaves_30 rfl ?_
    refine j_iadd F dX10_leaves_31 ?_
    refine j_top (nI (9 * k + i)) (nI_add _ _) ?_
    refine j_aload_n F 1 dX10_leaves_32 rfl ?_
    refine j_getf F fX10_36 0 (v := .ref (ad 6)) rfl rfl dX10_leaves_33 ?_
    refine j_bipush F (v := 9) dX10_leaves_36 (by decide) ?_
    refine j_iload_n F 2 dX10_leaves_38 rfl ?_
    refine j_imul F dX10_leaves_39 ?_
    refine j_top (nI (9 * k)) (pk_mul 9 _) ?_
    refine j_iload_n F 0 dX10_leaves_40 rfl ?_
    refine j_iadd F dX10_leaves_41 ?_
    refine j_top (nI (9 * k + i)) (nI_add _ _) ?_
    refine j_iconst F (v := 1) dX10_leaves_42 (by decide) ?_
    refine j_iadd F dX10_leaves_43 ?_
    refine j_top (nI (9 * k + i + 1)) (nI_add _ _) ?_
    refine j_iald F 6 (9 * k + i + 1) (f := mrs (ga 5) (9 * k) p (i + 1)) rfl rfl (by omega) (Nat.le_of_ble_eq_true rfl) dX10_leaves_44 ?_
    refine j_iast F 6 (mW ay ad vi (ups (ups ga 5 (upd (mrs (ga 5) (9 * k) p (i + 1)) (9 * k + i) ((mrs (ga 5) (9 * k) p (i + 1)) (9 * k + i + 1)))) 6 (upd (ga 6) k (nI (n - 1))))) (9 * k + i) rfl rfl (by omega) (Nat.le_of_ble_eq_true rfl) rfl dX10_leaves_45 ?_
    refine j_ws (mW ay ad vi (ups (ups ga 5 (mrs (ga 5) (9 * k) p (i + 2))) 6 (upd (ga 6) k (nI (n - 1))))) (by rw [mrs_step hi]) ?_
    refine j_iinc F 0 (nI (i + 1)) [(3, .int (nI (i + 1))), (0, .ref (ad 0)), (1, .int (nI k)), (2, .int (nI p))] dX10_leaves_46 rfl (nI_1 _) (by decide) rfl ?_
    refine j_goto F 12 dX10_leaves_49 (by decide) ?_
    exact ih (i + 1) ⟨by omega, by omega⟩ (by show n - (i + 1) < n - i; omega)

