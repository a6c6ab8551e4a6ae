set_option maxHeartbeats 4000000 in
set_option maxRecDepth 100000 in
theorem c_X10_placeIn (l : Launch) (D : va_G) (ay : Nat → ClassId) (ad : Nat → Nat) (vi : Nat → Int32) (ga : Nat → Nat → Int32) (m : Nat) (n : Nat) (key : Int32) (hm : m < 2) (hmn : ga 2 m = nI n) (hn : n ≤ 101) : jM l yX10_placeIn (jws yX10_placeIn cX10_placeIn 4 (some .int)) 0 0 0 0 D ay [.ref (ad 0), .int (nI m), .int key] (mW ay ad vi ga) (fun v w => v = some (.int (fxI (rwo (ga 0) (101 * m)) key n)) ∧ w = (mW ay ad vi ga)) := by
  refine jM_of l (by decide) [(0, .ref (ad 0)), (1, .int (nI m)), (2, .int key)] rfl rfl (fun p9 e9 s9 m9 a9 b9 me9 c9 A9 F => ?_)
  refine j_iconst F (v := 0) dX10_placeIn_0 (by decide) ?_
  refine j_istore_n F 3 [(3, .int 0), (0, .ref (ad 0)), (1, .int (nI m)), (2, .int key)] dX10_placeIn_1 rfl (by decide) rfl ?_
  refine j_loop (σ := Nat) (fun i => i ≤ n ∧ ∀ j, j < i → rwo (ga 0) (101 * m) j ≠ key) (fun i => n - i) (fun i => [(3, .int (nI i)), (0, .ref (ad 0)), (1, .int (nI m)), (2, .int key)]) (fun _ => (mW ay ad vi ga)) 0 ⟨Nat.zero_le _, fun j h => absurd h (Nat.not_lt_zero j)⟩ rfl rfl (fun i hI ih => ?_)
  obtain ⟨hi, hno⟩ := hI
  refine j_iload_n F 0 dX10_placeIn_2 rfl ?_
  refine j_aload_n F 1 dX10_placeIn_3 rfl ?_
  refine j_getf F fX10_20 0 (v := .ref (ad 3)) rfl rfl dX10_placeIn_4 ?_
  refine j_iload_n F 2 dX10_placeIn_7 rfl ?_
  refine j_iald F 3 m (f := ga 2) rfl rfl (by omega) (Nat.le_of_ble_eq_true rfl) dX10_placeIn_8 ?_
  refine j_top (nI n) hmn ?_
  refine j_icmp_ge F 35 dX10_placeIn_9 (by decide) (fun c_9 => ?_) (fun c_9 => ?_)
  · skip
    have n_9 := (n_le n i rfl rfl (by omega) (by omega)).mp c_9
    refine j_iconst F (v := (-1)) dX10_placeIn_35 (by decide) ?_
    exact j_iret F ⟨by show some (Value.int (-1)) = _; rw [fxI, fx_none (f := rwo (ga 0) (101 * m)) (fun j hj => hno j (by omega)), if_neg (by omega)], rfl⟩ dX10_placeIn_36 (Nat.le_of_ble_eq_true rfl) (Nat.le_of_ble_eq_true rfl)
  · skip
    have n_9 := mt (n_le n i rfl rfl (by omega) (by omega)).mpr c_9
    refine j_aload_n F 1 dX10_placeIn_12 rfl ?_
    refine j_getf F fX10_13 0 (v := .ref (ad 1)) rfl rfl dX10_placeIn_13 ?_
    refine j_bipush F (v := 101) dX10_placeIn_16 (by decide) ?_
    refine j_iload_n F 2 dX10_placeIn_18 rfl ?_
    refine j_imul F dX10_placeIn_19 ?_
    refine j_top (nI (101 * m)) (pk_mul 101 _) ?_
    refine j_iload_n F 0 dX10_placeIn_20 rfl ?_
    refine j_iadd F dX10_placeIn_21 ?_
    refine j_top (nI (101 * m + i)) (nI_add _ _) ?_
    refine j_iald F 1 (101 * m + i) (f := ga 0) rfl rfl (by omega) (Nat.le_of_ble_eq_true rfl) dX10_placeIn_22 ?_
    refine j_iload_n F 3 dX10_placeIn_23 rfl ?_
    refine j_icmp_ne F 29 dX10_placeIn_24 (by decide) (fun c_24 => ?_) (fun c_24 => ?_)
    · skip
      refine j_iinc F 0 (nI (i + 1)) [(3, .int (nI (i + 1))), (0, .ref (ad 0)), (1, .int (nI m)), (2, .int key)] dX10_placeIn_29 rfl (nI_1 _) (by decide) rfl ?_
      refine j_goto F 2 dX10_placeIn_32 (by decide) ?_
      exact ih (i + 1) ⟨by omega, fun j hj => by
          by_cases h : j = i
          · rw [h]; exact c_24
          · exact hno j (by omega)⟩ (by show n - (i + 1) < n - i; omega)
    · skip
      refine j_iload_n F 0 dX10_placeIn_27 rfl ?_
      exact j_iret F ⟨by show some (Value.int (nI i)) = _; rw [fxI, fx_at (f := rwo (ga 0) (101 * m)) (show i < n by omega) hno c_24, if_pos (by omega)], rfl⟩ dX10_placeIn_28 (Nat.le_of_ble_eq_true rfl) (Nat.le_of_ble_eq_true rfl)

set_option maxHeartbeats 4000000 in
set_option maxRecDepth 100000 in
theorem c_X10_takes (l : Launch) (D : va_G) (ay : Nat → ClassId) (ad : Nat → Nat) (vi : Nat → Int32) (ga : Nat → Nat → Int32) (m : Nat) (n : Nat) (p : Nat) (hm : m < 2) (hmn : ga 2 m = nI n) (hn : n ≤ 101) (hp : p < n) : jM l yX10_takes (jws yX10_takes cX10_takes 5 (some .int)) 0 0 0 0 D ay [.ref (ad 0), .int (nI m), .int (nI p)] (mW ay ad vi ga) (fun v w => v = some (.int (ga 1 (101 * m + p))) ∧ w = (mW ay ad vi (ups (ups (ups ga 0 (mrs (ga 0) (101 * m) p n)) 1 (mrs (ga 1) (101 * m) p n)) 2 (upd (ga 2) m (nI (n - 1)))))) := by
  refine jM_of l (by decide) [(0, .ref (ad 0)), (1, .int (nI m)), (2, .int (nI p))] rfl rfl (fun p9 e9 s9 m9 a9 b9 me9 c9 A9 F => ?_)
  refine j_aload_n F 0 dX10_takes_0 rfl ?_
  refine j_getf F fX10_17 0 (v := .ref (ad 2)) rfl rfl dX10_takes_1 ?_
  refine j_bipush F (v := 101) dX10_takes_4 (by decide) ?_
  refine j_iload_n F 1 dX10_takes_6 rfl ?_
  refine j_imul F dX10_takes_7 ?_
  refine j_top (nI (101 * m)) (pk_mul 101 _) ?_
  refine j_iload_n F 2 dX10_takes_8 rfl ?_
  refine j_iadd F dX10_takes_9 ?_
  refine j_top (nI (101 * m + p)) (nI_add _ _) ?_
  refine j_iald F 2 (101 * m + p) (f := ga 1) rfl rfl (by omega) (Nat.le_of_ble_eq_true rfl) dX10_takes_10 ?_
  refine j_istore_n F 3 [(3, .int ((ga 1) (101 * m + p))), (0, .ref (ad 0)), (1, .int (nI m)), (2, .int (nI p))] dX10_takes_11 rfl (by decide) rfl ?_
  refine j_aload_n F 1 dX10_takes_12 rfl ?_
  refine j_getf F fX10_20 0 (v := .ref (ad 3)) rfl rfl dX10_takes_13 ?_
  refine j_iload_n F 2 dX10_takes_16 rfl ?_
  refine j_dup2 F dX10_takes_17 rfl rfl ?_
  refine j_iald F 3 m (f := ga 2) rfl rfl (by omega) (Nat.le_of_ble_eq_true rfl) dX10_takes_18 ?_
  refine j_top (nI n) hmn ?_
  refine j_iconst F (v := 1) dX10_takes_19 (by decide) ?_
  refine j_isub F dX10_takes_20 ?_
  refine j_top (nI (n - 1)) (pk_sub (a := n) (b := 1) (by omega)) ?_
  refine j_iast F 3 (mW ay ad vi (ups ga 2 (upd (ga 2) m (nI (n - 1))))) m rfl rfl (by omega) (Nat.le_of_ble_eq_true rfl) rfl dX10_takes_21 ?_
  refine j_iload_n F 3 dX10_takes_22 rfl ?_
  refine j_istore F 4 [(4, .int (nI p)), (3, .int ((ga 1) (101 * m + p))), (0, .ref (ad 0)), (1, .int (nI m)), (2, .int (nI p))] dX10_takes_23 (by decide) rfl ?_
  refine j_loop (σ := Nat) (fun i => p ≤ i ∧ i + 1 ≤ n) (fun i => n - i) (fun i => [(4, .int (nI i)), (3, .int (ga 1 (101 * m + p))), (0, .ref (ad 0)), (1, .int (nI m)), (2, .int (nI p))]) (fun i => (mW ay ad vi (ups (ups (ups ga 0 (mrs (ga 0) (101 * m) p (i + 1))) 1 (mrs (ga 1) (101 * m) p (i + 1))) 2 (upd (ga 2) m (nI (n - 1)))))) p ⟨Nat.le_refl _, by omega⟩ rfl (by rw [mrs_0, mrs_0]; rfl) (fun i hI ih => ?_)
  obtain ⟨hi, hi2⟩ := hI
  refine j_iload F 0 dX10_takes_25 rfl ?_
  refine j_aload_n F 2 dX10_takes_27 rfl ?_
  refine j_getf F fX10_20 0 (v := .ref (ad 3)) rfl rfl dX10_takes_28 ?_
  refine j_iload_n F 3 dX10_takes_31 rfl ?_
  refine j_iald F 3 m (f := upd (ga 2) m (nI (n - 1))) rfl rfl (by omega) (Nat.le_of_ble_eq_true rfl) dX10_takes_32 ?_
  refine j_top (nI (n - 1)) upd_s ?_
  refine j_icmp_ge F 94 dX10_takes_33 (by decide) (fun c_33 => ?_) (fun c_33 => ?_)
  · skip
    have n_33 := (n_le (n - 1) i rfl rfl (by omega) (by omega)).mp c_33
    refine j_iload_n F 1 dX10_takes_94 rfl ?_
    exact j_iret F ⟨rfl, by rw [show i + 1 = n by omega]⟩ dX10_takes_95 (Nat.le_of_ble_eq_true rfl) (Nat.le_of_ble_eq_true rfl)
  · skip
    have n_33 := mt (n_le (n - 1) i rfl rfl (by omega) (by omega)).mpr c_33
    refine j_aload_n F 2 dX10_takes_36 rfl ?_
    refine j_getf F fX10_13 0 (v := .ref (ad 1)) rfl rfl dX10_takes_37 ?_
    refine j_bipush F (v := 101) dX10_takes_40 (by decide) ?_
    refine j_iload_n F 3 dX10_takes_42 rfl ?_
    refine j_imul F dX10_takes_43 ?_
    refine j_top (nI (101 * m)) (pk_mul 101 _) ?_
    refine j_iload F 0 dX10_takes_44 rfl ?_
    refine j_iadd F dX10_takes_46 ?_
    refine j_top (nI (101 * m + i)) (nI_add _ _) ?_
    refine j_aload_n F 2 dX10_takes_47 rfl ?_
    refine j_getf F fX10_13 0 (v := .ref (ad 1)) rfl rfl dX10_takes_48 ?_
    refine j_bipush F (v := 101) dX10_takes_51 (by decide) ?_
    refine j_iload_n F 3 dX10_takes_53 rfl ?_
    refine j_imul F dX10_takes_54 ?_
    refine j_top (nI (101 * m)) (pk_mul 101 _) ?_
    refine j_iload F 0 dX10_takes_55 rfl ?_
    refine j_iadd F dX10_takes_57 ?_
    refine j_top (nI (101 * m + i)) (nI_add _ _) ?_
    refine j_iconst F (v := 1) dX10_takes_58 (by decide) ?_
    refine j_iadd F dX10_takes_59 ?_
    refine j_top (nI (101 * m + i + 1)) (nI_add _ _) ?_
    refine j_iald F 1 (101 * m + i + 1) (f := mrs (ga 0) (101 * m) p (i + 1)) rfl rfl (by omega) (Nat.le_of_ble_eq_true rfl) dX10_takes_60 ?_
    refine j_iast F 1 (mW ay ad vi (ups (ups (ups ga 0 (upd (mrs (ga 0) (101 * m) p (i + 1)) (101 * m + i) ((mrs (ga 0) (101 * m) p (i + 1)) (101 * m + i + 1)))) 1 (mrs (ga 1) (101 * m) p (i + 1))) 2 (upd (ga 2) m (nI (n - 1))))) (101 * m + i) rfl rfl (by omega) (Nat.le_of_ble_eq_true rfl) rfl dX10_takes_61 ?_
    refine j_ws (mW ay ad vi (ups (ups (ups ga 0 (mrs (ga 0) (101 * m) p (i + 2))) 1 (mrs (ga 1) (101 * m) p (i + 1))) 2 (upd (ga 2) m (nI (n - 1))))) (by rw [mrs_step hi]) ?_
    refine j_aload_n F 2 dX10_takes_62 rfl ?_
    refine j_getf F fX10_17 0 (v := .ref (ad 2)) rfl rfl dX10_takes_63 ?_
    refine j_bipush F (v := 101) dX10_takes_66 (by decide) ?_
    refine j_iload_n F 3 dX10_takes_68 rfl ?_
    refine j_imul F dX10_takes_69 ?_
    refine j_top (nI (101 * m)) (pk_mul 101 _) ?_
    refine j_iload F 0 dX10_takes_70 rfl ?_
    refine j_iadd F dX10_takes_72 ?_
    refine j_top (nI (101 * m + i)) (nI_add _ _) ?_
    refine j_aload_n F 2 dX10_takes_73 rfl ?_
    refine j_getf F fX10_17 0 (v := .ref (ad 2)) rfl rfl dX10_takes_74 ?_
    refine j_bipush F (v := 101) dX10_takes_77 (by decide) ?_
    refine j_iload_n F 3 dX10_takes_79 rfl ?_
    refine j_imul F dX10_takes_80 ?_
    refine j_top (nI (101 * m)) (pk_mul 101 _) ?_
    refine j_iload F 0 dX10_takes_81 rfl ?_
    refine j_iadd F dX10_takes_83 ?_
    refine j_top (nI (101 * m + i)) (nI_add _ _) ?_
    refine j_iconst F (v := 1) dX10_takes_84 (by decide) ?_
    refine j_iadd F dX10_takes_85 ?_
    refine j_top (nI (101 * m + i + 1)) (nI_add _ _) ?_
    refine j_iald F 2 (101 * m + i + 1) (f := mrs (ga 1) (101 * m) p (i + 1)) rfl rfl (by omega) (Nat.le_of_ble_eq_true rfl) dX10_takes_86 ?_
    refine j_iast F 2 (mW ay ad vi (ups (ups (ups ga 0 (mrs (ga 0) (101 * m) p (i + 2))) 1 (upd (mrs (ga 1) (101 * m) p (i + 1)) (101 * m + i) ((mrs (ga 1) (101 * m) p (i + 1)) (101 * m + i + 1)))) 2 (upd (ga 2) m (nI (n - 1))))) (101 * m + i) rfl rfl (by omega) (Nat.le_of_ble_eq_true rfl) rfl dX10_takes_87 ?_
    refine j_ws (mW ay ad vi (ups (ups (ups ga 0 (mrs (ga 0) (101 * m) p (i + 2))) 1 (mrs (ga 1) (101 * m) p (i + 2))) 2 (upd (ga 2) m (nI (n - 1))))) (by rw [mrs_step hi]) ?_
    refine j_iinc F 0 (nI (i + 1)) [(4, .int (nI (i + 1))), (3, .int (ga 1 (101 * m + p))), (0, .ref (ad 0)), (1, .int (nI m)), (2, .int (nI p))] dX10_takes_88 rfl (nI_1 _) (by decide) rfl ?_
    refine j_goto F 25 dX10_takes_91 (by decide) ?_
    exact ih (i + 1) ⟨by omega, by omega⟩ (by show n - (i + 1) < n - i; omega)

set_option maxHeartbeats 4000000 in
set_option maxRecDepth 100000 in
theorem c_X10_ends (l : Launch) (D : va_G) (ay : Nat → ClassId) (ad : Nat → Nat) (vi : Nat → Int32) (ga : Nat → Nat → Int32) (m : Nat) (hm : m < 2) : jM l yX10_ends (jws yX10_ends cX10_ends 2 none) 0 0 0 0 D ay [.ref (ad 0), .int (nI m)] (mW ay ad vi ga) (fun v w => v = none ∧ w = (mW ay ad vi (ups (ups ga 3 (upd (ga 3) m (-1))) 4 (upd (ga 4) m 0)))) := by
  refine jM_of l (by decide) [(0, .ref (ad 0)), (1, .int (nI m))] rfl rfl (fun p9 e9 s9 m9 a9 b9 me9 c9 A9 F => ?_)
  refine j_aload_n F 0 dX10_ends_0 rfl ?_
  refine j_getf F fX10_29 0 (v := .ref (ad 4)) rfl rfl dX10_ends_1 ?_
  refine j_iload_n F 1 dX10_ends_4 rfl ?_
  refine j_iconst F (v := (-1)) dX10_ends_5 (by decide) ?_
  refine j_iast F 4 (mW ay ad vi (ups ga 3 (upd (ga 3) m (-1)))) m rfl rfl (by omega) (Nat.le_of_ble_eq_true rfl) rfl dX10_ends_6 ?_
  refine j_aload_n F 0 dX10_ends_7 rfl ?_
  refine j_getf F fX10_32 0 (v := .ref (ad 5)) rfl rfl dX10_ends_8 ?_
  refine j_iload_n F 1 dX10_ends_11 rfl ?_
  refine j_iconst F (v := 0) dX10_ends_12 (by decide) ?_
  refine j_zast F 5 (mW ay ad vi (ups (ups ga 3 (upd (ga 3) m (-1))) 4 (upd (ga 4) m 0))) m rfl rfl (by omega) (Nat.le_of_ble_eq_true rfl) rfl rfl dX10_ends_13 ?_
  exact j_vret F ⟨rfl, rfl⟩ dX10_ends_14 (Nat.le_of_ble_eq_true rfl) (Nat.le_of_ble_eq_true rfl)

set_option maxHeartbeats 4000000 in
set_option maxRecDepth 100000 in
theorem c_X10_comes_keep (l : Launch) (D : va_G) (ay : Nat → ClassId) (ad : Nat → Nat) (vi : Nat → Int32) (ga : Nat → Nat → Int32) (m : Nat) (n : Nat) (b : Nat) (key : Int32) (x : Int32) (hm : m < 2) (hmn : ga 2 m = nI n) (hn : n ≤ 100) (hvb : vi 4 = nI b) (hb : b ≤ 100 ∧ (m = 0 ∨ n + 1 ≤ b)) : jM l yX10_comes (jws yX10_comes cX10_comes 4 none) 1 24 0 0 D ay [.ref (ad 0), .int (nI m), .int key, .int x] (mW ay ad vi ga) (fun v w => v = none ∧ w = (mW ay ad vi (ups (ups (ups ga 0 (upd (ga 0) (101 * m + n) key)) 1 (upd (ga 1) (101 * m + n) x)) 2 (upd (ga 2) m (nI (n + 1)))))) := by
  refine jM_of l (by decide) [(0, .ref (ad 0)), (1, .int (nI m)), (2, .int key), (3, .int x)] rfl rfl (fun p9 e9 s9 m9 a9 b9 me9 c9 A9 F => ?_)
  refine j_aload_n F 0 dX10_comes_0 rfl ?_
  refine j_getf F fX10_13 0 (v := .ref (ad 1)) rfl rfl dX10_comes_1 ?_
  refine j_bipush F (v := 101) dX10_comes_4 (by decide) ?_
  refine j_iload_n F 1 dX10_comes_6 rfl ?_
  refine j_imul F dX10_comes_7 ?_
  refine j_top (nI (101 * m)) (pk_mul 101 _) ?_
  refine j_aload_n F 0 dX10_comes_8 rfl ?_
  refine j_getf F fX10_20 0 (v := .ref (ad 3)) rfl rfl dX10_comes_9 ?_
  refine j_iload_n F 1 dX10_comes_12 rfl ?_
  refine j_iald F 3 m (f := ga 2) rfl rfl (by omega) (Nat.le_of_ble_eq_true rfl) dX10_comes_13 ?_
  refine j_top (nI n) hmn ?_
  refine j_iadd F dX10_comes_14 ?_
  refine j_top (nI (101 * m + n)) (nI_add _ _) ?_
  refine j_iload_n F 2 dX10_comes_15 rfl ?_
  refine j_iast F 1 (mW ay ad vi (ups ga 0 (upd (ga 0) (101 * m + n) key))) (101 * m + n) rfl rfl (by omega) (Nat.le_of_ble_eq_true rfl) rfl dX10_comes_16 ?_
  refine j_aload_n F 0 dX10_comes_17 rfl ?_
  refine j_getf F fX10_17 0 (v := .ref (ad 2)) rfl rfl dX10_comes_18 ?_
  refine j_bipush F (v := 101) dX10_comes_21 (by decide) ?_
  refine j_iload_n F 1 dX10_comes_23 rfl ?_
  refine j_imul F dX10_comes_24 ?_
  refine j_top (nI (101 * m)) (pk_mul 101 _) ?_
  refine j_aload_n F 0 dX10_comes_25 rfl ?_
  refine j_getf F fX10_20 0 (v := .ref (ad 3)) rfl rfl dX10_comes_26 ?_
  refine j_iload_n F 1 dX10_comes_29 rfl ?_
  refine j_iald F 3 m (f := ga 2) rfl rfl (by omega) (Nat.le_of_ble_eq_true rfl) dX10_comes_30 ?_
  refine j_top (nI n) hmn ?_
  refine j_iadd F dX10_comes_31 ?_
  refine j_top (nI (101 * m + n)) (nI_add _ _) ?_
  refine j_iload_n F 3 dX10_comes_32 rfl ?_
  refine j_iast F 2 (mW ay ad vi (ups (ups ga 0 (upd (ga 0) (101 * m + n) key)) 1 (upd (ga 1) (101 * m + n) x))) (101 * m + n) rfl rfl (by omega) (Nat.le_of_ble_eq_true rfl) rfl dX10_comes_33 ?_
  refine j_aload_n F 0 dX10_comes_34 rfl ?_
  refine j_getf F fX10_20 0 (v := .ref (ad 3)) rfl rfl dX10_comes_35 ?_
  refine j_iload_n F 1 dX10_comes_38 rfl ?_
  refine j_dup2 F dX10_comes_39 rfl rfl ?_
  refine j_iald F 3 m (f := ga 2) rfl rfl (by omega) (Nat.le_of_ble_eq_true rfl) dX10_comes_40 ?_
  refine j_top (nI n) hmn ?_
  refine j_iconst F (v := 1) dX10_comes_41 (by decide) ?_
  refine j_iadd F dX10_comes_42 ?_
  refine j_top (nI (n + 1)) (nI_add _ _) ?_
  refine j_iast F 3 (mW ay ad vi (ups (ups (ups ga 0 (upd (ga 0) (101 * m + n) key)) 1 (upd (ga 1) (101 * m + n) x)) 2 (upd (ga 2) m (nI (n + 1))))) m rfl rfl (by omega) (Nat.le_of_ble_eq_true rfl) rfl dX10_comes_43 ?_
  refine j_iload_n F 1 dX10_comes_44 rfl ?_
  refine j_if_eq F 61 dX10_comes_45 (by decide) (fun c_45 => ?_) (fun c_45 => ?_)
  · skip
    have n_45 := (n_eq m 0 rfl rfl (by omega) (by omega)).mp c_45
    exact j_vret F ⟨rfl, rfl⟩ dX10_comes_61 (Nat.le_of_ble_eq_true rfl) (Nat.le_of_ble_eq_true rfl)
  · skip
    have n_45 := mt (n_eq m 0 rfl rfl (by omega) (by omega)).mpr c_45
    obtain rfl : m = 1 := by omega
    refine j_aload_n F 0 dX10_comes_48 rfl ?_
    refine j_getf F fX10_20 0 (v := .ref (ad 3)) rfl rfl dX10_comes_49 ?_
    refine j_iconst F (v := 1) dX10_comes_52 (by decide) ?_
    refine j_iald F 3 1 (f := upd (ga 2) 1 (nI (n + 1))) rfl rfl (by omega) (Nat.le_of_ble_eq_true rfl) dX10_comes_53 ?_
    refine j_top (nI (n + 1)) upd_s ?_
    refine j_aload_n F 0 dX10_comes_54 rfl ?_
    refine j_getf F fX10_23 0 (v := .int (vi 4)) rfl rfl dX10_comes_55 ?_
    refine j_top (nI b) hvb ?_
    refine j_icmp_gt F 62 dX10_comes_58 (by decide) (fun c_58 => ?_) (fun c_58 => ?_)
    · skip
      have n_58 := (n_lt b (n + 1) rfl rfl (by omega) (by omega)).mp c_58
      exact absurd n_58 (by omega)
    · skip
      have n_58 := mt (n_lt b (n + 1) rfl rfl (by omega) (by omega)).mpr c_58
      exact j_vret F ⟨rfl, rfl⟩ dX10_comes_61 (Nat.le_of_ble_eq_true rfl) (Nat.le_of_ble_eq_true rfl)

set_option maxHeartbeats 4000000 in
set_option maxRecDepth 100000 in
theorem c_X10_comes_out (l : Launch) (D : va_G) (ay : Nat → ClassId) (ad : Nat → Nat) (vi : Nat → Int32) (ga : Nat → Nat → Int32) (m : Nat) (n : Nat) (b : Nat) (key : Int32) (x : Int32) (h1 : m = 1) (hmn : ga 2 m = nI n) (hn : n ≤ 100) (hvb : vi 4 = nI b) (hb : b ≤ 100 ∧ b < n + 1) : jM l yX10_comes (jws yX10_comes cX10_comes 4 none) 1 24 0 0 D ay [.ref (ad 0), .int (nI m), .int key, .int x] (mW ay ad vi ga) (fun v w => v = none ∧ w = (mW ay ad (ups (ups vi 5 (vi 5 + 1)) 6 (upd (ga 0) (101 * m + n) key 101)) (ups (ups (ups ga 0 (mrs (upd (ga 0) (101 * m + n) key) (101 * m) 0 (n + 1))) 1 (mrs (upd (ga 1) (101 * m + n) x) (101 * m) 0 (n + 1))) 2 (upd (upd (ga 2) m (nI (n + 1))) m (nI (n + 1 - 1)))))) := by
  refine jM_of l (by decide) [(0, .ref (ad 0)), (1, .int (nI m)), (2, .int key), (3, .int x)] rfl rfl (fun p9 e9 s9 m9 a9 b9 me9 c9 A9 F => ?_)
  subst h1
  refine j_aload_n F 0 dX10_comes_0 rfl ?_
  refine j_getf F fX10_13 0 (v := .ref (ad 1)) rfl rfl dX10_comes_1 ?_
  refine j_bipush F (v := 101) dX10_comes_4 (by decide) ?_
  refine j_iload_n F 1 dX10_comes_6 rfl ?_
  refine j_imul F dX10_comes_7 ?_
  refine j_top (nI (101 * 1)) (pk_mul 101 _) ?_
  refine j_aload_n F 0 dX10_comes_8 rfl ?_
  refine j_getf F fX10_20 0 (v := .ref (ad 3)) rfl rfl dX10_comes_9 ?_
  refine j_iload_n F 1 dX10_comes_12 rfl ?_
  refine j_iald F 3 1 (f := ga 2) rfl rfl (by omega) (Nat.le_of_ble_eq_true rfl) dX10_comes_13 ?_
  refine j_top (nI n) hmn ?_
  refine j_iadd F dX10_comes_14 ?_
  refine j_top (nI (101 * 1 + n)) (nI_add _ _) ?_
  refine j_iload_n F 2 dX10_comes_15 rfl ?_
  refine j_iast F 1 (mW ay ad vi (ups ga 0 (upd (ga 0) (101 * 1 + n) key))) (101 * 1 + n) rfl rfl (by omega) (Nat.le_of_ble_eq_true rfl) rfl dX10_comes_16 ?_
  refine j_aload_n F 0 dX10_comes_17 rfl ?_
  refine j_getf F fX10_17 0 (v := .ref (ad 2)) rfl rfl dX10_comes_18 ?_
  refine j_bipush F (v := 101) dX10_comes_21 (by decide) ?_
  refine j_iload_n F 1 dX10_comes_23 rfl ?_
  refine j_imul F dX10_comes_24 ?_
  refine j_top (nI (101 * 1)) (pk_mul 101 _) ?_
  refine j_aload_n F 0 dX10_comes_25 rfl ?_
  refine j_getf F fX10_20 0 (v := .ref (ad 3)) rfl rfl dX10_comes_26 ?_
  refine j_iload_n F 1 dX10_comes_29 rfl ?_
  refine j_iald F 3 1 (f := ga 2) rfl rfl (by omega) (Nat.le_of_ble_eq_true rfl) dX10_comes_30 ?_
  refine j_top (nI n) hmn ?_
  refine j_iadd F dX10_comes_31 ?_
  refine j_top (nI (101 * 1 + n)) (nI_add _ _) ?_
  refine j_iload_n F 3 dX10_comes_32 rfl ?_
  refine j_iast F 2 (mW ay ad vi (ups (ups ga 0 (upd (ga 0) (101 * 1 + n) key)) 1 (upd (ga 1) (101 * 1 + n) x))) (101 * 1 + n) rfl rfl (by omega) (Nat.le_of_ble_eq_true rfl) rfl dX10_comes_33 ?_
  refine j_aload_n F 0 dX10_comes_34 rfl ?_
  refine j_getf F fX10_20 0 (v := .ref (ad 3)) rfl rfl dX10_comes_35 ?_
  refine j_iload_n F 1 dX10_comes_38 rfl ?_
  refine j_dup2 F dX10_comes_39 rfl rfl ?_
  refine j_iald F 3 1 (f := ga 2) rfl rfl (by omega) (Nat.le_of_ble_eq_true rfl) dX10_comes_40 ?_
  refine j_top (nI n) hmn ?_
  refine j_iconst F (v := 1) dX10_comes_41 (by decide) ?_
  refine j_iadd F dX10_comes_42 ?_
  refine j_top (nI (n + 1)) (nI_add _ _) ?_
  refine j_iast F 3 (mW ay ad vi (ups (ups (ups ga 0 (upd (ga 0) (101 * 1 + n) key)) 1 (upd (ga 1) (101 * 1 + n) x)) 2 (upd (ga 2) 1 (nI (n + 1))))) 1 rfl rfl (by omega) (Nat.le_of_ble_eq_true rfl) rfl dX10_comes_43 ?_
  refine j_iload_n F 1 dX10_comes_44 rfl ?_
  refine j_if_eq F 61 dX10_comes_45 (by decide) (fun c_45 => absurd c_45 (by decide)) (fun c_45 => ?_)
  refine j_aload_n F 0 dX10_comes_48 rfl ?_
  refine j_getf F fX10_20 0 (v := .ref (ad 3)) rfl rfl dX10_comes_49 ?_
  refine j_iconst F (v := 1) dX10_comes_52 (by decide) ?_
  refine j_iald F 3 1 (f := upd (ga 2) 1 (nI (n + 1))) rfl rfl (by omega) (Nat.le_of_ble_eq_true rfl) dX10_comes_53 ?_
  refine j_top (nI (n + 1)) upd_s ?_
  refine j_aload_n F 0 dX10_comes_54 rfl ?_
  refine j_getf F fX10_23 0 (v := .int (vi 4)) rfl rfl dX10_comes_55 ?_
  refine j_top (nI b) hvb ?_
  refine j_icmp_gt F 62 dX10_comes_58 (by decide) (fun c_58 => ?_) (fun c_58 => ?_)
  · skip
    have n_58 := (n_lt b (n + 1) rfl rfl (by omega) (by omega)).mp c_58
    refine j_aload_n F 0 dX10_comes_62 rfl ?_
    refine j_dup F dX10_comes_63 rfl ?_
    refine j_getf F fX10_96 0 (v := .int (vi 5)) rfl rfl dX10_comes_64 ?_
    refine j_iconst F (v := 1) dX10_comes_67 (by decide) ?_
    refine j_iadd F dX10_comes_68 ?_
    refine j_putf F fX10_96 0 (mW ay ad (ups vi 5 (vi 5 + 1)) (ups (ups (ups ga 0 (upd (ga 0) (101 * 1 + n) key)) 1 (upd (ga 1) (101 * 1 + n) x)) 2 (upd (ga 2) 1 (nI (n + 1))))) rfl rfl rfl rfl rfl (Nat.le_of_ble_eq_true rfl) dX10_comes_69 ?_
    refine j_aload_n F 0 dX10_comes_72 rfl ?_
    refine j_aload_n F 0 dX10_comes_73 rfl ?_
    refine j_getf F fX10_13 0 (v := .ref (ad 1)) rfl rfl dX10_comes_74 ?_
    refine j_bipush F (v := 101) dX10_comes_77 (by decide) ?_
    refine j_iald F 1 101 (f := upd (ga 0) (101 * 1 + n) key) rfl rfl (by omega) (Nat.le_of_ble_eq_true rfl) dX10_comes_79 ?_
    refine j_putf F fX10_26 0 (mW ay ad (ups (ups vi 5 (vi 5 + 1)) 6 ((upd (ga 0) (101 * 1 + n) key) 101)) (ups (ups (ups ga 0 (upd (ga 0) (101 * 1 + n) key)) 1 (upd (ga 1) (101 * 1 + n) x)) 2 (upd (ga 2) 1 (nI (n + 1))))) rfl rfl rfl rfl rfl (Nat.le_of_ble_eq_true rfl) dX10_comes_80 ?_
    refine j_aload_n F 0 dX10_comes_83 rfl ?_
    refine j_iconst F (v := 1) dX10_comes_84 (by decide) ?_
    refine j_iconst F (v := 0) dX10_comes_85 (by decide) ?_
    refine j_scallV F kX10_99 (As := [.int 1, .int 0]) (rest := []) (c_X10_takes l D ay ad (ups (ups vi 5 (vi 5 + 1)) 6 ((upd (ga 0) (101 * 1 + n) key) 101)) (ups (ups (ups ga 0 (upd (ga 0) (101 * 1 + n) key)) 1 (upd (ga 1) (101 * 1 + n) x)) 2 (upd (ga 2) 1 (nI (n + 1)))) 1 (n + 1) 0 (show 1 < 2 from by decide) (show (upd (ga 2) 1 (nI (n + 1))) 1 = nI (n + 1) from upd_s) (show (n + 1) ≤ 101 from by omega) (show 0 < (n + 1) from by omega)) 0 0 20 rfl rfl rfl rfl rfl rfl ⟨Nat.le_of_ble_eq_true rfl, Nat.le_of_ble_eq_true rfl⟩ dX10_comes_86 (fun v w hw => ?_)
    obtain ⟨rfl, rfl⟩ := hw
    refine ⟨rfl, (mW ay ad (ups (ups vi 5 (vi 5 + 1)) 6 ((upd (ga 0) (101 * 1 + n) key) 101)) (ups (ups (ups ga 0 (mrs ((upd (ga 0) (101 * 1 + n) key)) (101 * 1) 0 (n + 1))) 1 (mrs ((upd (ga 1) (101 * 1 + n) x)) (101 * 1) 0 (n + 1))) 2 (upd ((upd (ga 2) 1 (nI (n + 1)))) 1 (nI ((n + 1) - 1))))), (slp_all _ _ rfl).trans rfl, ?_⟩
    refine j_top ((upd (ga 1) (101 * 1 + n) x) (101 * 1 + 0)) rfl ?_
    refine j_pop F dX10_comes_89 rfl ?_
    exact j_vret F ⟨rfl, rfl⟩ dX10_comes_90 (Nat.le_of_ble_eq_true rfl) (Nat.le_of_ble_eq_true rfl)
  · skip
    have n_58 := mt (n_lt b (n + 1) rfl rfl (by omega) (by omega)).mpr c_58
    exact absurd n_58 (by omega)

