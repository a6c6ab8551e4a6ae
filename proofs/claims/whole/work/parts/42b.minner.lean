set_option maxHeartbeats 4000000 in
set_option maxRecDepth 100000 in
theorem c_X10_pagePlace (l : Launch) (D : va_G) (ay : Nat → ClassId) (ad : Nat → Nat) (vi : Nat → Int32) (ga : Nat → Nat → Int32) (n : Nat) (key : Int32) (h32 : vi 32 = nI n) (hn : n ≤ 9) : jM l yX10_pagePlace (jws yX10_pagePlace cX10_pagePlace 3 (some .int)) 0 0 0 0 D ay [.ref (ad 0), .int key] (mW ay ad vi ga) (fun v w => v = some (.int (fxI (ga 17) key n)) ∧ w = (mW ay ad vi ga)) := by
  refine jM_of l (by decide) [(0, .ref (ad 0)), (1, .int key)] rfl rfl (fun p9 e9 s9 m9 a9 b9 me9 c9 A9 F => ?_)
  refine j_iconst F (v := 0) dX10_pagePlace_0 (by decide) ?_
  refine j_istore_n F 2 [(2, .int 0), (0, .ref (ad 0)), (1, .int key)] dX10_pagePlace_1 rfl (by decide) rfl ?_
  refine j_loop (σ := Nat) (fun i => i ≤ n ∧ ∀ j, j < i → ga 17 j ≠ key) (fun i => n - i) (fun i => [(2, .int (nI i)), (0, .ref (ad 0)), (1, .int key)]) (fun _ => (mW ay ad vi ga)) 0 ⟨Nat.zero_le _, fun j h => absurd h (Nat.not_lt_zero j)⟩ rfl rfl (fun i hI ih => ?_)
  obtain ⟨hi, hno⟩ := hI
  refine j_iload_n F 0 dX10_pagePlace_2 rfl ?_
  refine j_aload_n F 1 dX10_pagePlace_3 rfl ?_
  refine j_getf F fX10_203 0 (v := .int (vi 32)) rfl rfl dX10_pagePlace_4 ?_
  refine j_top (nI n) h32 ?_
  refine j_icmp_ge F 28 dX10_pagePlace_7 (by decide) (fun c_7 => ?_) (fun c_7 => ?_)
  · skip
    have n_7 := (n_le n i rfl rfl (by omega) (by omega)).mp c_7
    refine j_iconst F (v := (-1)) dX10_pagePlace_28 (by decide) ?_
    exact j_iret F ⟨by show some (Value.int (-1)) = _; rw [fxI, fx_none (f := ga 17) (fun j hj => hno j (by omega)), if_neg (by omega)], rfl⟩ dX10_pagePlace_29 (Nat.le_of_ble_eq_true rfl) (Nat.le_of_ble_eq_true rfl)
  · skip
    have n_7 := mt (n_le n i rfl rfl (by omega) (by omega)).mpr c_7
    refine j_aload_n F 1 dX10_pagePlace_10 rfl ?_
    refine j_getf F fX10_75 0 (v := .ref (ad 18)) rfl rfl dX10_pagePlace_11 ?_
    refine j_iload_n F 0 dX10_pagePlace_14 rfl ?_
    refine j_iald F 18 i (f := ga 17) rfl rfl (by omega) (Nat.le_of_ble_eq_true rfl) dX10_pagePlace_15 ?_
    refine j_iload_n F 2 dX10_pagePlace_16 rfl ?_
    refine j_icmp_ne F 22 dX10_pagePlace_17 (by decide) (fun c_17 => ?_) (fun c_17 => ?_)
    · skip
      refine j_iinc F 0 (nI (i + 1)) [(2, .int (nI (i + 1))), (0, .ref (ad 0)), (1, .int key)] dX10_pagePlace_22 rfl (nI_1 _) (by decide) rfl ?_
      refine j_goto F 2 dX10_pagePlace_25 (by decide) ?_
      exact ih (i + 1) ⟨by omega, fun j hj => by
          by_cases h : j = i
          · rw [h]; exact c_17
          · exact hno j (by omega)⟩ (by show n - (i + 1) < n - i; omega)
    · skip
      refine j_iload_n F 0 dX10_pagePlace_20 rfl ?_
      exact j_iret F ⟨by show some (Value.int (nI i)) = _; rw [fxI, fx_at (f := ga 17) (show i < n by omega) hno c_17, if_pos (by omega)], rfl⟩ dX10_pagePlace_21 (Nat.le_of_ble_eq_true rfl) (Nat.le_of_ble_eq_true rfl)

set_option maxHeartbeats 4000000 in
set_option maxRecDepth 100000 in
theorem c_X10_out (l : Launch) (D : va_G) (ay : Nat → ClassId) (ad : Nat → Nat) (vi : Nat → Int32) (ga : Nat → Nat → Int32) (n : Nat) (p : Nat) (h32 : vi 32 = nI n) (hn : n ≤ 9) (hp : p < n) : jM l yX10_out (jws yX10_out cX10_out 3 none) 0 0 0 0 D ay [.ref (ad 0), .int (nI p)] (mW ay ad vi ga) (fun v w => v = none ∧ w = (mW ay ad (ups vi 32 (nI (n - 1))) (ups ga 17 (shf (ga 17) p n)))) := by
  refine jM_of l (by decide) [(0, .ref (ad 0)), (1, .int (nI p))] rfl rfl (fun p9 e9 s9 m9 a9 b9 me9 c9 A9 F => ?_)
  refine j_aload_n F 0 dX10_out_0 rfl ?_
  refine j_dup F dX10_out_1 rfl ?_
  refine j_getf F fX10_203 0 (v := .int (vi 32)) rfl rfl dX10_out_2 ?_
  refine j_top (nI n) h32 ?_
  refine j_iconst F (v := 1) dX10_out_5 (by decide) ?_
  refine j_isub F dX10_out_6 ?_
  refine j_top (nI (n - 1)) (pk_sub (a := n) (b := 1) (by omega)) ?_
  refine j_putf F fX10_203 0 (mW ay ad (ups vi 32 (nI (n - 1))) ga) rfl rfl rfl rfl rfl (Nat.le_of_ble_eq_true rfl) dX10_out_7 ?_
  refine j_iload_n F 1 dX10_out_10 rfl ?_
  refine j_istore_n F 2 [(2, .int (nI p)), (0, .ref (ad 0)), (1, .int (nI p))] dX10_out_11 rfl (by decide) rfl ?_
  refine j_loop (σ := Nat) (fun i => p ≤ i ∧ i + 1 ≤ n) (fun i => n - i) (fun i => [(2, .int (nI i)), (0, .ref (ad 0)), (1, .int (nI p))]) (fun i => (mW ay ad (ups vi 32 (nI (n - 1))) (ups ga 17 (shf (ga 17) p (i + 1))))) p ⟨Nat.le_refl _, by omega⟩ rfl (by rw [shf_0, show ups ga 17 (ga 17) = ga from ups_self]) (fun i hI ih => ?_)
  obtain ⟨hi, hi2⟩ := hI
  refine j_iload_n F 0 dX10_out_12 rfl ?_
  refine j_aload_n F 1 dX10_out_13 rfl ?_
  refine j_getf F fX10_203 0 (v := .int (nI (n - 1))) rfl rfl dX10_out_14 ?_
  refine j_icmp_ge F 40 dX10_out_17 (by decide) (fun c_17 => ?_) (fun c_17 => ?_)
  · skip
    have n_17 := (n_le (n - 1) i rfl rfl (by omega) (by omega)).mp c_17
    exact j_vret F ⟨rfl, by rw [show i + 1 = n by omega]⟩ dX10_out_40 (Nat.le_of_ble_eq_true rfl) (Nat.le_of_ble_eq_true rfl)
  · skip
    have n_17 := mt (n_le (n - 1) i rfl rfl (by omega) (by omega)).mpr c_17
    refine j_aload_n F 1 dX10_out_20 rfl ?_
    refine j_getf F fX10_75 0 (v := .ref (ad 18)) rfl rfl dX10_out_21 ?_
    refine j_iload_n F 0 dX10_out_24 rfl ?_
    refine j_aload_n F 1 dX10_out_25 rfl ?_
    refine j_getf F fX10_75 0 (v := .ref (ad 18)) rfl rfl dX10_out_26 ?_
    refine j_iload_n F 0 dX10_out_29 rfl ?_
    refine j_iconst F (v := 1) dX10_out_30 (by decide) ?_
    refine j_iadd F dX10_out_31 ?_
    refine j_top (nI (i + 1)) (nI_add _ _) ?_
    refine j_iald F 18 (i + 1) (f := shf (ga 17) p (i + 1)) rfl rfl (by omega) (Nat.le_of_ble_eq_true rfl) dX10_out_32 ?_
    refine j_iast F 18 (mW ay ad (ups vi 32 (nI (n - 1))) (ups ga 17 (upd (shf (ga 17) p (i + 1)) i ((shf (ga 17) p (i + 1)) (i + 1))))) i rfl rfl (by omega) (Nat.le_of_ble_eq_true rfl) rfl dX10_out_33 ?_
    refine j_ws (mW ay ad (ups vi 32 (nI (n - 1))) (ups ga 17 (shf (ga 17) p (i + 2)))) (by rw [shf_step hi]) ?_
    refine j_iinc F 0 (nI (i + 1)) [(2, .int (nI (i + 1))), (0, .ref (ad 0)), (1, .int (nI p))] dX10_out_34 rfl (nI_1 _) (by decide) rfl ?_
    refine j_goto F 12 dX10_out_37 (by decide) ?_
    exact ih (i + 1) ⟨by omega, by omega⟩ (by show n - (i + 1) < n - i; omega)

set_option maxHeartbeats 4000000 in
set_option maxRecDepth 100000 in
theorem c_X10_writesPage_no (l : Launch) (D : va_G) (ay : Nat → ClassId) (ad : Nat → Nat) (vi : Nat → Int32) (ga : Nat → Nat → Int32) (p : Nat) (hp : p < 16) (hd : ga 18 p = 0) : jM l yX10_writesPage (jws yX10_writesPage cX10_writesPage 3 (some .int)) 0 0 0 0 D ay [.ref (ad 0), .int (nI p)] (mW ay ad vi ga) (fun v w => v = some (.int 0) ∧ w = (mW ay ad vi ga)) := by
  refine jM_of l (by decide) [(0, .ref (ad 0)), (1, .int (nI p))] rfl rfl (fun p9 e9 s9 m9 a9 b9 me9 c9 A9 F => ?_)
  refine j_aload_n F 0 dX10_writesPage_0 rfl ?_
  refine j_getf F fX10_78 0 (v := .ref (ad 19)) rfl rfl dX10_writesPage_1 ?_
  refine j_iload_n F 1 dX10_writesPage_4 rfl ?_
  refine j_zald F 19 p (f := ga 18) rfl rfl (by omega) (Nat.le_of_ble_eq_true rfl) dX10_writesPage_5 ?_
  refine j_top 0 hd ?_
  refine j_if_ne F 11 dX10_writesPage_6 (by decide) (fun c_6 => absurd (by decide) c_6) (fun c_6 => ?_)
  refine j_iconst F (v := 0) dX10_writesPage_9 (by decide) ?_
  exact j_iret F ⟨rfl, rfl⟩ dX10_writesPage_10 (Nat.le_of_ble_eq_true rfl) (Nat.le_of_ble_eq_true rfl)

set_option maxHeartbeats 4000000 in
set_option maxRecDepth 100000 in
theorem c_X10_writesPage_yes (l : Launch) (D : va_G) (ay : Nat → ClassId) (ad : Nat → Nat) (vi : Nat → Int32) (ga : Nat → Nat → Int32) (p : Nat) (hp : p < 16) (hd : ¬ ga 18 p = 0) : jM l yX10_writesPage (jws yX10_writesPage cX10_writesPage 3 (some .int)) 0 0 0 0 D ay [.ref (ad 0), .int (nI p)] (mW ay ad vi ga) (fun v w => v = some (.int 1) ∧ w = (mW ay ad (ups vi 35 (vi 35 + 1)) (ups (ups ga 15 (cpI (ga 16) (ga 15) (4 * p) (4 * p + 4))) 18 (upd (ga 18) p 0)))) := by
  refine jM_of l (by decide) [(0, .ref (ad 0)), (1, .int (nI p))] rfl rfl (fun p9 e9 s9 m9 a9 b9 me9 c9 A9 F => ?_)
  refine j_aload_n F 0 dX10_writesPage_0 rfl ?_
  refine j_getf F fX10_78 0 (v := .ref (ad 19)) rfl rfl dX10_writesPage_1 ?_
  refine j_iload_n F 1 dX10_writesPage_4 rfl ?_
  refine j_zald F 19 p (f := ga 18) rfl rfl (by omega) (Nat.le_of_ble_eq_true rfl) dX10_writesPage_5 ?_
  refine j_if_ne F 11 dX10_writesPage_6 (by decide) (fun c_6 => ?_) (fun c_6 => absurd c_6 hd)
  refine j_aload_n F 0 dX10_writesPage_11 rfl ?_
  refine j_getf F fX10_78 0 (v := .ref (ad 19)) rfl rfl dX10_writesPage_12 ?_
  refine j_iload_n F 1 dX10_writesPage_15 rfl ?_
  refine j_iconst F (v := 0) dX10_writesPage_16 (by decide) ?_
  refine j_zast F 19 (mW ay ad vi (ups ga 18 (upd (ga 18) p 0))) p rfl rfl (by omega) (Nat.le_of_ble_eq_true rfl) rfl rfl dX10_writesPage_17 ?_
  refine j_aload_n F 0 dX10_writesPage_18 rfl ?_
  refine j_dup F dX10_writesPage_19 rfl ?_
  refine j_getf F fX10_206 0 (v := .int (vi 35)) rfl rfl dX10_writesPage_20 ?_
  refine j_iconst F (v := 1) dX10_writesPage_23 (by decide) ?_
  refine j_iadd F dX10_writesPage_24 ?_
  refine j_putf F fX10_206 0 (mW ay ad (ups vi 35 (vi 35 + 1)) (ups ga 18 (upd (ga 18) p 0))) rfl rfl rfl rfl rfl (Nat.le_of_ble_eq_true rfl) dX10_writesPage_25 ?_
  refine j_iconst F (v := 4) dX10_writesPage_28 (by decide) ?_
  refine j_iload_n F 1 dX10_writesPage_29 rfl ?_
  refine j_imul F dX10_writesPage_30 ?_
  refine j_top (nI (4 * p)) (pk_mul 4 _) ?_
  refine j_istore_n F 2 [(2, .int (nI (4 * p))), (0, .ref (ad 0)), (1, .int (nI p))] dX10_writesPage_31 rfl (by decide) rfl ?_
  refine j_loop (σ := Nat) (fun i => 4 * p ≤ i ∧ i ≤ 4 * p + 4) (fun i => 4 * p + 4 - i) (fun i => [(2, .int (nI i)), (0, .ref (ad 0)), (1, .int (nI p))]) (fun i => (mW ay ad (ups vi 35 (vi 35 + 1)) (ups (ups ga 15 (cpI (ga 16) (ga 15) (4 * p) (i))) 18 (upd (ga 18) p 0)))) (4 * p) ⟨Nat.le_refl _, by omega⟩ rfl (by rw [cpI_0]; rfl) (fun i hI ih => ?_)
  obtain ⟨hi, hi2⟩ := hI
  refine j_iload_n F 0 dX10_writesPage_32 rfl ?_
  refine j_iconst F (v := 4) dX10_writesPage_33 (by decide) ?_
  refine j_iload_n F 2 dX10_writesPage_34 rfl ?_
  refine j_imul F dX10_writesPage_35 ?_
  refine j_top (nI (4 * p)) (pk_mul 4 _) ?_
  refine j_iconst F (v := 4) dX10_writesPage_36 (by decide) ?_
  refine j_iadd F dX10_writesPage_37 ?_
  refine j_top (nI (4 * p + 4)) (nI_add _ _) ?_
  refine j_icmp_ge F 59 dX10_writesPage_38 (by decide) (fun c_38 => ?_) (fun c_38 => ?_)
  · skip
    have n_38 := (n_le (4 * p + 4) i rfl rfl (by omega) (by omega)).mp c_38
    refine j_iconst F (v := 1) dX10_writesPage_59 (by decide) ?_
    exact j_iret F ⟨rfl, by rw [show i = 4 * p + 4 by omega]⟩ dX10_writesPage_60 (Nat.le_of_ble_eq_true rfl) (Nat.le_of_ble_eq_true rfl)
  · skip
    have n_38 := mt (n_le (4 * p + 4) i rfl rfl (by omega) (by omega)).mpr c_38
    refine j_aload_n F 1 dX10_writesPage_41 rfl ?_
    refine j_getf F fX10_69 0 (v := .ref (ad 16)) rfl rfl dX10_writesPage_42 ?_
    refine j_iload_n F 0 dX10_writesPage_45 rfl ?_
    refine j_aload_n F 1 dX10_writesPage_46 rfl ?_
    refine j_getf F fX10_72 0 (v := .ref (ad 17)) rfl rfl dX10_writesPage_47 ?_
    refine j_iload_n F 0 dX10_writesPage_50 rfl ?_
    refine j_iald F 17 i (f := ga 16) rfl rfl (by omega) (Nat.le_of_ble_eq_true rfl) dX10_writesPage_51 ?_
    refine j_iast F 16 (mW ay ad (ups vi 35 (vi 35 + 1)) (ups (ups ga 15 (upd (cpI (ga 16) (ga 15) (4 * p) (i)) i ((ga 16) i))) 18 (upd (ga 18) p 0))) i rfl rfl (by omega) (Nat.le_of_ble_eq_true rfl) rfl dX10_writesPage_52 ?_
    refine j_ws (mW ay ad (ups vi 35 (vi 35 + 1)) (ups (ups ga 15 (cpI (ga 16) (ga 15) (4 * p) (i + 1))) 18 (upd (ga 18) p 0))) (by rw [cpI_step hi]) ?_
    refine j_iinc F 0 (nI (i + 1)) [(2, .int (nI (i + 1))), (0, .ref (ad 0)), (1, .int (nI p))] dX10_writesPage_53 rfl (nI_1 _) (by decide) rfl ?_
    refine j_goto F 32 dX10_writesPage_56 (by decide) ?_
    exact ih (i + 1) ⟨by omega, by omega⟩ (by show 4 * p + 4 - (i + 1) < 4 * p + 4 - i; omega)

