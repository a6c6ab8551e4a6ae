/-- a use of a key: out of its place, to the end -/
def usN (f : Nat → Int32) (n : Nat) (key : Int32) : Nat := if fx f key n < n then n else n + 1
def usF (f : Nat → Int32) (n : Nat) (key : Int32) : Nat → Int32 := if fx f key n < n then upd (shf f (fx f key n) n) (n - 1) key else upd f n key
set_option maxHeartbeats 4000000 in
set_option maxRecDepth 100000 in
theorem c_X8_length (l : Launch) (D : va_G) (ay : Nat → ClassId) (o : Nat) (k : Nat) (n : Nat) (f : Nat → Int32) : jM l yX8_length (jws yX8_length cX8_length 1 (some .int)) 0 0 0 0 D ay [.ref o] [(o, .inr (8, [.ref k, .int (nI n)])), (k, .inl (ay 0, 100, .inl f))] (fun v w => v = some (.int (nI n)) ∧ w = [(o, .inr (8, [.ref k, .int (nI n)])), (k, .inl (ay 0, 100, .inl f))]) := by
  refine jM_of l (by decide) [(0, .ref o)] rfl rfl (fun p9 e9 s9 m9 a9 b9 me9 c9 A9 F => ?_)
  refine j_aload_n F 0 dX8_length_0 rfl ?_
  refine j_getf F fX8_15 0 rfl rfl dX8_length_1 ?_
  exact j_iret F ⟨rfl, rfl⟩ dX8_length_4 (Nat.le_of_ble_eq_true rfl) (Nat.le_of_ble_eq_true rfl)

set_option maxHeartbeats 4000000 in
set_option maxRecDepth 100000 in
theorem c_X8_keyIn (l : Launch) (D : va_G) (ay : Nat → ClassId) (o : Nat) (k : Nat) (n : Nat) (f : Nat → Int32) (j : Nat) (hn : n ≤ 100) (hj : j < n) : jM l yX8_keyIn (jws yX8_keyIn cX8_keyIn 2 (some .int)) 0 0 0 0 D ay [.ref o, .int (nI j)] [(o, .inr (8, [.ref k, .int (nI n)])), (k, .inl (ay 0, 100, .inl f))] (fun v w => v = some (.int (f j)) ∧ w = [(o, .inr (8, [.ref k, .int (nI n)])), (k, .inl (ay 0, 100, .inl f))]) := by
  refine jM_of l (by decide) [(0, .ref o), (1, .int (nI j))] rfl rfl (fun p9 e9 s9 m9 a9 b9 me9 c9 A9 F => ?_)
  refine j_iload_n F 1 dX8_keyIn_0 rfl ?_
  refine j_if_lt F 21 dX8_keyIn_1 (by decide) (fun c_1 => absurd c_1 (nI_pos (by omega))) (fun c_1 => ?_)
  refine j_iload_n F 1 dX8_keyIn_4 rfl ?_
  refine j_aload_n F 0 dX8_keyIn_5 rfl ?_
  refine j_getf F fX8_15 0 rfl rfl dX8_keyIn_6 ?_
  refine j_icmp_ge F 21 dX8_keyIn_9 (by decide) (fun c_9 => absurd c_9 (nI_ge hj (by omega))) (fun c_9 => ?_)
  refine j_aload_n F 0 dX8_keyIn_12 rfl ?_
  refine j_getf F fX8_9 0 rfl rfl dX8_keyIn_13 ?_
  refine j_iload_n F 1 dX8_keyIn_16 rfl ?_
  refine j_iald F 1 j rfl rfl (by omega) (Nat.le_of_ble_eq_true rfl) dX8_keyIn_17 ?_
  refine j_goto F 22 dX8_keyIn_18 (by decide) ?_
  exact j_iret F ⟨rfl, rfl⟩ dX8_keyIn_22 (Nat.le_of_ble_eq_true rfl) (Nat.le_of_ble_eq_true rfl)

set_option maxHeartbeats 4000000 in
set_option maxRecDepth 100000 in
theorem c_X8_find (l : Launch) (D : va_G) (ay : Nat → ClassId) (o : Nat) (k : Nat) (n : Nat) (f : Nat → Int32) (key : Int32) (hn : n ≤ 100) : jM l yX8_find (jws yX8_find cX8_find 3 (some .int)) 0 0 0 0 D ay [.ref o, .int key] [(o, .inr (8, [.ref k, .int (nI n)])), (k, .inl (ay 0, 100, .inl f))] (fun v w => v = some (.int (fxI f key n)) ∧ w = [(o, .inr (8, [.ref k, .int (nI n)])), (k, .inl (ay 0, 100, .inl f))]) := by
  refine jM_of l (by decide) [(0, .ref o), (1, .int key)] rfl rfl (fun p9 e9 s9 m9 a9 b9 me9 c9 A9 F => ?_)
  refine j_iconst F (v := 0) dX8_find_0 (by decide) ?_
  refine j_istore_n F 2 [(2, .int 0), (0, .ref o), (1, .int key)] dX8_find_1 rfl (by decide) rfl ?_
  refine j_loop (σ := Nat) (fun i => i ≤ n ∧ ∀ j, j < i → f j ≠ key) (fun i => n - i) (fun i => [(2, .int (nI i)), (0, .ref o), (1, .int key)]) (fun _ => [(o, .inr (8, [.ref k, .int (nI n)])), (k, .inl (ay 0, 100, .inl f))]) 0 ⟨Nat.zero_le _, fun j h => absurd h (Nat.not_lt_zero j)⟩ rfl rfl (fun i hI ih => ?_)
  obtain ⟨hi, hno⟩ := hI
  refine j_iload_n F 0 dX8_find_2 rfl ?_
  refine j_aload_n F 1 dX8_find_3 rfl ?_
  refine j_getf F fX8_15 0 rfl rfl dX8_find_4 ?_
  refine j_icmp_ge F 28 dX8_find_7 (by decide) (fun c_7 => ?_) (fun c_7 => ?_)
  · skip
    have n_7 := (n_le n i rfl rfl (by omega) (by omega)).mp c_7
    refine j_iconst F (v := (-1)) dX8_find_28 (by decide) ?_
    exact j_iret F ⟨by show some (Value.int (-1)) = _; rw [fxI, fx_none (fun j hj => hno j (by omega)), if_neg (by omega)], rfl⟩ dX8_find_29 (Nat.le_of_ble_eq_true rfl) (Nat.le_of_ble_eq_true rfl)
  · skip
    have n_7 := mt (n_le n i rfl rfl (by omega) (by omega)).mpr c_7
    refine j_aload_n F 1 dX8_find_10 rfl ?_
    refine j_getf F fX8_9 0 rfl rfl dX8_find_11 ?_
    refine j_iload_n F 0 dX8_find_14 rfl ?_
    refine j_iald F 1 i rfl rfl (by omega) (Nat.le_of_ble_eq_true rfl) dX8_find_15 ?_
    refine j_iload_n F 2 dX8_find_16 rfl ?_
    refine j_icmp_ne F 22 dX8_find_17 (by decide) (fun c_17 => ?_) (fun c_17 => ?_)
    · skip
      refine j_iinc F 0 (nI (i + 1)) [(2, .int (nI (i + 1))), (0, .ref o), (1, .int key)] dX8_find_22 rfl (nI_1 _) (by decide) rfl ?_
      refine j_goto F 2 dX8_find_25 (by decide) ?_
      exact ih (i + 1) ⟨by omega, fun j hj => by
          by_cases h : j = i
          · rw [h]; exact c_17
          · exact hno j (by omega)⟩ (by show n - (i + 1) < n - i; omega)
    · skip
      refine j_iload_n F 0 dX8_find_20 rfl ?_
      exact j_iret F ⟨by show some (Value.int (nI i)) = _; rw [fxI, fx_at (show i < n by omega) hno c_17, if_pos (by omega)], rfl⟩ dX8_find_21 (Nat.le_of_ble_eq_true rfl) (Nat.le_of_ble_eq_true rfl)

set_option maxHeartbeats 4000000 in
set_option maxRecDepth 100000 in
theorem c_X8_holds (l : Launch) (D : va_G) (ay : Nat → ClassId) (o : Nat) (k : Nat) (n : Nat) (f : Nat → Int32) (key : Int32) (hn : n ≤ 100) : jM l yX8_holds (jws yX8_holds cX8_holds 2 (some .boolean)) 1 22 0 0 D ay [.ref o, .int key] [(o, .inr (8, [.ref k, .int (nI n)])), (k, .inl (ay 0, 100, .inl f))] (fun v w => v = some (.int (if fx f key n < n then 1 else 0)) ∧ w = [(o, .inr (8, [.ref k, .int (nI n)])), (k, .inl (ay 0, 100, .inl f))]) := by
  refine jM_of l (by decide) [(0, .ref o), (1, .int key)] rfl rfl (fun p9 e9 s9 m9 a9 b9 me9 c9 A9 F => ?_)
  refine j_aload_n F 0 dX8_holds_0 rfl ?_
  refine j_iload_n F 1 dX8_holds_1 rfl ?_
  refine j_callV F kX8_19 (As := [.int key]) (rest := []) (c_X8_find l D ay o k n f key (by first | assumption | omega)) 0 [0, 1] [] [] rfl rfl rfl rfl rfl rfl rfl ⟨Nat.le_of_ble_eq_true rfl, Nat.le_of_ble_eq_true rfl⟩ dX8_holds_2 (fun v w hw => ?_)
  obtain ⟨rfl, rfl⟩ := hw
  refine j_perm [0, 1] [(o, .inr (8, [.ref k, .int (nI n)])), (k, .inl (ay 0, 100, .inl f))] rfl rfl ?_
  rcases Nat.lt_or_ge (fx f key n) n with hq | hq
  · skip
    refine j_top (nI (fx f key n)) (if_pos hq) ?_
    refine j_iconst F (v := (-1)) dX8_holds_5 (by decide) ?_
    refine j_icmp_eq F 13 dX8_holds_6 (by decide) (fun c_6 => absurd c_6 (nI_m1 (by omega))) (fun c_6 => ?_)
    refine j_iconst F (v := 1) dX8_holds_9 (by decide) ?_
    refine j_goto F 14 dX8_holds_10 (by decide) ?_
    exact j_zret F (Or.inr rfl) ⟨by rw [if_pos hq], rfl⟩ dX8_holds_14 (Nat.le_of_ble_eq_true rfl) (Nat.le_of_ble_eq_true rfl)
  · skip
    refine j_top (-1) (if_neg (by omega)) ?_
    refine j_iconst F (v := (-1)) dX8_holds_5 (by decide) ?_
    refine j_icmp_eq F 13 dX8_holds_6 (by decide) (fun c_6 => ?_) (fun c_6 => absurd rfl c_6)
    refine j_iconst F (v := 0) dX8_holds_13 (by decide) ?_
    exact j_zret F (Or.inl rfl) ⟨by rw [if_neg (by omega)], rfl⟩ dX8_holds_14 (Nat.le_of_ble_eq_true rfl) (Nat.le_of_ble_eq_true rfl)

set_option maxHeartbeats 4000000 in
set_option maxRecDepth 100000 in
theorem c_X8_dropIn (l : Launch) (D : va_G) (ay : Nat → ClassId) (o : Nat) (k : Nat) (n : Nat) (f : Nat → Int32) (p : Nat) (hn : n ≤ 100) (hp : p < n) : jM l yX8_dropIn (jws yX8_dropIn cX8_dropIn 3 none) 0 0 0 0 D ay [.ref o, .int (nI p)] [(o, .inr (8, [.ref k, .int (nI n)])), (k, .inl (ay 0, 100, .inl f))] (fun v w => v = none ∧ w = [(o, .inr (8, [.ref k, .int (nI (n - 1))])), (k, .inl (ay 0, 100, .inl (shf f p n)))]) := by
  refine jM_of l (by decide) [(0, .ref o), (1, .int (nI p))] rfl rfl (fun p9 e9 s9 m9 a9 b9 me9 c9 A9 F => ?_)
  refine j_iload_n F 1 dX8_dropIn_0 rfl ?_
  refine j_if_lt F 12 dX8_dropIn_1 (by decide) (fun c_1 => absurd c_1 (nI_pos (by omega))) (fun c_1 => ?_)
  refine j_iload_n F 1 dX8_dropIn_4 rfl ?_
  refine j_aload_n F 0 dX8_dropIn_5 rfl ?_
  refine j_getf F fX8_15 0 rfl rfl dX8_dropIn_6 ?_
  refine j_icmp_lt F 13 dX8_dropIn_9 (by decide) (fun c_9 => ?_) (fun c_9 => absurd (nI_lt hp (by omega)) c_9)
  refine j_aload_n F 0 dX8_dropIn_13 rfl ?_
  refine j_dup F dX8_dropIn_14 rfl ?_
  refine j_getf F fX8_15 0 rfl rfl dX8_dropIn_15 ?_
  refine j_iconst F (v := 1) dX8_dropIn_18 (by decide) ?_
  refine j_isub F dX8_dropIn_19 ?_
  refine j_top (nI (n - 1)) (pk_sub (a := n) (b := 1) (by omega)) ?_
  refine j_putf F fX8_15 0 [(o, .inr (8, [.ref k, .int (nI (n - 1))])), (k, .inl (ay 0, 100, .inl f))] rfl rfl rfl rfl rfl (Nat.le_of_ble_eq_true rfl) dX8_dropIn_20 ?_
  refine j_iload_n F 1 dX8_dropIn_23 rfl ?_
  refine j_istore_n F 2 [(2, .int (nI p)), (0, .ref o), (1, .int (nI p))] dX8_dropIn_24 rfl (by decide) rfl ?_
  refine j_loop (σ := Nat) (fun i => p ≤ i ∧ i + 1 ≤ n) (fun i => n - i) (fun i => [(2, .int (nI i)), (0, .ref o), (1, .int (nI p))]) (fun i => [(o, .inr (8, [.ref k, .int (nI (n - 1))])), (k, .inl (ay 0, 100, .inl (shf f p (i + 1))))]) p ⟨Nat.le_refl _, by omega⟩ rfl (by rw [shf_0]) (fun i hI ih => ?_)
  obtain ⟨hi, hi2⟩ := hI
  refine j_iload_n F 0 dX8_dropIn_25 rfl ?_
  refine j_aload_n F 1 dX8_dropIn_26 rfl ?_
  refine j_getf F fX8_15 0 rfl rfl dX8_dropIn_27 ?_
  refine j_icmp_ge F 53 dX8_dropIn_30 (by decide) (fun c_30 => ?_) (fun c_30 => ?_)
  · skip
    have n_30 := (n_le (n - 1) i rfl rfl (by omega) (by omega)).mp c_30
    exact j_vret F ⟨rfl, by rw [show i + 1 = n by omega]⟩ dX8_dropIn_53 (Nat.le_of_ble_eq_true rfl) (Nat.le_of_ble_eq_true rfl)
  · skip
    have n_30 := mt (n_le (n - 1) i rfl rfl (by omega) (by omega)).mpr c_30
    refine j_aload_n F 1 dX8_dropIn_33 rfl ?_
    refine j_getf F fX8_9 0 rfl rfl dX8_dropIn_34 ?_
    refine j_iload_n F 0 dX8_dropIn_37 rfl ?_
    refine j_aload_n F 1 dX8_dropIn_38 rfl ?_
    refine j_getf F fX8_9 0 rfl rfl dX8_dropIn_39 ?_
    refine j_iload_n F 0 dX8_dropIn_42 rfl ?_
    refine j_iconst F (v := 1) dX8_dropIn_43 (by decide) ?_
    refine j_iadd F dX8_dropIn_44 ?_
    refine j_top (nI (i + 1)) (nI_add _ _) ?_
    refine j_iald F 1 (i + 1) rfl rfl (by omega) (Nat.le_of_ble_eq_true rfl) dX8_dropIn_45 ?_
    refine j_iast F 1 [(o, .inr (8, [.ref k, .int (nI (n - 1))])), (k, .inl (ay 0, 100, .inl (upd (shf f p (i + 1)) i ((shf f p (i + 1)) (i + 1)))))] i rfl rfl (by omega) (Nat.le_of_ble_eq_true rfl) rfl dX8_dropIn_46 ?_
    refine j_ws [(o, .inr (8, [.ref k, .int (nI (n - 1))])), (k, .inl (ay 0, 100, .inl (shf f p (i + 2))))] (by rw [shf_step hi]) ?_
    refine j_iinc F 0 (nI (i + 1)) [(2, .int (nI (i + 1))), (0, .ref o), (1, .int (nI p))] dX8_dropIn_47 rfl (nI_1 _) (by decide) rfl ?_
    refine j_goto F 25 dX8_dropIn_50 (by decide) ?_
    exact ih (i + 1) ⟨by omega, by omega⟩ (by show n - (i + 1) < n - i; omega)

set_option maxHeartbeats 4000000 in
set_option maxRecDepth 100000 in
theorem c_X8_dropIn_none (l : Launch) (D : va_G) (ay : Nat → ClassId) (o : Nat) (k : Nat) (n : Nat) (f : Nat → Int32) : jM l yX8_dropIn (jws yX8_dropIn cX8_dropIn 3 none) 0 0 0 0 D ay [.ref o, .int (-1)] [(o, .inr (8, [.ref k, .int (nI n)])), (k, .inl (ay 0, 100, .inl f))] (fun v w => v = none ∧ w = [(o, .inr (8, [.ref k, .int (nI n)])), (k, .inl (ay 0, 100, .inl f))]) := by
  refine jM_of l (by decide) [(0, .ref o), (1, .int (-1))] rfl rfl (fun p9 e9 s9 m9 a9 b9 me9 c9 A9 F => ?_)
  refine j_iload_n F 1 dX8_dropIn_0 rfl ?_
  refine j_if_lt F 12 dX8_dropIn_1 (by decide) (fun c_1 => ?_) (fun c_1 => absurd (by decide) c_1)
  exact j_vret F ⟨rfl, rfl⟩ dX8_dropIn_12 (Nat.le_of_ble_eq_true rfl) (Nat.le_of_ble_eq_true rfl)

set_option maxHeartbeats 4000000 in
set_option maxRecDepth 100000 in
theorem c_X8_dropAll (l : Launch) (D : va_G) (ay : Nat → ClassId) (o : Nat) (k : Nat) (n : Nat) (f : Nat → Int32) : jM l yX8_dropAll (jws yX8_dropAll cX8_dropAll 1 none) 0 0 0 0 D ay [.ref o] [(o, .inr (8, [.ref k, .int (nI n)])), (k, .inl (ay 0, 100, .inl f))] (fun v w => v = none ∧ w = [(o, .inr (8, [.ref k, .int (nI 0)])), (k, .inl (ay 0, 100, .inl f))]) := by
  refine jM_of l (by decide) [(0, .ref o)] rfl rfl (fun p9 e9 s9 m9 a9 b9 me9 c9 A9 F => ?_)
  refine j_aload_n F 0 dX8_dropAll_0 rfl ?_
  refine j_iconst F (v := 0) dX8_dropAll_1 (by decide) ?_
  refine j_putf F fX8_15 0 [(o, .inr (8, [.ref k, .int 0])), (k, .inl (ay 0, 100, .inl f))] rfl rfl rfl rfl rfl (Nat.le_of_ble_eq_true rfl) dX8_dropAll_2 ?_
  exact j_vret F ⟨rfl, rfl⟩ dX8_dropAll_5 (Nat.le_of_ble_eq_true rfl) (Nat.le_of_ble_eq_true rfl)

set_option maxHeartbeats 4000000 in
set_option maxRecDepth 100000 in
theorem c_X8_use (l : Launch) (D : va_G) (ay : Nat → ClassId) (o : Nat) (k : Nat) (n : Nat) (f : Nat → Int32) (key : Int32) (hn : n ≤ 100) (hq : fx f key n < n ∨ n < 100) : jM l yX8_use (jws yX8_use cX8_use 3 (some .boolean)) 1 22 0 0 D ay [.ref o, .int key] [(o, .inr (8, [.ref k, .int (nI n)])), (k, .inl (ay 0, 100, .inl f))] (fun v w => v = some (.int (if fx f key n < n then 1 else 0)) ∧ w = [(o, .inr (8, [.ref k, .int (nI (usN f n key))])), (k, .inl (ay 0, 100, .inl (usF f n key)))]) := by
  refine jM_of l (by decide) [(0, .ref o), (1, .int key)] rfl rfl (fun p9 e9 s9 m9 a9 b9 me9 c9 A9 F => ?_)
  refine j_aload_n F 0 dX8_use_0 rfl ?_
  refine j_iload_n F 1 dX8_use_1 rfl ?_
  refine j_callV F kX8_19 (As := [.int key]) (rest := []) (c_X8_find l D ay o k n f key (by first | assumption | omega)) 0 [0, 1] [] [] rfl rfl rfl rfl rfl rfl rfl ⟨Nat.le_of_ble_eq_true rfl, Nat.le_of_ble_eq_true rfl⟩ dX8_use_2 (fun v w hw => ?_)
  obtain ⟨rfl, rfl⟩ := hw
  refine j_perm [0, 1] [(o, .inr (8, [.ref k, .int (nI n)])), (k, .inl (ay 0, 100, .inl f))] rfl rfl ?_
  rcases Nat.lt_or_ge (fx f key n) n with hq2 | hq2
  · skip
    refine j_top (nI (fx f key n)) (if_pos hq2) ?_
    refine j_istore_n F 2 [(2, .int (nI (fx f key n))), (0, .ref o), (1, .int key)] dX8_use_5 rfl (by decide) rfl ?_
    refine j_aload_n F 1 dX8_use_6 rfl ?_
    refine j_iload_n F 0 dX8_use_7 rfl ?_
    refine j_callV F kX8_23 (As := [.int (nI (fx f key n))]) (rest := []) (c_X8_dropIn l D ay o k n f (fx f key n) hn hq2) 0 [0, 1] [] [] rfl rfl rfl rfl rfl rfl rfl ⟨Nat.le_of_ble_eq_true rfl, Nat.le_of_ble_eq_true rfl⟩ dX8_use_8 (fun v w hw => ?_)
    obtain ⟨rfl, rfl⟩ := hw
    refine j_perm [0, 1] [(o, .inr (8, [.ref k, .int (nI (n - 1))])), (k, .inl (ay 0, 100, .inl (shf f (fx f key n) n)))] rfl rfl ?_
    refine j_aload_n F 1 dX8_use_11 rfl ?_
    refine j_getf F fX8_15 0 rfl rfl dX8_use_12 ?_
    refine j_bipush F (v := 100) dX8_use_15 (by decide) ?_
    refine j_icmp_ge F 40 dX8_use_17 (by decide) (fun c_17 => absurd c_17 (nI_ge (b := 100) (by omega) (by decide))) (fun c_17 => ?_)
    refine j_aload_n F 1 dX8_use_20 rfl ?_
    refine j_getf F fX8_9 0 rfl rfl dX8_use_21 ?_
    refine j_aload_n F 1 dX8_use_24 rfl ?_
    refine j_getf F fX8_15 0 rfl rfl dX8_use_25 ?_
    refine j_iload_n F 2 dX8_use_28 rfl ?_
    refine j_iast F 1 [(o, .inr (8, [.ref k, .int (nI (n - 1))])), (k, .inl (ay 0, 100, .inl (upd (shf f (fx f key n) n) (n - 1) key)))] (n - 1) rfl rfl (by omega) (Nat.le_of_ble_eq_true rfl) rfl dX8_use_29 ?_
    refine j_aload_n F 1 dX8_use_30 rfl ?_
    refine j_dup F dX8_use_31 rfl ?_
    refine j_getf F fX8_15 0 rfl rfl dX8_use_32 ?_
    refine j_iconst F (v := 1) dX8_use_35 (by decide) ?_
    refine j_iadd F dX8_use_36 ?_
    refine j_top (nI n) (by rw [nI_1, show n - 1 + 1 = n by omega]) ?_
    refine j_putf F fX8_15 0 [(o, .inr (8, [.ref k, .int (nI n)])), (k, .inl (ay 0, 100, .inl (upd (shf f (fx f key n) n) (n - 1) key)))] rfl rfl rfl rfl rfl (Nat.le_of_ble_eq_true rfl) dX8_use_37 ?_
    refine j_iload_n F 0 dX8_use_40 rfl ?_
    refine j_iconst F (v := (-1)) dX8_use_41 (by decide) ?_
    refine j_icmp_eq F 49 dX8_use_42 (by decide) (fun c_42 => absurd c_42 (nI_m1 (by omega))) (fun c_42 => ?_)
    refine j_iconst F (v := 1) dX8_use_45 (by decide) ?_
    refine j_goto F 50 dX8_use_46 (by decide) ?_
    exact j_zret F (Or.inr rfl) ⟨by rw [if_pos hq2], by simp only [usN, usF, if_pos hq2]⟩ dX8_use_50 (Nat.le_of_ble_eq_true rfl) (Nat.le_of_ble_eq_true rfl)
  · skip
    refine j_top (-1) (if_neg (by omega)) ?_
    refine j_istore_n F 2 [(2, .int (-1)), (0, .ref o), (1, .int key)] dX8_use_5 rfl (by decide) rfl ?_
    refine j_aload_n F 1 dX8_use_6 rfl ?_
    refine j_iload_n F 0 dX8_use_7 rfl ?_
    refine j_callV F kX8_23 (As := [.int (-1)]) (rest := []) (c_X8_dropIn_none l D ay o k n f) 0 [0, 1] [] [] rfl rfl rfl rfl rfl rfl rfl ⟨Nat.le_of_ble_eq_true rfl, Nat.le_of_ble_eq_true rfl⟩ dX8_use_8 (fun v w hw => ?_)
    obtain ⟨rfl, rfl⟩ := hw
    refine j_perm [0, 1] [(o, .inr (8, [.ref k, .int (nI n)])), (k, .inl (ay 0, 100, .inl f))] rfl rfl ?_
    refine j_aload_n F 1 dX8_use_11 rfl ?_
    refine j_getf F fX8_15 0 rfl rfl dX8_use_12 ?_
    refine j_bipush F (v := 100) dX8_use_15 (by decide) ?_
    refine j_icmp_ge F 40 dX8_use_17 (by decide) (fun c_17 => absurd c_17 (nI_ge (b := 100) (by omega) (by decide))) (fun c_17 => ?_)
    refine j_aload_n F 1 dX8_use_20 rfl ?_
    refine j_getf F fX8_9 0 rfl rfl dX8_use_21 ?_
    refine j_aload_n F 1 dX8_use_24 rfl ?_
    refine j_getf F fX8_15 0 rfl rfl dX8_use_25 ?_
    refine j_iload_n F 2 dX8_use_28 rfl ?_
    refine j_iast F 1 [(o, .inr (8, [.ref k, .int (nI n)])), (k, .inl (ay 0, 100, .inl (upd f n key)))] n rfl rfl (by omega) (Nat.le_of_ble_eq_true rfl) rfl dX8_use_29 ?_
    refine j_aload_n F 1 dX8_use_30 rfl ?_
    refine j_dup F dX8_use_31 rfl ?_
    refine j_getf F fX8_15 0 rfl rfl dX8_use_32 ?_
    refine j_iconst F (v := 1) dX8_use_35 (by decide) ?_
    refine j_iadd F dX8_use_36 ?_
    refine j_top (nI (n + 1)) (nI_add _ _) ?_
    refine j_putf F fX8_15 0 [(o, .inr (8, [.ref k, .int (nI (n + 1))])), (k, .inl (ay 0, 100, .inl (upd f n key)))] rfl rfl rfl rfl rfl (Nat.le_of_ble_eq_true rfl) dX8_use_37 ?_
    refine j_iload_n F 0 dX8_use_40 rfl ?_
    refine j_iconst F (v := (-1)) dX8_use_41 (by decide) ?_
    refine j_icmp_eq F 49 dX8_use_42 (by decide) (fun c_42 => ?_) (fun c_42 => absurd rfl c_42)
    refine j_iconst F (v := 0) dX8_use_49 (by decide) ?_
    exact j_zret F (Or.inl rfl) ⟨by rw [if_neg (by omega)], by simp only [usN, usF, if_neg (show ¬ fx f key n < n by omega)]⟩ dX8_use_50 (Nat.le_of_ble_eq_true rfl) (Nat.le_of_ble_eq_true rfl)

set_option maxHeartbeats 4000000 in
set_option maxRecDepth 100000 in
theorem c_X8_dropBeyond (l : Launch) (D : va_G) (ay : Nat → ClassId) (o : Nat) (k : Nat) (n : Nat) (f : Nat → Int32) (b : Nat) (hn : n ≤ 100) (hb : b < 2 ^ 31) : jM l yX8_dropBeyond (jws yX8_dropBeyond cX8_dropBeyond 3 (some .int)) 1 22 0 0 D ay [.ref o, .int (nI b)] [(o, .inr (8, [.ref k, .int (nI n)])), (k, .inl (ay 0, 100, .inl f))] (fun v w => v = some (.int (if n ≤ b then -1 else f 0)) ∧ w = [(o, .inr (8, [.ref k, .int (nI (if n ≤ b then n else n - 1))])), (k, .inl (ay 0, 100, .inl (if n ≤ b then f else shf f 0 n)))]) := by
  refine jM_of l (by decide) [(0, .ref o), (1, .int (nI b))] rfl rfl (fun p9 e9 s9 m9 a9 b9 me9 c9 A9 F => ?_)
  refine j_aload_n F 0 dX8_dropBeyond_0 rfl ?_
  refine j_getf F fX8_15 0 rfl rfl dX8_dropBeyond_1 ?_
  refine j_iload_n F 1 dX8_dropBeyond_4 rfl ?_
  refine j_icmp_gt F 10 dX8_dropBeyond_5 (by decide) (fun c_5 => ?_) (fun c_5 => ?_)
  · skip
    have n_5 := (n_lt b n rfl rfl (by omega) (by omega)).mp c_5
    refine j_aload_n F 0 dX8_dropBeyond_10 rfl ?_
    refine j_iconst F (v := 0) dX8_dropBeyond_11 (by decide) ?_
    refine j_callV F kX8_27 (As := [.int 0]) (rest := []) (c_X8_keyIn l D ay o k n f 0 (by first | assumption | omega) (by first | assumption | omega)) 0 [0, 1] [] [] rfl rfl rfl rfl rfl rfl rfl ⟨Nat.le_of_ble_eq_true rfl, Nat.le_of_ble_eq_true rfl⟩ dX8_dropBeyond_12 (fun v w hw => ?_)
    obtain ⟨rfl, rfl⟩ := hw
    refine j_perm [0, 1] [(o, .inr (8, [.ref k, .int (nI n)])), (k, .inl (ay 0, 100, .inl f))] rfl rfl ?_
    refine j_istore_n F 2 [(2, .int (f 0)), (0, .ref o), (1, .int (nI b))] dX8_dropBeyond_15 rfl (by decide) rfl ?_
    refine j_aload_n F 1 dX8_dropBeyond_16 rfl ?_
    refine j_iconst F (v := 0) dX8_dropBeyond_17 (by decide) ?_
    refine j_callV F kX8_23 (As := [.int 0]) (rest := []) (c_X8_dropIn l D ay o k n f 0 (by first | assumption | omega) (by first | assumption | omega)) 0 [0, 1] [] [] rfl rfl rfl rfl rfl rfl rfl ⟨Nat.le_of_ble_eq_true rfl, Nat.le_of_ble_eq_true rfl⟩ dX8_dropBeyond_18 (fun v w hw => ?_)
    obtain ⟨rfl, rfl⟩ := hw
    refine j_perm [0, 1] [(o, .inr (8, [.ref k, .int (nI (n - 1))])), (k, .inl (ay 0, 100, .inl (shf f 0 n)))] rfl rfl ?_
    refine j_iload_n F 0 dX8_dropBeyond_21 rfl ?_
    exact j_iret F ⟨by rw [if_neg (show ¬ n ≤ b by omega)], by simp only [if_neg (show ¬ n ≤ b by omega)]⟩ dX8_dropBeyond_22 (Nat.le_of_ble_eq_true rfl) (Nat.le_of_ble_eq_true rfl)
  · skip
    have n_5 := mt (n_lt b n rfl rfl (by omega) (by omega)).mpr c_5
    refine j_iconst F (v := (-1)) dX8_dropBeyond_8 (by decide) ?_
    exact j_iret F ⟨by rw [if_pos (show n ≤ b by omega)], by simp only [if_pos (show n ≤ b by omega)]⟩ dX8_dropBeyond_9 (Nat.le_of_ble_eq_true rfl) (Nat.le_of_ble_eq_true rfl)
