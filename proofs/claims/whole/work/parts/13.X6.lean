-- ---- Tape
/-- the byte at a place of the text; -1 behind its end -/
def btA (f : Nat → Int32) (n j : Nat) : Int32 := if j < n then f j else -1
/-- the four shifts, and the number behind them -/
def sh4 : Nat → Int32
  | 0 => 24
  | 1 => 16
  | 2 => 8
  | 3 => 0
  | _ => -8
def by4 (x s : Int32) : Int32 := (x.toUInt32 >>> (s.toUInt32 &&& Int32.toUInt32 31)).toInt32 &&& 255
/-- how many of the first i bytes of a number are not 0 -/
def bcnt (x : Int32) : Nat → Nat
  | 0 => 0
  | i + 1 => if by4 x (sh4 i) = 0 then bcnt x i else bcnt x i + 1
/-- the row behind n places, with the bytes of a number that are not 0 -/
def brow (f : Nat → Int32) (n : Nat) (x : Int32) : Nat → Nat → Int32
  | 0 => f
  | i + 1 => if by4 x (sh4 i) = 0 then brow f n x i else upd (brow f n x i) (n + bcnt x i) (by4 x (sh4 i))
theorem sh4_next : ∀ {i : Nat}, i < 4 → sh4 i + Int32.ofInt (-8) = sh4 (i + 1)
  | 0, _ => rfl
  | 1, _ => rfl
  | 2, _ => rfl
  | 3, _ => rfl
  | _ + 4, h => absurd h (by omega)
theorem sh4_pos : ∀ {i : Nat}, i < 4 → ¬ sh4 i < 0
  | 0, _ => by decide
  | 1, _ => by decide
  | 2, _ => by decide
  | 3, _ => by decide
  | _ + 4, h => absurd h (by omega)
theorem bcnt_le (x : Int32) : ∀ i, bcnt x i ≤ i
  | 0 => Nat.le_refl 0
  | i + 1 => by
    have ih := bcnt_le x i
    show (if by4 x (sh4 i) = 0 then bcnt x i else bcnt x i + 1) ≤ i + 1
    split <;> omega
theorem bcnt_mono (x : Int32) {i : Nat} : ∀ {j : Nat}, i ≤ j → bcnt x i ≤ bcnt x j
  | 0, h => by rw [show i = 0 by omega]; exact Nat.le_refl _
  | j + 1, h => by
    by_cases e : i = j + 1
    · rw [e]; exact Nat.le_refl _
    · have ih := @bcnt_mono x i j (by omega)
      show bcnt x i ≤ (if by4 x (sh4 j) = 0 then bcnt x j else bcnt x j + 1)
      split <;> omega
set_option maxHeartbeats 4000000 in
set_option maxRecDepth 100000 in
theorem c_X6_length (l : Launch) (D : va_G) (ay : Nat → ClassId) (t : Nat) (b : Nat) (n : Nat) (f : Nat → Int32) : jM l yX6_length (jws yX6_length cX6_length 1 (some .int)) 0 0 0 0 D ay [.ref t] [(t, .inr (6, [.ref b, .int (nI n)])), (b, .inl (ay 0, 300, .inl f))] (fun v w => v = some (.int (nI n)) ∧ w = [(t, .inr (6, [.ref b, .int (nI n)])), (b, .inl (ay 0, 300, .inl f))]) := by
  refine jM_of l (by decide) [(0, .ref t)] rfl rfl (fun p9 e9 s9 m9 a9 b9 me9 c9 A9 F => ?_)
  refine j_aload_n F 0 dX6_length_0 rfl ?_
  refine j_getf F fX6_15 0 rfl rfl dX6_length_1 ?_
  exact j_iret F ⟨rfl, rfl⟩ dX6_length_4 (Nat.le_of_ble_eq_true rfl) (Nat.le_of_ble_eq_true rfl)

set_option maxHeartbeats 4000000 in
set_option maxRecDepth 100000 in
theorem c_X6_byteIn (l : Launch) (D : va_G) (ay : Nat → ClassId) (t : Nat) (b : Nat) (n : Nat) (f : Nat → Int32) (j : Nat) (hn : n ≤ 300) (hj : j < 2 ^ 31) : jM l yX6_byteIn (jws yX6_byteIn cX6_byteIn 2 (some .int)) 0 0 0 0 D ay [.ref t, .int (nI j)] [(t, .inr (6, [.ref b, .int (nI n)])), (b, .inl (ay 0, 300, .inl f))] (fun v w => v = some (.int (btA f n j)) ∧ w = [(t, .inr (6, [.ref b, .int (nI n)])), (b, .inl (ay 0, 300, .inl f))]) := by
  refine jM_of l (by decide) [(0, .ref t), (1, .int (nI j))] rfl rfl (fun p9 e9 s9 m9 a9 b9 me9 c9 A9 F => ?_)
  refine j_iload_n F 1 dX6_byteIn_0 rfl ?_
  refine j_if_lt F 21 dX6_byteIn_1 (by decide) (fun c_1 => absurd c_1 (nI_pos (by omega))) (fun c_1 => ?_)
  refine j_iload_n F 1 dX6_byteIn_4 rfl ?_
  refine j_aload_n F 0 dX6_byteIn_5 rfl ?_
  refine j_getf F fX6_15 0 rfl rfl dX6_byteIn_6 ?_
  refine j_icmp_ge F 21 dX6_byteIn_9 (by decide) (fun c_9 => ?_) (fun c_9 => ?_)
  · skip
    have n_9 := (n_le n j rfl rfl (by omega) (by omega)).mp c_9
    refine j_iconst F (v := (-1)) dX6_byteIn_21 (by decide) ?_
    exact j_iret F ⟨by rw [btA, if_neg (show ¬ j < n by omega)], rfl⟩ dX6_byteIn_22 (Nat.le_of_ble_eq_true rfl) (Nat.le_of_ble_eq_true rfl)
  · skip
    have n_9 := mt (n_le n j rfl rfl (by omega) (by omega)).mpr c_9
    refine j_aload_n F 0 dX6_byteIn_12 rfl ?_
    refine j_getf F fX6_9 0 rfl rfl dX6_byteIn_13 ?_
    refine j_iload_n F 1 dX6_byteIn_16 rfl ?_
    refine j_iald F 1 j rfl rfl (by omega) (Nat.le_of_ble_eq_true rfl) dX6_byteIn_17 ?_
    refine j_goto F 22 dX6_byteIn_18 (by decide) ?_
    exact j_iret F ⟨by rw [btA, if_pos (show j < n by omega)], rfl⟩ dX6_byteIn_22 (Nat.le_of_ble_eq_true rfl) (Nat.le_of_ble_eq_true rfl)

set_option maxHeartbeats 4000000 in
set_option maxRecDepth 100000 in
theorem c_X6_bytesOf (l : Launch) (D : va_G) (ay : Nat → ClassId) (x : Int32) : jM l yX6_bytesOf (jws yX6_bytesOf cX6_bytesOf 3 (some .int)) 0 0 0 0 D ay [.int x] [] (fun v w => v = some (.int (nI (bcnt x 4))) ∧ w = []) := by
  refine jM_of l (by decide) [(0, .int x)] rfl rfl (fun p9 e9 s9 m9 a9 b9 me9 c9 A9 F => ?_)
  refine j_iconst F (v := 0) dX6_bytesOf_0 (by decide) ?_
  refine j_istore_n F 1 [(1, .int 0), (0, .int x)] dX6_bytesOf_1 rfl (by decide) rfl ?_
  refine j_bipush F (v := 24) dX6_bytesOf_2 (by decide) ?_
  refine j_istore_n F 2 [(2, .int 24), (1, .int 0), (0, .int x)] dX6_bytesOf_4 rfl (by decide) rfl ?_
  refine j_loop (σ := Nat) (fun i => i ≤ 4) (fun i => 4 - i) (fun i => [(2, .int (sh4 i)), (1, .int (nI (bcnt x i))), (0, .int x)]) (fun _ => []) 0 (Nat.zero_le _) rfl rfl (fun i hi ih => ?_)
  by_cases h4 : i = 4
  · subst h4
    refine j_sub [0, 1, 2] [(2, .int (-8)), (1, .int (nI (bcnt x 4))), (0, .int x)] rfl ?_
    refine j_iload_n F 0 dX6_bytesOf_5 rfl ?_
    refine j_if_lt F 28 dX6_bytesOf_6 (by decide) (fun c_6 => ?_) (fun c_6 => absurd (by decide) c_6)
    refine j_iload_n F 1 dX6_bytesOf_28 rfl ?_
    exact j_iret F ⟨rfl, rfl⟩ dX6_bytesOf_29 (Nat.le_of_ble_eq_true rfl) (Nat.le_of_ble_eq_true rfl)
  · skip
    refine j_iload_n F 0 dX6_bytesOf_5 rfl ?_
    refine j_if_lt F 28 dX6_bytesOf_6 (by decide) (fun c_6 => absurd c_6 (sh4_pos (by omega))) (fun c_6 => ?_)
    refine j_iload_n F 2 dX6_bytesOf_9 rfl ?_
    refine j_iload_n F 0 dX6_bytesOf_10 rfl ?_
    refine j_iushr F dX6_bytesOf_11 ?_
    refine j_sipush F (v := 255) dX6_bytesOf_12 (by decide) ?_
    refine j_iand F dX6_bytesOf_15 ?_
    refine j_top (by4 x (sh4 i)) rfl ?_
    refine j_if_eq F 22 dX6_bytesOf_16 (by decide) (fun c_16 => ?_) (fun c_16 => ?_)
    · skip
      refine j_iinc F 0 (sh4 (i + 1)) [(2, .int (sh4 (i + 1))), (1, .int (nI (bcnt x i))), (0, .int x)] dX6_bytesOf_22 rfl (sh4_next (by omega)) (by decide) rfl ?_
      refine j_goto F 5 dX6_bytesOf_25 (by decide) ?_
      have hb : bcnt x i = bcnt x (i + 1) := (if_pos c_16).symm
      rw [hb]
      refine j_sub [0, 1, 2] [(2, .int (sh4 (i + 1))), (1, .int (nI (bcnt x (i + 1)))), (0, .int x)] rfl ?_
      exact ih (i + 1) (by omega) (by show 4 - (i + 1) < 4 - i; omega)
    · skip
      refine j_iinc F 1 (nI (bcnt x i + 1)) [(1, .int (nI (bcnt x i + 1))), (2, .int (sh4 i)), (0, .int x)] dX6_bytesOf_19 rfl (nI_1 _) (by decide) rfl ?_
      refine j_iinc F 1 (sh4 (i + 1)) [(2, .int (sh4 (i + 1))), (1, .int (nI (bcnt x i + 1))), (0, .int x)] dX6_bytesOf_22 rfl (sh4_next (by omega)) (by decide) rfl ?_
      refine j_goto F 5 dX6_bytesOf_25 (by decide) ?_
      have hb : bcnt x i + 1 = bcnt x (i + 1) := (if_neg c_16).symm
      rw [hb]
      refine j_sub [0, 1, 2] [(2, .int (sh4 (i + 1))), (1, .int (nI (bcnt x (i + 1)))), (0, .int x)] rfl ?_
      exact ih (i + 1) (by omega) (by show 4 - (i + 1) < 4 - i; omega)

set_option maxHeartbeats 4000000 in
set_option maxRecDepth 100000 in
theorem c_X6_addBytes (l : Launch) (D : va_G) (ay : Nat → ClassId) (t : Nat) (b : Nat) (n : Nat) (f : Nat → Int32) (x : Int32) (hn : n + bcnt x 4 ≤ 300) : jM l yX6_addBytes (jws yX6_addBytes cX6_addBytes 4 none) 0 0 0 0 D ay [.ref t, .int x] [(t, .inr (6, [.ref b, .int (nI n)])), (b, .inl (ay 0, 300, .inl f))] (fun v w => v = none ∧ w = [(t, .inr (6, [.ref b, .int (nI (n + bcnt x 4))])), (b, .inl (ay 0, 300, .inl (brow f n x 4)))]) := by
  refine jM_of l (by decide) [(0, .ref t), (1, .int x)] rfl rfl (fun p9 e9 s9 m9 a9 b9 me9 c9 A9 F => ?_)
  refine j_bipush F (v := 24) dX6_addBytes_0 (by decide) ?_
  refine j_istore_n F 2 [(2, .int 24), (0, .ref t), (1, .int x)] dX6_addBytes_2 rfl (by decide) rfl ?_
  refine j_loop (σ := Nat) (fun i => i ≤ 4) (fun i => 4 - i) (fun i => [(2, .int (sh4 i)), (0, .ref t), (1, .int x)]) (fun i => [(t, .inr (6, [.ref b, .int (nI (n + bcnt x i))])), (b, .inl (ay 0, 300, .inl (brow f n x i)))]) 0 (Nat.zero_le _) rfl rfl (fun i hi ih => ?_)
  by_cases h4 : i = 4
  · subst h4
    refine j_sub [0, 1, 2] [(2, .int (-8)), (0, .ref t), (1, .int x)] rfl ?_
    refine j_iload_n F 0 dX6_addBytes_3 rfl ?_
    refine j_if_lt F 55 dX6_addBytes_4 (by decide) (fun c_4 => ?_) (fun c_4 => absurd (by decide) c_4)
    exact j_vret F ⟨rfl, rfl⟩ dX6_addBytes_55 (Nat.le_of_ble_eq_true rfl) (Nat.le_of_ble_eq_true rfl)
  · skip
    have hm := bcnt_mono x (show i + 1 ≤ 4 by omega)
    refine j_iload_n F 0 dX6_addBytes_3 rfl ?_
    refine j_if_lt F 55 dX6_addBytes_4 (by decide) (fun c_4 => absurd c_4 (sh4_pos (by omega))) (fun c_4 => ?_)
    refine j_iload_n F 2 dX6_addBytes_7 rfl ?_
    refine j_iload_n F 0 dX6_addBytes_8 rfl ?_
    refine j_iushr F dX6_addBytes_9 ?_
    refine j_sipush F (v := 255) dX6_addBytes_10 (by decide) ?_
    refine j_iand F dX6_addBytes_13 ?_
    refine j_top (by4 x (sh4 i)) rfl ?_
    refine j_istore_n F 3 [(3, .int (by4 x (sh4 i))), (2, .int (sh4 i)), (0, .ref t), (1, .int x)] dX6_addBytes_14 rfl (by decide) rfl ?_
    refine j_iload_n F 0 dX6_addBytes_15 rfl ?_
    refine j_if_eq F 49 dX6_addBytes_16 (by decide) (fun c_16 => ?_) (fun c_16 => ?_)
    · skip
      refine j_iinc F 1 (sh4 (i + 1)) [(2, .int (sh4 (i + 1))), (3, .int (by4 x (sh4 i))), (0, .ref t), (1, .int x)] dX6_addBytes_49 rfl (sh4_next (by omega)) (by decide) rfl ?_
      refine j_goto F 3 dX6_addBytes_52 (by decide) ?_
      have e1 : bcnt x i = bcnt x (i + 1) := (if_pos c_16).symm
      have e2 : brow f n x i = brow f n x (i + 1) := (if_pos c_16).symm
      rw [e1, e2]
      refine j_sub [0, 2, 3] [(2, .int (sh4 (i + 1))), (0, .ref t), (1, .int x)] rfl ?_
      exact ih (i + 1) (by omega) (by show 4 - (i + 1) < 4 - i; omega)
    · skip
      refine j_aload_n F 2 dX6_addBytes_19 rfl ?_
      refine j_getf F fX6_15 0 rfl rfl dX6_addBytes_20 ?_
      refine j_sipush F (v := 300) dX6_addBytes_23 (by decide) ?_
      refine j_icmp_ge F 49 dX6_addBytes_26 (by decide) (fun c_26 => absurd c_26 (nI_ge (b := 300) (by have e1 : bcnt x i + 1 = bcnt x (i + 1) := (if_neg c_16).symm; omega) (by decide))) (fun c_26 => ?_)
      refine j_aload_n F 2 dX6_addBytes_29 rfl ?_
      refine j_getf F fX6_9 0 rfl rfl dX6_addBytes_30 ?_
      refine j_aload_n F 2 dX6_addBytes_33 rfl ?_
      refine j_getf F fX6_15 0 rfl rfl dX6_addBytes_34 ?_
      refine j_iload_n F 0 dX6_addBytes_37 rfl ?_
      refine j_iast F 1 [(t, .inr (6, [.ref b, .int (nI (n + bcnt x i))])), (b, .inl (ay 0, 300, .inl (upd (brow f n x i) (n + bcnt x i) (by4 x (sh4 i)))))] (n + bcnt x i) rfl rfl (by have e1 : bcnt x i + 1 = bcnt x (i + 1) := (if_neg c_16).symm; omega) (Nat.le_of_ble_eq_true rfl) rfl dX6_addBytes_38 ?_
      refine j_aload_n F 2 dX6_addBytes_39 rfl ?_
      refine j_dup F dX6_addBytes_40 rfl ?_
      refine j_getf F fX6_15 0 rfl rfl dX6_addBytes_41 ?_
      refine j_iconst F (v := 1) dX6_addBytes_44 (by decide) ?_
      refine j_iadd F dX6_addBytes_45 ?_
      refine j_top (nI (n + bcnt x i + 1)) (nI_add _ _) ?_
      refine j_putf F fX6_15 0 [(t, .inr (6, [.ref b, .int (nI (n + bcnt x i + 1))])), (b, .inl (ay 0, 300, .inl (upd (brow f n x i) (n + bcnt x i) (by4 x (sh4 i)))))] rfl rfl rfl rfl rfl (Nat.le_of_ble_eq_true rfl) dX6_addBytes_46 ?_
      refine j_iinc F 1 (sh4 (i + 1)) [(2, .int (sh4 (i + 1))), (3, .int (by4 x (sh4 i))), (0, .ref t), (1, .int x)] dX6_addBytes_49 rfl (sh4_next (by omega)) (by decide) rfl ?_
      refine j_goto F 3 dX6_addBytes_52 (by decide) ?_
      have e1 : n + bcnt x i + 1 = n + bcnt x (i + 1) := by rw [Nat.add_assoc]; exact congrArg (n + ·) (if_neg c_16).symm
      have e2 : upd (brow f n x i) (n + bcnt x i) (by4 x (sh4 i)) = brow f n x (i + 1) := (if_neg c_16).symm
      rw [e1, e2]
      refine j_sub [0, 2, 3] [(2, .int (sh4 (i + 1))), (0, .ref t), (1, .int x)] rfl ?_
      exact ih (i + 1) (by omega) (by show 4 - (i + 1) < 4 - i; omega)

set_option maxHeartbeats 4000000 in
set_option maxRecDepth 100000 in
theorem c_X6_empty (l : Launch) (D : va_G) (ay : Nat → ClassId) (t : Nat) (b : Nat) (n : Nat) (f : Nat → Int32) : jM l yX6_empty (jws yX6_empty cX6_empty 2 (some .int)) 0 0 0 0 D ay [.ref t] [(t, .inr (6, [.ref b, .int (nI n)])), (b, .inl (ay 0, 300, .inl f))] (fun v w => v = some (.int (nI n)) ∧ w = [(t, .inr (6, [.ref b, .int (nI 0)])), (b, .inl (ay 0, 300, .inl f))]) := by
  refine jM_of l (by decide) [(0, .ref t)] rfl rfl (fun p9 e9 s9 m9 a9 b9 me9 c9 A9 F => ?_)
  refine j_aload_n F 0 dX6_empty_0 rfl ?_
  refine j_getf F fX6_15 0 rfl rfl dX6_empty_1 ?_
  refine j_istore_n F 1 [(1, .int (nI n)), (0, .ref t)] dX6_empty_4 rfl (by decide) rfl ?_
  refine j_aload_n F 1 dX6_empty_5 rfl ?_
  refine j_iconst F (v := 0) dX6_empty_6 (by decide) ?_
  refine j_putf F fX6_15 0 [(t, .inr (6, [.ref b, .int 0])), (b, .inl (ay 0, 300, .inl f))] rfl rfl rfl rfl rfl (Nat.le_of_ble_eq_true rfl) dX6_empty_7 ?_
  refine j_iload_n F 0 dX6_empty_10 rfl ?_
  exact j_iret F ⟨rfl, rfl⟩ dX6_empty_11 (Nat.le_of_ble_eq_true rfl) (Nat.le_of_ble_eq_true rfl)
