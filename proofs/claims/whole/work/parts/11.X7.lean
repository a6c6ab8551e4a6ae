-- ---- Cursor
set_option maxHeartbeats 4000000 in
set_option maxRecDepth 100000 in
theorem c_X1_begin (l : Launch) (D : va_G) (ay : Nat → ClassId) (c : Nat) (bg : Int32) (pl : Int32) (gv : Int32) : jM l yX1_begin (jws yX1_begin cX1_begin 1 none) 0 0 0 0 D ay [.ref c] [(c, .inr (1, [.int bg, .int pl, .int gv]))] (fun v w => v = none ∧ w = [(c, .inr (1, [.int 1, .int 0, .int 0]))]) := by
  refine jM_of l (by decide) [(0, .ref c)] rfl rfl (fun p9 e9 s9 m9 a9 b9 me9 c9 A9 F => ?_)
  refine j_aload_n F 0 dX1_begin_0 rfl ?_
  refine j_iconst F (v := 1) dX1_begin_1 (by decide) ?_
  refine j_putf F fX1_7 0 [(c, .inr (1, [.int 1, .int pl, .int gv]))] rfl rfl rfl rfl rfl (Nat.le_of_ble_eq_true rfl) dX1_begin_2 ?_
  refine j_aload_n F 0 dX1_begin_5 rfl ?_
  refine j_iconst F (v := 0) dX1_begin_6 (by decide) ?_
  refine j_putf F fX1_13 0 [(c, .inr (1, [.int 1, .int 0, .int gv]))] rfl rfl rfl rfl rfl (Nat.le_of_ble_eq_true rfl) dX1_begin_7 ?_
  refine j_aload_n F 0 dX1_begin_10 rfl ?_
  refine j_iconst F (v := 0) dX1_begin_11 (by decide) ?_
  refine j_putf F fX1_17 0 [(c, .inr (1, [.int 1, .int 0, .int 0]))] rfl rfl rfl rfl rfl (Nat.le_of_ble_eq_true rfl) dX1_begin_12 ?_
  exact j_vret F ⟨rfl, rfl⟩ dX1_begin_15 (Nat.le_of_ble_eq_true rfl) (Nat.le_of_ble_eq_true rfl)

set_option maxHeartbeats 4000000 in
set_option maxRecDepth 100000 in
theorem c_X1_end (l : Launch) (D : va_G) (ay : Nat → ClassId) (c : Nat) (bg : Int32) (pl : Int32) (gv : Int32) : jM l yX1_end (jws yX1_end cX1_end 1 none) 0 0 0 0 D ay [.ref c] [(c, .inr (1, [.int bg, .int pl, .int gv]))] (fun v w => v = none ∧ w = [(c, .inr (1, [.int 0, .int pl, .int gv]))]) := by
  refine jM_of l (by decide) [(0, .ref c)] rfl rfl (fun p9 e9 s9 m9 a9 b9 me9 c9 A9 F => ?_)
  refine j_aload_n F 0 dX1_end_0 rfl ?_
  refine j_iconst F (v := 0) dX1_end_1 (by decide) ?_
  refine j_putf F fX1_7 0 [(c, .inr (1, [.int 0, .int pl, .int gv]))] rfl rfl rfl rfl rfl (Nat.le_of_ble_eq_true rfl) dX1_end_2 ?_
  exact j_vret F ⟨rfl, rfl⟩ dX1_end_5 (Nat.le_of_ble_eq_true rfl) (Nat.le_of_ble_eq_true rfl)

set_option maxHeartbeats 4000000 in
set_option maxRecDepth 100000 in
theorem c_X1_isBegun (l : Launch) (D : va_G) (ay : Nat → ClassId) (c : Nat) (bg : Int32) (pl : Int32) (gv : Int32) (hb : bg = 0 ∨ bg = 1) : jM l yX1_isBegun (jws yX1_isBegun cX1_isBegun 1 (some .boolean)) 0 0 0 0 D ay [.ref c] [(c, .inr (1, [.int bg, .int pl, .int gv]))] (fun v w => v = some (.int bg) ∧ w = [(c, .inr (1, [.int bg, .int pl, .int gv]))]) := by
  refine jM_of l (by decide) [(0, .ref c)] rfl rfl (fun p9 e9 s9 m9 a9 b9 me9 c9 A9 F => ?_)
  refine j_aload_n F 0 dX1_isBegun_0 rfl ?_
  refine j_getf F fX1_7 0 rfl rfl dX1_isBegun_1 ?_
  exact j_zret F hb ⟨rfl, rfl⟩ dX1_isBegun_4 (Nat.le_of_ble_eq_true rfl) (Nat.le_of_ble_eq_true rfl)

set_option maxHeartbeats 4000000 in
set_option maxRecDepth 100000 in
theorem c_X1_isAheadOf (l : Launch) (D : va_G) (ay : Nat → ClassId) (c : Nat) (bg : Int32) (pl : Int32) (gv : Int32) (len : Int32) : jM l yX1_isAheadOf (jws yX1_isAheadOf cX1_isAheadOf 2 (some .boolean)) 0 0 0 0 D ay [.ref c, .int len] [(c, .inr (1, [.int bg, .int pl, .int gv]))] (fun v w => v = some (.int (if ¬ bg = 0 ∧ ¬ len ≤ pl then 1 else 0)) ∧ w = [(c, .inr (1, [.int bg, .int pl, .int gv]))]) := by
  refine jM_of l (by decide) [(0, .ref c), (1, .int len)] rfl rfl (fun p9 e9 s9 m9 a9 b9 me9 c9 A9 F => ?_)
  refine j_aload_n F 0 dX1_isAheadOf_0 rfl ?_
  refine j_getf F fX1_7 0 rfl rfl dX1_isAheadOf_1 ?_
  refine j_if_eq F 19 dX1_isAheadOf_4 (by decide) (fun c_4 => ?_) (fun c_4 => ?_)
  · skip
    refine j_iconst F (v := 0) dX1_isAheadOf_19 (by decide) ?_
    exact j_zret F (Or.inl rfl) ⟨by rw [if_neg (fun h => h.1 c_4)], rfl⟩ dX1_isAheadOf_20 (Nat.le_of_ble_eq_true rfl) (Nat.le_of_ble_eq_true rfl)
  · skip
    refine j_aload_n F 0 dX1_isAheadOf_7 rfl ?_
    refine j_getf F fX1_13 0 rfl rfl dX1_isAheadOf_8 ?_
    refine j_iload_n F 1 dX1_isAheadOf_11 rfl ?_
    refine j_icmp_ge F 19 dX1_isAheadOf_12 (by decide) (fun c_12 => ?_) (fun c_12 => ?_)
    · skip
      refine j_iconst F (v := 0) dX1_isAheadOf_19 (by decide) ?_
      exact j_zret F (Or.inl rfl) ⟨by rw [if_neg (fun h => h.2 c_12)], rfl⟩ dX1_isAheadOf_20 (Nat.le_of_ble_eq_true rfl) (Nat.le_of_ble_eq_true rfl)
    · skip
      refine j_iconst F (v := 1) dX1_isAheadOf_15 (by decide) ?_
      refine j_goto F 20 dX1_isAheadOf_16 (by decide) ?_
      exact j_zret F (Or.inr rfl) ⟨by rw [if_pos ⟨c_4, c_12⟩], rfl⟩ dX1_isAheadOf_20 (Nat.le_of_ble_eq_true rfl) (Nat.le_of_ble_eq_true rfl)

set_option maxHeartbeats 4000000 in
set_option maxRecDepth 100000 in
theorem c_X1_canTake (l : Launch) (D : va_G) (ay : Nat → ClassId) (c : Nat) (bg : Int32) (pl : Int32) (gv : Int32) : jM l yX1_canTake (jws yX1_canTake cX1_canTake 1 (some .boolean)) 0 0 0 0 D ay [.ref c] [(c, .inr (1, [.int bg, .int pl, .int gv]))] (fun v w => v = some (.int (if ¬ bg = 0 ∧ ¬ gv = 0 then 1 else 0)) ∧ w = [(c, .inr (1, [.int bg, .int pl, .int gv]))]) := by
  refine jM_of l (by decide) [(0, .ref c)] rfl rfl (fun p9 e9 s9 m9 a9 b9 me9 c9 A9 F => ?_)
  refine j_aload_n F 0 dX1_canTake_0 rfl ?_
  refine j_getf F fX1_7 0 rfl rfl dX1_canTake_1 ?_
  refine j_if_eq F 18 dX1_canTake_4 (by decide) (fun c_4 => ?_) (fun c_4 => ?_)
  · skip
    refine j_iconst F (v := 0) dX1_canTake_18 (by decide) ?_
    exact j_zret F (Or.inl rfl) ⟨by rw [if_neg (fun h => h.1 c_4)], rfl⟩ dX1_canTake_19 (Nat.le_of_ble_eq_true rfl) (Nat.le_of_ble_eq_true rfl)
  · skip
    refine j_aload_n F 0 dX1_canTake_7 rfl ?_
    refine j_getf F fX1_17 0 rfl rfl dX1_canTake_8 ?_
    refine j_if_eq F 18 dX1_canTake_11 (by decide) (fun c_11 => ?_) (fun c_11 => ?_)
    · skip
      refine j_iconst F (v := 0) dX1_canTake_18 (by decide) ?_
      exact j_zret F (Or.inl rfl) ⟨by rw [if_neg (fun h => h.2 c_11)], rfl⟩ dX1_canTake_19 (Nat.le_of_ble_eq_true rfl) (Nat.le_of_ble_eq_true rfl)
    · skip
      refine j_iconst F (v := 1) dX1_canTake_14 (by decide) ?_
      refine j_goto F 19 dX1_canTake_15 (by decide) ?_
      exact j_zret F (Or.inr rfl) ⟨by rw [if_pos ⟨c_4, c_11⟩], rfl⟩ dX1_canTake_19 (Nat.le_of_ble_eq_true rfl) (Nat.le_of_ble_eq_true rfl)

set_option maxHeartbeats 4000000 in
set_option maxRecDepth 100000 in
theorem c_X1_advance (l : Launch) (D : va_G) (ay : Nat → ClassId) (c : Nat) (bg : Int32) (j : Nat) (gv : Int32) : jM l yX1_advance (jws yX1_advance cX1_advance 2 (some .int)) 0 0 0 0 D ay [.ref c] [(c, .inr (1, [.int bg, .int (nI j), .int gv]))] (fun v w => v = some (.int (nI j)) ∧ w = [(c, .inr (1, [.int bg, .int (nI (j + 1)), .int 1]))]) := by
  refine jM_of l (by decide) [(0, .ref c)] rfl rfl (fun p9 e9 s9 m9 a9 b9 me9 c9 A9 F => ?_)
  refine j_aload_n F 0 dX1_advance_0 rfl ?_
  refine j_getf F fX1_13 0 rfl rfl dX1_advance_1 ?_
  refine j_istore_n F 1 [(1, .int (nI j)), (0, .ref c)] dX1_advance_4 rfl (by decide) rfl ?_
  refine j_aload_n F 1 dX1_advance_5 rfl ?_
  refine j_dup F dX1_advance_6 rfl ?_
  refine j_getf F fX1_13 0 rfl rfl dX1_advance_7 ?_
  refine j_iconst F (v := 1) dX1_advance_10 (by decide) ?_
  refine j_iadd F dX1_advance_11 ?_
  refine j_top (nI (j + 1)) (nI_add _ _) ?_
  refine j_putf F fX1_13 0 [(c, .inr (1, [.int bg, .int (nI (j + 1)), .int gv]))] rfl rfl rfl rfl rfl (Nat.le_of_ble_eq_true rfl) dX1_advance_12 ?_
  refine j_aload_n F 1 dX1_advance_15 rfl ?_
  refine j_iconst F (v := 1) dX1_advance_16 (by decide) ?_
  refine j_putf F fX1_17 0 [(c, .inr (1, [.int bg, .int (nI (j + 1)), .int 1]))] rfl rfl rfl rfl rfl (Nat.le_of_ble_eq_true rfl) dX1_advance_17 ?_
  refine j_iload_n F 0 dX1_advance_20 rfl ?_
  exact j_iret F ⟨rfl, rfl⟩ dX1_advance_21 (Nat.le_of_ble_eq_true rfl) (Nat.le_of_ble_eq_true rfl)

set_option maxHeartbeats 4000000 in
set_option maxRecDepth 100000 in
theorem c_X1_stepBack (l : Launch) (D : va_G) (ay : Nat → ClassId) (c : Nat) (bg : Int32) (j : Nat) (gv : Int32) (hj : 1 ≤ j) : jM l yX1_stepBack (jws yX1_stepBack cX1_stepBack 1 (some .int)) 0 0 0 0 D ay [.ref c] [(c, .inr (1, [.int bg, .int (nI j), .int gv]))] (fun v w => v = some (.int (nI (j - 1))) ∧ w = [(c, .inr (1, [.int bg, .int (nI (j - 1)), .int 0]))]) := by
  refine jM_of l (by decide) [(0, .ref c)] rfl rfl (fun p9 e9 s9 m9 a9 b9 me9 c9 A9 F => ?_)
  refine j_aload_n F 0 dX1_stepBack_0 rfl ?_
  refine j_dup F dX1_stepBack_1 rfl ?_
  refine j_getf F fX1_13 0 rfl rfl dX1_stepBack_2 ?_
  refine j_iconst F (v := 1) dX1_stepBack_5 (by decide) ?_
  refine j_isub F dX1_stepBack_6 ?_
  refine j_top (nI (j - 1)) (pk_sub (a := j) (b := 1) hj) ?_
  refine j_putf F fX1_13 0 [(c, .inr (1, [.int bg, .int (nI (j - 1)), .int gv]))] rfl rfl rfl rfl rfl (Nat.le_of_ble_eq_true rfl) dX1_stepBack_7 ?_
  refine j_aload_n F 0 dX1_stepBack_10 rfl ?_
  refine j_iconst F (v := 0) dX1_stepBack_11 (by decide) ?_
  refine j_putf F fX1_17 0 [(c, .inr (1, [.int bg, .int (nI (j - 1)), .int 0]))] rfl rfl rfl rfl rfl (Nat.le_of_ble_eq_true rfl) dX1_stepBack_12 ?_
  refine j_aload_n F 0 dX1_stepBack_15 rfl ?_
  refine j_getf F fX1_13 0 rfl rfl dX1_stepBack_16 ?_
  exact j_iret F ⟨rfl, rfl⟩ dX1_stepBack_19 (Nat.le_of_ble_eq_true rfl) (Nat.le_of_ble_eq_true rfl)

-- ---- UseMap
/-- a use of a key, then the eldest out if there are more than b -/
def stN (f : Nat → Int32) (n : Nat) (key : Int32) (b : Nat) : Nat := if usN f n key ≤ b then usN f n key else usN f n key - 1
def stF (f : Nat → Int32) (n : Nat) (key : Int32) (b : Nat) : Nat → Int32 := if usN f n key ≤ b then usF f n key else shf (usF f n key) 0 (usN f n key)
def sm (g : Nat → Int32) : Nat → Int32
  | 0 => 0
  | n + 1 => sm g n + g n
theorem usN_le {f : Nat → Int32} {n : Nat} {key : Int32} (hn : n ≤ 100) (hq : fx f key n < n ∨ n < 100) : usN f n key ≤ 100 := by
  unfold usN
  split <;> omega
theorem usN_pos {f : Nat → Int32} {n : Nat} {key : Int32} : 0 < usN f n key := by
  unfold usN
  split <;> omega
set_option maxHeartbeats 4000000 in
set_option maxRecDepth 100000 in
theorem c_X7_keys (l : Launch) (D : va_G) (ay : Nat → ClassId) (u : Nat) (o : Nat) (k : Nat) (c : Nat) (va : Nat) (n : Nat) (f : Nat → Int32) (bg : Int32) (pl : Int32) (gv : Int32) (vf : Nat → Int32) (b : Nat) (oc : Int32) (ol : Int32) : jM l yX7_keys (jws yX7_keys cX7_keys 1 (some (.object "LastUseDesk$UseOrder"))) 0 0 0 0 D ay [.ref u] [(u, .inr (7, [.ref o, .ref c, .ref va, .int (nI b), .int oc, .int ol])), (o, .inr (8, [.ref k, .int (nI n)])), (k, .inl (ay 0, 100, .inl f)), (c, .inr (1, [.int bg, .int pl, .int gv])), (va, .inl (ay 0, 100, .inl vf))] (fun v w => v = some (.ref o) ∧ w = [(u, .inr (7, [.ref o, .ref c, .ref va, .int (nI b), .int oc, .int ol])), (o, .inr (8, [.ref k, .int (nI n)])), (k, .inl (ay 0, 100, .inl f)), (c, .inr (1, [.int bg, .int pl, .int gv])), (va, .inl (ay 0, 100, .inl vf))]) := by
  refine jM_of l (by decide) [(0, .ref u)] rfl rfl (fun p9 e9 s9 m9 a9 b9 me9 c9 A9 F => ?_)
  refine j_aload_n F 0 dX7_keys_0 rfl ?_
  refine j_getf F fX7_12 0 rfl rfl dX7_keys_1 ?_
  exact j_aret F ⟨rfl, rfl⟩ dX7_keys_4 (Nat.le_of_ble_eq_true rfl) (Nat.le_of_ble_eq_true rfl)

set_option maxHeartbeats 4000000 in
set_option maxRecDepth 100000 in
theorem c_X7_cursor (l : Launch) (D : va_G) (ay : Nat → ClassId) (u : Nat) (o : Nat) (k : Nat) (c : Nat) (va : Nat) (n : Nat) (f : Nat → Int32) (bg : Int32) (pl : Int32) (gv : Int32) (vf : Nat → Int32) (b : Nat) (oc : Int32) (ol : Int32) : jM l yX7_cursor (jws yX7_cursor cX7_cursor 1 (some (.object "LastUseDesk$Cursor"))) 0 0 0 0 D ay [.ref u] [(u, .inr (7, [.ref o, .ref c, .ref va, .int (nI b), .int oc, .int ol])), (o, .inr (8, [.ref k, .int (nI n)])), (k, .inl (ay 0, 100, .inl f)), (c, .inr (1, [.int bg, .int pl, .int gv])), (va, .inl (ay 0, 100, .inl vf))] (fun v w => v = some (.ref c) ∧ w = [(u, .inr (7, [.ref o, .ref c, .ref va, .int (nI b), .int oc, .int ol])), (o, .inr (8, [.ref k, .int (nI n)])), (k, .inl (ay 0, 100, .inl f)), (c, .inr (1, [.int bg, .int pl, .int gv])), (va, .inl (ay 0, 100, .inl vf))]) := by
  refine jM_of l (by decide) [(0, .ref u)] rfl rfl (fun p9 e9 s9 m9 a9 b9 me9 c9 A9 F => ?_)
  refine j_aload_n F 0 dX7_cursor_0 rfl ?_
  refine j_getf F fX7_21 0 rfl rfl dX7_cursor_1 ?_
  exact j_aret F ⟨rfl, rfl⟩ dX7_cursor_4 (Nat.le_of_ble_eq_true rfl) (Nat.le_of_ble_eq_true rfl)

set_option maxHeartbeats 4000000 in
set_option maxRecDepth 100000 in
theorem c_X7_outCount (l : Launch) (D : va_G) (ay : Nat → ClassId) (u : Nat) (o : Nat) (k : Nat) (c : Nat) (va : Nat) (n : Nat) (f : Nat → Int32) (bg : Int32) (pl : Int32) (gv : Int32) (vf : Nat → Int32) (b : Nat) (oc : Int32) (ol : Int32) : jM l yX7_outCount (jws yX7_outCount cX7_outCount 1 (some .int)) 0 0 0 0 D ay [.ref u] [(u, .inr (7, [.ref o, .ref c, .ref va, .int (nI b), .int oc, .int ol])), (o, .inr (8, [.ref k, .int (nI n)])), (k, .inl (ay 0, 100, .inl f)), (c, .inr (1, [.int bg, .int pl, .int gv])), (va, .inl (ay 0, 100, .inl vf))] (fun v w => v = some (.int oc) ∧ w = [(u, .inr (7, [.ref o, .ref c, .ref va, .int (nI b), .int oc, .int ol])), (o, .inr (8, [.ref k, .int (nI n)])), (k, .inl (ay 0, 100, .inl f)), (c, .inr (1, [.int bg, .int pl, .int gv])), (va, .inl (ay 0, 100, .inl vf))]) := by
  refine jM_of l (by decide) [(0, .ref u)] rfl rfl (fun p9 e9 s9 m9 a9 b9 me9 c9 A9 F => ?_)
  refine j_aload_n F 0 dX7_outCount_0 rfl ?_
  refine j_getf F fX7_29 0 rfl rfl dX7_outCount_1 ?_
  exact j_iret F ⟨rfl, rfl⟩ dX7_outCount_4 (Nat.le_of_ble_eq_true rfl) (Nat.le_of_ble_eq_true rfl)

set_option maxHeartbeats 4000000 in
set_option maxRecDepth 100000 in
theorem c_X7_outLast (l : Launch) (D : va_G) (ay : Nat → ClassId) (u : Nat) (o : Nat) (k : Nat) (c : Nat) (va : Nat) (n : Nat) (f : Nat → Int32) (bg : Int32) (pl : Int32) (gv : Int32) (vf : Nat → Int32) (b : Nat) (oc : Int32) (ol : Int32) : jM l yX7_outLast (jws yX7_outLast cX7_outLast 1 (some .int)) 0 0 0 0 D ay [.ref u] [(u, .inr (7, [.ref o, .ref c, .ref va, .int (nI b), .int oc, .int ol])), (o, .inr (8, [.ref k, .int (nI n)])), (k, .inl (ay 0, 100, .inl f)), (c, .inr (1, [.int bg, .int pl, .int gv])), (va, .inl (ay 0, 100, .inl vf))] (fun v w => v = some (.int ol) ∧ w = [(u, .inr (7, [.ref o, .ref c, .ref va, .int (nI b), .int oc, .int ol])), (o, .inr (8, [.ref k, .int (nI n)])), (k, .inl (ay 0, 100, .inl f)), (c, .inr (1, [.int bg, .int pl, .int gv])), (va, .inl (ay 0, 100, .inl vf))]) := by
  refine jM_of l (by decide) [(0, .ref u)] rfl rfl (fun p9 e9 s9 m9 a9 b9 me9 c9 A9 F => ?_)
  refine j_aload_n F 0 dX7_outLast_0 rfl ?_
  refine j_getf F fX7_33 0 rfl rfl dX7_outLast_1 ?_
  exact j_iret F ⟨rfl, rfl⟩ dX7_outLast_4 (Nat.le_of_ble_eq_true rfl) (Nat.le_of_ble_eq_true rfl)

set_option maxHeartbeats 4000000 in
set_option maxRecDepth 100000 in
theorem c_X7_lookUp (l : Launch) (D : va_G) (ay : Nat → ClassId) (u : Nat) (o : Nat) (k : Nat) (c : Nat) (va : Nat) (n : Nat) (f : Nat → Int32) (bg : Int32) (pl : Int32) (gv : Int32) (vf : Nat → Int32) (b : Nat) (oc : Int32) (ol : Int32) (y : Nat) (hn : n ≤ 100) (hy : y < 100) : jM l yX7_lookUp (jws yX7_lookUp cX7_lookUp 2 (some .int)) 2 43 0 0 D ay [.ref u, .int (nI y)] [(u, .inr (7, [.ref o, .ref c, .ref va, .int (nI b), .int oc, .int ol])), (o, .inr (8, [.ref k, .int (nI n)])), (k, .inl (ay 0, 100, .inl f)), (c, .inr (1, [.int bg, .int pl, .int gv])), (va, .inl (ay 0, 100, .inl vf))] (fun v w => v = some (.int (if fx f (nI y) n < n then vf y else -1)) ∧ w = [(u, .inr (7, [.ref o, .ref c, .ref va, .int (nI b), .int oc, .int ol])), (o, .inr (8, [.ref k, .int (nI n)])), (k, .inl (ay 0, 100, .inl f)), (c, .inr (1, [.int bg, .int pl, .int gv])), (va, .inl (ay 0, 100, .inl vf))]) := by
  refine jM_of l (by decide) [(0, .ref u), (1, .int (nI y))] rfl rfl (fun p9 e9 s9 m9 a9 b9 me9 c9 A9 F => ?_)
  refine j_iload_n F 1 dX7_lookUp_0 rfl ?_
  refine j_if_lt F 30 dX7_lookUp_1 (by decide) (fun c_1 => absurd c_1 (nI_pos (by omega))) (fun c_1 => ?_)
  refine j_iload_n F 1 dX7_lookUp_4 rfl ?_
  refine j_bipush F (v := 100) dX7_lookUp_5 (by decide) ?_
  refine j_icmp_ge F 30 dX7_lookUp_7 (by decide) (fun c_7 => absurd c_7 (nI_ge (b := 100) hy (by decide))) (fun c_7 => ?_)
  refine j_aload_n F 0 dX7_lookUp_10 rfl ?_
  refine j_getf F fX7_12 0 rfl rfl dX7_lookUp_11 ?_
  refine j_iload_n F 1 dX7_lookUp_14 rfl ?_
  refine j_callV F kX7_39 (As := [.int (nI y)]) (rest := []) (c_X8_holds l D ay o k n f (nI y) (by first | assumption | omega)) 1 [1, 2] [0, 3, 4] [(u, .inr (7, [.ref o, .ref c, .ref va, .int (nI b), .int oc, .int ol])), (c, .inr (1, [.int bg, .int pl, .int gv])), (va, .inl (ay 0, 100, .inl vf))] rfl rfl rfl rfl rfl rfl rfl ⟨Nat.le_of_ble_eq_true rfl, Nat.le_of_ble_eq_true rfl⟩ dX7_lookUp_15 (fun v w hw => ?_)
  obtain ⟨rfl, rfl⟩ := hw
  refine j_perm [0, 3, 4, 1, 2] [(u, .inr (7, [.ref o, .ref c, .ref va, .int (nI b), .int oc, .int ol])), (o, .inr (8, [.ref k, .int (nI n)])), (k, .inl (ay 0, 100, .inl f)), (c, .inr (1, [.int bg, .int pl, .int gv])), (va, .inl (ay 0, 100, .inl vf))] rfl rfl ?_
  by_cases hq : fx f (nI y) n < n
  · skip
    refine j_top 1 (if_pos hq) ?_
    refine j_if_eq F 30 dX7_lookUp_18 (by decide) (fun c_18 => absurd c_18 (by decide)) (fun c_18 => ?_)
    refine j_aload_n F 0 dX7_lookUp_21 rfl ?_
    refine j_getf F fX7_25 0 rfl rfl dX7_lookUp_22 ?_
    refine j_iload_n F 1 dX7_lookUp_25 rfl ?_
    refine j_iald F 4 y rfl rfl (by omega) (Nat.le_of_ble_eq_true rfl) dX7_lookUp_26 ?_
    refine j_goto F 31 dX7_lookUp_27 (by decide) ?_
    exact j_iret F ⟨by rw [if_pos hq], rfl⟩ dX7_lookUp_31 (Nat.le_of_ble_eq_true rfl) (Nat.le_of_ble_eq_true rfl)
  · skip
    refine j_top 0 (if_neg hq) ?_
    refine j_if_eq F 30 dX7_lookUp_18 (by decide) (fun c_18 => ?_) (fun c_18 => absurd (by decide) c_18)
    refine j_iconst F (v := (-1)) dX7_lookUp_30 (by decide) ?_
    exact j_iret F ⟨by rw [if_neg hq], rfl⟩ dX7_lookUp_31 (Nat.le_of_ble_eq_true rfl) (Nat.le_of_ble_eq_true rfl)

theorem c_X7_lookUp_of (l : Launch) (D : va_G) (ay : Nat → ClassId) (u : Nat) (o : Nat) (k : Nat) (c : Nat) (va : Nat) (n : Nat) (f : Nat → Int32) (bg : Int32) (pl : Int32) (gv : Int32) (vf : Nat → Int32) (b : Nat) (oc : Int32) (ol : Int32) (y : Nat) (x : Int32) (hn : n ≤ 100) (hy : y < 100) (hx : x = nI y) : jM l yX7_lookUp (jws yX7_lookUp cX7_lookUp 2 (some .int)) 2 43 0 0 D ay [.ref u, .int x] [(u, .inr (7, [.ref o, .ref c, .ref va, .int (nI b), .int oc, .int ol])), (o, .inr (8, [.ref k, .int (nI n)])), (k, .inl (ay 0, 100, .inl f)), (c, .inr (1, [.int bg, .int pl, .int gv])), (va, .inl (ay 0, 100, .inl vf))] (fun v w => v = some (.int (if fx f (nI y) n < n then vf y else -1)) ∧ w = [(u, .inr (7, [.ref o, .ref c, .ref va, .int (nI b), .int oc, .int ol])), (o, .inr (8, [.ref k, .int (nI n)])), (k, .inl (ay 0, 100, .inl f)), (c, .inr (1, [.int bg, .int pl, .int gv])), (va, .inl (ay 0, 100, .inl vf))]) := by
  subst hx
  exact c_X7_lookUp l D ay u o k c va n f bg pl gv vf b oc ol y hn hy

set_option maxHeartbeats 4000000 in
set_option maxRecDepth 100000 in
theorem c_X7_valueIn (l : Launch) (D : va_G) (ay : Nat → ClassId) (u : Nat) (o : Nat) (k : Nat) (c : Nat) (va : Nat) (n : Nat) (f : Nat → Int32) (bg : Int32) (pl : Int32) (gv : Int32) (vf : Nat → Int32) (b : Nat) (oc : Int32) (ol : Int32) (j : Nat) (y : Nat) (hn : n ≤ 100) (hj : j < n) (hy : y < 100) (hf : f j = nI y) : jM l yX7_valueIn (jws yX7_valueIn cX7_valueIn 2 (some .int)) 3 64 0 0 D ay [.ref u, .int (nI j)] [(u, .inr (7, [.ref o, .ref c, .ref va, .int (nI b), .int oc, .int ol])), (o, .inr (8, [.ref k, .int (nI n)])), (k, .inl (ay 0, 100, .inl f)), (c, .inr (1, [.int bg, .int pl, .int gv])), (va, .inl (ay 0, 100, .inl vf))] (fun v w => v = some (.int (vf y)) ∧ w = [(u, .inr (7, [.ref o, .ref c, .ref va, .int (nI b), .int oc, .int ol])), (o, .inr (8, [.ref k, .int (nI n)])), (k, .inl (ay 0, 100, .inl f)), (c, .inr (1, [.int bg, .int pl, .int gv])), (va, .inl (ay 0, 100, .inl vf))]) := by
  refine jM_of l (by decide) [(0, .ref u), (1, .int (nI j))] rfl rfl (fun p9 e9 s9 m9 a9 b9 me9 c9 A9 F => ?_)
  refine j_aload_n F 0 dX7_valueIn_0 rfl ?_
  refine j_aload_n F 0 dX7_valueIn_1 rfl ?_
  refine j_getf F fX7_12 0 rfl rfl dX7_valueIn_2 ?_
  refine j_iload_n F 1 dX7_valueIn_5 rfl ?_
  refine j_callV F kX7_43 (As := [.int (nI j)]) (rest := [.ref u]) (c_X8_keyIn l D ay o k n f j (by first | assumption | omega) (by first | assumption | omega)) 1 [1, 2] [0, 3, 4] [(u, .inr (7, [.ref o, .ref c, .ref va, .int (nI b), .int oc, .int ol])), (c, .inr (1, [.int bg, .int pl, .int gv])), (va, .inl (ay 0, 100, .inl vf))] rfl rfl rfl rfl rfl rfl rfl ⟨Nat.le_of_ble_eq_true rfl, Nat.le_of_ble_eq_true rfl⟩ dX7_valueIn_6 (fun v w hw => ?_)
  obtain ⟨rfl, rfl⟩ := hw
  refine j_perm [0, 3, 4, 1, 2] [(u, .inr (7, [.ref o, .ref c, .ref va, .int (nI b), .int oc, .int ol])), (o, .inr (8, [.ref k, .int (nI n)])), (k, .inl (ay 0, 100, .inl f)), (c, .inr (1, [.int bg, .int pl, .int gv])), (va, .inl (ay 0, 100, .inl vf))] rfl rfl ?_
  refine j_callV F kX7_47 (As := [.int (f j)]) (rest := []) (c_X7_lookUp_of l D ay u o k c va n f bg pl gv vf b oc ol y (f j) hn hy hf) 0 [0, 1, 2, 3, 4] [] [] rfl rfl rfl rfl rfl rfl rfl ⟨Nat.le_of_ble_eq_true rfl, Nat.le_of_ble_eq_true rfl⟩ dX7_valueIn_9 (fun v w hw => ?_)
  obtain ⟨rfl, rfl⟩ := hw
  refine j_perm [0, 1, 2, 3, 4] [(u, .inr (7, [.ref o, .ref c, .ref va, .int (nI b), .int oc, .int ol])), (o, .inr (8, [.ref k, .int (nI n)])), (k, .inl (ay 0, 100, .inl f)), (c, .inr (1, [.int bg, .int pl, .int gv])), (va, .inl (ay 0, 100, .inl vf))] rfl rfl ?_
  exact j_iret F ⟨by rw [if_pos (show fx f (nI y) n < n from Nat.lt_of_le_of_lt (Nat.le_of_not_lt (fun h => fx_no h hf)) hj)], rfl⟩ dX7_valueIn_12 (Nat.le_of_ble_eq_true rfl) (Nat.le_of_ble_eq_true rfl)

set_option maxHeartbeats 4000000 in
set_option maxRecDepth 100000 in
theorem c_X7_recordOut_none (l : Launch) (D : va_G) (ay : Nat → ClassId) (u : Nat) (o : Nat) (k : Nat) (c : Nat) (va : Nat) (n : Nat) (f : Nat → Int32) (bg : Int32) (pl : Int32) (gv : Int32) (vf : Nat → Int32) (b : Nat) (oc : Int32) (ol : Int32) : jM l yX7_recordOut (jws yX7_recordOut cX7_recordOut 2 none) 0 0 0 0 D ay [.ref u, .int (-1)] [(u, .inr (7, [.ref o, .ref c, .ref va, .int (nI b), .int oc, .int ol])), (o, .inr (8, [.ref k, .int (nI n)])), (k, .inl (ay 0, 100, .inl f)), (c, .inr (1, [.int bg, .int pl, .int gv])), (va, .inl (ay 0, 100, .inl vf))] (fun v w => v = none ∧ w = [(u, .inr (7, [.ref o, .ref c, .ref va, .int (nI b), .int oc, .int ol])), (o, .inr (8, [.ref k, .int (nI n)])), (k, .inl (ay 0, 100, .inl f)), (c, .inr (1, [.int bg, .int pl, .int gv])), (va, .inl (ay 0, 100, .inl vf))]) := by
  refine jM_of l (by decide) [(0, .ref u), (1, .int (-1))] rfl rfl (fun p9 e9 s9 m9 a9 b9 me9 c9 A9 F => ?_)
  refine j_iload_n F 1 dX7_recordOut_0 rfl ?_
  refine j_iconst F (v := (-1)) dX7_recordOut_1 (by decide) ?_
  refine j_icmp_eq F 20 dX7_recordOut_2 (by decide) (fun c_2 => ?_) (fun c_2 => absurd rfl c_2)
  exact j_vret F ⟨rfl, rfl⟩ dX7_recordOut_20 (Nat.le_of_ble_eq_true rfl) (Nat.le_of_ble_eq_true rfl)

set_option maxHeartbeats 4000000 in
set_option maxRecDepth 100000 in
theorem c_X7_recordOut (l : Launch) (D : va_G) (ay : Nat → ClassId) (u : Nat) (o : Nat) (k : Nat) (c : Nat) (va : Nat) (n : Nat) (f : Nat → Int32) (bg : Int32) (pl : Int32) (gv : Int32) (vf : Nat → Int32) (b : Nat) (oc : Int32) (ol : Int32) (x : Int32) (hx : ¬ x = -1) : jM l yX7_recordOut (jws yX7_recordOut cX7_recordOut 2 none) 0 0 0 0 D ay [.ref u, .int x] [(u, .inr (7, [.ref o, .ref c, .ref va, .int (nI b), .int oc, .int ol])), (o, .inr (8, [.ref k, .int (nI n)])), (k, .inl (ay 0, 100, .inl f)), (c, .inr (1, [.int bg, .int pl, .int gv])), (va, .inl (ay 0, 100, .inl vf))] (fun v w => v = none ∧ w = [(u, .inr (7, [.ref o, .ref c, .ref va, .int (nI b), .int (oc + 1), .int x])), (o, .inr (8, [.ref k, .int (nI n)])), (k, .inl (ay 0, 100, .inl f)), (c, .inr (1, [.int bg, .int pl, .int gv])), (va, .inl (ay 0, 100, .inl vf))]) := by
  refine jM_of l (by decide) [(0, .ref u), (1, .int x)] rfl rfl (fun p9 e9 s9 m9 a9 b9 me9 c9 A9 F => ?_)
  refine j_iload_n F 1 dX7_recordOut_0 rfl ?_
  refine j_iconst F (v := (-1)) dX7_recordOut_1 (by decide) ?_
  refine j_icmp_eq F 20 dX7_recordOut_2 (by decide) (fun c_2 => absurd c_2 hx) (fun c_2 => ?_)
  refine j_aload_n F 0 dX7_recordOut_5 rfl ?_
  refine j_dup F dX7_recordOut_6 rfl ?_
  refine j_getf F fX7_29 0 rfl rfl dX7_recordOut_7 ?_
  refine j_iconst F (v := 1) dX7_recordOut_10 (by decide) ?_
  refine j_iadd F dX7_recordOut_11 ?_
  refine j_putf F fX7_29 0 [(u, .inr (7, [.ref o, .ref c, .ref va, .int (nI b), .int (oc + 1), .int ol])), (o, .inr (8, [.ref k, .int (nI n)])), (k, .inl (ay 0, 100, .inl f)), (c, .inr (1, [.int bg, .int pl, .int gv])), (va, .inl (ay 0, 100, .inl vf))] rfl rfl rfl rfl rfl (Nat.le_of_ble_eq_true rfl) dX7_recordOut_12 ?_
  refine j_aload_n F 0 dX7_recordOut_15 rfl ?_
  refine j_iload_n F 1 dX7_recordOut_16 rfl ?_
  refine j_putf F fX7_33 0 [(u, .inr (7, [.ref o, .ref c, .ref va, .int (nI b), .int (oc + 1), .int x])), (o, .inr (8, [.ref k, .int (nI n)])), (k, .inl (ay 0, 100, .inl f)), (c, .inr (1, [.int bg, .int pl, .int gv])), (va, .inl (ay 0, 100, .inl vf))] rfl rfl rfl rfl rfl (Nat.le_of_ble_eq_true rfl) dX7_recordOut_17 ?_
  exact j_vret F ⟨rfl, rfl⟩ dX7_recordOut_20 (Nat.le_of_ble_eq_true rfl) (Nat.le_of_ble_eq_true rfl)

set_option maxHeartbeats 4000000 in
set_option maxRecDepth 100000 in
theorem c_X7_store (l : Launch) (D : va_G) (ay : Nat → ClassId) (u : Nat) (o : Nat) (k : Nat) (c : Nat) (va : Nat) (n : Nat) (f : Nat → Int32) (bg : Int32) (pl : Int32) (gv : Int32) (vf : Nat → Int32) (b : Nat) (oc : Int32) (ol : Int32) (y : Nat) (x : Int32) (hn : n ≤ 100) (hy : y < 100) (hq : fx f (nI y) n < n ∨ n < 100) (hb : b < 2 ^ 31) (hz : ¬ usF f n (nI y) 0 = -1) : jM l yX7_store (jws yX7_store cX7_store 4 (some .int)) 3 64 0 0 D ay [.ref u, .int (nI y), .int x] [(u, .inr (7, [.ref o, .ref c, .ref va, .int (nI b), .int oc, .int ol])), (o, .inr (8, [.ref k, .int (nI n)])), (k, .inl (ay 0, 100, .inl f)), (c, .inr (1, [.int bg, .int pl, .int gv])), (va, .inl (ay 0, 100, .inl vf))] (fun v w => v = some (.int (if fx f (nI y) n < n then vf y else -1)) ∧ w = [(u, .inr (7, [.ref o, .ref c, .ref va, .int (nI b), .int (if usN f n (nI y) ≤ b then oc else oc + 1), .int (if usN f n (nI y) ≤ b then ol else usF f n (nI y) 0)])), (o, .inr (8, [.ref k, .int (nI (stN f n (nI y) b))])), (k, .inl (ay 0, 100, .inl (stF f n (nI y) b))), (c, .inr (1, [.int 0, .int pl, .int gv])), (va, .inl (ay 0, 100, .inl (upd vf y x)))]) := by
  refine jM_of l (by decide) [(0, .ref u), (1, .int (nI y)), (2, .int x)] rfl rfl (fun p9 e9 s9 m9 a9 b9 me9 c9 A9 F => ?_)
  refine j_aload_n F 0 dX7_store_0 rfl ?_
  refine j_iload_n F 1 dX7_store_1 rfl ?_
  refine j_callV F kX7_47 (As := [.int (nI y)]) (rest := []) (c_X7_lookUp l D ay u o k c va n f bg pl gv vf b oc ol y (by first | assumption | omega) (by first | assumption | omega)) 0 [0, 1, 2, 3, 4] [] [] rfl rfl rfl rfl rfl rfl rfl ⟨Nat.le_of_ble_eq_true rfl, Nat.le_of_ble_eq_true rfl⟩ dX7_store_2 (fun v w hw => ?_)
  obtain ⟨rfl, rfl⟩ := hw
  refine j_perm [0, 1, 2, 3, 4] [(u, .inr (7, [.ref o, .ref c, .ref va, .int (nI b), .int oc, .int ol])), (o, .inr (8, [.ref k, .int (nI n)])), (k, .inl (ay 0, 100, .inl f)), (c, .inr (1, [.int bg, .int pl, .int gv])), (va, .inl (ay 0, 100, .inl vf))] rfl rfl ?_
  refine j_istore_n F 3 [(3, .int (if fx f (nI y) n < n then vf y else -1)), (0, .ref u), (1, .int (nI y)), (2, .int x)] dX7_store_5 rfl (by decide) rfl ?_
  refine j_aload_n F 1 dX7_store_6 rfl ?_
  refine j_getf F fX7_21 0 rfl rfl dX7_store_7 ?_
  refine j_callV F kX7_50 (As := []) (rest := []) (c_X1_end l D ay c bg pl gv) 3 [3] [0, 1, 2, 4] [(u, .inr (7, [.ref o, .ref c, .ref va, .int (nI b), .int oc, .int ol])), (o, .inr (8, [.ref k, .int (nI n)])), (k, .inl (ay 0, 100, .inl f)), (va, .inl (ay 0, 100, .inl vf))] rfl rfl rfl rfl rfl rfl rfl ⟨Nat.le_of_ble_eq_true rfl, Nat.le_of_ble_eq_true rfl⟩ dX7_store_10 (fun v w hw => ?_)
  obtain ⟨rfl, rfl⟩ := hw
  refine j_perm [0, 1, 2, 4, 3] [(u, .inr (7, [.ref o, .ref c, .ref va, .int (nI b), .int oc, .int ol])), (o, .inr (8, [.ref k, .int (nI n)])), (k, .inl (ay 0, 100, .inl f)), (c, .inr (1, [.int 0, .int pl, .int gv])), (va, .inl (ay 0, 100, .inl vf))] rfl rfl ?_
  refine j_iload_n F 2 dX7_store_13 rfl ?_
  refine j_if_lt F 54 dX7_store_14 (by decide) (fun c_14 => absurd c_14 (nI_pos (by omega))) (fun c_14 => ?_)
  refine j_iload_n F 2 dX7_store_17 rfl ?_
  refine j_bipush F (v := 100) dX7_store_18 (by decide) ?_
  refine j_icmp_ge F 54 dX7_store_20 (by decide) (fun c_20 => absurd c_20 (nI_ge (b := 100) hy (by decide))) (fun c_20 => ?_)
  refine j_aload_n F 1 dX7_store_23 rfl ?_
  refine j_getf F fX7_12 0 rfl rfl dX7_store_24 ?_
  refine j_iload_n F 2 dX7_store_27 rfl ?_
  refine j_callV F kX7_53 (As := [.int (nI y)]) (rest := []) (c_X8_use l D ay o k n f (nI y) hn hq) 1 [1, 2] [0, 3, 4] [(u, .inr (7, [.ref o, .ref c, .ref va, .int (nI b), .int oc, .int ol])), (c, .inr (1, [.int 0, .int pl, .int gv])), (va, .inl (ay 0, 100, .inl vf))] rfl rfl rfl rfl rfl rfl rfl ⟨Nat.le_of_ble_eq_true rfl, Nat.le_of_ble_eq_true rfl⟩ dX7_store_28 (fun v w hw => ?_)
  obtain ⟨rfl, rfl⟩ := hw
  refine j_perm [0, 3, 4, 1, 2] [(u, .inr (7, [.ref o, .ref c, .ref va, .int (nI b), .int oc, .int ol])), (o, .inr (8, [.ref k, .int (nI (usN f n (nI y)))])), (k, .inl (ay 0, 100, .inl (usF f n (nI y)))), (c, .inr (1, [.int 0, .int pl, .int gv])), (va, .inl (ay 0, 100, .inl vf))] rfl rfl ?_
  refine j_pop F dX7_store_31 rfl ?_
  refine j_aload_n F 1 dX7_store_32 rfl ?_
  refine j_getf F fX7_25 0 rfl rfl dX7_store_33 ?_
  refine j_iload_n F 2 dX7_store_36 rfl ?_
  refine j_iload_n F 3 dX7_store_37 rfl ?_
  refine j_iast F 4 [(u, .inr (7, [.ref o, .ref c, .ref va, .int (nI b), .int oc, .int ol])), (o, .inr (8, [.ref k, .int (nI (usN f n (nI y)))])), (k, .inl (ay 0, 100, .inl (usF f n (nI y)))), (c, .inr (1, [.int 0, .int pl, .int gv])), (va, .inl (ay 0, 100, .inl (upd vf y x)))] y rfl rfl (by omega) (Nat.le_of_ble_eq_true rfl) rfl dX7_store_38 ?_
  refine j_aload_n F 1 dX7_store_39 rfl ?_
  refine j_aload_n F 1 dX7_store_40 rfl ?_
  refine j_getf F fX7_12 0 rfl rfl dX7_store_41 ?_
  refine j_aload_n F 1 dX7_store_44 rfl ?_
  refine j_getf F fX7_36 0 rfl rfl dX7_store_45 ?_
  refine j_callV F kX7_56 (As := [.int (nI b)]) (rest := [.ref u]) (c_X8_dropBeyond l D ay o k (usN f n (nI y)) (usF f n (nI y)) b (usN_le hn hq) hb) 1 [1, 2] [0, 3, 4] [(u, .inr (7, [.ref o, .ref c, .ref va, .int (nI b), .int oc, .int ol])), (c, .inr (1, [.int 0, .int pl, .int gv])), (va, .inl (ay 0, 100, .inl (upd vf y x)))] rfl rfl rfl rfl rfl rfl rfl ⟨Nat.le_of_ble_eq_true rfl, Nat.le_of_ble_eq_true rfl⟩ dX7_store_48 (fun v w hw => ?_)
  obtain ⟨rfl, rfl⟩ := hw
  refine j_perm [0, 3, 4, 1, 2] [(u, .inr (7, [.ref o, .ref c, .ref va, .int (nI b), .int oc, .int ol])), (o, .inr (8, [.ref k, .int (nI (if (usN f n (nI y)) ≤ b then (usN f n (nI y)) else (usN f n (nI y)) - 1))])), (k, .inl (ay 0, 100, .inl (if (usN f n (nI y)) ≤ b then (usF f n (nI y)) else shf (usF f n (nI y)) 0 (usN f n (nI y))))), (c, .inr (1, [.int 0, .int pl, .int gv])), (va, .inl (ay 0, 100, .inl (upd vf y x)))] rfl rfl ?_
  by_cases hle : usN f n (nI y) ≤ b
  · skip
    refine j_top (-1) (if_pos hle) ?_
    refine j_ws [(u, .inr (7, [.ref o, .ref c, .ref va, .int (nI b), .int oc, .int ol])), (o, .inr (8, [.ref k, .int (nI (stN f n (nI y) b))])), (k, .inl (ay 0, 100, .inl (stF f n (nI y) b))), (c, .inr (1, [.int 0, .int pl, .int gv])), (va, .inl (ay 0, 100, .inl (upd vf y x)))] (by simp only [stN, stF, if_pos hle]) ?_
    skip
    refine j_callV F kX7_59 (As := [.int (-1)]) (rest := []) (c_X7_recordOut_none l D ay u o k c va (stN f n (nI y) b) (stF f n (nI y) b) 0 pl gv (upd vf y x) b oc ol) 0 [0, 1, 2, 3, 4] [] [] rfl rfl rfl rfl rfl rfl rfl ⟨Nat.le_of_ble_eq_true rfl, Nat.le_of_ble_eq_true rfl⟩ dX7_store_51 (fun v w hw => ?_)
    obtain ⟨rfl, rfl⟩ := hw
    refine j_perm [0, 1, 2, 3, 4] [(u, .inr (7, [.ref o, .ref c, .ref va, .int (nI b), .int oc, .int ol])), (o, .inr (8, [.ref k, .int (nI (stN f n (nI y) b))])), (k, .inl (ay 0, 100, .inl (stF f n (nI y) b))), (c, .inr (1, [.int 0, .int pl, .int gv])), (va, .inl (ay 0, 100, .inl (upd vf y x)))] rfl rfl ?_
    refine j_iload_n F 0 dX7_store_54 rfl ?_
    exact j_iret F ⟨rfl, by simp only [if_pos hle]⟩ dX7_store_55 (Nat.le_of_ble_eq_true rfl) (Nat.le_of_ble_eq_true rfl)
  · skip
    refine j_top (usF f n (nI y) 0) (if_neg hle) ?_
    refine j_ws [(u, .inr (7, [.ref o, .ref c, .ref va, .int (nI b), .int oc, .int ol])), (o, .inr (8, [.ref k, .int (nI (stN f n (nI y) b))])), (k, .inl (ay 0, 100, .inl (stF f n (nI y) b))), (c, .inr (1, [.int 0, .int pl, .int gv])), (va, .inl (ay 0, 100, .inl (upd vf y x)))] (by simp only [stN, stF, if_neg hle]) ?_
    skip
    refine j_callV F kX7_59 (As := [.int (usF f n (nI y) 0)]) (rest := []) (c_X7_recordOut l D ay u o k c va (stN f n (nI y) b) (stF f n (nI y) b) 0 pl gv (upd vf y x) b oc ol (usF f n (nI y) 0) (by first | assumption | omega)) 0 [0, 1, 2, 3, 4] [] [] rfl rfl rfl rfl rfl rfl rfl ⟨Nat.le_of_ble_eq_true rfl, Nat.le_of_ble_eq_true rfl⟩ dX7_store_51 (fun v w hw => ?_)
    obtain ⟨rfl, rfl⟩ := hw
    refine j_perm [0, 1, 2, 3, 4] [(u, .inr (7, [.ref o, .ref c, .ref va, .int (nI b), .int (oc + 1), .int (usF f n (nI y) 0)])), (o, .inr (8, [.ref k, .int (nI (stN f n (nI y) b))])), (k, .inl (ay 0, 100, .inl (stF f n (nI y) b))), (c, .inr (1, [.int 0, .int pl, .int gv])), (va, .inl (ay 0, 100, .inl (upd vf y x)))] rfl rfl ?_
    refine j_iload_n F 0 dX7_store_54 rfl ?_
    exact j_iret F ⟨rfl, by simp only [if_neg hle]⟩ dX7_store_55 (Nat.le_of_ble_eq_true rfl) (Nat.le_of_ble_eq_true rfl)

set_option maxHeartbeats 4000000 in
set_option maxRecDepth 100000 in
theorem c_X7_storeIfMissing (l : Launch) (D : va_G) (ay : Nat → ClassId) (u : Nat) (o : Nat) (k : Nat) (c : Nat) (va : Nat) (n : Nat) (f : Nat → Int32) (bg : Int32) (pl : Int32) (gv : Int32) (vf : Nat → Int32) (b : Nat) (oc : Int32) (ol : Int32) (y : Nat) (x : Int32) (hn : n ≤ 100) (hy : y < 100) (hq : fx f (nI y) n < n ∨ n < 100) (hb : b < 2 ^ 31) (hz : ¬ usF f n (nI y) 0 = -1) (hv : fx f (nI y) n < n → ¬ vf y = -1) : jM l yX7_storeIfMissing (jws yX7_storeIfMissing cX7_storeIfMissing 4 (some .int)) 4 87 0 0 D ay [.ref u, .int (nI y), .int x] [(u, .inr (7, [.ref o, .ref c, .ref va, .int (nI b), .int oc, .int ol])), (o, .inr (8, [.ref k, .int (nI n)])), (k, .inl (ay 0, 100, .inl f)), (c, .inr (1, [.int bg, .int pl, .int gv])), (va, .inl (ay 0, 100, .inl vf))] (fun v w => v = some (.int (if fx f (nI y) n < n then vf y else -1)) ∧ w = [(u, .inr (7, [.ref o, .ref c, .ref va, .int (nI b), .int (if usN f n (nI y) ≤ b then oc else oc + 1), .int (if usN f n (nI y) ≤ b then ol else usF f n (nI y) 0)])), (o, .inr (8, [.ref k, .int (nI (stN f n (nI y) b))])), (k, .inl (ay 0, 100, .inl (stF f n (nI y) b))), (c, .inr (1, [.int 0, .int pl, .int gv])), (va, .inl (ay 0, 100, .inl (upd vf y (if fx f (nI y) n < n then vf y else x))))]) := by
  refine jM_of l (by decide) [(0, .ref u), (1, .int (nI y)), (2, .int x)] rfl rfl (fun p9 e9 s9 m9 a9 b9 me9 c9 A9 F => ?_)
  refine j_aload_n F 0 dX7_storeIfMissing_0 rfl ?_
  refine j_iload_n F 1 dX7_storeIfMissing_1 rfl ?_
  refine j_callV F kX7_47 (As := [.int (nI y)]) (rest := []) (c_X7_lookUp l D ay u o k c va n f bg pl gv vf b oc ol y (by first | assumption | omega) (by first | assumption | omega)) 0 [0, 1, 2, 3, 4] [] [] rfl rfl rfl rfl rfl rfl rfl ⟨Nat.le_of_ble_eq_true rfl, Nat.le_of_ble_eq_true rfl⟩ dX7_storeIfMissing_2 (fun v w hw => ?_)
  obtain ⟨rfl, rfl⟩ := hw
  refine j_perm [0, 1, 2, 3, 4] [(u, .inr (7, [.ref o, .ref c, .ref va, .int (nI b), .int oc, .int ol])), (o, .inr (8, [.ref k, .int (nI n)])), (k, .inl (ay 0, 100, .inl f)), (c, .inr (1, [.int bg, .int pl, .int gv])), (va, .inl (ay 0, 100, .inl vf))] rfl rfl ?_
  by_cases hf : fx f (nI y) n < n
  · skip
    refine j_top (vf y) (if_pos hf) ?_
    refine j_istore_n F 3 [(3, .int (vf y)), (0, .ref u), (1, .int (nI y)), (2, .int x)] dX7_storeIfMissing_5 rfl (by decide) rfl ?_
    refine j_aload_n F 1 dX7_storeIfMissing_6 rfl ?_
    refine j_iload_n F 2 dX7_storeIfMissing_7 rfl ?_
    refine j_iload_n F 0 dX7_storeIfMissing_8 rfl ?_
    refine j_iconst F (v := (-1)) dX7_storeIfMissing_9 (by decide) ?_
    refine j_icmp_ne F 17 dX7_storeIfMissing_10 (by decide) (fun c_10 => ?_) (fun c_10 => absurd c_10 (hv hf))
    refine j_iload_n F 0 dX7_storeIfMissing_17 rfl ?_
    refine j_callV F kX7_63 (As := [.int (nI y), .int (vf y)]) (rest := []) (c_X7_store l D ay u o k c va n f bg pl gv vf b oc ol y (vf y) (by first | assumption | omega) (by first | assumption | omega) (by first | assumption | omega) (by first | assumption | omega) (by first | assumption | omega)) 0 [0, 1, 2, 3, 4] [] [] rfl rfl rfl rfl rfl rfl rfl ⟨Nat.le_of_ble_eq_true rfl, Nat.le_of_ble_eq_true rfl⟩ dX7_storeIfMissing_18 (fun v w hw => ?_)
    obtain ⟨rfl, rfl⟩ := hw
    refine j_perm [0, 1, 2, 3, 4] [(u, .inr (7, [.ref o, .ref c, .ref va, .int (nI b), .int (if usN f n (nI y) ≤ b then oc else oc + 1), .int (if usN f n (nI y) ≤ b then ol else usF f n (nI y) 0)])), (o, .inr (8, [.ref k, .int (nI (stN f n (nI y) b))])), (k, .inl (ay 0, 100, .inl (stF f n (nI y) b))), (c, .inr (1, [.int 0, .int pl, .int gv])), (va, .inl (ay 0, 100, .inl (upd vf y (vf y))))] rfl rfl ?_
    exact j_iret F ⟨rfl, by simp only [if_pos hf]⟩ dX7_storeIfMissing_21 (Nat.le_of_ble_eq_true rfl) (Nat.le_of_ble_eq_true rfl)
  · skip
    refine j_top (-1) (if_neg hf) ?_
    refine j_istore_n F 3 [(3, .int (-1)), (0, .ref u), (1, .int (nI y)), (2, .int x)] dX7_storeIfMissing_5 rfl (by decide) rfl ?_
    refine j_aload_n F 1 dX7_storeIfMissing_6 rfl ?_
    refine j_iload_n F 2 dX7_storeIfMissing_7 rfl ?_
    refine j_iload_n F 0 dX7_storeIfMissing_8 rfl ?_
    refine j_iconst F (v := (-1)) dX7_storeIfMissing_9 (by decide) ?_
    refine j_icmp_ne F 17 dX7_storeIfMissing_10 (by decide) (fun c_10 => absurd rfl c_10) (fun c_10 => ?_)
    refine j_iload_n F 3 dX7_storeIfMissing_13 rfl ?_
    refine j_goto F 18 dX7_storeIfMissing_14 (by decide) ?_
    refine j_callV F kX7_63 (As := [.int (nI y), .int x]) (rest := []) (c_X7_store l D ay u o k c va n f bg pl gv vf b oc ol y x (by first | assumption | omega) (by first | assumption | omega) (by first | assumption | omega) (by first | assumption | omega) (by first | assumption | omega)) 0 [0, 1, 2, 3, 4] [] [] rfl rfl rfl rfl rfl rfl rfl ⟨Nat.le_of_ble_eq_true rfl, Nat.le_of_ble_eq_true rfl⟩ dX7_storeIfMissing_18 (fun v w hw => ?_)
    obtain ⟨rfl, rfl⟩ := hw
    refine j_perm [0, 1, 2, 3, 4] [(u, .inr (7, [.ref o, .ref c, .ref va, .int (nI b), .int (if usN f n (nI y) ≤ b then oc else oc + 1), .int (if usN f n (nI y) ≤ b then ol else usF f n (nI y) 0)])), (o, .inr (8, [.ref k, .int (nI (stN f n (nI y) b))])), (k, .inl (ay 0, 100, .inl (stF f n (nI y) b))), (c, .inr (1, [.int 0, .int pl, .int gv])), (va, .inl (ay 0, 100, .inl (upd vf y x)))] rfl rfl ?_
    exact j_iret F ⟨rfl, by simp only [if_neg hf]⟩ dX7_storeIfMissing_21 (Nat.le_of_ble_eq_true rfl) (Nat.le_of_ble_eq_true rfl)

set_option maxHeartbeats 4000000 in
set_option maxRecDepth 100000 in
theorem c_X7_fetch (l : Launch) (D : va_G) (ay : Nat → ClassId) (u : Nat) (o : Nat) (k : Nat) (c : Nat) (va : Nat) (n : Nat) (f : Nat → Int32) (bg : Int32) (pl : Int32) (gv : Int32) (vf : Nat → Int32) (b : Nat) (oc : Int32) (ol : Int32) (y : Nat) (hn : n ≤ 100) (hy : y < 100) (hv : fx f (nI y) n < n → ¬ vf y = -1) : jM l yX7_fetch (jws yX7_fetch cX7_fetch 3 (some .int)) 3 64 0 0 D ay [.ref u, .int (nI y)] [(u, .inr (7, [.ref o, .ref c, .ref va, .int (nI b), .int oc, .int ol])), (o, .inr (8, [.ref k, .int (nI n)])), (k, .inl (ay 0, 100, .inl f)), (c, .inr (1, [.int bg, .int pl, .int gv])), (va, .inl (ay 0, 100, .inl vf))] (fun v w => v = some (.int (if fx f (nI y) n < n then vf y else -1)) ∧ w = [(u, .inr (7, [.ref o, .ref c, .ref va, .int (nI b), .int oc, .int ol])), (o, .inr (8, [.ref k, .int (nI n)])), (k, .inl (ay 0, 100, .inl (if fx f (nI y) n < n then usF f n (nI y) else f))), (c, .inr (1, [.int 0, .int pl, .int gv])), (va, .inl (ay 0, 100, .inl vf))]) := by
  refine jM_of l (by decide) [(0, .ref u), (1, .int (nI y))] rfl rfl (fun p9 e9 s9 m9 a9 b9 me9 c9 A9 F => ?_)
  refine j_aload_n F 0 dX7_fetch_0 rfl ?_
  refine j_iload_n F 1 dX7_fetch_1 rfl ?_
  refine j_callV F kX7_47 (As := [.int (nI y)]) (rest := []) (c_X7_lookUp l D ay u o k c va n f bg pl gv vf b oc ol y (by first | assumption | omega) (by first | assumption | omega)) 0 [0, 1, 2, 3, 4] [] [] rfl rfl rfl rfl rfl rfl rfl ⟨Nat.le_of_ble_eq_true rfl, Nat.le_of_ble_eq_true rfl⟩ dX7_fetch_2 (fun v w hw => ?_)
  obtain ⟨rfl, rfl⟩ := hw
  refine j_perm [0, 1, 2, 3, 4] [(u, .inr (7, [.ref o, .ref c, .ref va, .int (nI b), .int oc, .int ol])), (o, .inr (8, [.ref k, .int (nI n)])), (k, .inl (ay 0, 100, .inl f)), (c, .inr (1, [.int bg, .int pl, .int gv])), (va, .inl (ay 0, 100, .inl vf))] rfl rfl ?_
  by_cases hf : fx f (nI y) n < n
  · skip
    refine j_top (vf y) (if_pos hf) ?_
    refine j_istore_n F 2 [(2, .int (vf y)), (0, .ref u), (1, .int (nI y))] dX7_fetch_5 rfl (by decide) rfl ?_
    refine j_aload_n F 1 dX7_fetch_6 rfl ?_
    refine j_getf F fX7_21 0 rfl rfl dX7_fetch_7 ?_
    refine j_callV F kX7_50 (As := []) (rest := []) (c_X1_end l D ay c bg pl gv) 3 [3] [0, 1, 2, 4] [(u, .inr (7, [.ref o, .ref c, .ref va, .int (nI b), .int oc, .int ol])), (o, .inr (8, [.ref k, .int (nI n)])), (k, .inl (ay 0, 100, .inl f)), (va, .inl (ay 0, 100, .inl vf))] rfl rfl rfl rfl rfl rfl rfl ⟨Nat.le_of_ble_eq_true rfl, Nat.le_of_ble_eq_true rfl⟩ dX7_fetch_10 (fun v w hw => ?_)
    obtain ⟨rfl, rfl⟩ := hw
    refine j_perm [0, 1, 2, 4, 3] [(u, .inr (7, [.ref o, .ref c, .ref va, .int (nI b), .int oc, .int ol])), (o, .inr (8, [.ref k, .int (nI n)])), (k, .inl (ay 0, 100, .inl f)), (c, .inr (1, [.int 0, .int pl, .int gv])), (va, .inl (ay 0, 100, .inl vf))] rfl rfl ?_
    refine j_iload_n F 0 dX7_fetch_13 rfl ?_
    refine j_iconst F (v := (-1)) dX7_fetch_14 (by decide) ?_
    refine j_icmp_eq F 27 dX7_fetch_15 (by decide) (fun c_15 => absurd c_15 (hv hf)) (fun c_15 => ?_)
    refine j_aload_n F 1 dX7_fetch_18 rfl ?_
    refine j_getf F fX7_12 0 rfl rfl dX7_fetch_19 ?_
    refine j_iload_n F 2 dX7_fetch_22 rfl ?_
    refine j_callV F kX7_53 (As := [.int (nI y)]) (rest := []) (c_X8_use l D ay o k n f (nI y) hn (Or.inl hf)) 1 [1, 2] [0, 3, 4] [(u, .inr (7, [.ref o, .ref c, .ref va, .int (nI b), .int oc, .int ol])), (c, .inr (1, [.int 0, .int pl, .int gv])), (va, .inl (ay 0, 100, .inl vf))] rfl rfl rfl rfl rfl rfl rfl ⟨Nat.le_of_ble_eq_true rfl, Nat.le_of_ble_eq_true rfl⟩ dX7_fetch_23 (fun v w hw => ?_)
    obtain ⟨rfl, rfl⟩ := hw
    refine j_perm [0, 3, 4, 1, 2] [(u, .inr (7, [.ref o, .ref c, .ref va, .int (nI b), .int oc, .int ol])), (o, .inr (8, [.ref k, .int (nI (usN f n (nI y)))])), (k, .inl (ay 0, 100, .inl (usF f n (nI y)))), (c, .inr (1, [.int 0, .int pl, .int gv])), (va, .inl (ay 0, 100, .inl vf))] rfl rfl ?_
    refine j_pop F dX7_fetch_26 rfl ?_
    refine j_iload_n F 0 dX7_fetch_27 rfl ?_
    exact j_iret F ⟨by rw [if_pos hf], by simp only [usN, if_pos hf]⟩ dX7_fetch_28 (Nat.le_of_ble_eq_true rfl) (Nat.le_of_ble_eq_true rfl)
  · skip
    refine j_top (-1) (if_neg hf) ?_
    refine j_istore_n F 2 [(2, .int (-1)), (0, .ref u), (1, .int (nI y))] dX7_fetch_5 rfl (by decide) rfl ?_
    refine j_aload_n F 1 dX7_fetch_6 rfl ?_
    refine j_getf F fX7_21 0 rfl rfl dX7_fetch_7 ?_
    refine j_callV F kX7_50 (As := []) (rest := []) (c_X1_end l D ay c bg pl gv) 3 [3] [0, 1, 2, 4] [(u, .inr (7, [.ref o, .ref c, .ref va, .int (nI b), .int oc, .int ol])), (o, .inr (8, [.ref k, .int (nI n)])), (k, .inl (ay 0, 100, .inl f)), (va, .inl (ay 0, 100, .inl vf))] rfl rfl rfl rfl rfl rfl rfl ⟨Nat.le_of_ble_eq_true rfl, Nat.le_of_ble_eq_true rfl⟩ dX7_fetch_10 (fun v w hw => ?_)
    obtain ⟨rfl, rfl⟩ := hw
    refine j_perm [0, 1, 2, 4, 3] [(u, .inr (7, [.ref o, .ref c, .ref va, .int (nI b), .int oc, .int ol])), (o, .inr (8, [.ref k, .int (nI n)])), (k, .inl (ay 0, 100, .inl f)), (c, .inr (1, [.int 0, .int pl, .int gv])), (va, .inl (ay 0, 100, .inl vf))] rfl rfl ?_
    refine j_iload_n F 0 dX7_fetch_13 rfl ?_
    refine j_iconst F (v := (-1)) dX7_fetch_14 (by decide) ?_
    refine j_icmp_eq F 27 dX7_fetch_15 (by decide) (fun c_15 => ?_) (fun c_15 => absurd rfl c_15)
    refine j_iload_n F 0 dX7_fetch_27 rfl ?_
    exact j_iret F ⟨by rw [if_neg hf], by simp only [usN, if_neg hf]⟩ dX7_fetch_28 (Nat.le_of_ble_eq_true rfl) (Nat.le_of_ble_eq_true rfl)

set_option maxHeartbeats 4000000 in
set_option maxRecDepth 100000 in
theorem c_X7_drop (l : Launch) (D : va_G) (ay : Nat → ClassId) (u : Nat) (o : Nat) (k : Nat) (c : Nat) (va : Nat) (n : Nat) (f : Nat → Int32) (bg : Int32) (pl : Int32) (gv : Int32) (vf : Nat → Int32) (b : Nat) (oc : Int32) (ol : Int32) (y : Nat) (hn : n ≤ 100) (hy : y < 100) : jM l yX7_drop (jws yX7_drop cX7_drop 3 (some .int)) 3 64 0 0 D ay [.ref u, .int (nI y)] [(u, .inr (7, [.ref o, .ref c, .ref va, .int (nI b), .int oc, .int ol])), (o, .inr (8, [.ref k, .int (nI n)])), (k, .inl (ay 0, 100, .inl f)), (c, .inr (1, [.int bg, .int pl, .int gv])), (va, .inl (ay 0, 100, .inl vf))] (fun v w => v = some (.int (if fx f (nI y) n < n then vf y else -1)) ∧ w = [(u, .inr (7, [.ref o, .ref c, .ref va, .int (nI b), .int oc, .int ol])), (o, .inr (8, [.ref k, .int (nI (if fx f (nI y) n < n then n - 1 else n))])), (k, .inl (ay 0, 100, .inl (if fx f (nI y) n < n then shf f (fx f (nI y) n) n else f))), (c, .inr (1, [.int 0, .int pl, .int gv])), (va, .inl (ay 0, 100, .inl vf))]) := by
  refine jM_of l (by decide) [(0, .ref u), (1, .int (nI y))] rfl rfl (fun p9 e9 s9 m9 a9 b9 me9 c9 A9 F => ?_)
  refine j_aload_n F 0 dX7_drop_0 rfl ?_
  refine j_iload_n F 1 dX7_drop_1 rfl ?_
  refine j_callV F kX7_47 (As := [.int (nI y)]) (rest := []) (c_X7_lookUp l D ay u o k c va n f bg pl gv vf b oc ol y (by first | assumption | omega) (by first | assumption | omega)) 0 [0, 1, 2, 3, 4] [] [] rfl rfl rfl rfl rfl rfl rfl ⟨Nat.le_of_ble_eq_true rfl, Nat.le_of_ble_eq_true rfl⟩ dX7_drop_2 (fun v w hw => ?_)
  obtain ⟨rfl, rfl⟩ := hw
  refine j_perm [0, 1, 2, 3, 4] [(u, .inr (7, [.ref o, .ref c, .ref va, .int (nI b), .int oc, .int ol])), (o, .inr (8, [.ref k, .int (nI n)])), (k, .inl (ay 0, 100, .inl f)), (c, .inr (1, [.int bg, .int pl, .int gv])), (va, .inl (ay 0, 100, .inl vf))] rfl rfl ?_
  refine j_istore_n F 2 [(2, .int (if fx f (nI y) n < n then vf y else -1)), (0, .ref u), (1, .int (nI y))] dX7_drop_5 rfl (by decide) rfl ?_
  refine j_aload_n F 1 dX7_drop_6 rfl ?_
  refine j_getf F fX7_21 0 rfl rfl dX7_drop_7 ?_
  refine j_callV F kX7_50 (As := []) (rest := []) (c_X1_end l D ay c bg pl gv) 3 [3] [0, 1, 2, 4] [(u, .inr (7, [.ref o, .ref c, .ref va, .int (nI b), .int oc, .int ol])), (o, .inr (8, [.ref k, .int (nI n)])), (k, .inl (ay 0, 100, .inl f)), (va, .inl (ay 0, 100, .inl vf))] rfl rfl rfl rfl rfl rfl rfl ⟨Nat.le_of_ble_eq_true rfl, Nat.le_of_ble_eq_true rfl⟩ dX7_drop_10 (fun v w hw => ?_)
  obtain ⟨rfl, rfl⟩ := hw
  refine j_perm [0, 1, 2, 4, 3] [(u, .inr (7, [.ref o, .ref c, .ref va, .int (nI b), .int oc, .int ol])), (o, .inr (8, [.ref k, .int (nI n)])), (k, .inl (ay 0, 100, .inl f)), (c, .inr (1, [.int 0, .int pl, .int gv])), (va, .inl (ay 0, 100, .inl vf))] rfl rfl ?_
  refine j_aload_n F 1 dX7_drop_13 rfl ?_
  refine j_getf F fX7_12 0 rfl rfl dX7_drop_14 ?_
  refine j_aload_n F 1 dX7_drop_17 rfl ?_
  refine j_getf F fX7_12 0 rfl rfl dX7_drop_18 ?_
  refine j_iload_n F 2 dX7_drop_21 rfl ?_
  refine j_callV F kX7_67 (As := [.int (nI y)]) (rest := [.ref o]) (c_X8_find l D ay o k n f (nI y) (by first | assumption | omega)) 1 [1, 2] [0, 3, 4] [(u, .inr (7, [.ref o, .ref c, .ref va, .int (nI b), .int oc, .int ol])), (c, .inr (1, [.int 0, .int pl, .int gv])), (va, .inl (ay 0, 100, .inl vf))] rfl rfl rfl rfl rfl rfl rfl ⟨Nat.le_of_ble_eq_true rfl, Nat.le_of_ble_eq_true rfl⟩ dX7_drop_22 (fun v w hw => ?_)
  obtain ⟨rfl, rfl⟩ := hw
  refine j_perm [0, 3, 4, 1, 2] [(u, .inr (7, [.ref o, .ref c, .ref va, .int (nI b), .int oc, .int ol])), (o, .inr (8, [.ref k, .int (nI n)])), (k, .inl (ay 0, 100, .inl f)), (c, .inr (1, [.int 0, .int pl, .int gv])), (va, .inl (ay 0, 100, .inl vf))] rfl rfl ?_
  by_cases hf : fx f (nI y) n < n
  · skip
    refine j_top (nI (fx f (nI y) n)) (if_pos hf) ?_
    refine j_callV F kX7_70 (As := [.int (nI (fx f (nI y) n))]) (rest := []) (c_X8_dropIn l D ay o k n f (fx f (nI y) n) hn hf) 1 [1, 2] [0, 3, 4] [(u, .inr (7, [.ref o, .ref c, .ref va, .int (nI b), .int oc, .int ol])), (c, .inr (1, [.int 0, .int pl, .int gv])), (va, .inl (ay 0, 100, .inl vf))] rfl rfl rfl rfl rfl rfl rfl ⟨Nat.le_of_ble_eq_true rfl, Nat.le_of_ble_eq_true rfl⟩ dX7_drop_25 (fun v w hw => ?_)
    obtain ⟨rfl, rfl⟩ := hw
    refine j_perm [0, 3, 4, 1, 2] [(u, .inr (7, [.ref o, .ref c, .ref va, .int (nI b), .int oc, .int ol])), (o, .inr (8, [.ref k, .int (nI (n - 1))])), (k, .inl (ay 0, 100, .inl (shf f (fx f (nI y) n) n))), (c, .inr (1, [.int 0, .int pl, .int gv])), (va, .inl (ay 0, 100, .inl vf))] rfl rfl ?_
    refine j_iload_n F 0 dX7_drop_28 rfl ?_
    exact j_iret F ⟨rfl, by simp only [if_pos hf]⟩ dX7_drop_29 (Nat.le_of_ble_eq_true rfl) (Nat.le_of_ble_eq_true rfl)
  · skip
    refine j_top (-1) (if_neg hf) ?_
    refine j_callV F kX7_70 (As := [.int (-1)]) (rest := []) (c_X8_dropIn_none l D ay o k n f) 1 [1, 2] [0, 3, 4] [(u, .inr (7, [.ref o, .ref c, .ref va, .int (nI b), .int oc, .int ol])), (c, .inr (1, [.int 0, .int pl, .int gv])), (va, .inl (ay 0, 100, .inl vf))] rfl rfl rfl rfl rfl rfl rfl ⟨Nat.le_of_ble_eq_true rfl, Nat.le_of_ble_eq_true rfl⟩ dX7_drop_25 (fun v w hw => ?_)
    obtain ⟨rfl, rfl⟩ := hw
    refine j_perm [0, 3, 4, 1, 2] [(u, .inr (7, [.ref o, .ref c, .ref va, .int (nI b), .int oc, .int ol])), (o, .inr (8, [.ref k, .int (nI n)])), (k, .inl (ay 0, 100, .inl f)), (c, .inr (1, [.int 0, .int pl, .int gv])), (va, .inl (ay 0, 100, .inl vf))] rfl rfl ?_
    refine j_iload_n F 0 dX7_drop_28 rfl ?_
    exact j_iret F ⟨rfl, by simp only [if_neg hf]⟩ dX7_drop_29 (Nat.le_of_ble_eq_true rfl) (Nat.le_of_ble_eq_true rfl)

set_option maxHeartbeats 4000000 in
set_option maxRecDepth 100000 in
theorem c_X7_dropAll (l : Launch) (D : va_G) (ay : Nat → ClassId) (u : Nat) (o : Nat) (k : Nat) (c : Nat) (va : Nat) (n : Nat) (f : Nat → Int32) (bg : Int32) (pl : Int32) (gv : Int32) (vf : Nat → Int32) (b : Nat) (oc : Int32) (ol : Int32) : jM l yX7_dropAll (jws yX7_dropAll cX7_dropAll 2 (some .int)) 1 20 0 0 D ay [.ref u] [(u, .inr (7, [.ref o, .ref c, .ref va, .int (nI b), .int oc, .int ol])), (o, .inr (8, [.ref k, .int (nI n)])), (k, .inl (ay 0, 100, .inl f)), (c, .inr (1, [.int bg, .int pl, .int gv])), (va, .inl (ay 0, 100, .inl vf))] (fun v w => v = some (.int (nI n)) ∧ w = [(u, .inr (7, [.ref o, .ref c, .ref va, .int (nI b), .int oc, .int ol])), (o, .inr (8, [.ref k, .int (nI 0)])), (k, .inl (ay 0, 100, .inl f)), (c, .inr (1, [.int 0, .int pl, .int gv])), (va, .inl (ay 0, 100, .inl vf))]) := by
  refine jM_of l (by decide) [(0, .ref u)] rfl rfl (fun p9 e9 s9 m9 a9 b9 me9 c9 A9 F => ?_)
  refine j_aload_n F 0 dX7_dropAll_0 rfl ?_
  refine j_getf F fX7_12 0 rfl rfl dX7_dropAll_1 ?_
  refine j_callV F kX7_73 (As := []) (rest := []) (c_X8_length l D ay o k n f) 1 [1, 2] [0, 3, 4] [(u, .inr (7, [.ref o, .ref c, .ref va, .int (nI b), .int oc, .int ol])), (c, .inr (1, [.int bg, .int pl, .int gv])), (va, .inl (ay 0, 100, .inl vf))] rfl rfl rfl rfl rfl rfl rfl ⟨Nat.le_of_ble_eq_true rfl, Nat.le_of_ble_eq_true rfl⟩ dX7_dropAll_4 (fun v w hw => ?_)
  obtain ⟨rfl, rfl⟩ := hw
  refine j_perm [0, 3, 4, 1, 2] [(u, .inr (7, [.ref o, .ref c, .ref va, .int (nI b), .int oc, .int ol])), (o, .inr (8, [.ref k, .int (nI n)])), (k, .inl (ay 0, 100, .inl f)), (c, .inr (1, [.int bg, .int pl, .int gv])), (va, .inl (ay 0, 100, .inl vf))] rfl rfl ?_
  refine j_istore_n F 1 [(1, .int (nI n)), (0, .ref u)] dX7_dropAll_7 rfl (by decide) rfl ?_
  refine j_aload_n F 1 dX7_dropAll_8 rfl ?_
  refine j_getf F fX7_21 0 rfl rfl dX7_dropAll_9 ?_
  refine j_callV F kX7_50 (As := []) (rest := []) (c_X1_end l D ay c bg pl gv) 3 [3] [0, 1, 2, 4] [(u, .inr (7, [.ref o, .ref c, .ref va, .int (nI b), .int oc, .int ol])), (o, .inr (8, [.ref k, .int (nI n)])), (k, .inl (ay 0, 100, .inl f)), (va, .inl (ay 0, 100, .inl vf))] rfl rfl rfl rfl rfl rfl rfl ⟨Nat.le_of_ble_eq_true rfl, Nat.le_of_ble_eq_true rfl⟩ dX7_dropAll_12 (fun v w hw => ?_)
  obtain ⟨rfl, rfl⟩ := hw
  refine j_perm [0, 1, 2, 4, 3] [(u, .inr (7, [.ref o, .ref c, .ref va, .int (nI b), .int oc, .int ol])), (o, .inr (8, [.ref k, .int (nI n)])), (k, .inl (ay 0, 100, .inl f)), (c, .inr (1, [.int 0, .int pl, .int gv])), (va, .inl (ay 0, 100, .inl vf))] rfl rfl ?_
  refine j_aload_n F 1 dX7_dropAll_15 rfl ?_
  refine j_getf F fX7_12 0 rfl rfl dX7_dropAll_16 ?_
  refine j_callV F kX7_77 (As := []) (rest := []) (c_X8_dropAll l D ay o k n f) 1 [1, 2] [0, 3, 4] [(u, .inr (7, [.ref o, .ref c, .ref va, .int (nI b), .int oc, .int ol])), (c, .inr (1, [.int 0, .int pl, .int gv])), (va, .inl (ay 0, 100, .inl vf))] rfl rfl rfl rfl rfl rfl rfl ⟨Nat.le_of_ble_eq_true rfl, Nat.le_of_ble_eq_true rfl⟩ dX7_dropAll_19 (fun v w hw => ?_)
  obtain ⟨rfl, rfl⟩ := hw
  refine j_perm [0, 3, 4, 1, 2] [(u, .inr (7, [.ref o, .ref c, .ref va, .int (nI b), .int oc, .int ol])), (o, .inr (8, [.ref k, .int (nI 0)])), (k, .inl (ay 0, 100, .inl f)), (c, .inr (1, [.int 0, .int pl, .int gv])), (va, .inl (ay 0, 100, .inl vf))] rfl rfl ?_
  refine j_iload_n F 0 dX7_dropAll_22 rfl ?_
  exact j_iret F ⟨rfl, rfl⟩ dX7_dropAll_23 (Nat.le_of_ble_eq_true rfl) (Nat.le_of_ble_eq_true rfl)

set_option maxHeartbeats 4000000 in
set_option maxRecDepth 100000 in
theorem c_X7_changeBound (l : Launch) (D : va_G) (ay : Nat → ClassId) (u : Nat) (o : Nat) (k : Nat) (c : Nat) (va : Nat) (n : Nat) (f : Nat → Int32) (bg : Int32) (pl : Int32) (gv : Int32) (vf : Nat → Int32) (b : Nat) (oc : Int32) (ol : Int32) (x : Int32) : jM l yX7_changeBound (jws yX7_changeBound cX7_changeBound 3 (some .int)) 2 41 0 0 D ay [.ref u, .int x] [(u, .inr (7, [.ref o, .ref c, .ref va, .int (nI b), .int oc, .int ol])), (o, .inr (8, [.ref k, .int (nI n)])), (k, .inl (ay 0, 100, .inl f)), (c, .inr (1, [.int bg, .int pl, .int gv])), (va, .inl (ay 0, 100, .inl vf))] (fun v w => v = some (.int (nI b)) ∧ w = [(u, .inr (7, [.ref o, .ref c, .ref va, .int x, .int oc, .int ol])), (o, .inr (8, [.ref k, .int (nI 0)])), (k, .inl (ay 0, 100, .inl f)), (c, .inr (1, [.int 0, .int pl, .int gv])), (va, .inl (ay 0, 100, .inl vf))]) := by
  refine jM_of l (by decide) [(0, .ref u), (1, .int x)] rfl rfl (fun p9 e9 s9 m9 a9 b9 me9 c9 A9 F => ?_)
  refine j_aload_n F 0 dX7_changeBound_0 rfl ?_
  refine j_getf F fX7_36 0 rfl rfl dX7_changeBound_1 ?_
  refine j_istore_n F 2 [(2, .int (nI b)), (0, .ref u), (1, .int x)] dX7_changeBound_4 rfl (by decide) rfl ?_
  refine j_aload_n F 1 dX7_changeBound_5 rfl ?_
  refine j_callV F kX7_80 (As := []) (rest := []) (c_X7_dropAll l D ay u o k c va n f bg pl gv vf b oc ol) 0 [0, 1, 2, 3, 4] [] [] rfl rfl rfl rfl rfl rfl rfl ⟨Nat.le_of_ble_eq_true rfl, Nat.le_of_ble_eq_true rfl⟩ dX7_changeBound_6 (fun v w hw => ?_)
  obtain ⟨rfl, rfl⟩ := hw
  refine j_perm [0, 1, 2, 3, 4] [(u, .inr (7, [.ref o, .ref c, .ref va, .int (nI b), .int oc, .int ol])), (o, .inr (8, [.ref k, .int (nI 0)])), (k, .inl (ay 0, 100, .inl f)), (c, .inr (1, [.int 0, .int pl, .int gv])), (va, .inl (ay 0, 100, .inl vf))] rfl rfl ?_
  refine j_pop F dX7_changeBound_9 rfl ?_
  refine j_aload_n F 1 dX7_changeBound_10 rfl ?_
  refine j_iload_n F 2 dX7_changeBound_11 rfl ?_
  refine j_putf F fX7_36 0 [(u, .inr (7, [.ref o, .ref c, .ref va, .int x, .int oc, .int ol])), (o, .inr (8, [.ref k, .int (nI 0)])), (k, .inl (ay 0, 100, .inl f)), (c, .inr (1, [.int 0, .int pl, .int gv])), (va, .inl (ay 0, 100, .inl vf))] rfl rfl rfl rfl rfl (Nat.le_of_ble_eq_true rfl) dX7_changeBound_12 ?_
  refine j_iload_n F 0 dX7_changeBound_15 rfl ?_
  exact j_iret F ⟨rfl, rfl⟩ dX7_changeBound_16 (Nat.le_of_ble_eq_true rfl) (Nat.le_of_ble_eq_true rfl)

set_option maxHeartbeats 4000000 in
set_option maxRecDepth 100000 in
theorem c_X7_holdsValue (l : Launch) (D : va_G) (ay : Nat → ClassId) (u : Nat) (o : Nat) (k : Nat) (c : Nat) (va : Nat) (n : Nat) (f : Nat → Int32) (bg : Int32) (pl : Int32) (gv : Int32) (vf : Nat → Int32) (b : Nat) (oc : Int32) (ol : Int32) (kf : Nat → Nat) (x : Int32) (hn : n ≤ 100) (hk : ∀ j, j < n → kf j < 100 ∧ f j = nI (kf j)) : jM l yX7_holdsValue (jws yX7_holdsValue cX7_holdsValue 3 (some .boolean)) 4 85 0 0 D ay [.ref u, .int x] [(u, .inr (7, [.ref o, .ref c, .ref va, .int (nI b), .int oc, .int ol])), (o, .inr (8, [.ref k, .int (nI n)])), (k, .inl (ay 0, 100, .inl f)), (c, .inr (1, [.int bg, .int pl, .int gv])), (va, .inl (ay 0, 100, .inl vf))] (fun v w => v = some (.int (if fx (fun j => vf (kf j)) x n < n then 1 else 0)) ∧ w = [(u, .inr (7, [.ref o, .ref c, .ref va, .int (nI b), .int oc, .int ol])), (o, .inr (8, [.ref k, .int (nI n)])), (k, .inl (ay 0, 100, .inl f)), (c, .inr (1, [.int bg, .int pl, .int gv])), (va, .inl (ay 0, 100, .inl vf))]) := by
  refine jM_of l (by decide) [(0, .ref u), (1, .int x)] rfl rfl (fun p9 e9 s9 m9 a9 b9 me9 c9 A9 F => ?_)
  refine j_iconst F (v := 0) dX7_holdsValue_0 (by decide) ?_
  refine j_istore_n F 2 [(2, .int 0), (0, .ref u), (1, .int x)] dX7_holdsValue_1 rfl (by decide) rfl ?_
  refine j_loop (σ := Nat) (fun i => i ≤ n ∧ ∀ j, j < i → vf (kf j) ≠ x) (fun i => n - i) (fun i => [(2, .int (nI i)), (0, .ref u), (1, .int x)]) (fun _ => [(u, .inr (7, [.ref o, .ref c, .ref va, .int (nI b), .int oc, .int ol])), (o, .inr (8, [.ref k, .int (nI n)])), (k, .inl (ay 0, 100, .inl f)), (c, .inr (1, [.int bg, .int pl, .int gv])), (va, .inl (ay 0, 100, .inl vf))]) 0 ⟨Nat.zero_le _, fun j h => absurd h (Nat.not_lt_zero j)⟩ rfl rfl (fun i hI ih => ?_)
  obtain ⟨hi, hno⟩ := hI
  refine j_iload_n F 0 dX7_holdsValue_2 rfl ?_
  refine j_aload_n F 1 dX7_holdsValue_3 rfl ?_
  refine j_getf F fX7_12 0 rfl rfl dX7_holdsValue_4 ?_
  refine j_callV F kX7_73 (As := []) (rest := [.int (nI i)]) (c_X8_length l D ay o k n f) 1 [1, 2] [0, 3, 4] [(u, .inr (7, [.ref o, .ref c, .ref va, .int (nI b), .int oc, .int ol])), (c, .inr (1, [.int bg, .int pl, .int gv])), (va, .inl (ay 0, 100, .inl vf))] rfl rfl rfl rfl rfl rfl rfl ⟨Nat.le_of_ble_eq_true rfl, Nat.le_of_ble_eq_true rfl⟩ dX7_holdsValue_7 (fun v w hw => ?_)
  obtain ⟨rfl, rfl⟩ := hw
  refine j_perm [0, 3, 4, 1, 2] [(u, .inr (7, [.ref o, .ref c, .ref va, .int (nI b), .int oc, .int ol])), (o, .inr (8, [.ref k, .int (nI n)])), (k, .inl (ay 0, 100, .inl f)), (c, .inr (1, [.int bg, .int pl, .int gv])), (va, .inl (ay 0, 100, .inl vf))] rfl rfl ?_
  refine j_icmp_ge F 30 dX7_holdsValue_10 (by decide) (fun c_10 => ?_) (fun c_10 => ?_)
  · skip
    have n_10 := (n_le n i rfl rfl (by omega) (by omega)).mp c_10
    refine j_iconst F (v := 0) dX7_holdsValue_30 (by decide) ?_
    exact j_zret F (Or.inl rfl) ⟨by rw [fx_none (f := fun j => vf (kf j)) (fun j hj => hno j (by omega)), if_neg (by omega)], rfl⟩ dX7_holdsValue_31 (Nat.le_of_ble_eq_true rfl) (Nat.le_of_ble_eq_true rfl)
  · skip
    have n_10 := mt (n_le n i rfl rfl (by omega) (by omega)).mpr c_10
    refine j_aload_n F 1 dX7_holdsValue_13 rfl ?_
    refine j_iload_n F 0 dX7_holdsValue_14 rfl ?_
    refine j_callV F kX7_82 (As := [.int (nI i)]) (rest := []) (c_X7_valueIn l D ay u o k c va n f bg pl gv vf b oc ol i (kf i) hn (by omega) (hk i (by omega)).1 (hk i (by omega)).2) 0 [0, 1, 2, 3, 4] [] [] rfl rfl rfl rfl rfl rfl rfl ⟨Nat.le_of_ble_eq_true rfl, Nat.le_of_ble_eq_true rfl⟩ dX7_holdsValue_15 (fun v w hw => ?_)
    obtain ⟨rfl, rfl⟩ := hw
    refine j_perm [0, 1, 2, 3, 4] [(u, .inr (7, [.ref o, .ref c, .ref va, .int (nI b), .int oc, .int ol])), (o, .inr (8, [.ref k, .int (nI n)])), (k, .inl (ay 0, 100, .inl f)), (c, .inr (1, [.int bg, .int pl, .int gv])), (va, .inl (ay 0, 100, .inl vf))] rfl rfl ?_
    refine j_iload_n F 2 dX7_holdsValue_18 rfl ?_
    refine j_icmp_ne F 24 dX7_holdsValue_19 (by decide) (fun c_19 => ?_) (fun c_19 => ?_)
    · skip
      refine j_iinc F 0 (nI (i + 1)) [(2, .int (nI (i + 1))), (0, .ref u), (1, .int x)] dX7_holdsValue_24 rfl (nI_1 _) (by decide) rfl ?_
      refine j_goto F 2 dX7_holdsValue_27 (by decide) ?_
      exact ih (i + 1) ⟨by omega, fun j hj => by
          by_cases h : j = i
          · rw [h]; exact c_19
          · exact hno j (by omega)⟩ (by show n - (i + 1) < n - i; omega)
    · skip
      refine j_iconst F (v := 1) dX7_holdsValue_22 (by decide) ?_
      exact j_zret F (Or.inr rfl) ⟨by rw [fx_at (f := fun j => vf (kf j)) (show i < n by omega) hno c_19, if_pos (by omega)], rfl⟩ dX7_holdsValue_23 (Nat.le_of_ble_eq_true rfl) (Nat.le_of_ble_eq_true rfl)

set_option maxHeartbeats 4000000 in
set_option maxRecDepth 100000 in
theorem c_X7_total (l : Launch) (D : va_G) (ay : Nat → ClassId) (u : Nat) (o : Nat) (k : Nat) (c : Nat) (va : Nat) (n : Nat) (f : Nat → Int32) (bg : Int32) (pl : Int32) (gv : Int32) (vf : Nat → Int32) (b : Nat) (oc : Int32) (ol : Int32) (kf : Nat → Nat) (hn : n ≤ 100) (hk : ∀ j, j < n → kf j < 100 ∧ f j = nI (kf j)) : jM l yX7_total (jws yX7_total cX7_total 3 (some .int)) 4 85 0 0 D ay [.ref u] [(u, .inr (7, [.ref o, .ref c, .ref va, .int (nI b), .int oc, .int ol])), (o, .inr (8, [.ref k, .int (nI n)])), (k, .inl (ay 0, 100, .inl f)), (c, .inr (1, [.int bg, .int pl, .int gv])), (va, .inl (ay 0, 100, .inl vf))] (fun v w => v = some (.int (sm (fun j => vf (kf j)) n)) ∧ w = [(u, .inr (7, [.ref o, .ref c, .ref va, .int (nI b), .int oc, .int ol])), (o, .inr (8, [.ref k, .int (nI n)])), (k, .inl (ay 0, 100, .inl f)), (c, .inr (1, [.int bg, .int pl, .int gv])), (va, .inl (ay 0, 100, .inl vf))]) := by
  refine jM_of l (by decide) [(0, .ref u)] rfl rfl (fun p9 e9 s9 m9 a9 b9 me9 c9 A9 F => ?_)
  refine j_iconst F (v := 0) dX7_total_0 (by decide) ?_
  refine j_istore_n F 1 [(1, .int 0), (0, .ref u)] dX7_total_1 rfl (by decide) rfl ?_
  refine j_iconst F (v := 0) dX7_total_2 (by decide) ?_
  refine j_istore_n F 2 [(2, .int 0), (1, .int 0), (0, .ref u)] dX7_total_3 rfl (by decide) rfl ?_
  refine j_loop (σ := Nat) (fun i => i ≤ n) (fun i => n - i) (fun i => [(2, .int (nI i)), (1, .int (sm (fun j => vf (kf j)) i)), (0, .ref u)]) (fun _ => [(u, .inr (7, [.ref o, .ref c, .ref va, .int (nI b), .int oc, .int ol])), (o, .inr (8, [.ref k, .int (nI n)])), (k, .inl (ay 0, 100, .inl f)), (c, .inr (1, [.int bg, .int pl, .int gv])), (va, .inl (ay 0, 100, .inl vf))]) 0 (Nat.zero_le _) rfl rfl (fun i hi ih => ?_)
  refine j_iload_n F 0 dX7_total_4 rfl ?_
  refine j_aload_n F 2 dX7_total_5 rfl ?_
  refine j_getf F fX7_12 0 rfl rfl dX7_total_6 ?_
  refine j_callV F kX7_73 (As := []) (rest := [.int (nI i)]) (c_X8_length l D ay o k n f) 1 [1, 2] [0, 3, 4] [(u, .inr (7, [.ref o, .ref c, .ref va, .int (nI b), .int oc, .int ol])), (c, .inr (1, [.int bg, .int pl, .int gv])), (va, .inl (ay 0, 100, .inl vf))] rfl rfl rfl rfl rfl rfl rfl ⟨Nat.le_of_ble_eq_true rfl, Nat.le_of_ble_eq_true rfl⟩ dX7_total_9 (fun v w hw => ?_)
  obtain ⟨rfl, rfl⟩ := hw
  refine j_perm [0, 3, 4, 1, 2] [(u, .inr (7, [.ref o, .ref c, .ref va, .int (nI b), .int oc, .int ol])), (o, .inr (8, [.ref k, .int (nI n)])), (k, .inl (ay 0, 100, .inl f)), (c, .inr (1, [.int bg, .int pl, .int gv])), (va, .inl (ay 0, 100, .inl vf))] rfl rfl ?_
  refine j_icmp_ge F 29 dX7_total_12 (by decide) (fun c_12 => ?_) (fun c_12 => ?_)
  · skip
    have n_12 := (n_le n i rfl rfl (by omega) (by omega)).mp c_12
    refine j_iload_n F 1 dX7_total_29 rfl ?_
    exact j_iret F ⟨by rw [show i = n by omega], rfl⟩ dX7_total_30 (Nat.le_of_ble_eq_true rfl) (Nat.le_of_ble_eq_true rfl)
  · skip
    have n_12 := mt (n_le n i rfl rfl (by omega) (by omega)).mpr c_12
    refine j_iload_n F 1 dX7_total_15 rfl ?_
    refine j_aload_n F 2 dX7_total_16 rfl ?_
    refine j_iload_n F 0 dX7_total_17 rfl ?_
    refine j_callV F kX7_82 (As := [.int (nI i)]) (rest := [.int (sm (fun j => vf (kf j)) i)]) (c_X7_valueIn l D ay u o k c va n f bg pl gv vf b oc ol i (kf i) hn (by omega) (hk i (by omega)).1 (hk i (by omega)).2) 0 [0, 1, 2, 3, 4] [] [] rfl rfl rfl rfl rfl rfl rfl ⟨Nat.le_of_ble_eq_true rfl, Nat.le_of_ble_eq_true rfl⟩ dX7_total_18 (fun v w hw => ?_)
    obtain ⟨rfl, rfl⟩ := hw
    refine j_perm [0, 1, 2, 3, 4] [(u, .inr (7, [.ref o, .ref c, .ref va, .int (nI b), .int oc, .int ol])), (o, .inr (8, [.ref k, .int (nI n)])), (k, .inl (ay 0, 100, .inl f)), (c, .inr (1, [.int bg, .int pl, .int gv])), (va, .inl (ay 0, 100, .inl vf))] rfl rfl ?_
    refine j_iadd F dX7_total_21 ?_
    refine j_top (sm (fun j => vf (kf j)) (i + 1)) rfl ?_
    refine j_istore_n F 1 [(1, .int (sm (fun j => vf (kf j)) (i + 1))), (2, .int (nI i)), (0, .ref u)] dX7_total_22 rfl (by decide) rfl ?_
    refine j_iinc F 1 (nI (i + 1)) [(2, .int (nI (i + 1))), (1, .int (sm (fun j => vf (kf j)) (i + 1))), (0, .ref u)] dX7_total_23 rfl (nI_1 _) (by decide) rfl ?_
    refine j_goto F 4 dX7_total_26 (by decide) ?_
    exact ih (i + 1) (by omega) (by show n - (i + 1) < n - i; omega)
