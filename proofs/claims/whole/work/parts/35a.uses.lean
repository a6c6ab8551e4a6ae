set_option maxHeartbeats 4000000 in
set_option maxRecDepth 100000 in
theorem c_X10_uses_no (l : Launch) (D : va_G) (ay : Nat → ClassId) (ad : Nat → Nat) (vi : Nat → Int32) (ga : Nat → Nat → Int32) (m : Nat) (n : Nat) (K : Nat → Int32) (V : Nat → Int32) (key : Int32) (hm : m < 2) (hv : vw (ga 0) (ga 1) (ga 2) m n K V) (hn : n ≤ 101) (hf : ¬ fx K key n < n) : jM l yX10_uses (jws yX10_uses cX10_uses 5 (some .int)) 2 47 0 0 D ay [.ref (ad 0), .int (nI m), .int key] (mW ay ad vi ga) (fun v w => v = some (.int (-1)) ∧ w = (mW ay ad vi ga)) := by
  refine jM_of l (by decide) [(0, .ref (ad 0)), (1, .int (nI m)), (2, .int key)] rfl rfl (fun p9 e9 s9 m9 a9 b9 me9 c9 A9 F => ?_)
  refine j_aload_n F 0 dX10_uses_0 rfl ?_
  refine j_iload_n F 1 dX10_uses_1 rfl ?_
  refine j_iload_n F 2 dX10_uses_2 rfl ?_
  refine j_scallV F kX10_114 (As := [.int (nI m), .int key]) (rest := []) (c_X10_placeIn l D ay ad vi ga m n key (show m < 2 from hm) (show ga 2 m = nI n from hv.1) (show n ≤ 101 from by omega)) 0 0 20 rfl rfl rfl rfl rfl rfl ⟨Nat.le_of_ble_eq_true rfl, Nat.le_of_ble_eq_true rfl⟩ dX10_uses_3 (fun v w hw => ?_)
  obtain ⟨rfl, rfl⟩ := hw
  refine ⟨rfl, (mW ay ad vi ga), (slp_all _ _ rfl).trans rfl, ?_⟩
  refine j_top (fxI K key n) (fxI_c hv.2.1) ?_
  refine j_top (-1) (if_neg hf) ?_
  refine j_istore_n F 3 [(3, .int (-1)), (0, .ref (ad 0)), (1, .int (nI m)), (2, .int key)] dX10_uses_6 rfl (by decide) rfl ?_
  refine j_iload_n F 0 dX10_uses_7 rfl ?_
  refine j_iconst F (v := (-1)) dX10_uses_8 (by decide) ?_
  refine j_icmp_ne F 14 dX10_uses_9 (by decide) (fun c_9 => absurd (by decide) c_9) (fun c_9 => ?_)
  refine j_iconst F (v := (-1)) dX10_uses_12 (by decide) ?_
  exact j_iret F ⟨rfl, rfl⟩ dX10_uses_13 (Nat.le_of_ble_eq_true rfl) (Nat.le_of_ble_eq_true rfl)

set_option maxHeartbeats 4000000 in
set_option maxRecDepth 100000 in
theorem c_X10_uses_yes (l : Launch) (D : va_G) (ay : Nat → ClassId) (ad : Nat → Nat) (vi : Nat → Int32) (ga : Nat → Nat → Int32) (m : Nat) (n : Nat) (K : Nat → Int32) (V : Nat → Int32) (key : Int32) (b : Nat) (hm : m < 2) (hv : vw (ga 0) (ga 1) (ga 2) m n K V) (hn : n ≤ 100) (hvb : vi 4 = nI b) (hb : b ≤ 100 ∧ (m = 0 ∨ n ≤ b)) (hf : fx K key n < n) : jM l yX10_uses (jws yX10_uses cX10_uses 5 (some .int)) 2 47 0 0 D ay [.ref (ad 0), .int (nI m), .int key] (mW ay ad vi ga) (fun v w => v = some (.int (V (fx K key n))) ∧ w = (mW ay ad vi (ups (ups (ups ga 0 (upd (mrs (ga 0) (101 * m) (fx K key n) n) (101 * m + (n - 1)) key)) 1 (upd (mrs (ga 1) (101 * m) (fx K key n) n) (101 * m + (n - 1)) (V (fx K key n)))) 2 (upd (upd (ga 2) m (nI (n - 1))) m (nI (n - 1 + 1)))))) := by
  refine jM_of l (by decide) [(0, .ref (ad 0)), (1, .int (nI m)), (2, .int key)] rfl rfl (fun p9 e9 s9 m9 a9 b9 me9 c9 A9 F => ?_)
  refine j_aload_n F 0 dX10_uses_0 rfl ?_
  refine j_iload_n F 1 dX10_uses_1 rfl ?_
  refine j_iload_n F 2 dX10_uses_2 rfl ?_
  refine j_scallV F kX10_114 (As := [.int (nI m), .int key]) (rest := []) (c_X10_placeIn l D ay ad vi ga m n key (show m < 2 from hm) (show ga 2 m = nI n from hv.1) (show n ≤ 101 from by omega)) 0 0 20 rfl rfl rfl rfl rfl rfl ⟨Nat.le_of_ble_eq_true rfl, Nat.le_of_ble_eq_true rfl⟩ dX10_uses_3 (fun v w hw => ?_)
  obtain ⟨rfl, rfl⟩ := hw
  refine ⟨rfl, (mW ay ad vi ga), (slp_all _ _ rfl).trans rfl, ?_⟩
  refine j_top (fxI K key n) (fxI_c hv.2.1) ?_
  refine j_top (nI (fx K key n)) (if_pos hf) ?_
  refine j_istore_n F 3 [(3, .int (nI (fx K key n))), (0, .ref (ad 0)), (1, .int (nI m)), (2, .int key)] dX10_uses_6 rfl (by decide) rfl ?_
  refine j_iload_n F 0 dX10_uses_7 rfl ?_
  refine j_iconst F (v := (-1)) dX10_uses_8 (by decide) ?_
  refine j_icmp_ne F 14 dX10_uses_9 (by decide) (fun c_9 => ?_) (fun c_9 => absurd c_9 (nI_m1 (by omega)))
  refine j_aload_n F 1 dX10_uses_14 rfl ?_
  refine j_iload_n F 2 dX10_uses_15 rfl ?_
  refine j_iload_n F 0 dX10_uses_16 rfl ?_
  refine j_scallV F kX10_99 (As := [.int (nI m), .int (nI (fx K key n))]) (rest := []) (c_X10_takes l D ay ad vi ga m n (fx K key n) (show m < 2 from hm) (show ga 2 m = nI n from hv.1) (show n ≤ 101 from by omega) (show (fx K key n) < n from hf)) 0 0 20 rfl rfl rfl rfl rfl rfl ⟨Nat.le_of_ble_eq_true rfl, Nat.le_of_ble_eq_true rfl⟩ dX10_uses_17 (fun v w hw => ?_)
  obtain ⟨rfl, rfl⟩ := hw
  refine ⟨rfl, (mW ay ad vi (ups (ups (ups ga 0 (mrs (ga 0) (101 * m) (fx K key n) n)) 1 (mrs (ga 1) (101 * m) (fx K key n) n)) 2 (upd (ga 2) m (nI (n - 1))))), (slp_all _ _ rfl).trans rfl, ?_⟩
  refine j_top (V (fx K key n)) (hv.2.2 _ hf) ?_
  refine j_istore F 4 [(4, .int (V (fx K key n))), (3, .int (nI (fx K key n))), (0, .ref (ad 0)), (1, .int (nI m)), (2, .int key)] dX10_uses_20 (by decide) rfl ?_
  refine j_aload_n F 2 dX10_uses_22 rfl ?_
  refine j_iload_n F 3 dX10_uses_23 rfl ?_
  refine j_iload_n F 4 dX10_uses_24 rfl ?_
  refine j_iload F 0 dX10_uses_25 rfl ?_
  refine j_scallV F kX10_117 (As := [.int (nI m), .int key, .int (V (fx K key n))]) (rest := []) (c_X10_comes_keep l D ay ad vi (ups (ups (ups ga 0 (mrs (ga 0) (101 * m) (fx K key n) n)) 1 (mrs (ga 1) (101 * m) (fx K key n) n)) 2 (upd (ga 2) m (nI (n - 1)))) m (n - 1) b key (V (fx K key n)) (show m < 2 from hm) (show (upd (ga 2) m (nI (n - 1))) m = nI (n - 1) from upd_s) (show (n - 1) ≤ 100 from by omega) (show vi 4 = nI b from hvb) (show b ≤ 100 ∧ (m = 0 ∨ (n - 1) + 1 ≤ b) from ⟨hb.1, by omega⟩)) 0 0 20 rfl rfl rfl rfl rfl rfl ⟨Nat.le_of_ble_eq_true rfl, Nat.le_of_ble_eq_true rfl⟩ dX10_uses_27 (fun v w hw => ?_)
  obtain ⟨rfl, rfl⟩ := hw
  refine ⟨rfl, (mW ay ad vi (ups (ups (ups ga 0 (upd ((mrs (ga 0) (101 * m) (fx K key n) n)) (101 * m + (n - 1)) key)) 1 (upd ((mrs (ga 1) (101 * m) (fx K key n) n)) (101 * m + (n - 1)) (V (fx K key n)))) 2 (upd ((upd (ga 2) m (nI (n - 1)))) m (nI ((n - 1) + 1))))), (slp_all _ _ rfl).trans rfl, ?_⟩
  refine j_iload F 0 dX10_uses_30 rfl ?_
  exact j_iret F ⟨rfl, rfl⟩ dX10_uses_32 (Nat.le_of_ble_eq_true rfl) (Nat.le_of_ble_eq_true rfl)

