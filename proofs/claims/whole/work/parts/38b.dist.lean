set_option maxHeartbeats 4000000 in
set_option maxRecDepth 100000 in
theorem c_X10_noCache_ok (l : Launch) (D : va_G) (ay : Nat → ClassId) (ad : Nat → Nat) (vi : Nat → Int32) (ga : Nat → Nat → Int32) (i : Nat) (h0 : vi 0 = 0) (hi : i < 8) : jM l yX10_noCache (jws yX10_noCache cX10_noCache 2 (some .boolean)) 1 22 0 0 D ay [.ref (ad 0), .int (nI (i + 1))] (mW ay ad vi ga) (fun v w => v = some (.int 0) ∧ w = (mW ay ad vi ga)) := by
  refine jM_of l (by decide) [(0, .ref (ad 0)), (1, .int (nI (i + 1)))] rfl rfl (fun p9 e9 s9 m9 a9 b9 me9 c9 A9 F => ?_)
  refine j_aload_n F 0 dX10_noCache_0 rfl ?_
  refine j_iload_n F 1 dX10_noCache_1 rfl ?_
  refine j_iconst F (v := 1) dX10_noCache_2 (by decide) ?_
  refine j_bipush F (v := 8) dX10_noCache_3 (by decide) ?_
  refine j_ecallS F kX10_84 (As := [.int (nI (i + 1)), .int 1, .int 8]) (rest := [.ref (ad 0)]) (c_X10_in l D ay (nI (i + 1)) 1 8 (show ¬ oob (nI (i + 1)) 1 8 from nob8 hi)) rfl rfl rfl rfl ⟨Nat.le_of_ble_eq_true rfl, Nat.le_of_ble_eq_true rfl⟩ dX10_noCache_5 (fun v w hw => ?_)
  obtain ⟨rfl, rfl⟩ := hw
  refine ⟨rfl, ?_⟩
  refine j_top 1 rfl ?_
  refine j_iconst F (v := 1) dX10_noCache_8 (by decide) ?_
  refine j_scallV F kX10_88 (As := [.int 1, .int 1]) (rest := []) (c_X10_fails_ok l D ay ad vi ga 1 (show vi 0 = 0 from h0)) 0 0 20 rfl rfl rfl rfl rfl rfl ⟨Nat.le_of_ble_eq_true rfl, Nat.le_of_ble_eq_true rfl⟩ dX10_noCache_9 (fun v w hw => ?_)
  obtain ⟨rfl, rfl⟩ := hw
  refine ⟨rfl, (mW ay ad vi ga), (slp_all _ _ rfl).trans rfl, ?_⟩
  refine j_top 0 rfl ?_
  exact j_zret F (Or.inl rfl) ⟨rfl, rfl⟩ dX10_noCache_12 (Nat.le_of_ble_eq_true rfl) (Nat.le_of_ble_eq_true rfl)

set_option maxHeartbeats 4000000 in
set_option maxRecDepth 100000 in
theorem c_X10_noCache_no (l : Launch) (D : va_G) (ay : Nat → ClassId) (ad : Nat → Nat) (vi : Nat → Int32) (ga : Nat → Nat → Int32) (x : Int32) (h0 : vi 0 = 0) (h : oob x 1 8) : jM l yX10_noCache (jws yX10_noCache cX10_noCache 2 (some .boolean)) 1 22 0 0 D ay [.ref (ad 0), .int x] (mW ay ad vi ga) (fun v w => v = some (.int 1) ∧ w = (mW ay ad (ups vi 0 1) ga)) := by
  refine jM_of l (by decide) [(0, .ref (ad 0)), (1, .int x)] rfl rfl (fun p9 e9 s9 m9 a9 b9 me9 c9 A9 F => ?_)
  refine j_aload_n F 0 dX10_noCache_0 rfl ?_
  refine j_iload_n F 1 dX10_noCache_1 rfl ?_
  refine j_iconst F (v := 1) dX10_noCache_2 (by decide) ?_
  refine j_bipush F (v := 8) dX10_noCache_3 (by decide) ?_
  refine j_ecallS F kX10_84 (As := [.int x, .int 1, .int 8]) (rest := [.ref (ad 0)]) (c_X10_in_no l D ay x 1 8 (show oob x 1 8 from h)) rfl rfl rfl rfl ⟨Nat.le_of_ble_eq_true rfl, Nat.le_of_ble_eq_true rfl⟩ dX10_noCache_5 (fun v w hw => ?_)
  obtain ⟨rfl, rfl⟩ := hw
  refine ⟨rfl, ?_⟩
  refine j_top 0 rfl ?_
  refine j_iconst F (v := 1) dX10_noCache_8 (by decide) ?_
  refine j_scallV F kX10_88 (As := [.int 0, .int 1]) (rest := []) (c_X10_fails_no l D ay ad vi ga 1 (show vi 0 = 0 from h0) (show ¬ 1 = 0 from by decide)) 0 0 20 rfl rfl rfl rfl rfl rfl ⟨Nat.le_of_ble_eq_true rfl, Nat.le_of_ble_eq_true rfl⟩ dX10_noCache_9 (fun v w hw => ?_)
  obtain ⟨rfl, rfl⟩ := hw
  refine ⟨rfl, (mW ay ad (ups vi 0 1) ga), (slp_all _ _ rfl).trans rfl, ?_⟩
  refine j_top 1 rfl ?_
  exact j_zret F (Or.inr rfl) ⟨rfl, rfl⟩ dX10_noCache_12 (Nat.le_of_ble_eq_true rfl) (Nat.le_of_ble_eq_true rfl)

set_option maxHeartbeats 4000000 in
set_option maxRecDepth 100000 in
theorem c_X10_noRequest_ok (l : Launch) (D : va_G) (ay : Nat → ClassId) (ad : Nat → Nat) (vi : Nat → Int32) (ga : Nat → Nat → Int32) (r : Nat) (c : Nat) (h0 : vi 0 = 0) (h13 : vi 13 = nI c) (hc : c < 2 ^ 31) (hr : r < c) : jM l yX10_noRequest (jws yX10_noRequest cX10_noRequest 2 (some .boolean)) 1 22 0 0 D ay [.ref (ad 0), .int (nI r)] (mW ay ad vi ga) (fun v w => v = some (.int 0) ∧ w = (mW ay ad vi ga)) := by
  refine jM_of l (by decide) [(0, .ref (ad 0)), (1, .int (nI r))] rfl rfl (fun p9 e9 s9 m9 a9 b9 me9 c9 A9 F => ?_)
  refine j_aload_n F 0 dX10_noRequest_0 rfl ?_
  refine j_iload_n F 1 dX10_noRequest_1 rfl ?_
  refine j_iconst F (v := 0) dX10_noRequest_2 (by decide) ?_
  refine j_aload_n F 0 dX10_noRequest_3 rfl ?_
  refine j_getf F fX10_127 0 (v := .int (vi 13)) rfl rfl dX10_noRequest_4 ?_
  refine j_top (nI c) h13 ?_
  refine j_iconst F (v := 1) dX10_noRequest_7 (by decide) ?_
  refine j_isub F dX10_noRequest_8 ?_
  refine j_ecallS F kX10_84 (As := [.int (nI r), .int 0, .int (nI c - 1)]) (rest := [.ref (ad 0)]) (c_X10_in l D ay (nI r) 0 (nI c - 1) (show ¬ oob (nI r) 0 (nI c - 1) from nop hr hc)) rfl rfl rfl rfl ⟨Nat.le_of_ble_eq_true rfl, Nat.le_of_ble_eq_true rfl⟩ dX10_noRequest_9 (fun v w hw => ?_)
  obtain ⟨rfl, rfl⟩ := hw
  refine ⟨rfl, ?_⟩
  refine j_top 1 rfl ?_
  refine j_iconst F (v := 1) dX10_noRequest_12 (by decide) ?_
  refine j_scallV F kX10_88 (As := [.int 1, .int 1]) (rest := []) (c_X10_fails_ok l D ay ad vi ga 1 (show vi 0 = 0 from h0)) 0 0 20 rfl rfl rfl rfl rfl rfl ⟨Nat.le_of_ble_eq_true rfl, Nat.le_of_ble_eq_true rfl⟩ dX10_noRequest_13 (fun v w hw => ?_)
  obtain ⟨rfl, rfl⟩ := hw
  refine ⟨rfl, (mW ay ad vi ga), (slp_all _ _ rfl).trans rfl, ?_⟩
  refine j_top 0 rfl ?_
  exact j_zret F (Or.inl rfl) ⟨rfl, rfl⟩ dX10_noRequest_16 (Nat.le_of_ble_eq_true rfl) (Nat.le_of_ble_eq_true rfl)

set_option maxHeartbeats 4000000 in
set_option maxRecDepth 100000 in
theorem c_X10_noRequest_no (l : Launch) (D : va_G) (ay : Nat → ClassId) (ad : Nat → Nat) (vi : Nat → Int32) (ga : Nat → Nat → Int32) (x : Int32) (c : Nat) (h0 : vi 0 = 0) (h13 : vi 13 = nI c) (hc : c < 2 ^ 31) (h : oop x c) : jM l yX10_noRequest (jws yX10_noRequest cX10_noRequest 2 (some .boolean)) 1 22 0 0 D ay [.ref (ad 0), .int x] (mW ay ad vi ga) (fun v w => v = some (.int 1) ∧ w = (mW ay ad (ups vi 0 1) ga)) := by
  refine jM_of l (by decide) [(0, .ref (ad 0)), (1, .int x)] rfl rfl (fun p9 e9 s9 m9 a9 b9 me9 c9 A9 F => ?_)
  refine j_aload_n F 0 dX10_noRequest_0 rfl ?_
  refine j_iload_n F 1 dX10_noRequest_1 rfl ?_
  refine j_iconst F (v := 0) dX10_noRequest_2 (by decide) ?_
  refine j_aload_n F 0 dX10_noRequest_3 rfl ?_
  refine j_getf F fX10_127 0 (v := .int (vi 13)) rfl rfl dX10_noRequest_4 ?_
  refine j_top (nI c) h13 ?_
  refine j_iconst F (v := 1) dX10_noRequest_7 (by decide) ?_
  refine j_isub F dX10_noRequest_8 ?_
  refine j_ecallS F kX10_84 (As := [.int x, .int 0, .int (nI c - 1)]) (rest := [.ref (ad 0)]) (c_X10_in_no l D ay x 0 (nI c - 1) (show oob x 0 (nI c - 1) from (oop_oob hc).mpr h)) rfl rfl rfl rfl ⟨Nat.le_of_ble_eq_true rfl, Nat.le_of_ble_eq_true rfl⟩ dX10_noRequest_9 (fun v w hw => ?_)
  obtain ⟨rfl, rfl⟩ := hw
  refine ⟨rfl, ?_⟩
  refine j_top 0 rfl ?_
  refine j_iconst F (v := 1) dX10_noRequest_12 (by decide) ?_
  refine j_scallV F kX10_88 (As := [.int 0, .int 1]) (rest := []) (c_X10_fails_no l D ay ad vi ga 1 (show vi 0 = 0 from h0) (show ¬ 1 = 0 from by decide)) 0 0 20 rfl rfl rfl rfl rfl rfl ⟨Nat.le_of_ble_eq_true rfl, Nat.le_of_ble_eq_true rfl⟩ dX10_noRequest_13 (fun v w hw => ?_)
  obtain ⟨rfl, rfl⟩ := hw
  refine ⟨rfl, (mW ay ad (ups vi 0 1) ga), (slp_all _ _ rfl).trans rfl, ?_⟩
  refine j_top 1 rfl ?_
  exact j_zret F (Or.inr rfl) ⟨rfl, rfl⟩ dX10_noRequest_16 (Nat.le_of_ble_eq_true rfl) (Nat.le_of_ble_eq_true rfl)

set_option maxHeartbeats 4000000 in
set_option maxRecDepth 100000 in
theorem c_X10_noAddress_ok (l : Launch) (D : va_G) (ay : Nat → ClassId) (ad : Nat → Nat) (vi : Nat → Int32) (ga : Nat → Nat → Int32) (a : Nat) (h0 : vi 0 = 0) (ha : a < 64) : jM l yX10_noAddress (jws yX10_noAddress cX10_noAddress 2 (some .boolean)) 1 22 0 0 D ay [.ref (ad 0), .int (nI a)] (mW ay ad vi ga) (fun v w => v = some (.int 0) ∧ w = (mW ay ad vi ga)) := by
  refine jM_of l (by decide) [(0, .ref (ad 0)), (1, .int (nI a))] rfl rfl (fun p9 e9 s9 m9 a9 b9 me9 c9 A9 F => ?_)
  refine j_aload_n F 0 dX10_noAddress_0 rfl ?_
  refine j_iload_n F 1 dX10_noAddress_1 rfl ?_
  refine j_iconst F (v := 0) dX10_noAddress_2 (by decide) ?_
  refine j_bipush F (v := 63) dX10_noAddress_3 (by decide) ?_
  refine j_ecallS F kX10_84 (As := [.int (nI a), .int 0, .int 63]) (rest := [.ref (ad 0)]) (c_X10_in l D ay (nI a) 0 63 (show ¬ oob (nI a) 0 63 from nob63 ha)) rfl rfl rfl rfl ⟨Nat.le_of_ble_eq_true rfl, Nat.le_of_ble_eq_true rfl⟩ dX10_noAddress_5 (fun v w hw => ?_)
  obtain ⟨rfl, rfl⟩ := hw
  refine ⟨rfl, ?_⟩
  refine j_top 1 rfl ?_
  refine j_iconst F (v := 1) dX10_noAddress_8 (by decide) ?_
  refine j_scallV F kX10_88 (As := [.int 1, .int 1]) (rest := []) (c_X10_fails_ok l D ay ad vi ga 1 (show vi 0 = 0 from h0)) 0 0 20 rfl rfl rfl rfl rfl rfl ⟨Nat.le_of_ble_eq_true rfl, Nat.le_of_ble_eq_true rfl⟩ dX10_noAddress_9 (fun v w hw => ?_)
  obtain ⟨rfl, rfl⟩ := hw
  refine ⟨rfl, (mW ay ad vi ga), (slp_all _ _ rfl).trans rfl, ?_⟩
  refine j_top 0 rfl ?_
  exact j_zret F (Or.inl rfl) ⟨rfl, rfl⟩ dX10_noAddress_12 (Nat.le_of_ble_eq_true rfl) (Nat.le_of_ble_eq_true rfl)

set_option maxHeartbeats 4000000 in
set_option maxRecDepth 100000 in
theorem c_X10_noAddress_no (l : Launch) (D : va_G) (ay : Nat → ClassId) (ad : Nat → Nat) (vi : Nat → Int32) (ga : Nat → Nat → Int32) (x : Int32) (h0 : vi 0 = 0) (h : oob x 0 63) : jM l yX10_noAddress (jws yX10_noAddress cX10_noAddress 2 (some .boolean)) 1 22 0 0 D ay [.ref (ad 0), .int x] (mW ay ad vi ga) (fun v w => v = some (.int 1) ∧ w = (mW ay ad (ups vi 0 1) ga)) := by
  refine jM_of l (by decide) [(0, .ref (ad 0)), (1, .int x)] rfl rfl (fun p9 e9 s9 m9 a9 b9 me9 c9 A9 F => ?_)
  refine j_aload_n F 0 dX10_noAddress_0 rfl ?_
  refine j_iload_n F 1 dX10_noAddress_1 rfl ?_
  refine j_iconst F (v := 0) dX10_noAddress_2 (by decide) ?_
  refine j_bipush F (v := 63) dX10_noAddress_3 (by decide) ?_
  refine j_ecallS F kX10_84 (As := [.int x, .int 0, .int 63]) (rest := [.ref (ad 0)]) (c_X10_in_no l D ay x 0 63 (show oob x 0 63 from h)) rfl rfl rfl rfl ⟨Nat.le_of_ble_eq_true rfl, Nat.le_of_ble_eq_true rfl⟩ dX10_noAddress_5 (fun v w hw => ?_)
  obtain ⟨rfl, rfl⟩ := hw
  refine ⟨rfl, ?_⟩
  refine j_top 0 rfl ?_
  refine j_iconst F (v := 1) dX10_noAddress_8 (by decide) ?_
  refine j_scallV F kX10_88 (As := [.int 0, .int 1]) (rest := []) (c_X10_fails_no l D ay ad vi ga 1 (show vi 0 = 0 from h0) (show ¬ 1 = 0 from by decide)) 0 0 20 rfl rfl rfl rfl rfl rfl ⟨Nat.le_of_ble_eq_true rfl, Nat.le_of_ble_eq_true rfl⟩ dX10_noAddress_9 (fun v w hw => ?_)
  obtain ⟨rfl, rfl⟩ := hw
  refine ⟨rfl, (mW ay ad (ups vi 0 1) ga), (slp_all _ _ rfl).trans rfl, ?_⟩
  refine j_top 1 rfl ?_
  exact j_zret F (Or.inr rfl) ⟨rfl, rfl⟩ dX10_noAddress_12 (Nat.le_of_ble_eq_true rfl) (Nat.le_of_ble_eq_true rfl)

theorem ups_self {α : Type} {f : Nat → α} {k : Nat} : ups f k (f k) = f := by
  funext q
  show (if q = k then f k else f q) = f q
  split
  · next h => rw [h]
  · rfl
set_option maxHeartbeats 4000000 in
set_option maxRecDepth 100000 in
theorem c_X10_distance (l : Launch) (D : va_G) (ay : Nat → ClassId) (ad : Nat → Nat) (vi : Nat → Int32) (ga : Nat → Nat → Int32) (r : Nat) (n : Nat) (f : Nat → Int32) (R : Nat → Int32) (hk : kI n f) (hL : LO f n R r) (hR : ∀ t, t ≤ r → ga 8 t = R t) (hr : r < 1000) : jM l yX10_distance (jws yX10_distance cX10_distance 4 (some .int)) 0 0 0 0 D ay [.ref (ad 0), .int (nI r)] (mW ay ad vi ga) (fun v w => ∃ (g9 : Nat → Int32), v = some (.int (dsI f n (R r))) ∧ w = (mW ay ad vi (ups ga 9 g9))) := by
  refine jM_of l (by decide) [(0, .ref (ad 0)), (1, .int (nI r))] rfl rfl (fun p9 e9 s9 m9 a9 b9 me9 c9 A9 F => ?_)
  refine j_iconst F (v := 0) dX10_distance_0 (by decide) ?_
  refine j_istore_n F 2 [(2, .int 0), (0, .ref (ad 0)), (1, .int (nI r))] dX10_distance_1 rfl (by decide) rfl ?_
  refine j_loop (σ := Nat × (Nat → Int32)) (fun z => z.1 ≤ 100 ∧ ∀ j, j < z.1 → z.2 j = 0) (fun z => 100 - z.1) (fun z => [(2, .int (nI z.1)), (0, .ref (ad 0)), (1, .int (nI r))]) (fun z => mW ay ad vi (ups ga 9 z.2)) (0, ga 9) ⟨Nat.zero_le _, fun _ h => absurd h (Nat.not_lt_zero _)⟩ rfl (by rw [show ups ga 9 (ga 9) = ga from ups_self]) (fun z hz ih => ?_)
  obtain ⟨i, g9⟩ := z
  obtain ⟨hi, hz⟩ := hz
  replace hi : i ≤ 100 := hi
  replace hz : ∀ j, j < i → g9 j = 0 := hz
  refine j_nf (mW ay ad vi (ups ga 9 g9)) [(2, .int (nI i)), (0, .ref (ad 0)), (1, .int (nI r))] rfl rfl ?_
  refine j_iload_n F 0 dX10_distance_2 rfl ?_
  refine j_bipush F (v := 100) dX10_distance_3 (by decide) ?_
  refine j_icmp_ge F 21 dX10_distance_5 (by decide) (fun c_5 => ?_) (fun c_5 => ?_)
  · skip
    have n_5 := (n_le 100 i rfl rfl (by omega) (by omega)).mp c_5
    refine j_iconst F (v := 0) dX10_distance_21 (by decide) ?_
    refine j_istore_n F 2 [(2, .int 0), (0, .ref (ad 0)), (1, .int (nI r))] dX10_distance_22 rfl (by decide) rfl ?_
    refine j_iload_n F 2 dX10_distance_23 rfl ?_
    refine j_iconst F (v := 1) dX10_distance_24 (by decide) ?_
    refine j_isub F dX10_distance_25 ?_
    refine j_istore_n F 3 [(3, .int (nI r - 1)), (2, .int 0), (0, .ref (ad 0)), (1, .int (nI r))] dX10_distance_26 rfl (by decide) rfl ?_
    obtain ⟨L, hL⟩ := hL
    replace hL : LL f n R r L := hL
    have hn9 := hk.1
    have hd0 := d_0 (g := g9) hL (fun j hj => hz _ (by have := (hk.k j hj).1; omega))
    refine j_loop (σ := Nat × Nat × (Nat → Int32)) (fun z => dI f n R r L z.1 z.2.1 z.2.2) (fun z => z.1) (fun z => [(3, .int (nI z.1 - 1)), (2, .int (nI z.2.1)), (0, .ref (ad 0)), (1, .int (nI r))]) (fun z => mW ay ad vi (ups ga 9 z.2.2)) (r, 0, g9) hd0 rfl rfl (fun z hd ih => ?_)
    obtain ⟨t, q, g1⟩ := z
    replace hd : dI f n R r L t q g1 := hd
    have hq9 : q ≤ n := hd.2.1
    have ht9 : t ≤ r := hd.1
    rcases t with _ | t
    · skip
      refine j_nf (mW ay ad vi (ups ga 9 g1)) [(3, .int (-1)), (2, .int (nI q)), (0, .ref (ad 0)), (1, .int (nI r))] rfl rfl ?_
      refine j_iload_n F 0 dX10_distance_27 rfl ?_
      refine j_if_lt F 88 dX10_distance_28 (by decide) (fun c_28 => ?_) (fun c_28 => absurd (by decide) c_28)
      refine j_iconst F (v := (-1)) dX10_distance_88 (by decide) ?_
      exact j_iret F ⟨g1, by rw [d_none hL hd], rfl⟩ dX10_distance_89 (Nat.le_of_ble_eq_true rfl) (Nat.le_of_ble_eq_true rfl)
    · skip
      refine j_nf (mW ay ad vi (ups ga 9 g1)) [(3, .int (nI t)), (2, .int (nI q)), (0, .ref (ad 0)), (1, .int (nI r))] rfl (by rw [show nI (t + 1) - 1 = nI t from pk_sub (a := t + 1) (b := 1) (by omega)]) ?_
      refine j_iload_n F 0 dX10_distance_27 rfl ?_
      refine j_if_lt F 88 dX10_distance_28 (by decide) (fun c_28 => absurd c_28 (nI_pos (by omega))) (fun c_28 => ?_)
      refine j_aload_n F 2 dX10_distance_31 rfl ?_
      refine j_getf F fX10_45 0 (v := .ref (ad 9)) rfl rfl dX10_distance_32 ?_
      refine j_iload_n F 0 dX10_distance_35 rfl ?_
      refine j_iald F 9 t (f := ga 8) rfl rfl (by omega) (Nat.le_of_ble_eq_true rfl) dX10_distance_36 ?_
      refine j_top (R t) (hR t (by omega)) ?_
      refine j_aload_n F 2 dX10_distance_37 rfl ?_
      refine j_getf F fX10_45 0 (v := .ref (ad 9)) rfl rfl dX10_distance_38 ?_
      refine j_iload_n F 3 dX10_distance_41 rfl ?_
      refine j_iald F 9 r (f := ga 8) rfl rfl (by omega) (Nat.le_of_ble_eq_true rfl) dX10_distance_42 ?_
      refine j_top (R r) (hR r (Nat.le_refl _)) ?_
      refine j_icmp_ne F 48 dX10_distance_43 (by decide) (fun c_43 => ?_) (fun c_43 => ?_)
      · skip
        obtain ⟨j, hj, ej, hcase⟩ := d_step hk hL hd c_43
        have hkj := hk.k j hj
        rcases hcase with ⟨b0, hd2⟩ | ⟨b0, hd2⟩
        · skip
          refine j_iload_n F 1 dX10_distance_48 rfl ?_
          refine j_aload_n F 2 dX10_distance_49 rfl ?_
          refine j_getf F fX10_48 0 (v := .ref (ad 10)) rfl rfl dX10_distance_50 ?_
          refine j_aload_n F 2 dX10_distance_53 rfl ?_
          refine j_getf F fX10_45 0 (v := .ref (ad 9)) rfl rfl dX10_distance_54 ?_
          refine j_iload_n F 0 dX10_distance_57 rfl ?_
          refine j_iald F 9 t (f := ga 8) rfl rfl (by omega) (Nat.le_of_ble_eq_true rfl) dX10_distance_58 ?_
          refine j_top (nI (kN f j)) ((hR t (by omega)).trans (ej.symm.trans hkj.2)) ?_
          refine j_zald F 10 (kN f j) (f := g1) rfl rfl (by omega) (Nat.le_of_ble_eq_true rfl) dX10_distance_59 ?_
          refine j_top 1 b0 ?_
          refine j_if_eq F 67 dX10_distance_60 (by decide) (fun c_60 => absurd c_60 (by decide)) (fun c_60 => ?_)
          refine j_iconst F (v := 0) dX10_distance_63 (by decide) ?_
          refine j_goto F 68 dX10_distance_64 (by decide) ?_
          refine j_iadd F dX10_distance_68 ?_
          refine j_top (nI (q + 0)) (nI_add _ _) ?_
          refine j_istore_n F 2 [(2, .int (nI (q + 0))), (3, .int (nI t)), (0, .ref (ad 0)), (1, .int (nI r))] dX10_distance_69 rfl (by decide) rfl ?_
          refine j_aload_n F 2 dX10_distance_70 rfl ?_
          refine j_getf F fX10_48 0 (v := .ref (ad 10)) rfl rfl dX10_distance_71 ?_
          refine j_aload_n F 2 dX10_distance_74 rfl ?_
          refine j_getf F fX10_45 0 (v := .ref (ad 9)) rfl rfl dX10_distance_75 ?_
          refine j_iload_n F 1 dX10_distance_78 rfl ?_
          refine j_iald F 9 t (f := ga 8) rfl rfl (by omega) (Nat.le_of_ble_eq_true rfl) dX10_distance_79 ?_
          refine j_top (nI (kN f j)) ((hR t (by omega)).trans (ej.symm.trans hkj.2)) ?_
          refine j_iconst F (v := 1) dX10_distance_80 (by decide) ?_
          refine j_zast F 10 (mW ay ad vi (ups ga 9 (upd g1 (kN f j) 1))) (kN f j) rfl rfl (by omega) (Nat.le_of_ble_eq_true rfl) rfl rfl dX10_distance_81 ?_
          refine j_iinc F 1 (nI t - 1) [(3, .int (nI t - 1)), (2, .int (nI (q + 0))), (0, .ref (ad 0)), (1, .int (nI r))] dX10_distance_82 rfl nI_dec (by decide) rfl ?_
          refine j_goto F 27 dX10_distance_85 (by decide) ?_
          exact ih (t, q, upd g1 (kN f j) 1) hd2 (by show t < t + 1; omega)
        · skip
          refine j_iload_n F 1 dX10_distance_48 rfl ?_
          refine j_aload_n F 2 dX10_distance_49 rfl ?_
          refine j_getf F fX10_48 0 (v := .ref (ad 10)) rfl rfl dX10_distance_50 ?_
          refine j_aload_n F 2 dX10_distance_53 rfl ?_
          refine j_getf F fX10_45 0 (v := .ref (ad 9)) rfl rfl dX10_distance_54 ?_
          refine j_iload_n F 0 dX10_distance_57 rfl ?_
          refine j_iald F 9 t (f := ga 8) rfl rfl (by omega) (Nat.le_of_ble_eq_true rfl) dX10_distance_58 ?_
          refine j_top (nI (kN f j)) ((hR t (by omega)).trans (ej.symm.trans hkj.2)) ?_
          refine j_zald F 10 (kN f j) (f := g1) rfl rfl (by omega) (Nat.le_of_ble_eq_true rfl) dX10_distance_59 ?_
          refine j_top 0 b0 ?_
          refine j_if_eq F 67 dX10_distance_60 (by decide) (fun c_60 => ?_) (fun c_60 => absurd (by decide) c_60)
          refine j_iconst F (v := 1) dX10_distance_67 (by decide) ?_
          refine j_iadd F dX10_distance_68 ?_
          refine j_top (nI (q + 1)) (nI_add _ _) ?_
          refine j_istore_n F 2 [(2, .int (nI (q + 1))), (3, .int (nI t)), (0, .ref (ad 0)), (1, .int (nI r))] dX10_distance_69 rfl (by decide) rfl ?_
          refine j_aload_n F 2 dX10_distance_70 rfl ?_
          refine j_getf F fX10_48 0 (v := .ref (ad 10)) rfl rfl dX10_distance_71 ?_
          refine j_aload_n F 2 dX10_distance_74 rfl ?_
          refine j_getf F fX10_45 0 (v := .ref (ad 9)) rfl rfl dX10_distance_75 ?_
          refine j_iload_n F 1 dX10_distance_78 rfl ?_
          refine j_iald F 9 t (f := ga 8) rfl rfl (by omega) (Nat.le_of_ble_eq_true rfl) dX10_distance_79 ?_
          refine j_top (nI (kN f j)) ((hR t (by omega)).trans (ej.symm.trans hkj.2)) ?_
          refine j_iconst F (v := 1) dX10_distance_80 (by decide) ?_
          refine j_zast F 10 (mW ay ad vi (ups ga 9 (upd g1 (kN f j) 1))) (kN f j) rfl rfl (by omega) (Nat.le_of_ble_eq_true rfl) rfl rfl dX10_distance_81 ?_
          refine j_iinc F 1 (nI t - 1) [(3, .int (nI t - 1)), (2, .int (nI (q + 1))), (0, .ref (ad 0)), (1, .int (nI r))] dX10_distance_82 rfl nI_dec (by decide) rfl ?_
          refine j_goto F 27 dX10_distance_85 (by decide) ?_
          exact ih (t, q + 1, upd g1 (kN f j) 1) hd2 (by show t < t + 1; omega)
      · skip
        refine j_iload_n F 1 dX10_distance_46 rfl ?_
        exact j_iret F ⟨g1, by rw [d_hit hk hL hd c_43], rfl⟩ dX10_distance_47 (Nat.le_of_ble_eq_true rfl) (Nat.le_of_ble_eq_true rfl)
  · skip
    have n_5 := mt (n_le 100 i rfl rfl (by omega) (by omega)).mpr c_5
    refine j_aload_n F 1 dX10_distance_8 rfl ?_
    refine j_getf F fX10_48 0 (v := .ref (ad 10)) rfl rfl dX10_distance_9 ?_
    refine j_iload_n F 0 dX10_distance_12 rfl ?_
    refine j_iconst F (v := 0) dX10_distance_13 (by decide) ?_
    refine j_zast F 10 (mW ay ad vi (ups ga 9 (upd g9 i 0))) i rfl rfl (by omega) (Nat.le_of_ble_eq_true rfl) rfl rfl dX10_distance_14 ?_
    refine j_iinc F 0 (nI (i + 1)) [(2, .int (nI (i + 1))), (0, .ref (ad 0)), (1, .int (nI r))] dX10_distance_15 rfl (nI_1 _) (by decide) rfl ?_
    refine j_goto F 2 dX10_distance_18 (by decide) ?_
    refine ih (i + 1, upd g9 i 0) ⟨by show i + 1 ≤ 100; omega, fun j hj => ?_⟩ (by show 100 - (i + 1) < 100 - i; omega)
    by_cases e : j = i
    · rw [e]; exact upd_s
    · exact (upd_o e).trans (hz j (by have : j < i + 1 := hj; omega))

