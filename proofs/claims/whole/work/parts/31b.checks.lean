set_option maxHeartbeats 4000000 in
set_option maxRecDepth 100000 in
theorem c_X10_noMap_ok (l : Launch) (D : va_G) (ay : Nat → ClassId) (ad : Nat → Nat) (vi : Nat → Int32) (ga : Nat → Nat → Int32) (x : Int32) (h0 : vi 0 = 0) (h : ¬ oob x 0 1) : jM l yX10_noMap (jws yX10_noMap cX10_noMap 2 (some .boolean)) 1 22 0 0 D ay [.ref (ad 0), .int x] (mW ay ad vi ga) (fun v w => v = some (.int 0) ∧ w = (mW ay ad vi ga)) := by
  refine jM_of l (by decide) [(0, .ref (ad 0)), (1, .int x)] rfl rfl (fun p9 e9 s9 m9 a9 b9 me9 c9 A9 F => ?_)
  refine j_aload_n F 0 dX10_noMap_0 rfl ?_
  refine j_iload_n F 1 dX10_noMap_1 rfl ?_
  refine j_iconst F (v := 0) dX10_noMap_2 (by decide) ?_
  refine j_iconst F (v := 1) dX10_noMap_3 (by decide) ?_
  refine j_ecallS F kX10_84 (As := [.int x, .int 0, .int 1]) (rest := [.ref (ad 0)]) (c_X10_in l D ay x 0 1 (show ¬ oob x 0 1 from h)) rfl rfl rfl rfl ⟨Nat.le_of_ble_eq_true rfl, Nat.le_of_ble_eq_true rfl⟩ dX10_noMap_4 (fun v w hw => ?_)
  obtain ⟨rfl, rfl⟩ := hw
  refine ⟨rfl, ?_⟩
  refine j_top 1 rfl ?_
  refine j_iconst F (v := 1) dX10_noMap_7 (by decide) ?_
  refine j_scallV F kX10_88 (As := [.int 1, .int 1]) (rest := []) (c_X10_fails_ok l D ay ad vi ga 1 (show vi 0 = 0 from h0)) 0 0 20 rfl rfl rfl rfl rfl rfl ⟨Nat.le_of_ble_eq_true rfl, Nat.le_of_ble_eq_true rfl⟩ dX10_noMap_8 (fun v w hw => ?_)
  obtain ⟨rfl, rfl⟩ := hw
  refine ⟨rfl, (mW ay ad vi ga), (slp_all _ _ rfl).trans rfl, ?_⟩
  refine j_top 0 rfl ?_
  exact j_zret F (Or.inl rfl) ⟨rfl, rfl⟩ dX10_noMap_11 (Nat.le_of_ble_eq_true rfl) (Nat.le_of_ble_eq_true rfl)

set_option maxHeartbeats 4000000 in
set_option maxRecDepth 100000 in
theorem c_X10_noMap_no (l : Launch) (D : va_G) (ay : Nat → ClassId) (ad : Nat → Nat) (vi : Nat → Int32) (ga : Nat → Nat → Int32) (x : Int32) (h0 : vi 0 = 0) (h : oob x 0 1) : jM l yX10_noMap (jws yX10_noMap cX10_noMap 2 (some .boolean)) 1 22 0 0 D ay [.ref (ad 0), .int x] (mW ay ad vi ga) (fun v w => v = some (.int 1) ∧ w = (mW ay ad (ups vi 0 1) ga)) := by
  refine jM_of l (by decide) [(0, .ref (ad 0)), (1, .int x)] rfl rfl (fun p9 e9 s9 m9 a9 b9 me9 c9 A9 F => ?_)
  refine j_aload_n F 0 dX10_noMap_0 rfl ?_
  refine j_iload_n F 1 dX10_noMap_1 rfl ?_
  refine j_iconst F (v := 0) dX10_noMap_2 (by decide) ?_
  refine j_iconst F (v := 1) dX10_noMap_3 (by decide) ?_
  refine j_ecallS F kX10_84 (As := [.int x, .int 0, .int 1]) (rest := [.ref (ad 0)]) (c_X10_in_no l D ay x 0 1 (show oob x 0 1 from h)) rfl rfl rfl rfl ⟨Nat.le_of_ble_eq_true rfl, Nat.le_of_ble_eq_true rfl⟩ dX10_noMap_4 (fun v w hw => ?_)
  obtain ⟨rfl, rfl⟩ := hw
  refine ⟨rfl, ?_⟩
  refine j_top 0 rfl ?_
  refine j_iconst F (v := 1) dX10_noMap_7 (by decide) ?_
  refine j_scallV F kX10_88 (As := [.int 0, .int 1]) (rest := []) (c_X10_fails_no l D ay ad vi ga 1 (show vi 0 = 0 from h0) (show ¬ 1 = 0 from by decide)) 0 0 20 rfl rfl rfl rfl rfl rfl ⟨Nat.le_of_ble_eq_true rfl, Nat.le_of_ble_eq_true rfl⟩ dX10_noMap_8 (fun v w hw => ?_)
  obtain ⟨rfl, rfl⟩ := hw
  refine ⟨rfl, (mW ay ad (ups vi 0 1) ga), (slp_all _ _ rfl).trans rfl, ?_⟩
  refine j_top 1 rfl ?_
  exact j_zret F (Or.inr rfl) ⟨rfl, rfl⟩ dX10_noMap_11 (Nat.le_of_ble_eq_true rfl) (Nat.le_of_ble_eq_true rfl)

set_option maxHeartbeats 4000000 in
set_option maxRecDepth 100000 in
theorem c_X10_noKey_ok (l : Launch) (D : va_G) (ay : Nat → ClassId) (ad : Nat → Nat) (vi : Nat → Int32) (ga : Nat → Nat → Int32) (x : Int32) (y : Int32) (h0 : vi 0 = 0) (h : ¬ oob x 0 1) (h2 : ¬ oob y 0 99) : jM l yX10_noKey (jws yX10_noKey cX10_noKey 3 (some .boolean)) 2 43 0 0 D ay [.ref (ad 0), .int x, .int y] (mW ay ad vi ga) (fun v w => v = some (.int 0) ∧ w = (mW ay ad vi ga)) := by
  refine jM_of l (by decide) [(0, .ref (ad 0)), (1, .int x), (2, .int y)] rfl rfl (fun p9 e9 s9 m9 a9 b9 me9 c9 A9 F => ?_)
  refine j_aload_n F 0 dX10_noKey_0 rfl ?_
  refine j_iload_n F 1 dX10_noKey_1 rfl ?_
  refine j_scallV F kX10_92 (As := [.int x]) (rest := []) (c_X10_noMap_ok l D ay ad vi ga x (show vi 0 = 0 from h0) (show ¬ oob x 0 1 from h)) 0 0 20 rfl rfl rfl rfl rfl rfl ⟨Nat.le_of_ble_eq_true rfl, Nat.le_of_ble_eq_true rfl⟩ dX10_noKey_2 (fun v w hw => ?_)
  obtain ⟨rfl, rfl⟩ := hw
  refine ⟨rfl, (mW ay ad vi ga), (slp_all _ _ rfl).trans rfl, ?_⟩
  refine j_top 0 rfl ?_
  refine j_if_ne F 23 dX10_noKey_5 (by decide) (fun c_5 => absurd (by decide) c_5) (fun c_5 => ?_)
  refine j_aload_n F 0 dX10_noKey_8 rfl ?_
  refine j_iload_n F 2 dX10_noKey_9 rfl ?_
  refine j_iconst F (v := 0) dX10_noKey_10 (by decide) ?_
  refine j_bipush F (v := 99) dX10_noKey_11 (by decide) ?_
  refine j_ecallS F kX10_84 (As := [.int y, .int 0, .int 99]) (rest := [.ref (ad 0)]) (c_X10_in l D ay y 0 99 (show ¬ oob y 0 99 from h2)) rfl rfl rfl rfl ⟨Nat.le_of_ble_eq_true rfl, Nat.le_of_ble_eq_true rfl⟩ dX10_noKey_13 (fun v w hw => ?_)
  obtain ⟨rfl, rfl⟩ := hw
  refine ⟨rfl, ?_⟩
  refine j_top 1 rfl ?_
  refine j_iconst F (v := 1) dX10_noKey_16 (by decide) ?_
  refine j_scallV F kX10_88 (As := [.int 1, .int 1]) (rest := []) (c_X10_fails_ok l D ay ad vi ga 1 (show vi 0 = 0 from h0)) 0 0 20 rfl rfl rfl rfl rfl rfl ⟨Nat.le_of_ble_eq_true rfl, Nat.le_of_ble_eq_true rfl⟩ dX10_noKey_17 (fun v w hw => ?_)
  obtain ⟨rfl, rfl⟩ := hw
  refine ⟨rfl, (mW ay ad vi ga), (slp_all _ _ rfl).trans rfl, ?_⟩
  refine j_top 0 rfl ?_
  refine j_if_eq F 27 dX10_noKey_20 (by decide) (fun c_20 => ?_) (fun c_20 => absurd (by decide) c_20)
  refine j_iconst F (v := 0) dX10_noKey_27 (by decide) ?_
  exact j_zret F (Or.inl rfl) ⟨rfl, rfl⟩ dX10_noKey_28 (Nat.le_of_ble_eq_true rfl) (Nat.le_of_ble_eq_true rfl)

set_option maxHeartbeats 4000000 in
set_option maxRecDepth 100000 in
theorem c_X10_noKey_no (l : Launch) (D : va_G) (ay : Nat → ClassId) (ad : Nat → Nat) (vi : Nat → Int32) (ga : Nat → Nat → Int32) (x : Int32) (y : Int32) (h0 : vi 0 = 0) (h : oob x 0 1 ∨ oob y 0 99) : jM l yX10_noKey (jws yX10_noKey cX10_noKey 3 (some .boolean)) 2 43 0 0 D ay [.ref (ad 0), .int x, .int y] (mW ay ad vi ga) (fun v w => v = some (.int 1) ∧ w = (mW ay ad (ups vi 0 1) ga)) := by
  refine jM_of l (by decide) [(0, .ref (ad 0)), (1, .int x), (2, .int y)] rfl rfl (fun p9 e9 s9 m9 a9 b9 me9 c9 A9 F => ?_)
  by_cases hm : oob x 0 1
  · skip
    refine j_aload_n F 0 dX10_noKey_0 rfl ?_
    refine j_iload_n F 1 dX10_noKey_1 rfl ?_
    refine j_scallV F kX10_92 (As := [.int x]) (rest := []) (c_X10_noMap_no l D ay ad vi ga x (show vi 0 = 0 from h0) (show oob x 0 1 from hm)) 0 0 20 rfl rfl rfl rfl rfl rfl ⟨Nat.le_of_ble_eq_true rfl, Nat.le_of_ble_eq_true rfl⟩ dX10_noKey_2 (fun v w hw => ?_)
    obtain ⟨rfl, rfl⟩ := hw
    refine ⟨rfl, (mW ay ad (ups vi 0 1) ga), (slp_all _ _ rfl).trans rfl, ?_⟩
    refine j_top 1 rfl ?_
    refine j_if_ne F 23 dX10_noKey_5 (by decide) (fun c_5 => ?_) (fun c_5 => absurd c_5 (by decide))
    refine j_iconst F (v := 1) dX10_noKey_23 (by decide) ?_
    refine j_goto F 28 dX10_noKey_24 (by decide) ?_
    exact j_zret F (Or.inr rfl) ⟨rfl, rfl⟩ dX10_noKey_28 (Nat.le_of_ble_eq_true rfl) (Nat.le_of_ble_eq_true rfl)
  · skip
    refine j_aload_n F 0 dX10_noKey_0 rfl ?_
    refine j_iload_n F 1 dX10_noKey_1 rfl ?_
    refine j_scallV F kX10_92 (As := [.int x]) (rest := []) (c_X10_noMap_ok l D ay ad vi ga x (show vi 0 = 0 from h0) (show ¬ oob x 0 1 from hm)) 0 0 20 rfl rfl rfl rfl rfl rfl ⟨Nat.le_of_ble_eq_true rfl, Nat.le_of_ble_eq_true rfl⟩ dX10_noKey_2 (fun v w hw => ?_)
    obtain ⟨rfl, rfl⟩ := hw
    refine ⟨rfl, (mW ay ad vi ga), (slp_all _ _ rfl).trans rfl, ?_⟩
    refine j_top 0 rfl ?_
    refine j_if_ne F 23 dX10_noKey_5 (by decide) (fun c_5 => absurd (by decide) c_5) (fun c_5 => ?_)
    refine j_aload_n F 0 dX10_noKey_8 rfl ?_
    refine j_iload_n F 2 dX10_noKey_9 rfl ?_
    refine j_iconst F (v := 0) dX10_noKey_10 (by decide) ?_
    refine j_bipush F (v := 99) dX10_noKey_11 (by decide) ?_
    have h2 := h.resolve_left hm
    refine j_ecallS F kX10_84 (As := [.int y, .int 0, .int 99]) (rest := [.ref (ad 0)]) (c_X10_in_no l D ay y 0 99 (show oob y 0 99 from h2)) rfl rfl rfl rfl ⟨Nat.le_of_ble_eq_true rfl, Nat.le_of_ble_eq_true rfl⟩ dX10_noKey_13 (fun v w hw => ?_)
    obtain ⟨rfl, rfl⟩ := hw
    refine ⟨rfl, ?_⟩
    refine j_top 0 rfl ?_
    refine j_iconst F (v := 1) dX10_noKey_16 (by decide) ?_
    refine j_scallV F kX10_88 (As := [.int 0, .int 1]) (rest := []) (c_X10_fails_no l D ay ad vi ga 1 (show vi 0 = 0 from h0) (show ¬ 1 = 0 from by decide)) 0 0 20 rfl rfl rfl rfl rfl rfl ⟨Nat.le_of_ble_eq_true rfl, Nat.le_of_ble_eq_true rfl⟩ dX10_noKey_17 (fun v w hw => ?_)
    obtain ⟨rfl, rfl⟩ := hw
    refine ⟨rfl, (mW ay ad (ups vi 0 1) ga), (slp_all _ _ rfl).trans rfl, ?_⟩
    refine j_top 1 rfl ?_
    refine j_if_eq F 27 dX10_noKey_20 (by decide) (fun c_20 => absurd c_20 (by decide)) (fun c_20 => ?_)
    refine j_iconst F (v := 1) dX10_noKey_23 (by decide) ?_
    refine j_goto F 28 dX10_noKey_24 (by decide) ?_
    exact j_zret F (Or.inr rfl) ⟨rfl, rfl⟩ dX10_noKey_28 (Nat.le_of_ble_eq_true rfl) (Nat.le_of_ble_eq_true rfl)

set_option maxHeartbeats 4000000 in
set_option maxRecDepth 100000 in
theorem c_X10_noPair_ok (l : Launch) (D : va_G) (ay : Nat → ClassId) (ad : Nat → Nat) (vi : Nat → Int32) (ga : Nat → Nat → Int32) (x : Int32) (y : Int32) (z : Int32) (h0 : vi 0 = 0) (h : ¬ oob x 0 1) (h2 : ¬ oob y 0 99) (h3 : ¬ oob z 0 999) : jM l yX10_noPair (jws yX10_noPair cX10_noPair 4 (some .boolean)) 3 65 0 0 D ay [.ref (ad 0), .int x, .int y, .int z] (mW ay ad vi ga) (fun v w => v = some (.int 0) ∧ w = (mW ay ad vi ga)) := by
  refine jM_of l (by decide) [(0, .ref (ad 0)), (1, .int x), (2, .int y), (3, .int z)] rfl rfl (fun p9 e9 s9 m9 a9 b9 me9 c9 A9 F => ?_)
  refine j_aload_n F 0 dX10_noPair_0 rfl ?_
  refine j_iload_n F 1 dX10_noPair_1 rfl ?_
  refine j_iload_n F 2 dX10_noPair_2 rfl ?_
  refine j_scallV F kX10_103 (As := [.int x, .int y]) (rest := []) (c_X10_noKey_ok l D ay ad vi ga x y (show vi 0 = 0 from h0) (show ¬ oob x 0 1 from h) (show ¬ oob y 0 99 from h2)) 0 0 20 rfl rfl rfl rfl rfl rfl ⟨Nat.le_of_ble_eq_true rfl, Nat.le_of_ble_eq_true rfl⟩ dX10_noPair_3 (fun v w hw => ?_)
  obtain ⟨rfl, rfl⟩ := hw
  refine ⟨rfl, (mW ay ad vi ga), (slp_all _ _ rfl).trans rfl, ?_⟩
  refine j_top 0 rfl ?_
  refine j_if_ne F 25 dX10_noPair_6 (by decide) (fun c_6 => absurd (by decide) c_6) (fun c_6 => ?_)
  refine j_aload_n F 0 dX10_noPair_9 rfl ?_
  refine j_iload_n F 3 dX10_noPair_10 rfl ?_
  refine j_iconst F (v := 0) dX10_noPair_11 (by decide) ?_
  refine j_sipush F (v := 999) dX10_noPair_12 (by decide) ?_
  refine j_ecallS F kX10_84 (As := [.int z, .int 0, .int 999]) (rest := [.ref (ad 0)]) (c_X10_in l D ay z 0 999 (show ¬ oob z 0 999 from h3)) rfl rfl rfl rfl ⟨Nat.le_of_ble_eq_true rfl, Nat.le_of_ble_eq_true rfl⟩ dX10_noPair_15 (fun v w hw => ?_)
  obtain ⟨rfl, rfl⟩ := hw
  refine ⟨rfl, ?_⟩
  refine j_top 1 rfl ?_
  refine j_iconst F (v := 1) dX10_noPair_18 (by decide) ?_
  refine j_scallV F kX10_88 (As := [.int 1, .int 1]) (rest := []) (c_X10_fails_ok l D ay ad vi ga 1 (show vi 0 = 0 from h0)) 0 0 20 rfl rfl rfl rfl rfl rfl ⟨Nat.le_of_ble_eq_true rfl, Nat.le_of_ble_eq_true rfl⟩ dX10_noPair_19 (fun v w hw => ?_)
  obtain ⟨rfl, rfl⟩ := hw
  refine ⟨rfl, (mW ay ad vi ga), (slp_all _ _ rfl).trans rfl, ?_⟩
  refine j_top 0 rfl ?_
  refine j_if_eq F 29 dX10_noPair_22 (by decide) (fun c_22 => ?_) (fun c_22 => absurd (by decide) c_22)
  refine j_iconst F (v := 0) dX10_noPair_29 (by decide) ?_
  exact j_zret F (Or.inl rfl) ⟨rfl, rfl⟩ dX10_noPair_30 (Nat.le_of_ble_eq_true rfl) (Nat.le_of_ble_eq_true rfl)

set_option maxHeartbeats 4000000 in
set_option maxRecDepth 100000 in
theorem c_X10_noPair_no (l : Launch) (D : va_G) (ay : Nat → ClassId) (ad : Nat → Nat) (vi : Nat → Int32) (ga : Nat → Nat → Int32) (x : Int32) (y : Int32) (z : Int32) (h0 : vi 0 = 0) (h : oob x 0 1 ∨ oob y 0 99 ∨ oob z 0 999) : jM l yX10_noPair (jws yX10_noPair cX10_noPair 4 (some .boolean)) 3 65 0 0 D ay [.ref (ad 0), .int x, .int y, .int z] (mW ay ad vi ga) (fun v w => v = some (.int 1) ∧ w = (mW ay ad (ups vi 0 1) ga)) := by
  refine jM_of l (by decide) [(0, .ref (ad 0)), (1, .int x), (2, .int y), (3, .int z)] rfl rfl (fun p9 e9 s9 m9 a9 b9 me9 c9 A9 F => ?_)
  by_cases hm : oob x 0 1 ∨ oob y 0 99
  · skip
    refine j_aload_n F 0 dX10_noPair_0 rfl ?_
    refine j_iload_n F 1 dX10_noPair_1 rfl ?_
    refine j_iload_n F 2 dX10_noPair_2 rfl ?_
    refine j_scallV F kX10_103 (As := [.int x, .int y]) (rest := []) (c_X10_noKey_no l D ay ad vi ga x y (show vi 0 = 0 from h0) (show oob x 0 1 ∨ oob y 0 99 from hm)) 0 0 20 rfl rfl rfl rfl rfl rfl ⟨Nat.le_of_ble_eq_true rfl, Nat.le_of_ble_eq_true rfl⟩ dX10_noPair_3 (fun v w hw => ?_)
    obtain ⟨rfl, rfl⟩ := hw
    refine ⟨rfl, (mW ay ad (ups vi 0 1) ga), (slp_all _ _ rfl).trans rfl, ?_⟩
    refine j_top 1 rfl ?_
    refine j_if_ne F 25 dX10_noPair_6 (by decide) (fun c_6 => ?_) (fun c_6 => absurd c_6 (by decide))
    refine j_iconst F (v := 1) dX10_noPair_25 (by decide) ?_
    refine j_goto F 30 dX10_noPair_26 (by decide) ?_
    exact j_zret F (Or.inr rfl) ⟨rfl, rfl⟩ dX10_noPair_30 (Nat.le_of_ble_eq_true rfl) (Nat.le_of_ble_eq_true rfl)
  · skip
    refine j_aload_n F 0 dX10_noPair_0 rfl ?_
    refine j_iload_n F 1 dX10_noPair_1 rfl ?_
    refine j_iload_n F 2 dX10_noPair_2 rfl ?_
    refine j_scallV F kX10_103 (As := [.int x, .int y]) (rest := []) (c_X10_noKey_ok l D ay ad vi ga x y (show vi 0 = 0 from h0) (show ¬ oob x 0 1 from fun q => hm (Or.inl q)) (show ¬ oob y 0 99 from fun q => hm (Or.inr q))) 0 0 20 rfl rfl rfl rfl rfl rfl ⟨Nat.le_of_ble_eq_true rfl, Nat.le_of_ble_eq_true rfl⟩ dX10_noPair_3 (fun v w hw => ?_)
    obtain ⟨rfl, rfl⟩ := hw
    refine ⟨rfl, (mW ay ad vi ga), (slp_all _ _ rfl).trans rfl, ?_⟩
    refine j_top 0 rfl ?_
    refine j_if_ne F 25 dX10_noPair_6 (by decide) (fun c_6 => absurd (by decide) c_6) (fun c_6 => ?_)
    refine j_aload_n F 0 dX10_noPair_9 rfl ?_
    refine j_iload_n F 3 dX10_noPair_10 rfl ?_
    refine j_iconst F (v := 0) dX10_noPair_11 (by decide) ?_
    refine j_sipush F (v := 999) dX10_noPair_12 (by decide) ?_
    have h2 : oob z 0 999 := (h.resolve_left (fun q => hm (Or.inl q))).resolve_left (fun q => hm (Or.inr q))
    refine j_ecallS F kX10_84 (As := [.int z, .int 0, .int 999]) (rest := [.ref (ad 0)]) (c_X10_in_no l D ay z 0 999 (show oob z 0 999 from h2)) rfl rfl rfl rfl ⟨Nat.le_of_ble_eq_true rfl, Nat.le_of_ble_eq_true rfl⟩ dX10_noPair_15 (fun v w hw => ?_)
    obtain ⟨rfl, rfl⟩ := hw
    refine ⟨rfl, ?_⟩
    refine j_top 0 rfl ?_
    refine j_iconst F (v := 1) dX10_noPair_18 (by decide) ?_
    refine j_scallV F kX10_88 (As := [.int 0, .int 1]) (rest := []) (c_X10_fails_no l D ay ad vi ga 1 (show vi 0 = 0 from h0) (show ¬ 1 = 0 from by decide)) 0 0 20 rfl rfl rfl rfl rfl rfl ⟨Nat.le_of_ble_eq_true rfl, Nat.le_of_ble_eq_true rfl⟩ dX10_noPair_19 (fun v w hw => ?_)
    obtain ⟨rfl, rfl⟩ := hw
    refine ⟨rfl, (mW ay ad (ups vi 0 1) ga), (slp_all _ _ rfl).trans rfl, ?_⟩
    refine j_top 1 rfl ?_
    refine j_if_eq F 29 dX10_noPair_22 (by decide) (fun c_22 => absurd c_22 (by decide)) (fun c_22 => ?_)
    refine j_iconst F (v := 1) dX10_noPair_25 (by decide) ?_
    refine j_goto F 30 dX10_noPair_26 (by decide) ?_
    exact j_zret F (Or.inr rfl) ⟨rfl, rfl⟩ dX10_noPair_30 (Nat.le_of_ble_eq_true rfl) (Nat.le_of_ble_eq_true rfl)

