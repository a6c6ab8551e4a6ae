theorem wC_le (yy : Nat → Int32) : ∀ i, wC yy i ≤ i
  | 0 => Nat.le_refl 0
  | i + 1 => by
    have ih := wC_le yy i
    show (if yy i = 0 then wC yy i else wC yy i + 1) ≤ i + 1
    split <;> omega
set_option maxHeartbeats 4000000 in
set_option maxRecDepth 100000 in
theorem c_X10_writesAll (l : Launch) (D : va_G) (ay : Nat → ClassId) (ad : Nat → Nat) (vi : Nat → Int32) (ga : Nat → Nat → Int32) (Z : DS) (hG : GI Z vi ga) : jM l yX10_writesAll (jws yX10_writesAll cX10_writesAll 3 (some .int)) 1 22 0 0 D ay [.ref (ad 0)] (mW ay ad vi ga) (fun v w => ∃ (vi' : Nat → Int32) (ga' : Nat → Nat → Int32), GI (wAl Z (Z.1 19) (Z.1 11)) vi' ga' ∧ (∀ q, q ≠ 35 → vi' q = vi q) ∧ (∀ q, q < 15 ∨ q = 16 ∨ q = 17 → ga' q = ga q) ∧ vi' 35 = Z.2.1 21 + nI (wC (Z.2.2 22) 16) ∧ (∀ a, a < 64 → ga' 15 a = wD (Z.2.2 21) (Z.2.2 20) (Z.2.2 22) 16 a) ∧ (∀ q, q < 16 → ga' 18 q = wY (Z.2.2 22) 16 q) ∧ v = some (.int (nI (wC (Z.2.2 22) 16))) ∧ w = mW ay ad vi' ga') := by
  refine jM_of l (by decide) [(0, .ref (ad 0))] rfl rfl (fun p9 e9 s9 m9 a9 b9 me9 c9 A9 F => ?_)
  obtain ⟨x1, x2, x3, x4, x5, x6, x7, x8, x9, x10⟩ := hG.2.2.2.2.2.2.2
  have hx8 : Z.1 19 ≤ 8 := x1.2.2.2
  refine j_iconst F (v := 0) dX10_writesAll_0 (by decide) ?_
  refine j_istore_n F 1 [(1, .int 0), (0, .ref (ad 0))] dX10_writesAll_1 rfl (by decide) rfl ?_
  refine j_iconst F (v := 0) dX10_writesAll_2 (by decide) ?_
  refine j_istore_n F 2 [(2, .int 0), (1, .int 0), (0, .ref (ad 0))] dX10_writesAll_3 rfl (by decide) rfl ?_
  refine j_loop (σ := Nat × (Nat → Nat → Int32)) (fun z => z.1 ≤ 16 ∧ (∀ q, q < 15 ∨ q = 16 ∨ q = 17 → z.2 q = ga q) ∧ (∀ a, a < 64 → z.2 15 a = wD (Z.2.2 21) (Z.2.2 20) (Z.2.2 22) z.1 a) ∧ ∀ q, q < 16 → z.2 18 q = wY (Z.2.2 22) z.1 q) (fun z => 16 - z.1) (fun z => [(2, .int (nI z.1)), (1, .int (nI (wC (Z.2.2 22) z.1))), (0, .ref (ad 0))]) (fun z => mW ay ad (ups vi 35 (Z.2.1 21 + nI (wC (Z.2.2 22) z.1))) z.2) (0, ga) ⟨Nat.zero_le _, fun _ _ => rfl, fun a ha => by show ga 15 a = _; rw [wD_0]; exact (x8 a ha).1, fun q hq => by show ga 18 q = _; rw [wY_0]; exact (x9 q hq).1⟩ rfl (by show mW ay ad vi ga = mW ay ad (ups vi 35 (Z.2.1 21 + 0)) ga; rw [Int32.add_zero, ← x7, show ups vi 35 (vi 35) = vi from ups_self]) (fun z hz ih => ?_)
  obtain ⟨i, ga1⟩ := z
  replace hz : i ≤ 16 ∧ (∀ q, q < 15 ∨ q = 16 ∨ q = 17 → ga1 q = ga q) ∧ (∀ a, a < 64 → ga1 15 a = wD (Z.2.2 21) (Z.2.2 20) (Z.2.2 22) i a) ∧ ∀ q, q < 16 → ga1 18 q = wY (Z.2.2 22) i q := hz
  obtain ⟨hi, hfr, h15, h18⟩ := hz
  refine j_nf (mW ay ad (ups vi 35 (Z.2.1 21 + nI (wC (Z.2.2 22) i))) ga1) [(2, .int (nI i)), (1, .int (nI (wC (Z.2.2 22) i))), (0, .ref (ad 0))] rfl rfl ?_
  refine j_iload_n F 0 dX10_writesAll_4 rfl ?_
  refine j_bipush F (v := 16) dX10_writesAll_5 (by decide) ?_
  refine j_icmp_ge F 24 dX10_writesAll_7 (by decide) (fun c_7 => ?_) (fun c_7 => ?_)
  · skip
    have n_7 := (n_le 16 i rfl rfl (by omega) (by omega)).mp c_7
    obtain rfl : i = 16 := by omega
    refine j_iload_n F 1 dX10_writesAll_24 rfl ?_
    exact j_iret F ⟨ups vi 35 (Z.2.1 21 + nI (wC (Z.2.2 22) 16)), ga1, wall_G hG ⟨x1.2.2.1, hx8⟩ x2 (Nat.le_refl _) (fun q hq => ups_ne (by omega)) hfr x3 x4 rfl rfl rfl h15 h18, fun q hq => ups_ne hq, hfr, rfl, h15, h18, rfl, rfl⟩ dX10_writesAll_25 (Nat.le_of_ble_eq_true rfl) (Nat.le_of_ble_eq_true rfl)
  · skip
    have n_7 := mt (n_le 16 i rfl rfl (by omega) (by omega)).mpr c_7
    have hi8 : i < 16 := by omega
    have hwc := wC_le (Z.2.2 22) i
    by_cases hd : Z.2.2 22 i = 0
    · skip
      have h18i : ga1 18 i = 0 := by rw [h18 i hi8, wY_at]; exact hd
      refine j_iload_n F 1 dX10_writesAll_10 rfl ?_
      refine j_aload_n F 2 dX10_writesAll_11 rfl ?_
      refine j_iload_n F 0 dX10_writesAll_12 rfl ?_
      refine j_scallV F kX10_218 (As := [.int (nI i)]) (rest := [.int (nI (wC (Z.2.2 22) i))]) (c_X10_writesPage_no l D ay ad (ups vi 35 (Z.2.1 21 + nI (wC (Z.2.2 22) i))) ga1 i (show i < 16 from hi8) (show ga1 18 i = 0 from h18i)) 0 0 20 rfl rfl rfl rfl rfl rfl ⟨Nat.le_of_ble_eq_true rfl, Nat.le_of_ble_eq_true rfl⟩ dX10_writesAll_13 (fun v w hw => ?_)
      obtain ⟨rfl, rfl⟩ := hw
      refine ⟨rfl, (mW ay ad (ups vi 35 (Z.2.1 21 + nI (wC (Z.2.2 22) i))) ga1), (slp_all _ _ rfl).trans rfl, ?_⟩
      refine j_top 0 rfl ?_
      refine j_iadd F dX10_writesAll_16 ?_
      refine j_top (nI (wC (Z.2.2 22) i + 0)) (nI_add _ _) ?_
      refine j_istore_n F 1 [(1, .int (nI (wC (Z.2.2 22) i + 0))), (2, .int (nI i)), (0, .ref (ad 0))] dX10_writesAll_17 rfl (by decide) rfl ?_
      refine j_iinc F 1 (nI (i + 1)) [(2, .int (nI (i + 1))), (1, .int (nI (wC (Z.2.2 22) i + 0))), (0, .ref (ad 0))] dX10_writesAll_18 rfl (nI_1 _) (by decide) rfl ?_
      refine j_goto F 4 dX10_writesAll_21 (by decide) ?_
      refine j_sub [0, 1, 2] [(2, .int (nI (i + 1))), (1, .int (nI (wC (Z.2.2 22) i + 0))), (0, .ref (ad 0))] rfl ?_
      have e1 : wC (Z.2.2 22) i = wC (Z.2.2 22) (i + 1) := (if_pos hd).symm
      refine j_nf (mW ay ad (ups vi 35 (Z.2.1 21 + nI (wC (Z.2.2 22) (i + 1)))) ga1) [(2, .int (nI (i + 1))), (1, .int (nI (wC (Z.2.2 22) (i + 1)))), (0, .ref (ad 0))] (by rw [← e1]) (by rw [← e1] <;> rfl) ?_
      exact ih (i + 1, ga1) ⟨by show i + 1 ≤ 16; omega, hfr, wl_1 h15 hd, wy_1 h18 hd⟩ (by show 16 - (i + 1) < 16 - i; omega)
    · skip
      have h18i : ¬ ga1 18 i = 0 := by rw [h18 i hi8, wY_at]; exact hd
      refine j_iload_n F 1 dX10_writesAll_10 rfl ?_
      refine j_aload_n F 2 dX10_writesAll_11 rfl ?_
      refine j_iload_n F 0 dX10_writesAll_12 rfl ?_
      refine j_scallV F kX10_218 (As := [.int (nI i)]) (rest := [.int (nI (wC (Z.2.2 22) i))]) (c_X10_writesPage_yes l D ay ad (ups vi 35 (Z.2.1 21 + nI (wC (Z.2.2 22) i))) ga1 i (show i < 16 from hi8) (show ¬ ga1 18 i = 0 from h18i)) 0 0 20 rfl rfl rfl rfl rfl rfl ⟨Nat.le_of_ble_eq_true rfl, Nat.le_of_ble_eq_true rfl⟩ dX10_writesAll_13 (fun v w hw => ?_)
      obtain ⟨rfl, rfl⟩ := hw
      refine ⟨rfl, (mW ay ad (ups vi 35 ((Z.2.1 21 + nI (wC (Z.2.2 22) i)) + 1)) (ups (ups ga1 15 (cpI (ga1 16) (ga1 15) (4 * i) (4 * i + 4))) 18 (upd (ga1 18) i 0))), (slp_all _ _ rfl).trans rfl, ?_⟩
      refine j_top 1 rfl ?_
      refine j_iadd F dX10_writesAll_16 ?_
      refine j_top (nI (wC (Z.2.2 22) i + 1)) (nI_add _ _) ?_
      refine j_istore_n F 1 [(1, .int (nI (wC (Z.2.2 22) i + 1))), (2, .int (nI i)), (0, .ref (ad 0))] dX10_writesAll_17 rfl (by decide) rfl ?_
      refine j_iinc F 1 (nI (i + 1)) [(2, .int (nI (i + 1))), (1, .int (nI (wC (Z.2.2 22) i + 1))), (0, .ref (ad 0))] dX10_writesAll_18 rfl (nI_1 _) (by decide) rfl ?_
      refine j_goto F 4 dX10_writesAll_21 (by decide) ?_
      refine j_sub [0, 1, 2] [(2, .int (nI (i + 1))), (1, .int (nI (wC (Z.2.2 22) i + 1))), (0, .ref (ad 0))] rfl ?_
      have e1 : wC (Z.2.2 22) i + 1 = wC (Z.2.2 22) (i + 1) := (if_neg hd).symm
      refine j_nf (mW ay ad (ups vi 35 (Z.2.1 21 + nI (wC (Z.2.2 22) (i + 1)))) (ups (ups ga1 15 (cpI (ga1 16) (ga1 15) (4 * i) (4 * i + 4))) 18 (upd (ga1 18) i 0))) [(2, .int (nI (i + 1))), (1, .int (nI (wC (Z.2.2 22) (i + 1)))), (0, .ref (ad 0))] (by
        rw [← e1, show Z.2.1 21 + nI (wC (Z.2.2 22) i + 1) = Z.2.1 21 + nI (wC (Z.2.2 22) i) + 1 from by rw [← nI_1, Int32.add_assoc]]) (by rw [← e1] <;> rfl) ?_
      exact ih (i + 1, (ups (ups ga1 15 (cpI (ga1 16) (ga1 15) (4 * i) (4 * i + 4))) 18 (upd (ga1 18) i 0))) ⟨by show i + 1 ≤ 16; omega, fun q hq => ((fun q hq => (ups_ne (by omega)).trans ((ups_ne (by omega)).trans rfl)) q hq).trans (hfr q hq), wl_2 h15 (fun a ha => by rw [hfr 16 (by omega)]; exact (x8 a ha).2) hd, wy_2 h18⟩ (by show 16 - (i + 1) < 16 - i; omega)

set_option maxHeartbeats 4000000 in
set_option maxRecDepth 100000 in
theorem c_X10_setFrames_ok (l : Launch) (D : va_G) (ay : Nat → ClassId) (ad : Nat → Nat) (vi : Nat → Int32) (ga : Nat → Nat → Int32) (Z : DS) (b : Nat) (hG : GI Z vi ga) (hb : 1 ≤ b ∧ b ≤ 8) : jM l yX10_setFrames (jws yX10_setFrames cX10_setFrames 3 (some .int)) 2 44 0 0 D ay [.ref (ad 0), .int (nI b)] (mW ay ad vi ga) (fun v w => ∃ (vi' : Nat → Int32) (ga' : Nat → Nat → Int32), GI (wAl Z b 0) vi' ga' ∧ vi' 0 = 0 ∧ v = some (.int (nI (wC (Z.2.2 22) 16))) ∧ w = mW ay ad vi' ga') := by
  refine jM_of l (by decide) [(0, .ref (ad 0)), (1, .int (nI b))] rfl rfl (fun p9 e9 s9 m9 a9 b9 me9 c9 A9 F => ?_)
  have hL5 := hG.2.2.2.2.1
  have h13 := hL5.1
  have hle := hG.2.2.1.2.2
  refine j_aload_n F 0 dX10_setFrames_0 rfl ?_
  refine j_iconst F (v := 0) dX10_setFrames_1 (by decide) ?_
  refine j_putf F fX10_1 0 (mW ay ad (ups vi 0 0) ga) rfl rfl rfl rfl rfl (Nat.le_of_ble_eq_true rfl) dX10_setFrames_2 ?_
  refine j_aload_n F 0 dX10_setFrames_5 rfl ?_
  refine j_iload_n F 1 dX10_setFrames_6 rfl ?_
  refine j_iconst F (v := 1) dX10_setFrames_7 (by decide) ?_
  refine j_bipush F (v := 8) dX10_setFrames_8 (by decide) ?_
  refine j_ecallS F kX10_84 (As := [.int (nI b), .int 1, .int 8]) (rest := [.ref (ad 0)]) (c_X10_in l D ay (nI b) 1 8 (show ¬ oob (nI b) 1 8 from nob8' hb.1 hb.2)) rfl rfl rfl rfl ⟨Nat.le_of_ble_eq_true rfl, Nat.le_of_ble_eq_true rfl⟩ dX10_setFrames_10 (fun v w hw => ?_)
  obtain ⟨rfl, rfl⟩ := hw
  refine ⟨rfl, ?_⟩
  refine j_top 1 rfl ?_
  refine j_iconst F (v := 1) dX10_setFrames_13 (by decide) ?_
  refine j_scallV F kX10_88 (As := [.int 1, .int 1]) (rest := []) (c_X10_fails_ok l D ay ad (ups vi 0 0) ga 1 rfl) 0 0 20 rfl rfl rfl rfl rfl rfl ⟨Nat.le_of_ble_eq_true rfl, Nat.le_of_ble_eq_true rfl⟩ dX10_setFrames_14 (fun v w hw => ?_)
  obtain ⟨rfl, rfl⟩ := hw
  refine ⟨rfl, (mW ay ad (ups vi 0 0) ga), (slp_all _ _ rfl).trans rfl, ?_⟩
  refine j_top 0 rfl ?_
  refine j_if_eq F 22 dX10_setFrames_17 (by decide) (fun c_17 => ?_) (fun c_17 => absurd (by decide) c_17)
  refine j_aload_n F 0 dX10_setFrames_22 rfl ?_
  refine j_scallV F kX10_227 (As := []) (rest := []) (c_X10_writesAll l D ay ad (ups vi 0 0) ga Z (show GI Z (ups vi 0 0) ga from GI_id hG (fun q hq => (ups_ne (by omega)).trans rfl) (fun q hq => rfl))) 0 0 20 rfl rfl rfl rfl rfl rfl ⟨Nat.le_of_ble_eq_true rfl, Nat.le_of_ble_eq_true rfl⟩ dX10_setFrames_23 (fun v w hw => ?_)
  obtain ⟨vi_23, ga_23, h23_0, h23_1, h23_2, h23_3, h23_4, h23_5, rfl, rfl⟩ := hw
  replace h23_0 : GI (wAl Z (Z.1 19) (Z.1 11)) vi_23 ga_23 := h23_0
  replace h23_1 : (∀ q, q ≠ 35 → vi_23 q = (ups vi 0 0) q) := h23_1
  replace h23_2 : (∀ q, q < 15 ∨ q = 16 ∨ q = 17 → ga_23 q = ga q) := h23_2
  replace h23_3 : vi_23 35 = Z.2.1 21 + nI (wC (Z.2.2 22) 16) := h23_3
  replace h23_4 : (∀ a, a < 64 → ga_23 15 a = wD (Z.2.2 21) (Z.2.2 20) (Z.2.2 22) 16 a) := h23_4
  replace h23_5 : (∀ q, q < 16 → ga_23 18 q = wY (Z.2.2 22) 16 q) := h23_5
  refine ⟨rfl, (mW ay ad vi_23 ga_23), (slp_all _ _ rfl).trans rfl, ?_⟩
  refine j_top (nI (wC (Z.2.2 22) 16)) rfl ?_
  refine j_istore_n F 2 [(2, .int (nI (wC (Z.2.2 22) 16))), (0, .ref (ad 0)), (1, .int (nI b))] dX10_setFrames_26 rfl (by decide) rfl ?_
  refine j_aload_n F 1 dX10_setFrames_27 rfl ?_
  refine j_iconst F (v := 0) dX10_setFrames_28 (by decide) ?_
  refine j_putf F fX10_203 0 (mW ay ad (ups vi_23 32 0) ga_23) rfl rfl rfl rfl rfl (Nat.le_of_ble_eq_true rfl) dX10_setFrames_29 ?_
  refine j_aload_n F 1 dX10_setFrames_32 rfl ?_
  refine j_iload_n F 2 dX10_setFrames_33 rfl ?_
  refine j_putf F fX10_81 0 (mW ay ad (ups (ups vi_23 31 (nI b)) 32 0) ga_23) rfl rfl rfl rfl rfl (Nat.le_of_ble_eq_true rfl) dX10_setFrames_34 ?_
  refine j_iload_n F 0 dX10_setFrames_37 rfl ?_
  exact j_iret F ⟨ups (ups vi_23 31 (nI b)) 32 0, ga_23, wall_G hG hb (Nat.zero_le _) (Nat.zero_le _) (fun q hq => ((fun q hq => (ups_ne (by omega)).trans ((ups_ne (by omega)).trans rfl)) q hq).trans ((h23_1 q (by omega)).trans (ups_ne (by omega)))) h23_2 rfl rfl (h23_1 33 (by omega)) (h23_1 34 (by omega)) h23_3 h23_4 h23_5, h23_1 0 (by omega), rfl, rfl⟩ dX10_setFrames_38 (Nat.le_of_ble_eq_true rfl) (Nat.le_of_ble_eq_true rfl)

set_option maxHeartbeats 4000000 in
set_option maxRecDepth 100000 in
theorem c_X10_setFrames_no (l : Launch) (D : va_G) (ay : Nat → ClassId) (ad : Nat → Nat) (vi : Nat → Int32) (ga : Nat → Nat → Int32) (Z : DS) (x : Int32) (hG : GI Z vi ga) (h : oob x 1 8) : jM l yX10_setFrames (jws yX10_setFrames cX10_setFrames 3 (some .int)) 2 44 0 0 D ay [.ref (ad 0), .int x] (mW ay ad vi ga) (fun v w => ∃ (vi' : Nat → Int32) (ga' : Nat → Nat → Int32), GI Z vi' ga' ∧ vi' 0 = 1 ∧ v = some (.int 0) ∧ w = mW ay ad vi' ga') := by
  refine jM_of l (by decide) [(0, .ref (ad 0)), (1, .int x)] rfl rfl (fun p9 e9 s9 m9 a9 b9 me9 c9 A9 F => ?_)
  refine j_aload_n F 0 dX10_setFrames_0 rfl ?_
  refine j_iconst F (v := 0) dX10_setFrames_1 (by decide) ?_
  refine j_putf F fX10_1 0 (mW ay ad (ups vi 0 0) ga) rfl rfl rfl rfl rfl (Nat.le_of_ble_eq_true rfl) dX10_setFrames_2 ?_
  refine j_aload_n F 0 dX10_setFrames_5 rfl ?_
  refine j_iload_n F 1 dX10_setFrames_6 rfl ?_
  refine j_iconst F (v := 1) dX10_setFrames_7 (by decide) ?_
  refine j_bipush F (v := 8) dX10_setFrames_8 (by decide) ?_
  refine j_ecallS F kX10_84 (As := [.int x, .int 1, .int 8]) (rest := [.ref (ad 0)]) (c_X10_in_no l D ay x 1 8 (show oob x 1 8 from h)) rfl rfl rfl rfl ⟨Nat.le_of_ble_eq_true rfl, Nat.le_of_ble_eq_true rfl⟩ dX10_setFrames_10 (fun v w hw => ?_)
  obtain ⟨rfl, rfl⟩ := hw
  refine ⟨rfl, ?_⟩
  refine j_top 0 rfl ?_
  refine j_iconst F (v := 1) dX10_setFrames_13 (by decide) ?_
  refine j_scallV F kX10_88 (As := [.int 0, .int 1]) (rest := []) (c_X10_fails_no l D ay ad (ups vi 0 0) ga 1 rfl (show ¬ 1 = 0 from by decide)) 0 0 20 rfl rfl rfl rfl rfl rfl ⟨Nat.le_of_ble_eq_true rfl, Nat.le_of_ble_eq_true rfl⟩ dX10_setFrames_14 (fun v w hw => ?_)
  obtain ⟨rfl, rfl⟩ := hw
  refine ⟨rfl, (mW ay ad (ups vi 0 1) ga), (slp_all _ _ rfl).trans rfl, ?_⟩
  refine j_top 1 rfl ?_
  refine j_if_eq F 22 dX10_setFrames_17 (by decide) (fun c_17 => absurd c_17 (by decide)) (fun c_17 => ?_)
  refine j_iconst F (v := 0) dX10_setFrames_20 (by decide) ?_
  exact j_iret F ⟨ups vi 0 1, ga, (GI_id hG (fun q hq => (ups_ne (by omega)).trans rfl) (fun q hq => rfl)), rfl, rfl, rfl⟩ dX10_setFrames_21 (Nat.le_of_ble_eq_true rfl) (Nat.le_of_ble_eq_true rfl)

set_option maxHeartbeats 4000000 in
set_option maxRecDepth 100000 in
theorem c_X10_flush_ok (l : Launch) (D : va_G) (ay : Nat → ClassId) (ad : Nat → Nat) (vi : Nat → Int32) (ga : Nat → Nat → Int32) (Z : DS) (hG : GI Z vi ga) : jM l yX10_flush (jws yX10_flush cX10_flush 1 (some .int)) 2 44 0 0 D ay [.ref (ad 0)] (mW ay ad vi ga) (fun v w => ∃ (vi' : Nat → Int32) (ga' : Nat → Nat → Int32), GI (wAl Z (Z.1 19) (Z.1 11)) vi' ga' ∧ vi' 0 = 0 ∧ v = some (.int (nI (wC (Z.2.2 22) 16))) ∧ w = mW ay ad vi' ga') := by
  refine jM_of l (by decide) [(0, .ref (ad 0))] rfl rfl (fun p9 e9 s9 m9 a9 b9 me9 c9 A9 F => ?_)
  have hL5 := hG.2.2.2.2.1
  have h13 := hL5.1
  have hle := hG.2.2.1.2.2
  refine j_aload_n F 0 dX10_flush_0 rfl ?_
  refine j_iconst F (v := 0) dX10_flush_1 (by decide) ?_
  refine j_putf F fX10_1 0 (mW ay ad (ups vi 0 0) ga) rfl rfl rfl rfl rfl (Nat.le_of_ble_eq_true rfl) dX10_flush_2 ?_
  refine j_aload_n F 0 dX10_flush_5 rfl ?_
  refine j_scallV F kX10_227 (As := []) (rest := []) (c_X10_writesAll l D ay ad (ups vi 0 0) ga Z (show GI Z (ups vi 0 0) ga from GI_id hG (fun q hq => (ups_ne (by omega)).trans rfl) (fun q hq => rfl))) 0 0 20 rfl rfl rfl rfl rfl rfl ⟨Nat.le_of_ble_eq_true rfl, Nat.le_of_ble_eq_true rfl⟩ dX10_flush_6 (fun v w hw => ?_)
  obtain ⟨vi_6, ga_6, h6_0, h6_1, h6_2, h6_3, h6_4, h6_5, rfl, rfl⟩ := hw
  replace h6_0 : GI (wAl Z (Z.1 19) (Z.1 11)) vi_6 ga_6 := h6_0
  replace h6_1 : (∀ q, q ≠ 35 → vi_6 q = (ups vi 0 0) q) := h6_1
  replace h6_2 : (∀ q, q < 15 ∨ q = 16 ∨ q = 17 → ga_6 q = ga q) := h6_2
  replace h6_3 : vi_6 35 = Z.2.1 21 + nI (wC (Z.2.2 22) 16) := h6_3
  replace h6_4 : (∀ a, a < 64 → ga_6 15 a = wD (Z.2.2 21) (Z.2.2 20) (Z.2.2 22) 16 a) := h6_4
  replace h6_5 : (∀ q, q < 16 → ga_6 18 q = wY (Z.2.2 22) 16 q) := h6_5
  refine ⟨rfl, (mW ay ad vi_6 ga_6), (slp_all _ _ rfl).trans rfl, ?_⟩
  refine j_top (nI (wC (Z.2.2 22) 16)) rfl ?_
  exact j_iret F ⟨vi_6, ga_6, h6_0, h6_1 0 (by omega), rfl, rfl⟩ dX10_flush_9 (Nat.le_of_ble_eq_true rfl) (Nat.le_of_ble_eq_true rfl)

set_option maxHeartbeats 4000000 in
set_option maxRecDepth 100000 in
theorem c_X10_accumulator_ok (l : Launch) (D : va_G) (ay : Nat → ClassId) (ad : Nat → Nat) (vi : Nat → Int32) (ga : Nat → Nat → Int32) (Z : DS) (hG : GI Z vi ga) : jM l yX10_accumulator (jws yX10_accumulator cX10_accumulator 1 (some .int)) 0 0 0 0 D ay [.ref (ad 0)] (mW ay ad vi ga) (fun v w => ∃ (vi' : Nat → Int32) (ga' : Nat → Nat → Int32), GI Z vi' ga' ∧ vi' 0 = 0 ∧ v = some (.int (Z.2.1 19)) ∧ w = mW ay ad vi' ga') := by
  refine jM_of l (by decide) [(0, .ref (ad 0))] rfl rfl (fun p9 e9 s9 m9 a9 b9 me9 c9 A9 F => ?_)
  have hL5 := hG.2.2.2.2.1
  have h13 := hL5.1
  have hle := hG.2.2.1.2.2
  obtain ⟨x1, x2, x3, x4, x5, x6, x7, x8, x9, x10⟩ := hG.2.2.2.2.2.2.2
  have hx8 : Z.1 19 ≤ 8 := x1.2.2.2
  refine j_aload_n F 0 dX10_accumulator_0 rfl ?_
  refine j_iconst F (v := 0) dX10_accumulator_1 (by decide) ?_
  refine j_putf F fX10_1 0 (mW ay ad (ups vi 0 0) ga) rfl rfl rfl rfl rfl (Nat.le_of_ble_eq_true rfl) dX10_accumulator_2 ?_
  refine j_aload_n F 0 dX10_accumulator_5 rfl ?_
  refine j_getf F fX10_221 0 (v := .int (vi 33)) rfl rfl dX10_accumulator_6 ?_
  refine j_top (Z.2.1 19) x5 ?_
  exact j_iret F ⟨ups vi 0 0, ga, (GI_id hG (fun q hq => (ups_ne (by omega)).trans rfl) (fun q hq => rfl)), rfl, rfl, rfl⟩ dX10_accumulator_9 (Nat.le_of_ble_eq_true rfl) (Nat.le_of_ble_eq_true rfl)

set_option maxHeartbeats 4000000 in
set_option maxRecDepth 100000 in
theorem c_X10_resident_ok (l : Launch) (D : va_G) (ay : Nat → ClassId) (ad : Nat → Nat) (vi : Nat → Int32) (ga : Nat → Nat → Int32) (Z : DS) (hG : GI Z vi ga) : jM l yX10_resident (jws yX10_resident cX10_resident 1 (some .int)) 0 0 0 0 D ay [.ref (ad 0)] (mW ay ad vi ga) (fun v w => ∃ (vi' : Nat → Int32) (ga' : Nat → Nat → Int32), GI Z vi' ga' ∧ vi' 0 = 0 ∧ v = some (.int (nI (Z.1 11))) ∧ w = mW ay ad vi' ga') := by
  refine jM_of l (by decide) [(0, .ref (ad 0))] rfl rfl (fun p9 e9 s9 m9 a9 b9 me9 c9 A9 F => ?_)
  have hL5 := hG.2.2.2.2.1
  have h13 := hL5.1
  have hle := hG.2.2.1.2.2
  obtain ⟨x1, x2, x3, x4, x5, x6, x7, x8, x9, x10⟩ := hG.2.2.2.2.2.2.2
  have hx8 : Z.1 19 ≤ 8 := x1.2.2.2
  refine j_aload_n F 0 dX10_resident_0 rfl ?_
  refine j_iconst F (v := 0) dX10_resident_1 (by decide) ?_
  refine j_putf F fX10_1 0 (mW ay ad (ups vi 0 0) ga) rfl rfl rfl rfl rfl (Nat.le_of_ble_eq_true rfl) dX10_resident_2 ?_
  refine j_aload_n F 0 dX10_resident_5 rfl ?_
  refine j_getf F fX10_203 0 (v := .int (vi 32)) rfl rfl dX10_resident_6 ?_
  refine j_top (nI (Z.1 11)) x4 ?_
  exact j_iret F ⟨ups vi 0 0, ga, (GI_id hG (fun q hq => (ups_ne (by omega)).trans rfl) (fun q hq => rfl)), rfl, rfl, rfl⟩ dX10_resident_9 (Nat.le_of_ble_eq_true rfl) (Nat.le_of_ble_eq_true rfl)

set_option maxHeartbeats 4000000 in
set_option maxRecDepth 100000 in
theorem c_X10_faults_ok (l : Launch) (D : va_G) (ay : Nat → ClassId) (ad : Nat → Nat) (vi : Nat → Int32) (ga : Nat → Nat → Int32) (Z : DS) (hG : GI Z vi ga) : jM l yX10_faults (jws yX10_faults cX10_faults 1 (some .int)) 0 0 0 0 D ay [.ref (ad 0)] (mW ay ad vi ga) (fun v w => ∃ (vi' : Nat → Int32) (ga' : Nat → Nat → Int32), GI Z vi' ga' ∧ vi' 0 = 0 ∧ v = some (.int (Z.2.1 20)) ∧ w = mW ay ad vi' ga') := by
  refine jM_of l (by decide) [(0, .ref (ad 0))] rfl rfl (fun p9 e9 s9 m9 a9 b9 me9 c9 A9 F => ?_)
  have hL5 := hG.2.2.2.2.1
  have h13 := hL5.1
  have hle := hG.2.2.1.2.2
  obtain ⟨x1, x2, x3, x4, x5, x6, x7, x8, x9, x10⟩ := hG.2.2.2.2.2.2.2
  have hx8 : Z.1 19 ≤ 8 := x1.2.2.2
  refine j_aload_n F 0 dX10_faults_0 rfl ?_
  refine j_iconst F (v := 0) dX10_faults_1 (by decide) ?_
  refine j_putf F fX10_1 0 (mW ay ad (ups vi 0 0) ga) rfl rfl rfl rfl rfl (Nat.le_of_ble_eq_true rfl) dX10_faults_2 ?_
  refine j_aload_n F 0 dX10_faults_5 rfl ?_
  refine j_getf F fX10_215 0 (v := .int (vi 34)) rfl rfl dX10_faults_6 ?_
  refine j_top (Z.2.1 20) x6 ?_
  exact j_iret F ⟨ups vi 0 0, ga, (GI_id hG (fun q hq => (ups_ne (by omega)).trans rfl) (fun q hq => rfl)), rfl, rfl, rfl⟩ dX10_faults_9 (Nat.le_of_ble_eq_true rfl) (Nat.le_of_ble_eq_true rfl)

set_option maxHeartbeats 4000000 in
set_option maxRecDepth 100000 in
theorem c_X10_writes_ok (l : Launch) (D : va_G) (ay : Nat → ClassId) (ad : Nat → Nat) (vi : Nat → Int32) (ga : Nat → Nat → Int32) (Z : DS) (hG : GI Z vi ga) : jM l yX10_writes (jws yX10_writes cX10_writes 1 (some .int)) 0 0 0 0 D ay [.ref (ad 0)] (mW ay ad vi ga) (fun v w => ∃ (vi' : Nat → Int32) (ga' : Nat → Nat → Int32), GI Z vi' ga' ∧ vi' 0 = 0 ∧ v = some (.int (Z.2.1 21)) ∧ w = mW ay ad vi' ga') := by
  refine jM_of l (by decide) [(0, .ref (ad 0))] rfl rfl (fun p9 e9 s9 m9 a9 b9 me9 c9 A9 F => ?_)
  have hL5 := hG.2.2.2.2.1
  have h13 := hL5.1
  have hle := hG.2.2.1.2.2
  obtain ⟨x1, x2, x3, x4, x5, x6, x7, x8, x9, x10⟩ := hG.2.2.2.2.2.2.2
  have hx8 : Z.1 19 ≤ 8 := x1.2.2.2
  refine j_aload_n F 0 dX10_writes_0 rfl ?_
  refine j_iconst F (v := 0) dX10_writes_1 (by decide) ?_
  refine j_putf F fX10_1 0 (mW ay ad (ups vi 0 0) ga) rfl rfl rfl rfl rfl (Nat.le_of_ble_eq_true rfl) dX10_writes_2 ?_
  refine j_aload_n F 0 dX10_writes_5 rfl ?_
  refine j_getf F fX10_206 0 (v := .int (vi 35)) rfl rfl dX10_writes_6 ?_
  refine j_top (Z.2.1 21) x7 ?_
  exact j_iret F ⟨ups vi 0 0, ga, (GI_id hG (fun q hq => (ups_ne (by omega)).trans rfl) (fun q hq => rfl)), rfl, rfl, rfl⟩ dX10_writes_9 (Nat.le_of_ble_eq_true rfl) (Nat.le_of_ble_eq_true rfl)

set_option maxHeartbeats 4000000 in
set_option maxRecDepth 100000 in
theorem c_X10_wordAt_ok (l : Launch) (D : va_G) (ay : Nat → ClassId) (ad : Nat → Nat) (vi : Nat → Int32) (ga : Nat → Nat → Int32) (Z : DS) (a : Nat) (hG : GI Z vi ga) (ha : a < 64) : jM l yX10_wordAt (jws yX10_wordAt cX10_wordAt 2 (some .int)) 2 43 0 0 D ay [.ref (ad 0), .int (nI a)] (mW ay ad vi ga) (fun v w => ∃ (vi' : Nat → Int32) (ga' : Nat → Nat → Int32), GI Z vi' ga' ∧ vi' 0 = 0 ∧ v = some (.int (if fx (Z.2.2 23) (nI (a / 4)) (Z.1 11) < Z.1 11 then Z.2.2 21 a else Z.2.2 20 a)) ∧ w = mW ay ad vi' ga') := by
  refine jM_of l (by decide) [(0, .ref (ad 0)), (1, .int (nI a))] rfl rfl (fun p9 e9 s9 m9 a9 b9 me9 c9 A9 F => ?_)
  have hL5 := hG.2.2.2.2.1
  have h13 := hL5.1
  have hle := hG.2.2.1.2.2
  obtain ⟨x1, x2, x3, x4, x5, x6, x7, x8, x9, x10⟩ := hG.2.2.2.2.2.2.2
  have hx8 : Z.1 19 ≤ 8 := x1.2.2.2
  refine j_aload_n F 0 dX10_wordAt_0 rfl ?_
  refine j_iconst F (v := 0) dX10_wordAt_1 (by decide) ?_
  refine j_putf F fX10_1 0 (mW ay ad (ups vi 0 0) ga) rfl rfl rfl rfl rfl (Nat.le_of_ble_eq_true rfl) dX10_wordAt_2 ?_
  refine j_aload_n F 0 dX10_wordAt_5 rfl ?_
  refine j_iload_n F 1 dX10_wordAt_6 rfl ?_
  refine j_scallV F kX10_230 (As := [.int (nI a)]) (rest := []) (c_X10_noAddress_ok l D ay ad (ups vi 0 0) ga a rfl (show a < 64 from ha)) 0 0 20 rfl rfl rfl rfl rfl rfl ⟨Nat.le_of_ble_eq_true rfl, Nat.le_of_ble_eq_true rfl⟩ dX10_wordAt_7 (fun v w hw => ?_)
  obtain ⟨rfl, rfl⟩ := hw
  refine ⟨rfl, (mW ay ad (ups vi 0 0) ga), (slp_all _ _ rfl).trans rfl, ?_⟩
  refine j_top 0 rfl ?_
  refine j_if_eq F 17 dX10_wordAt_10 (by decide) (fun c_10 => ?_) (fun c_10 => absurd (by decide) c_10)
  refine j_aload_n F 0 dX10_wordAt_17 rfl ?_
  refine j_iload_n F 1 dX10_wordAt_18 rfl ?_
  refine j_iconst F (v := 4) dX10_wordAt_19 (by decide) ?_
  refine j_idiv F dX10_wordAt_20 (by decide) ?_
  refine j_top (nI (a / 4)) (pk_div (d := 4) (by omega) (by decide) (by decide)) ?_
  refine j_scallV F kX10_209 (As := [.int (nI (a / 4))]) (rest := []) (c_X10_pagePlace l D ay ad (ups vi 0 0) ga (Z.1 11) (nI (a / 4)) (show vi 32 = nI (Z.1 11) from x4) (show (Z.1 11) ≤ 9 from by omega)) 0 0 20 rfl rfl rfl rfl rfl rfl ⟨Nat.le_of_ble_eq_true rfl, Nat.le_of_ble_eq_true rfl⟩ dX10_wordAt_21 (fun v w hw => ?_)
  obtain ⟨rfl, rfl⟩ := hw
  refine ⟨rfl, (mW ay ad (ups vi 0 0) ga), (slp_all _ _ rfl).trans rfl, ?_⟩
  refine j_top (fxI (Z.2.2 23) (nI (a / 4)) (Z.1 11)) (by rw [fxI, fxI, fx_congr x10]) ?_
  by_cases hf : fx (Z.2.2 23) (nI (a / 4)) (Z.1 11) < Z.1 11
  · skip
    refine j_top (nI (fx (Z.2.2 23) (nI (a / 4)) (Z.1 11))) (if_pos hf) ?_
    refine j_iconst F (v := (-1)) dX10_wordAt_24 (by decide) ?_
    refine j_icmp_eq F 37 dX10_wordAt_25 (by decide) (fun c_25 => absurd c_25 (nI_m1 (by omega))) (fun c_25 => ?_)
    refine j_aload_n F 0 dX10_wordAt_28 rfl ?_
    refine j_getf F fX10_72 0 (v := .ref (ad 17)) rfl rfl dX10_wordAt_29 ?_
    refine j_iload_n F 1 dX10_wordAt_32 rfl ?_
    refine j_iald F 17 a (f := ga 16) rfl rfl (by omega) (Nat.le_of_ble_eq_true rfl) dX10_wordAt_33 ?_
    refine j_top (Z.2.2 21 a) (x8 a ha).2 ?_
    refine j_goto F 43 dX10_wordAt_34 (by decide) ?_
    exact j_iret F ⟨ups vi 0 0, ga, (GI_id hG (fun q hq => (ups_ne (by omega)).trans rfl) (fun q hq => rfl)), rfl, (by rw [if_pos hf]), rfl⟩ dX10_wordAt_43 (Nat.le_of_ble_eq_true rfl) (Nat.le_of_ble_eq_true rfl)
  · skip
    refine j_top (-1) (if_neg hf) ?_
    refine j_iconst F (v := (-1)) dX10_wordAt_24 (by decide) ?_
    refine j_icmp_eq F 37 dX10_wordAt_25 (by decide) (fun c_25 => ?_) (fun c_25 => absurd (by decide) c_25)
    refine j_aload_n F 0 dX10_wordAt_37 rfl ?_
    refine j_getf F fX10_69 0 (v := .ref (ad 16)) rfl rfl dX10_wordAt_38 ?_
    refine j_iload_n F 1 dX10_wordAt_41 rfl ?_
    refine j_iald F 16 a (f := ga 15) rfl rfl (by omega) (Nat.le_of_ble_eq_true rfl) dX10_wordAt_42 ?_
    refine j_top (Z.2.2 20 a) (x8 a ha).1 ?_
    exact j_iret F ⟨ups vi 0 0, ga, (GI_id hG (fun q hq => (ups_ne (by omega)).trans rfl) (fun q hq => rfl)), rfl, (by rw [if_neg hf]), rfl⟩ dX10_wordAt_43 (Nat.le_of_ble_eq_true rfl) (Nat.le_of_ble_eq_true rfl)

set_option maxHeartbeats 4000000 in
set_option maxRecDepth 100000 in
theorem c_X10_wordAt_no (l : Launch) (D : va_G) (ay : Nat → ClassId) (ad : Nat → Nat) (vi : Nat → Int32) (ga : Nat → Nat → Int32) (Z : DS) (x : Int32) (hG : GI Z vi ga) (h : oob x 0 63) : jM l yX10_wordAt (jws yX10_wordAt cX10_wordAt 2 (some .int)) 2 43 0 0 D ay [.ref (ad 0), .int x] (mW ay ad vi ga) (fun v w => ∃ (vi' : Nat → Int32) (ga' : Nat → Nat → Int32), GI Z vi' ga' ∧ vi' 0 = 1 ∧ v = some (.int 0) ∧ w = mW ay ad vi' ga') := by
  refine jM_of l (by decide) [(0, .ref (ad 0)), (1, .int x)] rfl rfl (fun p9 e9 s9 m9 a9 b9 me9 c9 A9 F => ?_)
  refine j_aload_n F 0 dX10_wordAt_0 rfl ?_
  refine j_iconst F (v := 0) dX10_wordAt_1 (by decide) ?_
  refine j_putf F fX10_1 0 (mW ay ad (ups vi 0 0) ga) rfl rfl rfl rfl rfl (Nat.le_of_ble_eq_true rfl) dX10_wordAt_2 ?_
  refine j_aload_n F 0 dX10_wordAt_5 rfl ?_
  refine j_iload_n F 1 dX10_wordAt_6 rfl ?_
  refine j_scallV F kX10_230 (As := [.int x]) (rest := []) (c_X10_noAddress_no l D ay ad (ups vi 0 0) ga x rfl (show oob x 0 63 from h)) 0 0 20 rfl rfl rfl rfl rfl rfl ⟨Nat.le_of_ble_eq_true rfl, Nat.le_of_ble_eq_true rfl⟩ dX10_wordAt_7 (fun v w hw => ?_)
  obtain ⟨rfl, rfl⟩ := hw
  refine ⟨rfl, (mW ay ad (ups vi 0 1) ga), (slp_all _ _ rfl).trans rfl, ?_⟩
  refine j_top 1 rfl ?_
  refine j_if_eq F 17 dX10_wordAt_10 (by decide) (fun c_10 => absurd c_10 (by decide)) (fun c_10 => ?_)
  refine j_iconst F (v := 0) dX10_wordAt_13 (by decide) ?_
  refine j_goto F 43 dX10_wordAt_14 (by decide) ?_
  exact j_iret F ⟨ups vi 0 1, ga, (GI_id hG (fun q hq => (ups_ne (by omega)).trans rfl) (fun q hq => rfl)), rfl, rfl, rfl⟩ dX10_wordAt_43 (Nat.le_of_ble_eq_true rfl) (Nat.le_of_ble_eq_true rfl)

set_option maxHeartbeats 4000000 in
set_option maxRecDepth 100000 in
theorem c_X10_discAt_ok (l : Launch) (D : va_G) (ay : Nat → ClassId) (ad : Nat → Nat) (vi : Nat → Int32) (ga : Nat → Nat → Int32) (Z : DS) (a : Nat) (hG : GI Z vi ga) (ha : a < 64) : jM l yX10_discAt (jws yX10_discAt cX10_discAt 2 (some .int)) 2 43 0 0 D ay [.ref (ad 0), .int (nI a)] (mW ay ad vi ga) (fun v w => ∃ (vi' : Nat → Int32) (ga' : Nat → Nat → Int32), GI Z vi' ga' ∧ vi' 0 = 0 ∧ v = some (.int (Z.2.2 20 a)) ∧ w = mW ay ad vi' ga') := by
  refine jM_of l (by decide) [(0, .ref (ad 0)), (1, .int (nI a))] rfl rfl (fun p9 e9 s9 m9 a9 b9 me9 c9 A9 F => ?_)
  have hL5 := hG.2.2.2.2.1
  have h13 := hL5.1
  have hle := hG.2.2.1.2.2
  obtain ⟨x1, x2, x3, x4, x5, x6, x7, x8, x9, x10⟩ := hG.2.2.2.2.2.2.2
  have hx8 : Z.1 19 ≤ 8 := x1.2.2.2
  refine j_aload_n F 0 dX10_discAt_0 rfl ?_
  refine j_iconst F (v := 0) dX10_discAt_1 (by decide) ?_
  refine j_putf F fX10_1 0 (mW ay ad (ups vi 0 0) ga) rfl rfl rfl rfl rfl (Nat.le_of_ble_eq_true rfl) dX10_discAt_2 ?_
  refine j_aload_n F 0 dX10_discAt_5 rfl ?_
  refine j_iload_n F 1 dX10_discAt_6 rfl ?_
  refine j_scallV F kX10_230 (As := [.int (nI a)]) (rest := []) (c_X10_noAddress_ok l D ay ad (ups vi 0 0) ga a rfl (show a < 64 from ha)) 0 0 20 rfl rfl rfl rfl rfl rfl ⟨Nat.le_of_ble_eq_true rfl, Nat.le_of_ble_eq_true rfl⟩ dX10_discAt_7 (fun v w hw => ?_)
  obtain ⟨rfl, rfl⟩ := hw
  refine ⟨rfl, (mW ay ad (ups vi 0 0) ga), (slp_all _ _ rfl).trans rfl, ?_⟩
  refine j_top 0 rfl ?_
  refine j_if_eq F 17 dX10_discAt_10 (by decide) (fun c_10 => ?_) (fun c_10 => absurd (by decide) c_10)
  refine j_aload_n F 0 dX10_discAt_17 rfl ?_
  refine j_getf F fX10_69 0 (v := .ref (ad 16)) rfl rfl dX10_discAt_18 ?_
  refine j_iload_n F 1 dX10_discAt_21 rfl ?_
  refine j_iald F 16 a (f := ga 15) rfl rfl (by omega) (Nat.le_of_ble_eq_true rfl) dX10_discAt_22 ?_
  refine j_top (Z.2.2 20 a) (x8 a ha).1 ?_
  exact j_iret F ⟨ups vi 0 0, ga, (GI_id hG (fun q hq => (ups_ne (by omega)).trans rfl) (fun q hq => rfl)), rfl, rfl, rfl⟩ dX10_discAt_23 (Nat.le_of_ble_eq_true rfl) (Nat.le_of_ble_eq_true rfl)

set_option maxHeartbeats 4000000 in
set_option maxRecDepth 100000 in
theorem c_X10_discAt_no (l : Launch) (D : va_G) (ay : Nat → ClassId) (ad : Nat → Nat) (vi : Nat → Int32) (ga : Nat → Nat → Int32) (Z : DS) (x : Int32) (hG : GI Z vi ga) (h : oob x 0 63) : jM l yX10_discAt (jws yX10_discAt cX10_discAt 2 (some .int)) 2 43 0 0 D ay [.ref (ad 0), .int x] (mW ay ad vi ga) (fun v w => ∃ (vi' : Nat → Int32) (ga' : Nat → Nat → Int32), GI Z vi' ga' ∧ vi' 0 = 1 ∧ v = some (.int 0) ∧ w = mW ay ad vi' ga') := by
  refine jM_of l (by decide) [(0, .ref (ad 0)), (1, .int x)] rfl rfl (fun p9 e9 s9 m9 a9 b9 me9 c9 A9 F => ?_)
  refine j_aload_n F 0 dX10_discAt_0 rfl ?_
  refine j_iconst F (v := 0) dX10_discAt_1 (by decide) ?_
  refine j_putf F fX10_1 0 (mW ay ad (ups vi 0 0) ga) rfl rfl rfl rfl rfl (Nat.le_of_ble_eq_true rfl) dX10_discAt_2 ?_
  refine j_aload_n F 0 dX10_discAt_5 rfl ?_
  refine j_iload_n F 1 dX10_discAt_6 rfl ?_
  refine j_scallV F kX10_230 (As := [.int x]) (rest := []) (c_X10_noAddress_no l D ay ad (ups vi 0 0) ga x rfl (show oob x 0 63 from h)) 0 0 20 rfl rfl rfl rfl rfl rfl ⟨Nat.le_of_ble_eq_true rfl, Nat.le_of_ble_eq_true rfl⟩ dX10_discAt_7 (fun v w hw => ?_)
  obtain ⟨rfl, rfl⟩ := hw
  refine ⟨rfl, (mW ay ad (ups vi 0 1) ga), (slp_all _ _ rfl).trans rfl, ?_⟩
  refine j_top 1 rfl ?_
  refine j_if_eq F 17 dX10_discAt_10 (by decide) (fun c_10 => absurd c_10 (by decide)) (fun c_10 => ?_)
  refine j_iconst F (v := 0) dX10_discAt_13 (by decide) ?_
  refine j_goto F 23 dX10_discAt_14 (by decide) ?_
  exact j_iret F ⟨ups vi 0 1, ga, (GI_id hG (fun q hq => (ups_ne (by omega)).trans rfl) (fun q hq => rfl)), rfl, rfl, rfl⟩ dX10_discAt_23 (Nat.le_of_ble_eq_true rfl) (Nat.le_of_ble_eq_true rfl)

set_option maxHeartbeats 4000000 in
set_option maxRecDepth 100000 in
theorem c_X10_residentAt_ok (l : Launch) (D : va_G) (ay : Nat → ClassId) (ad : Nat → Nat) (vi : Nat → Int32) (ga : Nat → Nat → Int32) (Z : DS) (j : Nat) (hG : GI Z vi ga) (hj : j < Z.1 11) : jM l yX10_residentAt (jws yX10_residentAt cX10_residentAt 2 (some .int)) 1 22 0 0 D ay [.ref (ad 0), .int (nI j)] (mW ay ad vi ga) (fun v w => ∃ (vi' : Nat → Int32) (ga' : Nat → Nat → Int32), GI Z vi' ga' ∧ vi' 0 = 0 ∧ v = some (.int (Z.2.2 23 j)) ∧ w = mW ay ad vi' ga') := by
  refine jM_of l (by decide) [(0, .ref (ad 0)), (1, .int (nI j))] rfl rfl (fun p9 e9 s9 m9 a9 b9 me9 c9 A9 F => ?_)
  have hL5 := hG.2.2.2.2.1
  have h13 := hL5.1
  have hle := hG.2.2.1.2.2
  obtain ⟨x1, x2, x3, x4, x5, x6, x7, x8, x9, x10⟩ := hG.2.2.2.2.2.2.2
  have hx8 : Z.1 19 ≤ 8 := x1.2.2.2
  refine j_aload_n F 0 dX10_residentAt_0 rfl ?_
  refine j_iconst F (v := 0) dX10_residentAt_1 (by decide) ?_
  refine j_putf F fX10_1 0 (mW ay ad (ups vi 0 0) ga) rfl rfl rfl rfl rfl (Nat.le_of_ble_eq_true rfl) dX10_residentAt_2 ?_
  refine j_aload_n F 0 dX10_residentAt_5 rfl ?_
  refine j_iload_n F 1 dX10_residentAt_6 rfl ?_
  refine j_iconst F (v := 0) dX10_residentAt_7 (by decide) ?_
  refine j_aload_n F 0 dX10_residentAt_8 rfl ?_
  refine j_getf F fX10_203 0 (v := .int (vi 32)) rfl rfl dX10_residentAt_9 ?_
  refine j_top (nI (Z.1 11)) x4 ?_
  refine j_iconst F (v := 1) dX10_residentAt_12 (by decide) ?_
  refine j_isub F dX10_residentAt_13 ?_
  refine j_ecallS F kX10_84 (As := [.int (nI j), .int 0, .int (nI (Z.1 11) - 1)]) (rest := [.ref (ad 0)]) (c_X10_in l D ay (nI j) 0 (nI (Z.1 11) - 1) (show ¬ oob (nI j) 0 (nI (Z.1 11) - 1) from nop hj (by omega))) rfl rfl rfl rfl ⟨Nat.le_of_ble_eq_true rfl, Nat.le_of_ble_eq_true rfl⟩ dX10_residentAt_14 (fun v w hw => ?_)
  obtain ⟨rfl, rfl⟩ := hw
  refine ⟨rfl, ?_⟩
  refine j_top 1 rfl ?_
  refine j_iconst F (v := 1) dX10_residentAt_17 (by decide) ?_
  refine j_scallV F kX10_88 (As := [.int 1, .int 1]) (rest := []) (c_X10_fails_ok l D ay ad (ups vi 0 0) ga 1 rfl) 0 0 20 rfl rfl rfl rfl rfl rfl ⟨Nat.le_of_ble_eq_true rfl, Nat.le_of_ble_eq_true rfl⟩ dX10_residentAt_18 (fun v w hw => ?_)
  obtain ⟨rfl, rfl⟩ := hw
  refine ⟨rfl, (mW ay ad (ups vi 0 0) ga), (slp_all _ _ rfl).trans rfl, ?_⟩
  refine j_top 0 rfl ?_
  refine j_if_eq F 28 dX10_residentAt_21 (by decide) (fun c_21 => ?_) (fun c_21 => absurd (by decide) c_21)
  refine j_aload_n F 0 dX10_residentAt_28 rfl ?_
  refine j_getf F fX10_75 0 (v := .ref (ad 18)) rfl rfl dX10_residentAt_29 ?_
  refine j_iload_n F 1 dX10_residentAt_32 rfl ?_
  refine j_iald F 18 j (f := ga 17) rfl rfl (by omega) (Nat.le_of_ble_eq_true rfl) dX10_residentAt_33 ?_
  refine j_top (Z.2.2 23 j) (x10 j hj) ?_
  exact j_iret F ⟨ups vi 0 0, ga, (GI_id hG (fun q hq => (ups_ne (by omega)).trans rfl) (fun q hq => rfl)), rfl, rfl, rfl⟩ dX10_residentAt_34 (Nat.le_of_ble_eq_true rfl) (Nat.le_of_ble_eq_true rfl)

set_option maxHeartbeats 4000000 in
set_option maxRecDepth 100000 in
theorem c_X10_residentAt_no (l : Launch) (D : va_G) (ay : Nat → ClassId) (ad : Nat → Nat) (vi : Nat → Int32) (ga : Nat → Nat → Int32) (Z : DS) (x : Int32) (hG : GI Z vi ga) (h : oop x (Z.1 11)) : jM l yX10_residentAt (jws yX10_residentAt cX10_residentAt 2 (some .int)) 1 22 0 0 D ay [.ref (ad 0), .int x] (mW ay ad vi ga) (fun v w => ∃ (vi' : Nat → Int32) (ga' : Nat → Nat → Int32), GI Z vi' ga' ∧ vi' 0 = 1 ∧ v = some (.int 0) ∧ w = mW ay ad vi' ga') := by
  refine jM_of l (by decide) [(0, .ref (ad 0)), (1, .int x)] rfl rfl (fun p9 e9 s9 m9 a9 b9 me9 c9 A9 F => ?_)
  obtain ⟨x1, x2, x3, x4, x5, x6, x7, x8, x9, x10⟩ := hG.2.2.2.2.2.2.2
  have hx8 : Z.1 19 ≤ 8 := x1.2.2.2
  refine j_aload_n F 0 dX10_residentAt_0 rfl ?_
  refine j_iconst F (v := 0) dX10_residentAt_1 (by decide) ?_
  refine j_putf F fX10_1 0 (mW ay ad (ups vi 0 0) ga) rfl rfl rfl rfl rfl (Nat.le_of_ble_eq_true rfl) dX10_residentAt_2 ?_
  refine j_aload_n F 0 dX10_residentAt_5 rfl ?_
  refine j_iload_n F 1 dX10_residentAt_6 rfl ?_
  refine j_iconst F (v := 0) dX10_residentAt_7 (by decide) ?_
  refine j_aload_n F 0 dX10_residentAt_8 rfl ?_
  refine j_getf F fX10_203 0 (v := .int (vi 32)) rfl rfl dX10_residentAt_9 ?_
  refine j_top (nI (Z.1 11)) x4 ?_
  refine j_iconst F (v := 1) dX10_residentAt_12 (by decide) ?_
  refine j_isub F dX10_residentAt_13 ?_
  refine j_ecallS F kX10_84 (As := [.int x, .int 0, .int (nI (Z.1 11) - 1)]) (rest := [.ref (ad 0)]) (c_X10_in_no l D ay x 0 (nI (Z.1 11) - 1) (show oob x 0 (nI (Z.1 11) - 1) from (oop_oob (by omega)).mpr h)) rfl rfl rfl rfl ⟨Nat.le_of_ble_eq_true rfl, Nat.le_of_ble_eq_true rfl⟩ dX10_residentAt_14 (fun v w hw => ?_)
  obtain ⟨rfl, rfl⟩ := hw
  refine ⟨rfl, ?_⟩
  refine j_top 0 rfl ?_
  refine j_iconst F (v := 1) dX10_residentAt_17 (by decide) ?_
  refine j_scallV F kX10_88 (As := [.int 0, .int 1]) (rest := []) (c_X10_fails_no l D ay ad (ups vi 0 0) ga 1 rfl (show ¬ 1 = 0 from by decide)) 0 0 20 rfl rfl rfl rfl rfl rfl ⟨Nat.le_of_ble_eq_true rfl, Nat.le_of_ble_eq_true rfl⟩ dX10_residentAt_18 (fun v w hw => ?_)
  obtain ⟨rfl, rfl⟩ := hw
  refine ⟨rfl, (mW ay ad (ups vi 0 1) ga), (slp_all _ _ rfl).trans rfl, ?_⟩
  refine j_top 1 rfl ?_
  refine j_if_eq F 28 dX10_residentAt_21 (by decide) (fun c_21 => absurd c_21 (by decide)) (fun c_21 => ?_)
  refine j_iconst F (v := 0) dX10_residentAt_24 (by decide) ?_
  refine j_goto F 34 dX10_residentAt_25 (by decide) ?_
  exact j_iret F ⟨ups vi 0 1, ga, (GI_id hG (fun q hq => (ups_ne (by omega)).trans rfl) (fun q hq => rfl)), rfl, rfl, rfl⟩ dX10_residentAt_34 (Nat.le_of_ble_eq_true rfl) (Nat.le_of_ble_eq_true rfl)

set_option maxHeartbeats 4000000 in
set_option maxRecDepth 100000 in
theorem c_X10_isDirty_ok (l : Launch) (D : va_G) (ay : Nat → ClassId) (ad : Nat → Nat) (vi : Nat → Int32) (ga : Nat → Nat → Int32) (Z : DS) (p : Nat) (hG : GI Z vi ga) (hp : p < 16) : jM l yX10_isDirty (jws yX10_isDirty cX10_isDirty 2 (some .boolean)) 1 22 0 0 D ay [.ref (ad 0), .int (nI p)] (mW ay ad vi ga) (fun v w => ∃ (vi' : Nat → Int32) (ga' : Nat → Nat → Int32), GI Z vi' ga' ∧ vi' 0 = 0 ∧ v = some (.int (if Z.2.2 22 p = 0 then 0 else 1)) ∧ w = mW ay ad vi' ga') := by
  refine jM_of l (by decide) [(0, .ref (ad 0)), (1, .int (nI p))] rfl rfl (fun p9 e9 s9 m9 a9 b9 me9 c9 A9 F => ?_)
  have hL5 := hG.2.2.2.2.1
  have h13 := hL5.1
  have hle := hG.2.2.1.2.2
  obtain ⟨x1, x2, x3, x4, x5, x6, x7, x8, x9, x10⟩ := hG.2.2.2.2.2.2.2
  have hx8 : Z.1 19 ≤ 8 := x1.2.2.2
  refine j_aload_n F 0 dX10_isDirty_0 rfl ?_
  refine j_iconst F (v := 0) dX10_isDirty_1 (by decide) ?_
  refine j_putf F fX10_1 0 (mW ay ad (ups vi 0 0) ga) rfl rfl rfl rfl rfl (Nat.le_of_ble_eq_true rfl) dX10_isDirty_2 ?_
  refine j_aload_n F 0 dX10_isDirty_5 rfl ?_
  refine j_iload_n F 1 dX10_isDirty_6 rfl ?_
  refine j_iconst F (v := 0) dX10_isDirty_7 (by decide) ?_
  refine j_bipush F (v := 15) dX10_isDirty_8 (by decide) ?_
  refine j_ecallS F kX10_84 (As := [.int (nI p), .int 0, .int 15]) (rest := [.ref (ad 0)]) (c_X10_in l D ay (nI p) 0 15 (show ¬ oob (nI p) 0 15 from nob15 hp)) rfl rfl rfl rfl ⟨Nat.le_of_ble_eq_true rfl, Nat.le_of_ble_eq_true rfl⟩ dX10_isDirty_10 (fun v w hw => ?_)
  obtain ⟨rfl, rfl⟩ := hw
  refine ⟨rfl, ?_⟩
  refine j_top 1 rfl ?_
  refine j_iconst F (v := 1) dX10_isDirty_13 (by decide) ?_
  refine j_scallV F kX10_88 (As := [.int 1, .int 1]) (rest := []) (c_X10_fails_ok l D ay ad (ups vi 0 0) ga 1 rfl) 0 0 20 rfl rfl rfl rfl rfl rfl ⟨Nat.le_of_ble_eq_true rfl, Nat.le_of_ble_eq_true rfl⟩ dX10_isDirty_14 (fun v w hw => ?_)
  obtain ⟨rfl, rfl⟩ := hw
  refine ⟨rfl, (mW ay ad (ups vi 0 0) ga), (slp_all _ _ rfl).trans rfl, ?_⟩
  refine j_top 0 rfl ?_
  refine j_if_ne F 33 dX10_isDirty_17 (by decide) (fun c_17 => absurd (by decide) c_17) (fun c_17 => ?_)
  refine j_aload_n F 0 dX10_isDirty_20 rfl ?_
  refine j_getf F fX10_78 0 (v := .ref (ad 19)) rfl rfl dX10_isDirty_21 ?_
  refine j_iload_n F 1 dX10_isDirty_24 rfl ?_
  refine j_zald F 19 p (f := ga 18) rfl rfl (by omega) (Nat.le_of_ble_eq_true rfl) dX10_isDirty_25 ?_
  refine j_top (Z.2.2 22 p) (x9 p hp).1 ?_
  refine j_if_eq F 33 dX10_isDirty_26 (by decide) (fun c_26 => ?_) (fun c_26 => ?_)
  · skip
    refine j_iconst F (v := 0) dX10_isDirty_33 (by decide) ?_
    exact j_zret F (Or.inl rfl) ⟨ups vi 0 0, ga, (GI_id hG (fun q hq => (ups_ne (by omega)).trans rfl) (fun q hq => rfl)), rfl, (by rw [if_pos c_26]), rfl⟩ dX10_isDirty_34 (Nat.le_of_ble_eq_true rfl) (Nat.le_of_ble_eq_true rfl)
  · skip
    refine j_iconst F (v := 1) dX10_isDirty_29 (by decide) ?_
    refine j_goto F 34 dX10_isDirty_30 (by decide) ?_
    exact j_zret F (Or.inr rfl) ⟨ups vi 0 0, ga, (GI_id hG (fun q hq => (ups_ne (by omega)).trans rfl) (fun q hq => rfl)), rfl, (by rw [if_neg c_26]), rfl⟩ dX10_isDirty_34 (Nat.le_of_ble_eq_true rfl) (Nat.le_of_ble_eq_true rfl)

set_option maxHeartbeats 4000000 in
set_option maxRecDepth 100000 in
theorem c_X10_isDirty_no (l : Launch) (D : va_G) (ay : Nat → ClassId) (ad : Nat → Nat) (vi : Nat → Int32) (ga : Nat → Nat → Int32) (Z : DS) (x : Int32) (hG : GI Z vi ga) (h : oob x 0 15) : jM l yX10_isDirty (jws yX10_isDirty cX10_isDirty 2 (some .boolean)) 1 22 0 0 D ay [.ref (ad 0), .int x] (mW ay ad vi ga) (fun v w => ∃ (vi' : Nat → Int32) (ga' : Nat → Nat → Int32), GI Z vi' ga' ∧ vi' 0 = 1 ∧ v = some (.int 0) ∧ w = mW ay ad vi' ga') := by
  refine jM_of l (by decide) [(0, .ref (ad 0)), (1, .int x)] rfl rfl (fun p9 e9 s9 m9 a9 b9 me9 c9 A9 F => ?_)
  refine j_aload_n F 0 dX10_isDirty_0 rfl ?_
  refine j_iconst F (v := 0) dX10_isDirty_1 (by decide) ?_
  refine j_putf F fX10_1 0 (mW ay ad (ups vi 0 0) ga) rfl rfl rfl rfl rfl (Nat.le_of_ble_eq_true rfl) dX10_isDirty_2 ?_
  refine j_aload_n F 0 dX10_isDirty_5 rfl ?_
  refine j_iload_n F 1 dX10_isDirty_6 rfl ?_
  refine j_iconst F (v := 0) dX10_isDirty_7 (by decide) ?_
  refine j_bipush F (v := 15) dX10_isDirty_8 (by decide) ?_
  refine j_ecallS F kX10_84 (As := [.int x, .int 0, .int 15]) (rest := [.ref (ad 0)]) (c_X10_in_no l D ay x 0 15 (show oob x 0 15 from h)) rfl rfl rfl rfl ⟨Nat.le_of_ble_eq_true rfl, Nat.le_of_ble_eq_true rfl⟩ dX10_isDirty_10 (fun v w hw => ?_)
  obtain ⟨rfl, rfl⟩ := hw
  refine ⟨rfl, ?_⟩
  refine j_top 0 rfl ?_
  refine j_iconst F (v := 1) dX10_isDirty_13 (by decide) ?_
  refine j_scallV F kX10_88 (As := [.int 0, .int 1]) (rest := []) (c_X10_fails_no l D ay ad (ups vi 0 0) ga 1 rfl (show ¬ 1 = 0 from by decide)) 0 0 20 rfl rfl rfl rfl rfl rfl ⟨Nat.le_of_ble_eq_true rfl, Nat.le_of_ble_eq_true rfl⟩ dX10_isDirty_14 (fun v w hw => ?_)
  obtain ⟨rfl, rfl⟩ := hw
  refine ⟨rfl, (mW ay ad (ups vi 0 1) ga), (slp_all _ _ rfl).trans rfl, ?_⟩
  refine j_top 1 rfl ?_
  refine j_if_ne F 33 dX10_isDirty_17 (by decide) (fun c_17 => ?_) (fun c_17 => absurd c_17 (by decide))
  refine j_iconst F (v := 0) dX10_isDirty_33 (by decide) ?_
  exact j_zret F (Or.inl rfl) ⟨ups vi 0 1, ga, (GI_id hG (fun q hq => (ups_ne (by omega)).trans rfl) (fun q hq => rfl)), rfl, rfl, rfl⟩ dX10_isDirty_34 (Nat.le_of_ble_eq_true rfl) (Nat.le_of_ble_eq_true rfl)

