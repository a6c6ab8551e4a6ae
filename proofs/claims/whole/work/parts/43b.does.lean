theorem mstC_G {T : DS} {vi vi' : Nat → Int32} {ga : Nat → Nat → Int32} {x : Int32} (hG : GI T vi ga) (hv : ∀ q, q ≠ 33 → vi' q = vi q) (e3 : vi' 33 = x) : GI (mstC T x) vi' ga := by
  obtain ⟨x1, x2, x3, x4, x5, x6, x7, x8, x9, x10⟩ := hG.2.2.2.2.2.2.2
  have hxu := xU_fr (T := T) (fr := T.1 19) (ac := x) (fc := T.2.1 20) (wc := T.2.1 21) (dd := T.2.2 20) (hh := T.2.2 21) (yy := T.2.2 22) (n := T.1 11) (f := T.2.2 23)
  exact GI_x hG (fun q a b => hxu.1 q b a) hxu.2.1 hxu.2.2 (gX_U x1.1 x1.2.1 x1.2.2 x2 ((hv 31 (by omega)).trans x3) ((hv 32 (by omega)).trans x4) e3 ((hv 34 (by omega)).trans x6) ((hv 35 (by omega)).trans x7) x8 x9 x10) (fun q hq => hv q (by omega)) (fun _ _ => rfl)
set_option maxHeartbeats 4000000 in
set_option maxRecDepth 100000 in
theorem c_X10_does_c (l : Launch) (D : va_G) (ay : Nat → ClassId) (ad : Nat → Nat) (vi : Nat → Int32) (ga : Nat → Nat → Int32) (Z : DS) (x : Int32) (hG : GI Z vi ga) : jM l yX10_does (jws yX10_does cX10_does 3 none) 3 70 0 0 D ay [.ref (ad 0), .int 99, .int x] (mW ay ad vi ga) (fun v w => ∃ (vi' : Nat → Int32) (ga' : Nat → Nat → Int32), GI (mstC Z x) vi' ga' ∧ vi' 0 = vi 0 ∧ (∀ q, 14 ≤ q ∧ q < 31 → vi' q = vi q) ∧ (∀ q, 9 ≤ q ∧ q < 15 → ga' q = ga q) ∧ v = none ∧ w = mW ay ad vi' ga') := by
  refine jM_of l (by decide) [(0, .ref (ad 0)), (1, .int 99), (2, .int x)] rfl rfl (fun p9 e9 s9 m9 a9 b9 me9 c9 A9 F => ?_)
  refine j_iload_n F 1 dX10_does_0 rfl ?_
  refine j_bipush F (v := 99) dX10_does_1 (by decide) ?_
  refine j_icmp_ne F 12 dX10_does_3 (by decide) (fun c_3 => absurd (by decide) c_3) (fun c_3 => ?_)
  refine j_aload_n F 0 dX10_does_6 rfl ?_
  refine j_iload_n F 2 dX10_does_7 rfl ?_
  refine j_putf F fX10_221 0 (mW ay ad (ups vi 33 x) ga) rfl rfl rfl rfl rfl (Nat.le_of_ble_eq_true rfl) dX10_does_8 ?_
  exact j_vret F ⟨ups vi 33 x, ga, mstC_G hG (fun q hq => ups_ne hq) rfl, rfl, fun q hq => ups_ne (by omega), fun q hq => rfl, rfl, rfl⟩ dX10_does_11 (Nat.le_of_ble_eq_true rfl) (Nat.le_of_ble_eq_true rfl)

set_option maxHeartbeats 4000000 in
set_option maxRecDepth 100000 in
theorem c_X10_does_mstL (l : Launch) (D : va_G) (ay : Nat → ClassId) (ad : Nat → Nat) (vi : Nat → Int32) (ga : Nat → Nat → Int32) (Z : DS) (a : Nat) (hG : GI Z vi ga) (ha : a < 64) (hc : Z.1 14 < 1000) : jM l yX10_does (jws yX10_does cX10_does 3 none) 3 70 0 0 D ay [.ref (ad 0), .int 108, .int (nI a)] (mW ay ad vi ga) (fun v w => ∃ (vi' : Nat → Int32) (ga' : Nat → Nat → Int32), GI (mstL (askS Z (nI (a / 4))) a) vi' ga' ∧ vi' 0 = vi 0 ∧ (∀ q, 14 ≤ q ∧ q < 31 → vi' q = vi q) ∧ (∀ q, 9 ≤ q ∧ q < 15 → ga' q = ga q) ∧ v = none ∧ w = mW ay ad vi' ga') := by
  refine jM_of l (by decide) [(0, .ref (ad 0)), (1, .int 108), (2, .int (nI a))] rfl rfl (fun p9 e9 s9 m9 a9 b9 me9 c9 A9 F => ?_)
  refine j_iload_n F 1 dX10_does_0 rfl ?_
  refine j_bipush F (v := 99) dX10_does_1 (by decide) ?_
  refine j_icmp_ne F 12 dX10_does_3 (by decide) (fun c_3 => ?_) (fun c_3 => absurd c_3 (by decide))
  refine j_aload_n F 0 dX10_does_12 rfl ?_
  refine j_iload_n F 2 dX10_does_13 rfl ?_
  refine j_iconst F (v := 4) dX10_does_14 (by decide) ?_
  refine j_idiv F dX10_does_15 (by decide) ?_
  refine j_top (nI (a / 4)) (pk_div (d := 4) (by omega) (by decide) (by decide)) ?_
  refine j_scallV F kX10_224 (As := [.int (nI (a / 4))]) (rest := []) (c_X10_accesses l D ay ad vi ga Z (a / 4) (show GI Z vi ga from hG) (show (a / 4) < 16 from by omega) (show Z.1 14 < 1000 from hc)) 0 0 20 rfl rfl rfl rfl rfl rfl ⟨Nat.le_of_ble_eq_true rfl, Nat.le_of_ble_eq_true rfl⟩ dX10_does_16 (fun v w hw => ?_)
  obtain ⟨vi_16, ga_16, h16_0, h16_1, h16_2, h16_3, rfl, rfl⟩ := hw
  replace h16_0 : GI (acx (askS Z (nI (a / 4))) (a / 4) ((askS Z (nI (a / 4))).2.1 19) (aHH (askS Z (nI (a / 4))) (a / 4)) (aYY (askS Z (nI (a / 4))) (a / 4))) vi_16 ga_16 := h16_0
  replace h16_1 : vi_16 0 = vi 0 := h16_1
  replace h16_2 : (∀ q, 14 ≤ q ∧ q < 31 → vi_16 q = vi q) := h16_2
  replace h16_3 : (∀ q, 9 ≤ q ∧ q < 15 → ga_16 q = ga q) := h16_3
  refine ⟨rfl, (mW ay ad vi_16 ga_16), (slp_all _ _ rfl).trans rfl, ?_⟩
  obtain ⟨x1, x2, x3, x4, x5, x6, x7, x8, x9, x10⟩ := h16_0.2.2.2.2.2.2.2
  replace x8 : ∀ q, q < 64 → ga_16 15 q = aDD (askS Z (nI (a / 4))) (a / 4) q ∧ ga_16 16 q = aHH (askS Z (nI (a / 4))) (a / 4) q := x8
  replace x9 : ∀ q, q < 16 → ga_16 18 q = aYY (askS Z (nI (a / 4))) (a / 4) q ∧ (aYY (askS Z (nI (a / 4))) (a / 4) q = 0 ∨ aYY (askS Z (nI (a / 4))) (a / 4) q = 1) := x9
  replace x5 : vi_16 33 = (askS Z (nI (a / 4))).2.1 19 := x5
  refine j_iload_n F 1 dX10_does_19 rfl ?_
  refine j_bipush F (v := 108) dX10_does_20 (by decide) ?_
  refine j_icmp_ne F 35 dX10_does_22 (by decide) (fun c_22 => absurd (by decide) c_22) (fun c_22 => ?_)
  refine j_aload_n F 0 dX10_does_25 rfl ?_
  refine j_aload_n F 0 dX10_does_26 rfl ?_
  refine j_getf F fX10_72 0 (v := .ref (ad 17)) rfl rfl dX10_does_27 ?_
  refine j_iload_n F 2 dX10_does_30 rfl ?_
  refine j_iald F 17 a (f := ga_16 16) rfl rfl (by omega) (Nat.le_of_ble_eq_true rfl) dX10_does_31 ?_
  refine j_top (aHH (askS Z (nI (a / 4))) (a / 4) a) (x8 a ha).2 ?_
  refine j_putf F fX10_221 0 (mW ay ad (ups vi_16 33 (aHH (askS Z (nI (a / 4))) (a / 4) a)) ga_16) rfl rfl rfl rfl rfl (Nat.le_of_ble_eq_true rfl) dX10_does_32 ?_
  refine j_iload_n F 1 dX10_does_35 rfl ?_
  refine j_bipush F (v := 97) dX10_does_36 (by decide) ?_
  refine j_icmp_ne F 56 dX10_does_38 (by decide) (fun c_38 => ?_) (fun c_38 => absurd c_38 (by decide))
  refine j_iload_n F 1 dX10_does_56 rfl ?_
  refine j_bipush F (v := 115) dX10_does_57 (by decide) ?_
  refine j_icmp_eq F 63 dX10_does_59 (by decide) (fun c_59 => absurd c_59 (by decide)) (fun c_59 => ?_)
  exact j_vret F ⟨ups vi_16 33 (aHH (askS Z (nI (a / 4))) (a / 4) a), ga_16, acx_G h16_0 (fun q hq => (ups_ne (by omega)).trans rfl) (fun q hq => rfl) rfl rfl rfl rfl rfl rfl rfl (fun q hq => (x8 q hq).2) x9, h16_1, fun q hq => ((fun q hq => (ups_ne (by omega)).trans rfl) q hq).trans (h16_2 q hq), fun q hq => ((fun q hq => rfl) q hq).trans (h16_3 q hq), rfl, rfl⟩ dX10_does_62 (Nat.le_of_ble_eq_true rfl) (Nat.le_of_ble_eq_true rfl)

set_option maxHeartbeats 4000000 in
set_option maxRecDepth 100000 in
theorem c_X10_does_mstA (l : Launch) (D : va_G) (ay : Nat → ClassId) (ad : Nat → Nat) (vi : Nat → Int32) (ga : Nat → Nat → Int32) (Z : DS) (a : Nat) (hG : GI Z vi ga) (ha : a < 64) (hc : Z.1 14 < 1000) : jM l yX10_does (jws yX10_does cX10_does 3 none) 3 70 0 0 D ay [.ref (ad 0), .int 97, .int (nI a)] (mW ay ad vi ga) (fun v w => ∃ (vi' : Nat → Int32) (ga' : Nat → Nat → Int32), GI (mstA (askS Z (nI (a / 4))) a) vi' ga' ∧ vi' 0 = vi 0 ∧ (∀ q, 14 ≤ q ∧ q < 31 → vi' q = vi q) ∧ (∀ q, 9 ≤ q ∧ q < 15 → ga' q = ga q) ∧ v = none ∧ w = mW ay ad vi' ga') := by
  refine jM_of l (by decide) [(0, .ref (ad 0)), (1, .int 97), (2, .int (nI a))] rfl rfl (fun p9 e9 s9 m9 a9 b9 me9 c9 A9 F => ?_)
  refine j_iload_n F 1 dX10_does_0 rfl ?_
  refine j_bipush F (v := 99) dX10_does_1 (by decide) ?_
  refine j_icmp_ne F 12 dX10_does_3 (by decide) (fun c_3 => ?_) (fun c_3 => absurd c_3 (by decide))
  refine j_aload_n F 0 dX10_does_12 rfl ?_
  refine j_iload_n F 2 dX10_does_13 rfl ?_
  refine j_iconst F (v := 4) dX10_does_14 (by decide) ?_
  refine j_idiv F dX10_does_15 (by decide) ?_
  refine j_top (nI (a / 4)) (pk_div (d := 4) (by omega) (by decide) (by decide)) ?_
  refine j_scallV F kX10_224 (As := [.int (nI (a / 4))]) (rest := []) (c_X10_accesses l D ay ad vi ga Z (a / 4) (show GI Z vi ga from hG) (show (a / 4) < 16 from by omega) (show Z.1 14 < 1000 from hc)) 0 0 20 rfl rfl rfl rfl rfl rfl ⟨Nat.le_of_ble_eq_true rfl, Nat.le_of_ble_eq_true rfl⟩ dX10_does_16 (fun v w hw => ?_)
  obtain ⟨vi_16, ga_16, h16_0, h16_1, h16_2, h16_3, rfl, rfl⟩ := hw
  replace h16_0 : GI (acx (askS Z (nI (a / 4))) (a / 4) ((askS Z (nI (a / 4))).2.1 19) (aHH (askS Z (nI (a / 4))) (a / 4)) (aYY (askS Z (nI (a / 4))) (a / 4))) vi_16 ga_16 := h16_0
  replace h16_1 : vi_16 0 = vi 0 := h16_1
  replace h16_2 : (∀ q, 14 ≤ q ∧ q < 31 → vi_16 q = vi q) := h16_2
  replace h16_3 : (∀ q, 9 ≤ q ∧ q < 15 → ga_16 q = ga q) := h16_3
  refine ⟨rfl, (mW ay ad vi_16 ga_16), (slp_all _ _ rfl).trans rfl, ?_⟩
  obtain ⟨x1, x2, x3, x4, x5, x6, x7, x8, x9, x10⟩ := h16_0.2.2.2.2.2.2.2
  replace x8 : ∀ q, q < 64 → ga_16 15 q = aDD (askS Z (nI (a / 4))) (a / 4) q ∧ ga_16 16 q = aHH (askS Z (nI (a / 4))) (a / 4) q := x8
  replace x9 : ∀ q, q < 16 → ga_16 18 q = aYY (askS Z (nI (a / 4))) (a / 4) q ∧ (aYY (askS Z (nI (a / 4))) (a / 4) q = 0 ∨ aYY (askS Z (nI (a / 4))) (a / 4) q = 1) := x9
  replace x5 : vi_16 33 = (askS Z (nI (a / 4))).2.1 19 := x5
  refine j_iload_n F 1 dX10_does_19 rfl ?_
  refine j_bipush F (v := 108) dX10_does_20 (by decide) ?_
  refine j_icmp_ne F 35 dX10_does_22 (by decide) (fun c_22 => ?_) (fun c_22 => absurd c_22 (by decide))
  refine j_iload_n F 1 dX10_does_35 rfl ?_
  refine j_bipush F (v := 97) dX10_does_36 (by decide) ?_
  refine j_icmp_ne F 56 dX10_does_38 (by decide) (fun c_38 => absurd (by decide) c_38) (fun c_38 => ?_)
  refine j_aload_n F 0 dX10_does_41 rfl ?_
  refine j_dup F dX10_does_42 rfl ?_
  refine j_getf F fX10_221 0 (v := .int (vi_16 33)) rfl rfl dX10_does_43 ?_
  refine j_top ((askS Z (nI (a / 4))).2.1 19) x5 ?_
  refine j_aload_n F 0 dX10_does_46 rfl ?_
  refine j_getf F fX10_72 0 (v := .ref (ad 17)) rfl rfl dX10_does_47 ?_
  refine j_iload_n F 2 dX10_does_50 rfl ?_
  refine j_iald F 17 a (f := ga_16 16) rfl rfl (by omega) (Nat.le_of_ble_eq_true rfl) dX10_does_51 ?_
  refine j_top (aHH (askS Z (nI (a / 4))) (a / 4) a) (x8 a ha).2 ?_
  refine j_iadd F dX10_does_52 ?_
  refine j_putf F fX10_221 0 (mW ay ad (ups vi_16 33 ((askS Z (nI (a / 4))).2.1 19 + aHH (askS Z (nI (a / 4))) (a / 4) a)) ga_16) rfl rfl rfl rfl rfl (Nat.le_of_ble_eq_true rfl) dX10_does_53 ?_
  refine j_iload_n F 1 dX10_does_56 rfl ?_
  refine j_bipush F (v := 115) dX10_does_57 (by decide) ?_
  refine j_icmp_eq F 63 dX10_does_59 (by decide) (fun c_59 => absurd c_59 (by decide)) (fun c_59 => ?_)
  exact j_vret F ⟨ups vi_16 33 ((askS Z (nI (a / 4))).2.1 19 + aHH (askS Z (nI (a / 4))) (a / 4) a), ga_16, acx_G h16_0 (fun q hq => (ups_ne (by omega)).trans rfl) (fun q hq => rfl) rfl rfl rfl rfl rfl rfl rfl (fun q hq => (x8 q hq).2) x9, h16_1, fun q hq => ((fun q hq => (ups_ne (by omega)).trans rfl) q hq).trans (h16_2 q hq), fun q hq => ((fun q hq => rfl) q hq).trans (h16_3 q hq), rfl, rfl⟩ dX10_does_62 (Nat.le_of_ble_eq_true rfl) (Nat.le_of_ble_eq_true rfl)

set_option maxHeartbeats 4000000 in
set_option maxRecDepth 100000 in
theorem c_X10_does_mstS (l : Launch) (D : va_G) (ay : Nat → ClassId) (ad : Nat → Nat) (vi : Nat → Int32) (ga : Nat → Nat → Int32) (Z : DS) (a : Nat) (hG : GI Z vi ga) (ha : a < 64) (hc : Z.1 14 < 1000) : jM l yX10_does (jws yX10_does cX10_does 3 none) 3 70 0 0 D ay [.ref (ad 0), .int 115, .int (nI a)] (mW ay ad vi ga) (fun v w => ∃ (vi' : Nat → Int32) (ga' : Nat → Nat → Int32), GI (mstS (askS Z (nI (a / 4))) a) vi' ga' ∧ vi' 0 = vi 0 ∧ (∀ q, 14 ≤ q ∧ q < 31 → vi' q = vi q) ∧ (∀ q, 9 ≤ q ∧ q < 15 → ga' q = ga q) ∧ v = none ∧ w = mW ay ad vi' ga') := by
  refine jM_of l (by decide) [(0, .ref (ad 0)), (1, .int 115), (2, .int (nI a))] rfl rfl (fun p9 e9 s9 m9 a9 b9 me9 c9 A9 F => ?_)
  refine j_iload_n F 1 dX10_does_0 rfl ?_
  refine j_bipush F (v := 99) dX10_does_1 (by decide) ?_
  refine j_icmp_ne F 12 dX10_does_3 (by decide) (fun c_3 => ?_) (fun c_3 => absurd c_3 (by decide))
  refine j_aload_n F 0 dX10_does_12 rfl ?_
  refine j_iload_n F 2 dX10_does_13 rfl ?_
  refine j_iconst F (v := 4) dX10_does_14 (by decide) ?_
  refine j_idiv F dX10_does_15 (by decide) ?_
  refine j_top (nI (a / 4)) (pk_div (d := 4) (by omega) (by decide) (by decide)) ?_
  refine j_scallV F kX10_224 (As := [.int (nI (a / 4))]) (rest := []) (c_X10_accesses l D ay ad vi ga Z (a / 4) (show GI Z vi ga from hG) (show (a / 4) < 16 from by omega) (show Z.1 14 < 1000 from hc)) 0 0 20 rfl rfl rfl rfl rfl rfl ⟨Nat.le_of_ble_eq_true rfl, Nat.le_of_ble_eq_true rfl⟩ dX10_does_16 (fun v w hw => ?_)
  obtain ⟨vi_16, ga_16, h16_0, h16_1, h16_2, h16_3, rfl, rfl⟩ := hw
  replace h16_0 : GI (acx (askS Z (nI (a / 4))) (a / 4) ((askS Z (nI (a / 4))).2.1 19) (aHH (askS Z (nI (a / 4))) (a / 4)) (aYY (askS Z (nI (a / 4))) (a / 4))) vi_16 ga_16 := h16_0
  replace h16_1 : vi_16 0 = vi 0 := h16_1
  replace h16_2 : (∀ q, 14 ≤ q ∧ q < 31 → vi_16 q = vi q) := h16_2
  replace h16_3 : (∀ q, 9 ≤ q ∧ q < 15 → ga_16 q = ga q) := h16_3
  refine ⟨rfl, (mW ay ad vi_16 ga_16), (slp_all _ _ rfl).trans rfl, ?_⟩
  obtain ⟨x1, x2, x3, x4, x5, x6, x7, x8, x9, x10⟩ := h16_0.2.2.2.2.2.2.2
  replace x8 : ∀ q, q < 64 → ga_16 15 q = aDD (askS Z (nI (a / 4))) (a / 4) q ∧ ga_16 16 q = aHH (askS Z (nI (a / 4))) (a / 4) q := x8
  replace x9 : ∀ q, q < 16 → ga_16 18 q = aYY (askS Z (nI (a / 4))) (a / 4) q ∧ (aYY (askS Z (nI (a / 4))) (a / 4) q = 0 ∨ aYY (askS Z (nI (a / 4))) (a / 4) q = 1) := x9
  replace x5 : vi_16 33 = (askS Z (nI (a / 4))).2.1 19 := x5
  refine j_iload_n F 1 dX10_does_19 rfl ?_
  refine j_bipush F (v := 108) dX10_does_20 (by decide) ?_
  refine j_icmp_ne F 35 dX10_does_22 (by decide) (fun c_22 => ?_) (fun c_22 => absurd c_22 (by decide))
  refine j_iload_n F 1 dX10_does_35 rfl ?_
  refine j_bipush F (v := 97) dX10_does_36 (by decide) ?_
  refine j_icmp_ne F 56 dX10_does_38 (by decide) (fun c_38 => ?_) (fun c_38 => absurd c_38 (by decide))
  refine j_iload_n F 1 dX10_does_56 rfl ?_
  refine j_bipush F (v := 115) dX10_does_57 (by decide) ?_
  refine j_icmp_eq F 63 dX10_does_59 (by decide) (fun c_59 => ?_) (fun c_59 => absurd (by decide) c_59)
  refine j_aload_n F 0 dX10_does_63 rfl ?_
  refine j_getf F fX10_72 0 (v := .ref (ad 17)) rfl rfl dX10_does_64 ?_
  refine j_iload_n F 2 dX10_does_67 rfl ?_
  refine j_aload_n F 0 dX10_does_68 rfl ?_
  refine j_getf F fX10_221 0 (v := .int (vi_16 33)) rfl rfl dX10_does_69 ?_
  refine j_top ((askS Z (nI (a / 4))).2.1 19) x5 ?_
  refine j_iast F 17 (mW ay ad vi_16 (ups ga_16 16 (upd (ga_16 16) a ((askS Z (nI (a / 4))).2.1 19)))) a rfl rfl (by omega) (Nat.le_of_ble_eq_true rfl) rfl dX10_does_72 ?_
  refine j_aload_n F 0 dX10_does_73 rfl ?_
  refine j_getf F fX10_78 0 (v := .ref (ad 19)) rfl rfl dX10_does_74 ?_
  refine j_iload_n F 2 dX10_does_77 rfl ?_
  refine j_iconst F (v := 4) dX10_does_78 (by decide) ?_
  refine j_idiv F dX10_does_79 (by decide) ?_
  refine j_top (nI (a / 4)) (pk_div (d := 4) (by omega) (by decide) (by decide)) ?_
  refine j_iconst F (v := 1) dX10_does_80 (by decide) ?_
  refine j_zast F 19 (mW ay ad vi_16 (ups (ups ga_16 16 (upd (ga_16 16) a ((askS Z (nI (a / 4))).2.1 19))) 18 (upd (ga_16 18) (a / 4) 1))) (a / 4) rfl rfl (by omega) (Nat.le_of_ble_eq_true rfl) rfl rfl dX10_does_81 ?_
  exact j_vret F ⟨vi_16, ups (ups ga_16 16 (upd (ga_16 16) a ((askS Z (nI (a / 4))).2.1 19))) 18 (upd (ga_16 18) (a / 4) 1), acx_G h16_0 (fun q hq => rfl) (fun q hq => (ups_ne (by omega)).trans ((ups_ne (by omega)).trans rfl)) rfl rfl x5 rfl rfl rfl rfl (fun q hq => by
            by_cases e : q = a
            · rw [e]; exact upd_s.trans upd_s.symm
            · exact (upd_o e).trans ((x8 q hq).2.trans (upd_o e).symm)) (fun q hq => by
            by_cases e : q = a / 4
            · rw [e, upd_s]; exact ⟨upd_s, Or.inr rfl⟩
            · rw [upd_o e]; exact ⟨(upd_o e).trans (x9 q hq).1, (x9 q hq).2⟩), h16_1, fun q hq => ((fun q hq => rfl) q hq).trans (h16_2 q hq), fun q hq => ((fun q hq => (ups_ne (by omega)).trans ((ups_ne (by omega)).trans rfl)) q hq).trans (h16_3 q hq), rfl, rfl⟩ dX10_does_82 (Nat.le_of_ble_eq_true rfl) (Nat.le_of_ble_eq_true rfl)

theorem c_X10_does (l : Launch) (D : va_G) (ay : Nat → ClassId) (ad : Nat → Nat) (vi : Nat → Int32) (ga : Nat → Nat → Int32) (Z : DS) (L : Int32) (x : Int32) (hG : GI Z vi ga) (hv : stepV L x) (hc : Z.1 14 < 1000) : jM l yX10_does (jws yX10_does cX10_does 3 none) 3 70 0 0 D ay [.ref (ad 0), .int L, .int x] (mW ay ad vi ga) (fun v w => ∃ (vi' : Nat → Int32) (ga' : Nat → Nat → Int32), GI (stepS Z L x) vi' ga' ∧ vi' 0 = vi 0 ∧ (∀ q, 14 ≤ q ∧ q < 31 → vi' q = vi q) ∧ (∀ q, 9 ≤ q ∧ q < 15 → ga' q = ga q) ∧ v = none ∧ w = mW ay ad vi' ga') := by
  rcases hv with rfl | ⟨h, a, ha, rfl⟩
  · rw [stepS_c]; exact c_X10_does_c l D ay ad vi ga Z x hG
  · rcases h with rfl | rfl | rfl
    · rw [stepS_l Z ha]; exact c_X10_does_mstL l D ay ad vi ga Z a hG ha hc
    · rw [stepS_a Z ha]; exact c_X10_does_mstA l D ay ad vi ga Z a hG ha hc
    · rw [stepS_s Z ha]; exact c_X10_does_mstS l D ay ad vi ga Z a hG ha hc
