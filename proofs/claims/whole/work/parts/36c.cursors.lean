set_option maxHeartbeats 4000000 in
set_option maxRecDepth 100000 in
theorem c_X10_hasValue_ok (l : Launch) (D : va_G) (ay : Nat → ClassId) (ad : Nat → Nat) (vi : Nat → Int32) (ga : Nat → Nat → Int32) (Z : DS) (m : Nat) (z : Nat) (hG : GI Z vi ga) (hm : m < 2) (hz : z < 1000) : jM l yX10_hasValue (jws yX10_hasValue cX10_hasValue 4 (some .boolean)) 2 43 0 0 D ay [.ref (ad 0), .int (nI m), .int (nI z)] (mW ay ad vi ga) (fun v w => ∃ (vi' : Nat → Int32) (ga' : Nat → Nat → Int32), GI Z vi' ga' ∧ vi' 0 = 0 ∧ v = some (.int (if fx (fun j => Z.2.2 (2 * m + 1) (kN (Z.2.2 (2 * m)) j)) (nI z) (Z.1 m) < Z.1 m then 1 else 0)) ∧ w = mW ay ad vi' ga') := by
  refine jM_of l (by decide) [(0, .ref (ad 0)), (1, .int (nI m)), (2, .int (nI z))] rfl rfl (fun p9 e9 s9 m9 a9 b9 me9 c9 A9 F => ?_)
  have hgm := hG.1 m hm
  have hI := hgm.1
  have hn := hI.n
  have hv := hgm.2.2.1
  have hB := hG.2.1
  have hmb : m = 0 ∨ Z.1 m ≤ Z.1 13 := by
    rcases (show m = 0 ∨ m = 1 by omega) with h | h
    · exact Or.inl h
    · subst h; exact Or.inr hgm.2.1
  refine j_aload_n F 0 dX10_hasValue_0 rfl ?_
  refine j_iconst F (v := 0) dX10_hasValue_1 (by decide) ?_
  refine j_putf F fX10_1 0 (mW ay ad (ups vi 0 0) ga) rfl rfl rfl rfl rfl (Nat.le_of_ble_eq_true rfl) dX10_hasValue_2 ?_
  refine j_aload_n F 0 dX10_hasValue_5 rfl ?_
  refine j_iload_n F 1 dX10_hasValue_6 rfl ?_
  refine j_scallV F kX10_92 (As := [.int (nI m)]) (rest := []) (c_X10_noMap_ok l D ay ad (ups vi 0 0) ga (nI m) rfl (show ¬ oob (nI m) 0 1 from nob1 hm)) 0 0 20 rfl rfl rfl rfl rfl rfl ⟨Nat.le_of_ble_eq_true rfl, Nat.le_of_ble_eq_true rfl⟩ dX10_hasValue_7 (fun v w hw => ?_)
  obtain ⟨rfl, rfl⟩ := hw
  refine ⟨rfl, (mW ay ad (ups vi 0 0) ga), (slp_all _ _ rfl).trans rfl, ?_⟩
  refine j_top 0 rfl ?_
  refine j_if_ne F 29 dX10_hasValue_10 (by decide) (fun c_10 => absurd (by decide) c_10) (fun c_10 => ?_)
  refine j_aload_n F 0 dX10_hasValue_13 rfl ?_
  refine j_iload_n F 2 dX10_hasValue_14 rfl ?_
  refine j_iconst F (v := 0) dX10_hasValue_15 (by decide) ?_
  refine j_sipush F (v := 999) dX10_hasValue_16 (by decide) ?_
  refine j_ecallS F kX10_84 (As := [.int (nI z), .int 0, .int 999]) (rest := [.ref (ad 0)]) (c_X10_in l D ay (nI z) 0 999 (show ¬ oob (nI z) 0 999 from nob999 hz)) rfl rfl rfl rfl ⟨Nat.le_of_ble_eq_true rfl, Nat.le_of_ble_eq_true rfl⟩ dX10_hasValue_19 (fun v w hw => ?_)
  obtain ⟨rfl, rfl⟩ := hw
  refine ⟨rfl, ?_⟩
  refine j_top 1 rfl ?_
  refine j_iconst F (v := 1) dX10_hasValue_22 (by decide) ?_
  refine j_scallV F kX10_88 (As := [.int 1, .int 1]) (rest := []) (c_X10_fails_ok l D ay ad (ups vi 0 0) ga 1 rfl) 0 0 20 rfl rfl rfl rfl rfl rfl ⟨Nat.le_of_ble_eq_true rfl, Nat.le_of_ble_eq_true rfl⟩ dX10_hasValue_23 (fun v w hw => ?_)
  obtain ⟨rfl, rfl⟩ := hw
  refine ⟨rfl, (mW ay ad (ups vi 0 0) ga), (slp_all _ _ rfl).trans rfl, ?_⟩
  refine j_top 0 rfl ?_
  refine j_if_eq F 31 dX10_hasValue_26 (by decide) (fun c_26 => ?_) (fun c_26 => absurd (by decide) c_26)
  refine j_iconst F (v := 0) dX10_hasValue_31 (by decide) ?_
  refine j_istore_n F 3 [(3, .int 0), (0, .ref (ad 0)), (1, .int (nI m)), (2, .int (nI z))] dX10_hasValue_32 rfl (by decide) rfl ?_
  refine j_loop (σ := Nat) (fun i => i ≤ Z.1 m ∧ ∀ j, j < i → (fun j => Z.2.2 (2 * m + 1) (kN (Z.2.2 (2 * m)) j)) j ≠ nI z) (fun i => Z.1 m - i) (fun i => [(3, .int (nI i)), (0, .ref (ad 0)), (1, .int (nI m)), (2, .int (nI z))]) (fun _ => (mW ay ad (ups vi 0 0) ga)) 0 ⟨Nat.zero_le _, fun j h => absurd h (Nat.not_lt_zero j)⟩ rfl rfl (fun i hI9 ih => ?_)
  obtain ⟨hi, hno⟩ := hI9
  refine j_iload_n F 0 dX10_hasValue_33 rfl ?_
  refine j_aload_n F 1 dX10_hasValue_34 rfl ?_
  refine j_getf F fX10_20 0 (v := .ref (ad 3)) rfl rfl dX10_hasValue_35 ?_
  refine j_iload_n F 2 dX10_hasValue_38 rfl ?_
  refine j_iald F 3 m (f := ga 2) rfl rfl (by omega) (Nat.le_of_ble_eq_true rfl) dX10_hasValue_39 ?_
  refine j_top (nI (Z.1 m)) hv.1 ?_
  refine j_icmp_ge F 66 dX10_hasValue_40 (by decide) (fun c_40 => ?_) (fun c_40 => ?_)
  · skip
    have n_40 := (n_le (Z.1 m) i rfl rfl (by omega) (by omega)).mp c_40
    refine j_iconst F (v := 0) dX10_hasValue_66 (by decide) ?_
    exact j_zret F (Or.inl rfl) ⟨ups vi 0 0, ga, (GI_id hG (fun q hq => (ups_ne (by omega)).trans rfl) (fun q hq => rfl)), rfl, (by rw [fx_none (f := (fun j => Z.2.2 (2 * m + 1) (kN (Z.2.2 (2 * m)) j))) (fun j hj => hno j (by omega)), if_neg (by omega)]), rfl⟩ dX10_hasValue_67 (Nat.le_of_ble_eq_true rfl) (Nat.le_of_ble_eq_true rfl)
  · skip
    have n_40 := mt (n_le (Z.1 m) i rfl rfl (by omega) (by omega)).mpr c_40
    refine j_aload_n F 1 dX10_hasValue_43 rfl ?_
    refine j_getf F fX10_17 0 (v := .ref (ad 2)) rfl rfl dX10_hasValue_44 ?_
    refine j_bipush F (v := 101) dX10_hasValue_47 (by decide) ?_
    refine j_iload_n F 2 dX10_hasValue_49 rfl ?_
    refine j_imul F dX10_hasValue_50 ?_
    refine j_top (nI (101 * m)) (pk_mul 101 _) ?_
    refine j_iload_n F 0 dX10_hasValue_51 rfl ?_
    refine j_iadd F dX10_hasValue_52 ?_
    refine j_top (nI (101 * m + i)) (nI_add _ _) ?_
    refine j_iald F 2 (101 * m + i) (f := ga 1) rfl rfl (by omega) (Nat.le_of_ble_eq_true rfl) dX10_hasValue_53 ?_
    refine j_top ((fun j => Z.2.2 (2 * m + 1) (kN (Z.2.2 (2 * m)) j)) i) (hv.2.2 i (by omega)) ?_
    refine j_iload_n F 3 dX10_hasValue_54 rfl ?_
    refine j_icmp_ne F 60 dX10_hasValue_55 (by decide) (fun c_55 => ?_) (fun c_55 => ?_)
    · skip
      refine j_iinc F 0 (nI (i + 1)) [(3, .int (nI (i + 1))), (0, .ref (ad 0)), (1, .int (nI m)), (2, .int (nI z))] dX10_hasValue_60 rfl (nI_1 _) (by decide) rfl ?_
      refine j_goto F 33 dX10_hasValue_63 (by decide) ?_
      exact ih (i + 1) ⟨by omega, fun j hj => by
          by_cases h : j = i
          · rw [h]; exact c_55
          · exact hno j (by omega)⟩ (by show Z.1 m - (i + 1) < Z.1 m - i; omega)
    · skip
      refine j_iconst F (v := 1) dX10_hasValue_58 (by decide) ?_
      exact j_zret F (Or.inr rfl) ⟨ups vi 0 0, ga, (GI_id hG (fun q hq => (ups_ne (by omega)).trans rfl) (fun q hq => rfl)), rfl, (by rw [fx_at (f := (fun j => Z.2.2 (2 * m + 1) (kN (Z.2.2 (2 * m)) j))) (show i < Z.1 m by omega) hno c_55, if_pos (by omega)]), rfl⟩ dX10_hasValue_59 (Nat.le_of_ble_eq_true rfl) (Nat.le_of_ble_eq_true rfl)

set_option maxHeartbeats 4000000 in
set_option maxRecDepth 100000 in
theorem c_X10_hasValue_no (l : Launch) (D : va_G) (ay : Nat → ClassId) (ad : Nat → Nat) (vi : Nat → Int32) (ga : Nat → Nat → Int32) (Z : DS) (x : Int32) (z : Int32) (hG : GI Z vi ga) (h : oob x 0 1 ∨ oob z 0 999) : jM l yX10_hasValue (jws yX10_hasValue cX10_hasValue 4 (some .boolean)) 2 43 0 0 D ay [.ref (ad 0), .int x, .int z] (mW ay ad vi ga) (fun v w => ∃ (vi' : Nat → Int32) (ga' : Nat → Nat → Int32), GI Z vi' ga' ∧ vi' 0 = 1 ∧ v = some (.int 0) ∧ w = mW ay ad vi' ga') := by
  refine jM_of l (by decide) [(0, .ref (ad 0)), (1, .int x), (2, .int z)] rfl rfl (fun p9 e9 s9 m9 a9 b9 me9 c9 A9 F => ?_)
  by_cases hq : oob x 0 1
  · skip
    refine j_aload_n F 0 dX10_hasValue_0 rfl ?_
    refine j_iconst F (v := 0) dX10_hasValue_1 (by decide) ?_
    refine j_putf F fX10_1 0 (mW ay ad (ups vi 0 0) ga) rfl rfl rfl rfl rfl (Nat.le_of_ble_eq_true rfl) dX10_hasValue_2 ?_
    refine j_aload_n F 0 dX10_hasValue_5 rfl ?_
    refine j_iload_n F 1 dX10_hasValue_6 rfl ?_
    refine j_scallV F kX10_92 (As := [.int x]) (rest := []) (c_X10_noMap_no l D ay ad (ups vi 0 0) ga x rfl (show oob x 0 1 from hq)) 0 0 20 rfl rfl rfl rfl rfl rfl ⟨Nat.le_of_ble_eq_true rfl, Nat.le_of_ble_eq_true rfl⟩ dX10_hasValue_7 (fun v w hw => ?_)
    obtain ⟨rfl, rfl⟩ := hw
    refine ⟨rfl, (mW ay ad (ups vi 0 1) ga), (slp_all _ _ rfl).trans rfl, ?_⟩
    refine j_top 1 rfl ?_
    refine j_if_ne F 29 dX10_hasValue_10 (by decide) (fun c_10 => ?_) (fun c_10 => absurd c_10 (by decide))
    refine j_iconst F (v := 0) dX10_hasValue_29 (by decide) ?_
    exact j_zret F (Or.inl rfl) ⟨ups vi 0 1, ga, (GI_id hG (fun q hq => (ups_ne (by omega)).trans rfl) (fun q hq => rfl)), rfl, rfl, rfl⟩ dX10_hasValue_30 (Nat.le_of_ble_eq_true rfl) (Nat.le_of_ble_eq_true rfl)
  · skip
    refine j_aload_n F 0 dX10_hasValue_0 rfl ?_
    refine j_iconst F (v := 0) dX10_hasValue_1 (by decide) ?_
    refine j_putf F fX10_1 0 (mW ay ad (ups vi 0 0) ga) rfl rfl rfl rfl rfl (Nat.le_of_ble_eq_true rfl) dX10_hasValue_2 ?_
    refine j_aload_n F 0 dX10_hasValue_5 rfl ?_
    refine j_iload_n F 1 dX10_hasValue_6 rfl ?_
    refine j_scallV F kX10_92 (As := [.int x]) (rest := []) (c_X10_noMap_ok l D ay ad (ups vi 0 0) ga x rfl (show ¬ oob x 0 1 from hq)) 0 0 20 rfl rfl rfl rfl rfl rfl ⟨Nat.le_of_ble_eq_true rfl, Nat.le_of_ble_eq_true rfl⟩ dX10_hasValue_7 (fun v w hw => ?_)
    obtain ⟨rfl, rfl⟩ := hw
    refine ⟨rfl, (mW ay ad (ups vi 0 0) ga), (slp_all _ _ rfl).trans rfl, ?_⟩
    refine j_top 0 rfl ?_
    refine j_if_ne F 29 dX10_hasValue_10 (by decide) (fun c_10 => absurd (by decide) c_10) (fun c_10 => ?_)
    refine j_aload_n F 0 dX10_hasValue_13 rfl ?_
    refine j_iload_n F 2 dX10_hasValue_14 rfl ?_
    refine j_iconst F (v := 0) dX10_hasValue_15 (by decide) ?_
    refine j_sipush F (v := 999) dX10_hasValue_16 (by decide) ?_
    refine j_ecallS F kX10_84 (As := [.int z, .int 0, .int 999]) (rest := [.ref (ad 0)]) (c_X10_in_no l D ay z 0 999 (show oob z 0 999 from h.resolve_left hq)) rfl rfl rfl rfl ⟨Nat.le_of_ble_eq_true rfl, Nat.le_of_ble_eq_true rfl⟩ dX10_hasValue_19 (fun v w hw => ?_)
    obtain ⟨rfl, rfl⟩ := hw
    refine ⟨rfl, ?_⟩
    refine j_top 0 rfl ?_
    refine j_iconst F (v := 1) dX10_hasValue_22 (by decide) ?_
    refine j_scallV F kX10_88 (As := [.int 0, .int 1]) (rest := []) (c_X10_fails_no l D ay ad (ups vi 0 0) ga 1 rfl (show ¬ 1 = 0 from by decide)) 0 0 20 rfl rfl rfl rfl rfl rfl ⟨Nat.le_of_ble_eq_true rfl, Nat.le_of_ble_eq_true rfl⟩ dX10_hasValue_23 (fun v w hw => ?_)
    obtain ⟨rfl, rfl⟩ := hw
    refine ⟨rfl, (mW ay ad (ups vi 0 1) ga), (slp_all _ _ rfl).trans rfl, ?_⟩
    refine j_top 1 rfl ?_
    refine j_if_eq F 31 dX10_hasValue_26 (by decide) (fun c_26 => absurd c_26 (by decide)) (fun c_26 => ?_)
    refine j_iconst F (v := 0) dX10_hasValue_29 (by decide) ?_
    exact j_zret F (Or.inl rfl) ⟨ups vi 0 1, ga, (GI_id hG (fun q hq => (ups_ne (by omega)).trans rfl) (fun q hq => rfl)), rfl, rfl, rfl⟩ dX10_hasValue_30 (Nat.le_of_ble_eq_true rfl) (Nat.le_of_ble_eq_true rfl)

set_option maxHeartbeats 4000000 in
set_option maxRecDepth 100000 in
theorem c_X10_sum_ok (l : Launch) (D : va_G) (ay : Nat → ClassId) (ad : Nat → Nat) (vi : Nat → Int32) (ga : Nat → Nat → Int32) (Z : DS) (m : Nat) (hG : GI Z vi ga) (hm : m < 2) : jM l yX10_sum (jws yX10_sum cX10_sum 4 (some .int)) 2 43 0 0 D ay [.ref (ad 0), .int (nI m)] (mW ay ad vi ga) (fun v w => ∃ (vi' : Nat → Int32) (ga' : Nat → Nat → Int32), GI Z vi' ga' ∧ vi' 0 = 0 ∧ v = some (.int (sm (fun j => Z.2.2 (2 * m + 1) (kN (Z.2.2 (2 * m)) j)) (Z.1 m))) ∧ w = mW ay ad vi' ga') := by
  refine jM_of l (by decide) [(0, .ref (ad 0)), (1, .int (nI m))] rfl rfl (fun p9 e9 s9 m9 a9 b9 me9 c9 A9 F => ?_)
  have hgm := hG.1 m hm
  have hI := hgm.1
  have hn := hI.n
  have hv := hgm.2.2.1
  have hB := hG.2.1
  have hmb : m = 0 ∨ Z.1 m ≤ Z.1 13 := by
    rcases (show m = 0 ∨ m = 1 by omega) with h | h
    · exact Or.inl h
    · subst h; exact Or.inr hgm.2.1
  refine j_aload_n F 0 dX10_sum_0 rfl ?_
  refine j_iconst F (v := 0) dX10_sum_1 (by decide) ?_
  refine j_putf F fX10_1 0 (mW ay ad (ups vi 0 0) ga) rfl rfl rfl rfl rfl (Nat.le_of_ble_eq_true rfl) dX10_sum_2 ?_
  refine j_aload_n F 0 dX10_sum_5 rfl ?_
  refine j_iload_n F 1 dX10_sum_6 rfl ?_
  refine j_scallV F kX10_92 (As := [.int (nI m)]) (rest := []) (c_X10_noMap_ok l D ay ad (ups vi 0 0) ga (nI m) rfl (show ¬ oob (nI m) 0 1 from nob1 hm)) 0 0 20 rfl rfl rfl rfl rfl rfl ⟨Nat.le_of_ble_eq_true rfl, Nat.le_of_ble_eq_true rfl⟩ dX10_sum_7 (fun v w hw => ?_)
  obtain ⟨rfl, rfl⟩ := hw
  refine ⟨rfl, (mW ay ad (ups vi 0 0) ga), (slp_all _ _ rfl).trans rfl, ?_⟩
  refine j_top 0 rfl ?_
  refine j_if_eq F 15 dX10_sum_10 (by decide) (fun c_10 => ?_) (fun c_10 => absurd (by decide) c_10)
  refine j_iconst F (v := 0) dX10_sum_15 (by decide) ?_
  refine j_istore_n F 2 [(2, .int 0), (0, .ref (ad 0)), (1, .int (nI m))] dX10_sum_16 rfl (by decide) rfl ?_
  refine j_iconst F (v := 0) dX10_sum_17 (by decide) ?_
  refine j_istore_n F 3 [(3, .int 0), (2, .int 0), (0, .ref (ad 0)), (1, .int (nI m))] dX10_sum_18 rfl (by decide) rfl ?_
  refine j_loop (σ := Nat) (fun i => i ≤ Z.1 m) (fun i => Z.1 m - i) (fun i => [(3, .int (nI i)), (2, .int (sm (fun j => Z.2.2 (2 * m + 1) (kN (Z.2.2 (2 * m)) j)) i)), (0, .ref (ad 0)), (1, .int (nI m))]) (fun _ => (mW ay ad (ups vi 0 0) ga)) 0 (Nat.zero_le _) rfl rfl (fun i hi ih => ?_)
  refine j_iload_n F 0 dX10_sum_19 rfl ?_
  refine j_aload_n F 2 dX10_sum_20 rfl ?_
  refine j_getf F fX10_20 0 (v := .ref (ad 3)) rfl rfl dX10_sum_21 ?_
  refine j_iload_n F 3 dX10_sum_24 rfl ?_
  refine j_iald F 3 m (f := ga 2) rfl rfl (by omega) (Nat.le_of_ble_eq_true rfl) dX10_sum_25 ?_
  refine j_top (nI (Z.1 m)) hv.1 ?_
  refine j_icmp_ge F 49 dX10_sum_26 (by decide) (fun c_26 => ?_) (fun c_26 => ?_)
  · skip
    have n_26 := (n_le (Z.1 m) i rfl rfl (by omega) (by omega)).mp c_26
    refine j_iload_n F 1 dX10_sum_49 rfl ?_
    exact j_iret F ⟨ups vi 0 0, ga, (GI_id hG (fun q hq => (ups_ne (by omega)).trans rfl) (fun q hq => rfl)), rfl, (by rw [show i = Z.1 m by omega]), rfl⟩ dX10_sum_50 (Nat.le_of_ble_eq_true rfl) (Nat.le_of_ble_eq_true rfl)
  · skip
    have n_26 := mt (n_le (Z.1 m) i rfl rfl (by omega) (by omega)).mpr c_26
    refine j_iload_n F 1 dX10_sum_29 rfl ?_
    refine j_aload_n F 2 dX10_sum_30 rfl ?_
    refine j_getf F fX10_17 0 (v := .ref (ad 2)) rfl rfl dX10_sum_31 ?_
    refine j_bipush F (v := 101) dX10_sum_34 (by decide) ?_
    refine j_iload_n F 3 dX10_sum_36 rfl ?_
    refine j_imul F dX10_sum_37 ?_
    refine j_top (nI (101 * m)) (pk_mul 101 _) ?_
    refine j_iload_n F 0 dX10_sum_38 rfl ?_
    refine j_iadd F dX10_sum_39 ?_
    refine j_top (nI (101 * m + i)) (nI_add _ _) ?_
    refine j_iald F 2 (101 * m + i) (f := ga 1) rfl rfl (by omega) (Nat.le_of_ble_eq_true rfl) dX10_sum_40 ?_
    refine j_top ((fun j => Z.2.2 (2 * m + 1) (kN (Z.2.2 (2 * m)) j)) i) (hv.2.2 i (by omega)) ?_
    refine j_iadd F dX10_sum_41 ?_
    refine j_top (sm (fun j => Z.2.2 (2 * m + 1) (kN (Z.2.2 (2 * m)) j)) (i + 1)) rfl ?_
    refine j_istore_n F 2 [(2, .int (sm (fun j => Z.2.2 (2 * m + 1) (kN (Z.2.2 (2 * m)) j)) (i + 1))), (3, .int (nI i)), (0, .ref (ad 0)), (1, .int (nI m))] dX10_sum_42 rfl (by decide) rfl ?_
    refine j_iinc F 1 (nI (i + 1)) [(3, .int (nI (i + 1))), (2, .int (sm (fun j => Z.2.2 (2 * m + 1) (kN (Z.2.2 (2 * m)) j)) (i + 1))), (0, .ref (ad 0)), (1, .int (nI m))] dX10_sum_43 rfl (nI_1 _) (by decide) rfl ?_
    refine j_goto F 19 dX10_sum_46 (by decide) ?_
    exact ih (i + 1) (by omega) (by show Z.1 m - (i + 1) < Z.1 m - i; omega)

set_option maxHeartbeats 4000000 in
set_option maxRecDepth 100000 in
theorem c_X10_sum_no (l : Launch) (D : va_G) (ay : Nat → ClassId) (ad : Nat → Nat) (vi : Nat → Int32) (ga : Nat → Nat → Int32) (Z : DS) (x : Int32) (hG : GI Z vi ga) (h : oob x 0 1) : jM l yX10_sum (jws yX10_sum cX10_sum 4 (some .int)) 2 43 0 0 D ay [.ref (ad 0), .int x] (mW ay ad vi ga) (fun v w => ∃ (vi' : Nat → Int32) (ga' : Nat → Nat → Int32), GI Z vi' ga' ∧ vi' 0 = 1 ∧ v = some (.int 0) ∧ w = mW ay ad vi' ga') := by
  refine jM_of l (by decide) [(0, .ref (ad 0)), (1, .int x)] rfl rfl (fun p9 e9 s9 m9 a9 b9 me9 c9 A9 F => ?_)
  refine j_aload_n F 0 dX10_sum_0 rfl ?_
  refine j_iconst F (v := 0) dX10_sum_1 (by decide) ?_
  refine j_putf F fX10_1 0 (mW ay ad (ups vi 0 0) ga) rfl rfl rfl rfl rfl (Nat.le_of_ble_eq_true rfl) dX10_sum_2 ?_
  refine j_aload_n F 0 dX10_sum_5 rfl ?_
  refine j_iload_n F 1 dX10_sum_6 rfl ?_
  refine j_scallV F kX10_92 (As := [.int x]) (rest := []) (c_X10_noMap_no l D ay ad (ups vi 0 0) ga x rfl (show oob x 0 1 from h)) 0 0 20 rfl rfl rfl rfl rfl rfl ⟨Nat.le_of_ble_eq_true rfl, Nat.le_of_ble_eq_true rfl⟩ dX10_sum_7 (fun v w hw => ?_)
  obtain ⟨rfl, rfl⟩ := hw
  refine ⟨rfl, (mW ay ad (ups vi 0 1) ga), (slp_all _ _ rfl).trans rfl, ?_⟩
  refine j_top 1 rfl ?_
  refine j_if_eq F 15 dX10_sum_10 (by decide) (fun c_10 => absurd c_10 (by decide)) (fun c_10 => ?_)
  refine j_iconst F (v := 0) dX10_sum_13 (by decide) ?_
  exact j_iret F ⟨ups vi 0 1, ga, (GI_id hG (fun q hq => (ups_ne (by omega)).trans rfl) (fun q hq => rfl)), rfl, rfl, rfl⟩ dX10_sum_14 (Nat.le_of_ble_eq_true rfl) (Nat.le_of_ble_eq_true rfl)

set_option maxHeartbeats 4000000 in
set_option maxRecDepth 100000 in
theorem c_X10_beginCursor_ok (l : Launch) (D : va_G) (ay : Nat → ClassId) (ad : Nat → Nat) (vi : Nat → Int32) (ga : Nat → Nat → Int32) (Z : DS) (m : Nat) (hG : GI Z vi ga) (hm : m < 2) : jM l yX10_beginCursor (jws yX10_beginCursor cX10_beginCursor 2 (some .int)) 2 43 0 0 D ay [.ref (ad 0), .int (nI m)] (mW ay ad vi ga) (fun v w => ∃ (vi' : Nat → Int32) (ga' : Nat → Nat → Int32), GI (mU Z m (Z.1 m) (Z.2.2 (2 * m)) 1 0 0 (Z.2.2 (2 * m + 1)) (Z.1 (12 + m)) (Z.2.1 (4 + 5 * m)) (Z.2.1 (5 + 5 * m))) vi' ga' ∧ vi' 0 = 0 ∧ v = some (.int (nI (Z.1 m))) ∧ w = mW ay ad vi' ga') := by
  refine jM_of l (by decide) [(0, .ref (ad 0)), (1, .int (nI m))] rfl rfl (fun p9 e9 s9 m9 a9 b9 me9 c9 A9 F => ?_)
  have hgm := hG.1 m hm
  have hI := hgm.1
  have hn := hI.n
  have hv := hgm.2.2.1
  have hB := hG.2.1
  have hmb : m = 0 ∨ Z.1 m ≤ Z.1 13 := by
    rcases (show m = 0 ∨ m = 1 by omega) with h | h
    · exact Or.inl h
    · subst h; exact Or.inr hgm.2.1
  refine j_aload_n F 0 dX10_beginCursor_0 rfl ?_
  refine j_iconst F (v := 0) dX10_beginCursor_1 (by decide) ?_
  refine j_putf F fX10_1 0 (mW ay ad (ups vi 0 0) ga) rfl rfl rfl rfl rfl (Nat.le_of_ble_eq_true rfl) dX10_beginCursor_2 ?_
  refine j_aload_n F 0 dX10_beginCursor_5 rfl ?_
  refine j_iload_n F 1 dX10_beginCursor_6 rfl ?_
  refine j_scallV F kX10_92 (As := [.int (nI m)]) (rest := []) (c_X10_noMap_ok l D ay ad (ups vi 0 0) ga (nI m) rfl (show ¬ oob (nI m) 0 1 from nob1 hm)) 0 0 20 rfl rfl rfl rfl rfl rfl ⟨Nat.le_of_ble_eq_true rfl, Nat.le_of_ble_eq_true rfl⟩ dX10_beginCursor_7 (fun v w hw => ?_)
  obtain ⟨rfl, rfl⟩ := hw
  refine ⟨rfl, (mW ay ad (ups vi 0 0) ga), (slp_all _ _ rfl).trans rfl, ?_⟩
  refine j_top 0 rfl ?_
  refine j_if_eq F 15 dX10_beginCursor_10 (by decide) (fun c_10 => ?_) (fun c_10 => absurd (by decide) c_10)
  refine j_aload_n F 0 dX10_beginCursor_15 rfl ?_
  refine j_getf F fX10_29 0 (v := .ref (ad 4)) rfl rfl dX10_beginCursor_16 ?_
  refine j_iload_n F 1 dX10_beginCursor_19 rfl ?_
  refine j_iconst F (v := 0) dX10_beginCursor_20 (by decide) ?_
  refine j_iast F 4 (mW ay ad (ups vi 0 0) (ups ga 3 (upd (ga 3) m 0))) m rfl rfl (by omega) (Nat.le_of_ble_eq_true rfl) rfl dX10_beginCursor_21 ?_
  refine j_aload_n F 0 dX10_beginCursor_22 rfl ?_
  refine j_getf F fX10_32 0 (v := .ref (ad 5)) rfl rfl dX10_beginCursor_23 ?_
  refine j_iload_n F 1 dX10_beginCursor_26 rfl ?_
  refine j_iconst F (v := 0) dX10_beginCursor_27 (by decide) ?_
  refine j_zast F 5 (mW ay ad (ups vi 0 0) (ups (ups ga 3 (upd (ga 3) m 0)) 4 (upd (ga 4) m 0))) m rfl rfl (by omega) (Nat.le_of_ble_eq_true rfl) rfl rfl dX10_beginCursor_28 ?_
  refine j_aload_n F 0 dX10_beginCursor_29 rfl ?_
  refine j_getf F fX10_20 0 (v := .ref (ad 3)) rfl rfl dX10_beginCursor_30 ?_
  refine j_iload_n F 1 dX10_beginCursor_33 rfl ?_
  refine j_iald F 3 m (f := ga 2) rfl rfl (by omega) (Nat.le_of_ble_eq_true rfl) dX10_beginCursor_34 ?_
  refine j_top (nI (Z.1 m)) hv.1 ?_
  exact j_iret F ⟨ups vi 0 0, ups (ups ga 3 (upd (ga 3) m 0)) 4 (upd (ga 4) m 0), (chg_G hG hm (fun q hq => (ups_ne (by omega)).trans rfl) (fun q hq => (ups_ne (by omega)).trans ((ups_ne (by omega)).trans rfl)) fm_id ho2_u rfl rfl rfl hI.1 hgm.2.1 hI.2.2.1 (Or.inr rfl) (fun _ => ⟨0, rfl, Nat.zero_le _, fun h => absurd rfl h⟩) hv (upd_s.trans (by decide)) (upd_s.trans (by decide))), rfl, rfl, rfl⟩ dX10_beginCursor_35 (Nat.le_of_ble_eq_true rfl) (Nat.le_of_ble_eq_true rfl)

set_option maxHeartbeats 4000000 in
set_option maxRecDepth 100000 in
theorem c_X10_beginCursor_no (l : Launch) (D : va_G) (ay : Nat → ClassId) (ad : Nat → Nat) (vi : Nat → Int32) (ga : Nat → Nat → Int32) (Z : DS) (x : Int32) (hG : GI Z vi ga) (h : oob x 0 1) : jM l yX10_beginCursor (jws yX10_beginCursor cX10_beginCursor 2 (some .int)) 2 43 0 0 D ay [.ref (ad 0), .int x] (mW ay ad vi ga) (fun v w => ∃ (vi' : Nat → Int32) (ga' : Nat → Nat → Int32), GI Z vi' ga' ∧ vi' 0 = 1 ∧ v = some (.int 0) ∧ w = mW ay ad vi' ga') := by
  refine jM_of l (by decide) [(0, .ref (ad 0)), (1, .int x)] rfl rfl (fun p9 e9 s9 m9 a9 b9 me9 c9 A9 F => ?_)
  refine j_aload_n F 0 dX10_beginCursor_0 rfl ?_
  refine j_iconst F (v := 0) dX10_beginCursor_1 (by decide) ?_
  refine j_putf F fX10_1 0 (mW ay ad (ups vi 0 0) ga) rfl rfl rfl rfl rfl (Nat.le_of_ble_eq_true rfl) dX10_beginCursor_2 ?_
  refine j_aload_n F 0 dX10_beginCursor_5 rfl ?_
  refine j_iload_n F 1 dX10_beginCursor_6 rfl ?_
  refine j_scallV F kX10_92 (As := [.int x]) (rest := []) (c_X10_noMap_no l D ay ad (ups vi 0 0) ga x rfl (show oob x 0 1 from h)) 0 0 20 rfl rfl rfl rfl rfl rfl ⟨Nat.le_of_ble_eq_true rfl, Nat.le_of_ble_eq_true rfl⟩ dX10_beginCursor_7 (fun v w hw => ?_)
  obtain ⟨rfl, rfl⟩ := hw
  refine ⟨rfl, (mW ay ad (ups vi 0 1) ga), (slp_all _ _ rfl).trans rfl, ?_⟩
  refine j_top 1 rfl ?_
  refine j_if_eq F 15 dX10_beginCursor_10 (by decide) (fun c_10 => absurd c_10 (by decide)) (fun c_10 => ?_)
  refine j_iconst F (v := 0) dX10_beginCursor_13 (by decide) ?_
  exact j_iret F ⟨ups vi 0 1, ga, (GI_id hG (fun q hq => (ups_ne (by omega)).trans rfl) (fun q hq => rfl)), rfl, rfl, rfl⟩ dX10_beginCursor_14 (Nat.le_of_ble_eq_true rfl) (Nat.le_of_ble_eq_true rfl)

set_option maxHeartbeats 4000000 in
set_option maxRecDepth 100000 in
theorem c_X10_hasNext_ok (l : Launch) (D : va_G) (ay : Nat → ClassId) (ad : Nat → Nat) (vi : Nat → Int32) (ga : Nat → Nat → Int32) (Z : DS) (m : Nat) (hG : GI Z vi ga) (hm : m < 2) : jM l yX10_hasNext (jws yX10_hasNext cX10_hasNext 2 (some .boolean)) 2 43 0 0 D ay [.ref (ad 0), .int (nI m)] (mW ay ad vi ga) (fun v w => ∃ (vi' : Nat → Int32) (ga' : Nat → Nat → Int32), GI Z vi' ga' ∧ vi' 0 = 0 ∧ v = some (.int (if ¬ Z.2.1 (1 + 5 * m) = 0 ∧ ¬ nI (Z.1 m) ≤ Z.2.1 (2 + 5 * m) then 1 else 0)) ∧ w = mW ay ad vi' ga') := by
  refine jM_of l (by decide) [(0, .ref (ad 0)), (1, .int (nI m))] rfl rfl (fun p9 e9 s9 m9 a9 b9 me9 c9 A9 F => ?_)
  have hgm := hG.1 m hm
  have hI := hgm.1
  have hn := hI.n
  have hv := hgm.2.2.1
  have hB := hG.2.1
  have hmb : m = 0 ∨ Z.1 m ≤ Z.1 13 := by
    rcases (show m = 0 ∨ m = 1 by omega) with h | h
    · exact Or.inl h
    · subst h; exact Or.inr hgm.2.1
  by_cases hb : Z.2.1 (1 + 5 * m) = 0
  · skip
    have e3 : ga 3 m = -1 := hgm.2.2.2.1.trans (if_pos hb)
    refine j_aload_n F 0 dX10_hasNext_0 rfl ?_
    refine j_iconst F (v := 0) dX10_hasNext_1 (by decide) ?_
    refine j_putf F fX10_1 0 (mW ay ad (ups vi 0 0) ga) rfl rfl rfl rfl rfl (Nat.le_of_ble_eq_true rfl) dX10_hasNext_2 ?_
    refine j_aload_n F 0 dX10_hasNext_5 rfl ?_
    refine j_iload_n F 1 dX10_hasNext_6 rfl ?_
    refine j_scallV F kX10_92 (As := [.int (nI m)]) (rest := []) (c_X10_noMap_ok l D ay ad (ups vi 0 0) ga (nI m) rfl (show ¬ oob (nI m) 0 1 from nob1 hm)) 0 0 20 rfl rfl rfl rfl rfl rfl ⟨Nat.le_of_ble_eq_true rfl, Nat.le_of_ble_eq_true rfl⟩ dX10_hasNext_7 (fun v w hw => ?_)
    obtain ⟨rfl, rfl⟩ := hw
    refine ⟨rfl, (mW ay ad (ups vi 0 0) ga), (slp_all _ _ rfl).trans rfl, ?_⟩
    refine j_top 0 rfl ?_
    refine j_if_ne F 42 dX10_hasNext_10 (by decide) (fun c_10 => absurd (by decide) c_10) (fun c_10 => ?_)
    refine j_aload_n F 0 dX10_hasNext_13 rfl ?_
    refine j_getf F fX10_29 0 (v := .ref (ad 4)) rfl rfl dX10_hasNext_14 ?_
    refine j_iload_n F 1 dX10_hasNext_17 rfl ?_
    refine j_iald F 4 m (f := ga 3) rfl rfl (by omega) (Nat.le_of_ble_eq_true rfl) dX10_hasNext_18 ?_
    refine j_top (-1) e3 ?_
    refine j_iconst F (v := (-1)) dX10_hasNext_19 (by decide) ?_
    refine j_icmp_eq F 42 dX10_hasNext_20 (by decide) (fun c_20 => ?_) (fun c_20 => absurd (by decide) c_20)
    refine j_iconst F (v := 0) dX10_hasNext_42 (by decide) ?_
    exact j_zret F (Or.inl rfl) ⟨ups vi 0 0, ga, (GI_id hG (fun q hq => (ups_ne (by omega)).trans rfl) (fun q hq => rfl)), rfl, (by rw [if_neg (fun h => h.1 hb)]), rfl⟩ dX10_hasNext_43 (Nat.le_of_ble_eq_true rfl) (Nat.le_of_ble_eq_true rfl)
  · skip
    have e3 : ga 3 m = Z.2.1 (2 + 5 * m) := hgm.2.2.2.1.trans (if_neg hb)
    obtain ⟨j, ej, hjn, hjg⟩ := hI.2.2.2.2 hb
    rw [ej] at e3
    refine j_aload_n F 0 dX10_hasNext_0 rfl ?_
    refine j_iconst F (v := 0) dX10_hasNext_1 (by decide) ?_
    refine j_putf F fX10_1 0 (mW ay ad (ups vi 0 0) ga) rfl rfl rfl rfl rfl (Nat.le_of_ble_eq_true rfl) dX10_hasNext_2 ?_
    refine j_aload_n F 0 dX10_hasNext_5 rfl ?_
    refine j_iload_n F 1 dX10_hasNext_6 rfl ?_
    refine j_scallV F kX10_92 (As := [.int (nI m)]) (rest := []) (c_X10_noMap_ok l D ay ad (ups vi 0 0) ga (nI m) rfl (show ¬ oob (nI m) 0 1 from nob1 hm)) 0 0 20 rfl rfl rfl rfl rfl rfl ⟨Nat.le_of_ble_eq_true rfl, Nat.le_of_ble_eq_true rfl⟩ dX10_hasNext_7 (fun v w hw => ?_)
    obtain ⟨rfl, rfl⟩ := hw
    refine ⟨rfl, (mW ay ad (ups vi 0 0) ga), (slp_all _ _ rfl).trans rfl, ?_⟩
    refine j_top 0 rfl ?_
    refine j_if_ne F 42 dX10_hasNext_10 (by decide) (fun c_10 => absurd (by decide) c_10) (fun c_10 => ?_)
    refine j_aload_n F 0 dX10_hasNext_13 rfl ?_
    refine j_getf F fX10_29 0 (v := .ref (ad 4)) rfl rfl dX10_hasNext_14 ?_
    refine j_iload_n F 1 dX10_hasNext_17 rfl ?_
    refine j_iald F 4 m (f := ga 3) rfl rfl (by omega) (Nat.le_of_ble_eq_true rfl) dX10_hasNext_18 ?_
    refine j_top (nI j) e3 ?_
    refine j_iconst F (v := (-1)) dX10_hasNext_19 (by decide) ?_
    refine j_icmp_eq F 42 dX10_hasNext_20 (by decide) (fun c_20 => absurd c_20 (nI_m1 (by omega))) (fun c_20 => ?_)
    refine j_aload_n F 0 dX10_hasNext_23 rfl ?_
    refine j_getf F fX10_29 0 (v := .ref (ad 4)) rfl rfl dX10_hasNext_24 ?_
    refine j_iload_n F 1 dX10_hasNext_27 rfl ?_
    refine j_iald F 4 m (f := ga 3) rfl rfl (by omega) (Nat.le_of_ble_eq_true rfl) dX10_hasNext_28 ?_
    refine j_top (nI j) e3 ?_
    refine j_aload_n F 0 dX10_hasNext_29 rfl ?_
    refine j_getf F fX10_20 0 (v := .ref (ad 3)) rfl rfl dX10_hasNext_30 ?_
    refine j_iload_n F 1 dX10_hasNext_33 rfl ?_
    refine j_iald F 3 m (f := ga 2) rfl rfl (by omega) (Nat.le_of_ble_eq_true rfl) dX10_hasNext_34 ?_
    refine j_top (nI (Z.1 m)) hv.1 ?_
    refine j_icmp_ge F 42 dX10_hasNext_35 (by decide) (fun c_35 => ?_) (fun c_35 => ?_)
    · skip
      have n_35 := (n_le (Z.1 m) j rfl rfl (by omega) (by omega)).mp c_35
      refine j_iconst F (v := 0) dX10_hasNext_42 (by decide) ?_
      exact j_zret F (Or.inl rfl) ⟨ups vi 0 0, ga, (GI_id hG (fun q hq => (ups_ne (by omega)).trans rfl) (fun q hq => rfl)), rfl, (by rw [if_neg (fun h => h.2 (by rw [ej]; exact c_35))]), rfl⟩ dX10_hasNext_43 (Nat.le_of_ble_eq_true rfl) (Nat.le_of_ble_eq_true rfl)
    · skip
      have n_35 := mt (n_le (Z.1 m) j rfl rfl (by omega) (by omega)).mpr c_35
      refine j_iconst F (v := 1) dX10_hasNext_38 (by decide) ?_
      refine j_goto F 43 dX10_hasNext_39 (by decide) ?_
      exact j_zret F (Or.inr rfl) ⟨ups vi 0 0, ga, (GI_id hG (fun q hq => (ups_ne (by omega)).trans rfl) (fun q hq => rfl)), rfl, (by rw [if_pos ⟨hb, by rw [ej]; exact c_35⟩]), rfl⟩ dX10_hasNext_43 (Nat.le_of_ble_eq_true rfl) (Nat.le_of_ble_eq_true rfl)

set_option maxHeartbeats 4000000 in
set_option maxRecDepth 100000 in
theorem c_X10_hasNext_no (l : Launch) (D : va_G) (ay : Nat → ClassId) (ad : Nat → Nat) (vi : Nat → Int32) (ga : Nat → Nat → Int32) (Z : DS) (x : Int32) (hG : GI Z vi ga) (h : oob x 0 1) : jM l yX10_hasNext (jws yX10_hasNext cX10_hasNext 2 (some .boolean)) 2 43 0 0 D ay [.ref (ad 0), .int x] (mW ay ad vi ga) (fun v w => ∃ (vi' : Nat → Int32) (ga' : Nat → Nat → Int32), GI Z vi' ga' ∧ vi' 0 = 1 ∧ v = some (.int 0) ∧ w = mW ay ad vi' ga') := by
  refine jM_of l (by decide) [(0, .ref (ad 0)), (1, .int x)] rfl rfl (fun p9 e9 s9 m9 a9 b9 me9 c9 A9 F => ?_)
  refine j_aload_n F 0 dX10_hasNext_0 rfl ?_
  refine j_iconst F (v := 0) dX10_hasNext_1 (by decide) ?_
  refine j_putf F fX10_1 0 (mW ay ad (ups vi 0 0) ga) rfl rfl rfl rfl rfl (Nat.le_of_ble_eq_true rfl) dX10_hasNext_2 ?_
  refine j_aload_n F 0 dX10_hasNext_5 rfl ?_
  refine j_iload_n F 1 dX10_hasNext_6 rfl ?_
  refine j_scallV F kX10_92 (As := [.int x]) (rest := []) (c_X10_noMap_no l D ay ad (ups vi 0 0) ga x rfl (show oob x 0 1 from h)) 0 0 20 rfl rfl rfl rfl rfl rfl ⟨Nat.le_of_ble_eq_true rfl, Nat.le_of_ble_eq_true rfl⟩ dX10_hasNext_7 (fun v w hw => ?_)
  obtain ⟨rfl, rfl⟩ := hw
  refine ⟨rfl, (mW ay ad (ups vi 0 1) ga), (slp_all _ _ rfl).trans rfl, ?_⟩
  refine j_top 1 rfl ?_
  refine j_if_ne F 42 dX10_hasNext_10 (by decide) (fun c_10 => ?_) (fun c_10 => absurd c_10 (by decide))
  refine j_iconst F (v := 0) dX10_hasNext_42 (by decide) ?_
  exact j_zret F (Or.inl rfl) ⟨ups vi 0 1, ga, (GI_id hG (fun q hq => (ups_ne (by omega)).trans rfl) (fun q hq => rfl)), rfl, rfl, rfl⟩ dX10_hasNext_43 (Nat.le_of_ble_eq_true rfl) (Nat.le_of_ble_eq_true rfl)

set_option maxHeartbeats 4000000 in
set_option maxRecDepth 100000 in
theorem c_X10_next_ok (l : Launch) (D : va_G) (ay : Nat → ClassId) (ad : Nat → Nat) (vi : Nat → Int32) (ga : Nat → Nat → Int32) (Z : DS) (m : Nat) (j : Nat) (hG : GI Z vi ga) (hm : m < 2) (hb : ¬ Z.2.1 (1 + 5 * m) = 0) (ej : Z.2.1 (2 + 5 * m) = nI j) (hj : j < Z.1 m) : jM l yX10_next (jws yX10_next cX10_next 3 (some .int)) 2 43 0 0 D ay [.ref (ad 0), .int (nI m)] (mW ay ad vi ga) (fun v w => ∃ (vi' : Nat → Int32) (ga' : Nat → Nat → Int32), GI (mU Z m (Z.1 m) (Z.2.2 (2 * m)) (Z.2.1 (1 + 5 * m)) (nI (j + 1)) 1 (Z.2.2 (2 * m + 1)) (Z.1 (12 + m)) (Z.2.1 (4 + 5 * m)) (Z.2.1 (5 + 5 * m))) vi' ga' ∧ vi' 0 = 0 ∧ v = some (.int (1000 * Z.2.2 (2 * m) j + Z.2.2 (2 * m + 1) (kN (Z.2.2 (2 * m)) j))) ∧ w = mW ay ad vi' ga') := by
  refine jM_of l (by decide) [(0, .ref (ad 0)), (1, .int (nI m))] rfl rfl (fun p9 e9 s9 m9 a9 b9 me9 c9 A9 F => ?_)
  have hgm := hG.1 m hm
  have hI := hgm.1
  have hn := hI.n
  have hv := hgm.2.2.1
  have hB := hG.2.1
  have hmb : m = 0 ∨ Z.1 m ≤ Z.1 13 := by
    rcases (show m = 0 ∨ m = 1 by omega) with h | h
    · exact Or.inl h
    · subst h; exact Or.inr hgm.2.1
  have e3 : ga 3 m = nI j := (hgm.2.2.2.1.trans (if_neg hb)).trans ej
  refine j_aload_n F 0 dX10_next_0 rfl ?_
  refine j_iconst F (v := 0) dX10_next_1 (by decide) ?_
  refine j_putf F fX10_1 0 (mW ay ad (ups vi 0 0) ga) rfl rfl rfl rfl rfl (Nat.le_of_ble_eq_true rfl) dX10_next_2 ?_
  refine j_aload_n F 0 dX10_next_5 rfl ?_
  refine j_iload_n F 1 dX10_next_6 rfl ?_
  refine j_scallV F kX10_92 (As := [.int (nI m)]) (rest := []) (c_X10_noMap_ok l D ay ad (ups vi 0 0) ga (nI m) rfl (show ¬ oob (nI m) 0 1 from nob1 hm)) 0 0 20 rfl rfl rfl rfl rfl rfl ⟨Nat.le_of_ble_eq_true rfl, Nat.le_of_ble_eq_true rfl⟩ dX10_next_7 (fun v w hw => ?_)
  obtain ⟨rfl, rfl⟩ := hw
  refine ⟨rfl, (mW ay ad (ups vi 0 0) ga), (slp_all _ _ rfl).trans rfl, ?_⟩
  refine j_top 0 rfl ?_
  refine j_if_ne F 64 dX10_next_10 (by decide) (fun c_10 => absurd (by decide) c_10) (fun c_10 => ?_)
  refine j_aload_n F 0 dX10_next_13 rfl ?_
  refine j_aload_n F 0 dX10_next_14 rfl ?_
  refine j_getf F fX10_29 0 (v := .ref (ad 4)) rfl rfl dX10_next_15 ?_
  refine j_iload_n F 1 dX10_next_18 rfl ?_
  refine j_iald F 4 m (f := ga 3) rfl rfl (by omega) (Nat.le_of_ble_eq_true rfl) dX10_next_19 ?_
  refine j_top (nI j) e3 ?_
  refine j_iconst F (v := (-1)) dX10_next_20 (by decide) ?_
  refine j_icmp_eq F 28 dX10_next_21 (by decide) (fun c_21 => absurd c_21 (nI_m1 (by omega))) (fun c_21 => ?_)
  refine j_iconst F (v := 1) dX10_next_24 (by decide) ?_
  refine j_goto F 29 dX10_next_25 (by decide) ?_
  refine j_iconst F (v := 2) dX10_next_29 (by decide) ?_
  refine j_scallV F kX10_88 (As := [.int 1, .int 2]) (rest := []) (c_X10_fails_ok l D ay ad (ups vi 0 0) ga 2 rfl) 0 0 20 rfl rfl rfl rfl rfl rfl ⟨Nat.le_of_ble_eq_true rfl, Nat.le_of_ble_eq_true rfl⟩ dX10_next_30 (fun v w hw => ?_)
  obtain ⟨rfl, rfl⟩ := hw
  refine ⟨rfl, (mW ay ad (ups vi 0 0) ga), (slp_all _ _ rfl).trans rfl, ?_⟩
  refine j_top 0 rfl ?_
  refine j_if_ne F 64 dX10_next_33 (by decide) (fun c_33 => absurd (by decide) c_33) (fun c_33 => ?_)
  refine j_aload_n F 0 dX10_next_36 rfl ?_
  refine j_aload_n F 0 dX10_next_37 rfl ?_
  refine j_getf F fX10_29 0 (v := .ref (ad 4)) rfl rfl dX10_next_38 ?_
  refine j_iload_n F 1 dX10_next_41 rfl ?_
  refine j_iald F 4 m (f := ga 3) rfl rfl (by omega) (Nat.le_of_ble_eq_true rfl) dX10_next_42 ?_
  refine j_top (nI j) e3 ?_
  refine j_aload_n F 0 dX10_next_43 rfl ?_
  refine j_getf F fX10_20 0 (v := .ref (ad 3)) rfl rfl dX10_next_44 ?_
  refine j_iload_n F 1 dX10_next_47 rfl ?_
  refine j_iald F 3 m (f := ga 2) rfl rfl (by omega) (Nat.le_of_ble_eq_true rfl) dX10_next_48 ?_
  refine j_top (nI (Z.1 m)) hv.1 ?_
  refine j_icmp_ge F 56 dX10_next_49 (by decide) (fun c_49 => absurd ((nI_leI (a := Z.1 m) (b := j) (by omega) (by omega)).mp c_49) (by omega)) (fun c_49 => ?_)
  refine j_iconst F (v := 1) dX10_next_52 (by decide) ?_
  refine j_goto F 57 dX10_next_53 (by decide) ?_
  refine j_iconst F (v := 3) dX10_next_57 (by decide) ?_
  refine j_scallV F kX10_88 (As := [.int 1, .int 3]) (rest := []) (c_X10_fails_ok l D ay ad (ups vi 0 0) ga 3 rfl) 0 0 20 rfl rfl rfl rfl rfl rfl ⟨Nat.le_of_ble_eq_true rfl, Nat.le_of_ble_eq_true rfl⟩ dX10_next_58 (fun v w hw => ?_)
  obtain ⟨rfl, rfl⟩ := hw
  refine ⟨rfl, (mW ay ad (ups vi 0 0) ga), (slp_all _ _ rfl).trans rfl, ?_⟩
  refine j_top 0 rfl ?_
  refine j_if_eq F 66 dX10_next_61 (by decide) (fun c_61 => ?_) (fun c_61 => absurd (by decide) c_61)
  refine j_bipush F (v := 101) dX10_next_66 (by decide) ?_
  refine j_iload_n F 1 dX10_next_68 rfl ?_
  refine j_imul F dX10_next_69 ?_
  refine j_top (nI (101 * m)) (pk_mul 101 _) ?_
  refine j_aload_n F 0 dX10_next_70 rfl ?_
  refine j_getf F fX10_29 0 (v := .ref (ad 4)) rfl rfl dX10_next_71 ?_
  refine j_iload_n F 1 dX10_next_74 rfl ?_
  refine j_iald F 4 m (f := ga 3) rfl rfl (by omega) (Nat.le_of_ble_eq_true rfl) dX10_next_75 ?_
  refine j_top (nI j) e3 ?_
  refine j_iadd F dX10_next_76 ?_
  refine j_top (nI (101 * m + j)) (nI_add _ _) ?_
  refine j_istore_n F 2 [(2, .int (nI (101 * m + j))), (0, .ref (ad 0)), (1, .int (nI m))] dX10_next_77 rfl (by decide) rfl ?_
  refine j_aload_n F 1 dX10_next_78 rfl ?_
  refine j_getf F fX10_29 0 (v := .ref (ad 4)) rfl rfl dX10_next_79 ?_
  refine j_iload_n F 2 dX10_next_82 rfl ?_
  refine j_dup2 F dX10_next_83 rfl rfl ?_
  refine j_iald F 4 m (f := ga 3) rfl rfl (by omega) (Nat.le_of_ble_eq_true rfl) dX10_next_84 ?_
  refine j_top (nI j) e3 ?_
  refine j_iconst F (v := 1) dX10_next_85 (by decide) ?_
  refine j_iadd F dX10_next_86 ?_
  refine j_top (nI (j + 1)) (nI_add _ _) ?_
  refine j_iast F 4 (mW ay ad (ups vi 0 0) (ups ga 3 (upd (ga 3) m (nI (j + 1))))) m rfl rfl (by omega) (Nat.le_of_ble_eq_true rfl) rfl dX10_next_87 ?_
  refine j_aload_n F 1 dX10_next_88 rfl ?_
  refine j_getf F fX10_32 0 (v := .ref (ad 5)) rfl rfl dX10_next_89 ?_
  refine j_iload_n F 2 dX10_next_92 rfl ?_
  refine j_iconst F (v := 1) dX10_next_93 (by decide) ?_
  refine j_zast F 5 (mW ay ad (ups vi 0 0) (ups (ups ga 3 (upd (ga 3) m (nI (j + 1)))) 4 (upd (ga 4) m 1))) m rfl rfl (by omega) (Nat.le_of_ble_eq_true rfl) rfl rfl dX10_next_94 ?_
  refine j_sipush F (v := 1000) dX10_next_95 (by decide) ?_
  refine j_aload_n F 1 dX10_next_98 rfl ?_
  refine j_getf F fX10_13 0 (v := .ref (ad 1)) rfl rfl dX10_next_99 ?_
  refine j_iload_n F 0 dX10_next_102 rfl ?_
  refine j_iald F 1 (101 * m + j) (f := ga 0) rfl rfl (by omega) (Nat.le_of_ble_eq_true rfl) dX10_next_103 ?_
  refine j_top (Z.2.2 (2 * m) j) (hv.2.1 j hj) ?_
  refine j_imul F dX10_next_104 ?_
  refine j_aload_n F 1 dX10_next_105 rfl ?_
  refine j_getf F fX10_17 0 (v := .ref (ad 2)) rfl rfl dX10_next_106 ?_
  refine j_iload_n F 0 dX10_next_109 rfl ?_
  refine j_iald F 2 (101 * m + j) (f := ga 1) rfl rfl (by omega) (Nat.le_of_ble_eq_true rfl) dX10_next_110 ?_
  refine j_top (Z.2.2 (2 * m + 1) (kN (Z.2.2 (2 * m)) j)) (hv.2.2 j hj) ?_
  refine j_iadd F dX10_next_111 ?_
  exact j_iret F ⟨ups vi 0 0, ups (ups ga 3 (upd (ga 3) m (nI (j + 1)))) 4 (upd (ga 4) m 1), (chg_G hG hm (fun q hq => (ups_ne (by omega)).trans rfl) (fun q hq => (ups_ne (by omega)).trans ((ups_ne (by omega)).trans rfl)) fm_id ho2_u rfl rfl rfl hI.1 hgm.2.1 hI.2.2.1 hI.2.2.2.1 (fun _ => ⟨j + 1, rfl, by omega, fun _ => by omega⟩) hv (upd_s.trans (if_neg hb).symm) (upd_s.trans (if_neg (fun h => h.elim hb (fun h => absurd h (by decide)))).symm)), rfl, rfl, rfl⟩ dX10_next_112 (Nat.le_of_ble_eq_true rfl) (Nat.le_of_ble_eq_true rfl)

set_option maxHeartbeats 4000000 in
set_option maxRecDepth 100000 in
theorem c_X10_next_no1 (l : Launch) (D : va_G) (ay : Nat → ClassId) (ad : Nat → Nat) (vi : Nat → Int32) (ga : Nat → Nat → Int32) (Z : DS) (x : Int32) (hG : GI Z vi ga) (h : oob x 0 1) : jM l yX10_next (jws yX10_next cX10_next 3 (some .int)) 2 43 0 0 D ay [.ref (ad 0), .int x] (mW ay ad vi ga) (fun v w => ∃ (vi' : Nat → Int32) (ga' : Nat → Nat → Int32), GI Z vi' ga' ∧ vi' 0 = 1 ∧ v = some (.int 0) ∧ w = mW ay ad vi' ga') := by
  refine jM_of l (by decide) [(0, .ref (ad 0)), (1, .int x)] rfl rfl (fun p9 e9 s9 m9 a9 b9 me9 c9 A9 F => ?_)
  refine j_aload_n F 0 dX10_next_0 rfl ?_
  refine j_iconst F (v := 0) dX10_next_1 (by decide) ?_
  refine j_putf F fX10_1 0 (mW ay ad (ups vi 0 0) ga) rfl rfl rfl rfl rfl (Nat.le_of_ble_eq_true rfl) dX10_next_2 ?_
  refine j_aload_n F 0 dX10_next_5 rfl ?_
  refine j_iload_n F 1 dX10_next_6 rfl ?_
  refine j_scallV F kX10_92 (As := [.int x]) (rest := []) (c_X10_noMap_no l D ay ad (ups vi 0 0) ga x rfl (show oob x 0 1 from h)) 0 0 20 rfl rfl rfl rfl rfl rfl ⟨Nat.le_of_ble_eq_true rfl, Nat.le_of_ble_eq_true rfl⟩ dX10_next_7 (fun v w hw => ?_)
  obtain ⟨rfl, rfl⟩ := hw
  refine ⟨rfl, (mW ay ad (ups vi 0 1) ga), (slp_all _ _ rfl).trans rfl, ?_⟩
  refine j_top 1 rfl ?_
  refine j_if_ne F 64 dX10_next_10 (by decide) (fun c_10 => ?_) (fun c_10 => absurd c_10 (by decide))
  refine j_iconst F (v := 0) dX10_next_64 (by decide) ?_
  exact j_iret F ⟨ups vi 0 1, ga, (GI_id hG (fun q hq => (ups_ne (by omega)).trans rfl) (fun q hq => rfl)), rfl, rfl, rfl⟩ dX10_next_65 (Nat.le_of_ble_eq_true rfl) (Nat.le_of_ble_eq_true rfl)

set_option maxHeartbeats 4000000 in
set_option maxRecDepth 100000 in
theorem c_X10_next_no2 (l : Launch) (D : va_G) (ay : Nat → ClassId) (ad : Nat → Nat) (vi : Nat → Int32) (ga : Nat → Nat → Int32) (Z : DS) (m : Nat) (hG : GI Z vi ga) (hm : m < 2) (hb : Z.2.1 (1 + 5 * m) = 0) : jM l yX10_next (jws yX10_next cX10_next 3 (some .int)) 2 43 0 0 D ay [.ref (ad 0), .int (nI m)] (mW ay ad vi ga) (fun v w => ∃ (vi' : Nat → Int32) (ga' : Nat → Nat → Int32), GI Z vi' ga' ∧ vi' 0 = 2 ∧ v = some (.int 0) ∧ w = mW ay ad vi' ga') := by
  refine jM_of l (by decide) [(0, .ref (ad 0)), (1, .int (nI m))] rfl rfl (fun p9 e9 s9 m9 a9 b9 me9 c9 A9 F => ?_)
  have hgm := hG.1 m hm
  have hI := hgm.1
  have hn := hI.n
  have hv := hgm.2.2.1
  have hB := hG.2.1
  have hmb : m = 0 ∨ Z.1 m ≤ Z.1 13 := by
    rcases (show m = 0 ∨ m = 1 by omega) with h | h
    · exact Or.inl h
    · subst h; exact Or.inr hgm.2.1
  have e3 : ga 3 m = -1 := hgm.2.2.2.1.trans (if_pos hb)
  refine j_aload_n F 0 dX10_next_0 rfl ?_
  refine j_iconst F (v := 0) dX10_next_1 (by decide) ?_
  refine j_putf F fX10_1 0 (mW ay ad (ups vi 0 0) ga) rfl rfl rfl rfl rfl (Nat.le_of_ble_eq_true rfl) dX10_next_2 ?_
  refine j_aload_n F 0 dX10_next_5 rfl ?_
  refine j_iload_n F 1 dX10_next_6 rfl ?_
  refine j_scallV F kX10_92 (As := [.int (nI m)]) (rest := []) (c_X10_noMap_ok l D ay ad (ups vi 0 0) ga (nI m) rfl (show ¬ oob (nI m) 0 1 from nob1 hm)) 0 0 20 rfl rfl rfl rfl rfl rfl ⟨Nat.le_of_ble_eq_true rfl, Nat.le_of_ble_eq_true rfl⟩ dX10_next_7 (fun v w hw => ?_)
  obtain ⟨rfl, rfl⟩ := hw
  refine ⟨rfl, (mW ay ad (ups vi 0 0) ga), (slp_all _ _ rfl).trans rfl, ?_⟩
  refine j_top 0 rfl ?_
  refine j_if_ne F 64 dX10_next_10 (by decide) (fun c_10 => absurd (by decide) c_10) (fun c_10 => ?_)
  refine j_aload_n F 0 dX10_next_13 rfl ?_
  refine j_aload_n F 0 dX10_next_14 rfl ?_
  refine j_getf F fX10_29 0 (v := .ref (ad 4)) rfl rfl dX10_next_15 ?_
  refine j_iload_n F 1 dX10_next_18 rfl ?_
  refine j_iald F 4 m (f := ga 3) rfl rfl (by omega) (Nat.le_of_ble_eq_true rfl) dX10_next_19 ?_
  refine j_top (-1) e3 ?_
  refine j_iconst F (v := (-1)) dX10_next_20 (by decide) ?_
  refine j_icmp_eq F 28 dX10_next_21 (by decide) (fun c_21 => ?_) (fun c_21 => absurd (by decide) c_21)
  refine j_iconst F (v := 0) dX10_next_28 (by decide) ?_
  refine j_iconst F (v := 2) dX10_next_29 (by decide) ?_
  refine j_scallV F kX10_88 (As := [.int 0, .int 2]) (rest := []) (c_X10_fails_no l D ay ad (ups vi 0 0) ga 2 rfl (show ¬ 2 = 0 from by decide)) 0 0 20 rfl rfl rfl rfl rfl rfl ⟨Nat.le_of_ble_eq_true rfl, Nat.le_of_ble_eq_true rfl⟩ dX10_next_30 (fun v w hw => ?_)
  obtain ⟨rfl, rfl⟩ := hw
  refine ⟨rfl, (mW ay ad (ups vi 0 2) ga), (slp_all _ _ rfl).trans rfl, ?_⟩
  refine j_top 1 rfl ?_
  refine j_if_ne F 64 dX10_next_33 (by decide) (fun c_33 => ?_) (fun c_33 => absurd c_33 (by decide))
  refine j_iconst F (v := 0) dX10_next_64 (by decide) ?_
  exact j_iret F ⟨ups vi 0 2, ga, (GI_id hG (fun q hq => (ups_ne (by omega)).trans rfl) (fun q hq => rfl)), rfl, rfl, rfl⟩ dX10_next_65 (Nat.le_of_ble_eq_true rfl) (Nat.le_of_ble_eq_true rfl)

set_option maxHeartbeats 4000000 in
set_option maxRecDepth 100000 in
theorem c_X10_next_no3 (l : Launch) (D : va_G) (ay : Nat → ClassId) (ad : Nat → Nat) (vi : Nat → Int32) (ga : Nat → Nat → Int32) (Z : DS) (m : Nat) (hG : GI Z vi ga) (hm : m < 2) (hb : ¬ Z.2.1 (1 + 5 * m) = 0) (hle : nI (Z.1 m) ≤ Z.2.1 (2 + 5 * m)) : jM l yX10_next (jws yX10_next cX10_next 3 (some .int)) 2 43 0 0 D ay [.ref (ad 0), .int (nI m)] (mW ay ad vi ga) (fun v w => ∃ (vi' : Nat → Int32) (ga' : Nat → Nat → Int32), GI Z vi' ga' ∧ vi' 0 = 3 ∧ v = some (.int 0) ∧ w = mW ay ad vi' ga') := by
  refine jM_of l (by decide) [(0, .ref (ad 0)), (1, .int (nI m))] rfl rfl (fun p9 e9 s9 m9 a9 b9 me9 c9 A9 F => ?_)
  have hgm := hG.1 m hm
  have hI := hgm.1
  have hn := hI.n
  have hv := hgm.2.2.1
  have hB := hG.2.1
  have hmb : m = 0 ∨ Z.1 m ≤ Z.1 13 := by
    rcases (show m = 0 ∨ m = 1 by omega) with h | h
    · exact Or.inl h
    · subst h; exact Or.inr hgm.2.1
  obtain ⟨j, ej, hjn, hjg⟩ := hI.2.2.2.2 hb
  rw [ej] at hle
  have hle2 := (nI_leI (a := Z.1 m) (b := j) (by omega) (by omega)).mp hle
  have e3 : ga 3 m = nI j := (hgm.2.2.2.1.trans (if_neg hb)).trans ej
  refine j_aload_n F 0 dX10_next_0 rfl ?_
  refine j_iconst F (v := 0) dX10_next_1 (by decide) ?_
  refine j_putf F fX10_1 0 (mW ay ad (ups vi 0 0) ga) rfl rfl rfl rfl rfl (Nat.le_of_ble_eq_true rfl) dX10_next_2 ?_
  refine j_aload_n F 0 dX10_next_5 rfl ?_
  refine j_iload_n F 1 dX10_next_6 rfl ?_
  refine j_scallV F kX10_92 (As := [.int (nI m)]) (rest := []) (c_X10_noMap_ok l D ay ad (ups vi 0 0) ga (nI m) rfl (show ¬ oob (nI m) 0 1 from nob1 hm)) 0 0 20 rfl rfl rfl rfl rfl rfl ⟨Nat.le_of_ble_eq_true rfl, Nat.le_of_ble_eq_true rfl⟩ dX10_next_7 (fun v w hw => ?_)
  obtain ⟨rfl, rfl⟩ := hw
  refine ⟨rfl, (mW ay ad (ups vi 0 0) ga), (slp_all _ _ rfl).trans rfl, ?_⟩
  refine j_top 0 rfl ?_
  refine j_if_ne F 64 dX10_next_10 (by decide) (fun c_10 => absurd (by decide) c_10) (fun c_10 => ?_)
  refine j_aload_n F 0 dX10_next_13 rfl ?_
  refine j_aload_n F 0 dX10_next_14 rfl ?_
  refine j_getf F fX10_29 0 (v := .ref (ad 4)) rfl rfl dX10_next_15 ?_
  refine j_iload_n F 1 dX10_next_18 rfl ?_
  refine j_iald F 4 m (f := ga 3) rfl rfl (by omega) (Nat.le_of_ble_eq_true rfl) dX10_next_19 ?_
  refine j_top (nI j) e3 ?_
  refine j_iconst F (v := (-1)) dX10_next_20 (by decide) ?_
  refine j_icmp_eq F 28 dX10_next_21 (by decide) (fun c_21 => absurd c_21 (nI_m1 (by omega))) (fun c_21 => ?_)
  refine j_iconst F (v := 1) dX10_next_24 (by decide) ?_
  refine j_goto F 29 dX10_next_25 (by decide) ?_
  refine j_iconst F (v := 2) dX10_next_29 (by decide) ?_
  refine j_scallV F kX10_88 (As := [.int 1, .int 2]) (rest := []) (c_X10_fails_ok l D ay ad (ups vi 0 0) ga 2 rfl) 0 0 20 rfl rfl rfl rfl rfl rfl ⟨Nat.le_of_ble_eq_true rfl, Nat.le_of_ble_eq_true rfl⟩ dX10_next_30 (fun v w hw => ?_)
  obtain ⟨rfl, rfl⟩ := hw
  refine ⟨rfl, (mW ay ad (ups vi 0 0) ga), (slp_all _ _ rfl).trans rfl, ?_⟩
  refine j_top 0 rfl ?_
  refine j_if_ne F 64 dX10_next_33 (by decide) (fun c_33 => absurd (by decide) c_33) (fun c_33 => ?_)
  refine j_aload_n F 0 dX10_next_36 rfl ?_
  refine j_aload_n F 0 dX10_next_37 rfl ?_
  refine j_getf F fX10_29 0 (v := .ref (ad 4)) rfl rfl dX10_next_38 ?_
  refine j_iload_n F 1 dX10_next_41 rfl ?_
  refine j_iald F 4 m (f := ga 3) rfl rfl (by omega) (Nat.le_of_ble_eq_true rfl) dX10_next_42 ?_
  refine j_top (nI j) e3 ?_
  refine j_aload_n F 0 dX10_next_43 rfl ?_
  refine j_getf F fX10_20 0 (v := .ref (ad 3)) rfl rfl dX10_next_44 ?_
  refine j_iload_n F 1 dX10_next_47 rfl ?_
  refine j_iald F 3 m (f := ga 2) rfl rfl (by omega) (Nat.le_of_ble_eq_true rfl) dX10_next_48 ?_
  refine j_top (nI (Z.1 m)) hv.1 ?_
  refine j_icmp_ge F 56 dX10_next_49 (by decide) (fun c_49 => ?_) (fun c_49 => absurd hle c_49)
  refine j_iconst F (v := 0) dX10_next_56 (by decide) ?_
  refine j_iconst F (v := 3) dX10_next_57 (by decide) ?_
  refine j_scallV F kX10_88 (As := [.int 0, .int 3]) (rest := []) (c_X10_fails_no l D ay ad (ups vi 0 0) ga 3 rfl (show ¬ 3 = 0 from by decide)) 0 0 20 rfl rfl rfl rfl rfl rfl ⟨Nat.le_of_ble_eq_true rfl, Nat.le_of_ble_eq_true rfl⟩ dX10_next_58 (fun v w hw => ?_)
  obtain ⟨rfl, rfl⟩ := hw
  refine ⟨rfl, (mW ay ad (ups vi 0 3) ga), (slp_all _ _ rfl).trans rfl, ?_⟩
  refine j_top 1 rfl ?_
  refine j_if_eq F 66 dX10_next_61 (by decide) (fun c_61 => absurd c_61 (by decide)) (fun c_61 => ?_)
  refine j_iconst F (v := 0) dX10_next_64 (by decide) ?_
  exact j_iret F ⟨ups vi 0 3, ga, (GI_id hG (fun q hq => (ups_ne (by omega)).trans rfl) (fun q hq => rfl)), rfl, rfl, rfl⟩ dX10_next_65 (Nat.le_of_ble_eq_true rfl) (Nat.le_of_ble_eq_true rfl)

set_option maxHeartbeats 4000000 in
set_option maxRecDepth 100000 in
theorem c_X10_takeOut_ok (l : Launch) (D : va_G) (ay : Nat → ClassId) (ad : Nat → Nat) (vi : Nat → Int32) (ga : Nat → Nat → Int32) (Z : DS) (m : Nat) (j : Nat) (hG : GI Z vi ga) (hm : m < 2) (hb : ¬ Z.2.1 (1 + 5 * m) = 0) (hg : ¬ Z.2.1 (3 + 5 * m) = 0) (ej : Z.2.1 (2 + 5 * m) = nI j) (hj : 1 ≤ j ∧ j ≤ Z.1 m) : jM l yX10_takeOut (jws yX10_takeOut cX10_takeOut 2 (some .int)) 2 43 0 0 D ay [.ref (ad 0), .int (nI m)] (mW ay ad vi ga) (fun v w => ∃ (vi' : Nat → Int32) (ga' : Nat → Nat → Int32), GI (mU Z m (Z.1 m - 1) (shf (Z.2.2 (2 * m)) (j - 1) (Z.1 m)) (Z.2.1 (1 + 5 * m)) (nI (j - 1)) 0 (Z.2.2 (2 * m + 1)) (Z.1 (12 + m)) (Z.2.1 (4 + 5 * m)) (Z.2.1 (5 + 5 * m))) vi' ga' ∧ vi' 0 = 0 ∧ v = some (.int (nI (Z.1 m - 1))) ∧ w = mW ay ad vi' ga') := by
  refine jM_of l (by decide) [(0, .ref (ad 0)), (1, .int (nI m))] rfl rfl (fun p9 e9 s9 m9 a9 b9 me9 c9 A9 F => ?_)
  have hgm := hG.1 m hm
  have hI := hgm.1
  have hn := hI.n
  have hv := hgm.2.2.1
  have hB := hG.2.1
  have hmb : m = 0 ∨ Z.1 m ≤ Z.1 13 := by
    rcases (show m = 0 ∨ m = 1 by omega) with h | h
    · exact Or.inl h
    · subst h; exact Or.inr hgm.2.1
  have e3 : ga 3 m = nI j := (hgm.2.2.2.1.trans (if_neg hb)).trans ej
  have e4 : ga 4 m = 1 := hgm.2.2.2.2.trans (if_neg (fun h => h.elim hb hg))
  refine j_aload_n F 0 dX10_takeOut_0 rfl ?_
  refine j_iconst F (v := 0) dX10_takeOut_1 (by decide) ?_
  refine j_putf F fX10_1 0 (mW ay ad (ups vi 0 0) ga) rfl rfl rfl rfl rfl (Nat.le_of_ble_eq_true rfl) dX10_takeOut_2 ?_
  refine j_aload_n F 0 dX10_takeOut_5 rfl ?_
  refine j_iload_n F 1 dX10_takeOut_6 rfl ?_
  refine j_scallV F kX10_92 (As := [.int (nI m)]) (rest := []) (c_X10_noMap_ok l D ay ad (ups vi 0 0) ga (nI m) rfl (show ¬ oob (nI m) 0 1 from nob1 hm)) 0 0 20 rfl rfl rfl rfl rfl rfl ⟨Nat.le_of_ble_eq_true rfl, Nat.le_of_ble_eq_true rfl⟩ dX10_takeOut_7 (fun v w hw => ?_)
  obtain ⟨rfl, rfl⟩ := hw
  refine ⟨rfl, (mW ay ad (ups vi 0 0) ga), (slp_all _ _ rfl).trans rfl, ?_⟩
  refine j_top 0 rfl ?_
  refine j_if_ne F 27 dX10_takeOut_10 (by decide) (fun c_10 => absurd (by decide) c_10) (fun c_10 => ?_)
  refine j_aload_n F 0 dX10_takeOut_13 rfl ?_
  refine j_aload_n F 0 dX10_takeOut_14 rfl ?_
  refine j_getf F fX10_32 0 (v := .ref (ad 5)) rfl rfl dX10_takeOut_15 ?_
  refine j_iload_n F 1 dX10_takeOut_18 rfl ?_
  refine j_zald F 5 m (f := ga 4) rfl rfl (by omega) (Nat.le_of_ble_eq_true rfl) dX10_takeOut_19 ?_
  refine j_top 1 e4 ?_
  refine j_iconst F (v := 2) dX10_takeOut_20 (by decide) ?_
  refine j_scallV F kX10_88 (As := [.int 1, .int 2]) (rest := []) (c_X10_fails_ok l D ay ad (ups vi 0 0) ga 2 rfl) 0 0 20 rfl rfl rfl rfl rfl rfl ⟨Nat.le_of_ble_eq_true rfl, Nat.le_of_ble_eq_true rfl⟩ dX10_takeOut_21 (fun v w hw => ?_)
  obtain ⟨rfl, rfl⟩ := hw
  refine ⟨rfl, (mW ay ad (ups vi 0 0) ga), (slp_all _ _ rfl).trans rfl, ?_⟩
  refine j_top 0 rfl ?_
  refine j_if_eq F 29 dX10_takeOut_24 (by decide) (fun c_24 => ?_) (fun c_24 => absurd (by decide) c_24)
  refine j_aload_n F 0 dX10_takeOut_29 rfl ?_
  refine j_getf F fX10_32 0 (v := .ref (ad 5)) rfl rfl dX10_takeOut_30 ?_
  refine j_iload_n F 1 dX10_takeOut_33 rfl ?_
  refine j_iconst F (v := 0) dX10_takeOut_34 (by decide) ?_
  refine j_zast F 5 (mW ay ad (ups vi 0 0) (ups ga 4 (upd (ga 4) m 0))) m rfl rfl (by omega) (Nat.le_of_ble_eq_true rfl) rfl rfl dX10_takeOut_35 ?_
  refine j_aload_n F 0 dX10_takeOut_36 rfl ?_
  refine j_getf F fX10_29 0 (v := .ref (ad 4)) rfl rfl dX10_takeOut_37 ?_
  refine j_iload_n F 1 dX10_takeOut_40 rfl ?_
  refine j_dup2 F dX10_takeOut_41 rfl rfl ?_
  refine j_iald F 4 m (f := ga 3) rfl rfl (by omega) (Nat.le_of_ble_eq_true rfl) dX10_takeOut_42 ?_
  refine j_top (nI j) e3 ?_
  refine j_iconst F (v := 1) dX10_takeOut_43 (by decide) ?_
  refine j_isub F dX10_takeOut_44 ?_
  refine j_top (nI (j - 1)) (pk_sub (a := j) (b := 1) (by omega)) ?_
  refine j_iast F 4 (mW ay ad (ups vi 0 0) (ups (ups ga 3 (upd (ga 3) m (nI (j - 1)))) 4 (upd (ga 4) m 0))) m rfl rfl (by omega) (Nat.le_of_ble_eq_true rfl) rfl dX10_takeOut_45 ?_
  refine j_aload_n F 0 dX10_takeOut_46 rfl ?_
  refine j_iload_n F 1 dX10_takeOut_47 rfl ?_
  refine j_aload_n F 0 dX10_takeOut_48 rfl ?_
  refine j_getf F fX10_29 0 (v := .ref (ad 4)) rfl rfl dX10_takeOut_49 ?_
  refine j_iload_n F 1 dX10_takeOut_52 rfl ?_
  refine j_iald F 4 m (f := upd (ga 3) m (nI (j - 1))) rfl rfl (by omega) (Nat.le_of_ble_eq_true rfl) dX10_takeOut_53 ?_
  refine j_top (nI (j - 1)) upd_s ?_
  refine j_scallV F kX10_99 (As := [.int (nI m), .int (nI (j - 1))]) (rest := []) (c_X10_takes l D ay ad (ups vi 0 0) (ups (ups ga 3 (upd (ga 3) m (nI (j - 1)))) 4 (upd (ga 4) m 0)) m (Z.1 m) (j - 1) (show m < 2 from hm) (show ga 2 m = nI (Z.1 m) from hv.1) (show (Z.1 m) ≤ 101 from by omega) (show (j - 1) < (Z.1 m) from by omega)) 0 0 20 rfl rfl rfl rfl rfl rfl ⟨Nat.le_of_ble_eq_true rfl, Nat.le_of_ble_eq_true rfl⟩ dX10_takeOut_54 (fun v w hw => ?_)
  obtain ⟨rfl, rfl⟩ := hw
  refine ⟨rfl, (mW ay ad (ups vi 0 0) (ups (ups (ups (ups (ups ga 0 (mrs (ga 0) (101 * m) (j - 1) (Z.1 m))) 1 (mrs (ga 1) (101 * m) (j - 1) (Z.1 m))) 2 (upd (ga 2) m (nI ((Z.1 m) - 1)))) 3 (upd (ga 3) m (nI (j - 1)))) 4 (upd (ga 4) m 0))), (slp_all _ _ rfl).trans rfl, ?_⟩
  refine j_top (ga 1 (101 * m + (j - 1))) rfl ?_
  refine j_pop F dX10_takeOut_57 rfl ?_
  refine j_aload_n F 0 dX10_takeOut_58 rfl ?_
  refine j_getf F fX10_20 0 (v := .ref (ad 3)) rfl rfl dX10_takeOut_59 ?_
  refine j_iload_n F 1 dX10_takeOut_62 rfl ?_
  refine j_iald F 3 m (f := upd (ga 2) m (nI ((Z.1 m) - 1))) rfl rfl (by omega) (Nat.le_of_ble_eq_true rfl) dX10_takeOut_63 ?_
  refine j_top (nI (Z.1 m - 1)) upd_s ?_
  exact j_iret F ⟨ups vi 0 0, ups (ups (ups (ups (ups ga 0 (mrs (ga 0) (101 * m) (j - 1) (Z.1 m))) 1 (mrs (ga 1) (101 * m) (j - 1) (Z.1 m))) 2 (upd (ga 2) m (nI ((Z.1 m) - 1)))) 3 (upd (ga 3) m (nI (j - 1)))) 4 (upd (ga 4) m 0), (chg_G hG hm (fun q hq => (ups_ne (by omega)).trans rfl) (fun q hq => (ups_ne (by omega)).trans ((ups_ne (by omega)).trans ((ups_ne (by omega)).trans ((ups_ne (by omega)).trans ((ups_ne (by omega)).trans rfl))))) (fm_take hm (by omega)) ho2_u rfl rfl rfl (hI.1.del (by omega)) (by have := hgm.2.1; omega) (fun q hq => by rw [mV_shf]; exact nn_shf hI.2.2.1 (by omega) q hq) hI.2.2.2.1 (fun _ => ⟨j - 1, rfl, by omega, fun h => absurd rfl h⟩) (by rw [mV_shf]; exact vw_take hv (by omega)) (upd_s.trans (if_neg hb).symm) (upd_s.trans (if_pos (Or.inr rfl)).symm)), rfl, rfl, rfl⟩ dX10_takeOut_64 (Nat.le_of_ble_eq_true rfl) (Nat.le_of_ble_eq_true rfl)

set_option maxHeartbeats 4000000 in
set_option maxRecDepth 100000 in
theorem c_X10_takeOut_no1 (l : Launch) (D : va_G) (ay : Nat → ClassId) (ad : Nat → Nat) (vi : Nat → Int32) (ga : Nat → Nat → Int32) (Z : DS) (x : Int32) (hG : GI Z vi ga) (h : oob x 0 1) : jM l yX10_takeOut (jws yX10_takeOut cX10_takeOut 2 (some .int)) 2 43 0 0 D ay [.ref (ad 0), .int x] (mW ay ad vi ga) (fun v w => ∃ (vi' : Nat → Int32) (ga' : Nat → Nat → Int32), GI Z vi' ga' ∧ vi' 0 = 1 ∧ v = some (.int 0) ∧ w = mW ay ad vi' ga') := by
  refine jM_of l (by decide) [(0, .ref (ad 0)), (1, .int x)] rfl rfl (fun p9 e9 s9 m9 a9 b9 me9 c9 A9 F => ?_)
  refine j_aload_n F 0 dX10_takeOut_0 rfl ?_
  refine j_iconst F (v := 0) dX10_takeOut_1 (by decide) ?_
  refine j_putf F fX10_1 0 (mW ay ad (ups vi 0 0) ga) rfl rfl rfl rfl rfl (Nat.le_of_ble_eq_true rfl) dX10_takeOut_2 ?_
  refine j_aload_n F 0 dX10_takeOut_5 rfl ?_
  refine j_iload_n F 1 dX10_takeOut_6 rfl ?_
  refine j_scallV F kX10_92 (As := [.int x]) (rest := []) (c_X10_noMap_no l D ay ad (ups vi 0 0) ga x rfl (show oob x 0 1 from h)) 0 0 20 rfl rfl rfl rfl rfl rfl ⟨Nat.le_of_ble_eq_true rfl, Nat.le_of_ble_eq_true rfl⟩ dX10_takeOut_7 (fun v w hw => ?_)
  obtain ⟨rfl, rfl⟩ := hw
  refine ⟨rfl, (mW ay ad (ups vi 0 1) ga), (slp_all _ _ rfl).trans rfl, ?_⟩
  refine j_top 1 rfl ?_
  refine j_if_ne F 27 dX10_takeOut_10 (by decide) (fun c_10 => ?_) (fun c_10 => absurd c_10 (by decide))
  refine j_iconst F (v := 0) dX10_takeOut_27 (by decide) ?_
  exact j_iret F ⟨ups vi 0 1, ga, (GI_id hG (fun q hq => (ups_ne (by omega)).trans rfl) (fun q hq => rfl)), rfl, rfl, rfl⟩ dX10_takeOut_28 (Nat.le_of_ble_eq_true rfl) (Nat.le_of_ble_eq_true rfl)

set_option maxHeartbeats 4000000 in
set_option maxRecDepth 100000 in
theorem c_X10_takeOut_no2 (l : Launch) (D : va_G) (ay : Nat → ClassId) (ad : Nat → Nat) (vi : Nat → Int32) (ga : Nat → Nat → Int32) (Z : DS) (m : Nat) (hG : GI Z vi ga) (hm : m < 2) (hn0 : ¬ (¬ Z.2.1 (1 + 5 * m) = 0 ∧ ¬ Z.2.1 (3 + 5 * m) = 0)) : jM l yX10_takeOut (jws yX10_takeOut cX10_takeOut 2 (some .int)) 2 43 0 0 D ay [.ref (ad 0), .int (nI m)] (mW ay ad vi ga) (fun v w => ∃ (vi' : Nat → Int32) (ga' : Nat → Nat → Int32), GI Z vi' ga' ∧ vi' 0 = 2 ∧ v = some (.int 0) ∧ w = mW ay ad vi' ga') := by
  refine jM_of l (by decide) [(0, .ref (ad 0)), (1, .int (nI m))] rfl rfl (fun p9 e9 s9 m9 a9 b9 me9 c9 A9 F => ?_)
  have hgm := hG.1 m hm
  have hI := hgm.1
  have hn := hI.n
  have hv := hgm.2.2.1
  have hB := hG.2.1
  have hmb : m = 0 ∨ Z.1 m ≤ Z.1 13 := by
    rcases (show m = 0 ∨ m = 1 by omega) with h | h
    · exact Or.inl h
    · subst h; exact Or.inr hgm.2.1
  have e4 : ga 4 m = 0 := hgm.2.2.2.2.trans (if_pos (by
    by_cases h : Z.2.1 (1 + 5 * m) = 0
    · exact Or.inl h
    · exact Or.inr (Decidable.byContradiction fun h2 => hn0 ⟨h, h2⟩)))
  refine j_aload_n F 0 dX10_takeOut_0 rfl ?_
  refine j_iconst F (v := 0) dX10_takeOut_1 (by decide) ?_
  refine j_putf F fX10_1 0 (mW ay ad (ups vi 0 0) ga) rfl rfl rfl rfl rfl (Nat.le_of_ble_eq_true rfl) dX10_takeOut_2 ?_
  refine j_aload_n F 0 dX10_takeOut_5 rfl ?_
  refine j_iload_n F 1 dX10_takeOut_6 rfl ?_
  refine j_scallV F kX10_92 (As := [.int (nI m)]) (rest := []) (c_X10_noMap_ok l D ay ad (ups vi 0 0) ga (nI m) rfl (show ¬ oob (nI m) 0 1 from nob1 hm)) 0 0 20 rfl rfl rfl rfl rfl rfl ⟨Nat.le_of_ble_eq_true rfl, Nat.le_of_ble_eq_true rfl⟩ dX10_takeOut_7 (fun v w hw => ?_)
  obtain ⟨rfl, rfl⟩ := hw
  refine ⟨rfl, (mW ay ad (ups vi 0 0) ga), (slp_all _ _ rfl).trans rfl, ?_⟩
  refine j_top 0 rfl ?_
  refine j_if_ne F 27 dX10_takeOut_10 (by decide) (fun c_10 => absurd (by decide) c_10) (fun c_10 => ?_)
  refine j_aload_n F 0 dX10_takeOut_13 rfl ?_
  refine j_aload_n F 0 dX10_takeOut_14 rfl ?_
  refine j_getf F fX10_32 0 (v := .ref (ad 5)) rfl rfl dX10_takeOut_15 ?_
  refine j_iload_n F 1 dX10_takeOut_18 rfl ?_
  refine j_zald F 5 m (f := ga 4) rfl rfl (by omega) (Nat.le_of_ble_eq_true rfl) dX10_takeOut_19 ?_
  refine j_top 0 e4 ?_
  refine j_iconst F (v := 2) dX10_takeOut_20 (by decide) ?_
  refine j_scallV F kX10_88 (As := [.int 0, .int 2]) (rest := []) (c_X10_fails_no l D ay ad (ups vi 0 0) ga 2 rfl (show ¬ 2 = 0 from by decide)) 0 0 20 rfl rfl rfl rfl rfl rfl ⟨Nat.le_of_ble_eq_true rfl, Nat.le_of_ble_eq_true rfl⟩ dX10_takeOut_21 (fun v w hw => ?_)
  obtain ⟨rfl, rfl⟩ := hw
  refine ⟨rfl, (mW ay ad (ups vi 0 2) ga), (slp_all _ _ rfl).trans rfl, ?_⟩
  refine j_top 1 rfl ?_
  refine j_if_eq F 29 dX10_takeOut_24 (by decide) (fun c_24 => absurd c_24 (by decide)) (fun c_24 => ?_)
  refine j_iconst F (v := 0) dX10_takeOut_27 (by decide) ?_
  exact j_iret F ⟨ups vi 0 2, ga, (GI_id hG (fun q hq => (ups_ne (by omega)).trans rfl) (fun q hq => rfl)), rfl, rfl, rfl⟩ dX10_takeOut_28 (Nat.le_of_ble_eq_true rfl) (Nat.le_of_ble_eq_true rfl)

