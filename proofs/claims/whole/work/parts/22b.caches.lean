set_option maxHeartbeats 4000000 in
set_option maxRecDepth 100000 in
theorem c_X9_askCaches (l : Launch) (D : va_G) (ay : Nat → ClassId) (ad : Nat → Nat) (Z : DS) (y : Nat) (hy : y < 100) (hA : aI Z) (hc : Z.1 14 < 1000) : jM l yX9_askCaches (jws yX9_askCaches cX9_askCaches 4 (some .int)) 3 66 0 0 D ay [.ref (ad 0), .int (nI y)] (dW ay ad Z) (fun v w => v = some (.int (mskC Z (nI y) 8)) ∧ w = (dW ay ad (askS Z (nI y)))) := by
  refine jM_of l (by decide) [(0, .ref (ad 0)), (1, .int (nI y))] rfl rfl (fun p9 e9 s9 m9 a9 b9 me9 c9 A9 F => ?_)
  refine j_iconst F (v := 0) dX9_askCaches_0 (by decide) ?_
  refine j_istore_n F 2 [(2, .int 0), (0, .ref (ad 0)), (1, .int (nI y))] dX9_askCaches_1 rfl (by decide) rfl ?_
  refine j_iconst F (v := 0) dX9_askCaches_2 (by decide) ?_
  refine j_istore_n F 3 [(3, .int 0), (2, .int 0), (0, .ref (ad 0)), (1, .int (nI y))] dX9_askCaches_3 rfl (by decide) rfl ?_
  refine j_loop (σ := Nat) (fun i => i ≤ 8) (fun i => 8 - i) (fun i => [(3, .int (nI i)), (2, .int (mskC Z (nI y) i)), (0, .ref (ad 0)), (1, .int (nI y))]) (fun i => dW ay ad (askC Z (nI y) i)) 0 (Nat.zero_le _) rfl rfl (fun i hi ih => ?_)
  refine j_iload_n F 0 dX9_askCaches_4 rfl ?_
  refine j_bipush F (v := 8) dX9_askCaches_5 (by decide) ?_
  refine j_icmp_ge F 35 dX9_askCaches_7 (by decide) (fun c_7 => ?_) (fun c_7 => ?_)
  · skip
    have n_7 := (n_le 8 i rfl rfl (by omega) (by omega)).mp c_7
    obtain rfl : i = 8 := by omega
    obtain ⟨e1, e2, e3, e4, e5⟩ := askC_8 Z (nI y)
    refine j_aload_n F 2 dX9_askCaches_35 rfl ?_
    refine j_getf F fX9_30 0 rfl rfl dX9_askCaches_36 ?_
    refine j_iload_n F 3 dX9_askCaches_39 rfl ?_
    refine j_scallV F kX9_286 (As := [.int (nI y)]) (rest := []) (c_X5_note l D ay (ad 36) (ad 37) (ad 38) (ad 39) (ad 40) ((askC Z (nI y) 8).1 14) ((askC Z (nI y) 8).2.2 12) ((askC Z (nI y) 8).2.2 13) ((askC Z (nI y) 8).1 10) ((askC Z (nI y) 8).2.2 14) (nI y) (by rw [e1]; exact hc) (by rw [e2]; exact hA.2.1.1) (by rw [e2, e5]; exact hA.2.1.q hy)) 36 36 5 rfl rfl rfl rfl rfl rfl ⟨Nat.le_of_ble_eq_true rfl, Nat.le_of_ble_eq_true rfl⟩ dX9_askCaches_40 (fun v w hw => ?_)
    obtain ⟨rfl, rfl⟩ := hw
    refine ⟨rfl, (dW ay ad (lU (askC Z (nI y) 8) (((askC Z (nI y) 8).1 14) + 1) (upd ((askC Z (nI y) 8).2.2 12) ((askC Z (nI y) 8).1 14) (nI y)) (upd ((askC Z (nI y) 8).2.2 13) ((askC Z (nI y) 8).1 14) (dsI ((askC Z (nI y) 8).2.2 14) ((askC Z (nI y) 8).1 10) (nI y))) (usN ((askC Z (nI y) 8).2.2 14) ((askC Z (nI y) 8).1 10) (nI y)) (usF ((askC Z (nI y) 8).2.2 14) ((askC Z (nI y) 8).1 10) (nI y)))), dW_l ay ad (askC Z (nI y) 8) .., ?_⟩
    refine j_iload_n F 1 dX9_askCaches_43 rfl ?_
    exact j_iret F ⟨rfl, by rw [e1, e2, e3, e4, e5]; rfl⟩ dX9_askCaches_44 (Nat.le_of_ble_eq_true rfl) (Nat.le_of_ble_eq_true rfl)
  · skip
    have n_7 := mt (n_le 8 i rfl rfl (by omega) (by omega)).mpr c_7
    have h8 : i < 8 := by omega
    have hk := askC_k (key := nI y) hA h8
    refine j_aload_n F 2 dX9_askCaches_10 rfl ?_
    refine j_getf F fX9_23 0 rfl rfl dX9_askCaches_11 ?_
    refine j_iload_n F 0 dX9_askCaches_14 rfl ?_
    refine j_aald F 11 i (ad (12 + 3 * i)) rfl rfl h8 (Nat.le_of_ble_eq_true rfl) rfl dX9_askCaches_15 ?_
    refine j_iload_n F 3 dX9_askCaches_16 rfl ?_
    refine j_ws (slp (12 + 3 * i) 3 (dW ay ad (askC Z (nI y) i)) [(ad (12 + 3 * i), .inr (0, [.ref (ad (13 + 3 * i)), .int (nI (i + 1)), .int ((askC Z (nI y) i).2.1 (11 + i))])), (ad (13 + 3 * i), .inr (8, [.ref (ad (14 + 3 * i)), .int (nI ((askC Z (nI y) i).1 (2 + i)))])), (ad (14 + 3 * i), .inl (ay 0, 100, .inl ((askC Z (nI y) i).2.2 (4 + i))))]) (dW_co ay ad (askC Z (nI y) i) h8).symm ?_
    refine j_ocallV F (dW_ch ay ad (askC Z (nI y) i) h8) kX9_283 (As := [.int (nI y)]) (rest := []) (c_X0_ask l D ay (ad (12 + 3 * i)) (ad (13 + 3 * i)) (ad (14 + 3 * i)) (i + 1) ((askC Z (nI y) i).2.1 (11 + i)) ((askC Z (nI y) i).1 (2 + i)) ((askC Z (nI y) i).2.2 (4 + i)) (nI y) hk.1 (hk.q hy) (by omega)) 0 0 3 rfl rfl rfl rfl rfl rfl rfl rfl rfl ⟨Nat.le_of_ble_eq_true rfl, Nat.le_of_ble_eq_true rfl⟩ dX9_askCaches_17 (fun v w hw => ?_)
    obtain ⟨rfl, rfl⟩ := hw
    refine ⟨rfl, [(ad (12 + 3 * i), .inr (0, [.ref (ad (13 + 3 * i)), .int (nI (i + 1)), .int (if fx ((askC Z (nI y) i).2.2 (4 + i)) (nI y) ((askC Z (nI y) i).1 (2 + i)) < ((askC Z (nI y) i).1 (2 + i)) then ((askC Z (nI y) i).2.1 (11 + i)) + 1 else ((askC Z (nI y) i).2.1 (11 + i)))])), (ad (13 + 3 * i), .inr (8, [.ref (ad (14 + 3 * i)), .int (nI (stN ((askC Z (nI y) i).2.2 (4 + i)) ((askC Z (nI y) i).1 (2 + i)) (nI y) (i + 1)))])), (ad (14 + 3 * i), .inl (ay 0, 100, .inl (stF ((askC Z (nI y) i).2.2 (4 + i)) ((askC Z (nI y) i).1 (2 + i)) (nI y) (i + 1))))], rfl, ?_⟩
    refine j_ws (dW ay ad (askC Z (nI y) (i + 1))) (dW_cc ay ad (askC Z (nI y) i) h8 ..) ?_
    by_cases hf : fx ((askC Z (nI y) i).2.2 (4 + i)) (nI y) ((askC Z (nI y) i).1 (2 + i)) < (askC Z (nI y) i).1 (2 + i)
    · skip
      refine j_top 1 (if_pos hf) ?_
      refine j_if_eq F 29 dX9_askCaches_20 (by decide) (fun c_20 => absurd c_20 (by decide)) (fun c_20 => ?_)
      refine j_iload_n F 1 dX9_askCaches_23 rfl ?_
      refine j_iconst F (v := 1) dX9_askCaches_24 (by decide) ?_
      refine j_iload_n F 0 dX9_askCaches_25 rfl ?_
      refine j_ishl F dX9_askCaches_26 ?_
      refine j_ior F dX9_askCaches_27 ?_
      refine j_istore_n F 2 [(2, .int (mskC Z (nI y) i ||| (1 <<< (nI i &&& 31)))), (3, .int (nI i)), (0, .ref (ad 0)), (1, .int (nI y))] dX9_askCaches_28 rfl (by decide) rfl ?_
      refine j_iinc F 1 (nI (i + 1)) [(3, .int (nI (i + 1))), (2, .int (mskC Z (nI y) i ||| (1 <<< (nI i &&& 31)))), (0, .ref (ad 0)), (1, .int (nI y))] dX9_askCaches_29 rfl (nI_1 _) (by decide) rfl ?_
      refine j_goto F 4 dX9_askCaches_32 (by decide) ?_
      have hcb : (mskC Z (nI y) i ||| 1 <<< (nI i &&& 31)) = mskC Z (nI y) (i + 1) := (if_pos hf).symm
      rw [hcb]
      refine j_sub [0, 1, 2, 3] [(3, .int (nI (i + 1))), (2, .int (mskC Z (nI y) (i + 1))), (0, .ref (ad 0)), (1, .int (nI y))] rfl ?_
      exact ih (i + 1) (by omega) (by show 8 - (i + 1) < 8 - i; omega)
    · skip
      refine j_top 0 (if_neg hf) ?_
      refine j_if_eq F 29 dX9_askCaches_20 (by decide) (fun c_20 => ?_) (fun c_20 => absurd (by decide) c_20)
      refine j_iinc F 0 (nI (i + 1)) [(3, .int (nI (i + 1))), (2, .int (mskC Z (nI y) i)), (0, .ref (ad 0)), (1, .int (nI y))] dX9_askCaches_29 rfl (nI_1 _) (by decide) rfl ?_
      refine j_goto F 4 dX9_askCaches_32 (by decide) ?_
      have hcb : mskC Z (nI y) i = mskC Z (nI y) (i + 1) := (if_neg hf).symm
      rw [hcb]
      refine j_sub [0, 1, 2, 3] [(3, .int (nI (i + 1))), (2, .int (mskC Z (nI y) (i + 1))), (0, .ref (ad 0)), (1, .int (nI y))] rfl ?_
      exact ih (i + 1) (by omega) (by show 8 - (i + 1) < 8 - i; omega)

set_option maxHeartbeats 4000000 in
set_option maxRecDepth 100000 in
theorem c_X9_request (l : Launch) (hfl : l.stackTraces = false) (D : va_G) (ay : Nat → ClassId) (sa : Nat → Nat) (ad : Nat → Nat) (Z : DS) (ky : Int32) (hA : aI Z) : jMx l yX9_request (jws yX9_request cX9_request 2 (some .int)) 8 142 3 18 D ay sa [.ref (ad 0), .int ky] (dW ay ad Z) (fun v w => ∃ (y : Nat), y < 100 ∧ ky = nI y ∧ Z.1 14 < 1000 ∧ v = some (.int (mskC Z (nI y) 8)) ∧ w = (dW ay ad (askS Z (nI y)))) (fun E w => (E = eIA ∧ (oob ky 0 99) ∧ w = (dW ay ad Z)) ∨ (E = eIS ∧ (∃ y, y < 100 ∧ ky = nI y ∧ 1000 ≤ Z.1 14) ∧ w = (dW ay ad Z))) := by
  refine jMx_of l hfl (by decide) [(0, .ref (ad 0)), (1, .int ky)] rfl rfl (fun p9 e9 s9 m9 a9 b9 me9 c9 A9 F hX hT => ?_)
  refine j_iload_n F 1 dX9_request_0 rfl ?_
  refine j_excallS F hX hT kX9_57 (As := [.int ky]) (rest := []) (c_X9_requireKey l hfl D ay sa ky) rfl rfl rfl rfl ⟨Nat.le_of_ble_eq_true rfl, Nat.le_of_ble_eq_true rfl⟩ dX9_request_1 ⟨Nat.le_of_ble_eq_true rfl, Nat.le_of_ble_eq_true rfl⟩ (fun E w h => ⟨h.2.2, Or.inl ⟨h.1, h.2.1, rfl⟩⟩) (fun v w hw => ?_)
  obtain ⟨y_1, h1_0, rfl, rfl, rfl⟩ := hw
  refine ⟨rfl, ?_⟩
  refine j_aload_n F 0 dX9_request_4 rfl ?_
  refine j_getf F fX9_30 0 rfl rfl dX9_request_5 ?_
  refine j_scallV F kX9_168 (As := []) (rest := []) (c_X5_length l D ay (ad 36) (ad 37) (ad 38) (ad 39) (ad 40) (Z.1 14) (Z.2.2 12) (Z.2.2 13) (Z.1 10) (Z.2.2 14)) 36 36 5 rfl rfl rfl rfl rfl rfl ⟨Nat.le_of_ble_eq_true rfl, Nat.le_of_ble_eq_true rfl⟩ dX9_request_8 (fun v w hw => ?_)
  obtain ⟨rfl, rfl⟩ := hw
  refine ⟨rfl, (dW ay ad Z), rfl, ?_⟩
  have hl := hA.2.2
  refine j_sipush F (v := 1000) dX9_request_11 (by decide) ?_
  refine j_icmp_lt F 27 dX9_request_14 (by decide) (fun c_14 => ?_) (fun c_14 => ?_)
  · skip
    have n_14 := (n_lt (Z.1 14) 1000 rfl rfl (by omega) (by omega)).mp c_14
    refine j_aload_n F 0 dX9_request_27 rfl ?_
    refine j_iload_n F 1 dX9_request_28 rfl ?_
    refine j_scallV F kX9_171 (As := [.int (nI y_1)]) (rest := []) (c_X9_askCaches l D ay ad Z y_1 h1_0 hA (by omega)) 0 0 55 rfl rfl rfl rfl rfl rfl ⟨Nat.le_of_ble_eq_true rfl, Nat.le_of_ble_eq_true rfl⟩ dX9_request_29 (fun v w hw => ?_)
    obtain ⟨rfl, rfl⟩ := hw
    refine ⟨rfl, (dW ay ad (askS Z (nI y_1))), slp_all _ _ rfl, ?_⟩
    exact j_xr (j_iret F ⟨y_1, h1_0, rfl, by omega, rfl, rfl⟩ dX9_request_32 (Nat.le_of_ble_eq_true rfl) (Nat.le_of_ble_eq_true rfl))
  · skip
    have n_14 := mt (n_lt (Z.1 14) 1000 rfl rfl (by omega) (by omega)).mpr c_14
    exact j_throw F hfl hX hT (E := eIS) (text := "the record is full") (names := ["java/lang/RuntimeException", "java/lang/Exception"]) (ik := 142) (is := 169) (ic := 146) (a9 := sa 3) rfl (by decide) gk_IS gi_IS hX.2.2.1.2.2.2.1 gx_IS gb_IS hX.2.2.2.2.2.2.2.1 go_IS dX9_request_17 dX9_request_20 dX9_request_21 dX9_request_23 dX9_request_26 ⟨Nat.le_of_ble_eq_true rfl, Nat.le_of_ble_eq_true rfl, Nat.le_of_ble_eq_true rfl, Nat.le_of_ble_eq_true rfl⟩ ⟨Nat.le_of_ble_eq_true rfl, Nat.le_of_ble_eq_true rfl⟩ (Or.inr ⟨rfl, ⟨y_1, h1_0, rfl, by omega⟩, rfl⟩)

set_option maxHeartbeats 4000000 in
set_option maxRecDepth 100000 in
theorem c_X9_clearCaches (l : Launch) (D : va_G) (ay : Nat → ClassId) (ad : Nat → Nat) (Z : DS) : jM l yX9_clearCaches (jws yX9_clearCaches cX9_clearCaches 3 (some .int)) 2 40 0 0 D ay [.ref (ad 0)] (dW ay ad Z) (fun v w => v = some (.int (nI (Z.1 14))) ∧ w = (dW ay ad (lU (clrC Z 8) 0 (Z.2.2 12) (Z.2.2 13) 0 (Z.2.2 14)))) := by
  refine jM_of l (by decide) [(0, .ref (ad 0))] rfl rfl (fun p9 e9 s9 m9 a9 b9 me9 c9 A9 F => ?_)
  refine j_aload_n F 0 dX9_clearCaches_0 rfl ?_
  refine j_getf F fX9_30 0 rfl rfl dX9_clearCaches_1 ?_
  refine j_scallV F kX9_168 (As := []) (rest := []) (c_X5_length l D ay (ad 36) (ad 37) (ad 38) (ad 39) (ad 40) (Z.1 14) (Z.2.2 12) (Z.2.2 13) (Z.1 10) (Z.2.2 14)) 36 36 5 rfl rfl rfl rfl rfl rfl ⟨Nat.le_of_ble_eq_true rfl, Nat.le_of_ble_eq_true rfl⟩ dX9_clearCaches_4 (fun v w hw => ?_)
  obtain ⟨rfl, rfl⟩ := hw
  refine ⟨rfl, (dW ay ad Z), rfl, ?_⟩
  refine j_istore_n F 1 [(1, .int (nI (Z.1 14))), (0, .ref (ad 0))] dX9_clearCaches_7 rfl (by decide) rfl ?_
  refine j_iconst F (v := 0) dX9_clearCaches_8 (by decide) ?_
  refine j_istore_n F 2 [(2, .int 0), (1, .int (nI (Z.1 14))), (0, .ref (ad 0))] dX9_clearCaches_9 rfl (by decide) rfl ?_
  refine j_loop (σ := Nat) (fun i => i ≤ 8) (fun i => 8 - i) (fun i => [(2, .int (nI i)), (1, .int (nI (Z.1 14))), (0, .ref (ad 0))]) (fun i => dW ay ad (clrC Z i)) 0 (Nat.zero_le _) rfl rfl (fun i hi ih => ?_)
  refine j_iload_n F 0 dX9_clearCaches_10 rfl ?_
  refine j_bipush F (v := 8) dX9_clearCaches_11 (by decide) ?_
  refine j_icmp_ge F 31 dX9_clearCaches_13 (by decide) (fun c_13 => ?_) (fun c_13 => ?_)
  · skip
    have n_13 := (n_le 8 i rfl rfl (by omega) (by omega)).mp c_13
    obtain rfl : i = 8 := by omega
    obtain ⟨-, -, e3⟩ := clrC_fr Z 8 (Nat.le_refl _)
    refine j_aload_n F 2 dX9_clearCaches_31 rfl ?_
    refine j_getf F fX9_30 0 rfl rfl dX9_clearCaches_32 ?_
    refine j_scallV F kX9_177 (As := []) (rest := []) (c_X5_restart l D ay (ad 36) (ad 37) (ad 38) (ad 39) (ad 40) ((clrC Z 8).1 14) ((clrC Z 8).2.2 12) ((clrC Z 8).2.2 13) ((clrC Z 8).1 10) ((clrC Z 8).2.2 14)) 36 36 5 rfl rfl rfl rfl rfl rfl ⟨Nat.le_of_ble_eq_true rfl, Nat.le_of_ble_eq_true rfl⟩ dX9_clearCaches_35 (fun v w hw => ?_)
    obtain ⟨rfl, rfl⟩ := hw
    refine ⟨rfl, (dW ay ad (lU (clrC Z 8) 0 ((clrC Z 8).2.2 12) ((clrC Z 8).2.2 13) 0 ((clrC Z 8).2.2 14))), dW_l ay ad (clrC Z 8) .., ?_⟩
    refine j_iload_n F 1 dX9_clearCaches_38 rfl ?_
    exact j_iret F ⟨rfl, by rw [e3, e3, e3]⟩ dX9_clearCaches_39 (Nat.le_of_ble_eq_true rfl) (Nat.le_of_ble_eq_true rfl)
  · skip
    have n_13 := mt (n_le 8 i rfl rfl (by omega) (by omega)).mpr c_13
    have h8 : i < 8 := by omega
    refine j_aload_n F 2 dX9_clearCaches_16 rfl ?_
    refine j_getf F fX9_23 0 rfl rfl dX9_clearCaches_17 ?_
    refine j_iload_n F 0 dX9_clearCaches_20 rfl ?_
    refine j_aald F 11 i (ad (12 + 3 * i)) rfl rfl h8 (Nat.le_of_ble_eq_true rfl) rfl dX9_clearCaches_21 ?_
    refine j_ws (slp (12 + 3 * i) 3 (dW ay ad (clrC Z i)) [(ad (12 + 3 * i), .inr (0, [.ref (ad (13 + 3 * i)), .int (nI (i + 1)), .int ((clrC Z i).2.1 (11 + i))])), (ad (13 + 3 * i), .inr (8, [.ref (ad (14 + 3 * i)), .int (nI ((clrC Z i).1 (2 + i)))])), (ad (14 + 3 * i), .inl (ay 0, 100, .inl ((clrC Z i).2.2 (4 + i))))]) (dW_co ay ad (clrC Z i) h8).symm ?_
    refine j_ocallV F (dW_ch ay ad (clrC Z i) h8) kX9_174 (As := []) (rest := []) (c_X0_restart l D ay (ad (12 + 3 * i)) (ad (13 + 3 * i)) (ad (14 + 3 * i)) (i + 1) ((clrC Z i).2.1 (11 + i)) ((clrC Z i).1 (2 + i)) ((clrC Z i).2.2 (4 + i))) 0 0 3 rfl rfl rfl rfl rfl rfl rfl rfl rfl ⟨Nat.le_of_ble_eq_true rfl, Nat.le_of_ble_eq_true rfl⟩ dX9_clearCaches_22 (fun v w hw => ?_)
    obtain ⟨rfl, rfl⟩ := hw
    refine ⟨rfl, [(ad (12 + 3 * i), .inr (0, [.ref (ad (13 + 3 * i)), .int (nI (i + 1)), .int 0])), (ad (13 + 3 * i), .inr (8, [.ref (ad (14 + 3 * i)), .int (nI 0)])), (ad (14 + 3 * i), .inl (ay 0, 100, .inl ((clrC Z i).2.2 (4 + i))))], rfl, ?_⟩
    refine j_ws (dW ay ad (clrC Z (i + 1))) (dW_cc ay ad (clrC Z i) h8 ..) ?_
    refine j_iinc F 0 (nI (i + 1)) [(2, .int (nI (i + 1))), (1, .int (nI (Z.1 14))), (0, .ref (ad 0))] dX9_clearCaches_25 rfl (nI_1 _) (by decide) rfl ?_
    refine j_goto F 10 dX9_clearCaches_28 (by decide) ?_
    exact ih (i + 1) (by omega) (by show 8 - (i + 1) < 8 - i; omega)

set_option maxHeartbeats 4000000 in
set_option maxRecDepth 100000 in
theorem c_X9_hits (l : Launch) (hfl : l.stackTraces = false) (D : va_G) (ay : Nat → ClassId) (sa : Nat → Nat) (ad : Nat → Nat) (Z : DS) (cx : Int32) : jMx l yX9_hits (jws yX9_hits cX9_hits 2 (some .int)) 8 143 3 18 D ay sa [.ref (ad 0), .int cx] (dW ay ad Z) (fun v w => ∃ (i : Nat), i < 8 ∧ cx = nI (i + 1) ∧ v = some (.int (Z.2.1 (11 + i))) ∧ w = (dW ay ad Z)) (fun E w => (E = eIA ∧ (oob cx 1 8) ∧ w = (dW ay ad Z))) := by
  refine jMx_of l hfl (by decide) [(0, .ref (ad 0)), (1, .int cx)] rfl rfl (fun p9 e9 s9 m9 a9 b9 me9 c9 A9 F hX hT => ?_)
  refine j_aload_n F 0 dX9_hits_0 rfl ?_
  refine j_iload_n F 1 dX9_hits_1 rfl ?_
  refine j_sxcallV F hX hT kX9_178 (As := [.int cx]) (rest := []) (c_X9_chosenCache l hfl D ay sa ad Z cx) 0 0 55 rfl rfl rfl rfl rfl rfl ⟨Nat.le_of_ble_eq_true rfl, Nat.le_of_ble_eq_true rfl⟩ dX9_hits_2 ⟨Nat.le_of_ble_eq_true rfl, Nat.le_of_ble_eq_true rfl⟩ (fun E w h => ⟨h.2.2, ⟨h.1, h.2.1, rfl⟩⟩) (fun v w hw => ?_)
  obtain ⟨i_2, h2_0, rfl, rfl, rfl⟩ := hw
  refine ⟨rfl, (dW ay ad Z), slp_all _ _ rfl, ?_⟩
  refine j_ws (slp (12 + 3 * i_2) 3 (dW ay ad Z) [(ad (12 + 3 * i_2), .inr (0, [.ref (ad (13 + 3 * i_2)), .int (nI (i_2 + 1)), .int (Z.2.1 (11 + i_2))])), (ad (13 + 3 * i_2), .inr (8, [.ref (ad (14 + 3 * i_2)), .int (nI (Z.1 (2 + i_2)))])), (ad (14 + 3 * i_2), .inl (ay 0, 100, .inl (Z.2.2 (4 + i_2))))]) (dW_co ay ad Z h2_0).symm ?_
  refine j_ocallV F (dW_ch ay ad Z h2_0) kX9_182 (As := []) (rest := []) (c_X0_hitCount l D ay (ad (12 + 3 * i_2)) (ad (13 + 3 * i_2)) (ad (14 + 3 * i_2)) (i_2 + 1) (Z.2.1 (11 + i_2)) (Z.1 (2 + i_2)) (Z.2.2 (4 + i_2))) 0 0 3 rfl rfl rfl rfl rfl rfl rfl rfl rfl ⟨Nat.le_of_ble_eq_true rfl, Nat.le_of_ble_eq_true rfl⟩ dX9_hits_5 (fun v w hw => ?_)
  obtain ⟨rfl, rfl⟩ := hw
  refine ⟨rfl, [(ad (12 + 3 * i_2), .inr (0, [.ref (ad (13 + 3 * i_2)), .int (nI (i_2 + 1)), .int (Z.2.1 (11 + i_2))])), (ad (13 + 3 * i_2), .inr (8, [.ref (ad (14 + 3 * i_2)), .int (nI (Z.1 (2 + i_2)))])), (ad (14 + 3 * i_2), .inl (ay 0, 100, .inl (Z.2.2 (4 + i_2))))], rfl, ?_⟩
  exact j_xr (j_iret F ⟨i_2, h2_0, rfl, rfl, dW_co ay ad Z h2_0⟩ dX9_hits_8 (Nat.le_of_ble_eq_true rfl) (Nat.le_of_ble_eq_true rfl))

set_option maxHeartbeats 4000000 in
set_option maxRecDepth 100000 in
theorem c_X9_cached (l : Launch) (hfl : l.stackTraces = false) (D : va_G) (ay : Nat → ClassId) (sa : Nat → Nat) (ad : Nat → Nat) (Z : DS) (cx : Int32) : jMx l yX9_cached (jws yX9_cached cX9_cached 2 (some .int)) 8 143 3 18 D ay sa [.ref (ad 0), .int cx] (dW ay ad Z) (fun v w => ∃ (i : Nat), i < 8 ∧ cx = nI (i + 1) ∧ v = some (.int (nI (Z.1 (2 + i)))) ∧ w = (dW ay ad Z)) (fun E w => (E = eIA ∧ (oob cx 1 8) ∧ w = (dW ay ad Z))) := by
  refine jMx_of l hfl (by decide) [(0, .ref (ad 0)), (1, .int cx)] rfl rfl (fun p9 e9 s9 m9 a9 b9 me9 c9 A9 F hX hT => ?_)
  refine j_aload_n F 0 dX9_cached_0 rfl ?_
  refine j_iload_n F 1 dX9_cached_1 rfl ?_
  refine j_sxcallV F hX hT kX9_178 (As := [.int cx]) (rest := []) (c_X9_chosenCache l hfl D ay sa ad Z cx) 0 0 55 rfl rfl rfl rfl rfl rfl ⟨Nat.le_of_ble_eq_true rfl, Nat.le_of_ble_eq_true rfl⟩ dX9_cached_2 ⟨Nat.le_of_ble_eq_true rfl, Nat.le_of_ble_eq_true rfl⟩ (fun E w h => ⟨h.2.2, ⟨h.1, h.2.1, rfl⟩⟩) (fun v w hw => ?_)
  obtain ⟨i_2, h2_0, rfl, rfl, rfl⟩ := hw
  refine ⟨rfl, (dW ay ad Z), slp_all _ _ rfl, ?_⟩
  refine j_ws (slp (12 + 3 * i_2) 3 (dW ay ad Z) [(ad (12 + 3 * i_2), .inr (0, [.ref (ad (13 + 3 * i_2)), .int (nI (i_2 + 1)), .int (Z.2.1 (11 + i_2))])), (ad (13 + 3 * i_2), .inr (8, [.ref (ad (14 + 3 * i_2)), .int (nI (Z.1 (2 + i_2)))])), (ad (14 + 3 * i_2), .inl (ay 0, 100, .inl (Z.2.2 (4 + i_2))))]) (dW_co ay ad Z h2_0).symm ?_
  refine j_ocallV F (dW_ch ay ad Z h2_0) kX9_185 (As := []) (rest := []) (c_X0_keys l D ay (ad (12 + 3 * i_2)) (ad (13 + 3 * i_2)) (ad (14 + 3 * i_2)) (i_2 + 1) (Z.2.1 (11 + i_2)) (Z.1 (2 + i_2)) (Z.2.2 (4 + i_2))) 0 0 3 rfl rfl rfl rfl rfl rfl rfl rfl rfl ⟨Nat.le_of_ble_eq_true rfl, Nat.le_of_ble_eq_true rfl⟩ dX9_cached_5 (fun v w hw => ?_)
  obtain ⟨rfl, rfl⟩ := hw
  refine ⟨rfl, [(ad (12 + 3 * i_2), .inr (0, [.ref (ad (13 + 3 * i_2)), .int (nI (i_2 + 1)), .int (Z.2.1 (11 + i_2))])), (ad (13 + 3 * i_2), .inr (8, [.ref (ad (14 + 3 * i_2)), .int (nI (Z.1 (2 + i_2)))])), (ad (14 + 3 * i_2), .inl (ay 0, 100, .inl (Z.2.2 (4 + i_2))))], rfl, ?_⟩
  refine j_ocallV F (dW_ch ay ad Z h2_0) kX9_99 (As := []) (rest := []) (c_X8_length l D ay (ad (13 + 3 * i_2)) (ad (14 + 3 * i_2)) (Z.1 (2 + i_2)) (Z.2.2 (4 + i_2))) 1 1 2 rfl rfl rfl rfl rfl rfl rfl rfl rfl ⟨Nat.le_of_ble_eq_true rfl, Nat.le_of_ble_eq_true rfl⟩ dX9_cached_8 (fun v w hw => ?_)
  obtain ⟨rfl, rfl⟩ := hw
  refine ⟨rfl, [(ad (12 + 3 * i_2), .inr (0, [.ref (ad (13 + 3 * i_2)), .int (nI (i_2 + 1)), .int (Z.2.1 (11 + i_2))])), (ad (13 + 3 * i_2), .inr (8, [.ref (ad (14 + 3 * i_2)), .int (nI (Z.1 (2 + i_2)))])), (ad (14 + 3 * i_2), .inl (ay 0, 100, .inl (Z.2.2 (4 + i_2))))], rfl, ?_⟩
  exact j_xr (j_iret F ⟨i_2, h2_0, rfl, rfl, dW_co ay ad Z h2_0⟩ dX9_cached_11 (Nat.le_of_ble_eq_true rfl) (Nat.le_of_ble_eq_true rfl))

set_option maxHeartbeats 4000000 in
set_option maxRecDepth 100000 in
theorem c_X9_isCached (l : Launch) (hfl : l.stackTraces = false) (D : va_G) (ay : Nat → ClassId) (sa : Nat → Nat) (ad : Nat → Nat) (Z : DS) (cx : Int32) (ky : Int32) (hA : aI Z) : jMx l yX9_isCached (jws yX9_isCached cX9_isCached 4 (some .boolean)) 8 143 3 18 D ay sa [.ref (ad 0), .int cx, .int ky] (dW ay ad Z) (fun v w => ∃ (i : Nat), ∃ (y : Nat), i < 8 ∧ y < 100 ∧ cx = nI (i + 1) ∧ ky = nI y ∧ v = some (.int (if fx (Z.2.2 (4 + i)) (nI y) (Z.1 (2 + i)) < Z.1 (2 + i) then 1 else 0)) ∧ w = (dW ay ad Z)) (fun E w => (E = eIA ∧ (oob cx 1 8 ∨ oob ky 0 99) ∧ w = (dW ay ad Z))) := by
  refine jMx_of l hfl (by decide) [(0, .ref (ad 0)), (1, .int cx), (2, .int ky)] rfl rfl (fun p9 e9 s9 m9 a9 b9 me9 c9 A9 F hX hT => ?_)
  refine j_aload_n F 0 dX9_isCached_0 rfl ?_
  refine j_iload_n F 1 dX9_isCached_1 rfl ?_
  refine j_sxcallV F hX hT kX9_178 (As := [.int cx]) (rest := []) (c_X9_chosenCache l hfl D ay sa ad Z cx) 0 0 55 rfl rfl rfl rfl rfl rfl ⟨Nat.le_of_ble_eq_true rfl, Nat.le_of_ble_eq_true rfl⟩ dX9_isCached_2 ⟨Nat.le_of_ble_eq_true rfl, Nat.le_of_ble_eq_true rfl⟩ (fun E w h => ⟨h.2.2, ⟨h.1, Or.inl h.2.1, rfl⟩⟩) (fun v w hw => ?_)
  obtain ⟨i_2, h2_0, rfl, rfl, rfl⟩ := hw
  refine ⟨rfl, (dW ay ad Z), slp_all _ _ rfl, ?_⟩
  refine j_astore_n F 3 [(3, .ref (ad (12 + 3 * i_2))), (0, .ref (ad 0)), (1, .int (nI (i_2 + 1))), (2, .int ky)] dX9_isCached_5 rfl (by decide) rfl ?_
  refine j_iload_n F 3 dX9_isCached_6 rfl ?_
  refine j_excallS F hX hT kX9_57 (As := [.int ky]) (rest := []) (c_X9_requireKey l hfl D ay sa ky) rfl rfl rfl rfl ⟨Nat.le_of_ble_eq_true rfl, Nat.le_of_ble_eq_true rfl⟩ dX9_isCached_7 ⟨Nat.le_of_ble_eq_true rfl, Nat.le_of_ble_eq_true rfl⟩ (fun E w h => ⟨h.2.2, ⟨h.1, Or.inr h.2.1, rfl⟩⟩) (fun v w hw => ?_)
  obtain ⟨y_7, h7_0, rfl, rfl, rfl⟩ := hw
  refine ⟨rfl, ?_⟩
  refine j_aload_n F 0 dX9_isCached_10 rfl ?_
  refine j_ws (slp (12 + 3 * i_2) 3 (dW ay ad Z) [(ad (12 + 3 * i_2), .inr (0, [.ref (ad (13 + 3 * i_2)), .int (nI (i_2 + 1)), .int (Z.2.1 (11 + i_2))])), (ad (13 + 3 * i_2), .inr (8, [.ref (ad (14 + 3 * i_2)), .int (nI (Z.1 (2 + i_2)))])), (ad (14 + 3 * i_2), .inl (ay 0, 100, .inl (Z.2.2 (4 + i_2))))]) (dW_co ay ad Z h2_0).symm ?_
  refine j_ocallV F (dW_ch ay ad Z h2_0) kX9_185 (As := []) (rest := []) (c_X0_keys l D ay (ad (12 + 3 * i_2)) (ad (13 + 3 * i_2)) (ad (14 + 3 * i_2)) (i_2 + 1) (Z.2.1 (11 + i_2)) (Z.1 (2 + i_2)) (Z.2.2 (4 + i_2))) 0 0 3 rfl rfl rfl rfl rfl rfl rfl rfl rfl ⟨Nat.le_of_ble_eq_true rfl, Nat.le_of_ble_eq_true rfl⟩ dX9_isCached_11 (fun v w hw => ?_)
  obtain ⟨rfl, rfl⟩ := hw
  refine ⟨rfl, [(ad (12 + 3 * i_2), .inr (0, [.ref (ad (13 + 3 * i_2)), .int (nI (i_2 + 1)), .int (Z.2.1 (11 + i_2))])), (ad (13 + 3 * i_2), .inr (8, [.ref (ad (14 + 3 * i_2)), .int (nI (Z.1 (2 + i_2)))])), (ad (14 + 3 * i_2), .inl (ay 0, 100, .inl (Z.2.2 (4 + i_2))))], rfl, ?_⟩
  refine j_iload_n F 3 dX9_isCached_14 rfl ?_
  refine j_ocallV F (dW_ch ay ad Z h2_0) kX9_186 (As := [.int (nI y_7)]) (rest := []) (c_X8_holds l D ay (ad (13 + 3 * i_2)) (ad (14 + 3 * i_2)) (Z.1 (2 + i_2)) (Z.2.2 (4 + i_2)) (nI y_7) (hA.1 i_2 h2_0).1) 1 1 2 rfl rfl rfl rfl rfl rfl rfl rfl rfl ⟨Nat.le_of_ble_eq_true rfl, Nat.le_of_ble_eq_true rfl⟩ dX9_isCached_15 (fun v w hw => ?_)
  obtain ⟨rfl, rfl⟩ := hw
  refine ⟨rfl, [(ad (12 + 3 * i_2), .inr (0, [.ref (ad (13 + 3 * i_2)), .int (nI (i_2 + 1)), .int (Z.2.1 (11 + i_2))])), (ad (13 + 3 * i_2), .inr (8, [.ref (ad (14 + 3 * i_2)), .int (nI (Z.1 (2 + i_2)))])), (ad (14 + 3 * i_2), .inl (ay 0, 100, .inl (Z.2.2 (4 + i_2))))], rfl, ?_⟩
  exact j_xr (j_zret F ite01 ⟨i_2, y_7, h2_0, h7_0, rfl, rfl, rfl, dW_co ay ad Z h2_0⟩ dX9_isCached_18 (Nat.le_of_ble_eq_true rfl) (Nat.le_of_ble_eq_true rfl))

set_option maxHeartbeats 4000000 in
set_option maxRecDepth 100000 in
theorem c_X9_cachedAt (l : Launch) (hfl : l.stackTraces = false) (D : va_G) (ay : Nat → ClassId) (sa : Nat → Nat) (ad : Nat → Nat) (Z : DS) (cx : Int32) (pc : Int32) (hA : aI Z) : jMx l yX9_cachedAt (jws yX9_cachedAt cX9_cachedAt 4 (some .int)) 8 143 3 18 D ay sa [.ref (ad 0), .int cx, .int pc] (dW ay ad Z) (fun v w => ∃ (i : Nat), ∃ (j : Nat), i < 8 ∧ j < Z.1 (2 + i) ∧ cx = nI (i + 1) ∧ pc = nI j ∧ v = some (.int (Z.2.2 (4 + i) j)) ∧ w = (dW ay ad Z)) (fun E w => (E = eIA ∧ (oob cx 1 8) ∧ w = (dW ay ad Z)) ∨ (E = eIO ∧ (∃ i, i < 8 ∧ cx = nI (i + 1) ∧ oop pc (Z.1 (2 + i))) ∧ w = (dW ay ad Z))) := by
  refine jMx_of l hfl (by decide) [(0, .ref (ad 0)), (1, .int cx), (2, .int pc)] rfl rfl (fun p9 e9 s9 m9 a9 b9 me9 c9 A9 F hX hT => ?_)
  refine j_aload_n F 0 dX9_cachedAt_0 rfl ?_
  refine j_iload_n F 1 dX9_cachedAt_1 rfl ?_
  refine j_sxcallV F hX hT kX9_178 (As := [.int cx]) (rest := []) (c_X9_chosenCache l hfl D ay sa ad Z cx) 0 0 55 rfl rfl rfl rfl rfl rfl ⟨Nat.le_of_ble_eq_true rfl, Nat.le_of_ble_eq_true rfl⟩ dX9_cachedAt_2 ⟨Nat.le_of_ble_eq_true rfl, Nat.le_of_ble_eq_true rfl⟩ (fun E w h => ⟨h.2.2, Or.inl ⟨h.1, h.2.1, rfl⟩⟩) (fun v w hw => ?_)
  obtain ⟨i_2, h2_0, rfl, rfl, rfl⟩ := hw
  refine ⟨rfl, (dW ay ad Z), slp_all _ _ rfl, ?_⟩
  have hk := hA.1 i_2 h2_0
  refine j_ws (slp (12 + 3 * i_2) 3 (dW ay ad Z) [(ad (12 + 3 * i_2), .inr (0, [.ref (ad (13 + 3 * i_2)), .int (nI (i_2 + 1)), .int (Z.2.1 (11 + i_2))])), (ad (13 + 3 * i_2), .inr (8, [.ref (ad (14 + 3 * i_2)), .int (nI (Z.1 (2 + i_2)))])), (ad (14 + 3 * i_2), .inl (ay 0, 100, .inl (Z.2.2 (4 + i_2))))]) (dW_co ay ad Z h2_0).symm ?_
  refine j_ocallV F (dW_ch ay ad Z h2_0) kX9_185 (As := []) (rest := []) (c_X0_keys l D ay (ad (12 + 3 * i_2)) (ad (13 + 3 * i_2)) (ad (14 + 3 * i_2)) (i_2 + 1) (Z.2.1 (11 + i_2)) (Z.1 (2 + i_2)) (Z.2.2 (4 + i_2))) 0 0 3 rfl rfl rfl rfl rfl rfl rfl rfl rfl ⟨Nat.le_of_ble_eq_true rfl, Nat.le_of_ble_eq_true rfl⟩ dX9_cachedAt_5 (fun v w hw => ?_)
  obtain ⟨rfl, rfl⟩ := hw
  refine ⟨rfl, [(ad (12 + 3 * i_2), .inr (0, [.ref (ad (13 + 3 * i_2)), .int (nI (i_2 + 1)), .int (Z.2.1 (11 + i_2))])), (ad (13 + 3 * i_2), .inr (8, [.ref (ad (14 + 3 * i_2)), .int (nI (Z.1 (2 + i_2)))])), (ad (14 + 3 * i_2), .inl (ay 0, 100, .inl (Z.2.2 (4 + i_2))))], rfl, ?_⟩
  refine j_astore_n F 3 [(3, .ref (ad (13 + 3 * i_2))), (0, .ref (ad 0)), (1, .int (nI (i_2 + 1))), (2, .int pc)] dX9_cachedAt_8 rfl (by decide) rfl ?_
  refine j_iload_n F 3 dX9_cachedAt_9 rfl ?_
  refine j_aload_n F 0 dX9_cachedAt_10 rfl ?_
  refine j_ocallV F (dW_ch ay ad Z h2_0) kX9_99 (As := []) (rest := [.int pc]) (c_X8_length l D ay (ad (13 + 3 * i_2)) (ad (14 + 3 * i_2)) (Z.1 (2 + i_2)) (Z.2.2 (4 + i_2))) 1 1 2 rfl rfl rfl rfl rfl rfl rfl rfl rfl ⟨Nat.le_of_ble_eq_true rfl, Nat.le_of_ble_eq_true rfl⟩ dX9_cachedAt_11 (fun v w hw => ?_)
  obtain ⟨rfl, rfl⟩ := hw
  refine ⟨rfl, [(ad (12 + 3 * i_2), .inr (0, [.ref (ad (13 + 3 * i_2)), .int (nI (i_2 + 1)), .int (Z.2.1 (11 + i_2))])), (ad (13 + 3 * i_2), .inr (8, [.ref (ad (14 + 3 * i_2)), .int (nI (Z.1 (2 + i_2)))])), (ad (14 + 3 * i_2), .inl (ay 0, 100, .inl (Z.2.2 (4 + i_2))))], rfl, ?_⟩
  refine j_ws (dW ay ad Z) (dW_co ay ad Z h2_0) ?_
  refine j_excallS F hX hT kX9_104 (As := [.int pc, .int (nI (Z.1 (2 + i_2)))]) (rest := []) (c_X9_requirePlace l hfl D ay sa pc (Z.1 (2 + i_2)) (by have := hk.1; omega)) rfl rfl rfl rfl ⟨Nat.le_of_ble_eq_true rfl, Nat.le_of_ble_eq_true rfl⟩ dX9_cachedAt_14 ⟨Nat.le_of_ble_eq_true rfl, Nat.le_of_ble_eq_true rfl⟩ (fun E w h => ⟨h.2.2, Or.inr (⟨h.1, ⟨i_2, h2_0, rfl, h.2.1⟩, rfl⟩)⟩) (fun v w hw => ?_)
  obtain ⟨j_14, h14_0, rfl, rfl, rfl⟩ := hw
  refine ⟨rfl, ?_⟩
  refine j_aload_n F 0 dX9_cachedAt_17 rfl ?_
  refine j_iload_n F 3 dX9_cachedAt_18 rfl ?_
  refine j_ws (slp (12 + 3 * i_2) 3 (dW ay ad Z) [(ad (12 + 3 * i_2), .inr (0, [.ref (ad (13 + 3 * i_2)), .int (nI (i_2 + 1)), .int (Z.2.1 (11 + i_2))])), (ad (13 + 3 * i_2), .inr (8, [.ref (ad (14 + 3 * i_2)), .int (nI (Z.1 (2 + i_2)))])), (ad (14 + 3 * i_2), .inl (ay 0, 100, .inl (Z.2.2 (4 + i_2))))]) (dW_co ay ad Z h2_0).symm ?_
  refine j_ocallV F (dW_ch ay ad Z h2_0) kX9_108 (As := [.int (nI j_14)]) (rest := []) (c_X8_keyIn l D ay (ad (13 + 3 * i_2)) (ad (14 + 3 * i_2)) (Z.1 (2 + i_2)) (Z.2.2 (4 + i_2)) j_14 hk.1 h14_0) 1 1 2 rfl rfl rfl rfl rfl rfl rfl rfl rfl ⟨Nat.le_of_ble_eq_true rfl, Nat.le_of_ble_eq_true rfl⟩ dX9_cachedAt_19 (fun v w hw => ?_)
  obtain ⟨rfl, rfl⟩ := hw
  refine ⟨rfl, [(ad (12 + 3 * i_2), .inr (0, [.ref (ad (13 + 3 * i_2)), .int (nI (i_2 + 1)), .int (Z.2.1 (11 + i_2))])), (ad (13 + 3 * i_2), .inr (8, [.ref (ad (14 + 3 * i_2)), .int (nI (Z.1 (2 + i_2)))])), (ad (14 + 3 * i_2), .inl (ay 0, 100, .inl (Z.2.2 (4 + i_2))))], rfl, ?_⟩
  exact j_xr (j_iret F ⟨i_2, j_14, h2_0, h14_0, rfl, rfl, rfl, dW_co ay ad Z h2_0⟩ dX9_cachedAt_22 (Nat.le_of_ble_eq_true rfl) (Nat.le_of_ble_eq_true rfl))

set_option maxHeartbeats 4000000 in
set_option maxRecDepth 100000 in
theorem c_X9_requests (l : Launch) (D : va_G) (ay : Nat → ClassId) (ad : Nat → Nat) (Z : DS) : jM l yX9_requests (jws yX9_requests cX9_requests 1 (some .int)) 1 20 0 0 D ay [.ref (ad 0)] (dW ay ad Z) (fun v w => v = some (.int (nI (Z.1 14))) ∧ w = (dW ay ad Z)) := by
  refine jM_of l (by decide) [(0, .ref (ad 0))] rfl rfl (fun p9 e9 s9 m9 a9 b9 me9 c9 A9 F => ?_)
  refine j_aload_n F 0 dX9_requests_0 rfl ?_
  refine j_getf F fX9_30 0 rfl rfl dX9_requests_1 ?_
  refine j_scallV F kX9_168 (As := []) (rest := []) (c_X5_length l D ay (ad 36) (ad 37) (ad 38) (ad 39) (ad 40) (Z.1 14) (Z.2.2 12) (Z.2.2 13) (Z.1 10) (Z.2.2 14)) 36 36 5 rfl rfl rfl rfl rfl rfl ⟨Nat.le_of_ble_eq_true rfl, Nat.le_of_ble_eq_true rfl⟩ dX9_requests_4 (fun v w hw => ?_)
  obtain ⟨rfl, rfl⟩ := hw
  refine ⟨rfl, (dW ay ad Z), rfl, ?_⟩
  exact j_iret F ⟨rfl, rfl⟩ dX9_requests_7 (Nat.le_of_ble_eq_true rfl) (Nat.le_of_ble_eq_true rfl)

set_option maxHeartbeats 4000000 in
set_option maxRecDepth 100000 in
theorem c_X9_requestAt (l : Launch) (hfl : l.stackTraces = false) (D : va_G) (ay : Nat → ClassId) (sa : Nat → Nat) (ad : Nat → Nat) (Z : DS) (pc : Int32) (hL : Z.1 14 ≤ 1000) : jMx l yX9_requestAt (jws yX9_requestAt cX9_requestAt 2 (some .int)) 7 121 3 18 D ay sa [.ref (ad 0), .int pc] (dW ay ad Z) (fun v w => ∃ (j : Nat), j < Z.1 14 ∧ pc = nI j ∧ v = some (.int (Z.2.2 12 j)) ∧ w = (dW ay ad Z)) (fun E w => (E = eIO ∧ (oop pc (Z.1 14)) ∧ w = (dW ay ad Z))) := by
  refine jMx_of l hfl (by decide) [(0, .ref (ad 0)), (1, .int pc)] rfl rfl (fun p9 e9 s9 m9 a9 b9 me9 c9 A9 F hX hT => ?_)
  refine j_iload_n F 1 dX9_requestAt_0 rfl ?_
  refine j_aload_n F 0 dX9_requestAt_1 rfl ?_
  refine j_getf F fX9_30 0 rfl rfl dX9_requestAt_2 ?_
  refine j_scallV F kX9_168 (As := []) (rest := [.int pc]) (c_X5_length l D ay (ad 36) (ad 37) (ad 38) (ad 39) (ad 40) (Z.1 14) (Z.2.2 12) (Z.2.2 13) (Z.1 10) (Z.2.2 14)) 36 36 5 rfl rfl rfl rfl rfl rfl ⟨Nat.le_of_ble_eq_true rfl, Nat.le_of_ble_eq_true rfl⟩ dX9_requestAt_5 (fun v w hw => ?_)
  obtain ⟨rfl, rfl⟩ := hw
  refine ⟨rfl, (dW ay ad Z), rfl, ?_⟩
  refine j_excallS F hX hT kX9_104 (As := [.int pc, .int (nI (Z.1 14))]) (rest := []) (c_X9_requirePlace l hfl D ay sa pc (Z.1 14) (by omega)) rfl rfl rfl rfl ⟨Nat.le_of_ble_eq_true rfl, Nat.le_of_ble_eq_true rfl⟩ dX9_requestAt_8 ⟨Nat.le_of_ble_eq_true rfl, Nat.le_of_ble_eq_true rfl⟩ (fun E w h => ⟨h.2.2, ⟨h.1, h.2.1, rfl⟩⟩) (fun v w hw => ?_)
  obtain ⟨j_8, h8_0, rfl, rfl, rfl⟩ := hw
  refine ⟨rfl, ?_⟩
  refine j_aload_n F 0 dX9_requestAt_11 rfl ?_
  refine j_getf F fX9_30 0 rfl rfl dX9_requestAt_12 ?_
  refine j_iload_n F 1 dX9_requestAt_15 rfl ?_
  refine j_scallV F kX9_189 (As := [.int (nI j_8)]) (rest := []) (c_X5_keyIn l D ay (ad 36) (ad 37) (ad 38) (ad 39) (ad 40) (Z.1 14) (Z.2.2 12) (Z.2.2 13) (Z.1 10) (Z.2.2 14) j_8 hL h8_0) 36 36 5 rfl rfl rfl rfl rfl rfl ⟨Nat.le_of_ble_eq_true rfl, Nat.le_of_ble_eq_true rfl⟩ dX9_requestAt_16 (fun v w hw => ?_)
  obtain ⟨rfl, rfl⟩ := hw
  refine ⟨rfl, (dW ay ad Z), rfl, ?_⟩
  exact j_xr (j_iret F ⟨j_8, h8_0, rfl, rfl, rfl⟩ dX9_requestAt_19 (Nat.le_of_ble_eq_true rfl) (Nat.le_of_ble_eq_true rfl))

set_option maxHeartbeats 4000000 in
set_option maxRecDepth 100000 in
theorem c_X9_distanceOf (l : Launch) (hfl : l.stackTraces = false) (D : va_G) (ay : Nat → ClassId) (sa : Nat → Nat) (ad : Nat → Nat) (Z : DS) (pc : Int32) (hL : Z.1 14 ≤ 1000) : jMx l yX9_distanceOf (jws yX9_distanceOf cX9_distanceOf 2 (some .int)) 7 121 3 18 D ay sa [.ref (ad 0), .int pc] (dW ay ad Z) (fun v w => ∃ (j : Nat), j < Z.1 14 ∧ pc = nI j ∧ v = some (.int (Z.2.2 13 j)) ∧ w = (dW ay ad Z)) (fun E w => (E = eIO ∧ (oop pc (Z.1 14)) ∧ w = (dW ay ad Z))) := by
  refine jMx_of l hfl (by decide) [(0, .ref (ad 0)), (1, .int pc)] rfl rfl (fun p9 e9 s9 m9 a9 b9 me9 c9 A9 F hX hT => ?_)
  refine j_iload_n F 1 dX9_distanceOf_0 rfl ?_
  refine j_aload_n F 0 dX9_distanceOf_1 rfl ?_
  refine j_getf F fX9_30 0 rfl rfl dX9_distanceOf_2 ?_
  refine j_scallV F kX9_168 (As := []) (rest := [.int pc]) (c_X5_length l D ay (ad 36) (ad 37) (ad 38) (ad 39) (ad 40) (Z.1 14) (Z.2.2 12) (Z.2.2 13) (Z.1 10) (Z.2.2 14)) 36 36 5 rfl rfl rfl rfl rfl rfl ⟨Nat.le_of_ble_eq_true rfl, Nat.le_of_ble_eq_true rfl⟩ dX9_distanceOf_5 (fun v w hw => ?_)
  obtain ⟨rfl, rfl⟩ := hw
  refine ⟨rfl, (dW ay ad Z), rfl, ?_⟩
  refine j_excallS F hX hT kX9_104 (As := [.int pc, .int (nI (Z.1 14))]) (rest := []) (c_X9_requirePlace l hfl D ay sa pc (Z.1 14) (by omega)) rfl rfl rfl rfl ⟨Nat.le_of_ble_eq_true rfl, Nat.le_of_ble_eq_true rfl⟩ dX9_distanceOf_8 ⟨Nat.le_of_ble_eq_true rfl, Nat.le_of_ble_eq_true rfl⟩ (fun E w h => ⟨h.2.2, ⟨h.1, h.2.1, rfl⟩⟩) (fun v w hw => ?_)
  obtain ⟨j_8, h8_0, rfl, rfl, rfl⟩ := hw
  refine ⟨rfl, ?_⟩
  refine j_aload_n F 0 dX9_distanceOf_11 rfl ?_
  refine j_getf F fX9_30 0 rfl rfl dX9_distanceOf_12 ?_
  refine j_iload_n F 1 dX9_distanceOf_15 rfl ?_
  refine j_scallV F kX9_190 (As := [.int (nI j_8)]) (rest := []) (c_X5_distanceIn l D ay (ad 36) (ad 37) (ad 38) (ad 39) (ad 40) (Z.1 14) (Z.2.2 12) (Z.2.2 13) (Z.1 10) (Z.2.2 14) j_8 hL h8_0) 36 36 5 rfl rfl rfl rfl rfl rfl ⟨Nat.le_of_ble_eq_true rfl, Nat.le_of_ble_eq_true rfl⟩ dX9_distanceOf_16 (fun v w hw => ?_)
  obtain ⟨rfl, rfl⟩ := hw
  refine ⟨rfl, (dW ay ad Z), rfl, ?_⟩
  exact j_xr (j_iret F ⟨j_8, h8_0, rfl, rfl, rfl⟩ dX9_distanceOf_19 (Nat.le_of_ble_eq_true rfl) (Nat.le_of_ble_eq_true rfl))

set_option maxHeartbeats 4000000 in
set_option maxRecDepth 100000 in
theorem c_X9_nearer (l : Launch) (hfl : l.stackTraces = false) (D : va_G) (ay : Nat → ClassId) (sa : Nat → Nat) (ad : Nat → Nat) (Z : DS) (ds : Int32) (hL : Z.1 14 ≤ 1000) : jMx l yX9_nearer (jws yX9_nearer cX9_nearer 2 (some .int)) 7 122 3 18 D ay sa [.ref (ad 0), .int ds] (dW ay ad Z) (fun v w => ¬ oob ds 0 100 ∧ v = some (.int (nI (cb (Z.2.2 13) ds (Z.1 14)))) ∧ w = (dW ay ad Z)) (fun E w => (E = eIA ∧ (oob ds 0 100) ∧ w = (dW ay ad Z))) := by
  refine jMx_of l hfl (by decide) [(0, .ref (ad 0)), (1, .int ds)] rfl rfl (fun p9 e9 s9 m9 a9 b9 me9 c9 A9 F hX hT => ?_)
  refine j_iload_n F 1 dX9_nearer_0 rfl ?_
  refine j_iconst F (v := 0) dX9_nearer_1 (by decide) ?_
  refine j_bipush F (v := 100) dX9_nearer_2 (by decide) ?_
  refine j_excallS F hX hT kX9_81 (As := [.int ds, .int 0, .int 100]) (rest := []) (c_X9_requireRange l hfl D ay sa ds 0 100) rfl rfl rfl rfl ⟨Nat.le_of_ble_eq_true rfl, Nat.le_of_ble_eq_true rfl⟩ dX9_nearer_4 ⟨Nat.le_of_ble_eq_true rfl, Nat.le_of_ble_eq_true rfl⟩ (fun E w h => ⟨h.2.2, ⟨h.1, h.2.1, rfl⟩⟩) (fun v w hw => ?_)
  obtain ⟨h4_0, rfl, rfl⟩ := hw
  refine ⟨rfl, ?_⟩
  refine j_aload_n F 0 dX9_nearer_7 rfl ?_
  refine j_getf F fX9_30 0 rfl rfl dX9_nearer_8 ?_
  refine j_iload_n F 1 dX9_nearer_11 rfl ?_
  refine j_scallV F kX9_193 (As := [.int ds]) (rest := []) (c_X5_countBelow l D ay (ad 36) (ad 37) (ad 38) (ad 39) (ad 40) (Z.1 14) (Z.2.2 12) (Z.2.2 13) (Z.1 10) (Z.2.2 14) ds hL) 36 36 5 rfl rfl rfl rfl rfl rfl ⟨Nat.le_of_ble_eq_true rfl, Nat.le_of_ble_eq_true rfl⟩ dX9_nearer_12 (fun v w hw => ?_)
  obtain ⟨rfl, rfl⟩ := hw
  refine ⟨rfl, (dW ay ad Z), rfl, ?_⟩
  exact j_xr (j_iret F ⟨h4_0, rfl, rfl⟩ dX9_nearer_15 (Nat.le_of_ble_eq_true rfl) (Nat.le_of_ble_eq_true rfl))

set_option maxHeartbeats 4000000 in
set_option maxRecDepth 100000 in
theorem c_X9_leastCache (l : Launch) (hfl : l.stackTraces = false) (D : va_G) (ay : Nat → ClassId) (sa : Nat → Nat) (ad : Nat → Nat) (Z : DS) (ht : Int32) : jMx l yX9_leastCache (jws yX9_leastCache cX9_leastCache 3 (some .int)) 7 122 3 18 D ay sa [.ref (ad 0), .int ht] (dW ay ad Z) (fun v w => ¬ oob ht 0 2147483647 ∧ v = some (.int (if fx (lcF Z ht) 1 8 < 8 then nI (fx (lcF Z ht) 1 8 + 1) else -1)) ∧ w = (dW ay ad Z)) (fun E w => (E = eIA ∧ (oob ht 0 2147483647) ∧ w = (dW ay ad Z))) := by
  refine jMx_of l hfl (by decide) [(0, .ref (ad 0)), (1, .int ht)] rfl rfl (fun p9 e9 s9 m9 a9 b9 me9 c9 A9 F hX hT => ?_)
  refine j_iload_n F 1 dX9_leastCache_0 rfl ?_
  refine j_if_ge F 14 dX9_leastCache_1 (by decide) (fun c_1 => ?_) (fun c_1 => ?_)
  · skip
    refine j_iconst F (v := 0) dX9_leastCache_14 (by decide) ?_
    refine j_istore_n F 2 [(2, .int 0), (0, .ref (ad 0)), (1, .int ht)] dX9_leastCache_15 rfl (by decide) rfl ?_
    have hno0 : ¬ oob ht 0 2147483647 := fun h => h.elim (fun h => absurd h (Int32.not_lt.mpr c_1)) (n_max ht)
    refine j_loop (σ := Nat) (fun i => i ≤ 8 ∧ ∀ j, j < i → lcF Z ht j ≠ 1) (fun i => 8 - i) (fun i => [(2, .int (nI i)), (0, .ref (ad 0)), (1, .int ht)]) (fun i => dW ay ad Z) 0 ⟨Nat.zero_le _, fun j h => absurd h (Nat.not_lt_zero j)⟩ rfl rfl (fun i hI ih => ?_)
    obtain ⟨hi, hno⟩ := hI
    refine j_iload_n F 0 dX9_leastCache_16 rfl ?_
    refine j_bipush F (v := 8) dX9_leastCache_17 (by decide) ?_
    refine j_icmp_ge F 45 dX9_leastCache_19 (by decide) (fun c_19 => ?_) (fun c_19 => ?_)
    · skip
      have n_19 := (n_le 8 i rfl rfl (by omega) (by omega)).mp c_19
      refine j_iconst F (v := (-1)) dX9_leastCache_45 (by decide) ?_
      exact j_xr (j_iret F ⟨hno0, by rw [fx_none (f := lcF Z ht) (key := 1) (n := 8) (fun j hj => hno j (by omega))]; rfl, rfl⟩ dX9_leastCache_46 (Nat.le_of_ble_eq_true rfl) (Nat.le_of_ble_eq_true rfl))
    · skip
      have n_19 := mt (n_le 8 i rfl rfl (by omega) (by omega)).mpr c_19
      have h8 : i < 8 := by omega
      refine j_aload_n F 1 dX9_leastCache_22 rfl ?_
      refine j_getf F fX9_23 0 rfl rfl dX9_leastCache_23 ?_
      refine j_iload_n F 0 dX9_leastCache_26 rfl ?_
      refine j_aald F 11 i (ad (12 + 3 * i)) rfl rfl h8 (Nat.le_of_ble_eq_true rfl) rfl dX9_leastCache_27 ?_
      refine j_ws (slp (12 + 3 * i) 3 (dW ay ad Z) [(ad (12 + 3 * i), .inr (0, [.ref (ad (13 + 3 * i)), .int (nI (i + 1)), .int (Z.2.1 (11 + i))])), (ad (13 + 3 * i), .inr (8, [.ref (ad (14 + 3 * i)), .int (nI (Z.1 (2 + i)))])), (ad (14 + 3 * i), .inl (ay 0, 100, .inl (Z.2.2 (4 + i))))]) (dW_co ay ad Z h8).symm ?_
      refine j_ocallV F (dW_ch ay ad Z h8) kX9_182 (As := []) (rest := []) (c_X0_hitCount l D ay (ad (12 + 3 * i)) (ad (13 + 3 * i)) (ad (14 + 3 * i)) (i + 1) (Z.2.1 (11 + i)) (Z.1 (2 + i)) (Z.2.2 (4 + i))) 0 0 3 rfl rfl rfl rfl rfl rfl rfl rfl rfl ⟨Nat.le_of_ble_eq_true rfl, Nat.le_of_ble_eq_true rfl⟩ dX9_leastCache_28 (fun v w hw => ?_)
      obtain ⟨rfl, rfl⟩ := hw
      refine ⟨rfl, [(ad (12 + 3 * i), .inr (0, [.ref (ad (13 + 3 * i)), .int (nI (i + 1)), .int (Z.2.1 (11 + i))])), (ad (13 + 3 * i), .inr (8, [.ref (ad (14 + 3 * i)), .int (nI (Z.1 (2 + i)))])), (ad (14 + 3 * i), .inl (ay 0, 100, .inl (Z.2.2 (4 + i))))], rfl, ?_⟩
      refine j_ws (dW ay ad Z) (dW_co ay ad Z h8) ?_
      refine j_iload_n F 2 dX9_leastCache_31 rfl ?_
      refine j_icmp_lt F 39 dX9_leastCache_32 (by decide) (fun c_32 => ?_) (fun c_32 => ?_)
      · skip
        refine j_iinc F 0 (nI (i + 1)) [(2, .int (nI (i + 1))), (0, .ref (ad 0)), (1, .int ht)] dX9_leastCache_39 rfl (nI_1 _) (by decide) rfl ?_
        refine j_goto F 16 dX9_leastCache_42 (by decide) ?_
        exact ih (i + 1) ⟨by omega, fun j hj => by
            by_cases h : j = i
            · rw [h, lcF, if_neg (Int32.not_le.mpr c_32)]; decide
            · exact hno j (by omega)⟩ (by show 8 - (i + 1) < 8 - i; omega)
      · skip
        refine j_iload_n F 0 dX9_leastCache_35 rfl ?_
        refine j_iconst F (v := 1) dX9_leastCache_36 (by decide) ?_
        refine j_iadd F dX9_leastCache_37 ?_
        refine j_top (nI (i + 1)) (nI_add _ _) ?_
        exact j_xr (j_iret F ⟨hno0, by rw [fx_at h8 hno (show lcF Z ht i = 1 from if_pos (Int32.not_lt.mp c_32)), if_pos h8], rfl⟩ dX9_leastCache_38 (Nat.le_of_ble_eq_true rfl) (Nat.le_of_ble_eq_true rfl))
  · skip
    exact j_throw F hfl hX hT (E := eIA) (text := "a number is out of range") (names := ["java/lang/RuntimeException", "java/lang/Exception"]) (ik := 196) (is := 198) (ic := 200) (a9 := sa 7) rfl (by decide) gk_IA gi_IA hX.2.2.1.2.2.2.2.2.2.2.1 gx_IA gb_IA hX.2.2.2.2.2.2.1 go_IA dX9_leastCache_4 dX9_leastCache_7 dX9_leastCache_8 dX9_leastCache_10 dX9_leastCache_13 ⟨Nat.le_of_ble_eq_true rfl, Nat.le_of_ble_eq_true rfl, Nat.le_of_ble_eq_true rfl, Nat.le_of_ble_eq_true rfl⟩ ⟨Nat.le_of_ble_eq_true rfl, Nat.le_of_ble_eq_true rfl⟩ ⟨rfl, Or.inl (Int32.not_le.mp c_1), rfl⟩

set_option maxHeartbeats 4000000 in
set_option maxRecDepth 100000 in
theorem c_X9_clearTape (l : Launch) (D : va_G) (ay : Nat → ClassId) (ad : Nat → Nat) (Z : DS) : jM l yX9_clearTape (jws yX9_clearTape cX9_clearTape 1 (some .int)) 1 21 0 0 D ay [.ref (ad 0)] (dW ay ad Z) (fun v w => v = some (.int (nI (Z.1 15))) ∧ w = (dW ay ad (tU Z 0 (Z.2.2 15)))) := by
  refine jM_of l (by decide) [(0, .ref (ad 0))] rfl rfl (fun p9 e9 s9 m9 a9 b9 me9 c9 A9 F => ?_)
  refine j_aload_n F 0 dX9_clearTape_0 rfl ?_
  refine j_getf F fX9_37 0 rfl rfl dX9_clearTape_1 ?_
  refine j_scallV F kX9_201 (As := []) (rest := []) (c_X4_tape l D ay (ad 41) (ad 42) (ad 44) (Z.1 16) (ad 43) (Z.1 15) (Z.2.2 15) (ad 45) (ad 46) (ad 47) (ad 48) (Z.1 17) (Z.2.2 16) (Z.2.2 17) (Z.2.2 18) (Z.2.2 19) (Z.1 18)) 41 41 8 rfl rfl rfl rfl rfl rfl ⟨Nat.le_of_ble_eq_true rfl, Nat.le_of_ble_eq_true rfl⟩ dX9_clearTape_4 (fun v w hw => ?_)
  obtain ⟨rfl, rfl⟩ := hw
  refine ⟨rfl, (dW ay ad Z), rfl, ?_⟩
  refine j_scallV F kX9_216 (As := []) (rest := []) (c_X6_empty l D ay (ad 42) (ad 43) (Z.1 15) (Z.2.2 15)) 42 42 2 rfl rfl rfl rfl rfl rfl ⟨Nat.le_of_ble_eq_true rfl, Nat.le_of_ble_eq_true rfl⟩ dX9_clearTape_7 (fun v w hw => ?_)
  obtain ⟨rfl, rfl⟩ := hw
  refine ⟨rfl, (dW ay ad (tU Z 0 (Z.2.2 15))), dW_t ay ad Z .., ?_⟩
  exact j_iret F ⟨rfl, rfl⟩ dX9_clearTape_10 (Nat.le_of_ble_eq_true rfl) (Nat.le_of_ble_eq_true rfl)

set_option maxHeartbeats 4000000 in
set_option maxRecDepth 100000 in
theorem c_X9_errorPosition (l : Launch) (D : va_G) (ay : Nat → ClassId) (ad : Nat → Nat) (Z : DS) : jM l yX9_errorPosition (jws yX9_errorPosition cX9_errorPosition 1 (some .int)) 0 0 0 0 D ay [.ref (ad 0)] (dW ay ad Z) (fun v w => v = some (.int (Z.2.1 0)) ∧ w = (dW ay ad Z)) := by
  refine jM_of l (by decide) [(0, .ref (ad 0))] rfl rfl (fun p9 e9 s9 m9 a9 b9 me9 c9 A9 F => ?_)
  refine j_aload_n F 0 dX9_errorPosition_0 rfl ?_
  refine j_getf F fX9_48 0 rfl rfl dX9_errorPosition_1 ?_
  exact j_iret F ⟨rfl, rfl⟩ dX9_errorPosition_4 (Nat.le_of_ble_eq_true rfl) (Nat.le_of_ble_eq_true rfl)

set_option maxHeartbeats 4000000 in
set_option maxRecDepth 100000 in
theorem c_X9_setFrames (l : Launch) (hfl : l.stackTraces = false) (D : va_G) (ay : Nat → ClassId) (sa : Nat → Nat) (ad : Nat → Nat) (Z : DS) (fm : Int32) : jMx l yX9_setFrames (jws yX9_setFrames cX9_setFrames 2 (some .int)) 7 122 3 18 D ay sa [.ref (ad 0), .int fm] (dW ay ad Z) (fun v w => ∃ (b : Nat), 1 ≤ b ∧ b ≤ 8 ∧ fm = nI b ∧ v = some (.int (nI (wC (Z.2.2 22) 16))) ∧ w = (dW ay ad (xU Z b (Z.2.1 19) (Z.2.1 20) ((Z.2.1 21) + nI (wC (Z.2.2 22) 16)) (wD (Z.2.2 21) (Z.2.2 20) (Z.2.2 22) 16) (Z.2.2 21) (wY (Z.2.2 22) 16) 0 (Z.2.2 23)))) (fun E w => (E = eIA ∧ (oob fm 1 8) ∧ w = (dW ay ad Z))) := by
  refine jMx_of l hfl (by decide) [(0, .ref (ad 0)), (1, .int fm)] rfl rfl (fun p9 e9 s9 m9 a9 b9 me9 c9 A9 F hX hT => ?_)
  refine j_iload_n F 1 dX9_setFrames_0 rfl ?_
  refine j_iconst F (v := 1) dX9_setFrames_1 (by decide) ?_
  refine j_bipush F (v := 8) dX9_setFrames_2 (by decide) ?_
  refine j_excallS F hX hT kX9_81 (As := [.int fm, .int 1, .int 8]) (rest := []) (c_X9_requireRange l hfl D ay sa fm 1 8) rfl rfl rfl rfl ⟨Nat.le_of_ble_eq_true rfl, Nat.le_of_ble_eq_true rfl⟩ dX9_setFrames_4 ⟨Nat.le_of_ble_eq_true rfl, Nat.le_of_ble_eq_true rfl⟩ (fun E w h => ⟨h.2.2, ⟨h.1, h.2.1, rfl⟩⟩) (fun v w hw => ?_)
  obtain ⟨h4_0, rfl, rfl⟩ := hw
  refine ⟨rfl, ?_⟩
  obtain ⟨b, hb1, hb2, rfl⟩ := oob_nI 1 8 (by decide) (by decide) h4_0
  refine j_aload_n F 0 dX9_setFrames_7 rfl ?_
  refine j_getf F fX9_44 0 rfl rfl dX9_setFrames_8 ?_
  refine j_iload_n F 1 dX9_setFrames_11 rfl ?_
  refine j_scallV F kX9_242 (As := [.int (nI b)]) (rest := []) (c_X2_changeFrames l D ay (ad 49) (ad 50) (ad 51) (ad 52) (ad 53) (ad 54) (Z.1 19) (Z.2.1 19) (Z.2.1 20) (Z.2.1 21) (Z.2.2 20) (Z.2.2 21) (Z.2.2 22) (Z.1 11) (Z.2.2 23) (nI b)) 49 49 6 rfl rfl rfl rfl rfl rfl ⟨Nat.le_of_ble_eq_true rfl, Nat.le_of_ble_eq_true rfl⟩ dX9_setFrames_12 (fun v w hw => ?_)
  obtain ⟨rfl, rfl⟩ := hw
  refine ⟨rfl, (dW ay ad (xU Z b (Z.2.1 19) (Z.2.1 20) ((Z.2.1 21) + nI (wC (Z.2.2 22) 16)) (wD (Z.2.2 21) (Z.2.2 20) (Z.2.2 22) 16) (Z.2.2 21) (wY (Z.2.2 22) 16) 0 (Z.2.2 23))), dW_x ay ad Z .., ?_⟩
  exact j_xr (j_iret F ⟨b, hb1, hb2, rfl, rfl, rfl⟩ dX9_setFrames_15 (Nat.le_of_ble_eq_true rfl) (Nat.le_of_ble_eq_true rfl))

set_option maxHeartbeats 4000000 in
set_option maxRecDepth 100000 in
theorem c_X9_flush (l : Launch) (D : va_G) (ay : Nat → ClassId) (ad : Nat → Nat) (Z : DS) : jM l yX9_flush (jws yX9_flush cX9_flush 1 (some .int)) 3 66 0 0 D ay [.ref (ad 0)] (dW ay ad Z) (fun v w => v = some (.int (nI (wC (Z.2.2 22) 16))) ∧ w = (dW ay ad (xU Z (Z.1 19) (Z.2.1 19) (Z.2.1 20) ((Z.2.1 21) + nI (wC (Z.2.2 22) 16)) (wD (Z.2.2 21) (Z.2.2 20) (Z.2.2 22) 16) (Z.2.2 21) (wY (Z.2.2 22) 16) (Z.1 11) (Z.2.2 23)))) := by
  refine jM_of l (by decide) [(0, .ref (ad 0))] rfl rfl (fun p9 e9 s9 m9 a9 b9 me9 c9 A9 F => ?_)
  refine j_aload_n F 0 dX9_flush_0 rfl ?_
  refine j_getf F fX9_44 0 rfl rfl dX9_flush_1 ?_
  refine j_scallV F kX9_245 (As := []) (rest := []) (c_X2_writeAll l D ay (ad 49) (ad 50) (ad 51) (ad 52) (ad 53) (ad 54) (Z.1 19) (Z.2.1 19) (Z.2.1 20) (Z.2.1 21) (Z.2.2 20) (Z.2.2 21) (Z.2.2 22) (Z.1 11) (Z.2.2 23)) 49 49 6 rfl rfl rfl rfl rfl rfl ⟨Nat.le_of_ble_eq_true rfl, Nat.le_of_ble_eq_true rfl⟩ dX9_flush_4 (fun v w hw => ?_)
  obtain ⟨rfl, rfl⟩ := hw
  refine ⟨rfl, (dW ay ad (xU Z (Z.1 19) (Z.2.1 19) (Z.2.1 20) ((Z.2.1 21) + nI (wC (Z.2.2 22) 16)) (wD (Z.2.2 21) (Z.2.2 20) (Z.2.2 22) 16) (Z.2.2 21) (wY (Z.2.2 22) 16) (Z.1 11) (Z.2.2 23))), dW_x ay ad Z .., ?_⟩
  exact j_iret F ⟨rfl, rfl⟩ dX9_flush_7 (Nat.le_of_ble_eq_true rfl) (Nat.le_of_ble_eq_true rfl)

set_option maxHeartbeats 4000000 in
set_option maxRecDepth 100000 in
theorem c_X9_accumulator (l : Launch) (D : va_G) (ay : Nat → ClassId) (ad : Nat → Nat) (Z : DS) : jM l yX9_accumulator (jws yX9_accumulator cX9_accumulator 1 (some .int)) 1 20 0 0 D ay [.ref (ad 0)] (dW ay ad Z) (fun v w => v = some (.int (Z.2.1 19)) ∧ w = (dW ay ad Z)) := by
  refine jM_of l (by decide) [(0, .ref (ad 0))] rfl rfl (fun p9 e9 s9 m9 a9 b9 me9 c9 A9 F => ?_)
  refine j_aload_n F 0 dX9_accumulator_0 rfl ?_
  refine j_getf F fX9_44 0 rfl rfl dX9_accumulator_1 ?_
  refine j_scallV F kX9_248 (As := []) (rest := []) (c_X2_accumulated l D ay (ad 49) (ad 50) (ad 51) (ad 52) (ad 53) (ad 54) (Z.1 19) (Z.2.1 19) (Z.2.1 20) (Z.2.1 21) (Z.2.2 20) (Z.2.2 21) (Z.2.2 22) (Z.1 11) (Z.2.2 23)) 49 49 6 rfl rfl rfl rfl rfl rfl ⟨Nat.le_of_ble_eq_true rfl, Nat.le_of_ble_eq_true rfl⟩ dX9_accumulator_4 (fun v w hw => ?_)
  obtain ⟨rfl, rfl⟩ := hw
  refine ⟨rfl, (dW ay ad Z), rfl, ?_⟩
  exact j_iret F ⟨rfl, rfl⟩ dX9_accumulator_7 (Nat.le_of_ble_eq_true rfl) (Nat.le_of_ble_eq_true rfl)

set_option maxHeartbeats 4000000 in
set_option maxRecDepth 100000 in
theorem c_X9_wordAt (l : Launch) (hfl : l.stackTraces = false) (D : va_G) (ay : Nat → ClassId) (sa : Nat → Nat) (ad : Nat → Nat) (Z : DS) (ax : Int32) (hM : kI (Z.1 11) (Z.2.2 23)) : jMx l yX9_wordAt (jws yX9_wordAt cX9_wordAt 2 (some .int)) 7 122 3 18 D ay sa [.ref (ad 0), .int ax] (dW ay ad Z) (fun v w => ∃ (a : Nat), a < 64 ∧ ax = nI a ∧ v = some (.int (if fx (Z.2.2 23) (nI (a / 4)) (Z.1 11) < Z.1 11 then Z.2.2 21 a else Z.2.2 20 a)) ∧ w = (dW ay ad Z)) (fun E w => (E = eIA ∧ (oob ax 0 63) ∧ w = (dW ay ad Z))) := by
  refine jMx_of l hfl (by decide) [(0, .ref (ad 0)), (1, .int ax)] rfl rfl (fun p9 e9 s9 m9 a9 b9 me9 c9 A9 F hX hT => ?_)
  refine j_iload_n F 1 dX9_wordAt_0 rfl ?_
  refine j_iconst F (v := 0) dX9_wordAt_1 (by decide) ?_
  refine j_bipush F (v := 63) dX9_wordAt_2 (by decide) ?_
  refine j_excallS F hX hT kX9_81 (As := [.int ax, .int 0, .int 63]) (rest := []) (c_X9_requireRange l hfl D ay sa ax 0 63) rfl rfl rfl rfl ⟨Nat.le_of_ble_eq_true rfl, Nat.le_of_ble_eq_true rfl⟩ dX9_wordAt_4 ⟨Nat.le_of_ble_eq_true rfl, Nat.le_of_ble_eq_true rfl⟩ (fun E w h => ⟨h.2.2, ⟨h.1, h.2.1, rfl⟩⟩) (fun v w hw => ?_)
  obtain ⟨h4_0, rfl, rfl⟩ := hw
  refine ⟨rfl, ?_⟩
  obtain ⟨a, -, ha2, rfl⟩ := oob_nI 0 63 (by decide) (by decide) h4_0
  refine j_aload_n F 0 dX9_wordAt_7 rfl ?_
  refine j_getf F fX9_44 0 rfl rfl dX9_wordAt_8 ?_
  refine j_iload_n F 1 dX9_wordAt_11 rfl ?_
  refine j_scallV F kX9_251 (As := [.int (nI a)]) (rest := []) (c_X2_wordIn l D ay (ad 49) (ad 50) (ad 51) (ad 52) (ad 53) (ad 54) (Z.1 19) (Z.2.1 19) (Z.2.1 20) (Z.2.1 21) (Z.2.2 20) (Z.2.2 21) (Z.2.2 22) (Z.1 11) (Z.2.2 23) a hM.1 (by omega)) 49 49 6 rfl rfl rfl rfl rfl rfl ⟨Nat.le_of_ble_eq_true rfl, Nat.le_of_ble_eq_true rfl⟩ dX9_wordAt_12 (fun v w hw => ?_)
  obtain ⟨rfl, rfl⟩ := hw
  refine ⟨rfl, (dW ay ad Z), rfl, ?_⟩
  exact j_xr (j_iret F ⟨a, by omega, rfl, rfl, rfl⟩ dX9_wordAt_15 (Nat.le_of_ble_eq_true rfl) (Nat.le_of_ble_eq_true rfl))

set_option maxHeartbeats 4000000 in
set_option maxRecDepth 100000 in
theorem c_X9_discAt (l : Launch) (hfl : l.stackTraces = false) (D : va_G) (ay : Nat → ClassId) (sa : Nat → Nat) (ad : Nat → Nat) (Z : DS) (ax : Int32) : jMx l yX9_discAt (jws yX9_discAt cX9_discAt 2 (some .int)) 7 122 3 18 D ay sa [.ref (ad 0), .int ax] (dW ay ad Z) (fun v w => ∃ (a : Nat), a < 64 ∧ ax = nI a ∧ v = some (.int (Z.2.2 20 a)) ∧ w = (dW ay ad Z)) (fun E w => (E = eIA ∧ (oob ax 0 63) ∧ w = (dW ay ad Z))) := by
  refine jMx_of l hfl (by decide) [(0, .ref (ad 0)), (1, .int ax)] rfl rfl (fun p9 e9 s9 m9 a9 b9 me9 c9 A9 F hX hT => ?_)
  refine j_iload_n F 1 dX9_discAt_0 rfl ?_
  refine j_iconst F (v := 0) dX9_discAt_1 (by decide) ?_
  refine j_bipush F (v := 63) dX9_discAt_2 (by decide) ?_
  refine j_excallS F hX hT kX9_81 (As := [.int ax, .int 0, .int 63]) (rest := []) (c_X9_requireRange l hfl D ay sa ax 0 63) rfl rfl rfl rfl ⟨Nat.le_of_ble_eq_true rfl, Nat.le_of_ble_eq_true rfl⟩ dX9_discAt_4 ⟨Nat.le_of_ble_eq_true rfl, Nat.le_of_ble_eq_true rfl⟩ (fun E w h => ⟨h.2.2, ⟨h.1, h.2.1, rfl⟩⟩) (fun v w hw => ?_)
  obtain ⟨h4_0, rfl, rfl⟩ := hw
  refine ⟨rfl, ?_⟩
  obtain ⟨a, -, ha2, rfl⟩ := oob_nI 0 63 (by decide) (by decide) h4_0
  refine j_aload_n F 0 dX9_discAt_7 rfl ?_
  refine j_getf F fX9_44 0 rfl rfl dX9_discAt_8 ?_
  refine j_iload_n F 1 dX9_discAt_11 rfl ?_
  refine j_scallV F kX9_254 (As := [.int (nI a)]) (rest := []) (c_X2_discIn l D ay (ad 49) (ad 50) (ad 51) (ad 52) (ad 53) (ad 54) (Z.1 19) (Z.2.1 19) (Z.2.1 20) (Z.2.1 21) (Z.2.2 20) (Z.2.2 21) (Z.2.2 22) (Z.1 11) (Z.2.2 23) a (by omega)) 49 49 6 rfl rfl rfl rfl rfl rfl ⟨Nat.le_of_ble_eq_true rfl, Nat.le_of_ble_eq_true rfl⟩ dX9_discAt_12 (fun v w hw => ?_)
  obtain ⟨rfl, rfl⟩ := hw
  refine ⟨rfl, (dW ay ad Z), rfl, ?_⟩
  exact j_xr (j_iret F ⟨a, by omega, rfl, rfl, rfl⟩ dX9_discAt_15 (Nat.le_of_ble_eq_true rfl) (Nat.le_of_ble_eq_true rfl))

set_option maxHeartbeats 4000000 in
set_option maxRecDepth 100000 in
theorem c_X9_resident (l : Launch) (D : va_G) (ay : Nat → ClassId) (ad : Nat → Nat) (Z : DS) : jM l yX9_resident (jws yX9_resident cX9_resident 1 (some .int)) 1 20 0 0 D ay [.ref (ad 0)] (dW ay ad Z) (fun v w => v = some (.int (nI (Z.1 11))) ∧ w = (dW ay ad Z)) := by
  refine jM_of l (by decide) [(0, .ref (ad 0))] rfl rfl (fun p9 e9 s9 m9 a9 b9 me9 c9 A9 F => ?_)
  refine j_aload_n F 0 dX9_resident_0 rfl ?_
  refine j_getf F fX9_44 0 rfl rfl dX9_resident_1 ?_
  refine j_scallV F kX9_257 (As := []) (rest := []) (c_X2_pages l D ay (ad 49) (ad 50) (ad 51) (ad 52) (ad 53) (ad 54) (Z.1 19) (Z.2.1 19) (Z.2.1 20) (Z.2.1 21) (Z.2.2 20) (Z.2.2 21) (Z.2.2 22) (Z.1 11) (Z.2.2 23)) 49 49 6 rfl rfl rfl rfl rfl rfl ⟨Nat.le_of_ble_eq_true rfl, Nat.le_of_ble_eq_true rfl⟩ dX9_resident_4 (fun v w hw => ?_)
  obtain ⟨rfl, rfl⟩ := hw
  refine ⟨rfl, (dW ay ad Z), rfl, ?_⟩
  refine j_scallV F kX9_99 (As := []) (rest := []) (c_X8_length l D ay (ad 53) (ad 54) (Z.1 11) (Z.2.2 23)) 53 53 2 rfl rfl rfl rfl rfl rfl ⟨Nat.le_of_ble_eq_true rfl, Nat.le_of_ble_eq_true rfl⟩ dX9_resident_7 (fun v w hw => ?_)
  obtain ⟨rfl, rfl⟩ := hw
  refine ⟨rfl, (dW ay ad Z), rfl, ?_⟩
  exact j_iret F ⟨rfl, rfl⟩ dX9_resident_10 (Nat.le_of_ble_eq_true rfl) (Nat.le_of_ble_eq_true rfl)

set_option maxHeartbeats 4000000 in
set_option maxRecDepth 100000 in
theorem c_X9_residentAt (l : Launch) (hfl : l.stackTraces = false) (D : va_G) (ay : Nat → ClassId) (sa : Nat → Nat) (ad : Nat → Nat) (Z : DS) (pc : Int32) (hM : kI (Z.1 11) (Z.2.2 23)) : jMx l yX9_residentAt (jws yX9_residentAt cX9_residentAt 2 (some .int)) 7 121 3 18 D ay sa [.ref (ad 0), .int pc] (dW ay ad Z) (fun v w => ∃ (j : Nat), j < Z.1 11 ∧ pc = nI j ∧ v = some (.int (Z.2.2 23 j)) ∧ w = (dW ay ad Z)) (fun E w => (E = eIO ∧ (oop pc (Z.1 11)) ∧ w = (dW ay ad Z))) := by
  refine jMx_of l hfl (by decide) [(0, .ref (ad 0)), (1, .int pc)] rfl rfl (fun p9 e9 s9 m9 a9 b9 me9 c9 A9 F hX hT => ?_)
  refine j_iload_n F 1 dX9_residentAt_0 rfl ?_
  refine j_aload_n F 0 dX9_residentAt_1 rfl ?_
  have hn := hM.1
  refine j_getf F fX9_44 0 rfl rfl dX9_residentAt_2 ?_
  refine j_scallV F kX9_257 (As := []) (rest := [.int pc]) (c_X2_pages l D ay (ad 49) (ad 50) (ad 51) (ad 52) (ad 53) (ad 54) (Z.1 19) (Z.2.1 19) (Z.2.1 20) (Z.2.1 21) (Z.2.2 20) (Z.2.2 21) (Z.2.2 22) (Z.1 11) (Z.2.2 23)) 49 49 6 rfl rfl rfl rfl rfl rfl ⟨Nat.le_of_ble_eq_true rfl, Nat.le_of_ble_eq_true rfl⟩ dX9_residentAt_5 (fun v w hw => ?_)
  obtain ⟨rfl, rfl⟩ := hw
  refine ⟨rfl, (dW ay ad Z), rfl, ?_⟩
  refine j_scallV F kX9_99 (As := []) (rest := [.int pc]) (c_X8_length l D ay (ad 53) (ad 54) (Z.1 11) (Z.2.2 23)) 53 53 2 rfl rfl rfl rfl rfl rfl ⟨Nat.le_of_ble_eq_true rfl, Nat.le_of_ble_eq_true rfl⟩ dX9_residentAt_8 (fun v w hw => ?_)
  obtain ⟨rfl, rfl⟩ := hw
  refine ⟨rfl, (dW ay ad Z), rfl, ?_⟩
  refine j_excallS F hX hT kX9_104 (As := [.int pc, .int (nI (Z.1 11))]) (rest := []) (c_X9_requirePlace l hfl D ay sa pc (Z.1 11) (by omega)) rfl rfl rfl rfl ⟨Nat.le_of_ble_eq_true rfl, Nat.le_of_ble_eq_true rfl⟩ dX9_residentAt_11 ⟨Nat.le_of_ble_eq_true rfl, Nat.le_of_ble_eq_true rfl⟩ (fun E w h => ⟨h.2.2, ⟨h.1, h.2.1, rfl⟩⟩) (fun v w hw => ?_)
  obtain ⟨j_11, h11_0, rfl, rfl, rfl⟩ := hw
  refine ⟨rfl, ?_⟩
  refine j_aload_n F 0 dX9_residentAt_14 rfl ?_
  refine j_getf F fX9_44 0 rfl rfl dX9_residentAt_15 ?_
  refine j_scallV F kX9_257 (As := []) (rest := []) (c_X2_pages l D ay (ad 49) (ad 50) (ad 51) (ad 52) (ad 53) (ad 54) (Z.1 19) (Z.2.1 19) (Z.2.1 20) (Z.2.1 21) (Z.2.2 20) (Z.2.2 21) (Z.2.2 22) (Z.1 11) (Z.2.2 23)) 49 49 6 rfl rfl rfl rfl rfl rfl ⟨Nat.le_of_ble_eq_true rfl, Nat.le_of_ble_eq_true rfl⟩ dX9_residentAt_18 (fun v w hw => ?_)
  obtain ⟨rfl, rfl⟩ := hw
  refine ⟨rfl, (dW ay ad Z), rfl, ?_⟩
  refine j_iload_n F 1 dX9_residentAt_21 rfl ?_
  refine j_scallV F kX9_108 (As := [.int (nI j_11)]) (rest := []) (c_X8_keyIn l D ay (ad 53) (ad 54) (Z.1 11) (Z.2.2 23) j_11 hn h11_0) 53 53 2 rfl rfl rfl rfl rfl rfl ⟨Nat.le_of_ble_eq_true rfl, Nat.le_of_ble_eq_true rfl⟩ dX9_residentAt_22 (fun v w hw => ?_)
  obtain ⟨rfl, rfl⟩ := hw
  refine ⟨rfl, (dW ay ad Z), rfl, ?_⟩
  exact j_xr (j_iret F ⟨j_11, h11_0, rfl, rfl, rfl⟩ dX9_residentAt_25 (Nat.le_of_ble_eq_true rfl) (Nat.le_of_ble_eq_true rfl))

set_option maxHeartbeats 4000000 in
set_option maxRecDepth 100000 in
theorem c_X9_isDirty (l : Launch) (hfl : l.stackTraces = false) (D : va_G) (ay : Nat → ClassId) (sa : Nat → Nat) (ad : Nat → Nat) (Z : DS) (px : Int32) : jMx l yX9_isDirty (jws yX9_isDirty cX9_isDirty 2 (some .boolean)) 7 122 3 18 D ay sa [.ref (ad 0), .int px] (dW ay ad Z) (fun v w => ∃ (p : Nat), p < 16 ∧ px = nI p ∧ v = some (.int (if Z.2.2 22 p = 0 then 0 else 1)) ∧ w = (dW ay ad Z)) (fun E w => (E = eIA ∧ (oob px 0 15) ∧ w = (dW ay ad Z))) := by
  refine jMx_of l hfl (by decide) [(0, .ref (ad 0)), (1, .int px)] rfl rfl (fun p9 e9 s9 m9 a9 b9 me9 c9 A9 F hX hT => ?_)
  refine j_iload_n F 1 dX9_isDirty_0 rfl ?_
  refine j_iconst F (v := 0) dX9_isDirty_1 (by decide) ?_
  refine j_bipush F (v := 15) dX9_isDirty_2 (by decide) ?_
  refine j_excallS F hX hT kX9_81 (As := [.int px, .int 0, .int 15]) (rest := []) (c_X9_requireRange l hfl D ay sa px 0 15) rfl rfl rfl rfl ⟨Nat.le_of_ble_eq_true rfl, Nat.le_of_ble_eq_true rfl⟩ dX9_isDirty_4 ⟨Nat.le_of_ble_eq_true rfl, Nat.le_of_ble_eq_true rfl⟩ (fun E w h => ⟨h.2.2, ⟨h.1, h.2.1, rfl⟩⟩) (fun v w hw => ?_)
  obtain ⟨h4_0, rfl, rfl⟩ := hw
  refine ⟨rfl, ?_⟩
  obtain ⟨p, -, hp2, rfl⟩ := oob_nI 0 15 (by decide) (by decide) h4_0
  refine j_aload_n F 0 dX9_isDirty_7 rfl ?_
  refine j_getf F fX9_44 0 rfl rfl dX9_isDirty_8 ?_
  refine j_iload_n F 1 dX9_isDirty_11 rfl ?_
  refine j_scallV F kX9_260 (As := [.int (nI p)]) (rest := []) (c_X2_hasChanged l D ay (ad 49) (ad 50) (ad 51) (ad 52) (ad 53) (ad 54) (Z.1 19) (Z.2.1 19) (Z.2.1 20) (Z.2.1 21) (Z.2.2 20) (Z.2.2 21) (Z.2.2 22) (Z.1 11) (Z.2.2 23) p (by omega)) 49 49 6 rfl rfl rfl rfl rfl rfl ⟨Nat.le_of_ble_eq_true rfl, Nat.le_of_ble_eq_true rfl⟩ dX9_isDirty_12 (fun v w hw => ?_)
  obtain ⟨rfl, rfl⟩ := hw
  refine ⟨rfl, (dW ay ad Z), rfl, ?_⟩
  exact j_xr (j_zret F ite10 ⟨p, by omega, rfl, rfl, rfl⟩ dX9_isDirty_15 (Nat.le_of_ble_eq_true rfl) (Nat.le_of_ble_eq_true rfl))

set_option maxHeartbeats 4000000 in
set_option maxRecDepth 100000 in
theorem c_X9_faults (l : Launch) (D : va_G) (ay : Nat → ClassId) (ad : Nat → Nat) (Z : DS) : jM l yX9_faults (jws yX9_faults cX9_faults 1 (some .int)) 1 20 0 0 D ay [.ref (ad 0)] (dW ay ad Z) (fun v w => v = some (.int (Z.2.1 20)) ∧ w = (dW ay ad Z)) := by
  refine jM_of l (by decide) [(0, .ref (ad 0))] rfl rfl (fun p9 e9 s9 m9 a9 b9 me9 c9 A9 F => ?_)
  refine j_aload_n F 0 dX9_faults_0 rfl ?_
  refine j_getf F fX9_44 0 rfl rfl dX9_faults_1 ?_
  refine j_scallV F kX9_263 (As := []) (rest := []) (c_X2_faultCount l D ay (ad 49) (ad 50) (ad 51) (ad 52) (ad 53) (ad 54) (Z.1 19) (Z.2.1 19) (Z.2.1 20) (Z.2.1 21) (Z.2.2 20) (Z.2.2 21) (Z.2.2 22) (Z.1 11) (Z.2.2 23)) 49 49 6 rfl rfl rfl rfl rfl rfl ⟨Nat.le_of_ble_eq_true rfl, Nat.le_of_ble_eq_true rfl⟩ dX9_faults_4 (fun v w hw => ?_)
  obtain ⟨rfl, rfl⟩ := hw
  refine ⟨rfl, (dW ay ad Z), rfl, ?_⟩
  exact j_iret F ⟨rfl, rfl⟩ dX9_faults_7 (Nat.le_of_ble_eq_true rfl) (Nat.le_of_ble_eq_true rfl)

set_option maxHeartbeats 4000000 in
set_option maxRecDepth 100000 in
theorem c_X9_writes (l : Launch) (D : va_G) (ay : Nat → ClassId) (ad : Nat → Nat) (Z : DS) : jM l yX9_writes (jws yX9_writes cX9_writes 1 (some .int)) 1 20 0 0 D ay [.ref (ad 0)] (dW ay ad Z) (fun v w => v = some (.int (Z.2.1 21)) ∧ w = (dW ay ad Z)) := by
  refine jM_of l (by decide) [(0, .ref (ad 0))] rfl rfl (fun p9 e9 s9 m9 a9 b9 me9 c9 A9 F => ?_)
  refine j_aload_n F 0 dX9_writes_0 rfl ?_
  refine j_getf F fX9_44 0 rfl rfl dX9_writes_1 ?_
  refine j_scallV F kX9_266 (As := []) (rest := []) (c_X2_writeCount l D ay (ad 49) (ad 50) (ad 51) (ad 52) (ad 53) (ad 54) (Z.1 19) (Z.2.1 19) (Z.2.1 20) (Z.2.1 21) (Z.2.2 20) (Z.2.2 21) (Z.2.2 22) (Z.1 11) (Z.2.2 23)) 49 49 6 rfl rfl rfl rfl rfl rfl ⟨Nat.le_of_ble_eq_true rfl, Nat.le_of_ble_eq_true rfl⟩ dX9_writes_4 (fun v w hw => ?_)
  obtain ⟨rfl, rfl⟩ := hw
  refine ⟨rfl, (dW ay ad Z), rfl, ?_⟩
  exact j_iret F ⟨rfl, rfl⟩ dX9_writes_7 (Nat.le_of_ble_eq_true rfl) (Nat.le_of_ble_eq_true rfl)

