set_option maxHeartbeats 4000000 in
set_option maxRecDepth 100000 in
theorem h_put (l : Launch) (hfl : l.stackTraces = false) (D : va_G) (ay : Nat → ClassId) (sa : Nat → Nat) (ad : Nat → Nat) (Z : DS) (mp : Int32) (ky : Int32) (vl : Int32) (o : Nat) (fo : Nat → Int64) (hI : ∀ m, m < 2 → mI Z m) : jH l yL_put (jwsH yL_put cL_put 6 (some .int) [(0, 12, 15, 13)]) 9 167 3 18 D ay sa [.ref (ad 0), .int mp, .int ky, .int vl, .ref o] (dW ay ad Z ++ [(o, .inl (ay 3, 1, .inr (.inl fo)))]) (fun v w => (∃ (m : Nat), ∃ (y : Nat), ∃ (z : Nat), m < 2 ∧ y < 100 ∧ z < 1000 ∧ mp = nI m ∧ ky = nI y ∧ vl = nI z ∧ v = some (.int 0) ∧ w = (dW ay ad (mU Z m (stN (Z.2.2 (2 * m)) (Z.1 m) (nI y) (Z.1 (12 + m))) (stF (Z.2.2 (2 * m)) (Z.1 m) (nI y) (Z.1 (12 + m))) 0 (Z.2.1 (2 + 5 * m)) (Z.2.1 (3 + 5 * m)) (upd (Z.2.2 (2 * m + 1)) y (nI z)) (Z.1 (12 + m)) (if usN (Z.2.2 (2 * m)) (Z.1 m) (nI y) ≤ (Z.1 (12 + m)) then (Z.2.1 (4 + 5 * m)) else (Z.2.1 (4 + 5 * m)) + 1) (if usN (Z.2.2 (2 * m)) (Z.1 m) (nI y) ≤ (Z.1 (12 + m)) then (Z.2.1 (5 + 5 * m)) else usF (Z.2.2 (2 * m)) (Z.1 m) (nI y) 0)) ++ [(o, .inl (ay 3, 1, .inr (.inl (vp_updL fo 0 ((if fx (Z.2.2 (2 * m)) (nI y) (Z.1 m) < (Z.1 m) then (Z.2.2 (2 * m + 1)) y else -1 : Int32)).toInt64))))])) ∨ ((oob mp 0 1 ∨ oob ky 0 99 ∨ oob vl 0 999) ∧ v = some (.int 1) ∧ w = (dW ay ad Z ++ [(o, .inl (ay 3, 1, .inr (.inl fo)))]))) := by
  refine jH_of l (by decide) [(0, .ref (ad 0)), (1, .int mp), (2, .int ky), (3, .int vl), (4, .ref o)] rfl rfl (fun p9 e9 s9 m9 a9 b9 me9 c9 A9 F hX hN htab => ?_)
  refine j_aload F 4 dL_put_0 rfl ?_
  refine j_iconst F (v := 0) dL_put_2 (by decide) ?_
  refine j_aload_n F 0 dL_put_3 rfl ?_
  refine j_iload_n F 1 dL_put_4 rfl ?_
  refine j_iload_n F 2 dL_put_5 rfl ?_
  refine j_iload_n F 3 dL_put_6 rfl ?_
  refine j_tryV F hX kL_7 (As := [.int mp, .int ky, .int vl]) (rest := [.int 0, .ref o]) (c_X9_put l hfl D ay sa ad Z mp ky vl hI) 0 0 55 rfl rfl rfl rfl rfl rfl ⟨Nat.le_of_ble_eq_true rfl, Nat.le_of_ble_eq_true rfl⟩ dL_put_7 (fun E w hx => ?_) (fun v w hw => ?_)
  · skip
    rcases hx with ⟨rfl, hc0, rfl⟩
    · skip
      refine ⟨rfl, (dW ay ad Z ++ [(o, .inl (ay 3, 1, .inr (.inl fo)))]), 15, rfl, (jCat_1 htab rfl (by decide) (F.2.2.2.2.1 _ gL_eIA) (va_Nw.use rfl hX.2.2.2.2.2.2.1)), fun q9 => ?_⟩
      refine j_astore F 5 [(5, .ref q9), (0, .ref (ad 0)), (1, .int mp), (2, .int ky), (3, .int vl), (4, .ref o)] dL_put_15 (by decide) rfl ?_
      refine j_iconst F (v := 1) dL_put_17 (by decide) ?_
      exact j_iret F (Or.inr (⟨hc0, rfl, rfl⟩)) dL_put_18 (Nat.le_of_ble_eq_true rfl) (Nat.le_of_ble_eq_true rfl)
  · skip
    obtain ⟨m, y, z, h_0, h_1, h_2, h_3, h_4, h_5, rfl, rfl⟩ := hw
    refine ⟨rfl, (dW ay ad (mU Z m (stN (Z.2.2 (2 * m)) (Z.1 m) (nI y) (Z.1 (12 + m))) (stF (Z.2.2 (2 * m)) (Z.1 m) (nI y) (Z.1 (12 + m))) 0 (Z.2.1 (2 + 5 * m)) (Z.2.1 (3 + 5 * m)) (upd (Z.2.2 (2 * m + 1)) y (nI z)) (Z.1 (12 + m)) (if usN (Z.2.2 (2 * m)) (Z.1 m) (nI y) ≤ (Z.1 (12 + m)) then (Z.2.1 (4 + 5 * m)) else (Z.2.1 (4 + 5 * m)) + 1) (if usN (Z.2.2 (2 * m)) (Z.1 m) (nI y) ≤ (Z.1 (12 + m)) then (Z.2.1 (5 + 5 * m)) else usF (Z.2.2 (2 * m)) (Z.1 m) (nI y) 0)) ++ [(o, .inl (ay 3, 1, .inr (.inl fo)))]), rfl, ?_⟩
    refine j_i2l F dL_put_10 ?_
    refine j_last F 55 (dW ay ad (mU Z m (stN (Z.2.2 (2 * m)) (Z.1 m) (nI y) (Z.1 (12 + m))) (stF (Z.2.2 (2 * m)) (Z.1 m) (nI y) (Z.1 (12 + m))) 0 (Z.2.1 (2 + 5 * m)) (Z.2.1 (3 + 5 * m)) (upd (Z.2.2 (2 * m + 1)) y (nI z)) (Z.1 (12 + m)) (if usN (Z.2.2 (2 * m)) (Z.1 m) (nI y) ≤ (Z.1 (12 + m)) then (Z.2.1 (4 + 5 * m)) else (Z.2.1 (4 + 5 * m)) + 1) (if usN (Z.2.2 (2 * m)) (Z.1 m) (nI y) ≤ (Z.1 (12 + m)) then (Z.2.1 (5 + 5 * m)) else usF (Z.2.2 (2 * m)) (Z.1 m) (nI y) 0)) ++ [(o, .inl (ay 3, 1, .inr (.inl (vp_updL fo 0 (((if fx (Z.2.2 (2 * m)) (nI y) (Z.1 m) < (Z.1 m) then (Z.2.2 (2 * m + 1)) y else -1) : Int32).toInt64)))))]) 0 rfl rfl (by omega) (Nat.le_of_ble_eq_true rfl) rfl dL_put_11 ?_
    refine j_goto F 19 dL_put_12 (by decide) ?_
    refine j_iconst F (v := 0) dL_put_19 (by decide) ?_
    exact j_iret F (Or.inl ⟨m, y, z, h_0, h_1, h_2, h_3, h_4, h_5, rfl, rfl⟩) dL_put_20 (Nat.le_of_ble_eq_true rfl) (Nat.le_of_ble_eq_true rfl)

set_option maxHeartbeats 4000000 in
set_option maxRecDepth 100000 in
theorem h_putIfAbsent (l : Launch) (hfl : l.stackTraces = false) (D : va_G) (ay : Nat → ClassId) (sa : Nat → Nat) (ad : Nat → Nat) (Z : DS) (mp : Int32) (ky : Int32) (vl : Int32) (o : Nat) (fo : Nat → Int64) (hI : ∀ m, m < 2 → mI Z m) : jH l yL_putIfAbsent (jwsH yL_putIfAbsent cL_putIfAbsent 6 (some .int) [(0, 12, 15, 13)]) 9 167 3 18 D ay sa [.ref (ad 0), .int mp, .int ky, .int vl, .ref o] (dW ay ad Z ++ [(o, .inl (ay 3, 1, .inr (.inl fo)))]) (fun v w => (∃ (m : Nat), ∃ (y : Nat), ∃ (z : Nat), m < 2 ∧ y < 100 ∧ z < 1000 ∧ mp = nI m ∧ ky = nI y ∧ vl = nI z ∧ v = some (.int 0) ∧ w = (dW ay ad (mU Z m (stN (Z.2.2 (2 * m)) (Z.1 m) (nI y) (Z.1 (12 + m))) (stF (Z.2.2 (2 * m)) (Z.1 m) (nI y) (Z.1 (12 + m))) 0 (Z.2.1 (2 + 5 * m)) (Z.2.1 (3 + 5 * m)) (upd (Z.2.2 (2 * m + 1)) y (if fx (Z.2.2 (2 * m)) (nI y) (Z.1 m) < (Z.1 m) then (Z.2.2 (2 * m + 1)) y else (nI z))) (Z.1 (12 + m)) (if usN (Z.2.2 (2 * m)) (Z.1 m) (nI y) ≤ (Z.1 (12 + m)) then (Z.2.1 (4 + 5 * m)) else (Z.2.1 (4 + 5 * m)) + 1) (if usN (Z.2.2 (2 * m)) (Z.1 m) (nI y) ≤ (Z.1 (12 + m)) then (Z.2.1 (5 + 5 * m)) else usF (Z.2.2 (2 * m)) (Z.1 m) (nI y) 0)) ++ [(o, .inl (ay 3, 1, .inr (.inl (vp_updL fo 0 ((if fx (Z.2.2 (2 * m)) (nI y) (Z.1 m) < (Z.1 m) then (Z.2.2 (2 * m + 1)) y else -1 : Int32)).toInt64))))])) ∨ ((oob mp 0 1 ∨ oob ky 0 99 ∨ oob vl 0 999) ∧ v = some (.int 1) ∧ w = (dW ay ad Z ++ [(o, .inl (ay 3, 1, .inr (.inl fo)))]))) := by
  refine jH_of l (by decide) [(0, .ref (ad 0)), (1, .int mp), (2, .int ky), (3, .int vl), (4, .ref o)] rfl rfl (fun p9 e9 s9 m9 a9 b9 me9 c9 A9 F hX hN htab => ?_)
  refine j_aload F 4 dL_putIfAbsent_0 rfl ?_
  refine j_iconst F (v := 0) dL_putIfAbsent_2 (by decide) ?_
  refine j_aload_n F 0 dL_putIfAbsent_3 rfl ?_
  refine j_iload_n F 1 dL_putIfAbsent_4 rfl ?_
  refine j_iload_n F 2 dL_putIfAbsent_5 rfl ?_
  refine j_iload_n F 3 dL_putIfAbsent_6 rfl ?_
  refine j_tryV F hX kL_15 (As := [.int mp, .int ky, .int vl]) (rest := [.int 0, .ref o]) (c_X9_putIfAbsent l hfl D ay sa ad Z mp ky vl hI) 0 0 55 rfl rfl rfl rfl rfl rfl ⟨Nat.le_of_ble_eq_true rfl, Nat.le_of_ble_eq_true rfl⟩ dL_putIfAbsent_7 (fun E w hx => ?_) (fun v w hw => ?_)
  · skip
    rcases hx with ⟨rfl, hc0, rfl⟩
    · skip
      refine ⟨rfl, (dW ay ad Z ++ [(o, .inl (ay 3, 1, .inr (.inl fo)))]), 15, rfl, (jCat_1 htab rfl (by decide) (F.2.2.2.2.1 _ gL_eIA) (va_Nw.use rfl hX.2.2.2.2.2.2.1)), fun q9 => ?_⟩
      refine j_astore F 5 [(5, .ref q9), (0, .ref (ad 0)), (1, .int mp), (2, .int ky), (3, .int vl), (4, .ref o)] dL_putIfAbsent_15 (by decide) rfl ?_
      refine j_iconst F (v := 1) dL_putIfAbsent_17 (by decide) ?_
      exact j_iret F (Or.inr (⟨hc0, rfl, rfl⟩)) dL_putIfAbsent_18 (Nat.le_of_ble_eq_true rfl) (Nat.le_of_ble_eq_true rfl)
  · skip
    obtain ⟨m, y, z, h_0, h_1, h_2, h_3, h_4, h_5, rfl, rfl⟩ := hw
    refine ⟨rfl, (dW ay ad (mU Z m (stN (Z.2.2 (2 * m)) (Z.1 m) (nI y) (Z.1 (12 + m))) (stF (Z.2.2 (2 * m)) (Z.1 m) (nI y) (Z.1 (12 + m))) 0 (Z.2.1 (2 + 5 * m)) (Z.2.1 (3 + 5 * m)) (upd (Z.2.2 (2 * m + 1)) y (if fx (Z.2.2 (2 * m)) (nI y) (Z.1 m) < (Z.1 m) then (Z.2.2 (2 * m + 1)) y else (nI z))) (Z.1 (12 + m)) (if usN (Z.2.2 (2 * m)) (Z.1 m) (nI y) ≤ (Z.1 (12 + m)) then (Z.2.1 (4 + 5 * m)) else (Z.2.1 (4 + 5 * m)) + 1) (if usN (Z.2.2 (2 * m)) (Z.1 m) (nI y) ≤ (Z.1 (12 + m)) then (Z.2.1 (5 + 5 * m)) else usF (Z.2.2 (2 * m)) (Z.1 m) (nI y) 0)) ++ [(o, .inl (ay 3, 1, .inr (.inl fo)))]), rfl, ?_⟩
    refine j_i2l F dL_putIfAbsent_10 ?_
    refine j_last F 55 (dW ay ad (mU Z m (stN (Z.2.2 (2 * m)) (Z.1 m) (nI y) (Z.1 (12 + m))) (stF (Z.2.2 (2 * m)) (Z.1 m) (nI y) (Z.1 (12 + m))) 0 (Z.2.1 (2 + 5 * m)) (Z.2.1 (3 + 5 * m)) (upd (Z.2.2 (2 * m + 1)) y (if fx (Z.2.2 (2 * m)) (nI y) (Z.1 m) < (Z.1 m) then (Z.2.2 (2 * m + 1)) y else (nI z))) (Z.1 (12 + m)) (if usN (Z.2.2 (2 * m)) (Z.1 m) (nI y) ≤ (Z.1 (12 + m)) then (Z.2.1 (4 + 5 * m)) else (Z.2.1 (4 + 5 * m)) + 1) (if usN (Z.2.2 (2 * m)) (Z.1 m) (nI y) ≤ (Z.1 (12 + m)) then (Z.2.1 (5 + 5 * m)) else usF (Z.2.2 (2 * m)) (Z.1 m) (nI y) 0)) ++ [(o, .inl (ay 3, 1, .inr (.inl (vp_updL fo 0 (((if fx (Z.2.2 (2 * m)) (nI y) (Z.1 m) < (Z.1 m) then (Z.2.2 (2 * m + 1)) y else -1) : Int32).toInt64)))))]) 0 rfl rfl (by omega) (Nat.le_of_ble_eq_true rfl) rfl dL_putIfAbsent_11 ?_
    refine j_goto F 19 dL_putIfAbsent_12 (by decide) ?_
    refine j_iconst F (v := 0) dL_putIfAbsent_19 (by decide) ?_
    exact j_iret F (Or.inl ⟨m, y, z, h_0, h_1, h_2, h_3, h_4, h_5, rfl, rfl⟩) dL_putIfAbsent_20 (Nat.le_of_ble_eq_true rfl) (Nat.le_of_ble_eq_true rfl)

set_option maxHeartbeats 4000000 in
set_option maxRecDepth 100000 in
theorem h_get (l : Launch) (hfl : l.stackTraces = false) (D : va_G) (ay : Nat → ClassId) (sa : Nat → Nat) (ad : Nat → Nat) (Z : DS) (mp : Int32) (ky : Int32) (o : Nat) (fo : Nat → Int64) (hI : ∀ m, m < 2 → mI Z m) : jH l yL_get (jwsH yL_get cL_get 5 (some .int) [(0, 10, 13, 13)]) 9 166 3 18 D ay sa [.ref (ad 0), .int mp, .int ky, .ref o] (dW ay ad Z ++ [(o, .inl (ay 3, 1, .inr (.inl fo)))]) (fun v w => (∃ (m : Nat), ∃ (y : Nat), m < 2 ∧ y < 100 ∧ mp = nI m ∧ ky = nI y ∧ v = some (.int 0) ∧ w = (dW ay ad (mU Z m (Z.1 m) (if fx (Z.2.2 (2 * m)) (nI y) (Z.1 m) < (Z.1 m) then usF (Z.2.2 (2 * m)) (Z.1 m) (nI y) else (Z.2.2 (2 * m))) 0 (Z.2.1 (2 + 5 * m)) (Z.2.1 (3 + 5 * m)) (Z.2.2 (2 * m + 1)) (Z.1 (12 + m)) (Z.2.1 (4 + 5 * m)) (Z.2.1 (5 + 5 * m))) ++ [(o, .inl (ay 3, 1, .inr (.inl (vp_updL fo 0 ((if fx (Z.2.2 (2 * m)) (nI y) (Z.1 m) < (Z.1 m) then (Z.2.2 (2 * m + 1)) y else -1 : Int32)).toInt64))))])) ∨ ((oob mp 0 1 ∨ oob ky 0 99) ∧ v = some (.int 1) ∧ w = (dW ay ad Z ++ [(o, .inl (ay 3, 1, .inr (.inl fo)))]))) := by
  refine jH_of l (by decide) [(0, .ref (ad 0)), (1, .int mp), (2, .int ky), (3, .ref o)] rfl rfl (fun p9 e9 s9 m9 a9 b9 me9 c9 A9 F hX hN htab => ?_)
  refine j_aload_n F 3 dL_get_0 rfl ?_
  refine j_iconst F (v := 0) dL_get_1 (by decide) ?_
  refine j_aload_n F 0 dL_get_2 rfl ?_
  refine j_iload_n F 1 dL_get_3 rfl ?_
  refine j_iload_n F 2 dL_get_4 rfl ?_
  refine j_tryV F hX kL_18 (As := [.int mp, .int ky]) (rest := [.int 0, .ref o]) (c_X9_get l hfl D ay sa ad Z mp ky hI) 0 0 55 rfl rfl rfl rfl rfl rfl ⟨Nat.le_of_ble_eq_true rfl, Nat.le_of_ble_eq_true rfl⟩ dL_get_5 (fun E w hx => ?_) (fun v w hw => ?_)
  · skip
    rcases hx with ⟨rfl, hc0, rfl⟩
    · skip
      refine ⟨rfl, (dW ay ad Z ++ [(o, .inl (ay 3, 1, .inr (.inl fo)))]), 13, rfl, (jCat_1 htab rfl (by decide) (F.2.2.2.2.1 _ gL_eIA) (va_Nw.use rfl hX.2.2.2.2.2.2.1)), fun q9 => ?_⟩
      refine j_astore F 4 [(4, .ref q9), (0, .ref (ad 0)), (1, .int mp), (2, .int ky), (3, .ref o)] dL_get_13 (by decide) rfl ?_
      refine j_iconst F (v := 1) dL_get_15 (by decide) ?_
      exact j_iret F (Or.inr (⟨hc0, rfl, rfl⟩)) dL_get_16 (Nat.le_of_ble_eq_true rfl) (Nat.le_of_ble_eq_true rfl)
  · skip
    obtain ⟨m, y, h_0, h_1, h_2, h_3, rfl, rfl⟩ := hw
    refine ⟨rfl, (dW ay ad (mU Z m (Z.1 m) (if fx (Z.2.2 (2 * m)) (nI y) (Z.1 m) < (Z.1 m) then usF (Z.2.2 (2 * m)) (Z.1 m) (nI y) else (Z.2.2 (2 * m))) 0 (Z.2.1 (2 + 5 * m)) (Z.2.1 (3 + 5 * m)) (Z.2.2 (2 * m + 1)) (Z.1 (12 + m)) (Z.2.1 (4 + 5 * m)) (Z.2.1 (5 + 5 * m))) ++ [(o, .inl (ay 3, 1, .inr (.inl fo)))]), rfl, ?_⟩
    refine j_i2l F dL_get_8 ?_
    refine j_last F 55 (dW ay ad (mU Z m (Z.1 m) (if fx (Z.2.2 (2 * m)) (nI y) (Z.1 m) < (Z.1 m) then usF (Z.2.2 (2 * m)) (Z.1 m) (nI y) else (Z.2.2 (2 * m))) 0 (Z.2.1 (2 + 5 * m)) (Z.2.1 (3 + 5 * m)) (Z.2.2 (2 * m + 1)) (Z.1 (12 + m)) (Z.2.1 (4 + 5 * m)) (Z.2.1 (5 + 5 * m))) ++ [(o, .inl (ay 3, 1, .inr (.inl (vp_updL fo 0 (((if fx (Z.2.2 (2 * m)) (nI y) (Z.1 m) < (Z.1 m) then (Z.2.2 (2 * m + 1)) y else -1) : Int32).toInt64)))))]) 0 rfl rfl (by omega) (Nat.le_of_ble_eq_true rfl) rfl dL_get_9 ?_
    refine j_goto F 17 dL_get_10 (by decide) ?_
    refine j_iconst F (v := 0) dL_get_17 (by decide) ?_
    exact j_iret F (Or.inl ⟨m, y, h_0, h_1, h_2, h_3, rfl, rfl⟩) dL_get_18 (Nat.le_of_ble_eq_true rfl) (Nat.le_of_ble_eq_true rfl)

set_option maxHeartbeats 4000000 in
set_option maxRecDepth 100000 in
theorem h_getOrDefault (l : Launch) (hfl : l.stackTraces = false) (D : va_G) (ay : Nat → ClassId) (sa : Nat → Nat) (ad : Nat → Nat) (Z : DS) (mp : Int32) (ky : Int32) (vl : Int32) (o : Nat) (fo : Nat → Int64) (hI : ∀ m, m < 2 → mI Z m) : jH l yL_getOrDefault (jwsH yL_getOrDefault cL_getOrDefault 6 (some .int) [(0, 12, 15, 13)]) 9 168 3 18 D ay sa [.ref (ad 0), .int mp, .int ky, .int vl, .ref o] (dW ay ad Z ++ [(o, .inl (ay 3, 1, .inr (.inl fo)))]) (fun v w => (∃ (m : Nat), ∃ (y : Nat), m < 2 ∧ y < 100 ∧ mp = nI m ∧ ky = nI y ∧ v = some (.int 0) ∧ w = (dW ay ad (mU Z m (Z.1 m) (if fx (Z.2.2 (2 * m)) (nI y) (Z.1 m) < (Z.1 m) then usF (Z.2.2 (2 * m)) (Z.1 m) (nI y) else (Z.2.2 (2 * m))) 0 (Z.2.1 (2 + 5 * m)) (Z.2.1 (3 + 5 * m)) (Z.2.2 (2 * m + 1)) (Z.1 (12 + m)) (Z.2.1 (4 + 5 * m)) (Z.2.1 (5 + 5 * m))) ++ [(o, .inl (ay 3, 1, .inr (.inl (vp_updL fo 0 ((if fx (Z.2.2 (2 * m)) (nI y) (Z.1 m) < Z.1 m then Z.2.2 (2 * m + 1) y else vl : Int32)).toInt64))))])) ∨ ((oob mp 0 1 ∨ oob ky 0 99) ∧ v = some (.int 1) ∧ w = (dW ay ad Z ++ [(o, .inl (ay 3, 1, .inr (.inl fo)))]))) := by
  refine jH_of l (by decide) [(0, .ref (ad 0)), (1, .int mp), (2, .int ky), (3, .int vl), (4, .ref o)] rfl rfl (fun p9 e9 s9 m9 a9 b9 me9 c9 A9 F hX hN htab => ?_)
  refine j_aload F 4 dL_getOrDefault_0 rfl ?_
  refine j_iconst F (v := 0) dL_getOrDefault_2 (by decide) ?_
  refine j_aload_n F 0 dL_getOrDefault_3 rfl ?_
  refine j_iload_n F 1 dL_getOrDefault_4 rfl ?_
  refine j_iload_n F 2 dL_getOrDefault_5 rfl ?_
  refine j_iload_n F 3 dL_getOrDefault_6 rfl ?_
  refine j_tryV F hX kL_22 (As := [.int mp, .int ky, .int vl]) (rest := [.int 0, .ref o]) (c_X9_getOrDefault l hfl D ay sa ad Z mp ky vl hI) 0 0 55 rfl rfl rfl rfl rfl rfl ⟨Nat.le_of_ble_eq_true rfl, Nat.le_of_ble_eq_true rfl⟩ dL_getOrDefault_7 (fun E w hx => ?_) (fun v w hw => ?_)
  · skip
    rcases hx with ⟨rfl, hc0, rfl⟩
    · skip
      refine ⟨rfl, (dW ay ad Z ++ [(o, .inl (ay 3, 1, .inr (.inl fo)))]), 15, rfl, (jCat_1 htab rfl (by decide) (F.2.2.2.2.1 _ gL_eIA) (va_Nw.use rfl hX.2.2.2.2.2.2.1)), fun q9 => ?_⟩
      refine j_astore F 5 [(5, .ref q9), (0, .ref (ad 0)), (1, .int mp), (2, .int ky), (3, .int vl), (4, .ref o)] dL_getOrDefault_15 (by decide) rfl ?_
      refine j_iconst F (v := 1) dL_getOrDefault_17 (by decide) ?_
      exact j_iret F (Or.inr (⟨hc0, rfl, rfl⟩)) dL_getOrDefault_18 (Nat.le_of_ble_eq_true rfl) (Nat.le_of_ble_eq_true rfl)
  · skip
    obtain ⟨m, y, h_0, h_1, h_2, h_3, rfl, rfl⟩ := hw
    refine ⟨rfl, (dW ay ad (mU Z m (Z.1 m) (if fx (Z.2.2 (2 * m)) (nI y) (Z.1 m) < (Z.1 m) then usF (Z.2.2 (2 * m)) (Z.1 m) (nI y) else (Z.2.2 (2 * m))) 0 (Z.2.1 (2 + 5 * m)) (Z.2.1 (3 + 5 * m)) (Z.2.2 (2 * m + 1)) (Z.1 (12 + m)) (Z.2.1 (4 + 5 * m)) (Z.2.1 (5 + 5 * m))) ++ [(o, .inl (ay 3, 1, .inr (.inl fo)))]), rfl, ?_⟩
    refine j_i2l F dL_getOrDefault_10 ?_
    refine j_last F 55 (dW ay ad (mU Z m (Z.1 m) (if fx (Z.2.2 (2 * m)) (nI y) (Z.1 m) < (Z.1 m) then usF (Z.2.2 (2 * m)) (Z.1 m) (nI y) else (Z.2.2 (2 * m))) 0 (Z.2.1 (2 + 5 * m)) (Z.2.1 (3 + 5 * m)) (Z.2.2 (2 * m + 1)) (Z.1 (12 + m)) (Z.2.1 (4 + 5 * m)) (Z.2.1 (5 + 5 * m))) ++ [(o, .inl (ay 3, 1, .inr (.inl (vp_updL fo 0 (((if fx (Z.2.2 (2 * m)) (nI y) (Z.1 m) < Z.1 m then Z.2.2 (2 * m + 1) y else vl) : Int32).toInt64)))))]) 0 rfl rfl (by omega) (Nat.le_of_ble_eq_true rfl) rfl dL_getOrDefault_11 ?_
    refine j_goto F 19 dL_getOrDefault_12 (by decide) ?_
    refine j_iconst F (v := 0) dL_getOrDefault_19 (by decide) ?_
    exact j_iret F (Or.inl ⟨m, y, h_0, h_1, h_2, h_3, rfl, rfl⟩) dL_getOrDefault_20 (Nat.le_of_ble_eq_true rfl) (Nat.le_of_ble_eq_true rfl)

set_option maxHeartbeats 4000000 in
set_option maxRecDepth 100000 in
theorem h_remove (l : Launch) (hfl : l.stackTraces = false) (D : va_G) (ay : Nat → ClassId) (sa : Nat → Nat) (ad : Nat → Nat) (Z : DS) (mp : Int32) (ky : Int32) (o : Nat) (fo : Nat → Int64) (hI : ∀ m, m < 2 → mI Z m) : jH l yL_remove (jwsH yL_remove cL_remove 5 (some .int) [(0, 10, 13, 13)]) 9 166 3 18 D ay sa [.ref (ad 0), .int mp, .int ky, .ref o] (dW ay ad Z ++ [(o, .inl (ay 3, 1, .inr (.inl fo)))]) (fun v w => (∃ (m : Nat), ∃ (y : Nat), m < 2 ∧ y < 100 ∧ mp = nI m ∧ ky = nI y ∧ v = some (.int 0) ∧ w = (dW ay ad (mU Z m (if fx (Z.2.2 (2 * m)) (nI y) (Z.1 m) < (Z.1 m) then (Z.1 m) - 1 else (Z.1 m)) (if fx (Z.2.2 (2 * m)) (nI y) (Z.1 m) < (Z.1 m) then shf (Z.2.2 (2 * m)) (fx (Z.2.2 (2 * m)) (nI y) (Z.1 m)) (Z.1 m) else (Z.2.2 (2 * m))) 0 (Z.2.1 (2 + 5 * m)) (Z.2.1 (3 + 5 * m)) (Z.2.2 (2 * m + 1)) (Z.1 (12 + m)) (Z.2.1 (4 + 5 * m)) (Z.2.1 (5 + 5 * m))) ++ [(o, .inl (ay 3, 1, .inr (.inl (vp_updL fo 0 ((if fx (Z.2.2 (2 * m)) (nI y) (Z.1 m) < (Z.1 m) then (Z.2.2 (2 * m + 1)) y else -1 : Int32)).toInt64))))])) ∨ ((oob mp 0 1 ∨ oob ky 0 99) ∧ v = some (.int 1) ∧ w = (dW ay ad Z ++ [(o, .inl (ay 3, 1, .inr (.inl fo)))]))) := by
  refine jH_of l (by decide) [(0, .ref (ad 0)), (1, .int mp), (2, .int ky), (3, .ref o)] rfl rfl (fun p9 e9 s9 m9 a9 b9 me9 c9 A9 F hX hN htab => ?_)
  refine j_aload_n F 3 dL_remove_0 rfl ?_
  refine j_iconst F (v := 0) dL_remove_1 (by decide) ?_
  refine j_aload_n F 0 dL_remove_2 rfl ?_
  refine j_iload_n F 1 dL_remove_3 rfl ?_
  refine j_iload_n F 2 dL_remove_4 rfl ?_
  refine j_tryV F hX kL_25 (As := [.int mp, .int ky]) (rest := [.int 0, .ref o]) (c_X9_remove l hfl D ay sa ad Z mp ky hI) 0 0 55 rfl rfl rfl rfl rfl rfl ⟨Nat.le_of_ble_eq_true rfl, Nat.le_of_ble_eq_true rfl⟩ dL_remove_5 (fun E w hx => ?_) (fun v w hw => ?_)
  · skip
    rcases hx with ⟨rfl, hc0, rfl⟩
    · skip
      refine ⟨rfl, (dW ay ad Z ++ [(o, .inl (ay 3, 1, .inr (.inl fo)))]), 13, rfl, (jCat_1 htab rfl (by decide) (F.2.2.2.2.1 _ gL_eIA) (va_Nw.use rfl hX.2.2.2.2.2.2.1)), fun q9 => ?_⟩
      refine j_astore F 4 [(4, .ref q9), (0, .ref (ad 0)), (1, .int mp), (2, .int ky), (3, .ref o)] dL_remove_13 (by decide) rfl ?_
      refine j_iconst F (v := 1) dL_remove_15 (by decide) ?_
      exact j_iret F (Or.inr (⟨hc0, rfl, rfl⟩)) dL_remove_16 (Nat.le_of_ble_eq_true rfl) (Nat.le_of_ble_eq_true rfl)
  · skip
    obtain ⟨m, y, h_0, h_1, h_2, h_3, rfl, rfl⟩ := hw
    refine ⟨rfl, (dW ay ad (mU Z m (if fx (Z.2.2 (2 * m)) (nI y) (Z.1 m) < (Z.1 m) then (Z.1 m) - 1 else (Z.1 m)) (if fx (Z.2.2 (2 * m)) (nI y) (Z.1 m) < (Z.1 m) then shf (Z.2.2 (2 * m)) (fx (Z.2.2 (2 * m)) (nI y) (Z.1 m)) (Z.1 m) else (Z.2.2 (2 * m))) 0 (Z.2.1 (2 + 5 * m)) (Z.2.1 (3 + 5 * m)) (Z.2.2 (2 * m + 1)) (Z.1 (12 + m)) (Z.2.1 (4 + 5 * m)) (Z.2.1 (5 + 5 * m))) ++ [(o, .inl (ay 3, 1, .inr (.inl fo)))]), rfl, ?_⟩
    refine j_i2l F dL_remove_8 ?_
    refine j_last F 55 (dW ay ad (mU Z m (if fx (Z.2.2 (2 * m)) (nI y) (Z.1 m) < (Z.1 m) then (Z.1 m) - 1 else (Z.1 m)) (if fx (Z.2.2 (2 * m)) (nI y) (Z.1 m) < (Z.1 m) then shf (Z.2.2 (2 * m)) (fx (Z.2.2 (2 * m)) (nI y) (Z.1 m)) (Z.1 m) else (Z.2.2 (2 * m))) 0 (Z.2.1 (2 + 5 * m)) (Z.2.1 (3 + 5 * m)) (Z.2.2 (2 * m + 1)) (Z.1 (12 + m)) (Z.2.1 (4 + 5 * m)) (Z.2.1 (5 + 5 * m))) ++ [(o, .inl (ay 3, 1, .inr (.inl (vp_updL fo 0 (((if fx (Z.2.2 (2 * m)) (nI y) (Z.1 m) < (Z.1 m) then (Z.2.2 (2 * m + 1)) y else -1) : Int32).toInt64)))))]) 0 rfl rfl (by omega) (Nat.le_of_ble_eq_true rfl) rfl dL_remove_9 ?_
    refine j_goto F 17 dL_remove_10 (by decide) ?_
    refine j_iconst F (v := 0) dL_remove_17 (by decide) ?_
    exact j_iret F (Or.inl ⟨m, y, h_0, h_1, h_2, h_3, rfl, rfl⟩) dL_remove_18 (Nat.le_of_ble_eq_true rfl) (Nat.le_of_ble_eq_true rfl)

set_option maxHeartbeats 4000000 in
set_option maxRecDepth 100000 in
theorem h_clear (l : Launch) (hfl : l.stackTraces = false) (D : va_G) (ay : Nat → ClassId) (sa : Nat → Nat) (ad : Nat → Nat) (Z : DS) (mp : Int32) (o : Nat) (fo : Nat → Int64) : jH l yL_clear (jwsH yL_clear cL_clear 4 (some .int) [(0, 9, 12, 13)]) 9 164 3 18 D ay sa [.ref (ad 0), .int mp, .ref o] (dW ay ad Z ++ [(o, .inl (ay 3, 1, .inr (.inl fo)))]) (fun v w => (∃ (m : Nat), m < 2 ∧ mp = nI m ∧ v = some (.int 0) ∧ w = (dW ay ad (mU Z m 0 (Z.2.2 (2 * m)) 0 (Z.2.1 (2 + 5 * m)) (Z.2.1 (3 + 5 * m)) (Z.2.2 (2 * m + 1)) (Z.1 (12 + m)) (Z.2.1 (4 + 5 * m)) (Z.2.1 (5 + 5 * m))) ++ [(o, .inl (ay 3, 1, .inr (.inl (vp_updL fo 0 ((nI (Z.1 m) : Int32)).toInt64))))])) ∨ ((oob mp 0 1) ∧ v = some (.int 1) ∧ w = (dW ay ad Z ++ [(o, .inl (ay 3, 1, .inr (.inl fo)))]))) := by
  refine jH_of l (by decide) [(0, .ref (ad 0)), (1, .int mp), (2, .ref o)] rfl rfl (fun p9 e9 s9 m9 a9 b9 me9 c9 A9 F hX hN htab => ?_)
  refine j_aload_n F 2 dL_clear_0 rfl ?_
  refine j_iconst F (v := 0) dL_clear_1 (by decide) ?_
  refine j_aload_n F 0 dL_clear_2 rfl ?_
  refine j_iload_n F 1 dL_clear_3 rfl ?_
  refine j_tryV F hX kL_28 (As := [.int mp]) (rest := [.int 0, .ref o]) (c_X9_clear l hfl D ay sa ad Z mp) 0 0 55 rfl rfl rfl rfl rfl rfl ⟨Nat.le_of_ble_eq_true rfl, Nat.le_of_ble_eq_true rfl⟩ dL_clear_4 (fun E w hx => ?_) (fun v w hw => ?_)
  · skip
    rcases hx with ⟨rfl, hc0, rfl⟩
    · skip
      refine ⟨rfl, (dW ay ad Z ++ [(o, .inl (ay 3, 1, .inr (.inl fo)))]), 12, rfl, (jCat_1 htab rfl (by decide) (F.2.2.2.2.1 _ gL_eIA) (va_Nw.use rfl hX.2.2.2.2.2.2.1)), fun q9 => ?_⟩
      refine j_astore_n F 3 [(3, .ref q9), (0, .ref (ad 0)), (1, .int mp), (2, .ref o)] dL_clear_12 rfl (by decide) rfl ?_
      refine j_iconst F (v := 1) dL_clear_13 (by decide) ?_
      exact j_iret F (Or.inr (⟨hc0, rfl, rfl⟩)) dL_clear_14 (Nat.le_of_ble_eq_true rfl) (Nat.le_of_ble_eq_true rfl)
  · skip
    obtain ⟨m, h_0, h_1, rfl, rfl⟩ := hw
    refine ⟨rfl, (dW ay ad (mU Z m 0 (Z.2.2 (2 * m)) 0 (Z.2.1 (2 + 5 * m)) (Z.2.1 (3 + 5 * m)) (Z.2.2 (2 * m + 1)) (Z.1 (12 + m)) (Z.2.1 (4 + 5 * m)) (Z.2.1 (5 + 5 * m))) ++ [(o, .inl (ay 3, 1, .inr (.inl fo)))]), rfl, ?_⟩
    refine j_i2l F dL_clear_7 ?_
    refine j_last F 55 (dW ay ad (mU Z m 0 (Z.2.2 (2 * m)) 0 (Z.2.1 (2 + 5 * m)) (Z.2.1 (3 + 5 * m)) (Z.2.2 (2 * m + 1)) (Z.1 (12 + m)) (Z.2.1 (4 + 5 * m)) (Z.2.1 (5 + 5 * m))) ++ [(o, .inl (ay 3, 1, .inr (.inl (vp_updL fo 0 (((nI (Z.1 m)) : Int32).toInt64)))))]) 0 rfl rfl (by omega) (Nat.le_of_ble_eq_true rfl) rfl dL_clear_8 ?_
    refine j_goto F 15 dL_clear_9 (by decide) ?_
    refine j_iconst F (v := 0) dL_clear_15 (by decide) ?_
    exact j_iret F (Or.inl ⟨m, h_0, h_1, rfl, rfl⟩) dL_clear_16 (Nat.le_of_ble_eq_true rfl) (Nat.le_of_ble_eq_true rfl)

set_option maxHeartbeats 4000000 in
set_option maxRecDepth 100000 in
theorem h_setBound (l : Launch) (hfl : l.stackTraces = false) (D : va_G) (ay : Nat → ClassId) (sa : Nat → Nat) (ad : Nat → Nat) (Z : DS) (bd : Int32) (o : Nat) (fo : Nat → Int64) : jH l yL_setBound (jwsH yL_setBound cL_setBound 4 (some .int) [(0, 9, 12, 13)]) 8 143 3 18 D ay sa [.ref (ad 0), .int bd, .ref o] (dW ay ad Z ++ [(o, .inl (ay 3, 1, .inr (.inl fo)))]) (fun v w => (∃ (b : Nat), 1 ≤ b ∧ b ≤ 20 ∧ bd = nI b ∧ v = some (.int 0) ∧ w = (dW ay ad (mU Z 1 0 (Z.2.2 2) 0 (Z.2.1 7) (Z.2.1 8) (Z.2.2 3) b (Z.2.1 9) (Z.2.1 10)) ++ [(o, .inl (ay 3, 1, .inr (.inl (vp_updL fo 0 ((nI (Z.1 13) : Int32)).toInt64))))])) ∨ ((oob bd 1 20) ∧ v = some (.int 1) ∧ w = (dW ay ad Z ++ [(o, .inl (ay 3, 1, .inr (.inl fo)))]))) := by
  refine jH_of l (by decide) [(0, .ref (ad 0)), (1, .int bd), (2, .ref o)] rfl rfl (fun p9 e9 s9 m9 a9 b9 me9 c9 A9 F hX hN htab => ?_)
  refine j_aload_n F 2 dL_setBound_0 rfl ?_
  refine j_iconst F (v := 0) dL_setBound_1 (by decide) ?_
  refine j_aload_n F 0 dL_setBound_2 rfl ?_
  refine j_iload_n F 1 dL_setBound_3 rfl ?_
  refine j_tryV F hX kL_32 (As := [.int bd]) (rest := [.int 0, .ref o]) (c_X9_setBound l hfl D ay sa ad Z bd) 0 0 55 rfl rfl rfl rfl rfl rfl ⟨Nat.le_of_ble_eq_true rfl, Nat.le_of_ble_eq_true rfl⟩ dL_setBound_4 (fun E w hx => ?_) (fun v w hw => ?_)
  · skip
    rcases hx with ⟨rfl, hc0, rfl⟩
    · skip
      refine ⟨rfl, (dW ay ad Z ++ [(o, .inl (ay 3, 1, .inr (.inl fo)))]), 12, rfl, (jCat_1 htab rfl (by decide) (F.2.2.2.2.1 _ gL_eIA) (va_Nw.use rfl hX.2.2.2.2.2.2.1)), fun q9 => ?_⟩
      refine j_astore_n F 3 [(3, .ref q9), (0, .ref (ad 0)), (1, .int bd), (2, .ref o)] dL_setBound_12 rfl (by decide) rfl ?_
      refine j_iconst F (v := 1) dL_setBound_13 (by decide) ?_
      exact j_iret F (Or.inr (⟨hc0, rfl, rfl⟩)) dL_setBound_14 (Nat.le_of_ble_eq_true rfl) (Nat.le_of_ble_eq_true rfl)
  · skip
    obtain ⟨b, h_0, h_1, h_2, rfl, rfl⟩ := hw
    refine ⟨rfl, (dW ay ad (mU Z 1 0 (Z.2.2 2) 0 (Z.2.1 7) (Z.2.1 8) (Z.2.2 3) b (Z.2.1 9) (Z.2.1 10)) ++ [(o, .inl (ay 3, 1, .inr (.inl fo)))]), rfl, ?_⟩
    refine j_i2l F dL_setBound_7 ?_
    refine j_last F 55 (dW ay ad (mU Z 1 0 (Z.2.2 2) 0 (Z.2.1 7) (Z.2.1 8) (Z.2.2 3) b (Z.2.1 9) (Z.2.1 10)) ++ [(o, .inl (ay 3, 1, .inr (.inl (vp_updL fo 0 (((nI (Z.1 13)) : Int32).toInt64)))))]) 0 rfl rfl (by omega) (Nat.le_of_ble_eq_true rfl) rfl dL_setBound_8 ?_
    refine j_goto F 15 dL_setBound_9 (by decide) ?_
    refine j_iconst F (v := 0) dL_setBound_15 (by decide) ?_
    exact j_iret F (Or.inl ⟨b, h_0, h_1, h_2, rfl, rfl⟩) dL_setBound_16 (Nat.le_of_ble_eq_true rfl) (Nat.le_of_ble_eq_true rfl)

set_option maxHeartbeats 4000000 in
set_option maxRecDepth 100000 in
theorem h_hasKey (l : Launch) (hfl : l.stackTraces = false) (D : va_G) (ay : Nat → ClassId) (sa : Nat → Nat) (ad : Nat → Nat) (Z : DS) (mp : Int32) (ky : Int32) (o : Nat) (fo : Nat → Int64) (hI : ∀ m, m < 2 → mI Z m) : jH l yL_hasKey (jwsH yL_hasKey cL_hasKey 5 (some .int) [(0, 17, 20, 13)]) 9 166 3 18 D ay sa [.ref (ad 0), .int mp, .int ky, .ref o] (dW ay ad Z ++ [(o, .inl (ay 3, 1, .inr (.inl fo)))]) (fun v w => (∃ (m : Nat), ∃ (y : Nat), m < 2 ∧ y < 100 ∧ mp = nI m ∧ ky = nI y ∧ v = some (.int 0) ∧ w = (dW ay ad Z ++ [(o, .inl (ay 3, 1, .inr (.inl (vp_updL fo 0 (if (if fx (Z.2.2 (2 * m)) (nI y) (Z.1 m) < Z.1 m then 1 else 0 : Int32) = 0 then 0 else 1)))))])) ∨ ((oob mp 0 1 ∨ oob ky 0 99) ∧ v = some (.int 1) ∧ w = (dW ay ad Z ++ [(o, .inl (ay 3, 1, .inr (.inl fo)))]))) := by
  refine jH_of l (by decide) [(0, .ref (ad 0)), (1, .int mp), (2, .int ky), (3, .ref o)] rfl rfl (fun p9 e9 s9 m9 a9 b9 me9 c9 A9 F hX hN htab => ?_)
  refine j_aload_n F 3 dL_hasKey_0 rfl ?_
  refine j_iconst F (v := 0) dL_hasKey_1 (by decide) ?_
  refine j_aload_n F 0 dL_hasKey_2 rfl ?_
  refine j_iload_n F 1 dL_hasKey_3 rfl ?_
  refine j_iload_n F 2 dL_hasKey_4 rfl ?_
  refine j_tryV F hX kL_35 (As := [.int mp, .int ky]) (rest := [.int 0, .ref o]) (c_X9_hasKey l hfl D ay sa ad Z mp ky hI) 0 0 55 rfl rfl rfl rfl rfl rfl ⟨Nat.le_of_ble_eq_true rfl, Nat.le_of_ble_eq_true rfl⟩ dL_hasKey_5 (fun E w hx => ?_) (fun v w hw => ?_)
  · skip
    rcases hx with ⟨rfl, hc0, rfl⟩
    · skip
      refine ⟨rfl, (dW ay ad Z ++ [(o, .inl (ay 3, 1, .inr (.inl fo)))]), 20, rfl, (jCat_1 htab rfl (by decide) (F.2.2.2.2.1 _ gL_eIA) (va_Nw.use rfl hX.2.2.2.2.2.2.1)), fun q9 => ?_⟩
      refine j_astore F 4 [(4, .ref q9), (0, .ref (ad 0)), (1, .int mp), (2, .int ky), (3, .ref o)] dL_hasKey_20 (by decide) rfl ?_
      refine j_iconst F (v := 1) dL_hasKey_22 (by decide) ?_
      exact j_iret F (Or.inr (⟨hc0, rfl, rfl⟩)) dL_hasKey_23 (Nat.le_of_ble_eq_true rfl) (Nat.le_of_ble_eq_true rfl)
  · skip
    obtain ⟨m, y, h_0, h_1, h_2, h_3, rfl, rfl⟩ := hw
    refine ⟨rfl, (dW ay ad Z ++ [(o, .inl (ay 3, 1, .inr (.inl fo)))]), rfl, ?_⟩
    refine j_if_eq F 15 dL_hasKey_8 (by decide) (fun c_8 => ?_) (fun c_8 => ?_)
    · skip
      refine j_lconst F (v := 0) dL_hasKey_15 (by decide) ?_
      refine j_last F 55 (dW ay ad Z ++ [(o, .inl (ay 3, 1, .inr (.inl (vp_updL fo 0 0))))]) 0 rfl rfl (by omega) (Nat.le_of_ble_eq_true rfl) rfl dL_hasKey_16 ?_
      refine j_goto F 24 dL_hasKey_17 (by decide) ?_
      refine j_iconst F (v := 0) dL_hasKey_24 (by decide) ?_
      exact j_iret F (Or.inl ⟨m, y, h_0, h_1, h_2, h_3, rfl, by rw [if_pos c_8]⟩) dL_hasKey_25 (Nat.le_of_ble_eq_true rfl) (Nat.le_of_ble_eq_true rfl)
    · skip
      refine j_lconst F (v := 1) dL_hasKey_11 (by decide) ?_
      refine j_goto F 16 dL_hasKey_12 (by decide) ?_
      refine j_last F 55 (dW ay ad Z ++ [(o, .inl (ay 3, 1, .inr (.inl (vp_updL fo 0 1))))]) 0 rfl rfl (by omega) (Nat.le_of_ble_eq_true rfl) rfl dL_hasKey_16 ?_
      refine j_goto F 24 dL_hasKey_17 (by decide) ?_
      refine j_iconst F (v := 0) dL_hasKey_24 (by decide) ?_
      exact j_iret F (Or.inl ⟨m, y, h_0, h_1, h_2, h_3, rfl, by rw [if_neg c_8]⟩) dL_hasKey_25 (Nat.le_of_ble_eq_true rfl) (Nat.le_of_ble_eq_true rfl)

set_option maxHeartbeats 4000000 in
set_option maxRecDepth 100000 in
theorem h_hasValue (l : Launch) (hfl : l.stackTraces = false) (D : va_G) (ay : Nat → ClassId) (sa : Nat → Nat) (ad : Nat → Nat) (Z : DS) (mp : Int32) (vl : Int32) (o : Nat) (fo : Nat → Int64) (hI : ∀ m, m < 2 → mI Z m) : jH l yL_hasValue (jwsH yL_hasValue cL_hasValue 5 (some .int) [(0, 17, 20, 13)]) 9 166 3 18 D ay sa [.ref (ad 0), .int mp, .int vl, .ref o] (dW ay ad Z ++ [(o, .inl (ay 3, 1, .inr (.inl fo)))]) (fun v w => (∃ (m : Nat), ∃ (z : Nat), m < 2 ∧ z < 1000 ∧ mp = nI m ∧ vl = nI z ∧ v = some (.int 0) ∧ w = (dW ay ad Z ++ [(o, .inl (ay 3, 1, .inr (.inl (vp_updL fo 0 (if (if fx (fun j => Z.2.2 (2 * m + 1) (kN (Z.2.2 (2 * m)) j)) (nI z) (Z.1 m) < Z.1 m then 1 else 0 : Int32) = 0 then 0 else 1)))))])) ∨ ((oob mp 0 1 ∨ oob vl 0 999) ∧ v = some (.int 1) ∧ w = (dW ay ad Z ++ [(o, .inl (ay 3, 1, .inr (.inl fo)))]))) := by
  refine jH_of l (by decide) [(0, .ref (ad 0)), (1, .int mp), (2, .int vl), (3, .ref o)] rfl rfl (fun p9 e9 s9 m9 a9 b9 me9 c9 A9 F hX hN htab => ?_)
  refine j_aload_n F 3 dL_hasValue_0 rfl ?_
  refine j_iconst F (v := 0) dL_hasValue_1 (by decide) ?_
  refine j_aload_n F 0 dL_hasValue_2 rfl ?_
  refine j_iload_n F 1 dL_hasValue_3 rfl ?_
  refine j_iload_n F 2 dL_hasValue_4 rfl ?_
  refine j_tryV F hX kL_39 (As := [.int mp, .int vl]) (rest := [.int 0, .ref o]) (c_X9_hasValue l hfl D ay sa ad Z mp vl hI) 0 0 55 rfl rfl rfl rfl rfl rfl ⟨Nat.le_of_ble_eq_true rfl, Nat.le_of_ble_eq_true rfl⟩ dL_hasValue_5 (fun E w hx => ?_) (fun v w hw => ?_)
  · skip
    rcases hx with ⟨rfl, hc0, rfl⟩
    · skip
      refine ⟨rfl, (dW ay ad Z ++ [(o, .inl (ay 3, 1, .inr (.inl fo)))]), 20, rfl, (jCat_1 htab rfl (by decide) (F.2.2.2.2.1 _ gL_eIA) (va_Nw.use rfl hX.2.2.2.2.2.2.1)), fun q9 => ?_⟩
      refine j_astore F 4 [(4, .ref q9), (0, .ref (ad 0)), (1, .int mp), (2, .int vl), (3, .ref o)] dL_hasValue_20 (by decide) rfl ?_
      refine j_iconst F (v := 1) dL_hasValue_22 (by decide) ?_
      exact j_iret F (Or.inr (⟨hc0, rfl, rfl⟩)) dL_hasValue_23 (Nat.le_of_ble_eq_true rfl) (Nat.le_of_ble_eq_true rfl)
  · skip
    obtain ⟨m, z, h_0, h_1, h_2, h_3, rfl, rfl⟩ := hw
    refine ⟨rfl, (dW ay ad Z ++ [(o, .inl (ay 3, 1, .inr (.inl fo)))]), rfl, ?_⟩
    refine j_if_eq F 15 dL_hasValue_8 (by decide) (fun c_8 => ?_) (fun c_8 => ?_)
    · skip
      refine j_lconst F (v := 0) dL_hasValue_15 (by decide) ?_
      refine j_last F 55 (dW ay ad Z ++ [(o, .inl (ay 3, 1, .inr (.inl (vp_updL fo 0 0))))]) 0 rfl rfl (by omega) (Nat.le_of_ble_eq_true rfl) rfl dL_hasValue_16 ?_
      refine j_goto F 24 dL_hasValue_17 (by decide) ?_
      refine j_iconst F (v := 0) dL_hasValue_24 (by decide) ?_
      exact j_iret F (Or.inl ⟨m, z, h_0, h_1, h_2, h_3, rfl, by rw [if_pos c_8]⟩) dL_hasValue_25 (Nat.le_of_ble_eq_true rfl) (Nat.le_of_ble_eq_true rfl)
    · skip
      refine j_lconst F (v := 1) dL_hasValue_11 (by decide) ?_
      refine j_goto F 16 dL_hasValue_12 (by decide) ?_
      refine j_last F 55 (dW ay ad Z ++ [(o, .inl (ay 3, 1, .inr (.inl (vp_updL fo 0 1))))]) 0 rfl rfl (by omega) (Nat.le_of_ble_eq_true rfl) rfl dL_hasValue_16 ?_
      refine j_goto F 24 dL_hasValue_17 (by decide) ?_
      refine j_iconst F (v := 0) dL_hasValue_24 (by decide) ?_
      exact j_iret F (Or.inl ⟨m, z, h_0, h_1, h_2, h_3, rfl, by rw [if_neg c_8]⟩) dL_hasValue_25 (Nat.le_of_ble_eq_true rfl) (Nat.le_of_ble_eq_true rfl)

set_option maxHeartbeats 4000000 in
set_option maxRecDepth 100000 in
theorem h_size (l : Launch) (hfl : l.stackTraces = false) (D : va_G) (ay : Nat → ClassId) (sa : Nat → Nat) (ad : Nat → Nat) (Z : DS) (mp : Int32) (o : Nat) (fo : Nat → Int64) : jH l yL_size (jwsH yL_size cL_size 4 (some .int) [(0, 9, 12, 13)]) 9 164 3 18 D ay sa [.ref (ad 0), .int mp, .ref o] (dW ay ad Z ++ [(o, .inl (ay 3, 1, .inr (.inl fo)))]) (fun v w => (∃ (m : Nat), m < 2 ∧ mp = nI m ∧ v = some (.int 0) ∧ w = (dW ay ad Z ++ [(o, .inl (ay 3, 1, .inr (.inl (vp_updL fo 0 ((nI (Z.1 m) : Int32)).toInt64))))])) ∨ ((oob mp 0 1) ∧ v = some (.int 1) ∧ w = (dW ay ad Z ++ [(o, .inl (ay 3, 1, .inr (.inl fo)))]))) := by
  refine jH_of l (by decide) [(0, .ref (ad 0)), (1, .int mp), (2, .ref o)] rfl rfl (fun p9 e9 s9 m9 a9 b9 me9 c9 A9 F hX hN htab => ?_)
  refine j_aload_n F 2 dL_size_0 rfl ?_
  refine j_iconst F (v := 0) dL_size_1 (by decide) ?_
  refine j_aload_n F 0 dL_size_2 rfl ?_
  refine j_iload_n F 1 dL_size_3 rfl ?_
  refine j_tryV F hX kL_42 (As := [.int mp]) (rest := [.int 0, .ref o]) (c_X9_size l hfl D ay sa ad Z mp) 0 0 55 rfl rfl rfl rfl rfl rfl ⟨Nat.le_of_ble_eq_true rfl, Nat.le_of_ble_eq_true rfl⟩ dL_size_4 (fun E w hx => ?_) (fun v w hw => ?_)
  · skip
    rcases hx with ⟨rfl, hc0, rfl⟩
    · skip
      refine ⟨rfl, (dW ay ad Z ++ [(o, .inl (ay 3, 1, .inr (.inl fo)))]), 12, rfl, (jCat_1 htab rfl (by decide) (F.2.2.2.2.1 _ gL_eIA) (va_Nw.use rfl hX.2.2.2.2.2.2.1)), fun q9 => ?_⟩
      refine j_astore_n F 3 [(3, .ref q9), (0, .ref (ad 0)), (1, .int mp), (2, .ref o)] dL_size_12 rfl (by decide) rfl ?_
      refine j_iconst F (v := 1) dL_size_13 (by decide) ?_
      exact j_iret F (Or.inr (⟨hc0, rfl, rfl⟩)) dL_size_14 (Nat.le_of_ble_eq_true rfl) (Nat.le_of_ble_eq_true rfl)
  · skip
    obtain ⟨m, h_0, h_1, rfl, rfl⟩ := hw
    refine ⟨rfl, (dW ay ad Z ++ [(o, .inl (ay 3, 1, .inr (.inl fo)))]), rfl, ?_⟩
    refine j_i2l F dL_size_7 ?_
    refine j_last F 55 (dW ay ad Z ++ [(o, .inl (ay 3, 1, .inr (.inl (vp_updL fo 0 (((nI (Z.1 m)) : Int32).toInt64)))))]) 0 rfl rfl (by omega) (Nat.le_of_ble_eq_true rfl) rfl dL_size_8 ?_
    refine j_goto F 15 dL_size_9 (by decide) ?_
    refine j_iconst F (v := 0) dL_size_15 (by decide) ?_
    exact j_iret F (Or.inl ⟨m, h_0, h_1, rfl, rfl⟩) dL_size_16 (Nat.le_of_ble_eq_true rfl) (Nat.le_of_ble_eq_true rfl)

set_option maxHeartbeats 4000000 in
set_option maxRecDepth 100000 in
theorem h_keyAt (l : Launch) (hfl : l.stackTraces = false) (D : va_G) (ay : Nat → ClassId) (sa : Nat → Nat) (ad : Nat → Nat) (Z : DS) (mp : Int32) (pc : Int32) (o : Nat) (fo : Nat → Int64) (hI : ∀ m, m < 2 → mI Z m) : jH l yL_keyAt (jwsH yL_keyAt cL_keyAt 5 (some .int) [(0, 10, 13, 13), (0, 10, 17, 48)]) 9 166 3 18 D ay sa [.ref (ad 0), .int mp, .int pc, .ref o] (dW ay ad Z ++ [(o, .inl (ay 3, 1, .inr (.inl fo)))]) (fun v w => (∃ (m : Nat), ∃ (j : Nat), m < 2 ∧ j < Z.1 m ∧ mp = nI m ∧ pc = nI j ∧ v = some (.int 0) ∧ w = (dW ay ad Z ++ [(o, .inl (ay 3, 1, .inr (.inl (vp_updL fo 0 ((Z.2.2 (2 * m) j : Int32)).toInt64))))])) ∨ ((oob mp 0 1) ∧ v = some (.int 1) ∧ w = (dW ay ad Z ++ [(o, .inl (ay 3, 1, .inr (.inl fo)))])) ∨ ((∃ m, m < 2 ∧ mp = nI m ∧ oop pc (Z.1 m)) ∧ v = some (.int 2) ∧ w = (dW ay ad Z ++ [(o, .inl (ay 3, 1, .inr (.inl fo)))]))) := by
  refine jH_of l (by decide) [(0, .ref (ad 0)), (1, .int mp), (2, .int pc), (3, .ref o)] rfl rfl (fun p9 e9 s9 m9 a9 b9 me9 c9 A9 F hX hN htab => ?_)
  refine j_aload_n F 3 dL_keyAt_0 rfl ?_
  refine j_iconst F (v := 0) dL_keyAt_1 (by decide) ?_
  refine j_aload_n F 0 dL_keyAt_2 rfl ?_
  refine j_iload_n F 1 dL_keyAt_3 rfl ?_
  refine j_iload_n F 2 dL_keyAt_4 rfl ?_
  refine j_tryV F hX kL_45 (As := [.int mp, .int pc]) (rest := [.int 0, .ref o]) (c_X9_keyAt l hfl D ay sa ad Z mp pc hI) 0 0 55 rfl rfl rfl rfl rfl rfl ⟨Nat.le_of_ble_eq_true rfl, Nat.le_of_ble_eq_true rfl⟩ dL_keyAt_5 (fun E w hx => ?_) (fun v w hw => ?_)
  · skip
    rcases hx with ⟨rfl, hc0, rfl⟩ | ⟨rfl, hc0, rfl⟩
    · skip
      refine ⟨rfl, (dW ay ad Z ++ [(o, .inl (ay 3, 1, .inr (.inl fo)))]), 13, rfl, (jCat_1 htab rfl (by decide) (F.2.2.2.2.1 _ gL_eIA) (va_Nw.use rfl hX.2.2.2.2.2.2.1)), fun q9 => ?_⟩
      refine j_astore F 4 [(4, .ref q9), (0, .ref (ad 0)), (1, .int mp), (2, .int pc), (3, .ref o)] dL_keyAt_13 (by decide) rfl ?_
      refine j_iconst F (v := 1) dL_keyAt_15 (by decide) ?_
      exact j_iret F (Or.inr (Or.inl ⟨hc0, rfl, rfl⟩)) dL_keyAt_16 (Nat.le_of_ble_eq_true rfl) (Nat.le_of_ble_eq_true rfl)
    · skip
      refine ⟨rfl, (dW ay ad Z ++ [(o, .inl (ay 3, 1, .inr (.inl fo)))]), 17, rfl, (jCat_2 htab (by decide) (F.2.2.2.2.1 _ gL_eIA) hN.1 rfl (by decide) (F.2.2.2.2.1 _ gL_eIO) (va_Nw.use rfl hX.2.2.2.2.2.2.2.2.1)), fun q9 => ?_⟩
      refine j_astore F 4 [(4, .ref q9), (0, .ref (ad 0)), (1, .int mp), (2, .int pc), (3, .ref o)] dL_keyAt_17 (by decide) rfl ?_
      refine j_iconst F (v := 2) dL_keyAt_19 (by decide) ?_
      exact j_iret F (Or.inr (Or.inr (⟨hc0, rfl, rfl⟩))) dL_keyAt_20 (Nat.le_of_ble_eq_true rfl) (Nat.le_of_ble_eq_true rfl)
  · skip
    obtain ⟨m, j, h_0, h_1, h_2, h_3, rfl, rfl⟩ := hw
    refine ⟨rfl, (dW ay ad Z ++ [(o, .inl (ay 3, 1, .inr (.inl fo)))]), rfl, ?_⟩
    refine j_i2l F dL_keyAt_8 ?_
    refine j_last F 55 (dW ay ad Z ++ [(o, .inl (ay 3, 1, .inr (.inl (vp_updL fo 0 (((Z.2.2 (2 * m) j) : Int32).toInt64)))))]) 0 rfl rfl (by omega) (Nat.le_of_ble_eq_true rfl) rfl dL_keyAt_9 ?_
    refine j_goto F 21 dL_keyAt_10 (by decide) ?_
    refine j_iconst F (v := 0) dL_keyAt_21 (by decide) ?_
    exact j_iret F (Or.inl ⟨m, j, h_0, h_1, h_2, h_3, rfl, rfl⟩) dL_keyAt_22 (Nat.le_of_ble_eq_true rfl) (Nat.le_of_ble_eq_true rfl)

set_option maxHeartbeats 4000000 in
set_option maxRecDepth 100000 in
theorem h_valueAt (l : Launch) (hfl : l.stackTraces = false) (D : va_G) (ay : Nat → ClassId) (sa : Nat → Nat) (ad : Nat → Nat) (Z : DS) (mp : Int32) (pc : Int32) (o : Nat) (fo : Nat → Int64) (hI : ∀ m, m < 2 → mI Z m) : jH l yL_valueAt (jwsH yL_valueAt cL_valueAt 5 (some .int) [(0, 10, 13, 13), (0, 10, 17, 48)]) 9 166 3 18 D ay sa [.ref (ad 0), .int mp, .int pc, .ref o] (dW ay ad Z ++ [(o, .inl (ay 3, 1, .inr (.inl fo)))]) (fun v w => (∃ (m : Nat), ∃ (j : Nat), m < 2 ∧ j < Z.1 m ∧ mp = nI m ∧ pc = nI j ∧ v = some (.int 0) ∧ w = (dW ay ad Z ++ [(o, .inl (ay 3, 1, .inr (.inl (vp_updL fo 0 ((Z.2.2 (2 * m + 1) (kN (Z.2.2 (2 * m)) j) : Int32)).toInt64))))])) ∨ ((oob mp 0 1) ∧ v = some (.int 1) ∧ w = (dW ay ad Z ++ [(o, .inl (ay 3, 1, .inr (.inl fo)))])) ∨ ((∃ m, m < 2 ∧ mp = nI m ∧ oop pc (Z.1 m)) ∧ v = some (.int 2) ∧ w = (dW ay ad Z ++ [(o, .inl (ay 3, 1, .inr (.inl fo)))]))) := by
  refine jH_of l (by decide) [(0, .ref (ad 0)), (1, .int mp), (2, .int pc), (3, .ref o)] rfl rfl (fun p9 e9 s9 m9 a9 b9 me9 c9 A9 F hX hN htab => ?_)
  refine j_aload_n F 3 dL_valueAt_0 rfl ?_
  refine j_iconst F (v := 0) dL_valueAt_1 (by decide) ?_
  refine j_aload_n F 0 dL_valueAt_2 rfl ?_
  refine j_iload_n F 1 dL_valueAt_3 rfl ?_
  refine j_iload_n F 2 dL_valueAt_4 rfl ?_
  refine j_tryV F hX kL_50 (As := [.int mp, .int pc]) (rest := [.int 0, .ref o]) (c_X9_valueAt l hfl D ay sa ad Z mp pc hI) 0 0 55 rfl rfl rfl rfl rfl rfl ⟨Nat.le_of_ble_eq_true rfl, Nat.le_of_ble_eq_true rfl⟩ dL_valueAt_5 (fun E w hx => ?_) (fun v w hw => ?_)
  · skip
    rcases hx with ⟨rfl, hc0, rfl⟩ | ⟨rfl, hc0, rfl⟩
    · skip
      refine ⟨rfl, (dW ay ad Z ++ [(o, .inl (ay 3, 1, .inr (.inl fo)))]), 13, rfl, (jCat_1 htab rfl (by decide) (F.2.2.2.2.1 _ gL_eIA) (va_Nw.use rfl hX.2.2.2.2.2.2.1)), fun q9 => ?_⟩
      refine j_astore F 4 [(4, .ref q9), (0, .ref (ad 0)), (1, .int mp), (2, .int pc), (3, .ref o)] dL_valueAt_13 (by decide) rfl ?_
      refine j_iconst F (v := 1) dL_valueAt_15 (by decide) ?_
      exact j_iret F (Or.inr (Or.inl ⟨hc0, rfl, rfl⟩)) dL_valueAt_16 (Nat.le_of_ble_eq_true rfl) (Nat.le_of_ble_eq_true rfl)
    · skip
      refine ⟨rfl, (dW ay ad Z ++ [(o, .inl (ay 3, 1, .inr (.inl fo)))]), 17, rfl, (jCat_2 htab (by decide) (F.2.2.2.2.1 _ gL_eIA) hN.1 rfl (by decide) (F.2.2.2.2.1 _ gL_eIO) (va_Nw.use rfl hX.2.2.2.2.2.2.2.2.1)), fun q9 => ?_⟩
      refine j_astore F 4 [(4, .ref q9), (0, .ref (ad 0)), (1, .int mp), (2, .int pc), (3, .ref o)] dL_valueAt_17 (by decide) rfl ?_
      refine j_iconst F (v := 2) dL_valueAt_19 (by decide) ?_
      exact j_iret F (Or.inr (Or.inr (⟨hc0, rfl, rfl⟩))) dL_valueAt_20 (Nat.le_of_ble_eq_true rfl) (Nat.le_of_ble_eq_true rfl)
  · skip
    obtain ⟨m, j, h_0, h_1, h_2, h_3, rfl, rfl⟩ := hw
    refine ⟨rfl, (dW ay ad Z ++ [(o, .inl (ay 3, 1, .inr (.inl fo)))]), rfl, ?_⟩
    refine j_i2l F dL_valueAt_8 ?_
    refine j_last F 55 (dW ay ad Z ++ [(o, .inl (ay 3, 1, .inr (.inl (vp_updL fo 0 (((Z.2.2 (2 * m + 1) (kN (Z.2.2 (2 * m)) j)) : Int32).toInt64)))))]) 0 rfl rfl (by omega) (Nat.le_of_ble_eq_true rfl) rfl dL_valueAt_9 ?_
    refine j_goto F 21 dL_valueAt_10 (by decide) ?_
    refine j_iconst F (v := 0) dL_valueAt_21 (by decide) ?_
    exact j_iret F (Or.inl ⟨m, j, h_0, h_1, h_2, h_3, rfl, rfl⟩) dL_valueAt_22 (Nat.le_of_ble_eq_true rfl) (Nat.le_of_ble_eq_true rfl)

set_option maxHeartbeats 4000000 in
set_option maxRecDepth 100000 in
theorem h_placeOf (l : Launch) (hfl : l.stackTraces = false) (D : va_G) (ay : Nat → ClassId) (sa : Nat → Nat) (ad : Nat → Nat) (Z : DS) (mp : Int32) (ky : Int32) (o : Nat) (fo : Nat → Int64) (hI : ∀ m, m < 2 → mI Z m) : jH l yL_placeOf (jwsH yL_placeOf cL_placeOf 5 (some .int) [(0, 10, 13, 13)]) 9 166 3 18 D ay sa [.ref (ad 0), .int mp, .int ky, .ref o] (dW ay ad Z ++ [(o, .inl (ay 3, 1, .inr (.inl fo)))]) (fun v w => (∃ (m : Nat), ∃ (y : Nat), m < 2 ∧ y < 100 ∧ mp = nI m ∧ ky = nI y ∧ v = some (.int 0) ∧ w = (dW ay ad Z ++ [(o, .inl (ay 3, 1, .inr (.inl (vp_updL fo 0 ((fxI (Z.2.2 (2 * m)) (nI y) (Z.1 m) : Int32)).toInt64))))])) ∨ ((oob mp 0 1 ∨ oob ky 0 99) ∧ v = some (.int 1) ∧ w = (dW ay ad Z ++ [(o, .inl (ay 3, 1, .inr (.inl fo)))]))) := by
  refine jH_of l (by decide) [(0, .ref (ad 0)), (1, .int mp), (2, .int ky), (3, .ref o)] rfl rfl (fun p9 e9 s9 m9 a9 b9 me9 c9 A9 F hX hN htab => ?_)
  refine j_aload_n F 3 dL_placeOf_0 rfl ?_
  refine j_iconst F (v := 0) dL_placeOf_1 (by decide) ?_
  refine j_aload_n F 0 dL_placeOf_2 rfl ?_
  refine j_iload_n F 1 dL_placeOf_3 rfl ?_
  refine j_iload_n F 2 dL_placeOf_4 rfl ?_
  refine j_tryV F hX kL_53 (As := [.int mp, .int ky]) (rest := [.int 0, .ref o]) (c_X9_placeOf l hfl D ay sa ad Z mp ky hI) 0 0 55 rfl rfl rfl rfl rfl rfl ⟨Nat.le_of_ble_eq_true rfl, Nat.le_of_ble_eq_true rfl⟩ dL_placeOf_5 (fun E w hx => ?_) (fun v w hw => ?_)
  · skip
    rcases hx with ⟨rfl, hc0, rfl⟩
    · skip
      refine ⟨rfl, (dW ay ad Z ++ [(o, .inl (ay 3, 1, .inr (.inl fo)))]), 13, rfl, (jCat_1 htab rfl (by decide) (F.2.2.2.2.1 _ gL_eIA) (va_Nw.use rfl hX.2.2.2.2.2.2.1)), fun q9 => ?_⟩
      refine j_astore F 4 [(4, .ref q9), (0, .ref (ad 0)), (1, .int mp), (2, .int ky), (3, .ref o)] dL_placeOf_13 (by decide) rfl ?_
      refine j_iconst F (v := 1) dL_placeOf_15 (by decide) ?_
      exact j_iret F (Or.inr (⟨hc0, rfl, rfl⟩)) dL_placeOf_16 (Nat.le_of_ble_eq_true rfl) (Nat.le_of_ble_eq_true rfl)
  · skip
    obtain ⟨m, y, h_0, h_1, h_2, h_3, rfl, rfl⟩ := hw
    refine ⟨rfl, (dW ay ad Z ++ [(o, .inl (ay 3, 1, .inr (.inl fo)))]), rfl, ?_⟩
    refine j_i2l F dL_placeOf_8 ?_
    refine j_last F 55 (dW ay ad Z ++ [(o, .inl (ay 3, 1, .inr (.inl (vp_updL fo 0 (((fxI (Z.2.2 (2 * m)) (nI y) (Z.1 m)) : Int32).toInt64)))))]) 0 rfl rfl (by omega) (Nat.le_of_ble_eq_true rfl) rfl dL_placeOf_9 ?_
    refine j_goto F 17 dL_placeOf_10 (by decide) ?_
    refine j_iconst F (v := 0) dL_placeOf_17 (by decide) ?_
    exact j_iret F (Or.inl ⟨m, y, h_0, h_1, h_2, h_3, rfl, rfl⟩) dL_placeOf_18 (Nat.le_of_ble_eq_true rfl) (Nat.le_of_ble_eq_true rfl)

set_option maxHeartbeats 4000000 in
set_option maxRecDepth 100000 in
theorem h_sum (l : Launch) (hfl : l.stackTraces = false) (D : va_G) (ay : Nat → ClassId) (sa : Nat → Nat) (ad : Nat → Nat) (Z : DS) (mp : Int32) (o : Nat) (fo : Nat → Int64) (hI : ∀ m, m < 2 → mI Z m) : jH l yL_sum (jwsH yL_sum cL_sum 4 (some .int) [(0, 9, 12, 13)]) 9 164 3 18 D ay sa [.ref (ad 0), .int mp, .ref o] (dW ay ad Z ++ [(o, .inl (ay 3, 1, .inr (.inl fo)))]) (fun v w => (∃ (m : Nat), m < 2 ∧ mp = nI m ∧ v = some (.int 0) ∧ w = (dW ay ad Z ++ [(o, .inl (ay 3, 1, .inr (.inl (vp_updL fo 0 ((sm (fun j => Z.2.2 (2 * m + 1) (kN (Z.2.2 (2 * m)) j)) (Z.1 m) : Int32)).toInt64))))])) ∨ ((oob mp 0 1) ∧ v = some (.int 1) ∧ w = (dW ay ad Z ++ [(o, .inl (ay 3, 1, .inr (.inl fo)))]))) := by
  refine jH_of l (by decide) [(0, .ref (ad 0)), (1, .int mp), (2, .ref o)] rfl rfl (fun p9 e9 s9 m9 a9 b9 me9 c9 A9 F hX hN htab => ?_)
  refine j_aload_n F 2 dL_sum_0 rfl ?_
  refine j_iconst F (v := 0) dL_sum_1 (by decide) ?_
  refine j_aload_n F 0 dL_sum_2 rfl ?_
  refine j_iload_n F 1 dL_sum_3 rfl ?_
  refine j_tryV F hX kL_56 (As := [.int mp]) (rest := [.int 0, .ref o]) (c_X9_sum l hfl D ay sa ad Z mp hI) 0 0 55 rfl rfl rfl rfl rfl rfl ⟨Nat.le_of_ble_eq_true rfl, Nat.le_of_ble_eq_true rfl⟩ dL_sum_4 (fun E w hx => ?_) (fun v w hw => ?_)
  · skip
    rcases hx with ⟨rfl, hc0, rfl⟩
    · skip
      refine ⟨rfl, (dW ay ad Z ++ [(o, .inl (ay 3, 1, .inr (.inl fo)))]), 12, rfl, (jCat_1 htab rfl (by decide) (F.2.2.2.2.1 _ gL_eIA) (va_Nw.use rfl hX.2.2.2.2.2.2.1)), fun q9 => ?_⟩
      refine j_astore_n F 3 [(3, .ref q9), (0, .ref (ad 0)), (1, .int mp), (2, .ref o)] dL_sum_12 rfl (by decide) rfl ?_
      refine j_iconst F (v := 1) dL_sum_13 (by decide) ?_
      exact j_iret F (Or.inr (⟨hc0, rfl, rfl⟩)) dL_sum_14 (Nat.le_of_ble_eq_true rfl) (Nat.le_of_ble_eq_true rfl)
  · skip
    obtain ⟨m, h_0, h_1, rfl, rfl⟩ := hw
    refine ⟨rfl, (dW ay ad Z ++ [(o, .inl (ay 3, 1, .inr (.inl fo)))]), rfl, ?_⟩
    refine j_i2l F dL_sum_7 ?_
    refine j_last F 55 (dW ay ad Z ++ [(o, .inl (ay 3, 1, .inr (.inl (vp_updL fo 0 (((sm (fun j => Z.2.2 (2 * m + 1) (kN (Z.2.2 (2 * m)) j)) (Z.1 m)) : Int32).toInt64)))))]) 0 rfl rfl (by omega) (Nat.le_of_ble_eq_true rfl) rfl dL_sum_8 ?_
    refine j_goto F 15 dL_sum_9 (by decide) ?_
    refine j_iconst F (v := 0) dL_sum_15 (by decide) ?_
    exact j_iret F (Or.inl ⟨m, h_0, h_1, rfl, rfl⟩) dL_sum_16 (Nat.le_of_ble_eq_true rfl) (Nat.le_of_ble_eq_true rfl)

set_option maxHeartbeats 4000000 in
set_option maxRecDepth 100000 in
theorem h_beginCursor (l : Launch) (hfl : l.stackTraces = false) (D : va_G) (ay : Nat → ClassId) (sa : Nat → Nat) (ad : Nat → Nat) (Z : DS) (mp : Int32) (o : Nat) (fo : Nat → Int64) : jH l yL_beginCursor (jwsH yL_beginCursor cL_beginCursor 4 (some .int) [(0, 9, 12, 13)]) 9 165 3 18 D ay sa [.ref (ad 0), .int mp, .ref o] (dW ay ad Z ++ [(o, .inl (ay 3, 1, .inr (.inl fo)))]) (fun v w => (∃ (m : Nat), m < 2 ∧ mp = nI m ∧ v = some (.int 0) ∧ w = (dW ay ad (mU Z m (Z.1 m) (Z.2.2 (2 * m)) 1 0 0 (Z.2.2 (2 * m + 1)) (Z.1 (12 + m)) (Z.2.1 (4 + 5 * m)) (Z.2.1 (5 + 5 * m))) ++ [(o, .inl (ay 3, 1, .inr (.inl (vp_updL fo 0 ((nI (Z.1 m) : Int32)).toInt64))))])) ∨ ((oob mp 0 1) ∧ v = some (.int 1) ∧ w = (dW ay ad Z ++ [(o, .inl (ay 3, 1, .inr (.inl fo)))]))) := by
  refine jH_of l (by decide) [(0, .ref (ad 0)), (1, .int mp), (2, .ref o)] rfl rfl (fun p9 e9 s9 m9 a9 b9 me9 c9 A9 F hX hN htab => ?_)
  refine j_aload_n F 2 dL_beginCursor_0 rfl ?_
  refine j_iconst F (v := 0) dL_beginCursor_1 (by decide) ?_
  refine j_aload_n F 0 dL_beginCursor_2 rfl ?_
  refine j_iload_n F 1 dL_beginCursor_3 rfl ?_
  refine j_tryV F hX kL_59 (As := [.int mp]) (rest := [.int 0, .ref o]) (c_X9_beginCursor l hfl D ay sa ad Z mp) 0 0 55 rfl rfl rfl rfl rfl rfl ⟨Nat.le_of_ble_eq_true rfl, Nat.le_of_ble_eq_true rfl⟩ dL_beginCursor_4 (fun E w hx => ?_) (fun v w hw => ?_)
  · skip
    rcases hx with ⟨rfl, hc0, rfl⟩
    · skip
      refine ⟨rfl, (dW ay ad Z ++ [(o, .inl (ay 3, 1, .inr (.inl fo)))]), 12, rfl, (jCat_1 htab rfl (by decide) (F.2.2.2.2.1 _ gL_eIA) (va_Nw.use rfl hX.2.2.2.2.2.2.1)), fun q9 => ?_⟩
      refine j_astore_n F 3 [(3, .ref q9), (0, .ref (ad 0)), (1, .int mp), (2, .ref o)] dL_beginCursor_12 rfl (by decide) rfl ?_
      refine j_iconst F (v := 1) dL_beginCursor_13 (by decide) ?_
      exact j_iret F (Or.inr (⟨hc0, rfl, rfl⟩)) dL_beginCursor_14 (Nat.le_of_ble_eq_true rfl) (Nat.le_of_ble_eq_true rfl)
  · skip
    obtain ⟨m, h_0, h_1, rfl, rfl⟩ := hw
    refine ⟨rfl, (dW ay ad (mU Z m (Z.1 m) (Z.2.2 (2 * m)) 1 0 0 (Z.2.2 (2 * m + 1)) (Z.1 (12 + m)) (Z.2.1 (4 + 5 * m)) (Z.2.1 (5 + 5 * m))) ++ [(o, .inl (ay 3, 1, .inr (.inl fo)))]), rfl, ?_⟩
    refine j_i2l F dL_beginCursor_7 ?_
    refine j_last F 55 (dW ay ad (mU Z m (Z.1 m) (Z.2.2 (2 * m)) 1 0 0 (Z.2.2 (2 * m + 1)) (Z.1 (12 + m)) (Z.2.1 (4 + 5 * m)) (Z.2.1 (5 + 5 * m))) ++ [(o, .inl (ay 3, 1, .inr (.inl (vp_updL fo 0 (((nI (Z.1 m)) : Int32).toInt64)))))]) 0 rfl rfl (by omega) (Nat.le_of_ble_eq_true rfl) rfl dL_beginCursor_8 ?_
    refine j_goto F 15 dL_beginCursor_9 (by decide) ?_
    refine j_iconst F (v := 0) dL_beginCursor_15 (by decide) ?_
    exact j_iret F (Or.inl ⟨m, h_0, h_1, rfl, rfl⟩) dL_beginCursor_16 (Nat.le_of_ble_eq_true rfl) (Nat.le_of_ble_eq_true rfl)

set_option maxHeartbeats 4000000 in
set_option maxRecDepth 100000 in
theorem h_hasNext (l : Launch) (hfl : l.stackTraces = false) (D : va_G) (ay : Nat → ClassId) (sa : Nat → Nat) (ad : Nat → Nat) (Z : DS) (mp : Int32) (o : Nat) (fo : Nat → Int64) : jH l yL_hasNext (jwsH yL_hasNext cL_hasNext 4 (some .int) [(0, 16, 19, 13)]) 9 165 3 18 D ay sa [.ref (ad 0), .int mp, .ref o] (dW ay ad Z ++ [(o, .inl (ay 3, 1, .inr (.inl fo)))]) (fun v w => (∃ (m : Nat), m < 2 ∧ mp = nI m ∧ v = some (.int 0) ∧ w = (dW ay ad Z ++ [(o, .inl (ay 3, 1, .inr (.inl (vp_updL fo 0 (if (if ¬ Z.2.1 (1 + 5 * m) = 0 ∧ ¬ nI (Z.1 m) ≤ Z.2.1 (2 + 5 * m) then 1 else 0 : Int32) = 0 then 0 else 1)))))])) ∨ ((oob mp 0 1) ∧ v = some (.int 1) ∧ w = (dW ay ad Z ++ [(o, .inl (ay 3, 1, .inr (.inl fo)))]))) := by
  refine jH_of l (by decide) [(0, .ref (ad 0)), (1, .int mp), (2, .ref o)] rfl rfl (fun p9 e9 s9 m9 a9 b9 me9 c9 A9 F hX hN htab => ?_)
  refine j_aload_n F 2 dL_hasNext_0 rfl ?_
  refine j_iconst F (v := 0) dL_hasNext_1 (by decide) ?_
  refine j_aload_n F 0 dL_hasNext_2 rfl ?_
  refine j_iload_n F 1 dL_hasNext_3 rfl ?_
  refine j_tryV F hX kL_62 (As := [.int mp]) (rest := [.int 0, .ref o]) (c_X9_hasNext l hfl D ay sa ad Z mp) 0 0 55 rfl rfl rfl rfl rfl rfl ⟨Nat.le_of_ble_eq_true rfl, Nat.le_of_ble_eq_true rfl⟩ dL_hasNext_4 (fun E w hx => ?_) (fun v w hw => ?_)
  · skip
    rcases hx with ⟨rfl, hc0, rfl⟩
    · skip
      refine ⟨rfl, (dW ay ad Z ++ [(o, .inl (ay 3, 1, .inr (.inl fo)))]), 19, rfl, (jCat_1 htab rfl (by decide) (F.2.2.2.2.1 _ gL_eIA) (va_Nw.use rfl hX.2.2.2.2.2.2.1)), fun q9 => ?_⟩
      refine j_astore_n F 3 [(3, .ref q9), (0, .ref (ad 0)), (1, .int mp), (2, .ref o)] dL_hasNext_19 rfl (by decide) rfl ?_
      refine j_iconst F (v := 1) dL_hasNext_20 (by decide) ?_
      exact j_iret F (Or.inr (⟨hc0, rfl, rfl⟩)) dL_hasNext_21 (Nat.le_of_ble_eq_true rfl) (Nat.le_of_ble_eq_true rfl)
  · skip
    obtain ⟨m, h_0, h_1, rfl, rfl⟩ := hw
    refine ⟨rfl, (dW ay ad Z ++ [(o, .inl (ay 3, 1, .inr (.inl fo)))]), rfl, ?_⟩
    refine j_if_eq F 14 dL_hasNext_7 (by decide) (fun c_7 => ?_) (fun c_7 => ?_)
    · skip
      refine j_lconst F (v := 0) dL_hasNext_14 (by decide) ?_
      refine j_last F 55 (dW ay ad Z ++ [(o, .inl (ay 3, 1, .inr (.inl (vp_updL fo 0 0))))]) 0 rfl rfl (by omega) (Nat.le_of_ble_eq_true rfl) rfl dL_hasNext_15 ?_
      refine j_goto F 22 dL_hasNext_16 (by decide) ?_
      refine j_iconst F (v := 0) dL_hasNext_22 (by decide) ?_
      exact j_iret F (Or.inl ⟨m, h_0, h_1, rfl, by rw [if_pos c_7]⟩) dL_hasNext_23 (Nat.le_of_ble_eq_true rfl) (Nat.le_of_ble_eq_true rfl)
    · skip
      refine j_lconst F (v := 1) dL_hasNext_10 (by decide) ?_
      refine j_goto F 15 dL_hasNext_11 (by decide) ?_
      refine j_last F 55 (dW ay ad Z ++ [(o, .inl (ay 3, 1, .inr (.inl (vp_updL fo 0 1))))]) 0 rfl rfl (by omega) (Nat.le_of_ble_eq_true rfl) rfl dL_hasNext_15 ?_
      refine j_goto F 22 dL_hasNext_16 (by decide) ?_
      refine j_iconst F (v := 0) dL_hasNext_22 (by decide) ?_
      exact j_iret F (Or.inl ⟨m, h_0, h_1, rfl, by rw [if_neg c_7]⟩) dL_hasNext_23 (Nat.le_of_ble_eq_true rfl) (Nat.le_of_ble_eq_true rfl)

set_option maxHeartbeats 4000000 in
set_option maxRecDepth 100000 in
theorem h_next (l : Launch) (hfl : l.stackTraces = false) (D : va_G) (ay : Nat → ClassId) (sa : Nat → Nat) (ad : Nat → Nat) (Z : DS) (mp : Int32) (o : Nat) (fo : Nat → Int64) (hI : ∀ m, m < 2 → mI Z m) : jH l yL_next (jwsH yL_next cL_next 4 (some .int) [(0, 9, 12, 13), (0, 9, 15, 69), (0, 9, 18, 71)]) 9 166 3 18 D ay sa [.ref (ad 0), .int mp, .ref o] (dW ay ad Z ++ [(o, .inl (ay 3, 1, .inr (.inl fo)))]) (fun v w => (∃ (m : Nat), ∃ (j : Nat), m < 2 ∧ ¬ Z.2.1 (1 + 5 * m) = 0 ∧ Z.2.1 (2 + 5 * m) = nI j ∧ j < Z.1 m ∧ mp = nI m ∧ v = some (.int 0) ∧ w = (dW ay ad (mU Z m (Z.1 m) (Z.2.2 (2 * m)) (Z.2.1 (1 + 5 * m)) (nI (j + 1)) 1 (Z.2.2 (2 * m + 1)) (Z.1 (12 + m)) (Z.2.1 (4 + 5 * m)) (Z.2.1 (5 + 5 * m))) ++ [(o, .inl (ay 3, 1, .inr (.inl (vp_updL fo 0 ((1000 * Z.2.2 (2 * m) j + Z.2.2 (2 * m + 1) (kN (Z.2.2 (2 * m)) j) : Int32)).toInt64))))])) ∨ ((oob mp 0 1) ∧ v = some (.int 1) ∧ w = (dW ay ad Z ++ [(o, .inl (ay 3, 1, .inr (.inl fo)))])) ∨ ((∃ m, m < 2 ∧ mp = nI m ∧ Z.2.1 (1 + 5 * m) = 0) ∧ v = some (.int 2) ∧ w = (dW ay ad Z ++ [(o, .inl (ay 3, 1, .inr (.inl fo)))])) ∨ ((∃ m, m < 2 ∧ mp = nI m ∧ ¬ Z.2.1 (1 + 5 * m) = 0 ∧ nI (Z.1 m) ≤ Z.2.1 (2 + 5 * m)) ∧ v = some (.int 3) ∧ w = (dW ay ad Z ++ [(o, .inl (ay 3, 1, .inr (.inl fo)))]))) := by
  refine jH_of l (by decide) [(0, .ref (ad 0)), (1, .int mp), (2, .ref o)] rfl rfl (fun p9 e9 s9 m9 a9 b9 me9 c9 A9 F hX hN htab => ?_)
  refine j_aload_n F 2 dL_next_0 rfl ?_
  refine j_iconst F (v := 0) dL_next_1 (by decide) ?_
  refine j_aload_n F 0 dL_next_2 rfl ?_
  refine j_iload_n F 1 dL_next_3 rfl ?_
  refine j_tryV F hX kL_66 (As := [.int mp]) (rest := [.int 0, .ref o]) (c_X9_next l hfl D ay sa ad Z mp hI) 0 0 55 rfl rfl rfl rfl rfl rfl ⟨Nat.le_of_ble_eq_true rfl, Nat.le_of_ble_eq_true rfl⟩ dL_next_4 (fun E w hx => ?_) (fun v w hw => ?_)
  · skip
    rcases hx with ⟨rfl, hc0, rfl⟩ | ⟨rfl, hc0, rfl⟩ | ⟨rfl, hc0, rfl⟩
    · skip
      refine ⟨rfl, (dW ay ad Z ++ [(o, .inl (ay 3, 1, .inr (.inl fo)))]), 12, rfl, (jCat_1 htab rfl (by decide) (F.2.2.2.2.1 _ gL_eIA) (va_Nw.use rfl hX.2.2.2.2.2.2.1)), fun q9 => ?_⟩
      refine j_astore_n F 3 [(3, .ref q9), (0, .ref (ad 0)), (1, .int mp), (2, .ref o)] dL_next_12 rfl (by decide) rfl ?_
      refine j_iconst F (v := 1) dL_next_13 (by decide) ?_
      exact j_iret F (Or.inr (Or.inl ⟨hc0, rfl, rfl⟩)) dL_next_14 (Nat.le_of_ble_eq_true rfl) (Nat.le_of_ble_eq_true rfl)
    · skip
      refine ⟨rfl, (dW ay ad Z ++ [(o, .inl (ay 3, 1, .inr (.inl fo)))]), 15, rfl, (jCat_2 htab (by decide) (F.2.2.2.2.1 _ gL_eIA) hN.2.1 rfl (by decide) (F.2.2.2.2.1 _ gL_eIS) (va_Nw.use rfl hX.2.2.2.2.2.2.2.1)), fun q9 => ?_⟩
      refine j_astore_n F 3 [(3, .ref q9), (0, .ref (ad 0)), (1, .int mp), (2, .ref o)] dL_next_15 rfl (by decide) rfl ?_
      refine j_iconst F (v := 2) dL_next_16 (by decide) ?_
      exact j_iret F (Or.inr (Or.inr (Or.inl ⟨hc0, rfl, rfl⟩))) dL_next_17 (Nat.le_of_ble_eq_true rfl) (Nat.le_of_ble_eq_true rfl)
    · skip
      refine ⟨rfl, (dW ay ad Z ++ [(o, .inl (ay 3, 1, .inr (.inl fo)))]), 18, rfl, (jCat_3 htab (by decide) (F.2.2.2.2.1 _ gL_eIA) hN.2.2.1 (by decide) (F.2.2.2.2.1 _ gL_eIS) hN.2.2.2.1 rfl (by decide) (F.2.2.2.2.1 _ gL_eNS) (va_Nw.use rfl hX.2.2.2.2.2.2.2.2.2)), fun q9 => ?_⟩
      refine j_astore_n F 3 [(3, .ref q9), (0, .ref (ad 0)), (1, .int mp), (2, .ref o)] dL_next_18 rfl (by decide) rfl ?_
      refine j_iconst F (v := 3) dL_next_19 (by decide) ?_
      exact j_iret F (Or.inr (Or.inr (Or.inr (⟨hc0, rfl, rfl⟩)))) dL_next_20 (Nat.le_of_ble_eq_true rfl) (Nat.le_of_ble_eq_true rfl)
  · skip
    obtain ⟨m, j, h_0, h_1, h_2, h_3, h_4, rfl, rfl⟩ := hw
    refine ⟨rfl, (dW ay ad (mU Z m (Z.1 m) (Z.2.2 (2 * m)) (Z.2.1 (1 + 5 * m)) (nI (j + 1)) 1 (Z.2.2 (2 * m + 1)) (Z.1 (12 + m)) (Z.2.1 (4 + 5 * m)) (Z.2.1 (5 + 5 * m))) ++ [(o, .inl (ay 3, 1, .inr (.inl fo)))]), rfl, ?_⟩
    refine j_i2l F dL_next_7 ?_
    refine j_last F 55 (dW ay ad (mU Z m (Z.1 m) (Z.2.2 (2 * m)) (Z.2.1 (1 + 5 * m)) (nI (j + 1)) 1 (Z.2.2 (2 * m + 1)) (Z.1 (12 + m)) (Z.2.1 (4 + 5 * m)) (Z.2.1 (5 + 5 * m))) ++ [(o, .inl (ay 3, 1, .inr (.inl (vp_updL fo 0 (((1000 * Z.2.2 (2 * m) j + Z.2.2 (2 * m + 1) (kN (Z.2.2 (2 * m)) j)) : Int32).toInt64)))))]) 0 rfl rfl (by omega) (Nat.le_of_ble_eq_true rfl) rfl dL_next_8 ?_
    refine j_goto F 21 dL_next_9 (by decide) ?_
    refine j_iconst F (v := 0) dL_next_21 (by decide) ?_
    exact j_iret F (Or.inl ⟨m, j, h_0, h_1, h_2, h_3, h_4, rfl, rfl⟩) dL_next_22 (Nat.le_of_ble_eq_true rfl) (Nat.le_of_ble_eq_true rfl)

set_option maxHeartbeats 4000000 in
set_option maxRecDepth 100000 in
theorem h_takeOut (l : Launch) (hfl : l.stackTraces = false) (D : va_G) (ay : Nat → ClassId) (sa : Nat → Nat) (ad : Nat → Nat) (Z : DS) (mp : Int32) (o : Nat) (fo : Nat → Int64) (hI : ∀ m, m < 2 → mI Z m) : jH l yL_takeOut (jwsH yL_takeOut cL_takeOut 4 (some .int) [(0, 9, 12, 13), (0, 9, 15, 69)]) 9 165 3 18 D ay sa [.ref (ad 0), .int mp, .ref o] (dW ay ad Z ++ [(o, .inl (ay 3, 1, .inr (.inl fo)))]) (fun v w => (∃ (m : Nat), ∃ (j : Nat), m < 2 ∧ ¬ Z.2.1 (1 + 5 * m) = 0 ∧ ¬ Z.2.1 (3 + 5 * m) = 0 ∧ Z.2.1 (2 + 5 * m) = nI j ∧ 1 ≤ j ∧ j ≤ Z.1 m ∧ mp = nI m ∧ v = some (.int 0) ∧ w = (dW ay ad (mU Z m (Z.1 m - 1) (shf (Z.2.2 (2 * m)) (j - 1) (Z.1 m)) (Z.2.1 (1 + 5 * m)) (nI (j - 1)) 0 (Z.2.2 (2 * m + 1)) (Z.1 (12 + m)) (Z.2.1 (4 + 5 * m)) (Z.2.1 (5 + 5 * m))) ++ [(o, .inl (ay 3, 1, .inr (.inl (vp_updL fo 0 ((nI (Z.1 m - 1) : Int32)).toInt64))))])) ∨ ((oob mp 0 1) ∧ v = some (.int 1) ∧ w = (dW ay ad Z ++ [(o, .inl (ay 3, 1, .inr (.inl fo)))])) ∨ ((∃ m, m < 2 ∧ mp = nI m ∧ ¬ (¬ Z.2.1 (1 + 5 * m) = 0 ∧ ¬ Z.2.1 (3 + 5 * m) = 0)) ∧ v = some (.int 2) ∧ w = (dW ay ad Z ++ [(o, .inl (ay 3, 1, .inr (.inl fo)))]))) := by
  refine jH_of l (by decide) [(0, .ref (ad 0)), (1, .int mp), (2, .ref o)] rfl rfl (fun p9 e9 s9 m9 a9 b9 me9 c9 A9 F hX hN htab => ?_)
  refine j_aload_n F 2 dL_takeOut_0 rfl ?_
  refine j_iconst F (v := 0) dL_takeOut_1 (by decide) ?_
  refine j_aload_n F 0 dL_takeOut_2 rfl ?_
  refine j_iload_n F 1 dL_takeOut_3 rfl ?_
  refine j_tryV F hX kL_73 (As := [.int mp]) (rest := [.int 0, .ref o]) (c_X9_takeOut l hfl D ay sa ad Z mp hI) 0 0 55 rfl rfl rfl rfl rfl rfl ⟨Nat.le_of_ble_eq_true rfl, Nat.le_of_ble_eq_true rfl⟩ dL_takeOut_4 (fun E w hx => ?_) (fun v w hw => ?_)
  · skip
    rcases hx with ⟨rfl, hc0, rfl⟩ | ⟨rfl, hc0, rfl⟩
    · skip
      refine ⟨rfl, (dW ay ad Z ++ [(o, .inl (ay 3, 1, .inr (.inl fo)))]), 12, rfl, (jCat_1 htab rfl (by decide) (F.2.2.2.2.1 _ gL_eIA) (va_Nw.use rfl hX.2.2.2.2.2.2.1)), fun q9 => ?_⟩
      refine j_astore_n F 3 [(3, .ref q9), (0, .ref (ad 0)), (1, .int mp), (2, .ref o)] dL_takeOut_12 rfl (by decide) rfl ?_
      refine j_iconst F (v := 1) dL_takeOut_13 (by decide) ?_
      exact j_iret F (Or.inr (Or.inl ⟨hc0, rfl, rfl⟩)) dL_takeOut_14 (Nat.le_of_ble_eq_true rfl) (Nat.le_of_ble_eq_true rfl)
    · skip
      refine ⟨rfl, (dW ay ad Z ++ [(o, .inl (ay 3, 1, .inr (.inl fo)))]), 15, rfl, (jCat_2 htab (by decide) (F.2.2.2.2.1 _ gL_eIA) hN.2.1 rfl (by decide) (F.2.2.2.2.1 _ gL_eIS) (va_Nw.use rfl hX.2.2.2.2.2.2.2.1)), fun q9 => ?_⟩
      refine j_astore_n F 3 [(3, .ref q9), (0, .ref (ad 0)), (1, .int mp), (2, .ref o)] dL_takeOut_15 rfl (by decide) rfl ?_
      refine j_iconst F (v := 2) dL_takeOut_16 (by decide) ?_
      exact j_iret F (Or.inr (Or.inr (⟨hc0, rfl, rfl⟩))) dL_takeOut_17 (Nat.le_of_ble_eq_true rfl) (Nat.le_of_ble_eq_true rfl)
  · skip
    obtain ⟨m, j, h_0, h_1, h_2, h_3, h_4, h_5, h_6, rfl, rfl⟩ := hw
    refine ⟨rfl, (dW ay ad (mU Z m (Z.1 m - 1) (shf (Z.2.2 (2 * m)) (j - 1) (Z.1 m)) (Z.2.1 (1 + 5 * m)) (nI (j - 1)) 0 (Z.2.2 (2 * m + 1)) (Z.1 (12 + m)) (Z.2.1 (4 + 5 * m)) (Z.2.1 (5 + 5 * m))) ++ [(o, .inl (ay 3, 1, .inr (.inl fo)))]), rfl, ?_⟩
    refine j_i2l F dL_takeOut_7 ?_
    refine j_last F 55 (dW ay ad (mU Z m (Z.1 m - 1) (shf (Z.2.2 (2 * m)) (j - 1) (Z.1 m)) (Z.2.1 (1 + 5 * m)) (nI (j - 1)) 0 (Z.2.2 (2 * m + 1)) (Z.1 (12 + m)) (Z.2.1 (4 + 5 * m)) (Z.2.1 (5 + 5 * m))) ++ [(o, .inl (ay 3, 1, .inr (.inl (vp_updL fo 0 (((nI (Z.1 m - 1)) : Int32).toInt64)))))]) 0 rfl rfl (by omega) (Nat.le_of_ble_eq_true rfl) rfl dL_takeOut_8 ?_
    refine j_goto F 18 dL_takeOut_9 (by decide) ?_
    refine j_iconst F (v := 0) dL_takeOut_18 (by decide) ?_
    exact j_iret F (Or.inl ⟨m, j, h_0, h_1, h_2, h_3, h_4, h_5, h_6, rfl, rfl⟩) dL_takeOut_19 (Nat.le_of_ble_eq_true rfl) (Nat.le_of_ble_eq_true rfl)

set_option maxHeartbeats 4000000 in
set_option maxRecDepth 100000 in
theorem h_request (l : Launch) (hfl : l.stackTraces = false) (D : va_G) (ay : Nat → ClassId) (sa : Nat → Nat) (ad : Nat → Nat) (Z : DS) (ky : Int32) (o : Nat) (fo : Nat → Int64) (hA : aI Z) : jH l yL_request (jwsH yL_request cL_request 4 (some .int) [(0, 9, 12, 13), (0, 9, 15, 69)]) 9 163 3 18 D ay sa [.ref (ad 0), .int ky, .ref o] (dW ay ad Z ++ [(o, .inl (ay 3, 1, .inr (.inl fo)))]) (fun v w => (∃ (y : Nat), y < 100 ∧ ky = nI y ∧ Z.1 14 < 1000 ∧ v = some (.int 0) ∧ w = (dW ay ad (askS Z (nI y)) ++ [(o, .inl (ay 3, 1, .inr (.inl (vp_updL fo 0 ((mskC Z (nI y) 8 : Int32)).toInt64))))])) ∨ ((oob ky 0 99) ∧ v = some (.int 1) ∧ w = (dW ay ad Z ++ [(o, .inl (ay 3, 1, .inr (.inl fo)))])) ∨ ((∃ y, y < 100 ∧ ky = nI y ∧ 1000 ≤ Z.1 14) ∧ v = some (.int 2) ∧ w = (dW ay ad Z ++ [(o, .inl (ay 3, 1, .inr (.inl fo)))]))) := by
  refine jH_of l (by decide) [(0, .ref (ad 0)), (1, .int ky), (2, .ref o)] rfl rfl (fun p9 e9 s9 m9 a9 b9 me9 c9 A9 F hX hN htab => ?_)
  refine j_aload_n F 2 dL_request_0 rfl ?_
  refine j_iconst F (v := 0) dL_request_1 (by decide) ?_
  refine j_aload_n F 0 dL_request_2 rfl ?_
  refine j_iload_n F 1 dL_request_3 rfl ?_
  refine j_tryV F hX kL_76 (As := [.int ky]) (rest := [.int 0, .ref o]) (c_X9_request l hfl D ay sa ad Z ky hA) 0 0 55 rfl rfl rfl rfl rfl rfl ⟨Nat.le_of_ble_eq_true rfl, Nat.le_of_ble_eq_true rfl⟩ dL_request_4 (fun E w hx => ?_) (fun v w hw => ?_)
  · skip
    rcases hx with ⟨rfl, hc0, rfl⟩ | ⟨rfl, hc0, rfl⟩
    · skip
      refine ⟨rfl, (dW ay ad Z ++ [(o, .inl (ay 3, 1, .inr (.inl fo)))]), 12, rfl, (jCat_1 htab rfl (by decide) (F.2.2.2.2.1 _ gL_eIA) (va_Nw.use rfl hX.2.2.2.2.2.2.1)), fun q9 => ?_⟩
      refine j_astore_n F 3 [(3, .ref q9), (0, .ref (ad 0)), (1, .int ky), (2, .ref o)] dL_request_12 rfl (by decide) rfl ?_
      refine j_iconst F (v := 1) dL_request_13 (by decide) ?_
      exact j_iret F (Or.inr (Or.inl ⟨hc0, rfl, rfl⟩)) dL_request_14 (Nat.le_of_ble_eq_true rfl) (Nat.le_of_ble_eq_true rfl)
    · skip
      refine ⟨rfl, (dW ay ad Z ++ [(o, .inl (ay 3, 1, .inr (.inl fo)))]), 15, rfl, (jCat_2 htab (by decide) (F.2.2.2.2.1 _ gL_eIA) hN.2.1 rfl (by decide) (F.2.2.2.2.1 _ gL_eIS) (va_Nw.use rfl hX.2.2.2.2.2.2.2.1)), fun q9 => ?_⟩
      refine j_astore_n F 3 [(3, .ref q9), (0, .ref (ad 0)), (1, .int ky), (2, .ref o)] dL_request_15 rfl (by decide) rfl ?_
      refine j_iconst F (v := 2) dL_request_16 (by decide) ?_
      exact j_iret F (Or.inr (Or.inr (⟨hc0, rfl, rfl⟩))) dL_request_17 (Nat.le_of_ble_eq_true rfl) (Nat.le_of_ble_eq_true rfl)
  · skip
    obtain ⟨y, h_0, h_1, h_2, rfl, rfl⟩ := hw
    refine ⟨rfl, (dW ay ad (askS Z (nI y)) ++ [(o, .inl (ay 3, 1, .inr (.inl fo)))]), rfl, ?_⟩
    refine j_i2l F dL_request_7 ?_
    refine j_last F 55 (dW ay ad (askS Z (nI y)) ++ [(o, .inl (ay 3, 1, .inr (.inl (vp_updL fo 0 (((mskC Z (nI y) 8) : Int32).toInt64)))))]) 0 rfl rfl (by omega) (Nat.le_of_ble_eq_true rfl) rfl dL_request_8 ?_
    refine j_goto F 18 dL_request_9 (by decide) ?_
    refine j_iconst F (v := 0) dL_request_18 (by decide) ?_
    exact j_iret F (Or.inl ⟨y, h_0, h_1, h_2, rfl, rfl⟩) dL_request_19 (Nat.le_of_ble_eq_true rfl) (Nat.le_of_ble_eq_true rfl)

set_option maxHeartbeats 4000000 in
set_option maxRecDepth 100000 in
theorem h_hits (l : Launch) (hfl : l.stackTraces = false) (D : va_G) (ay : Nat → ClassId) (sa : Nat → Nat) (ad : Nat → Nat) (Z : DS) (cx : Int32) (o : Nat) (fo : Nat → Int64) : jH l yL_hits (jwsH yL_hits cL_hits 4 (some .int) [(0, 9, 12, 13)]) 9 164 3 18 D ay sa [.ref (ad 0), .int cx, .ref o] (dW ay ad Z ++ [(o, .inl (ay 3, 1, .inr (.inl fo)))]) (fun v w => (∃ (i : Nat), i < 8 ∧ cx = nI (i + 1) ∧ v = some (.int 0) ∧ w = (dW ay ad Z ++ [(o, .inl (ay 3, 1, .inr (.inl (vp_updL fo 0 ((Z.2.1 (11 + i) : Int32)).toInt64))))])) ∨ ((oob cx 1 8) ∧ v = some (.int 1) ∧ w = (dW ay ad Z ++ [(o, .inl (ay 3, 1, .inr (.inl fo)))]))) := by
  refine jH_of l (by decide) [(0, .ref (ad 0)), (1, .int cx), (2, .ref o)] rfl rfl (fun p9 e9 s9 m9 a9 b9 me9 c9 A9 F hX hN htab => ?_)
  refine j_aload_n F 2 dL_hits_0 rfl ?_
  refine j_iconst F (v := 0) dL_hits_1 (by decide) ?_
  refine j_aload_n F 0 dL_hits_2 rfl ?_
  refine j_iload_n F 1 dL_hits_3 rfl ?_
  refine j_tryV F hX kL_79 (As := [.int cx]) (rest := [.int 0, .ref o]) (c_X9_hits l hfl D ay sa ad Z cx) 0 0 55 rfl rfl rfl rfl rfl rfl ⟨Nat.le_of_ble_eq_true rfl, Nat.le_of_ble_eq_true rfl⟩ dL_hits_4 (fun E w hx => ?_) (fun v w hw => ?_)
  · skip
    rcases hx with ⟨rfl, hc0, rfl⟩
    · skip
      refine ⟨rfl, (dW ay ad Z ++ [(o, .inl (ay 3, 1, .inr (.inl fo)))]), 12, rfl, (jCat_1 htab rfl (by decide) (F.2.2.2.2.1 _ gL_eIA) (va_Nw.use rfl hX.2.2.2.2.2.2.1)), fun q9 => ?_⟩
      refine j_astore_n F 3 [(3, .ref q9), (0, .ref (ad 0)), (1, .int cx), (2, .ref o)] dL_hits_12 rfl (by decide) rfl ?_
      refine j_iconst F (v := 1) dL_hits_13 (by decide) ?_
      exact j_iret F (Or.inr (⟨hc0, rfl, rfl⟩)) dL_hits_14 (Nat.le_of_ble_eq_true rfl) (Nat.le_of_ble_eq_true rfl)
  · skip
    obtain ⟨i, h_0, h_1, rfl, rfl⟩ := hw
    refine ⟨rfl, (dW ay ad Z ++ [(o, .inl (ay 3, 1, .inr (.inl fo)))]), rfl, ?_⟩
    refine j_i2l F dL_hits_7 ?_
    refine j_last F 55 (dW ay ad Z ++ [(o, .inl (ay 3, 1, .inr (.inl (vp_updL fo 0 (((Z.2.1 (11 + i)) : Int32).toInt64)))))]) 0 rfl rfl (by omega) (Nat.le_of_ble_eq_true rfl) rfl dL_hits_8 ?_
    refine j_goto F 15 dL_hits_9 (by decide) ?_
    refine j_iconst F (v := 0) dL_hits_15 (by decide) ?_
    exact j_iret F (Or.inl ⟨i, h_0, h_1, rfl, rfl⟩) dL_hits_16 (Nat.le_of_ble_eq_true rfl) (Nat.le_of_ble_eq_true rfl)

set_option maxHeartbeats 4000000 in
set_option maxRecDepth 100000 in
theorem h_cached (l : Launch) (hfl : l.stackTraces = false) (D : va_G) (ay : Nat → ClassId) (sa : Nat → Nat) (ad : Nat → Nat) (Z : DS) (cx : Int32) (o : Nat) (fo : Nat → Int64) : jH l yL_cached (jwsH yL_cached cL_cached 4 (some .int) [(0, 9, 12, 13)]) 9 164 3 18 D ay sa [.ref (ad 0), .int cx, .ref o] (dW ay ad Z ++ [(o, .inl (ay 3, 1, .inr (.inl fo)))]) (fun v w => (∃ (i : Nat), i < 8 ∧ cx = nI (i + 1) ∧ v = some (.int 0) ∧ w = (dW ay ad Z ++ [(o, .inl (ay 3, 1, .inr (.inl (vp_updL fo 0 ((nI (Z.1 (2 + i)) : Int32)).toInt64))))])) ∨ ((oob cx 1 8) ∧ v = some (.int 1) ∧ w = (dW ay ad Z ++ [(o, .inl (ay 3, 1, .inr (.inl fo)))]))) := by
  refine jH_of l (by decide) [(0, .ref (ad 0)), (1, .int cx), (2, .ref o)] rfl rfl (fun p9 e9 s9 m9 a9 b9 me9 c9 A9 F hX hN htab => ?_)
  refine j_aload_n F 2 dL_cached_0 rfl ?_
  refine j_iconst F (v := 0) dL_cached_1 (by decide) ?_
  refine j_aload_n F 0 dL_cached_2 rfl ?_
  refine j_iload_n F 1 dL_cached_3 rfl ?_
  refine j_tryV F hX kL_82 (As := [.int cx]) (rest := [.int 0, .ref o]) (c_X9_cached l hfl D ay sa ad Z cx) 0 0 55 rfl rfl rfl rfl rfl rfl ⟨Nat.le_of_ble_eq_true rfl, Nat.le_of_ble_eq_true rfl⟩ dL_cached_4 (fun E w hx => ?_) (fun v w hw => ?_)
  · skip
    rcases hx with ⟨rfl, hc0, rfl⟩
    · skip
      refine ⟨rfl, (dW ay ad Z ++ [(o, .inl (ay 3, 1, .inr (.inl fo)))]), 12, rfl, (jCat_1 htab rfl (by decide) (F.2.2.2.2.1 _ gL_eIA) (va_Nw.use rfl hX.2.2.2.2.2.2.1)), fun q9 => ?_⟩
      refine j_astore_n F 3 [(3, .ref q9), (0, .ref (ad 0)), (1, .int cx), (2, .ref o)] dL_cached_12 rfl (by decide) rfl ?_
      refine j_iconst F (v := 1) dL_cached_13 (by decide) ?_
      exact j_iret F (Or.inr (⟨hc0, rfl, rfl⟩)) dL_cached_14 (Nat.le_of_ble_eq_true rfl) (Nat.le_of_ble_eq_true rfl)
  · skip
    obtain ⟨i, h_0, h_1, rfl, rfl⟩ := hw
    refine ⟨rfl, (dW ay ad Z ++ [(o, .inl (ay 3, 1, .inr (.inl fo)))]), rfl, ?_⟩
    refine j_i2l F dL_cached_7 ?_
    refine j_last F 55 (dW ay ad Z ++ [(o, .inl (ay 3, 1, .inr (.inl (vp_updL fo 0 (((nI (Z.1 (2 + i))) : Int32).toInt64)))))]) 0 rfl rfl (by omega) (Nat.le_of_ble_eq_true rfl) rfl dL_cached_8 ?_
    refine j_goto F 15 dL_cached_9 (by decide) ?_
    refine j_iconst F (v := 0) dL_cached_15 (by decide) ?_
    exact j_iret F (Or.inl ⟨i, h_0, h_1, rfl, rfl⟩) dL_cached_16 (Nat.le_of_ble_eq_true rfl) (Nat.le_of_ble_eq_true rfl)

set_option maxHeartbeats 4000000 in
set_option maxRecDepth 100000 in
theorem h_isCached (l : Launch) (hfl : l.stackTraces = false) (D : va_G) (ay : Nat → ClassId) (sa : Nat → Nat) (ad : Nat → Nat) (Z : DS) (cx : Int32) (ky : Int32) (o : Nat) (fo : Nat → Int64) (hA : aI Z) : jH l yL_isCached (jwsH yL_isCached cL_isCached 5 (some .int) [(0, 17, 20, 13)]) 9 166 3 18 D ay sa [.ref (ad 0), .int cx, .int ky, .ref o] (dW ay ad Z ++ [(o, .inl (ay 3, 1, .inr (.inl fo)))]) (fun v w => (∃ (i : Nat), ∃ (y : Nat), i < 8 ∧ y < 100 ∧ cx = nI (i + 1) ∧ ky = nI y ∧ v = some (.int 0) ∧ w = (dW ay ad Z ++ [(o, .inl (ay 3, 1, .inr (.inl (vp_updL fo 0 (if (if fx (Z.2.2 (4 + i)) (nI y) (Z.1 (2 + i)) < Z.1 (2 + i) then 1 else 0 : Int32) = 0 then 0 else 1)))))])) ∨ ((oob cx 1 8 ∨ oob ky 0 99) ∧ v = some (.int 1) ∧ w = (dW ay ad Z ++ [(o, .inl (ay 3, 1, .inr (.inl fo)))]))) := by
  refine jH_of l (by decide) [(0, .ref (ad 0)), (1, .int cx), (2, .int ky), (3, .ref o)] rfl rfl (fun p9 e9 s9 m9 a9 b9 me9 c9 A9 F hX hN htab => ?_)
  refine j_aload_n F 3 dL_isCached_0 rfl ?_
  refine j_iconst F (v := 0) dL_isCached_1 (by decide) ?_
  refine j_aload_n F 0 dL_isCached_2 rfl ?_
  refine j_iload_n F 1 dL_isCached_3 rfl ?_
  refine j_iload_n F 2 dL_isCached_4 rfl ?_
  refine j_tryV F hX kL_85 (As := [.int cx, .int ky]) (rest := [.int 0, .ref o]) (c_X9_isCached l hfl D ay sa ad Z cx ky hA) 0 0 55 rfl rfl rfl rfl rfl rfl ⟨Nat.le_of_ble_eq_true rfl, Nat.le_of_ble_eq_true rfl⟩ dL_isCached_5 (fun E w hx => ?_) (fun v w hw => ?_)
  · skip
    rcases hx with ⟨rfl, hc0, rfl⟩
    · skip
      refine ⟨rfl, (dW ay ad Z ++ [(o, .inl (ay 3, 1, .inr (.inl fo)))]), 20, rfl, (jCat_1 htab rfl (by decide) (F.2.2.2.2.1 _ gL_eIA) (va_Nw.use rfl hX.2.2.2.2.2.2.1)), fun q9 => ?_⟩
      refine j_astore F 4 [(4, .ref q9), (0, .ref (ad 0)), (1, .int cx), (2, .int ky), (3, .ref o)] dL_isCached_20 (by decide) rfl ?_
      refine j_iconst F (v := 1) dL_isCached_22 (by decide) ?_
      exact j_iret F (Or.inr (⟨hc0, rfl, rfl⟩)) dL_isCached_23 (Nat.le_of_ble_eq_true rfl) (Nat.le_of_ble_eq_true rfl)
  · skip
    obtain ⟨i, y, h_0, h_1, h_2, h_3, rfl, rfl⟩ := hw
    refine ⟨rfl, (dW ay ad Z ++ [(o, .inl (ay 3, 1, .inr (.inl fo)))]), rfl, ?_⟩
    refine j_if_eq F 15 dL_isCached_8 (by decide) (fun c_8 => ?_) (fun c_8 => ?_)
    · skip
      refine j_lconst F (v := 0) dL_isCached_15 (by decide) ?_
      refine j_last F 55 (dW ay ad Z ++ [(o, .inl (ay 3, 1, .inr (.inl (vp_updL fo 0 0))))]) 0 rfl rfl (by omega) (Nat.le_of_ble_eq_true rfl) rfl dL_isCached_16 ?_
      refine j_goto F 24 dL_isCached_17 (by decide) ?_
      refine j_iconst F (v := 0) dL_isCached_24 (by decide) ?_
      exact j_iret F (Or.inl ⟨i, y, h_0, h_1, h_2, h_3, rfl, by rw [if_pos c_8]⟩) dL_isCached_25 (Nat.le_of_ble_eq_true rfl) (Nat.le_of_ble_eq_true rfl)
    · skip
      refine j_lconst F (v := 1) dL_isCached_11 (by decide) ?_
      refine j_goto F 16 dL_isCached_12 (by decide) ?_
      refine j_last F 55 (dW ay ad Z ++ [(o, .inl (ay 3, 1, .inr (.inl (vp_updL fo 0 1))))]) 0 rfl rfl (by omega) (Nat.le_of_ble_eq_true rfl) rfl dL_isCached_16 ?_
      refine j_goto F 24 dL_isCached_17 (by decide) ?_
      refine j_iconst F (v := 0) dL_isCached_24 (by decide) ?_
      exact j_iret F (Or.inl ⟨i, y, h_0, h_1, h_2, h_3, rfl, by rw [if_neg c_8]⟩) dL_isCached_25 (Nat.le_of_ble_eq_true rfl) (Nat.le_of_ble_eq_true rfl)

set_option maxHeartbeats 4000000 in
set_option maxRecDepth 100000 in
theorem h_cachedAt (l : Launch) (hfl : l.stackTraces = false) (D : va_G) (ay : Nat → ClassId) (sa : Nat → Nat) (ad : Nat → Nat) (Z : DS) (cx : Int32) (pc : Int32) (o : Nat) (fo : Nat → Int64) (hA : aI Z) : jH l yL_cachedAt (jwsH yL_cachedAt cL_cachedAt 5 (some .int) [(0, 10, 13, 13), (0, 10, 17, 48)]) 9 166 3 18 D ay sa [.ref (ad 0), .int cx, .int pc, .ref o] (dW ay ad Z ++ [(o, .inl (ay 3, 1, .inr (.inl fo)))]) (fun v w => (∃ (i : Nat), ∃ (j : Nat), i < 8 ∧ j < Z.1 (2 + i) ∧ cx = nI (i + 1) ∧ pc = nI j ∧ v = some (.int 0) ∧ w = (dW ay ad Z ++ [(o, .inl (ay 3, 1, .inr (.inl (vp_updL fo 0 ((Z.2.2 (4 + i) j : Int32)).toInt64))))])) ∨ ((oob cx 1 8) ∧ v = some (.int 1) ∧ w = (dW ay ad Z ++ [(o, .inl (ay 3, 1, .inr (.inl fo)))])) ∨ ((∃ i, i < 8 ∧ cx = nI (i + 1) ∧ oop pc (Z.1 (2 + i))) ∧ v = some (.int 2) ∧ w = (dW ay ad Z ++ [(o, .inl (ay 3, 1, .inr (.inl fo)))]))) := by
  refine jH_of l (by decide) [(0, .ref (ad 0)), (1, .int cx), (2, .int pc), (3, .ref o)] rfl rfl (fun p9 e9 s9 m9 a9 b9 me9 c9 A9 F hX hN htab => ?_)
  refine j_aload_n F 3 dL_cachedAt_0 rfl ?_
  refine j_iconst F (v := 0) dL_cachedAt_1 (by decide) ?_
  refine j_aload_n F 0 dL_cachedAt_2 rfl ?_
  refine j_iload_n F 1 dL_cachedAt_3 rfl ?_
  refine j_iload_n F 2 dL_cachedAt_4 rfl ?_
  refine j_tryV F hX kL_88 (As := [.int cx, .int pc]) (rest := [.int 0, .ref o]) (c_X9_cachedAt l hfl D ay sa ad Z cx pc hA) 0 0 55 rfl rfl rfl rfl rfl rfl ⟨Nat.le_of_ble_eq_true rfl, Nat.le_of_ble_eq_true rfl⟩ dL_cachedAt_5 (fun E w hx => ?_) (fun v w hw => ?_)
  · skip
    rcases hx with ⟨rfl, hc0, rfl⟩ | ⟨rfl, hc0, rfl⟩
    · skip
      refine ⟨rfl, (dW ay ad Z ++ [(o, .inl (ay 3, 1, .inr (.inl fo)))]), 13, rfl, (jCat_1 htab rfl (by decide) (F.2.2.2.2.1 _ gL_eIA) (va_Nw.use rfl hX.2.2.2.2.2.2.1)), fun q9 => ?_⟩
      refine j_astore F 4 [(4, .ref q9), (0, .ref (ad 0)), (1, .int cx), (2, .int pc), (3, .ref o)] dL_cachedAt_13 (by decide) rfl ?_
      refine j_iconst F (v := 1) dL_cachedAt_15 (by decide) ?_
      exact j_iret F (Or.inr (Or.inl ⟨hc0, rfl, rfl⟩)) dL_cachedAt_16 (Nat.le_of_ble_eq_true rfl) (Nat.le_of_ble_eq_true rfl)
    · skip
      refine ⟨rfl, (dW ay ad Z ++ [(o, .inl (ay 3, 1, .inr (.inl fo)))]), 17, rfl, (jCat_2 htab (by decide) (F.2.2.2.2.1 _ gL_eIA) hN.1 rfl (by decide) (F.2.2.2.2.1 _ gL_eIO) (va_Nw.use rfl hX.2.2.2.2.2.2.2.2.1)), fun q9 => ?_⟩
      refine j_astore F 4 [(4, .ref q9), (0, .ref (ad 0)), (1, .int cx), (2, .int pc), (3, .ref o)] dL_cachedAt_17 (by decide) rfl ?_
      refine j_iconst F (v := 2) dL_cachedAt_19 (by decide) ?_
      exact j_iret F (Or.inr (Or.inr (⟨hc0, rfl, rfl⟩))) dL_cachedAt_20 (Nat.le_of_ble_eq_true rfl) (Nat.le_of_ble_eq_true rfl)
  · skip
    obtain ⟨i, j, h_0, h_1, h_2, h_3, rfl, rfl⟩ := hw
    refine ⟨rfl, (dW ay ad Z ++ [(o, .inl (ay 3, 1, .inr (.inl fo)))]), rfl, ?_⟩
    refine j_i2l F dL_cachedAt_8 ?_
    refine j_last F 55 (dW ay ad Z ++ [(o, .inl (ay 3, 1, .inr (.inl (vp_updL fo 0 (((Z.2.2 (4 + i) j) : Int32).toInt64)))))]) 0 rfl rfl (by omega) (Nat.le_of_ble_eq_true rfl) rfl dL_cachedAt_9 ?_
    refine j_goto F 21 dL_cachedAt_10 (by decide) ?_
    refine j_iconst F (v := 0) dL_cachedAt_21 (by decide) ?_
    exact j_iret F (Or.inl ⟨i, j, h_0, h_1, h_2, h_3, rfl, rfl⟩) dL_cachedAt_22 (Nat.le_of_ble_eq_true rfl) (Nat.le_of_ble_eq_true rfl)

set_option maxHeartbeats 4000000 in
set_option maxRecDepth 100000 in
theorem h_requestAt (l : Launch) (hfl : l.stackTraces = false) (D : va_G) (ay : Nat → ClassId) (sa : Nat → Nat) (ad : Nat → Nat) (Z : DS) (pc : Int32) (o : Nat) (fo : Nat → Int64) (hL : Z.1 14 ≤ 1000) : jH l yL_requestAt (jwsH yL_requestAt cL_requestAt 4 (some .int) [(0, 9, 12, 48)]) 8 142 3 18 D ay sa [.ref (ad 0), .int pc, .ref o] (dW ay ad Z ++ [(o, .inl (ay 3, 1, .inr (.inl fo)))]) (fun v w => (∃ (j : Nat), j < Z.1 14 ∧ pc = nI j ∧ v = some (.int 0) ∧ w = (dW ay ad Z ++ [(o, .inl (ay 3, 1, .inr (.inl (vp_updL fo 0 ((Z.2.2 12 j : Int32)).toInt64))))])) ∨ ((oop pc (Z.1 14)) ∧ v = some (.int 1) ∧ w = (dW ay ad Z ++ [(o, .inl (ay 3, 1, .inr (.inl fo)))]))) := by
  refine jH_of l (by decide) [(0, .ref (ad 0)), (1, .int pc), (2, .ref o)] rfl rfl (fun p9 e9 s9 m9 a9 b9 me9 c9 A9 F hX hN htab => ?_)
  refine j_aload_n F 2 dL_requestAt_0 rfl ?_
  refine j_iconst F (v := 0) dL_requestAt_1 (by decide) ?_
  refine j_aload_n F 0 dL_requestAt_2 rfl ?_
  refine j_iload_n F 1 dL_requestAt_3 rfl ?_
  refine j_tryV F hX kL_91 (As := [.int pc]) (rest := [.int 0, .ref o]) (c_X9_requestAt l hfl D ay sa ad Z pc hL) 0 0 55 rfl rfl rfl rfl rfl rfl ⟨Nat.le_of_ble_eq_true rfl, Nat.le_of_ble_eq_true rfl⟩ dL_requestAt_4 (fun E w hx => ?_) (fun v w hw => ?_)
  · skip
    rcases hx with ⟨rfl, hc0, rfl⟩
    · skip
      refine ⟨rfl, (dW ay ad Z ++ [(o, .inl (ay 3, 1, .inr (.inl fo)))]), 12, rfl, (jCat_1 htab rfl (by decide) (F.2.2.2.2.1 _ gL_eIO) (va_Nw.use rfl hX.2.2.2.2.2.2.2.2.1)), fun q9 => ?_⟩
      refine j_astore_n F 3 [(3, .ref q9), (0, .ref (ad 0)), (1, .int pc), (2, .ref o)] dL_requestAt_12 rfl (by decide) rfl ?_
      refine j_iconst F (v := 1) dL_requestAt_13 (by decide) ?_
      exact j_iret F (Or.inr (⟨hc0, rfl, rfl⟩)) dL_requestAt_14 (Nat.le_of_ble_eq_true rfl) (Nat.le_of_ble_eq_true rfl)
  · skip
    obtain ⟨j, h_0, h_1, rfl, rfl⟩ := hw
    refine ⟨rfl, (dW ay ad Z ++ [(o, .inl (ay 3, 1, .inr (.inl fo)))]), rfl, ?_⟩
    refine j_i2l F dL_requestAt_7 ?_
    refine j_last F 55 (dW ay ad Z ++ [(o, .inl (ay 3, 1, .inr (.inl (vp_updL fo 0 (((Z.2.2 12 j) : Int32).toInt64)))))]) 0 rfl rfl (by omega) (Nat.le_of_ble_eq_true rfl) rfl dL_requestAt_8 ?_
    refine j_goto F 15 dL_requestAt_9 (by decide) ?_
    refine j_iconst F (v := 0) dL_requestAt_15 (by decide) ?_
    exact j_iret F (Or.inl ⟨j, h_0, h_1, rfl, rfl⟩) dL_requestAt_16 (Nat.le_of_ble_eq_true rfl) (Nat.le_of_ble_eq_true rfl)

set_option maxHeartbeats 4000000 in
set_option maxRecDepth 100000 in
theorem h_distanceOf (l : Launch) (hfl : l.stackTraces = false) (D : va_G) (ay : Nat → ClassId) (sa : Nat → Nat) (ad : Nat → Nat) (Z : DS) (pc : Int32) (o : Nat) (fo : Nat → Int64) (hL : Z.1 14 ≤ 1000) : jH l yL_distanceOf (jwsH yL_distanceOf cL_distanceOf 4 (some .int) [(0, 9, 12, 48)]) 8 142 3 18 D ay sa [.ref (ad 0), .int pc, .ref o] (dW ay ad Z ++ [(o, .inl (ay 3, 1, .inr (.inl fo)))]) (fun v w => (∃ (j : Nat), j < Z.1 14 ∧ pc = nI j ∧ v = some (.int 0) ∧ w = (dW ay ad Z ++ [(o, .inl (ay 3, 1, .inr (.inl (vp_updL fo 0 ((Z.2.2 13 j : Int32)).toInt64))))])) ∨ ((oop pc (Z.1 14)) ∧ v = some (.int 1) ∧ w = (dW ay ad Z ++ [(o, .inl (ay 3, 1, .inr (.inl fo)))]))) := by
  refine jH_of l (by decide) [(0, .ref (ad 0)), (1, .int pc), (2, .ref o)] rfl rfl (fun p9 e9 s9 m9 a9 b9 me9 c9 A9 F hX hN htab => ?_)
  refine j_aload_n F 2 dL_distanceOf_0 rfl ?_
  refine j_iconst F (v := 0) dL_distanceOf_1 (by decide) ?_
  refine j_aload_n F 0 dL_distanceOf_2 rfl ?_
  refine j_iload_n F 1 dL_distanceOf_3 rfl ?_
  refine j_tryV F hX kL_94 (As := [.int pc]) (rest := [.int 0, .ref o]) (c_X9_distanceOf l hfl D ay sa ad Z pc hL) 0 0 55 rfl rfl rfl rfl rfl rfl ⟨Nat.le_of_ble_eq_true rfl, Nat.le_of_ble_eq_true rfl⟩ dL_distanceOf_4 (fun E w hx => ?_) (fun v w hw => ?_)
  · skip
    rcases hx with ⟨rfl, hc0, rfl⟩
    · skip
      refine ⟨rfl, (dW ay ad Z ++ [(o, .inl (ay 3, 1, .inr (.inl fo)))]), 12, rfl, (jCat_1 htab rfl (by decide) (F.2.2.2.2.1 _ gL_eIO) (va_Nw.use rfl hX.2.2.2.2.2.2.2.2.1)), fun q9 => ?_⟩
      refine j_astore_n F 3 [(3, .ref q9), (0, .ref (ad 0)), (1, .int pc), (2, .ref o)] dL_distanceOf_12 rfl (by decide) rfl ?_
      refine j_iconst F (v := 1) dL_distanceOf_13 (by decide) ?_
      exact j_iret F (Or.inr (⟨hc0, rfl, rfl⟩)) dL_distanceOf_14 (Nat.le_of_ble_eq_true rfl) (Nat.le_of_ble_eq_true rfl)
  · skip
    obtain ⟨j, h_0, h_1, rfl, rfl⟩ := hw
    refine ⟨rfl, (dW ay ad Z ++ [(o, .inl (ay 3, 1, .inr (.inl fo)))]), rfl, ?_⟩
    refine j_i2l F dL_distanceOf_7 ?_
    refine j_last F 55 (dW ay ad Z ++ [(o, .inl (ay 3, 1, .inr (.inl (vp_updL fo 0 (((Z.2.2 13 j) : Int32).toInt64)))))]) 0 rfl rfl (by omega) (Nat.le_of_ble_eq_true rfl) rfl dL_distanceOf_8 ?_
    refine j_goto F 15 dL_distanceOf_9 (by decide) ?_
    refine j_iconst F (v := 0) dL_distanceOf_15 (by decide) ?_
    exact j_iret F (Or.inl ⟨j, h_0, h_1, rfl, rfl⟩) dL_distanceOf_16 (Nat.le_of_ble_eq_true rfl) (Nat.le_of_ble_eq_true rfl)

set_option maxHeartbeats 4000000 in
set_option maxRecDepth 100000 in
theorem h_nearer (l : Launch) (hfl : l.stackTraces = false) (D : va_G) (ay : Nat → ClassId) (sa : Nat → Nat) (ad : Nat → Nat) (Z : DS) (ds : Int32) (o : Nat) (fo : Nat → Int64) (hL : Z.1 14 ≤ 1000) : jH l yL_nearer (jwsH yL_nearer cL_nearer 4 (some .int) [(0, 9, 12, 13)]) 8 143 3 18 D ay sa [.ref (ad 0), .int ds, .ref o] (dW ay ad Z ++ [(o, .inl (ay 3, 1, .inr (.inl fo)))]) (fun v w => (¬ oob ds 0 100 ∧ v = some (.int 0) ∧ w = (dW ay ad Z ++ [(o, .inl (ay 3, 1, .inr (.inl (vp_updL fo 0 ((nI (cb (Z.2.2 13) ds (Z.1 14)) : Int32)).toInt64))))])) ∨ ((oob ds 0 100) ∧ v = some (.int 1) ∧ w = (dW ay ad Z ++ [(o, .inl (ay 3, 1, .inr (.inl fo)))]))) := by
  refine jH_of l (by decide) [(0, .ref (ad 0)), (1, .int ds), (2, .ref o)] rfl rfl (fun p9 e9 s9 m9 a9 b9 me9 c9 A9 F hX hN htab => ?_)
  refine j_aload_n F 2 dL_nearer_0 rfl ?_
  refine j_iconst F (v := 0) dL_nearer_1 (by decide) ?_
  refine j_aload_n F 0 dL_nearer_2 rfl ?_
  refine j_iload_n F 1 dL_nearer_3 rfl ?_
  refine j_tryV F hX kL_97 (As := [.int ds]) (rest := [.int 0, .ref o]) (c_X9_nearer l hfl D ay sa ad Z ds hL) 0 0 55 rfl rfl rfl rfl rfl rfl ⟨Nat.le_of_ble_eq_true rfl, Nat.le_of_ble_eq_true rfl⟩ dL_nearer_4 (fun E w hx => ?_) (fun v w hw => ?_)
  · skip
    rcases hx with ⟨rfl, hc0, rfl⟩
    · skip
      refine ⟨rfl, (dW ay ad Z ++ [(o, .inl (ay 3, 1, .inr (.inl fo)))]), 12, rfl, (jCat_1 htab rfl (by decide) (F.2.2.2.2.1 _ gL_eIA) (va_Nw.use rfl hX.2.2.2.2.2.2.1)), fun q9 => ?_⟩
      refine j_astore_n F 3 [(3, .ref q9), (0, .ref (ad 0)), (1, .int ds), (2, .ref o)] dL_nearer_12 rfl (by decide) rfl ?_
      refine j_iconst F (v := 1) dL_nearer_13 (by decide) ?_
      exact j_iret F (Or.inr (⟨hc0, rfl, rfl⟩)) dL_nearer_14 (Nat.le_of_ble_eq_true rfl) (Nat.le_of_ble_eq_true rfl)
  · skip
    obtain ⟨h_0, rfl, rfl⟩ := hw
    refine ⟨rfl, (dW ay ad Z ++ [(o, .inl (ay 3, 1, .inr (.inl fo)))]), rfl, ?_⟩
    refine j_i2l F dL_nearer_7 ?_
    refine j_last F 55 (dW ay ad Z ++ [(o, .inl (ay 3, 1, .inr (.inl (vp_updL fo 0 (((nI (cb (Z.2.2 13) ds (Z.1 14))) : Int32).toInt64)))))]) 0 rfl rfl (by omega) (Nat.le_of_ble_eq_true rfl) rfl dL_nearer_8 ?_
    refine j_goto F 15 dL_nearer_9 (by decide) ?_
    refine j_iconst F (v := 0) dL_nearer_15 (by decide) ?_
    exact j_iret F (Or.inl ⟨h_0, rfl, rfl⟩) dL_nearer_16 (Nat.le_of_ble_eq_true rfl) (Nat.le_of_ble_eq_true rfl)

set_option maxHeartbeats 4000000 in
set_option maxRecDepth 100000 in
theorem h_leastCache (l : Launch) (hfl : l.stackTraces = false) (D : va_G) (ay : Nat → ClassId) (sa : Nat → Nat) (ad : Nat → Nat) (Z : DS) (ht : Int32) (o : Nat) (fo : Nat → Int64) : jH l yL_leastCache (jwsH yL_leastCache cL_leastCache 4 (some .int) [(0, 9, 12, 13)]) 8 144 3 18 D ay sa [.ref (ad 0), .int ht, .ref o] (dW ay ad Z ++ [(o, .inl (ay 3, 1, .inr (.inl fo)))]) (fun v w => (¬ oob ht 0 2147483647 ∧ v = some (.int 0) ∧ w = (dW ay ad Z ++ [(o, .inl (ay 3, 1, .inr (.inl (vp_updL fo 0 ((if fx (lcF Z ht) 1 8 < 8 then nI (fx (lcF Z ht) 1 8 + 1) else -1 : Int32)).toInt64))))])) ∨ ((oob ht 0 2147483647) ∧ v = some (.int 1) ∧ w = (dW ay ad Z ++ [(o, .inl (ay 3, 1, .inr (.inl fo)))]))) := by
  refine jH_of l (by decide) [(0, .ref (ad 0)), (1, .int ht), (2, .ref o)] rfl rfl (fun p9 e9 s9 m9 a9 b9 me9 c9 A9 F hX hN htab => ?_)
  refine j_aload_n F 2 dL_leastCache_0 rfl ?_
  refine j_iconst F (v := 0) dL_leastCache_1 (by decide) ?_
  refine j_aload_n F 0 dL_leastCache_2 rfl ?_
  refine j_iload_n F 1 dL_leastCache_3 rfl ?_
  refine j_tryV F hX kL_100 (As := [.int ht]) (rest := [.int 0, .ref o]) (c_X9_leastCache l hfl D ay sa ad Z ht) 0 0 55 rfl rfl rfl rfl rfl rfl ⟨Nat.le_of_ble_eq_true rfl, Nat.le_of_ble_eq_true rfl⟩ dL_leastCache_4 (fun E w hx => ?_) (fun v w hw => ?_)
  · skip
    rcases hx with ⟨rfl, hc0, rfl⟩
    · skip
      refine ⟨rfl, (dW ay ad Z ++ [(o, .inl (ay 3, 1, .inr (.inl fo)))]), 12, rfl, (jCat_1 htab rfl (by decide) (F.2.2.2.2.1 _ gL_eIA) (va_Nw.use rfl hX.2.2.2.2.2.2.1)), fun q9 => ?_⟩
      refine j_astore_n F 3 [(3, .ref q9), (0, .ref (ad 0)), (1, .int ht), (2, .ref o)] dL_leastCache_12 rfl (by decide) rfl ?_
      refine j_iconst F (v := 1) dL_leastCache_13 (by decide) ?_
      exact j_iret F (Or.inr (⟨hc0, rfl, rfl⟩)) dL_leastCache_14 (Nat.le_of_ble_eq_true rfl) (Nat.le_of_ble_eq_true rfl)
  · skip
    obtain ⟨h_0, rfl, rfl⟩ := hw
    refine ⟨rfl, (dW ay ad Z ++ [(o, .inl (ay 3, 1, .inr (.inl fo)))]), rfl, ?_⟩
    refine j_i2l F dL_leastCache_7 ?_
    refine j_last F 55 (dW ay ad Z ++ [(o, .inl (ay 3, 1, .inr (.inl (vp_updL fo 0 (((if fx (lcF Z ht) 1 8 < 8 then nI (fx (lcF Z ht) 1 8 + 1) else -1) : Int32).toInt64)))))]) 0 rfl rfl (by omega) (Nat.le_of_ble_eq_true rfl) rfl dL_leastCache_8 ?_
    refine j_goto F 15 dL_leastCache_9 (by decide) ?_
    refine j_iconst F (v := 0) dL_leastCache_15 (by decide) ?_
    exact j_iret F (Or.inl ⟨h_0, rfl, rfl⟩) dL_leastCache_16 (Nat.le_of_ble_eq_true rfl) (Nat.le_of_ble_eq_true rfl)

set_option maxHeartbeats 4000000 in
set_option maxRecDepth 100000 in
theorem h_append (l : Launch) (hfl : l.stackTraces = false) (D : va_G) (ay : Nat → ClassId) (sa : Nat → Nat) (ad : Nat → Nat) (Z : DS) (a1 : Int32) (a2 : Int32) (a3 : Int32) (a4 : Int32) (a5 : Int32) (o : Nat) (fo : Nat → Int64) (ht : Z.1 15 ≤ 300) : jH l yL_append (jwsH yL_append cL_append 8 (some .int) [(0, 16, 19, 69)]) 7 127 3 18 D ay sa [.ref (ad 0), .int a1, .int a2, .int a3, .int a4, .int a5, .ref o] (dW ay ad Z ++ [(o, .inl (ay 3, 1, .inr (.inl fo)))]) (fun v w => (Z.1 15 + (bcnt a1 4 + bcnt a2 4 + bcnt a3 4 + bcnt a4 4 + bcnt a5 4) ≤ 300 ∧ v = some (.int 0) ∧ w = (dW ay ad (apd (apd (apd (apd (apd Z a1) a2) a3) a4) a5) ++ [(o, .inl (ay 3, 1, .inr (.inl (vp_updL fo 0 ((nI ((apd (apd (apd (apd (apd Z a1) a2) a3) a4) a5).1 15) : Int32)).toInt64))))])) ∨ ((300 < Z.1 15 + (bcnt a1 4 + bcnt a2 4 + bcnt a3 4 + bcnt a4 4 + bcnt a5 4)) ∧ v = some (.int 1) ∧ w = (dW ay ad Z ++ [(o, .inl (ay 3, 1, .inr (.inl fo)))]))) := by
  refine jH_of l (by decide) [(0, .ref (ad 0)), (1, .int a1), (2, .int a2), (3, .int a3), (4, .int a4), (5, .int a5), (6, .ref o)] rfl rfl (fun p9 e9 s9 m9 a9 b9 me9 c9 A9 F hX hN htab => ?_)
  refine j_aload F 6 dL_append_0 rfl ?_
  refine j_iconst F (v := 0) dL_append_2 (by decide) ?_
  refine j_aload_n F 0 dL_append_3 rfl ?_
  refine j_iload_n F 1 dL_append_4 rfl ?_
  refine j_iload_n F 2 dL_append_5 rfl ?_
  refine j_iload_n F 3 dL_append_6 rfl ?_
  refine j_iload F 4 dL_append_7 rfl ?_
  refine j_iload F 5 dL_append_9 rfl ?_
  refine j_tryV F hX kL_103 (As := [.int a1, .int a2, .int a3, .int a4, .int a5]) (rest := [.int 0, .ref o]) (c_X9_append l hfl D ay sa ad Z a1 a2 a3 a4 a5 ht) 0 0 55 rfl rfl rfl rfl rfl rfl ⟨Nat.le_of_ble_eq_true rfl, Nat.le_of_ble_eq_true rfl⟩ dL_append_11 (fun E w hx => ?_) (fun v w hw => ?_)
  · skip
    rcases hx with ⟨rfl, hc0, rfl⟩
    · skip
      refine ⟨rfl, (dW ay ad Z ++ [(o, .inl (ay 3, 1, .inr (.inl fo)))]), 19, rfl, (jCat_1 htab rfl (by decide) (F.2.2.2.2.1 _ gL_eIS) (va_Nw.use rfl hX.2.2.2.2.2.2.2.1)), fun q9 => ?_⟩
      refine j_astore F 7 [(7, .ref q9), (0, .ref (ad 0)), (1, .int a1), (2, .int a2), (3, .int a3), (4, .int a4), (5, .int a5), (6, .ref o)] dL_append_19 (by decide) rfl ?_
      refine j_iconst F (v := 1) dL_append_21 (by decide) ?_
      exact j_iret F (Or.inr (⟨hc0, rfl, rfl⟩)) dL_append_22 (Nat.le_of_ble_eq_true rfl) (Nat.le_of_ble_eq_true rfl)
  · skip
    obtain ⟨h_0, rfl, rfl⟩ := hw
    refine ⟨rfl, (dW ay ad (apd (apd (apd (apd (apd Z a1) a2) a3) a4) a5) ++ [(o, .inl (ay 3, 1, .inr (.inl fo)))]), rfl, ?_⟩
    refine j_i2l F dL_append_14 ?_
    refine j_last F 55 (dW ay ad (apd (apd (apd (apd (apd Z a1) a2) a3) a4) a5) ++ [(o, .inl (ay 3, 1, .inr (.inl (vp_updL fo 0 (((nI ((apd (apd (apd (apd (apd Z a1) a2) a3) a4) a5).1 15)) : Int32).toInt64)))))]) 0 rfl rfl (by omega) (Nat.le_of_ble_eq_true rfl) rfl dL_append_15 ?_
    refine j_goto F 23 dL_append_16 (by decide) ?_
    refine j_iconst F (v := 0) dL_append_23 (by decide) ?_
    exact j_iret F (Or.inl ⟨h_0, rfl, rfl⟩) dL_append_24 (Nat.le_of_ble_eq_true rfl) (Nat.le_of_ble_eq_true rfl)

set_option maxHeartbeats 4000000 in
set_option maxRecDepth 100000 in
theorem h_run (l : Launch) (hfl : l.stackTraces = false) (D : va_G) (ay : Nat → ClassId) (sa : Nat → Nat) (ad : Nat → Nat) (Z : DS) (o : Nat) (fo : Nat → Int64) (ht : Z.1 15 ≤ 300) (hA : aI Z) (hX1 : xI Z) (hV : (prs (Z.2.2 15) (Z.1 15) (Z.1 15) (sk (Z.2.2 15) (Z.1 15) 0) 0).2 = -1 → stV (((prs (Z.2.2 15) (Z.1 15) (Z.1 15) (sk (Z.2.2 15) (Z.1 15) 0) 0).1).foldl pst (0, Z.2.2 16, Z.2.2 17, Z.2.2 18, Z.2.2 19, 0))) : jH l yL_run (jwsH yL_run cL_run 3 (some .int) [(0, 8, 11, 69), (0, 8, 14, 13)]) 7 153 3 18 D ay sa [.ref (ad 0), .ref o] (dW ay ad Z ++ [(o, .inl (ay 3, 1, .inr (.inl fo)))]) (fun v w => (∃ (pos : Nat), ∃ (P : PS), Z.1 14 ≤ 800 ∧ (prs (Z.2.2 15) (Z.1 15) (Z.1 15) (sk (Z.2.2 15) (Z.1 15) 0) 0).2 = -1 ∧ P = ((prs (Z.2.2 15) (Z.1 15) (Z.1 15) (sk (Z.2.2 15) (Z.1 15) 0) 0).1).foldl pst (0, Z.2.2 16, Z.2.2 17, Z.2.2 18, Z.2.2 19, 0) ∧ v = some (.int 0) ∧ w = (dW ay ad (runF (tU (eU (rU Z pos P) (-1)) 0 (Z.2.2 15)) P.2.1 P.2.2.1 P.1) ++ [(o, .inl (ay 3, 1, .inr (.inl (vp_updL fo 0 ((nI P.1 : Int32)).toInt64))))])) ∨ ((800 < Z.1 14) ∧ v = some (.int 1) ∧ w = (dW ay ad Z ++ [(o, .inl (ay 3, 1, .inr (.inl fo)))])) ∨ (∃ (pos : Nat), ∃ (P : PS), (Z.1 14 ≤ 800) ∧ (¬ (prs (Z.2.2 15) (Z.1 15) (Z.1 15) (sk (Z.2.2 15) (Z.1 15) 0) 0).2 = -1) ∧ v = some (.int 2) ∧ w = (dW ay ad (tU (eU (rU Z pos P) ((prs (Z.2.2 15) (Z.1 15) (Z.1 15) (sk (Z.2.2 15) (Z.1 15) 0) 0).2)) 0 (Z.2.2 15)) ++ [(o, .inl (ay 3, 1, .inr (.inl fo)))]))) := by
  refine jH_of l (by decide) [(0, .ref (ad 0)), (1, .ref o)] rfl rfl (fun p9 e9 s9 m9 a9 b9 me9 c9 A9 F hX hN htab => ?_)
  refine j_aload_n F 1 dL_run_0 rfl ?_
  refine j_iconst F (v := 0) dL_run_1 (by decide) ?_
  refine j_aload_n F 0 dL_run_2 rfl ?_
  refine j_tryV F hX kL_107 (As := []) (rest := [.int 0, .ref o]) (c_X9_run l hfl D ay sa ad Z ht hA hX1 hV) 0 0 55 rfl rfl rfl rfl rfl rfl ⟨Nat.le_of_ble_eq_true rfl, Nat.le_of_ble_eq_true rfl⟩ dL_run_3 (fun E w hx => ?_) (fun v w hw => ?_)
  · skip
    rcases hx with ⟨rfl, hc0, rfl⟩ | ⟨rfl, pos, P, hc0, hc1, rfl⟩
    · skip
      refine ⟨rfl, (dW ay ad Z ++ [(o, .inl (ay 3, 1, .inr (.inl fo)))]), 11, rfl, (jCat_1 htab rfl (by decide) (F.2.2.2.2.1 _ gL_eIS) (va_Nw.use rfl hX.2.2.2.2.2.2.2.1)), fun q9 => ?_⟩
      refine j_astore_n F 2 [(2, .ref q9), (0, .ref (ad 0)), (1, .ref o)] dL_run_11 rfl (by decide) rfl ?_
      refine j_iconst F (v := 1) dL_run_12 (by decide) ?_
      exact j_iret F (Or.inr (Or.inl ⟨hc0, rfl, rfl⟩)) dL_run_13 (Nat.le_of_ble_eq_true rfl) (Nat.le_of_ble_eq_true rfl)
    · skip
      refine ⟨rfl, (dW ay ad (tU (eU (rU Z pos P) ((prs (Z.2.2 15) (Z.1 15) (Z.1 15) (sk (Z.2.2 15) (Z.1 15) 0) 0).2)) 0 (Z.2.2 15)) ++ [(o, .inl (ay 3, 1, .inr (.inl fo)))]), 14, rfl, (jCat_2 htab (by decide) (F.2.2.2.2.1 _ gL_eIS) hN.2.2.2.2 rfl (by decide) (F.2.2.2.2.1 _ gL_eIA) (va_Nw.use rfl hX.2.2.2.2.2.2.1)), fun q9 => ?_⟩
      refine j_astore_n F 2 [(2, .ref q9), (0, .ref (ad 0)), (1, .ref o)] dL_run_14 rfl (by decide) rfl ?_
      refine j_iconst F (v := 2) dL_run_15 (by decide) ?_
      exact j_iret F (Or.inr (Or.inr (⟨pos, P, hc0, hc1, rfl, rfl⟩))) dL_run_16 (Nat.le_of_ble_eq_true rfl) (Nat.le_of_ble_eq_true rfl)
  · skip
    obtain ⟨pos, P, h_0, h_1, h_2, rfl, rfl⟩ := hw
    refine ⟨rfl, (dW ay ad (runF (tU (eU (rU Z pos P) (-1)) 0 (Z.2.2 15)) P.2.1 P.2.2.1 P.1) ++ [(o, .inl (ay 3, 1, .inr (.inl fo)))]), rfl, ?_⟩
    refine j_i2l F dL_run_6 ?_
    refine j_last F 55 (dW ay ad (runF (tU (eU (rU Z pos P) (-1)) 0 (Z.2.2 15)) P.2.1 P.2.2.1 P.1) ++ [(o, .inl (ay 3, 1, .inr (.inl (vp_updL fo 0 (((nI P.1) : Int32).toInt64)))))]) 0 rfl rfl (by omega) (Nat.le_of_ble_eq_true rfl) rfl dL_run_7 ?_
    refine j_goto F 17 dL_run_8 (by decide) ?_
    refine j_iconst F (v := 0) dL_run_17 (by decide) ?_
    exact j_iret F (Or.inl ⟨pos, P, h_0, h_1, h_2, rfl, rfl⟩) dL_run_18 (Nat.le_of_ble_eq_true rfl) (Nat.le_of_ble_eq_true rfl)

set_option maxHeartbeats 4000000 in
set_option maxRecDepth 100000 in
theorem h_setFrames (l : Launch) (hfl : l.stackTraces = false) (D : va_G) (ay : Nat → ClassId) (sa : Nat → Nat) (ad : Nat → Nat) (Z : DS) (fm : Int32) (o : Nat) (fo : Nat → Int64) : jH l yL_setFrames (jwsH yL_setFrames cL_setFrames 4 (some .int) [(0, 9, 12, 13)]) 8 143 3 18 D ay sa [.ref (ad 0), .int fm, .ref o] (dW ay ad Z ++ [(o, .inl (ay 3, 1, .inr (.inl fo)))]) (fun v w => (∃ (b : Nat), 1 ≤ b ∧ b ≤ 8 ∧ fm = nI b ∧ v = some (.int 0) ∧ w = (dW ay ad (xU Z b (Z.2.1 19) (Z.2.1 20) ((Z.2.1 21) + nI (wC (Z.2.2 22) 16)) (wD (Z.2.2 21) (Z.2.2 20) (Z.2.2 22) 16) (Z.2.2 21) (wY (Z.2.2 22) 16) 0 (Z.2.2 23)) ++ [(o, .inl (ay 3, 1, .inr (.inl (vp_updL fo 0 ((nI (wC (Z.2.2 22) 16) : Int32)).toInt64))))])) ∨ ((oob fm 1 8) ∧ v = some (.int 1) ∧ w = (dW ay ad Z ++ [(o, .inl (ay 3, 1, .inr (.inl fo)))]))) := by
  refine jH_of l (by decide) [(0, .ref (ad 0)), (1, .int fm), (2, .ref o)] rfl rfl (fun p9 e9 s9 m9 a9 b9 me9 c9 A9 F hX hN htab => ?_)
  refine j_aload_n F 2 dL_setFrames_0 rfl ?_
  refine j_iconst F (v := 0) dL_setFrames_1 (by decide) ?_
  refine j_aload_n F 0 dL_setFrames_2 rfl ?_
  refine j_iload_n F 1 dL_setFrames_3 rfl ?_
  refine j_tryV F hX kL_111 (As := [.int fm]) (rest := [.int 0, .ref o]) (c_X9_setFrames l hfl D ay sa ad Z fm) 0 0 55 rfl rfl rfl rfl rfl rfl ⟨Nat.le_of_ble_eq_true rfl, Nat.le_of_ble_eq_true rfl⟩ dL_setFrames_4 (fun E w hx => ?_) (fun v w hw => ?_)
  · skip
    rcases hx with ⟨rfl, hc0, rfl⟩
    · skip
      refine ⟨rfl, (dW ay ad Z ++ [(o, .inl (ay 3, 1, .inr (.inl fo)))]), 12, rfl, (jCat_1 htab rfl (by decide) (F.2.2.2.2.1 _ gL_eIA) (va_Nw.use rfl hX.2.2.2.2.2.2.1)), fun q9 => ?_⟩
      refine j_astore_n F 3 [(3, .ref q9), (0, .ref (ad 0)), (1, .int fm), (2, .ref o)] dL_setFrames_12 rfl (by decide) rfl ?_
      refine j_iconst F (v := 1) dL_setFrames_13 (by decide) ?_
      exact j_iret F (Or.inr (⟨hc0, rfl, rfl⟩)) dL_setFrames_14 (Nat.le_of_ble_eq_true rfl) (Nat.le_of_ble_eq_true rfl)
  · skip
    obtain ⟨b, h_0, h_1, h_2, rfl, rfl⟩ := hw
    refine ⟨rfl, (dW ay ad (xU Z b (Z.2.1 19) (Z.2.1 20) ((Z.2.1 21) + nI (wC (Z.2.2 22) 16)) (wD (Z.2.2 21) (Z.2.2 20) (Z.2.2 22) 16) (Z.2.2 21) (wY (Z.2.2 22) 16) 0 (Z.2.2 23)) ++ [(o, .inl (ay 3, 1, .inr (.inl fo)))]), rfl, ?_⟩
    refine j_i2l F dL_setFrames_7 ?_
    refine j_last F 55 (dW ay ad (xU Z b (Z.2.1 19) (Z.2.1 20) ((Z.2.1 21) + nI (wC (Z.2.2 22) 16)) (wD (Z.2.2 21) (Z.2.2 20) (Z.2.2 22) 16) (Z.2.2 21) (wY (Z.2.2 22) 16) 0 (Z.2.2 23)) ++ [(o, .inl (ay 3, 1, .inr (.inl (vp_updL fo 0 (((nI (wC (Z.2.2 22) 16)) : Int32).toInt64)))))]) 0 rfl rfl (by omega) (Nat.le_of_ble_eq_true rfl) rfl dL_setFrames_8 ?_
    refine j_goto F 15 dL_setFrames_9 (by decide) ?_
    refine j_iconst F (v := 0) dL_setFrames_15 (by decide) ?_
    exact j_iret F (Or.inl ⟨b, h_0, h_1, h_2, rfl, rfl⟩) dL_setFrames_16 (Nat.le_of_ble_eq_true rfl) (Nat.le_of_ble_eq_true rfl)

set_option maxHeartbeats 4000000 in
set_option maxRecDepth 100000 in
theorem h_wordAt (l : Launch) (hfl : l.stackTraces = false) (D : va_G) (ay : Nat → ClassId) (sa : Nat → Nat) (ad : Nat → Nat) (Z : DS) (ax : Int32) (o : Nat) (fo : Nat → Int64) (hM : kI (Z.1 11) (Z.2.2 23)) : jH l yL_wordAt (jwsH yL_wordAt cL_wordAt 4 (some .int) [(0, 9, 12, 13)]) 8 143 3 18 D ay sa [.ref (ad 0), .int ax, .ref o] (dW ay ad Z ++ [(o, .inl (ay 3, 1, .inr (.inl fo)))]) (fun v w => (∃ (a : Nat), a < 64 ∧ ax = nI a ∧ v = some (.int 0) ∧ w = (dW ay ad Z ++ [(o, .inl (ay 3, 1, .inr (.inl (vp_updL fo 0 ((if fx (Z.2.2 23) (nI (a / 4)) (Z.1 11) < Z.1 11 then Z.2.2 21 a else Z.2.2 20 a : Int32)).toInt64))))])) ∨ ((oob ax 0 63) ∧ v = some (.int 1) ∧ w = (dW ay ad Z ++ [(o, .inl (ay 3, 1, .inr (.inl fo)))]))) := by
  refine jH_of l (by decide) [(0, .ref (ad 0)), (1, .int ax), (2, .ref o)] rfl rfl (fun p9 e9 s9 m9 a9 b9 me9 c9 A9 F hX hN htab => ?_)
  refine j_aload_n F 2 dL_wordAt_0 rfl ?_
  refine j_iconst F (v := 0) dL_wordAt_1 (by decide) ?_
  refine j_aload_n F 0 dL_wordAt_2 rfl ?_
  refine j_iload_n F 1 dL_wordAt_3 rfl ?_
  refine j_tryV F hX kL_114 (As := [.int ax]) (rest := [.int 0, .ref o]) (c_X9_wordAt l hfl D ay sa ad Z ax hM) 0 0 55 rfl rfl rfl rfl rfl rfl ⟨Nat.le_of_ble_eq_true rfl, Nat.le_of_ble_eq_true rfl⟩ dL_wordAt_4 (fun E w hx => ?_) (fun v w hw => ?_)
  · skip
    rcases hx with ⟨rfl, hc0, rfl⟩
    · skip
      refine ⟨rfl, (dW ay ad Z ++ [(o, .inl (ay 3, 1, .inr (.inl fo)))]), 12, rfl, (jCat_1 htab rfl (by decide) (F.2.2.2.2.1 _ gL_eIA) (va_Nw.use rfl hX.2.2.2.2.2.2.1)), fun q9 => ?_⟩
      refine j_astore_n F 3 [(3, .ref q9), (0, .ref (ad 0)), (1, .int ax), (2, .ref o)] dL_wordAt_12 rfl (by decide) rfl ?_
      refine j_iconst F (v := 1) dL_wordAt_13 (by decide) ?_
      exact j_iret F (Or.inr (⟨hc0, rfl, rfl⟩)) dL_wordAt_14 (Nat.le_of_ble_eq_true rfl) (Nat.le_of_ble_eq_true rfl)
  · skip
    obtain ⟨a, h_0, h_1, rfl, rfl⟩ := hw
    refine ⟨rfl, (dW ay ad Z ++ [(o, .inl (ay 3, 1, .inr (.inl fo)))]), rfl, ?_⟩
    refine j_i2l F dL_wordAt_7 ?_
    refine j_last F 55 (dW ay ad Z ++ [(o, .inl (ay 3, 1, .inr (.inl (vp_updL fo 0 (((if fx (Z.2.2 23) (nI (a / 4)) (Z.1 11) < Z.1 11 then Z.2.2 21 a else Z.2.2 20 a) : Int32).toInt64)))))]) 0 rfl rfl (by omega) (Nat.le_of_ble_eq_true rfl) rfl dL_wordAt_8 ?_
    refine j_goto F 15 dL_wordAt_9 (by decide) ?_
    refine j_iconst F (v := 0) dL_wordAt_15 (by decide) ?_
    exact j_iret F (Or.inl ⟨a, h_0, h_1, rfl, rfl⟩) dL_wordAt_16 (Nat.le_of_ble_eq_true rfl) (Nat.le_of_ble_eq_true rfl)

set_option maxHeartbeats 4000000 in
set_option maxRecDepth 100000 in
theorem h_discAt (l : Launch) (hfl : l.stackTraces = false) (D : va_G) (ay : Nat → ClassId) (sa : Nat → Nat) (ad : Nat → Nat) (Z : DS) (ax : Int32) (o : Nat) (fo : Nat → Int64) : jH l yL_discAt (jwsH yL_discAt cL_discAt 4 (some .int) [(0, 9, 12, 13)]) 8 143 3 18 D ay sa [.ref (ad 0), .int ax, .ref o] (dW ay ad Z ++ [(o, .inl (ay 3, 1, .inr (.inl fo)))]) (fun v w => (∃ (a : Nat), a < 64 ∧ ax = nI a ∧ v = some (.int 0) ∧ w = (dW ay ad Z ++ [(o, .inl (ay 3, 1, .inr (.inl (vp_updL fo 0 ((Z.2.2 20 a : Int32)).toInt64))))])) ∨ ((oob ax 0 63) ∧ v = some (.int 1) ∧ w = (dW ay ad Z ++ [(o, .inl (ay 3, 1, .inr (.inl fo)))]))) := by
  refine jH_of l (by decide) [(0, .ref (ad 0)), (1, .int ax), (2, .ref o)] rfl rfl (fun p9 e9 s9 m9 a9 b9 me9 c9 A9 F hX hN htab => ?_)
  refine j_aload_n F 2 dL_discAt_0 rfl ?_
  refine j_iconst F (v := 0) dL_discAt_1 (by decide) ?_
  refine j_aload_n F 0 dL_discAt_2 rfl ?_
  refine j_iload_n F 1 dL_discAt_3 rfl ?_
  refine j_tryV F hX kL_117 (As := [.int ax]) (rest := [.int 0, .ref o]) (c_X9_discAt l hfl D ay sa ad Z ax) 0 0 55 rfl rfl rfl rfl rfl rfl ⟨Nat.le_of_ble_eq_true rfl, Nat.le_of_ble_eq_true rfl⟩ dL_discAt_4 (fun E w hx => ?_) (fun v w hw => ?_)
  · skip
    rcases hx with ⟨rfl, hc0, rfl⟩
    · skip
      refine ⟨rfl, (dW ay ad Z ++ [(o, .inl (ay 3, 1, .inr (.inl fo)))]), 12, rfl, (jCat_1 htab rfl (by decide) (F.2.2.2.2.1 _ gL_eIA) (va_Nw.use rfl hX.2.2.2.2.2.2.1)), fun q9 => ?_⟩
      refine j_astore_n F 3 [(3, .ref q9), (0, .ref (ad 0)), (1, .int ax), (2, .ref o)] dL_discAt_12 rfl (by decide) rfl ?_
      refine j_iconst F (v := 1) dL_discAt_13 (by decide) ?_
      exact j_iret F (Or.inr (⟨hc0, rfl, rfl⟩)) dL_discAt_14 (Nat.le_of_ble_eq_true rfl) (Nat.le_of_ble_eq_true rfl)
  · skip
    obtain ⟨a, h_0, h_1, rfl, rfl⟩ := hw
    refine ⟨rfl, (dW ay ad Z ++ [(o, .inl (ay 3, 1, .inr (.inl fo)))]), rfl, ?_⟩
    refine j_i2l F dL_discAt_7 ?_
    refine j_last F 55 (dW ay ad Z ++ [(o, .inl (ay 3, 1, .inr (.inl (vp_updL fo 0 (((Z.2.2 20 a) : Int32).toInt64)))))]) 0 rfl rfl (by omega) (Nat.le_of_ble_eq_true rfl) rfl dL_discAt_8 ?_
    refine j_goto F 15 dL_discAt_9 (by decide) ?_
    refine j_iconst F (v := 0) dL_discAt_15 (by decide) ?_
    exact j_iret F (Or.inl ⟨a, h_0, h_1, rfl, rfl⟩) dL_discAt_16 (Nat.le_of_ble_eq_true rfl) (Nat.le_of_ble_eq_true rfl)

set_option maxHeartbeats 4000000 in
set_option maxRecDepth 100000 in
theorem h_residentAt (l : Launch) (hfl : l.stackTraces = false) (D : va_G) (ay : Nat → ClassId) (sa : Nat → Nat) (ad : Nat → Nat) (Z : DS) (pc : Int32) (o : Nat) (fo : Nat → Int64) (hM : kI (Z.1 11) (Z.2.2 23)) : jH l yL_residentAt (jwsH yL_residentAt cL_residentAt 4 (some .int) [(0, 9, 12, 48)]) 8 142 3 18 D ay sa [.ref (ad 0), .int pc, .ref o] (dW ay ad Z ++ [(o, .inl (ay 3, 1, .inr (.inl fo)))]) (fun v w => (∃ (j : Nat), j < Z.1 11 ∧ pc = nI j ∧ v = some (.int 0) ∧ w = (dW ay ad Z ++ [(o, .inl (ay 3, 1, .inr (.inl (vp_updL fo 0 ((Z.2.2 23 j : Int32)).toInt64))))])) ∨ ((oop pc (Z.1 11)) ∧ v = some (.int 1) ∧ w = (dW ay ad Z ++ [(o, .inl (ay 3, 1, .inr (.inl fo)))]))) := by
  refine jH_of l (by decide) [(0, .ref (ad 0)), (1, .int pc), (2, .ref o)] rfl rfl (fun p9 e9 s9 m9 a9 b9 me9 c9 A9 F hX hN htab => ?_)
  refine j_aload_n F 2 dL_residentAt_0 rfl ?_
  refine j_iconst F (v := 0) dL_residentAt_1 (by decide) ?_
  refine j_aload_n F 0 dL_residentAt_2 rfl ?_
  refine j_iload_n F 1 dL_residentAt_3 rfl ?_
  refine j_tryV F hX kL_120 (As := [.int pc]) (rest := [.int 0, .ref o]) (c_X9_residentAt l hfl D ay sa ad Z pc hM) 0 0 55 rfl rfl rfl rfl rfl rfl ⟨Nat.le_of_ble_eq_true rfl, Nat.le_of_ble_eq_true rfl⟩ dL_residentAt_4 (fun E w hx => ?_) (fun v w hw => ?_)
  · skip
    rcases hx with ⟨rfl, hc0, rfl⟩
    · skip
      refine ⟨rfl, (dW ay ad Z ++ [(o, .inl (ay 3, 1, .inr (.inl fo)))]), 12, rfl, (jCat_1 htab rfl (by decide) (F.2.2.2.2.1 _ gL_eIO) (va_Nw.use rfl hX.2.2.2.2.2.2.2.2.1)), fun q9 => ?_⟩
      refine j_astore_n F 3 [(3, .ref q9), (0, .ref (ad 0)), (1, .int pc), (2, .ref o)] dL_residentAt_12 rfl (by decide) rfl ?_
      refine j_iconst F (v := 1) dL_residentAt_13 (by decide) ?_
      exact j_iret F (Or.inr (⟨hc0, rfl, rfl⟩)) dL_residentAt_14 (Nat.le_of_ble_eq_true rfl) (Nat.le_of_ble_eq_true rfl)
  · skip
    obtain ⟨j, h_0, h_1, rfl, rfl⟩ := hw
    refine ⟨rfl, (dW ay ad Z ++ [(o, .inl (ay 3, 1, .inr (.inl fo)))]), rfl, ?_⟩
    refine j_i2l F dL_residentAt_7 ?_
    refine j_last F 55 (dW ay ad Z ++ [(o, .inl (ay 3, 1, .inr (.inl (vp_updL fo 0 (((Z.2.2 23 j) : Int32).toInt64)))))]) 0 rfl rfl (by omega) (Nat.le_of_ble_eq_true rfl) rfl dL_residentAt_8 ?_
    refine j_goto F 15 dL_residentAt_9 (by decide) ?_
    refine j_iconst F (v := 0) dL_residentAt_15 (by decide) ?_
    exact j_iret F (Or.inl ⟨j, h_0, h_1, rfl, rfl⟩) dL_residentAt_16 (Nat.le_of_ble_eq_true rfl) (Nat.le_of_ble_eq_true rfl)

set_option maxHeartbeats 4000000 in
set_option maxRecDepth 100000 in
theorem h_isDirty (l : Launch) (hfl : l.stackTraces = false) (D : va_G) (ay : Nat → ClassId) (sa : Nat → Nat) (ad : Nat → Nat) (Z : DS) (px : Int32) (o : Nat) (fo : Nat → Int64) : jH l yL_isDirty (jwsH yL_isDirty cL_isDirty 4 (some .int) [(0, 16, 19, 13)]) 8 143 3 18 D ay sa [.ref (ad 0), .int px, .ref o] (dW ay ad Z ++ [(o, .inl (ay 3, 1, .inr (.inl fo)))]) (fun v w => (∃ (p : Nat), p < 16 ∧ px = nI p ∧ v = some (.int 0) ∧ w = (dW ay ad Z ++ [(o, .inl (ay 3, 1, .inr (.inl (vp_updL fo 0 (if (if Z.2.2 22 p = 0 then 0 else 1 : Int32) = 0 then 0 else 1)))))])) ∨ ((oob px 0 15) ∧ v = some (.int 1) ∧ w = (dW ay ad Z ++ [(o, .inl (ay 3, 1, .inr (.inl fo)))]))) := by
  refine jH_of l (by decide) [(0, .ref (ad 0)), (1, .int px), (2, .ref o)] rfl rfl (fun p9 e9 s9 m9 a9 b9 me9 c9 A9 F hX hN htab => ?_)
  refine j_aload_n F 2 dL_isDirty_0 rfl ?_
  refine j_iconst F (v := 0) dL_isDirty_1 (by decide) ?_
  refine j_aload_n F 0 dL_isDirty_2 rfl ?_
  refine j_iload_n F 1 dL_isDirty_3 rfl ?_
  refine j_tryV F hX kL_123 (As := [.int px]) (rest := [.int 0, .ref o]) (c_X9_isDirty l hfl D ay sa ad Z px) 0 0 55 rfl rfl rfl rfl rfl rfl ⟨Nat.le_of_ble_eq_true rfl, Nat.le_of_ble_eq_true rfl⟩ dL_isDirty_4 (fun E w hx => ?_) (fun v w hw => ?_)
  · skip
    rcases hx with ⟨rfl, hc0, rfl⟩
    · skip
      refine ⟨rfl, (dW ay ad Z ++ [(o, .inl (ay 3, 1, .inr (.inl fo)))]), 19, rfl, (jCat_1 htab rfl (by decide) (F.2.2.2.2.1 _ gL_eIA) (va_Nw.use rfl hX.2.2.2.2.2.2.1)), fun q9 => ?_⟩
      refine j_astore_n F 3 [(3, .ref q9), (0, .ref (ad 0)), (1, .int px), (2, .ref o)] dL_isDirty_19 rfl (by decide) rfl ?_
      refine j_iconst F (v := 1) dL_isDirty_20 (by decide) ?_
      exact j_iret F (Or.inr (⟨hc0, rfl, rfl⟩)) dL_isDirty_21 (Nat.le_of_ble_eq_true rfl) (Nat.le_of_ble_eq_true rfl)
  · skip
    obtain ⟨p, h_0, h_1, rfl, rfl⟩ := hw
    refine ⟨rfl, (dW ay ad Z ++ [(o, .inl (ay 3, 1, .inr (.inl fo)))]), rfl, ?_⟩
    refine j_if_eq F 14 dL_isDirty_7 (by decide) (fun c_7 => ?_) (fun c_7 => ?_)
    · skip
      refine j_lconst F (v := 0) dL_isDirty_14 (by decide) ?_
      refine j_last F 55 (dW ay ad Z ++ [(o, .inl (ay 3, 1, .inr (.inl (vp_updL fo 0 0))))]) 0 rfl rfl (by omega) (Nat.le_of_ble_eq_true rfl) rfl dL_isDirty_15 ?_
      refine j_goto F 22 dL_isDirty_16 (by decide) ?_
      refine j_iconst F (v := 0) dL_isDirty_22 (by decide) ?_
      exact j_iret F (Or.inl ⟨p, h_0, h_1, rfl, by rw [if_pos c_7]⟩) dL_isDirty_23 (Nat.le_of_ble_eq_true rfl) (Nat.le_of_ble_eq_true rfl)
    · skip
      refine j_lconst F (v := 1) dL_isDirty_10 (by decide) ?_
      refine j_goto F 15 dL_isDirty_11 (by decide) ?_
      refine j_last F 55 (dW ay ad Z ++ [(o, .inl (ay 3, 1, .inr (.inl (vp_updL fo 0 1))))]) 0 rfl rfl (by omega) (Nat.le_of_ble_eq_true rfl) rfl dL_isDirty_15 ?_
      refine j_goto F 22 dL_isDirty_16 (by decide) ?_
      refine j_iconst F (v := 0) dL_isDirty_22 (by decide) ?_
      exact j_iret F (Or.inl ⟨p, h_0, h_1, rfl, by rw [if_neg c_7]⟩) dL_isDirty_23 (Nat.le_of_ble_eq_true rfl) (Nat.le_of_ble_eq_true rfl)

set_option maxHeartbeats 4000000 in
set_option maxRecDepth 100000 in
theorem h_hitShare (l : Launch) (hfl : l.stackTraces = false) (D : va_G) (ay : Nat → ClassId) (sa : Nat → Nat) (ad : Nat → Nat) (Z : DS) (cx : Int32) (o : Nat) (fd : Nat → UInt64) (hA : aI Z) : jH l yL_hitShare (jwsH yL_hitShare cL_hitShare 4 (some .int) [(0, 9, 12, 13)]) 9 166 3 18 D ay sa [.ref (ad 0), .int cx, .ref o] ((o, .inl (ay 4, 1, .inr (.inr (.inr (.inl fd))))) :: dW ay ad Z) (fun v w => (∃ (i : Nat), i < 8 ∧ cx = nI (i + 1) ∧ v = some (.int 0) ∧ w = ((o, .inl (ay 4, 1, .inr (.inr (.inr (.inl (vf_upd fd 0 (FP.f2d (if Z.1 14 = 0 then FP.fconst0 else FP.fdiv (FP.i2f (Z.2.1 (11 + i))) (FP.i2f (nI (Z.1 14))))))))))) :: dW ay ad Z)) ∨ ((oob cx 1 8) ∧ v = some (.int 1) ∧ w = ((o, .inl (ay 4, 1, .inr (.inr (.inr (.inl fd))))) :: dW ay ad Z))) := by
  refine jH_of l (by decide) [(0, .ref (ad 0)), (1, .int cx), (2, .ref o)] rfl rfl (fun p9 e9 s9 m9 a9 b9 me9 c9 A9 F hX hN htab => ?_)
  have hz9 : ∀ i : Nat, FP.Core.fIsNaN (if Z.1 14 = 0 then FP.fconst0 else FP.fdiv (FP.i2f (Z.2.1 (11 + i))) (FP.i2f (nI (Z.1 14)))) = false := fun i => by
    split
    · decide
    · next h => exact fp_fdiv _ (fun e => h ((nI_eq (b := 0) (by have := hA.2.2; omega) (by decide)).mp e))
  refine j_aload_n F 2 dL_hitShare_0 rfl ?_
  refine j_iconst F (v := 0) dL_hitShare_1 (by decide) ?_
  refine j_aload_n F 0 dL_hitShare_2 rfl ?_
  refine j_iload_n F 1 dL_hitShare_3 rfl ?_
  refine j_tryV F hX kL_126 (As := [.int cx]) (rest := [.int 0, .ref o]) (c_X9_hitShare l hfl D ay sa ad Z cx hA) 1 1 55 rfl rfl rfl rfl rfl rfl ⟨Nat.le_of_ble_eq_true rfl, Nat.le_of_ble_eq_true rfl⟩ dL_hitShare_4 (fun E w hx => ?_) (fun v w hw => ?_)
  · skip
    rcases hx with ⟨rfl, hc0, rfl⟩
    · skip
      refine ⟨rfl, ((o, .inl (ay 4, 1, .inr (.inr (.inr (.inl fd))))) :: dW ay ad Z), 12, rfl, (jCat_1 htab rfl (by decide) (F.2.2.2.2.1 _ gL_eIA) (va_Nw.use rfl hX.2.2.2.2.2.2.1)), fun q9 => ?_⟩
      refine j_astore_n F 3 [(3, .ref q9), (0, .ref (ad 0)), (1, .int cx), (2, .ref o)] dL_hitShare_12 rfl (by decide) rfl ?_
      refine j_iconst F (v := 1) dL_hitShare_13 (by decide) ?_
      exact j_iret F (Or.inr (⟨hc0, rfl, rfl⟩)) dL_hitShare_14 (Nat.le_of_ble_eq_true rfl) (Nat.le_of_ble_eq_true rfl)
  · skip
    obtain ⟨i, h_0, h_1, rfl, rfl⟩ := hw
    refine ⟨rfl, ((o, .inl (ay 4, 1, .inr (.inr (.inr (.inl fd))))) :: dW ay ad Z), rfl, ?_⟩
    refine j_f2d F dL_hitShare_7 (fp_n64 (fp_f2d (hz9 _))) ?_
    refine j_dast F 0 ((o, .inl (ay 4, 1, .inr (.inr (.inr (.inl (vf_upd fd 0 (FP.f2d (if Z.1 14 = 0 then FP.fconst0 else FP.fdiv (FP.i2f (Z.2.1 (11 + i))) (FP.i2f (nI (Z.1 14))))))))))) :: dW ay ad Z) 0 rfl rfl (by omega) (Nat.le_of_ble_eq_true rfl) rfl dL_hitShare_8 ?_
    refine j_goto F 15 dL_hitShare_9 (by decide) ?_
    refine j_iconst F (v := 0) dL_hitShare_15 (by decide) ?_
    exact j_iret F (Or.inl ⟨i, h_0, h_1, rfl, rfl⟩) dL_hitShare_16 (Nat.le_of_ble_eq_true rfl) (Nat.le_of_ble_eq_true rfl)

